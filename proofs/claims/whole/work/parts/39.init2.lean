/-! ===== DarkRoom.<init> ===== -/
def W0 : Wd := (fun _ => (-1, 0, 0, fun _ => 0), fun _ _ => 0)
def S0 : St := ((fun _ => W0, 0, 0, fun _ => false, fun _ => 0), (0, fun _ => 0, fun _ => 0, fun _ => 0, fun _ => 0, fun _ _ => 0), (fun _ => 0, 0))
def pc0 (r j : Nat) : Nat := if j < 8 then r + 112 + 2 * j else if j = 8 then r + 4 else r + 11 + 5 * (j - 9)
def mc0 (r j : Nat) : Nat := if j < 6 then r + 128 + 2 * j else if j = 6 then r + 6 else r + 13 + 5 * (j - 7)
theorem I0 (r : Nat) : RmI r (pc0 r) (mc0 r) := by
  refine ⟨fun j hj => ?_, fun i j hi hj e => ?_, fun j hj => ?_, fun i j hi hj e => ?_⟩
  · unfold pc0 PH
    split
    · omega
    · split <;> omega
  · unfold pc0 at e
    split at e <;> split at e <;> (try split at e) <;> (try split at e) <;> omega
  · unfold mc0 MH
    split
    · omega
    · split <;> omega
  · unfold mc0 at e
    split at e <;> split at e <;> (try split at e) <;> (try split at e) <;> omega
theorem okW0 : okW W0 := ⟨fun p _ => Or.inl ⟨rfl, rfl, rfl⟩, fun m _ y _ => by show 0 < 65536; decide⟩
theorem wf0 : wfH S0.1 ∧ wfT S0.2.1 := ⟨⟨Nat.le_refl _, by decide, fun j hj => absurd hj (Nat.not_lt_zero _), fun j hj => absurd hj (Nat.not_lt_zero _), fun _ _ => okW0⟩, by decide, fun i hi => absurd hi (Nat.not_lt_zero _), fun i hi => absurd hi (by show ¬ (0 : Int32) = 5; decide)⟩
theorem lt_rr {r a b c : Nat} (h : c < r + a) (e : a ≤ b) : c < r + b := Nat.lt_of_lt_of_le h (Nat.add_le_add_left e r)
theorem lt_r {r b c : Nat} (a : Nat) (e : c = r + a) (h : a < b) : c < r + b := by omega
theorem ne_r {r c : Nat} (a : Nat) (e : c = r + a) (h : 0 < a) : c ≠ r := by omega
section MkR
variable {X : gX} {d : Nat} {h : gk_H} {Q : Option Value → gk_H → Prop} {r : Nat}
theorem room_S0 {f1 f2 f3 : Nat → Option Nat} {pl cr am cs cl gb : Nat → Int32} {wt : Nat → Bool}
    (e0 : h.1 r = some (rmO r 0 (r + 4) (r + 6))) (e1 : h.1 (r + 1) = some (cR X 2 8 f1)) (e1' : ∀ j, j < 8 → f1 j = some (r + 112 + 2 * j)) (e2 : h.1 (r + 2) = some (cR X 3 6 f2)) (e2' : ∀ j, j < 6 → f2 j = some (r + 128 + 2 * j)) (e3 : h.1 (r + 3) = some (cR X 4 24 f3)) (e4 : isPic X h (r + 4) (-1) 0 0 (fun _ => 0)) (e6 : isMk X h (r + 6) (fun _ => 0)) (e8 : isHy X h (r + 8) 0 0 0) (e10 : ∀ i, i < 16 → actAt X h (r + 8 + 2 + 5 * i)) (e90 : isBn X h (r + 90) gb) (e90' : isBt X h (r + 90)) (e101 : isFd X h (r + 101) pl wt 0) (e104 : isTn X h (r + 104) cr am) (e107 : isSm X h (r + 107) cs cl 0) (e110 : isTp X h (r + 110) (fun _ => 0) 0) (eP : ∀ j, j < 8 → isPic X h (r + 112 + 2 * j) (-1) 0 0 (fun _ => 0)) (eM : ∀ j, j < 6 → isMk X h (r + 128 + 2 * j) (fun _ => 0)) (hz : h.2 = r + 160) : Room X h r (r + 160) S0 := by
  have p8 : pc0 r 8 = r + 4 := rfl
  have m6 : mc0 r 6 = r + 6 := rfl
  have ea : ∀ i, i < 16 → actAt X h (r + 10 + 5 * i) := fun i hi => by have := e10 i hi; rw [show r + 8 + 2 + 5 * i = r + 10 + 5 * i by omega] at this; exact this
  refine ⟨Nat.le_refl _, pc0 r, mc0 r, ⟨⟨0, fun _ => (-1, 0, 0, fun _ => 0), fun _ _ => 0, fun _ => 0, fun _ => 0, ⟨by rw [p8, m6]; exact e0, ⟨f1, e1, fun p hp => ?_⟩, ⟨f2, e2, fun p hp => ?_⟩, ⟨f3, e3, fun p hp => absurd hp (Nat.not_lt_zero _)⟩, e8, by decide, fun i hi => ?_⟩, ⟨fun j hj n => ?_, fun j hj n => ?_⟩, ⟨fun p hp => rfl, fun m hm => rfl, fun j hj => absurd hj (Nat.not_lt_zero _)⟩⟩, I0 r, fun i hi => absurd hi (Nat.not_lt_zero _), hz, by omega, wf0.1, wf0.2⟩, ⟨(-1, 0, 0, fun _ => 0), by rw [p8]; exact e4⟩, ⟨fun _ => 0, by rw [m6]; exact e6⟩, ⟨⟨_, e90⟩, e90', ⟨_, _, _, e101⟩, ⟨_, _, e104⟩, _, _, _, e107⟩, e110⟩
  · rw [e1' p hp]; unfold pc0; rw [if_pos hp]
  · rw [e2' p hp]; unfold mc0; rw [if_pos hp]
  · rw [show pc0 r (9 + i) = r + 10 + 5 * i + 1 by unfold pc0; rw [if_neg (by omega), if_neg (by omega)]; omega, show mc0 r (7 + i) = r + 10 + 5 * i + 3 by unfold mc0; rw [if_neg (by omega), if_neg (by omega)]; omega]
    exact (ea i hi).1
  · show isPic X h (pc0 r j) (-1) 0 0 (fun _ => 0)
    by_cases q : j < 8
    · rw [show pc0 r j = r + 112 + 2 * j by unfold pc0; rw [if_pos q]]; exact eP j q
    · obtain ⟨i, rfl⟩ : ∃ i, j = 9 + i := ⟨j - 9, by omega⟩
      rw [show pc0 r (9 + i) = r + 10 + 5 * i + 1 by unfold pc0; rw [if_neg (by omega), if_neg (by omega)]; omega]
      exact (ea i (by omega)).2.1
  · show isMk X h (mc0 r j) (fun _ => 0)
    by_cases q : j < 6
    · rw [show mc0 r j = r + 128 + 2 * j by unfold mc0; rw [if_pos q]]; exact eM j q
    · obtain ⟨i, rfl⟩ : ∃ i, j = 7 + i := ⟨j - 7, by omega⟩
      rw [show mc0 r (7 + i) = r + 10 + 5 * i + 3 by unfold mc0; rw [if_neg (by omega), if_neg (by omega)]; omega]
      exact (ea i (by omega)).2.2
set_option maxHeartbeats 4000000 in
theorem ri_fin {h12 : gk_H} {pl cr am cs cl gb : Nat → Int32} {wt : Nat → Bool} (gr12 : h12.1 r = some (rmO r 0 (r + 4) (r + 6))) (t1 : h12.1 (r + 1) = some (cR X 2 8 (fun _ => none))) (t2 : h12.1 (r + 2) = some (cR X 3 6 (fun _ => none))) (t3 : h12.1 (r + 3) = some (cR X 4 24 (fun _ => none))) (t4 : isPic X h12 (r + 4) (-1) 0 0 (fun _ => 0)) (t6 : isMk X h12 (r + 6) (fun _ => 0)) (t8 : isHy X h12 (r + 8) 0 0 0) (t10 : ∀ i, i < 16 → actAt X h12 (r + 8 + 2 + 5 * i)) (t90 : isBn X h12 (r + 90) gb) (t91 : isBt X h12 (r + 90)) (t101 : isFd X h12 (r + 101) pl wt 0) (t104 : isTn X h12 (r + 104) cr am) (t107 : isSm X h12 (r + 107) cs cl 0) (q12a : isTp X h12 (r + 110) (fun _ => 0) 0) (gz12 : h12.2 = r + 112) (K0 : ∀ c, c < r → h12.1 c = h.1 c) (hQ : ∀ h', h'.2 = r + 140 → (∀ h'' : gk_H, h''.2 = r + 160 → (∀ c, r ≤ c → c < r + 140 → h''.1 c = h'.1 c) → Room X h'' r (r + 160) S0) → (∀ c, c < r → h'.1 c = h.1 c) → Q none h') : G (kx X) mt_Room_init (d + 4) (28, 2182) 126 [some (.ref r), some (.int 0)] [] h12 Q := by
  refine lp_Room_initP gr12 (fun hP fP p1 p2 p3 p4 p5 l1 => ?_) 8 0 h12 (fun _ => none) (by omega) t1 (fun j hj => absurd hj (by omega)) (fun j hj => absurd hj (by omega)) (fun c n1 hc => rfl) gz12
  refine gk_iconst (v := 0) dX10_init_151 (pc' := 152) rfl (by decide) ?_
  refine gk_istore1 dX10_init_152 (pc' := 153) rfl (by decide) rfl ?_
  refine lp_Room_initM ((p4 r (by omega) (by omega)).trans gr12) (fun hM fM m1 m2 m3 m4 m5 => ?_) 6 0 hP (fun _ => none) (by omega) ((p4 _ (by omega) (by omega)).trans t2) (fun j hj => absurd hj (by omega)) (fun j hj => absurd hj (by omega)) (fun c n1 hc => rfl) p5
  have E : ∀ c, c ≠ r + 1 → c ≠ r + 2 → c < r + 112 → hM.1 c = h12.1 c := fun c n1 n2 hc => (m4 c n2 (by omega)).trans (p4 c n1 hc)
  refine hQ hM m5 (fun hz z1 z2 => ?_) (fun c hc => (E c (by omega) (by omega) (by omega)).trans (K0 c hc))
  have E2 : ∀ c, r ≤ c → c ≠ r + 1 → c ≠ r + 2 → c < r + 112 → hz.1 c = h12.1 c := fun c n0 n1 n2 hc => (z2 c n0 (by omega)).trans (E c n1 n2 hc)
  exact room_S0 ((E2 _ (by omega) (by omega) (by omega) (by omega)).trans gr12) ((z2 _ (by omega) (by omega)).trans ((m4 _ (by omega) (by omega)).trans p1)) p2 ((z2 _ (by omega) (by omega)).trans m1) m2 ((E2 _ (by omega) (by omega) (by omega) (by omega)).trans t3) (t4.kept (E2 _ (by omega) (by omega) (by omega) (by omega)) (E2 _ (by omega) (by omega) (by omega) (by omega))) (t6.kept (E2 _ (by omega) (by omega) (by omega) (by omega)) (E2 _ (by omega) (by omega) (by omega) (by omega))) (t8.kept (E2 _ (by omega) (by omega) (by omega) (by omega)) (E2 _ (by omega) (by omega) (by omega) (by omega))) (fun i hi => (t10 i hi).kept (fun c g1 g2 => (E2 _ (by omega) (by omega) (by omega) (by omega)))) (t90.kept (E2 _ (by omega) (by omega) (by omega) (by omega)) (E2 _ (by omega) (by omega) (by omega) (by omega)) (E2 _ (by omega) (by omega) (by omega) (by omega))) (fun j hj => (by obtain ⟨k, w, t, p, z⟩ := t91 j hj; exact ⟨k, w, t, p, z.kept (E2 _ (by omega) (by omega) (by omega) (by omega)) (E2 _ (by omega) (by omega) (by omega) (by omega))⟩)) ⟨(E2 _ (by omega) (by omega) (by omega) (by omega)).trans t101.1, (E2 _ (by omega) (by omega) (by omega) (by omega)).trans t101.2.1, (E2 _ (by omega) (by omega) (by omega) (by omega)).trans t101.2.2⟩ ⟨(E2 _ (by omega) (by omega) (by omega) (by omega)).trans t104.1, (E2 _ (by omega) (by omega) (by omega) (by omega)).trans t104.2.1, (E2 _ (by omega) (by omega) (by omega) (by omega)).trans t104.2.2⟩ ⟨(E2 _ (by omega) (by omega) (by omega) (by omega)).trans t107.1, (E2 _ (by omega) (by omega) (by omega) (by omega)).trans t107.2.1, (E2 _ (by omega) (by omega) (by omega) (by omega)).trans t107.2.2⟩ (q12a.kept (E2 _ (by omega) (by omega) (by omega) (by omega)) (E2 _ (by omega) (by omega) (by omega) (by omega))) (fun j hj => (p3 j hj).kept ((z2 _ (by omega) (by omega)).trans (m4 _ (by omega) (by omega))) ((z2 _ (by omega) (by omega)).trans (m4 _ (by omega) (by omega)))) (fun j hj => (m3 j hj).kept (z2 _ (by omega) (by omega)) (z2 _ (by omega) (by omega))) z1
set_option maxHeartbeats 4000000 in
theorem sp_Room_init (ha : h.1 r = some (.inr (10, [.null, .null, .null, .int 0, .null, .null, .null, .null, .null, .null, .null, .null]))) (hs : h.2 = r + 1) (hQ : ∀ h', h'.2 = r + 140 → (∀ h'' : gk_H, h''.2 = r + 160 → (∀ c, r ≤ c → c < r + 140 → h''.1 c = h'.1 c) → Room X h'' r (r + 160) S0) → (∀ c, c < r → h'.1 c = h.1 c) → Q none h') : Gm (kx X) mt_Room_init (d + 4) (139, 10174) [.ref r] h Q := by
  refine Gm.enter (L := [some (.ref r), none]) (by decide) (fun _ => trivial) (Nat.le_of_ble_eq_true rfl) rfl ?_
  refine gk_aload0 dX10_init_0 (pc' := 1) rfl ?_
  refine gk_objInit gw_22 gw_23 gw_24 dX10_init_1 (pc' := 4) rfl (Nat.le_of_ble_eq_true rfl) ?_
  refine gk_aload0 dX10_init_4 (pc' := 5) rfl ?_
  refine gk_bipush (v := 8) dX10_init_5 (pc' := 7) rfl (by decide) ?_
  refine gk_newaA (x0 := (r + 1)) (by exact hs) (n := 8) (bc := 138) (bs := 10166) (t0 := 2) rfl gw_25 (by decide) dX10_init_7 (pc' := 10) rfl rfl (by decide) ?_
  refine gk_putF (fs := [_, _, _, _, _, _, _, _, _, _, _, _]) gP_Room_11 rfl dX10_init_10 (pc' := 13) rfl (by exact ((gk_new_ne (by rw [hs]; omega)).trans ha)) rfl rfl (Nat.le_of_ble_eq_true rfl) ?_
  refine (fun (h1 : gk_H) (gr1 : h1.1 r = some (.inr (10, [.ref (r + 1), .null, .null, .int 0, .null, .null, .null, .null, .null, .null, .null, .null]))) (ga1 : h1.1 (r + 1) = some (cR X 2 8 (fun _ => none))) (k1 : ∀ c, c ≠ r → c < r + 1 → h1.1 c = h.1 c) (gz1 : h1.2 = r + 2) => (?_ : G _ _ _ _ _ _ _ h1 _)) _ gk_set_self ((gk_set_ne (by omega)).trans (by rw [← hs]; exact gk_new_self)) (fun c n1 hc => (gk_set_ne n1).trans (gk_new_ne (by rw [hs]; omega))) (by show h.2 + 1 = _; omega)
  refine gk_aload0 dX10_init_13 (pc' := 14) rfl ?_
  refine gk_bipush (v := 6) dX10_init_14 (pc' := 16) rfl (by decide) ?_
  refine gk_newaA (x0 := (r + 2)) (by exact gz1) (n := 6) (bc := 137) (bs := 10160) (t0 := 3) rfl gw_27 (by decide) dX10_init_16 (pc' := 19) rfl rfl (by decide) ?_
  refine gk_putF (fs := [_, _, _, _, _, _, _, _, _, _, _, _]) gP_Room_17 rfl dX10_init_19 (pc' := 22) rfl (by exact ((gk_new_ne (by rw [gz1]; omega)).trans gr1)) rfl rfl (Nat.le_of_ble_eq_true rfl) ?_
  refine (fun (h2 : gk_H) (gr2 : h2.1 r = some (.inr (10, [.ref (r + 1), .ref (r + 2), .null, .int 0, .null, .null, .null, .null, .null, .null, .null, .null]))) (ga2 : h2.1 (r + 2) = some (cR X 3 6 (fun _ => none))) (k2 : ∀ c, c ≠ r → c < r + 2 → h2.1 c = h1.1 c) (gz2 : h2.2 = r + 3) => (?_ : G _ _ _ _ _ _ _ h2 _)) _ gk_set_self ((gk_set_ne (by omega)).trans (by rw [← gz1]; exact gk_new_self)) (fun c n1 hc => (gk_set_ne n1).trans (gk_new_ne (by rw [gz1]; omega))) (by show h1.2 + 1 = _; omega)
  refine gk_aload0 dX10_init_22 (pc' := 23) rfl ?_
  refine gk_bipush (v := 24) dX10_init_23 (pc' := 25) rfl (by decide) ?_
  refine gk_newaA (x0 := (r + 3)) (by exact gz2) (n := 24) (bc := 136) (bs := 10136) (t0 := 4) rfl gw_29 (by decide) dX10_init_25 (pc' := 28) rfl rfl (by decide) ?_
  refine gk_putF (fs := [_, _, _, _, _, _, _, _, _, _, _, _]) gP_Room_23 rfl dX10_init_28 (pc' := 31) rfl (by exact ((gk_new_ne (by rw [gz2]; omega)).trans gr2)) rfl rfl (Nat.le_of_ble_eq_true rfl) ?_
  refine (fun (h3 : gk_H) (gr3 : h3.1 r = some (.inr (10, [.ref (r + 1), .ref (r + 2), .ref (r + 3), .int 0, .null, .null, .null, .null, .null, .null, .null, .null]))) (ga3 : h3.1 (r + 3) = some (cR X 4 24 (fun _ => none))) (k3 : ∀ c, c ≠ r → c < r + 3 → h3.1 c = h2.1 c) (gz3 : h3.2 = r + 4) => (?_ : G _ _ _ _ _ _ _ h3 _)) _ gk_set_self ((gk_set_ne (by omega)).trans (by rw [← gz2]; exact gk_new_self)) (fun c n1 hc => (gk_set_ne n1).trans (gk_new_ne (by rw [gz2]; omega))) (by show h2.2 + 1 = _; omega)
  refine gk_aload0 dX10_init_31 (pc' := 32) rfl ?_
  refine gk_iconst (v := 0) dX10_init_32 (pc' := 33) rfl (by decide) ?_
  refine gk_putf (fs := [_, _, _, _, _, _, _, _, _, _, _, _]) gP_Room_27 dX10_init_33 (pc' := 36) rfl (by exact (gr3)) rfl rfl (Nat.le_of_ble_eq_true rfl) ?_
  refine (fun (h4 : gk_H) (gr4 : h4.1 r = some (.inr (10, [.ref (r + 1), .ref (r + 2), .ref (r + 3), .int 0, .null, .null, .null, .null, .null, .null, .null, .null]))) (k4 : ∀ c, c ≠ r → c < r + 4 → h4.1 c = h3.1 c) (gz4 : h4.2 = r + 4) => (?_ : G _ _ _ _ _ _ _ h4 _)) _ gk_set_self (fun c n1 hc => gk_set_ne n1) gz3
  refine gk_aload0 dX10_init_36 (pc' := 37) rfl ?_
  refine gk_newcA (x := (r + 4)) (by exact gz4) (N := 4) (bc := 135) (bs := 10132) gC_Room_9 dX10_init_37 (pc' := 40) rfl ?_
  refine gk_dup dX10_init_40 (pc' := 41) rfl rfl ?_
  refine gk_cIN_0 (b' := (1, 256)) (b2 := (134, 9876)) mi_Picture_init (host := "DarkRoom") (by decide +kernel) dX10_init_41 (pc' := 44) rfl (Nat.le_of_ble_eq_true rfl) (by first | decide | (dsimp only; omega)) (by first | decide | (dsimp only; omega)) (sp_Picture_init (by rw [← gz4]; exact gk_new_self) (by show h4.2 + 1 = _; omega) (fun v5 y1 y2 y3 => ?_))
  refine ⟨rfl, ?_⟩
  refine gk_putf (fs := [_, _, _, _, _, _, _, _, _, _, _, _]) gP_Room_32 dX10_init_44 (pc' := 47) rfl (by exact ((y2 _ (by omega) (by omega)).trans ((gk_new_ne (by omega)).trans gr4))) rfl rfl (Nat.le_of_ble_eq_true rfl) ?_
  refine (fun (h5 : gk_H) (gr5 : h5.1 r = some (.inr (10, [.ref (r + 1), .ref (r + 2), .ref (r + 3), .int 0, .ref (r + 4), .null, .null, .null, .null, .null, .null, .null]))) (q5a : isPic X h5 (r + 4) (-1) 0 0 (fun _ => 0)) (k5 : ∀ c, c ≠ r → c < r + 4 → h5.1 c = h4.1 c) (gz5 : h5.2 = r + 6) => (?_ : G _ _ _ _ _ _ _ h5 _)) _ gk_set_self (y1.kept (gk_set_ne (by omega)) (gk_set_ne (by omega))) (fun c n1 hc => (gk_set_ne n1).trans ((y2 _ (by omega) (by omega)).trans (gk_new_ne (by omega)))) (by show v5.2 = _; omega)
  clear y2 y3
  refine gk_aload0 dX10_init_47 (pc' := 48) rfl ?_
  refine gk_newcA (x := (r + 6)) (by exact gz5) (N := 1) (bc := 133) (bs := 9875) gC_Room_15 dX10_init_48 (pc' := 51) rfl ?_
  refine gk_dup dX10_init_51 (pc' := 52) rfl rfl ?_
  refine gk_cIN_0 (b' := (1, 16)) (b2 := (132, 9859)) mi_Mask_init (host := "DarkRoom") (by decide +kernel) dX10_init_52 (pc' := 55) rfl (Nat.le_of_ble_eq_true rfl) (by first | decide | (dsimp only; omega)) (by first | decide | (dsimp only; omega)) (sp_Mask_init (by rw [← gz5]; exact gk_new_self) (by show h5.2 + 1 = _; omega) (fun v6 y1 y2 y3 => ?_))
  refine ⟨rfl, ?_⟩
  refine gk_putf (fs := [_, _, _, _, _, _, _, _, _, _, _, _]) gP_Room_37 dX10_init_55 (pc' := 58) rfl (by exact ((y2 _ (by omega) (by omega)).trans ((gk_new_ne (by omega)).trans gr5))) rfl rfl (Nat.le_of_ble_eq_true rfl) ?_
  refine (fun (h6 : gk_H) (gr6 : h6.1 r = some (.inr (10, [.ref (r + 1), .ref (r + 2), .ref (r + 3), .int 0, .ref (r + 4), .ref (r + 6), .null, .null, .null, .null, .null, .null]))) (q6a : isMk X h6 (r + 6) (fun _ => 0)) (k6 : ∀ c, c ≠ r → c < r + 6 → h6.1 c = h5.1 c) (gz6 : h6.2 = r + 8) => (?_ : G _ _ _ _ _ _ _ h6 _)) _ gk_set_self (y1.kept (gk_set_ne (by omega)) (gk_set_ne (by omega))) (fun c n1 hc => (gk_set_ne n1).trans ((y2 _ (by omega) (by omega)).trans (gk_new_ne (by omega)))) (by show v6.2 = _; omega)
  clear y2 y3
  refine gk_aload0 dX10_init_58 (pc' := 59) rfl ?_
  refine gk_newcA (x := (r + 8)) (by exact gz6) (N := 4) (bc := 131) (bs := 9855) gC_Room_41 dX10_init_59 (pc' := 62) rfl ?_
  refine gk_dup dX10_init_62 (pc' := 63) rfl rfl ?_
  refine gk_cI_0 (b' := (81, 4512)) (b2 := (50, 5343)) mi_History_init gw_73 dX10_init_63 (pc' := 66) rfl (Nat.le_of_ble_eq_true rfl) (by first | decide | (dsimp only; omega)) (by first | decide | (dsimp only; omega)) (sp_History_init (by rw [← gz6]; exact gk_new_self) (by show h6.2 + 1 = _; omega) (fun v7 y1 y1b y2 y3 => ?_))
  refine ⟨rfl, ?_⟩
  refine gk_putF (fs := [_, _, _, _, _, _, _, _, _, _, _, _]) gP_Room_44 rfl dX10_init_66 (pc' := 69) rfl (by exact ((y2 _ (by omega)).trans ((gk_new_ne (by omega)).trans gr6))) rfl rfl (Nat.le_of_ble_eq_true rfl) ?_
  refine (fun (h7 : gk_H) (gr7 : h7.1 r = some (.inr (10, [.ref (r + 1), .ref (r + 2), .ref (r + 3), .int 0, .ref (r + 4), .ref (r + 6), .ref (r + 8), .null, .null, .null, .null, .null]))) (q7a : isHy X h7 (r + 8) 0 0 0) (q7b : ∀ i, i < 16 → actAt X h7 (r + 8 + 2 + 5 * i)) (k7 : ∀ c, c ≠ r → c < r + 8 → h7.1 c = h6.1 c) (gz7 : h7.2 = r + 90) => (?_ : G _ _ _ _ _ _ _ h7 _)) _ gk_set_self (y1.kept (gk_set_ne (by omega)) (gk_set_ne (by omega))) (fun i hi => (y1b i hi).kept (fun c z1 z2 => gk_set_ne (by omega))) (fun c n1 hc => (gk_set_ne n1).trans ((y2 _ (by omega)).trans (gk_new_ne (by omega)))) (by show v7.2 = _; omega)
  clear y2 y3
  refine gk_aload0 dX10_init_69 (pc' := 70) rfl ?_
  refine gk_newcA (x := (r + 90)) (by exact gz7) (N := 2) (bc := 49) (bs := 5341) gC_Room_48 dX10_init_70 (pc' := 73) rfl ?_
  refine gk_dup dX10_init_73 (pc' := 74) rfl rfl ?_
  refine gk_cI_0 (b' := (10, 1053)) (b2 := (39, 4288)) mi_Bench_init gw_122 dX10_init_74 (pc' := 77) rfl (Nat.le_of_ble_eq_true rfl) (by first | decide | (dsimp only; omega)) (by first | decide | (dsimp only; omega)) (sp_Bench_init (by rw [← gz7]; exact gk_new_self) (by show h7.2 + 1 = _; omega) (fun v8 gb y1 y1b y2 y3 => ?_))
  refine ⟨rfl, ?_⟩
  refine gk_putF (fs := [_, _, _, _, _, _, _, _, _, _, _, _]) gP_Room_51 rfl dX10_init_77 (pc' := 80) rfl (by exact ((y2 _ (by omega)).trans ((gk_new_ne (by omega)).trans gr7))) rfl rfl (Nat.le_of_ble_eq_true rfl) ?_
  refine (fun (h8 : gk_H) (gr8 : h8.1 r = some (.inr (10, [.ref (r + 1), .ref (r + 2), .ref (r + 3), .int 0, .ref (r + 4), .ref (r + 6), .ref (r + 8), .ref (r + 90), .null, .null, .null, .null]))) (q8a : isBn X h8 (r + 90) gb) (q8b : isBt X h8 (r + 90)) (k8 : ∀ c, c ≠ r → c < r + 90 → h8.1 c = h7.1 c) (gz8 : h8.2 = r + 101) => (?_ : G _ _ _ _ _ _ _ h8 _)) _ gk_set_self (y1.kept (gk_set_ne (by omega)) (gk_set_ne (by omega)) (gk_set_ne (by omega))) (fun j hj => (by obtain ⟨k, w, t, p, z⟩ := y1b j hj; exact ⟨k, w, t, p, z.kept (gk_set_ne (by omega)) (gk_set_ne (by omega))⟩)) (fun c n1 hc => (gk_set_ne n1).trans ((y2 _ (by omega)).trans (gk_new_ne (by omega)))) (by show v8.2 = _; omega)
  clear y2 y3
  refine gk_aload0 dX10_init_80 (pc' := 81) rfl ?_
  refine gk_newcA (x := (r + 101)) (by exact gz8) (N := 3) (bc := 38) (bs := 4285) gC_Room_55 dX10_init_81 (pc' := 84) rfl ?_
  refine gk_dup dX10_init_84 (pc' := 85) rfl rfl ?_
  refine gk_cIN_0 (b' := (2, 512)) (b2 := (36, 3773)) mi_Flood_init (host := "DarkRoom") (by decide +kernel) dX10_init_85 (pc' := 88) rfl (Nat.le_of_ble_eq_true rfl) (by first | decide | (dsimp only; omega)) (by first | decide | (dsimp only; omega)) (sp_Flood_init (by rw [← gz8]; exact gk_new_self) (by show h8.2 + 1 = _; omega) (fun v9 pl wt y1 y2 y3 => ?_))
  refine ⟨rfl, ?_⟩
  refine gk_putF (fs := [_, _, _, _, _, _, _, _, _, _, _, _]) gP_Room_58 rfl dX10_init_88 (pc' := 91) rfl (by exact ((y2 _ (by omega) (by omega) (by omega)).trans ((gk_new_ne (by omega)).trans gr8))) rfl rfl (Nat.le_of_ble_eq_true rfl) ?_
  refine (fun (h9 : gk_H) (gr9 : h9.1 r = some (.inr (10, [.ref (r + 1), .ref (r + 2), .ref (r + 3), .int 0, .ref (r + 4), .ref (r + 6), .ref (r + 8), .ref (r + 90), .ref (r + 101), .null, .null, .null]))) (q9a : isFd X h9 (r + 101) pl wt 0) (k9 : ∀ c, c ≠ r → c < r + 101 → h9.1 c = h8.1 c) (gz9 : h9.2 = r + 104) => (?_ : G _ _ _ _ _ _ _ h9 _)) _ gk_set_self (⟨(gk_set_ne (by omega)).trans y1.1, (gk_set_ne (by omega)).trans y1.2.1, (gk_set_ne (by omega)).trans y1.2.2⟩) (fun c n1 hc => (gk_set_ne n1).trans ((y2 _ (by omega) (by omega) (by omega)).trans (gk_new_ne (by omega)))) (by show v9.2 = _; omega)
  clear y2 y3
  refine gk_aload0 dX10_init_91 (pc' := 92) rfl ?_
  refine gk_newcA (x := (r + 104)) (by exact gz9) (N := 2) (bc := 35) (bs := 3771) gC_Room_62 dX10_init_92 (pc' := 95) rfl ?_
  refine gk_dup dX10_init_95 (pc' := 96) rfl rfl ?_
  refine gk_cIN_0 (b' := (2, 512)) (b2 := (33, 3259)) mi_Tones_init (host := "DarkRoom") (by decide +kernel) dX10_init_96 (pc' := 99) rfl (Nat.le_of_ble_eq_true rfl) (by first | decide | (dsimp only; omega)) (by first | decide | (dsimp only; omega)) (sp_Tones_init (by rw [← gz9]; exact gk_new_self) (by show h9.2 + 1 = _; omega) (fun v10 cr am y1 y2 y3 => ?_))
  refine ⟨rfl, ?_⟩
  refine gk_putF (fs := [_, _, _, _, _, _, _, _, _, _, _, _]) gP_Room_65 rfl dX10_init_99 (pc' := 102) rfl (by exact ((y2 _ (by omega) (by omega) (by omega)).trans ((gk_new_ne (by omega)).trans gr9))) rfl rfl (Nat.le_of_ble_eq_true rfl) ?_
  refine (fun (h10 : gk_H) (gr10 : h10.1 r = some (.inr (10, [.ref (r + 1), .ref (r + 2), .ref (r + 3), .int 0, .ref (r + 4), .ref (r + 6), .ref (r + 8), .ref (r + 90), .ref (r + 101), .ref (r + 104), .null, .null]))) (q10a : isTn X h10 (r + 104) cr am) (k10 : ∀ c, c ≠ r → c < r + 104 → h10.1 c = h9.1 c) (gz10 : h10.2 = r + 107) => (?_ : G _ _ _ _ _ _ _ h10 _)) _ gk_set_self (⟨(gk_set_ne (by omega)).trans y1.1, (gk_set_ne (by omega)).trans y1.2.1, (gk_set_ne (by omega)).trans y1.2.2⟩) (fun c n1 hc => (gk_set_ne n1).trans ((y2 _ (by omega) (by omega) (by omega)).trans (gk_new_ne (by omega)))) (by show v10.2 = _; omega)
  clear y2 y3
  refine gk_aload0 dX10_init_102 (pc' := 103) rfl ?_
  refine gk_newcA (x := (r + 107)) (by exact gz10) (N := 3) (bc := 32) (bs := 3256) gC_Room_69 dX10_init_103 (pc' := 106) rfl ?_
  refine gk_dup dX10_init_106 (pc' := 107) rfl rfl ?_
  refine gk_cIN_0 (b' := (2, 272)) (b2 := (30, 2984)) mi_Seam_init (host := "DarkRoom") (by decide +kernel) dX10_init_107 (pc' := 110) rfl (Nat.le_of_ble_eq_true rfl) (by first | decide | (dsimp only; omega)) (by first | decide | (dsimp only; omega)) (sp_Seam_init (by rw [← gz10]; exact gk_new_self) (by show h10.2 + 1 = _; omega) (fun v11 cs cl y1 y2 y3 => ?_))
  refine ⟨rfl, ?_⟩
  refine gk_putF (fs := [_, _, _, _, _, _, _, _, _, _, _, _]) gP_Room_72 rfl dX10_init_110 (pc' := 113) rfl (by exact ((y2 _ (by omega) (by omega) (by omega)).trans ((gk_new_ne (by omega)).trans gr10))) rfl rfl (Nat.le_of_ble_eq_true rfl) ?_
  refine (fun (h11 : gk_H) (gr11 : h11.1 r = some (.inr (10, [.ref (r + 1), .ref (r + 2), .ref (r + 3), .int 0, .ref (r + 4), .ref (r + 6), .ref (r + 8), .ref (r + 90), .ref (r + 101), .ref (r + 104), .ref (r + 107), .null]))) (q11a : isSm X h11 (r + 107) cs cl 0) (k11 : ∀ c, c ≠ r → c < r + 107 → h11.1 c = h10.1 c) (gz11 : h11.2 = r + 110) => (?_ : G _ _ _ _ _ _ _ h11 _)) _ gk_set_self (⟨(gk_set_ne (by omega)).trans y1.1, (gk_set_ne (by omega)).trans y1.2.1, (gk_set_ne (by omega)).trans y1.2.2⟩) (fun c n1 hc => (gk_set_ne n1).trans ((y2 _ (by omega) (by omega) (by omega)).trans (gk_new_ne (by omega)))) (by show v11.2 = _; omega)
  clear y2 y3
  refine gk_aload0 dX10_init_113 (pc' := 114) rfl ?_
  refine gk_newcA (x := (r + 110)) (by exact gz11) (N := 2) (bc := 29) (bs := 2982) gC_Room_76 dX10_init_114 (pc' := 117) rfl ?_
  refine gk_dup dX10_init_117 (pc' := 118) rfl rfl ?_
  refine gk_cIN_0 (b' := (1, 800)) (b2 := (28, 2182)) mi_Tape_init (host := "DarkRoom") (by decide +kernel) dX10_init_118 (pc' := 121) rfl (Nat.le_of_ble_eq_true rfl) (by first | decide | (dsimp only; omega)) (by first | decide | (dsimp only; omega)) (sp_Tape_init (by rw [← gz11]; exact gk_new_self) (by show h11.2 + 1 = _; omega) (fun v12 y1 y2 y3 => ?_))
  refine ⟨rfl, ?_⟩
  refine gk_putF (fs := [_, _, _, _, _, _, _, _, _, _, _, _]) gP_Room_79 rfl dX10_init_121 (pc' := 124) rfl (by exact ((y2 _ (by omega) (by omega)).trans ((gk_new_ne (by omega)).trans gr11))) rfl rfl (Nat.le_of_ble_eq_true rfl) ?_
  refine (fun (h12 : gk_H) (gr12 : h12.1 r = some (.inr (10, [.ref (r + 1), .ref (r + 2), .ref (r + 3), .int 0, .ref (r + 4), .ref (r + 6), .ref (r + 8), .ref (r + 90), .ref (r + 101), .ref (r + 104), .ref (r + 107), .ref (r + 110)]))) (q12a : isTp X h12 (r + 110) (fun _ => 0) 0) (k12 : ∀ c, c ≠ r → c < r + 110 → h12.1 c = h11.1 c) (gz12 : h12.2 = r + 112) => (?_ : G _ _ _ _ _ _ _ h12 _)) _ gk_set_self (y1.kept (gk_set_ne (by omega)) (gk_set_ne (by omega))) (fun c n1 hc => (gk_set_ne n1).trans ((y2 _ (by omega) (by omega)).trans (gk_new_ne (by omega)))) (by show v12.2 = _; omega)
  clear y2 y3
  refine gk_iconst (v := 0) dX10_init_124 (pc' := 125) rfl (by decide) ?_
  refine gk_istore1 dX10_init_125 (pc' := 126) rfl (by decide) rfl ?_
  have K0 : ∀ c, c < r → h12.1 c = h.1 c := fun c hc => (fun (n1 : c ≠ r) => ((k12 c n1 (Nat.lt_of_lt_of_le hc (Nat.le_add_right r _))).trans ((k11 c n1 (Nat.lt_of_lt_of_le hc (Nat.le_add_right r _))).trans ((k10 c n1 (Nat.lt_of_lt_of_le hc (Nat.le_add_right r _))).trans ((k9 c n1 (Nat.lt_of_lt_of_le hc (Nat.le_add_right r _))).trans ((k8 c n1 (Nat.lt_of_lt_of_le hc (Nat.le_add_right r _))).trans ((k7 c n1 (Nat.lt_of_lt_of_le hc (Nat.le_add_right r _))).trans ((k6 c n1 (Nat.lt_of_lt_of_le hc (Nat.le_add_right r _))).trans ((k5 c n1 (Nat.lt_of_lt_of_le hc (Nat.le_add_right r _))).trans ((k4 c n1 (Nat.lt_of_lt_of_le hc (Nat.le_add_right r _))).trans ((k3 c n1 (Nat.lt_of_lt_of_le hc (Nat.le_add_right r _))).trans ((k2 c n1 (Nat.lt_of_lt_of_le hc (Nat.le_add_right r _))).trans (k1 c n1 (Nat.lt_of_lt_of_le hc (Nat.le_add_right r _))))))))))))))) (by omega)
  have K1 : ∀ c, c ≠ r → c < r + 2 → h12.1 c = h1.1 c := fun c n1 hc => ((k12 c n1 (lt_rr hc (by decide))).trans ((k11 c n1 (lt_rr hc (by decide))).trans ((k10 c n1 (lt_rr hc (by decide))).trans ((k9 c n1 (lt_rr hc (by decide))).trans ((k8 c n1 (lt_rr hc (by decide))).trans ((k7 c n1 (lt_rr hc (by decide))).trans ((k6 c n1 (lt_rr hc (by decide))).trans ((k5 c n1 (lt_rr hc (by decide))).trans ((k4 c n1 (lt_rr hc (by decide))).trans ((k3 c n1 (lt_rr hc (by decide))).trans (k2 c n1 (lt_rr hc (by decide)))))))))))))
  have K2 : ∀ c, c ≠ r → c < r + 3 → h12.1 c = h2.1 c := fun c n1 hc => ((k12 c n1 (lt_rr hc (by decide))).trans ((k11 c n1 (lt_rr hc (by decide))).trans ((k10 c n1 (lt_rr hc (by decide))).trans ((k9 c n1 (lt_rr hc (by decide))).trans ((k8 c n1 (lt_rr hc (by decide))).trans ((k7 c n1 (lt_rr hc (by decide))).trans ((k6 c n1 (lt_rr hc (by decide))).trans ((k5 c n1 (lt_rr hc (by decide))).trans ((k4 c n1 (lt_rr hc (by decide))).trans (k3 c n1 (lt_rr hc (by decide))))))))))))
  have K3 : ∀ c, c ≠ r → c < r + 4 → h12.1 c = h3.1 c := fun c n1 hc => ((k12 c n1 (lt_rr hc (by decide))).trans ((k11 c n1 (lt_rr hc (by decide))).trans ((k10 c n1 (lt_rr hc (by decide))).trans ((k9 c n1 (lt_rr hc (by decide))).trans ((k8 c n1 (lt_rr hc (by decide))).trans ((k7 c n1 (lt_rr hc (by decide))).trans ((k6 c n1 (lt_rr hc (by decide))).trans ((k5 c n1 (lt_rr hc (by decide))).trans (k4 c n1 (lt_rr hc (by decide)))))))))))
  have K4 : ∀ c, c ≠ r → c < r + 4 → h12.1 c = h4.1 c := fun c n1 hc => ((k12 c n1 (lt_rr hc (by decide))).trans ((k11 c n1 (lt_rr hc (by decide))).trans ((k10 c n1 (lt_rr hc (by decide))).trans ((k9 c n1 (lt_rr hc (by decide))).trans ((k8 c n1 (lt_rr hc (by decide))).trans ((k7 c n1 (lt_rr hc (by decide))).trans ((k6 c n1 (lt_rr hc (by decide))).trans (k5 c n1 (lt_rr hc (by decide))))))))))
  have K5 : ∀ c, c ≠ r → c < r + 6 → h12.1 c = h5.1 c := fun c n1 hc => ((k12 c n1 (lt_rr hc (by decide))).trans ((k11 c n1 (lt_rr hc (by decide))).trans ((k10 c n1 (lt_rr hc (by decide))).trans ((k9 c n1 (lt_rr hc (by decide))).trans ((k8 c n1 (lt_rr hc (by decide))).trans ((k7 c n1 (lt_rr hc (by decide))).trans (k6 c n1 (lt_rr hc (by decide)))))))))
  have K6 : ∀ c, c ≠ r → c < r + 8 → h12.1 c = h6.1 c := fun c n1 hc => ((k12 c n1 (lt_rr hc (by decide))).trans ((k11 c n1 (lt_rr hc (by decide))).trans ((k10 c n1 (lt_rr hc (by decide))).trans ((k9 c n1 (lt_rr hc (by decide))).trans ((k8 c n1 (lt_rr hc (by decide))).trans (k7 c n1 (lt_rr hc (by decide))))))))
  have K7 : ∀ c, c ≠ r → c < r + 90 → h12.1 c = h7.1 c := fun c n1 hc => ((k12 c n1 (lt_rr hc (by decide))).trans ((k11 c n1 (lt_rr hc (by decide))).trans ((k10 c n1 (lt_rr hc (by decide))).trans ((k9 c n1 (lt_rr hc (by decide))).trans (k8 c n1 (lt_rr hc (by decide)))))))
  have K8 : ∀ c, c ≠ r → c < r + 101 → h12.1 c = h8.1 c := fun c n1 hc => ((k12 c n1 (lt_rr hc (by decide))).trans ((k11 c n1 (lt_rr hc (by decide))).trans ((k10 c n1 (lt_rr hc (by decide))).trans (k9 c n1 (lt_rr hc (by decide))))))
  have K9 : ∀ c, c ≠ r → c < r + 104 → h12.1 c = h9.1 c := fun c n1 hc => ((k12 c n1 (lt_rr hc (by decide))).trans ((k11 c n1 (lt_rr hc (by decide))).trans (k10 c n1 (lt_rr hc (by decide)))))
  have K10 : ∀ c, c ≠ r → c < r + 107 → h12.1 c = h10.1 c := fun c n1 hc => ((k12 c n1 (lt_rr hc (by decide))).trans (k11 c n1 (lt_rr hc (by decide))))
  have K11 : ∀ c, c ≠ r → c < r + 110 → h12.1 c = h11.1 c := fun c n1 hc => (k12 c n1 (lt_rr hc (by decide)))
  have t4 : isPic X h12 (r + 4) (-1) 0 0 (fun _ => 0) := q5a.kept (K5 _ (ne_r 4 rfl (by decide)) (lt_r 4 rfl (by decide))) (K5 _ (ne_r 5 rfl (by decide)) (lt_r 5 rfl (by decide)))
  have t6 : isMk X h12 (r + 6) (fun _ => 0) := q6a.kept (K6 _ (ne_r 6 rfl (by decide)) (lt_r 6 rfl (by decide))) (K6 _ (ne_r 7 rfl (by decide)) (lt_r 7 rfl (by decide)))
  have t8 : isHy X h12 (r + 8) 0 0 0 := q7a.kept (K7 _ (ne_r 8 rfl (by decide)) (lt_r 8 rfl (by decide))) (K7 _ (ne_r 9 rfl (by decide)) (lt_r 9 rfl (by decide)))
  have t10 : ∀ i, i < 16 → actAt X h12 (r + 8 + 2 + 5 * i) := fun i hi => (q7b i hi).kept (fun c z1 z2 => K7 _ (by omega) (by omega))
  have t90 : isBn X h12 (r + 90) gb := q8a.kept (K8 _ (ne_r 90 rfl (by decide)) (lt_r 90 rfl (by decide))) (K8 _ (ne_r 91 rfl (by decide)) (lt_r 91 rfl (by decide))) (K8 _ (ne_r 92 rfl (by decide)) (lt_r 92 rfl (by decide)))
  have t91 : isBt X h12 (r + 90) := fun j hj => (by obtain ⟨k, w, t, p, z⟩ := q8b j hj; exact ⟨k, w, t, p, z.kept (K8 _ (by omega) (by omega)) (K8 _ (by omega) (by omega))⟩)
  have t101 : isFd X h12 (r + 101) pl wt 0 := ⟨(K9 _ (ne_r 101 rfl (by decide)) (lt_r 101 rfl (by decide))).trans q9a.1, (K9 _ (ne_r 102 rfl (by decide)) (lt_r 102 rfl (by decide))).trans q9a.2.1, (K9 _ (ne_r 103 rfl (by decide)) (lt_r 103 rfl (by decide))).trans q9a.2.2⟩
  have t104 : isTn X h12 (r + 104) cr am := ⟨(K10 _ (ne_r 104 rfl (by decide)) (lt_r 104 rfl (by decide))).trans q10a.1, (K10 _ (ne_r 105 rfl (by decide)) (lt_r 105 rfl (by decide))).trans q10a.2.1, (K10 _ (ne_r 106 rfl (by decide)) (lt_r 106 rfl (by decide))).trans q10a.2.2⟩
  have t107 : isSm X h12 (r + 107) cs cl 0 := ⟨(K11 _ (ne_r 107 rfl (by decide)) (lt_r 107 rfl (by decide))).trans q11a.1, (K11 _ (ne_r 108 rfl (by decide)) (lt_r 108 rfl (by decide))).trans q11a.2.1, (K11 _ (ne_r 109 rfl (by decide)) (lt_r 109 rfl (by decide))).trans q11a.2.2⟩
  have t1 : h12.1 (r + 1) = some (cR X 2 8 (fun _ => none)) := (K1 _ (ne_r 1 rfl (by decide)) (lt_r 1 rfl (by decide))).trans ga1
  have t2 : h12.1 (r + 2) = some (cR X 3 6 (fun _ => none)) := (K2 _ (ne_r 2 rfl (by decide)) (lt_r 2 rfl (by decide))).trans ga2
  have t3 : h12.1 (r + 3) = some (cR X 4 24 (fun _ => none)) := (K3 _ (ne_r 3 rfl (by decide)) (lt_r 3 rfl (by decide))).trans ga3
  exact ri_fin gr12 t1 t2 t3 t4 t6 t8 t10 t90 t91 t101 t104 t107 q12a gz12 K0 hQ
end MkR
