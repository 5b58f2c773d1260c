/-! ===== the constructors ===== -/
section MkN
variable {K : gk_K} {M : gk_M} {d : Nat} {b b' : Nat × Nat} {pc pc' : Nat} {L : List (Option Value)} {st : List Value} {h : gk_H} {Q : Option Value → gk_H → Prop}
theorem G.bud (h1 : b'.1 ≤ b.1) (h2 : b'.2 ≤ b.2) (k : G K M d b' pc L st h Q) : G K M d b pc L st h Q := by
  intro p e s m args below meth c H locs cells slots mc ms ls C hR hS hL g1 g2
  exact k p e s m args below meth c H locs cells slots mc ms ls C hR hS hL (by omega) (by omega)
theorem gk_newcA {x idx ci N bc bs : Nat} {fs : List Value} (hz : h.2 = x) (hC : gk_C M.1.cls idx ci N fs) (hd : decode M.2.1 pc = .ok (.new idx, 3)) (hp : pc + 3 = pc') (k : G K M d (bc, bs) pc' L (.ref x :: st) (gk_new h (.inr (ci, fs))) Q) : G K M d (bc + 1, bs + N) pc L st h Q := by
  subst hz
  exact gk_newc hC hd hp k
theorem gk_newiA {x0 t0 n bc bs : Nat} {cA : ClassId} {x : Int32} (hz : h.2 = x0) (ht : K.2.2.1[t0]? = some (cA, .int)) (hw : Cond.arrayClass .int ∈ gk_good) (hd : decode M.2.1 pc = .ok (.newarray .int, 2)) (hp : pc + 2 = pc') (hx : x = nI n) (hn : n < 100000) (k : G K M d (bc, bs) pc' L (.ref x0 :: st) (gk_new h (.inl (cA, n, .inl (fun _ => 0)))) Q) : G K M d (bc + 1, bs + n) pc L (.int x :: st) h Q := by
  subst hz
  exact gk_newi ht hw hd hp hx hn k
theorem gk_newzA {x0 t0 n bc bs : Nat} {cA : ClassId} {x : Int32} (hz : h.2 = x0) (ht : K.2.2.1[t0]? = some (cA, .boolean)) (hw : Cond.arrayClass .boolean ∈ gk_good) (hd : decode M.2.1 pc = .ok (.newarray .boolean, 2)) (hp : pc + 2 = pc') (hx : x = nI n) (hn : n < 100000) (k : G K M d (bc, bs) pc' L (.ref x0 :: st) (gk_new h (.inl (cA, n, .inl (fun _ => 0)))) Q) : G K M d (bc + 1, bs + n) pc L (.int x :: st) h Q := by
  subst hz
  exact gk_newz ht hw hd hp hx hn k
theorem gk_newaA {x0 t0 n bc bs idx : Nat} {cA : ClassId} {C0 : String} {x : Int32} (hz : h.2 = x0) (ht : K.2.2.1[t0]? = some (cA, .object C0)) (hl : Cond.classLink M.1.cls idx C0 ∈ gk_good) (ho : C0 ∈ gk_over) (hd : decode M.2.1 pc = .ok (.anewarray idx, 3)) (hp : pc + 3 = pc') (hx : x = nI n) (hn : n < 100000) (k : G K M d (bc, bs) pc' L (.ref x0 :: st) (gk_new h (.inl (cA, n, .inr (.inr (.inr (.inr (fun _ => none))))))) Q) : G K M d (bc + 1, bs + n) pc L (.int x :: st) h Q := by
  subst hz
  exact gk_newa ht hl ho hd hp hx hn k
end MkN
/-- an act as it is made at q -/
def actAt (X : gX) (h : gk_H) (q : Nat) : Prop := h.1 q = some (.inr (0, [.int 0, .int 0, .ref (q + 1), .ref (q + 3)])) ∧ isPic X h (q + 1) (-1) 0 0 (fun _ => 0) ∧ isMk X h (q + 3) (fun _ => 0)
theorem actAt.kept {X : gX} {h h' : gk_H} {q : Nat} (ha : actAt X h q) (he : ∀ c, q ≤ c → c < q + 5 → h'.1 c = h.1 c) : actAt X h' q := ⟨(he _ (by omega) (by omega)).trans ha.1, ha.2.1.kept (he _ (by omega) (by omega)) (he _ (by omega) (by omega)), ha.2.2.kept (he _ (by omega) (by omega)) (he _ (by omega) (by omega))⟩
section MkO
variable {X : gX} {d : Nat} {h : gk_H} {Q : Option Value → gk_H → Prop} {a r : Nat}
theorem sp_Act_init (ha : h.1 a = some (.inr (0, [.int 0, .int 0, .null, .null]))) (hs : h.2 = a + 1) (hQ : ∀ h', actAt X h' a → (∀ c, c < a → h'.1 c = h.1 c) → h'.2 = a + 5 → Q none h') : Gm (kx X) mt_Act_init (d + 2) (4, 277) [.ref a] h Q := by
  refine Gm.enter (L := [some (.ref a)]) (by decide) (fun _ => trivial) (Nat.le_of_ble_eq_true rfl) rfl ?_
  refine gk_aload0 dX0_init_0 (pc' := 1) rfl ?_
  refine gk_objInit gw_83 gw_23 gw_24 dX0_init_1 (pc' := 4) rfl (Nat.le_of_ble_eq_true rfl) ?_
  refine gk_aload0 dX0_init_4 (pc' := 5) rfl ?_
  refine gk_iconst (v := 0) dX0_init_5 (pc' := 6) rfl (by decide) ?_
  refine gk_putf (fs := [_, _, _, _]) gP_Act_7 dX0_init_6 (pc' := 9) rfl (by assumption) rfl rfl (Nat.le_of_ble_eq_true rfl) ?_
  refine gk_aload0 dX0_init_9 (pc' := 10) rfl ?_
  refine gk_iconst (v := 0) dX0_init_10 (pc' := 11) rfl (by decide) ?_
  refine gk_putf (fs := [_, _, _, _]) gP_Act_13 dX0_init_11 (pc' := 14) rfl (by exact (gk_set_self)) rfl rfl (Nat.le_of_ble_eq_true rfl) ?_
  refine gk_aload0 dX0_init_14 (pc' := 15) rfl ?_
  refine gk_newcA (x := (a + 1)) (by exact hs) (N := 4) (bc := 3) (bs := 273) gC_Act_17 dX0_init_15 (pc' := 18) rfl ?_
  refine (fun (hB : gk_H) (g0 : hB.1 a = some (.inr (0, [.int 0, .int 0, .null, .null]))) (g1 : hB.1 (a + 1) = some (.inr (6, [.int 0, .int 0, .int 0, .null]))) (g2 : ∀ c, c < a → hB.1 c = h.1 c) (g3 : hB.2 = a + 2) => (?_ : G _ _ _ _ _ _ _ hB _)) _ ((gk_new_ne (by show a ≠ h.2; omega)).trans gk_set_self) (by rw [← hs]; exact gk_new_self) (fun c hc => (gk_new_ne (by show c ≠ h.2; omega)).trans ((gk_set_ne (by omega)).trans (gk_set_ne (by omega)))) (by show h.2 + 1 = a + 2; omega)
  refine gk_dup dX0_init_18 (pc' := 19) rfl rfl ?_
  refine gk_cIN_0 (b' := (1, 256)) (b2 := (2, 17)) mi_Picture_init (host := "DarkRoom") (by decide +kernel) dX0_init_19 (pc' := 22) rfl (Nat.le_of_ble_eq_true rfl) (by first | decide | (dsimp only; omega)) (by first | decide | (dsimp only; omega)) (sp_Picture_init g1 g3 (fun h1 y1 y2 y3 => ?_))
  refine ⟨rfl, ?_⟩
  refine gk_putf (fs := [_, _, _, _]) gP_Act_20 dX0_init_22 (pc' := 25) rfl (by exact ((y2 _ (by omega) (by omega)).trans g0)) rfl rfl (Nat.le_of_ble_eq_true rfl) ?_
  refine gk_aload0 dX0_init_25 (pc' := 26) rfl ?_
  refine gk_newcA (x := (a + 3)) (by exact y3) (N := 1) (bc := 1) (bs := 16) gC_Act_24 dX0_init_26 (pc' := 29) rfl ?_
  refine (fun (hC : gk_H) (g0' : hC.1 a = some (.inr (0, [.int 0, .int 0, .ref (a + 1), .null]))) (g1' : hC.1 (a + 3) = some (.inr (5, [.null]))) (g2' : ∀ c, c < a → hC.1 c = h.1 c) (g3' : hC.2 = a + 4) (g4 : isPic X hC (a + 1) (-1) 0 0 (fun _ => 0)) => (?_ : G _ _ _ _ _ _ _ hC _)) _ ((gk_new_ne (by show a ≠ h1.2; omega)).trans gk_set_self) (by rw [show a + 3 = h1.2 from y3.symm]; exact gk_new_self) (fun c hc => (gk_new_ne (by show c ≠ h1.2; omega)).trans ((gk_set_ne (by omega)).trans ((y2 _ (by omega) (by omega)).trans (g2 c hc)))) (by show h1.2 + 1 = a + 4; omega) (y1.kept ((gk_new_ne (by show _ ≠ h1.2; omega)).trans (gk_set_ne (by omega))) ((gk_new_ne (by show _ ≠ h1.2; omega)).trans (gk_set_ne (by omega))))
  refine gk_dup dX0_init_29 (pc' := 30) rfl rfl ?_
  refine gk_cIN_0 (b' := (1, 16)) (b2 := (0, 0)) mi_Mask_init (host := "DarkRoom") (by decide +kernel) dX0_init_30 (pc' := 33) rfl (Nat.le_of_ble_eq_true rfl) (by first | decide | (dsimp only; omega)) (by first | decide | (dsimp only; omega)) (sp_Mask_init g1' g3' (fun h2 z1 z2 z3 => ?_))
  refine ⟨rfl, ?_⟩
  refine gk_putf (fs := [_, _, _, _]) gP_Act_27 dX0_init_33 (pc' := 36) rfl (by exact ((z2 _ (by omega) (by omega)).trans g0')) rfl rfl (Nat.le_of_ble_eq_true rfl) ?_
  refine gk_vret dX0_init_36 rfl (hQ _ ⟨gk_set_self, (g4.kept (z2 _ (by omega) (by omega)) (z2 _ (by omega) (by omega))).kept (gk_set_ne (by omega)) (gk_set_ne (by omega)), z1.kept (gk_set_ne (by omega)) (gk_set_ne (by omega))⟩ (fun c hc => (gk_set_ne (by omega)).trans ((z2 _ (by omega) (by omega)).trans (g2' c hc))) (by show h2.2 = a + 5; omega))
theorem lp_History_init {h0 : gk_H} (hQ : ∀ h', isHy X h' a 0 0 0 → (∀ i, i < 16 → actAt X h' (a + 2 + 5 * i)) → (∀ c, c < a → h'.1 c = h0.1 c) → h'.2 = a + 82 → Q none h') : ∀ n i h (f : Nat → Option Nat), i + n = 16 → h.1 a = some (.inr (4, [.ref (a + 1), .int 0, .int 0, .int 0])) → h.1 (a + 1) = some (cR X 5 16 f) → (∀ j, j < i → f j = some (a + 2 + 5 * j)) → (∀ j, j < i → actAt X h (a + 2 + 5 * j)) → (∀ c, c < a → h.1 c = h0.1 c) → h.2 = a + 2 + 5 * i → G (kx X) mt_History_init (d + 3) (5 * n, 281 * n) 30 [some (.ref a), some (.int (nI i))] [] h Q := by
  intro n
  induction n with
  | zero =>
    intro i h f hi g0 g1 g2 g3 g4 g5
    have e : i = 16 := by omega
    subst e
    refine gk_iload1 dX4_init_30 (pc' := 31) rfl ?_
    refine gk_bipush (v := 16) dX4_init_31 (pc' := 33) rfl (by decide) ?_
    refine gk_icmp_ge dX4_init_33 (tgt := 55) (pc' := 36) (by decide) rfl (fun c33 => ?_) (fun c33 => absurd (by decide) c33)
    refine gk_vret dX4_init_55 rfl (hQ h ⟨g0, f, g1, g2⟩ g3 g4 g5)
  | succ n ih =>
    intro i h f hi g0 g1 g2 g3 g4 g5
    refine G.bud (b' := (5 * n + 4 + 1, 281 * n + 277 + 4)) (by dsimp only; omega) (by dsimp only; omega) ?_
    refine gk_iload1 dX4_init_30 (pc' := 31) rfl ?_
    refine gk_bipush (v := 16) dX4_init_31 (pc' := 33) rfl (by decide) ?_
    refine gk_icmp_ge dX4_init_33 (tgt := 55) (pc' := 36) (by decide) rfl (fun c33 => absurd c33 (nI_ge (b := 16) (by omega) (by omega))) (fun c33 => ?_)
    refine gk_aload0 dX4_init_36 (pc' := 37) rfl ?_
    refine gk_getf (fs := [_, _, _, _]) gF_History_11 dX4_init_37 (pc' := 40) rfl (by exact (g0)) rfl ?_
    refine gk_iload1 dX4_init_40 (pc' := 41) rfl ?_
    refine gk_newcA (x := (a + 2 + 5 * i)) (g5) (N := 4) (bc := 5 * n + 4) (bs := 281 * n + 277) gC_History_9 dX4_init_41 (pc' := 44) rfl ?_
    refine gk_dup dX4_init_44 (pc' := 45) rfl rfl ?_
    refine gk_cIN_0 (b' := (4, 277)) (b2 := (5 * n, 281 * n)) mi_Act_init (host := "DarkRoom") (by decide +kernel) dX4_init_45 (pc' := 48) rfl (Nat.le_of_ble_eq_true rfl) (by first | decide | (dsimp only; omega)) (by first | decide | (dsimp only; omega)) (sp_Act_init (by rw [← g5]; exact gk_new_self) (by show h.2 + 1 = _; omega) (fun h1 y1 y2 y3 => ?_))
    refine ⟨rfl, ?_⟩
    refine gk_aast (t0 := 5) rfl (r := (RX0, TX0, 4)) rfl dX4_init_48 (pc' := 49) rfl (by exact ((y2 _ (by omega)).trans ((gk_new_ne (by omega)).trans g1))) (by exact (y1.1)) (vp_in_nI (show i < 16 by omega) (by decide)) ?_
    rw [nI_clamp (by omega)]
    refine gk_iinc1 (v := 1) dX4_init_49 (pc' := 52) rfl (by decide) (by decide) rfl ?_
    refine gk_goto dX4_init_52 (tgt := 30) (by decide) ?_
    rw [← nI_succ]
    refine ih (i + 1) _ _ (by omega) ((gk_set_ne (by omega)).trans ((y2 _ (by omega)).trans ((gk_new_ne (by omega)).trans g0))) gk_set_self (fun j hj => ?_) (fun j hj => ?_) (fun c hc => (gk_set_ne (by omega)).trans ((y2 _ (by omega)).trans ((gk_new_ne (by omega)).trans (g4 c hc)))) (by show h1.2 = _; omega)
    · show (if j = i then some (a + 2 + 5 * i) else f j) = _
      by_cases q : j = i
      · rw [if_pos q, q]
      · rw [if_neg q]; exact g2 j (by omega)
    · by_cases q : j = i
      · subst q; exact y1.kept (fun c z1 z2 => gk_set_ne (by omega))
      · exact (g3 j (by omega)).kept (fun c z1 z2 => (gk_set_ne (by omega)).trans ((y2 _ (by omega)).trans (gk_new_ne (by omega))))
theorem sp_History_init (ha : h.1 a = some (.inr (4, [.null, .int 0, .int 0, .int 0]))) (hs : h.2 = a + 1) (hQ : ∀ h', isHy X h' a 0 0 0 → (∀ i, i < 16 → actAt X h' (a + 2 + 5 * i)) → (∀ c, c < a → h'.1 c = h.1 c) → h'.2 = a + 82 → Q none h') : Gm (kx X) mt_History_init (d + 3) (81, 4512) [.ref a] h Q := by
  refine Gm.enter (L := [some (.ref a), none]) (by decide) (fun _ => trivial) (Nat.le_of_ble_eq_true rfl) rfl ?_
  refine gk_aload0 dX4_init_0 (pc' := 1) rfl ?_
  refine gk_objInit gw_76 gw_23 gw_24 dX4_init_1 (pc' := 4) rfl (Nat.le_of_ble_eq_true rfl) ?_
  refine gk_aload0 dX4_init_4 (pc' := 5) rfl ?_
  refine gk_bipush (v := 16) dX4_init_5 (pc' := 7) rfl (by decide) ?_
  refine gk_newaA (x0 := (a + 1)) (by exact hs) (n := 16) (bc := 80) (bs := 4496) (t0 := 5) rfl gw_77 (by decide) dX4_init_7 (pc' := 10) rfl rfl (by decide) ?_
  refine gk_putF (fs := [_, _, _, _]) gP_History_11 rfl dX4_init_10 (pc' := 13) rfl (by exact ((gk_new_ne (by omega)).trans ha)) rfl rfl (Nat.le_of_ble_eq_true rfl) ?_
  refine gk_aload0 dX4_init_13 (pc' := 14) rfl ?_
  refine gk_iconst (v := 0) dX4_init_14 (pc' := 15) rfl (by decide) ?_
  refine gk_putf (fs := [_, _, _, _]) gP_History_17 dX4_init_15 (pc' := 18) rfl (by exact (gk_set_self)) rfl rfl (Nat.le_of_ble_eq_true rfl) ?_
  refine gk_aload0 dX4_init_18 (pc' := 19) rfl ?_
  refine gk_iconst (v := 0) dX4_init_19 (pc' := 20) rfl (by decide) ?_
  refine gk_putf (fs := [_, _, _, _]) gP_History_21 dX4_init_20 (pc' := 23) rfl (by exact (gk_set_self)) rfl rfl (Nat.le_of_ble_eq_true rfl) ?_
  refine gk_aload0 dX4_init_23 (pc' := 24) rfl ?_
  refine gk_iconst (v := 0) dX4_init_24 (pc' := 25) rfl (by decide) ?_
  refine gk_putf (fs := [_, _, _, _]) gP_History_24 dX4_init_25 (pc' := 28) rfl (by exact (gk_set_self)) rfl rfl (Nat.le_of_ble_eq_true rfl) ?_
  refine gk_iconst (v := 0) dX4_init_28 (pc' := 29) rfl (by decide) ?_
  refine gk_istore1 dX4_init_29 (pc' := 30) rfl (by decide) rfl ?_
  refine lp_History_init hQ 16 0 _ (fun _ => none) (by omega) gk_set_self ?_ (fun j hj => absurd hj (by omega)) (fun j hj => absurd hj (by omega)) (fun c hc => ?_) (by show h.2 + 1 = _; omega)
  · rw [gk_set_ne (by omega), gk_set_ne (by omega), gk_set_ne (by omega), gk_set_ne (by omega), ← hs]; exact gk_new_self
  · rw [gk_set_ne (by omega), gk_set_ne (by omega), gk_set_ne (by omega), gk_set_ne (by omega)]; exact gk_new_ne (by omega)
theorem lp_Bench_init {h0 : gk_H} (hQ : ∀ h' g, isBn X h' a g → isBt X h' a → (∀ c, c < a → h'.1 c = h0.1 c) → h'.2 = a + 11 → Q none h') : ∀ n i h (f : Nat → Option Nat), i + n = 4 → h.1 a = some (.inr (1, [.ref (a + 1), .ref (a + 2)])) → h.1 (a + 1) = some (cR X 2 4 f) → h.1 (a + 2) = some (cI X 9 (fun _ => 0)) → (∀ j, j < i → f j = some (a + 3 + 2 * j)) → (∀ j, j < i → isPic X h (a + 3 + 2 * j) (-1) 0 0 (fun _ => 0)) → (∀ c, c < a → h.1 c = h0.1 c) → h.2 = a + 3 + 2 * i → G (kx X) mt_Bench_init (d + 2) (2 * n, 260 * n) 22 [some (.ref a), some (.int (nI i))] [] h Q := by
  intro n
  induction n with
  | zero =>
    intro i h f hi g0 g1 g6 g2 g3 g4 g5
    have e : i = 4 := by omega
    subst e
    refine gk_iload1 dX1_init_22 (pc' := 23) rfl ?_
    refine gk_iconst (v := 4) dX1_init_23 (pc' := 24) rfl (by decide) ?_
    refine gk_icmp_ge dX1_init_24 (tgt := 46) (pc' := 27) (by decide) rfl (fun c24 => ?_) (fun c24 => absurd (by decide) c24)
    refine gk_vret dX1_init_46 rfl (hQ h (fun _ => 0) ⟨g0, ⟨f, g1, g2⟩, _, g6, fun _ _ => rfl⟩ (fun j hj => ⟨_, _, _, _, g3 j hj⟩) g4 g5)
  | succ n ih =>
    intro i h f hi g0 g1 g6 g2 g3 g4 g5
    refine G.bud (b' := (2 * n + 1 + 1, 260 * n + 256 + 4)) (by dsimp only; omega) (by dsimp only; omega) ?_
    refine gk_iload1 dX1_init_22 (pc' := 23) rfl ?_
    refine gk_iconst (v := 4) dX1_init_23 (pc' := 24) rfl (by decide) ?_
    refine gk_icmp_ge dX1_init_24 (tgt := 46) (pc' := 27) (by decide) rfl (fun c24 => absurd c24 (nI_ge (b := 4) (by omega) (by omega))) (fun c24 => ?_)
    refine gk_aload0 dX1_init_27 (pc' := 28) rfl ?_
    refine gk_getf (fs := [_, _]) gF_Bench_11 dX1_init_28 (pc' := 31) rfl (by exact (g0)) rfl ?_
    refine gk_iload1 dX1_init_31 (pc' := 32) rfl ?_
    refine gk_newcA (x := (a + 3 + 2 * i)) (g5) (N := 4) (bc := 2 * n + 1) (bs := 260 * n + 256) gC_Bench_9 dX1_init_32 (pc' := 35) rfl ?_
    refine gk_dup dX1_init_35 (pc' := 36) rfl rfl ?_
    refine gk_cIN_0 (b' := (1, 256)) (b2 := (2 * n, 260 * n)) mi_Picture_init (host := "DarkRoom") (by decide +kernel) dX1_init_36 (pc' := 39) rfl (Nat.le_of_ble_eq_true rfl) (by first | decide | (dsimp only; omega)) (by first | decide | (dsimp only; omega)) (sp_Picture_init (by rw [← g5]; exact gk_new_self) (by show h.2 + 1 = _; omega) (fun h1 y1 y2 y3 => ?_))
    refine ⟨rfl, ?_⟩
    refine gk_aast (t0 := 2) rfl (r := (RX6, TX6, 4)) rfl dX1_init_39 (pc' := 40) rfl (by exact ((y2 _ (by omega) (by omega)).trans ((gk_new_ne (by omega)).trans g1))) (by exact (y1.o)) (vp_in_nI (show i < 4 by omega) (by decide)) ?_
    rw [nI_clamp (by omega)]
    refine gk_iinc1 (v := 1) dX1_init_40 (pc' := 43) rfl (by decide) (by decide) rfl ?_
    refine gk_goto dX1_init_43 (tgt := 22) (by decide) ?_
    rw [← nI_succ]
    refine ih (i + 1) _ _ (by omega) ((gk_set_ne (by omega)).trans ((y2 _ (by omega) (by omega)).trans ((gk_new_ne (by omega)).trans g0))) gk_set_self ((gk_set_ne (by omega)).trans ((y2 _ (by omega) (by omega)).trans ((gk_new_ne (by omega)).trans g6))) (fun j hj => ?_) (fun j hj => ?_) (fun c hc => (gk_set_ne (by omega)).trans ((y2 _ (by omega) (by omega)).trans ((gk_new_ne (by omega)).trans (g4 c hc)))) (by show h1.2 = _; omega)
    · show (if j = i then some (a + 3 + 2 * i) else f j) = _
      by_cases q : j = i
      · rw [if_pos q, q]
      · rw [if_neg q]; exact g2 j (by omega)
    · by_cases q : j = i
      · subst q; exact y1.kept (gk_set_ne (by omega)) (gk_set_ne (by omega))
      · exact (g3 j (by omega)).kept ((gk_set_ne (by omega)).trans ((y2 _ (by omega) (by omega)).trans (gk_new_ne (by omega)))) ((gk_set_ne (by omega)).trans ((y2 _ (by omega) (by omega)).trans (gk_new_ne (by omega))))
theorem sp_Bench_init (ha : h.1 a = some (.inr (1, [.null, .null]))) (hs : h.2 = a + 1) (hQ : ∀ h' g, isBn X h' a g → isBt X h' a → (∀ c, c < a → h'.1 c = h.1 c) → h'.2 = a + 11 → Q none h') : Gm (kx X) mt_Bench_init (d + 2) (10, 1053) [.ref a] h Q := by
  refine Gm.enter (L := [some (.ref a), none]) (by decide) (fun _ => trivial) (Nat.le_of_ble_eq_true rfl) rfl ?_
  refine gk_aload0 dX1_init_0 (pc' := 1) rfl ?_
  refine gk_objInit gw_125 gw_23 gw_24 dX1_init_1 (pc' := 4) rfl (Nat.le_of_ble_eq_true rfl) ?_
  refine gk_aload0 dX1_init_4 (pc' := 5) rfl ?_
  refine gk_iconst (v := 4) dX1_init_5 (pc' := 6) rfl (by decide) ?_
  refine gk_newaA (x0 := (a + 1)) (by exact hs) (n := 4) (bc := 9) (bs := 1049) (t0 := 2) rfl gw_126 (by decide) dX1_init_6 (pc' := 9) rfl rfl (by decide) ?_
  refine gk_putF (fs := [_, _]) gP_Bench_11 rfl dX1_init_9 (pc' := 12) rfl (by exact ((gk_new_ne (by omega)).trans ha)) rfl rfl (Nat.le_of_ble_eq_true rfl) ?_
  refine gk_aload0 dX1_init_12 (pc' := 13) rfl ?_
  refine gk_bipush (v := 9) dX1_init_13 (pc' := 15) rfl (by decide) ?_
  refine gk_newiA (x0 := (a + 2)) (by show h.2 + 1 = a + 2; omega) (n := 9) (bc := 8) (bs := 1040) (t0 := 0) rfl gw_61 dX1_init_15 (pc' := 17) rfl rfl (by decide) ?_
  refine gk_putF (fs := [_, _]) gP_Bench_17 rfl dX1_init_17 (pc' := 20) rfl (by exact ((gk_new_ne (by show a ≠ h.2 + 1; omega)).trans gk_set_self)) rfl rfl (Nat.le_of_ble_eq_true rfl) ?_
  refine gk_iconst (v := 0) dX1_init_20 (pc' := 21) rfl (by decide) ?_
  refine gk_istore1 dX1_init_21 (pc' := 22) rfl (by decide) rfl ?_
  refine lp_Bench_init hQ 4 0 _ (fun _ => none) (by omega) gk_set_self ?_ ?_ (fun j hj => absurd hj (by omega)) (fun j hj => absurd hj (by omega)) (fun c hc => ?_) (by show h.2 + 1 + 1 = _; omega)
  · rw [gk_set_ne (by omega), gk_new_ne (by show a + 1 ≠ h.2 + 1; omega), gk_set_ne (by omega), ← hs]; exact gk_new_self
  · rw [gk_set_ne (by omega), show a + 2 = h.2 + 1 by omega]; exact gk_new_self
  · rw [gk_set_ne (by omega), gk_new_ne (by show c ≠ h.2 + 1; omega), gk_set_ne (by omega)]; exact gk_new_ne (by omega)
theorem lp_Room_initM {h0 : gk_H} {f0 f2 f3 f4 f5 f6 f7 f8 f9 f10 f11 : Value} (hr : h0.1 r = some (.inr (10, [f0, .ref (r + 2), f2, f3, f4, f5, f6, f7, f8, f9, f10, f11]))) (hQ : ∀ h' (f : Nat → Option Nat), h'.1 (r + 2) = some (cR X 3 6 f) → (∀ j, j < 6 → f j = some (r + 128 + 2 * j)) → (∀ j, j < 6 → isMk X h' (r + 128 + 2 * j) (fun _ => 0)) → (∀ c, c ≠ r + 2 → c < r + 128 → h'.1 c = h0.1 c) → h'.2 = r + 140 → Q none h') : ∀ n i h (f : Nat → Option Nat), i + n = 6 → h.1 (r + 2) = some (cR X 3 6 f) → (∀ j, j < i → f j = some (r + 128 + 2 * j)) → (∀ j, j < i → isMk X h (r + 128 + 2 * j) (fun _ => 0)) → (∀ c, c ≠ r + 2 → c < r + 128 → h.1 c = h0.1 c) → h.2 = r + 128 + 2 * i → G (kx X) mt_Room_init (d + 4) (2 * n + 0, 17 * n + 0) 153 [some (.ref r), some (.int (nI i))] [] h Q := by
  intro n
  induction n with
  | zero =>
    intro i h f hi g1 g2 g3 g4 g5
    have e : i = 6 := by omega
    subst e
    refine G.bud (b' := (0, 0)) (by dsimp only; omega) (by dsimp only; omega) ?_
    refine gk_iload1 dX10_init_153 (pc' := 154) rfl ?_
    refine gk_bipush (v := 6) dX10_init_154 (pc' := 156) rfl (by decide) ?_
    refine gk_icmp_ge dX10_init_156 (tgt := 178) (pc' := 159) (by decide) rfl (fun c156 => ?_) (fun c156 => absurd (by decide) c156)
    refine gk_vret dX10_init_178 rfl (hQ h f g1 g2 g3 g4 g5)
  | succ n ih =>
    intro i h f hi g1 g2 g3 g4 g5
    have g0 := (g4 r (by omega) (by omega)).trans hr
    refine G.bud (b' := (2 * n + 0 + 1 + 1, 17 * n + 0 + 16 + 1)) (by dsimp only; omega) (by dsimp only; omega) ?_
    refine gk_iload1 dX10_init_153 (pc' := 154) rfl ?_
    refine gk_bipush (v := 6) dX10_init_154 (pc' := 156) rfl (by decide) ?_
    refine gk_icmp_ge dX10_init_156 (tgt := 178) (pc' := 159) (by decide) rfl (fun c156 => absurd c156 (nI_ge (b := 6) (by omega) (by omega))) (fun c156 => ?_)
    refine gk_aload0 dX10_init_159 (pc' := 160) rfl ?_
    refine gk_getf (fs := [_, _, _, _, _, _, _, _, _, _, _, _]) gF_Room_17 dX10_init_160 (pc' := 163) rfl (by exact (g0)) rfl ?_
    refine gk_iload1 dX10_init_163 (pc' := 164) rfl ?_
    refine gk_newcA (x := (r + 128 + 2 * i)) (g5) (N := 1) (bc := 2 * n + 0 + 1) (bs := 17 * n + 0 + 16) gC_Room_15 dX10_init_164 (pc' := 167) rfl ?_
    refine gk_dup dX10_init_167 (pc' := 168) rfl rfl ?_
    refine gk_cIN_0 (b' := (1, 16)) (b2 := (2 * n + 0, 17 * n + 0)) mi_Mask_init (host := "DarkRoom") (by decide +kernel) dX10_init_168 (pc' := 171) rfl (Nat.le_of_ble_eq_true rfl) (by first | decide | (dsimp only; omega)) (by first | decide | (dsimp only; omega)) (sp_Mask_init (by rw [← g5]; exact gk_new_self) (by show h.2 + 1 = _; omega) (fun h1 y1 y2 y3 => ?_))
    refine ⟨rfl, ?_⟩
    refine gk_aast (t0 := 3) rfl (r := (RX5, TX5, 1)) rfl dX10_init_171 (pc' := 172) rfl (by exact ((y2 _ (by omega) (by omega)).trans ((gk_new_ne (by omega)).trans g1))) (by exact (y1.o)) (vp_in_nI (show i < 6 by omega) (by decide)) ?_
    rw [nI_clamp (by omega)]
    refine gk_iinc1 (v := 1) dX10_init_172 (pc' := 175) rfl (by decide) (by decide) rfl ?_
    refine gk_goto dX10_init_175 (tgt := 153) (by decide) ?_
    rw [← nI_succ]
    refine ih (i + 1) _ _ (by omega) gk_set_self (fun j hj => ?_) (fun j hj => ?_) (fun c n1 hc => (gk_set_ne n1).trans ((y2 _ (by omega) (by omega)).trans ((gk_new_ne (by omega)).trans (g4 c n1 hc)))) (by show h1.2 = _; omega)
    · show (if j = i then some (r + 128 + 2 * i) else f j) = _
      by_cases q : j = i
      · rw [if_pos q, q]
      · rw [if_neg q]; exact g2 j (by omega)
    · by_cases q : j = i
      · subst q; exact y1.kept (gk_set_ne (by omega)) (gk_set_ne (by omega))
      · exact (g3 j (by omega)).kept ((gk_set_ne (by omega)).trans ((y2 _ (by omega) (by omega)).trans (gk_new_ne (by omega)))) ((gk_set_ne (by omega)).trans ((y2 _ (by omega) (by omega)).trans (gk_new_ne (by omega))))
theorem lp_Room_initP {h0 : gk_H} {f1 f2 f3 f4 f5 f6 f7 f8 f9 f10 f11 : Value} (hr : h0.1 r = some (.inr (10, [.ref (r + 1), f1, f2, f3, f4, f5, f6, f7, f8, f9, f10, f11]))) (hQ : ∀ h' (f : Nat → Option Nat), h'.1 (r + 1) = some (cR X 2 8 f) → (∀ j, j < 8 → f j = some (r + 112 + 2 * j)) → (∀ j, j < 8 → isPic X h' (r + 112 + 2 * j) (-1) 0 0 (fun _ => 0)) → (∀ c, c ≠ r + 1 → c < r + 112 → h'.1 c = h0.1 c) → h'.2 = r + 128 → ∀ l1, G (kx X) mt_Room_init (d + 4) (12, 102) 151 [some (.ref r), l1] [] h' Q) : ∀ n i h (f : Nat → Option Nat), i + n = 8 → h.1 (r + 1) = some (cR X 2 8 f) → (∀ j, j < i → f j = some (r + 112 + 2 * j)) → (∀ j, j < i → isPic X h (r + 112 + 2 * j) (-1) 0 0 (fun _ => 0)) → (∀ c, c ≠ r + 1 → c < r + 112 → h.1 c = h0.1 c) → h.2 = r + 112 + 2 * i → G (kx X) mt_Room_init (d + 4) (2 * n + 12, 260 * n + 102) 126 [some (.ref r), some (.int (nI i))] [] h Q := by
  intro n
  induction n with
  | zero =>
    intro i h f hi g1 g2 g3 g4 g5
    have e : i = 8 := by omega
    subst e
    refine G.bud (b' := (12, 102)) (by dsimp only; omega) (by dsimp only; omega) ?_
    refine gk_iload1 dX10_init_126 (pc' := 127) rfl ?_
    refine gk_bipush (v := 8) dX10_init_127 (pc' := 129) rfl (by decide) ?_
    refine gk_icmp_ge dX10_init_129 (tgt := 151) (pc' := 132) (by decide) rfl (fun c129 => ?_) (fun c129 => absurd (by decide) c129)
    exact hQ h f g1 g2 g3 g4 g5 _
  | succ n ih =>
    intro i h f hi g1 g2 g3 g4 g5
    have g0 := (g4 r (by omega) (by omega)).trans hr
    refine G.bud (b' := (2 * n + 12 + 1 + 1, 260 * n + 102 + 256 + 4)) (by dsimp only; omega) (by dsimp only; omega) ?_
    refine gk_iload1 dX10_init_126 (pc' := 127) rfl ?_
    refine gk_bipush (v := 8) dX10_init_127 (pc' := 129) rfl (by decide) ?_
    refine gk_icmp_ge dX10_init_129 (tgt := 151) (pc' := 132) (by decide) rfl (fun c129 => absurd c129 (nI_ge (b := 8) (by omega) (by omega))) (fun c129 => ?_)
    refine gk_aload0 dX10_init_132 (pc' := 133) rfl ?_
    refine gk_getf (fs := [_, _, _, _, _, _, _, _, _, _, _, _]) gF_Room_11 dX10_init_133 (pc' := 136) rfl (by exact (g0)) rfl ?_
    refine gk_iload1 dX10_init_136 (pc' := 137) rfl ?_
    refine gk_newcA (x := (r + 112 + 2 * i)) (g5) (N := 4) (bc := 2 * n + 12 + 1) (bs := 260 * n + 102 + 256) gC_Room_9 dX10_init_137 (pc' := 140) rfl ?_
    refine gk_dup dX10_init_140 (pc' := 141) rfl rfl ?_
    refine gk_cIN_0 (b' := (1, 256)) (b2 := (2 * n + 12, 260 * n + 102)) mi_Picture_init (host := "DarkRoom") (by decide +kernel) dX10_init_141 (pc' := 144) rfl (Nat.le_of_ble_eq_true rfl) (by first | decide | (dsimp only; omega)) (by first | decide | (dsimp only; omega)) (sp_Picture_init (by rw [← g5]; exact gk_new_self) (by show h.2 + 1 = _; omega) (fun h1 y1 y2 y3 => ?_))
    refine ⟨rfl, ?_⟩
    refine gk_aast (t0 := 2) rfl (r := (RX6, TX6, 4)) rfl dX10_init_144 (pc' := 145) rfl (by exact ((y2 _ (by omega) (by omega)).trans ((gk_new_ne (by omega)).trans g1))) (by exact (y1.o)) (vp_in_nI (show i < 8 by omega) (by decide)) ?_
    rw [nI_clamp (by omega)]
    refine gk_iinc1 (v := 1) dX10_init_145 (pc' := 148) rfl (by decide) (by decide) rfl ?_
    refine gk_goto dX10_init_148 (tgt := 126) (by decide) ?_
    rw [← nI_succ]
    refine ih (i + 1) _ _ (by omega) gk_set_self (fun j hj => ?_) (fun j hj => ?_) (fun c n1 hc => (gk_set_ne n1).trans ((y2 _ (by omega) (by omega)).trans ((gk_new_ne (by omega)).trans (g4 c n1 hc)))) (by show h1.2 = _; omega)
    · show (if j = i then some (r + 112 + 2 * i) else f j) = _
      by_cases q : j = i
      · rw [if_pos q, q]
      · rw [if_neg q]; exact g2 j (by omega)
    · by_cases q : j = i
      · subst q; exact y1.kept (gk_set_ne (by omega)) (gk_set_ne (by omega))
      · exact (g3 j (by omega)).kept ((gk_set_ne (by omega)).trans ((y2 _ (by omega) (by omega)).trans (gk_new_ne (by omega)))) ((gk_set_ne (by omega)).trans ((y2 _ (by omega) (by omega)).trans (gk_new_ne (by omega))))
end MkO
