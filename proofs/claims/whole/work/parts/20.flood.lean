/-! ===== Flood ===== -/
def okF (p : Nat → Int32) (s : Nat) (tol : Int) (j : Nat) : Prop := -tol ≤ (p j).toInt - (p s).toInt ∧ (p j).toInt - (p s).toInt ≤ tol
def adjF (w t i j : Nat) : Prop := j < w * t ∧ ((j % w = i % w ∧ (j / w + 1 = i / w ∨ j / w = i / w + 1)) ∨ (j / w = i / w ∧ (j % w + 1 = i % w ∨ j % w = i % w + 1)))
/-- a way leads to i -/
def Rch (w t : Nat) (p : Nat → Int32) (s : Nat) (tol : Int) (i : Nat) : Prop := ∀ S : Nat → Prop, S s → (∀ i j, S i → adjF w t i j → okF p s tol j → S j) → S i
theorem Rch.start {w t : Nat} {p : Nat → Int32} {s : Nat} {tol : Int} : Rch w t p s tol s := fun _ h _ => h
theorem Rch.step {w t : Nat} {p : Nat → Int32} {s : Nat} {tol : Int} {i j : Nat} (h : Rch w t p s tol i) (ha : adjF w t i j) (ho : okF p s tol j) : Rch w t p s tol j := fun S h0 hs => hs i j (h S h0 hs) ha ho
noncomputable def rB (w t : Nat) (p : Nat → Int32) (s : Nat) (tol : Int) (j : Nat) : Bool := @decide (Rch w t p s tol j) (Classical.propDecidable _)
theorem rB_iff {w t : Nat} {p : Nat → Int32} {s : Nat} {tol : Int} {j : Nat} : rB w t p s tol j = true ↔ Rch w t p s tol j := by
  unfold rB
  exact @decide_eq_true_iff _ (Classical.propDecidable _)
def cntB (f : Nat → Bool) : Nat → Nat
  | 0 => 0
  | n + 1 => cntB f n + (if f n then 1 else 0)
theorem cntB_le (f : Nat → Bool) : ∀ n, cntB f n ≤ n
  | 0 => Nat.le_refl 0
  | n + 1 => by
    have := cntB_le f n
    unfold cntB
    split <;> omega
theorem cntB_lt {f : Nat → Bool} {j : Nat} (hj : f j = false) : ∀ n, j < n → cntB f n < n
  | 0, h => absurd h (by omega)
  | n + 1, h => by
    unfold cntB
    by_cases q : j = n
    · subst q
      have := cntB_le f j
      rw [hj]
      simp
      omega
    · have := cntB_lt hj n (by omega)
      split <;> omega
theorem cntB_congr {f g : Nat → Bool} : ∀ n, (∀ i, i < n → f i = g i) → cntB f n = cntB g n
  | 0, _ => rfl
  | n + 1, h => by
    unfold cntB
    rw [cntB_congr n (fun i hi => h i (by omega)), h n (by omega)]
theorem cntB_add {f g : Nat → Bool} {j : Nat} (hf : f j = false) (hg : g j = true) (ho : ∀ i, i ≠ j → g i = f i) : ∀ n, j < n → cntB g n = cntB f n + 1
  | 0, h => absurd h (by omega)
  | n + 1, h => by
    unfold cntB
    by_cases q : j = n
    · subst q
      rw [cntB_congr j (fun i hi => ho i (by omega)), hf, hg]
      simp
    · rw [cntB_add hf hg ho n (by omega), ho n (by omega)]
      split <;> omega
theorem cntB_ext {f : Nat → Bool} {m : Nat} (hf : ∀ i, m ≤ i → f i = false) : ∀ n, cntB f (m + n) = cntB f m
  | 0 => rfl
  | n + 1 => by
    show cntB f (m + n) + (if f (m + n) then 1 else 0) = _
    rw [cntB_ext hf n, hf (m + n) (by omega)]
    rfl
/-- a Flood object at a: the places reached (the first n), which are wet -/
def isFd (X : gX) (h : gk_H) (a : Nat) (pl : Nat → Int32) (wt : Nat → Bool) (n : Nat) : Prop := h.1 a = some (.inr (3, [.ref (a + 1), .ref (a + 2), .int (nI n)])) ∧ h.1 (a + 1) = some (cI X 256 pl) ∧ h.1 (a + 2) = some (cZ X 256 (fun j => if wt j then 1 else 0))
/-- a place x, y is come to -/
def rst (w t : Nat) (p : Nat → Int32) (s : Nat) (tol x y : Int) (F : (Nat → Int32) × (Nat → Bool) × Nat) (F' : (Nat → Int32) × (Nat → Bool) × Nat) : Prop :=
  (∃ j, (0 ≤ x ∧ x < w ∧ 0 ≤ y ∧ y < t) ∧ j = y.toNat * w + x.toNat ∧ F.2.1 j = false ∧ okF p s tol j ∧ F' = (upd F.1 F.2.2 (nI j), fun i => if i = j then true else F.2.1 i, F.2.2 + 1)) ∨ (F' = F ∧ ((0 ≤ x ∧ x < w ∧ 0 ≤ y ∧ y < t) → okF p s tol (y.toNat * w + x.toNat) → F.2.1 (y.toNat * w + x.toNat) = true))
section FdA
variable {X : gX} {d : Nat} {b : Nat × Nat} {h : gk_H} {Q : Option Value → gk_H → Prop} {a o : Nat} {k : Int32} {w t : Nat} {p pl : Nat → Int32} {wt : Nat → Bool} {n : Nat}
theorem sp_Flood_placeAt {i : Nat} (hs : isFd X h a pl wt n) (hi : i < 256) (hQ : Q (some (.int (pl i))) h) : Gm (kx X) mt_Flood_placeAt d b [.ref a, .int (nI i)] h Q := by
  obtain ⟨e1, e2, e3⟩ := hs
  refine Gm.enter (L := [some (.ref a), some (.int (nI i))]) (by decide) (fun _ => trivial) (Nat.le_of_ble_eq_true rfl) rfl ?_
  refine gk_iload1 dX3_placeAt_0 (pc' := 1) rfl ?_
  refine gk_if_lt dX3_placeAt_1 (tgt := 20) (pc' := 4) (by decide) rfl (fun c1 => absurd c1 (nI_pos (by omega))) (fun c1 => ?_)
  refine gk_iload1 dX3_placeAt_4 (pc' := 5) rfl ?_
  refine gk_sipush (v := 256) dX3_placeAt_5 (pc' := 8) rfl (by decide) ?_
  refine gk_icmp_ge dX3_placeAt_8 (tgt := 20) (pc' := 11) (by decide) rfl (fun c8 => absurd c8 (nI_ge (b := 256) (by omega) (by decide))) (fun c8 => ?_)
  refine gk_aload0 dX3_placeAt_11 (pc' := 12) rfl ?_
  refine gk_getf (fs := [_, _, _]) gF_Flood_9 dX3_placeAt_12 (pc' := 15) rfl (by assumption) rfl ?_
  refine gk_iload1 dX3_placeAt_15 (pc' := 16) rfl ?_
  refine gk_iald (t0 := 0) rfl dX3_placeAt_16 (pc' := 17) rfl (by exact (e2)) (vp_in_nI (by omega) (by decide)) ?_
  rw [nI_clamp (by omega)]
  refine gk_goto dX3_placeAt_17 (tgt := 21) (by decide) ?_
  refine gk_iret dX3_placeAt_21 rfl hQ
theorem sp_Flood_reach {x y tol : Int32} {s : Nat} (hs : isFd X h a pl wt n) (hp : isPic X h o k w t p) (hr : ∀ i, i < w * t → -32768 ≤ (p i).toInt ∧ (p i).toInt ≤ 32767) (hst : s < w * t) (hn : n = cntB wt 256)
    (hQ : ∀ h' pl' wt' n', rst w t p s tol.toInt x.toInt y.toInt (pl, wt, n) (pl', wt', n') → isFd X h' a pl' wt' n' → fr (fun c => c = a ∨ c = a + 1 ∨ c = a + 2) h h' → Q none h') : Gm (kx X) mt_Flood_reach (d + 1) b [.ref a, .ref o, .int x, .int y, .int (p s), .int tol] h Q := by
  have g1 := hp.o
  have har := hp.area
  have hw := hp.1
  have hh := hp.2.1
  have hs0 := hs
  obtain ⟨e1, e2, e3⟩ := hs
  have hn6 : n ≤ 256 := by rw [hn]; exact cntB_le _ _
  refine Gm.enter (L := [some (.ref a), some (.ref o), some (.int x), some (.int y), some (.int (p s)), some (.int tol), none]) (by decide) (fun _ => trivial) (Nat.le_of_ble_eq_true rfl) rfl ?_
  refine gk_aload1 dX3_reach_0 (pc' := 1) rfl ?_
  refine gk_iload2 dX3_reach_1 (pc' := 2) rfl ?_
  refine gk_iload3 dX3_reach_2 (pc' := 3) rfl ?_
  refine gk_cV1_2 mv_Picture_has gw_606 dX3_reach_3 (pc' := 6) rfl (Nat.le_of_ble_eq_true rfl) (by exact (g1)) (sp_Picture_has hp (fun i j ei ej hi hj => ?_) (fun c3 => ?_))
  · refine ⟨_, rfl, ?_⟩
    subst ei; subst ej
    have o1 := place_lt hi hj
    have zi : (nI i).toInt = i := nI_toInt (by omega)
    have zj : (nI j).toInt = j := nI_toInt (by omega)
    have rj := hr _ o1
    have rs := hr _ hst
    have zd : (p (j * w + i) - p s).toInt = (p (j * w + i)).toInt - (p s).toInt := Jvm.Kit.i32_sub (by omega) (by omega)
    have za : (if p (j * w + i) - p s < 0 then -(p (j * w + i) - p s) else p (j * w + i) - p s).toInt = (if (p (j * w + i)).toInt - (p s).toInt < 0 then -((p (j * w + i)).toInt - (p s).toInt) else (p (j * w + i)).toInt - (p s).toInt) := by
      have z0 : (0 : Int32).toInt = 0 := rfl
      split
      · rename_i c; rw [pu_lt, zd, z0] at c; rw [if_pos c, Jvm.Kit.i32_neg (by omega), zd]
      · rename_i c; rw [pu_lt, zd, z0] at c; rw [if_neg c, zd]
    rw [zi, zj] at hQ
    refine gk_if_ne dX3_reach_6 (tgt := 10) (pc' := 9) (by decide) rfl (fun _ => ?_) (fun c => absurd c (by decide))
    refine gk_aload1 dX3_reach_10 (pc' := 11) rfl ?_
    refine gk_iload2 dX3_reach_11 (pc' := 12) rfl ?_
    refine gk_iload3 dX3_reach_12 (pc' := 13) rfl ?_
    refine gk_cV1_2 mv_Picture_place gw_600 dX3_reach_13 (pc' := 16) rfl (Nat.le_of_ble_eq_true rfl) (by exact (g1)) (sp_Picture_placeN hp ?_)
    refine ⟨_, rfl, ?_⟩
    refine gk_istore6 dX3_reach_16 (pc' := 18) rfl (by decide) rfl ?_
    refine gk_iload6 dX3_reach_18 (pc' := 20) rfl ?_
    refine gk_sipush (v := 256) dX3_reach_20 (pc' := 23) rfl (by decide) ?_
    refine gk_icmp_ge dX3_reach_23 (tgt := 63) (pc' := 26) (by decide) rfl (fun c23 => absurd c23 (nI_ge (b := 256) (by omega) (by decide))) (fun c23 => ?_)
    refine gk_aload0 dX3_reach_26 (pc' := 27) rfl ?_
    refine gk_getf (fs := [_, _, _]) gF_Flood_19 dX3_reach_27 (pc' := 30) rfl (by assumption) rfl ?_
    refine gk_sipush (v := 256) dX3_reach_30 (pc' := 33) rfl (by decide) ?_
    refine gk_icmp_ge dX3_reach_33 (tgt := 63) (pc' := 36) (by decide) rfl (fun c33 => ?_) (fun c33 => ?_)
    · have q : n = 256 := by have := (nI_leI (a := 256) (by omega) (by omega)).mp c33; omega
      refine gk_vret dX3_reach_63 rfl (by first | exact hQ h pl wt n (Or.inr ⟨rfl, fun _ z => absurd z q3⟩) hs0 fr.rf | exact hQ h pl wt n (Or.inr ⟨rfl, fun _ _ => q2⟩) hs0 fr.rf | exact hQ h pl wt n (Or.inr ⟨rfl, fun _ _ => (by cases hz : wt (j * w + i); exact absurd (cntB_lt hz 256 (by omega)) (by omega); exact hz)⟩) hs0 fr.rf)
    · skip
      refine gk_aload0 dX3_reach_36 (pc' := 37) rfl ?_
      refine gk_getf (fs := [_, _, _]) gF_Flood_15 dX3_reach_37 (pc' := 40) rfl (by assumption) rfl ?_
      refine gk_iload6 dX3_reach_40 (pc' := 42) rfl ?_
      refine gk_zald (t0 := 1) rfl dX3_reach_42 (pc' := 43) rfl (by exact (e3)) (vp_in_nI (by omega) (by decide)) ?_
      rw [nI_clamp (by omega)]
      refine gk_if_ne dX3_reach_43 (tgt := 63) (pc' := 46) (by decide) rfl (fun c43 => ?_) (fun c43 => ?_)
      · have q2 : wt (j * w + i) = true := by cases hz : wt (j * w + i); rw [hz] at c43; exact absurd rfl c43; rfl
        refine gk_vret dX3_reach_63 rfl (by first | exact hQ h pl wt n (Or.inr ⟨rfl, fun _ z => absurd z q3⟩) hs0 fr.rf | exact hQ h pl wt n (Or.inr ⟨rfl, fun _ _ => q2⟩) hs0 fr.rf | exact hQ h pl wt n (Or.inr ⟨rfl, fun _ _ => (by cases hz : wt (j * w + i); exact absurd (cntB_lt hz 256 (by omega)) (by omega); exact hz)⟩) hs0 fr.rf)
      · have q2 : wt (j * w + i) = false := by cases hz : wt (j * w + i); rfl; rw [hz] at c43; exact absurd c43 (by decide)
        have hn5 : n < 256 := by rw [hn]; exact cntB_lt q2 256 (by omega)
        refine gk_aload1 dX3_reach_46 (pc' := 47) rfl ?_
        refine gk_iload6 dX3_reach_47 (pc' := 49) rfl ?_
        refine gk_cV1_1 mv_Picture_pixel gw_601 dX3_reach_49 (pc' := 52) rfl (Nat.le_of_ble_eq_true rfl) (by exact (g1)) (sp_Picture_pixel hp o1 ?_)
        refine ⟨_, rfl, ?_⟩
        refine gk_iload4 dX3_reach_52 (pc' := 54) rfl ?_
        refine gk_isub dX3_reach_54 (pc' := 55) rfl ?_
        refine gk_cS1_1 mz_Math_abs gw_607 dX3_reach_55 (pc' := 58) rfl (Nat.le_of_ble_eq_true rfl) (sp_Math_abs ?_)
        refine ⟨_, rfl, ?_⟩
        refine gk_iload5 dX3_reach_58 (pc' := 60) rfl ?_
        refine gk_icmp_le dX3_reach_60 (tgt := 64) (pc' := 63) (by decide) rfl (fun c60 => ?_) (fun c60 => ?_)
        · rw [pu_le, za] at c60
          have q3 : okF p s tol.toInt (j * w + i) := by unfold okF; split at c60 <;> omega
          refine gk_aload0 dX3_reach_64 (pc' := 65) rfl ?_
          refine gk_getf (fs := [_, _, _]) gF_Flood_15 dX3_reach_65 (pc' := 68) rfl (by assumption) rfl ?_
          refine gk_iload6 dX3_reach_68 (pc' := 70) rfl ?_
          refine gk_iconst (v := 1) dX3_reach_70 (pc' := 71) rfl (by decide) ?_
          refine gk_zast (t0 := 1) rfl dX3_reach_71 (pc' := 72) rfl (by exact (e3)) (vp_in_nI (by omega) (by decide)) ?_
          rw [nI_clamp (by omega)]
          refine gk_aload0 dX3_reach_72 (pc' := 73) rfl ?_
          refine gk_getf (fs := [_, _, _]) gF_Flood_9 dX3_reach_73 (pc' := 76) rfl (by exact ((gk_set_ne (by omega)).trans e1)) rfl ?_
          refine gk_aload0 dX3_reach_76 (pc' := 77) rfl ?_
          refine gk_getf (fs := [_, _, _]) gF_Flood_19 dX3_reach_77 (pc' := 80) rfl (by exact ((gk_set_ne (by omega)).trans e1)) rfl ?_
          refine gk_iload6 dX3_reach_80 (pc' := 82) rfl ?_
          refine gk_iast (t0 := 0) rfl dX3_reach_82 (pc' := 83) rfl (by exact ((gk_set_ne (by omega)).trans e2)) (vp_in_nI (by omega) (by decide)) ?_
          rw [nI_clamp (by omega)]
          refine gk_aload0 dX3_reach_83 (pc' := 84) rfl ?_
          refine gk_dup dX3_reach_84 (pc' := 85) rfl rfl ?_
          refine gk_getf (fs := [_, _, _]) gF_Flood_19 dX3_reach_85 (pc' := 88) rfl (by exact ((gk_set_ne (by omega)).trans ((gk_set_ne (by omega)).trans e1))) rfl ?_
          refine gk_iconst (v := 1) dX3_reach_88 (pc' := 89) rfl (by decide) ?_
          refine gk_iadd dX3_reach_89 (pc' := 90) rfl ?_
          refine gk_putf (fs := [_, _, _]) gP_Flood_19 dX3_reach_90 (pc' := 93) rfl (by exact ((gk_set_ne (by omega)).trans ((gk_set_ne (by omega)).trans e1))) rfl rfl (Nat.le_of_ble_eq_true rfl) ?_
          refine gk_vret dX3_reach_93 rfl (hQ _ (upd pl n (nI (j * w + i))) (fun z => if z = j * w + i then true else wt z) (n + 1) (Or.inl ⟨j * w + i, by omega, by rw [Int.toNat_natCast, Int.toNat_natCast], q2, q3, rfl⟩) ⟨?_, ?_, ?_⟩ ((fr.set.trans fr.set (C := fun c => c = a ∨ c = a + 1 ∨ c = a + 2) (fun _ z => Or.inr (Or.inr z)) (fun _ z => Or.inr (Or.inl z))).trans fr.set (fun _ z => z) (fun _ z => Or.inl z)))
          · rw [gk_set_self, nI_succ]; rfl
          · rw [gk_set_ne (by omega)]; exact gk_set_self
          · rw [gk_set_ne (by omega), gk_set_ne (by omega), gk_set_self]
            refine congrArg (fun f => some (cZ X 256 f)) (funext fun z => ?_)
            by_cases q : z = j * w + i
            · rw [q, pk_us]; simp; rfl
            · rw [pk_un q]; simp [q]
        · rw [pu_le, za] at c60
          have q3 : ¬ okF p s tol.toInt (j * w + i) := by unfold okF; split at c60 <;> omega
          refine gk_vret dX3_reach_63 rfl (by first | exact hQ h pl wt n (Or.inr ⟨rfl, fun _ z => absurd z q3⟩) hs0 fr.rf | exact hQ h pl wt n (Or.inr ⟨rfl, fun _ _ => q2⟩) hs0 fr.rf | exact hQ h pl wt n (Or.inr ⟨rfl, fun _ _ => (by cases hz : wt (j * w + i); exact absurd (cntB_lt hz 256 (by omega)) (by omega); exact hz)⟩) hs0 fr.rf)
  · refine ⟨_, rfl, ?_⟩
    skip
    refine gk_if_ne dX3_reach_6 (tgt := 10) (pc' := 9) (by decide) rfl (fun c => absurd c (by decide)) (fun _ => ?_)
    refine gk_vret dX3_reach_9 rfl (hQ h pl wt n (Or.inr ⟨rfl, fun z => absurd z c3⟩) hs0 fr.rf)
end FdA
