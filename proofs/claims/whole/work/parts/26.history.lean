/-! ===== History ===== -/
/-- a History object at a: acts i stands at a + 2 + 5 i -/
def isHy (X : gX) (h : gk_H) (a fst dn un : Nat) : Prop := h.1 a = some (.inr (4, [.ref (a + 1), .int (nI fst), .int (nI dn), .int (nI un)])) ∧ ∃ f : Nat → Option Nat, h.1 (a + 1) = some (cR X 5 16 f) ∧ ∀ i, i < 16 → f i = some (a + 2 + 5 * i)
section HyA
variable {X : gX} {d : Nat} {b : Nat × Nat} {h : gk_H} {Q : Option Value → gk_H → Prop} {a fst dn un : Nat}
theorem sp_History_nth {i : Nat} (hs : isHy X h a fst dn un) (h1 : fst < 16) (h2 : i ≤ 16) (hQ : Q (some (.ref (a + 2 + 5 * ((fst + i) % 16)))) h) : Gm (kx X) mt_History_nth (d + 1) b [.ref a, .int (nI i)] h Q := by
  obtain ⟨e1, f, e2, e3⟩ := hs
  have z16 : (16 : Int32).toInt = 16 := rfl
  have zs : (nI (fst + i)).toInt = (fst + i : Nat) := nI_toInt (by omega)
  have m1 := Nat.mod_lt (fst + i) (show 0 < 16 by decide)
  refine Gm.enter (L := [some (.ref a), some (.int (nI i))]) (by decide) (fun _ => trivial) (Nat.le_of_ble_eq_true rfl) rfl ?_
  refine gk_aload0 dX4_nth_0 (pc' := 1) rfl ?_
  refine gk_getf (fs := [_, _, _, _]) gF_History_11 dX4_nth_1 (pc' := 4) rfl (by assumption) rfl ?_
  refine gk_aload0 dX4_nth_4 (pc' := 5) rfl ?_
  refine gk_getf (fs := [_, _, _, _]) gF_History_17 dX4_nth_5 (pc' := 8) rfl (by assumption) rfl ?_
  refine gk_iload1 dX4_nth_8 (pc' := 9) rfl ?_
  refine gk_iadd dX4_nth_9 (pc' := 10) rfl ?_
  rw [nI_add]
  refine gk_bipush (v := 16) dX4_nth_10 (pc' := 12) rfl (by decide) ?_
  refine gk_cS1_2 mz_Math_floorMod gw_274 dX4_nth_12 (pc' := 15) rfl (Nat.le_of_ble_eq_true rfl) (sp_Math_floorMod (by decide) (by decide) (fun r hr => ?_))
  refine ⟨_, rfl, ?_⟩
  rw [zs, z16] at hr
  rw [pu_nI (x := r) (z := (fst + i) % 16) (by omega) (by omega)]
  refine gk_aald (t0 := 5) rfl dX4_nth_15 (pc' := 16) rfl (by exact (e2)) (vp_in_nI m1 (by decide)) ?_
  rw [nI_clamp (by omega), e3 _ m1, show va_rf (some (a + 2 + 5 * ((fst + i) % 16))) = Value.ref (a + 2 + 5 * ((fst + i) % 16)) from rfl]
  refine gk_aret dX4_nth_16 rfl hQ
theorem sp_History_next (hs : isHy X h a fst dn un) (h1 : fst < 16) (h2 : dn ≤ 16) (hQ1 : dn < 16 → ∀ h', isHy X h' a fst (dn + 1) 0 → fr (fun c => c = a) h h' → Q (some (.ref (a + 2 + 5 * ((fst + dn) % 16)))) h') (hQ2 : dn = 16 → ∀ h', isHy X h' a ((fst + 1) % 16) 16 0 → fr (fun c => c = a) h h' → Q (some (.ref (a + 2 + 5 * fst))) h') : Gm (kx X) mt_History_next (d + 2) b [.ref a] h Q := by
  obtain ⟨e1, f, e2, e3⟩ := hs
  have m1 := Nat.mod_lt (fst + 1) (show 0 < 16 by decide)
  refine Gm.enter (L := [some (.ref a)]) (by decide) (fun _ => trivial) (Nat.le_of_ble_eq_true rfl) rfl ?_
  refine gk_aload0 dX4_next_0 (pc' := 1) rfl ?_
  refine gk_iconst (v := 0) dX4_next_1 (pc' := 2) rfl (by decide) ?_
  refine gk_putf (fs := [_, _, _, _]) gP_History_24 dX4_next_2 (pc' := 5) rfl (by exact (e1)) rfl rfl (Nat.le_of_ble_eq_true rfl) ?_
  refine gk_aload0 dX4_next_5 (pc' := 6) rfl ?_
  refine gk_getf (fs := [_, _, _, _]) gF_History_21 dX4_next_6 (pc' := 9) rfl (by exact (gk_set_self)) rfl ?_
  refine gk_bipush (v := 16) dX4_next_9 (pc' := 11) rfl (by decide) ?_
  refine gk_icmp_ge dX4_next_11 (tgt := 27) (pc' := 14) (by decide) rfl (fun c11 => ?_) (fun c11 => ?_)
  · have q : dn = 16 := by have := (nI_leI (a := 16) (by omega) (by omega)).mp c11; omega
    subst q
    refine gk_aload0 dX4_next_27 (pc' := 28) rfl ?_
    refine gk_aload0 dX4_next_28 (pc' := 29) rfl ?_
    refine gk_getf (fs := [_, _, _, _]) gF_History_17 dX4_next_29 (pc' := 32) rfl (by exact (gk_set_self)) rfl ?_
    refine gk_iconst (v := 1) dX4_next_32 (pc' := 33) rfl (by decide) ?_
    refine gk_iadd dX4_next_33 (pc' := 34) rfl ?_
    rw [nI_1]
    refine gk_bipush (v := 16) dX4_next_34 (pc' := 36) rfl (by decide) ?_
    refine gk_irem dX4_next_36 (pc' := 37) rfl (by decide) ?_
    rw [show nI (fst + 1) - nI (fst + 1) / 16 * 16 = nI ((fst + 1) % 16) from nI_mod (w := 16) (by omega) (by omega) (by omega)]
    refine gk_putf (fs := [_, _, _, _]) gP_History_17 dX4_next_37 (pc' := 40) rfl (by exact (gk_set_self)) rfl rfl (Nat.le_of_ble_eq_true rfl) ?_
    refine gk_aload0 dX4_next_40 (pc' := 41) rfl ?_
    refine gk_aload0 dX4_next_41 (pc' := 42) rfl ?_
    refine gk_getf (fs := [_, _, _, _]) gF_History_21 dX4_next_42 (pc' := 45) rfl (by exact (gk_set_self)) rfl ?_
    refine gk_iconst (v := 1) dX4_next_45 (pc' := 46) rfl (by decide) ?_
    refine gk_isub dX4_next_46 (pc' := 47) rfl ?_
    first | rw [nI_pred] | rw [show nI 16 - 1 = nI 15 from rfl]
    refine gk_cV1_1 mv_History_nth gw_270 dX4_next_47 (pc' := 50) rfl (Nat.le_of_ble_eq_true rfl) (by exact (gk_set_self)) (sp_History_nth ⟨gk_set_self, f, (gk_set_ne (by omega)).trans ((gk_set_ne (by omega)).trans e2), e3⟩ (by omega) (by omega) ?_)
    refine ⟨_, rfl, ?_⟩
    refine gk_aret dX4_next_50 rfl (by first | (exact hQ1 q _ ⟨gk_set_self, f, (gk_set_ne (by omega)).trans ((gk_set_ne (by omega)).trans e2), e3⟩ (fr.set.trans fr.set (fun _ z => z) (fun _ z => z))) | (rw [show ((fst + 1) % 16 + 15) % 16 = fst by omega]; exact hQ2 rfl _ ⟨gk_set_self, f, (gk_set_ne (by omega)).trans ((gk_set_ne (by omega)).trans e2), e3⟩ (fr.set.trans fr.set (fun _ z => z) (fun _ z => z))))
  · have q : dn < 16 := by
      rcases Nat.lt_or_ge dn 16 with z | z
      · exact z
      · exact absurd (nI_le (a := 16) z (by omega)) c11
    refine gk_aload0 dX4_next_14 (pc' := 15) rfl ?_
    refine gk_dup dX4_next_15 (pc' := 16) rfl rfl ?_
    refine gk_getf (fs := [_, _, _, _]) gF_History_21 dX4_next_16 (pc' := 19) rfl (by exact (gk_set_self)) rfl ?_
    refine gk_iconst (v := 1) dX4_next_19 (pc' := 20) rfl (by decide) ?_
    refine gk_iadd dX4_next_20 (pc' := 21) rfl ?_
    rw [nI_1]
    refine gk_putf (fs := [_, _, _, _]) gP_History_21 dX4_next_21 (pc' := 24) rfl (by exact (gk_set_self)) rfl rfl (Nat.le_of_ble_eq_true rfl) ?_
    refine gk_goto dX4_next_24 (tgt := 40) (by decide) ?_
    refine gk_aload0 dX4_next_40 (pc' := 41) rfl ?_
    refine gk_aload0 dX4_next_41 (pc' := 42) rfl ?_
    refine gk_getf (fs := [_, _, _, _]) gF_History_21 dX4_next_42 (pc' := 45) rfl (by exact (gk_set_self)) rfl ?_
    refine gk_iconst (v := 1) dX4_next_45 (pc' := 46) rfl (by decide) ?_
    refine gk_isub dX4_next_46 (pc' := 47) rfl ?_
    first | rw [nI_pred] | rw [show nI 16 - 1 = nI 15 from rfl]
    refine gk_cV1_1 mv_History_nth gw_270 dX4_next_47 (pc' := 50) rfl (Nat.le_of_ble_eq_true rfl) (by exact (gk_set_self)) (sp_History_nth ⟨gk_set_self, f, (gk_set_ne (by omega)).trans ((gk_set_ne (by omega)).trans e2), e3⟩ (by omega) (by omega) ?_)
    refine ⟨_, rfl, ?_⟩
    refine gk_aret dX4_next_50 rfl (by first | (exact hQ1 q _ ⟨gk_set_self, f, (gk_set_ne (by omega)).trans ((gk_set_ne (by omega)).trans e2), e3⟩ (fr.set.trans fr.set (fun _ z => z) (fun _ z => z))) | (rw [show ((fst + 1) % 16 + 15) % 16 = fst by omega]; exact hQ2 rfl _ ⟨gk_set_self, f, (gk_set_ne (by omega)).trans ((gk_set_ne (by omega)).trans e2), e3⟩ (fr.set.trans fr.set (fun _ z => z) (fun _ z => z))))
theorem sp_History_stepBack (hs : isHy X h a fst dn un) (h1 : fst < 16) (h2 : dn ≤ 16) (h3 : un ≤ 16) (hQ0 : dn = 0 → Q (some .null) h) (hQ1 : 1 ≤ dn → ∀ h', isHy X h' a fst (dn - 1) (un + 1) → fr (fun c => c = a) h h' → Q (some (.ref (a + 2 + 5 * ((fst + (dn - 1)) % 16)))) h') : Gm (kx X) mt_History_stepBack (d + 2) b [.ref a] h Q := by
  obtain ⟨e1, f, e2, e3⟩ := hs
  refine Gm.enter (L := [some (.ref a)]) (by decide) (fun _ => trivial) (Nat.le_of_ble_eq_true rfl) rfl ?_
  refine gk_aload0 dX4_stepBack_0 (pc' := 1) rfl ?_
  refine gk_getf (fs := [_, _, _, _]) gF_History_21 dX4_stepBack_1 (pc' := 4) rfl (by exact (e1)) rfl ?_
  refine gk_iconst (v := 1) dX4_stepBack_4 (pc' := 5) rfl (by decide) ?_
  refine gk_icmp_ge dX4_stepBack_5 (tgt := 10) (pc' := 8) (by decide) rfl (fun c5 => ?_) (fun c5 => ?_)
  · have q : 1 ≤ dn := (nI_leI (a := 1) (by omega) (by omega)).mp c5
    refine gk_aload0 dX4_stepBack_10 (pc' := 11) rfl ?_
    refine gk_dup dX4_stepBack_11 (pc' := 12) rfl rfl ?_
    refine gk_getf (fs := [_, _, _, _]) gF_History_21 dX4_stepBack_12 (pc' := 15) rfl (by exact (e1)) rfl ?_
    refine gk_iconst (v := 1) dX4_stepBack_15 (pc' := 16) rfl (by decide) ?_
    refine gk_isub dX4_stepBack_16 (pc' := 17) rfl ?_
    rw [show nI dn - 1 = nI (dn - 1) from pk_sub (b := 1) q]
    refine gk_putf (fs := [_, _, _, _]) gP_History_21 dX4_stepBack_17 (pc' := 20) rfl (by exact (e1)) rfl rfl (Nat.le_of_ble_eq_true rfl) ?_
    refine gk_aload0 dX4_stepBack_20 (pc' := 21) rfl ?_
    refine gk_dup dX4_stepBack_21 (pc' := 22) rfl rfl ?_
    refine gk_getf (fs := [_, _, _, _]) gF_History_24 dX4_stepBack_22 (pc' := 25) rfl (by exact (gk_set_self)) rfl ?_
    refine gk_iconst (v := 1) dX4_stepBack_25 (pc' := 26) rfl (by decide) ?_
    refine gk_iadd dX4_stepBack_26 (pc' := 27) rfl ?_
    rw [nI_1]
    refine gk_putf (fs := [_, _, _, _]) gP_History_24 dX4_stepBack_27 (pc' := 30) rfl (by exact (gk_set_self)) rfl rfl (Nat.le_of_ble_eq_true rfl) ?_
    refine gk_aload0 dX4_stepBack_30 (pc' := 31) rfl ?_
    refine gk_aload0 dX4_stepBack_31 (pc' := 32) rfl ?_
    refine gk_getf (fs := [_, _, _, _]) gF_History_21 dX4_stepBack_32 (pc' := 35) rfl (by exact (gk_set_self)) rfl ?_
    refine gk_cV1_1 mv_History_nth gw_270 dX4_stepBack_35 (pc' := 38) rfl (Nat.le_of_ble_eq_true rfl) (by exact (gk_set_self)) (sp_History_nth ⟨gk_set_self, f, (gk_set_ne (by omega)).trans ((gk_set_ne (by omega)).trans e2), e3⟩ h1 (by omega) ?_)
    refine ⟨_, rfl, ?_⟩
    refine gk_aret dX4_stepBack_38 rfl (hQ1 q _ ⟨gk_set_self, f, (gk_set_ne (by omega)).trans ((gk_set_ne (by omega)).trans e2), e3⟩ (fr.set.trans fr.set (fun _ z => z) (fun _ z => z)))
  · have q : dn = 0 := by
      rcases Nat.eq_zero_or_pos dn with z | z
      · exact z
      · exact absurd (nI_le (a := 1) z (by omega)) c5
    refine gk_null dX4_stepBack_8 (pc' := 9) rfl ?_
    refine gk_aretN dX4_stepBack_9 rfl (hQ0 q)
theorem sp_History_stepForth (hs : isHy X h a fst dn un) (h1 : fst < 16) (h2 : dn + un ≤ 16) (hQ0 : un = 0 → Q (some .null) h) (hQ1 : 1 ≤ un → ∀ h', isHy X h' a fst (dn + 1) (un - 1) → fr (fun c => c = a) h h' → Q (some (.ref (a + 2 + 5 * ((fst + dn) % 16)))) h') : Gm (kx X) mt_History_stepForth (d + 2) b [.ref a] h Q := by
  obtain ⟨e1, f, e2, e3⟩ := hs
  refine Gm.enter (L := [some (.ref a)]) (by decide) (fun _ => trivial) (Nat.le_of_ble_eq_true rfl) rfl ?_
  refine gk_aload0 dX4_stepForth_0 (pc' := 1) rfl ?_
  refine gk_getf (fs := [_, _, _, _]) gF_History_24 dX4_stepForth_1 (pc' := 4) rfl (by exact (e1)) rfl ?_
  refine gk_iconst (v := 1) dX4_stepForth_4 (pc' := 5) rfl (by decide) ?_
  refine gk_icmp_ge dX4_stepForth_5 (tgt := 10) (pc' := 8) (by decide) rfl (fun c5 => ?_) (fun c5 => ?_)
  · have q : 1 ≤ un := (nI_leI (a := 1) (by omega) (by omega)).mp c5
    refine gk_aload0 dX4_stepForth_10 (pc' := 11) rfl ?_
    refine gk_dup dX4_stepForth_11 (pc' := 12) rfl rfl ?_
    refine gk_getf (fs := [_, _, _, _]) gF_History_24 dX4_stepForth_12 (pc' := 15) rfl (by exact (e1)) rfl ?_
    refine gk_iconst (v := 1) dX4_stepForth_15 (pc' := 16) rfl (by decide) ?_
    refine gk_isub dX4_stepForth_16 (pc' := 17) rfl ?_
    rw [show nI un - 1 = nI (un - 1) from pk_sub (b := 1) q]
    refine gk_putf (fs := [_, _, _, _]) gP_History_24 dX4_stepForth_17 (pc' := 20) rfl (by exact (e1)) rfl rfl (Nat.le_of_ble_eq_true rfl) ?_
    refine gk_aload0 dX4_stepForth_20 (pc' := 21) rfl ?_
    refine gk_dup dX4_stepForth_21 (pc' := 22) rfl rfl ?_
    refine gk_getf (fs := [_, _, _, _]) gF_History_21 dX4_stepForth_22 (pc' := 25) rfl (by exact (gk_set_self)) rfl ?_
    refine gk_iconst (v := 1) dX4_stepForth_25 (pc' := 26) rfl (by decide) ?_
    refine gk_iadd dX4_stepForth_26 (pc' := 27) rfl ?_
    rw [nI_1]
    refine gk_putf (fs := [_, _, _, _]) gP_History_21 dX4_stepForth_27 (pc' := 30) rfl (by exact (gk_set_self)) rfl rfl (Nat.le_of_ble_eq_true rfl) ?_
    refine gk_aload0 dX4_stepForth_30 (pc' := 31) rfl ?_
    refine gk_aload0 dX4_stepForth_31 (pc' := 32) rfl ?_
    refine gk_getf (fs := [_, _, _, _]) gF_History_21 dX4_stepForth_32 (pc' := 35) rfl (by exact (gk_set_self)) rfl ?_
    refine gk_iconst (v := 1) dX4_stepForth_35 (pc' := 36) rfl (by decide) ?_
    refine gk_isub dX4_stepForth_36 (pc' := 37) rfl ?_
    rw [nI_pred]
    refine gk_cV1_1 mv_History_nth gw_270 dX4_stepForth_37 (pc' := 40) rfl (Nat.le_of_ble_eq_true rfl) (by exact (gk_set_self)) (sp_History_nth ⟨gk_set_self, f, (gk_set_ne (by omega)).trans ((gk_set_ne (by omega)).trans e2), e3⟩ h1 (by omega) ?_)
    refine ⟨_, rfl, ?_⟩
    refine gk_aret dX4_stepForth_40 rfl (hQ1 q _ ⟨gk_set_self, f, (gk_set_ne (by omega)).trans ((gk_set_ne (by omega)).trans e2), e3⟩ (fr.set.trans fr.set (fun _ z => z) (fun _ z => z)))
  · have q : un = 0 := by
      rcases Nat.eq_zero_or_pos un with z | z
      · exact z
      · exact absurd (nI_le (a := 1) z (by omega)) c5
    refine gk_null dX4_stepForth_8 (pc' := 9) rfl ?_
    refine gk_aretN dX4_stepForth_9 rfl (hQ0 q)
end HyA
