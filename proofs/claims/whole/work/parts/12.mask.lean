/-! ===== Mask: sixteen rows of sixteen bits ===== -/
def isMk (X : gX) (h : gk_H) (a : Nat) (R : Nat → Nat) : Prop := (∀ y, y < 16 → R y < 65536) ∧ ∃ f : Nat → Int32, h.1 a = some (.inr (5, [.ref (a + 1)])) ∧ h.1 (a + 1) = some (cI X 16 f) ∧ ∀ y, y < 16 → f y = nI (R y)
theorem isMk.kept {X : gX} {h h' : gk_H} {a : Nat} {R : Nat → Nat} (hp : isMk X h a R) (h0 : h'.1 a = h.1 a) (h1 : h'.1 (a + 1) = h.1 (a + 1)) : isMk X h' a R := by
  obtain ⟨hw, f, e1, e2, e3⟩ := hp
  exact ⟨hw, f, h0.trans e1, h1.trans e2, e3⟩
theorem isMk.fr {X : gX} {h h' : gk_H} {a : Nat} {R : Nat → Nat} {A : Nat → Prop} (hp : isMk X h a R) (hf : fr A h h') (h0 : ¬ A a) (h1 : ¬ A (a + 1)) : isMk X h' a R := hp.kept (hf.2 _ h0) (hf.2 _ h1)
theorem isMk.congr {X : gX} {h : gk_H} {a : Nat} {R S : Nat → Nat} (hp : isMk X h a R) (e : ∀ i, i < 16 → R i = S i) : isMk X h a S := by
  obtain ⟨hw, f, e1, e2, e3⟩ := hp
  exact ⟨fun y hy => by rw [← e y hy]; exact hw y hy, f, e1, e2, fun i hi => (e3 i hi).trans (by rw [e i hi])⟩
theorem isMk.o {X : gX} {h : gk_H} {a : Nat} {R : Nat → Nat} (hp : isMk X h a R) : h.1 a = some (.inr (5, [.ref (a + 1)])) := by
  obtain ⟨hw, f, e1, e2, e3⟩ := hp
  exact e1
def popM (R : Nat → Nat) : Nat → Nat
  | 0 => 0
  | n + 1 => popM R n + pop (R n) 16
theorem pop_le (r : Nat) : ∀ n, pop r n ≤ n
  | 0 => Nat.le_refl 0
  | n + 1 => by
    have := pop_le r n
    unfold pop
    split <;> omega
theorem popM_le (R : Nat → Nat) : ∀ n, popM R n ≤ 16 * n
  | 0 => Nat.le_refl 0
  | n + 1 => by
    have := popM_le R n
    have := pop_le (R n) 16
    unfold popM
    omega
theorem and_lt (a m : Nat) (k : Nat) (h : m < 2 ^ k) : a &&& m < 2 ^ k := Nat.lt_of_le_of_lt Nat.and_le_right h
section MkA
variable {X : gX} {d : Nat} {b : Nat × Nat} {h : gk_H} {Q : Option Value → gk_H → Prop} {a : Nat} {R : Nat → Nat}
theorem sp_Integer_bitCount {r : Nat} (hr : r < 65536) (hQ : Q (some (.int (nI (pop r 16)))) h) : Gm (kx X) mt_Integer_bitCount d b [.int (nI r)] h Q := by
  obtain ⟨q1, q2, q3⟩ := bc_ok hr
  have k1 : (Int32.toUInt32 1 &&& Int32.toUInt32 31).toBitVec % 32 = 1#32 := by decide
  have e1 : bc1 r < 65536 := by unfold bc1; omega
  have e2 : bc2 (bc1 r) < 2 ^ 31 := by
    unfold bc2
    have := and_lt (bc1 r) 858993459 30 (by decide)
    have := and_lt (bc1 r / 4) 858993459 30 (by decide)
    omega
  refine Gm.enterJ (L := [some (.int (nI r))]) (by decide +kernel) (fun _ => trivial) (Nat.le_of_ble_eq_true rfl) rfl ?_
  refine gk_iload0 dJ6_bitCount_0f7a4_0 (pc' := 1) rfl ?_
  refine gk_iload0 dJ6_bitCount_0f7a4_1 (pc' := 2) rfl ?_
  refine gk_iconst (v := 1) dJ6_bitCount_0f7a4_2 (pc' := 3) rfl (by decide) ?_
  refine gk_iushr dJ6_bitCount_0f7a4_3 (pc' := 4) rfl ?_
  rw [pk_ushrN (k := 1) (by omega) 1 (by decide)]
  refine gk_ldcw dJ6_bitCount_0f7a4_4 (pc' := 7) rfl gw_568 ?_
  refine gk_iand dJ6_bitCount_0f7a4_7 (pc' := 8) rfl ?_
  rw [show nI (r / 2 ^ 1) &&& 1431655765 = nI (r / 2 &&& 1431655765) from nx_and _ 1431655765]
  refine gk_isub dJ6_bitCount_0f7a4_8 (pc' := 9) rfl ?_
  rw [pk_sub q2]
  refine gk_istore0 dJ6_bitCount_0f7a4_9 (pc' := 10) rfl (by decide) rfl ?_
  refine gk_iload0 dJ6_bitCount_0f7a4_10 (pc' := 11) rfl ?_
  refine gk_ldcw dJ6_bitCount_0f7a4_11 (pc' := 14) rfl gw_569 ?_
  refine gk_iand dJ6_bitCount_0f7a4_14 (pc' := 15) rfl ?_
  rw [show nI (r - (r / 2 &&& 1431655765)) &&& 858993459 = nI (bc1 r &&& 858993459) from nx_and _ 858993459]
  refine gk_iload0 dJ6_bitCount_0f7a4_15 (pc' := 16) rfl ?_
  refine gk_iconst (v := 2) dJ6_bitCount_0f7a4_16 (pc' := 17) rfl (by decide) ?_
  refine gk_iushr dJ6_bitCount_0f7a4_17 (pc' := 18) rfl ?_
  rw [pk_ushrN (k := 2) (show r - (r / 2 &&& 1431655765) < 2 ^ 32 by omega) 2 (by decide)]
  refine gk_ldcw dJ6_bitCount_0f7a4_18 (pc' := 21) rfl gw_569 ?_
  refine gk_iand dJ6_bitCount_0f7a4_21 (pc' := 22) rfl ?_
  rw [show nI ((r - (r / 2 &&& 1431655765)) / 2 ^ 2) &&& 858993459 = nI (bc1 r / 4 &&& 858993459) from nx_and _ 858993459]
  refine gk_iadd dJ6_bitCount_0f7a4_22 (pc' := 23) rfl ?_
  rw [nI_add, show (bc1 r &&& 858993459) + (bc1 r / 4 &&& 858993459) = bc2 (bc1 r) from rfl]
  refine gk_istore0 dJ6_bitCount_0f7a4_23 (pc' := 24) rfl (by decide) rfl ?_
  refine gk_iload0 dJ6_bitCount_0f7a4_24 (pc' := 25) rfl ?_
  refine gk_iload0 dJ6_bitCount_0f7a4_25 (pc' := 26) rfl ?_
  refine gk_iconst (v := 4) dJ6_bitCount_0f7a4_26 (pc' := 27) rfl (by decide) ?_
  refine gk_iushr dJ6_bitCount_0f7a4_27 (pc' := 28) rfl ?_
  rw [pk_ushrN (k := 4) (show bc2 (bc1 r) < 2 ^ 32 by omega) 4 (by decide)]
  refine gk_iadd dJ6_bitCount_0f7a4_28 (pc' := 29) rfl ?_
  rw [nI_add]
  refine gk_ldcw dJ6_bitCount_0f7a4_29 (pc' := 32) rfl gw_570 ?_
  refine gk_iand dJ6_bitCount_0f7a4_32 (pc' := 33) rfl ?_
  rw [show nI (bc2 (bc1 r) + bc2 (bc1 r) / 2 ^ 4) &&& 252645135 = nI (bc3 (bc2 (bc1 r))) from nx_and _ 252645135]
  refine gk_istore0 dJ6_bitCount_0f7a4_33 (pc' := 34) rfl (by decide) rfl ?_
  refine gk_iload0 dJ6_bitCount_0f7a4_34 (pc' := 35) rfl ?_
  refine gk_iload0 dJ6_bitCount_0f7a4_35 (pc' := 36) rfl ?_
  refine gk_bipush (v := 8) dJ6_bitCount_0f7a4_36 (pc' := 38) rfl (by decide) ?_
  refine gk_iushr dJ6_bitCount_0f7a4_38 (pc' := 39) rfl ?_
  rw [pk_ushrN (k := 8) (show bc3 (bc2 (bc1 r)) < 2 ^ 32 by omega) 8 (by decide)]
  refine gk_iadd dJ6_bitCount_0f7a4_39 (pc' := 40) rfl ?_
  rw [nI_add]
  refine gk_istore0 dJ6_bitCount_0f7a4_40 (pc' := 41) rfl (by decide) rfl ?_
  refine gk_iload0 dJ6_bitCount_0f7a4_41 (pc' := 42) rfl ?_
  refine gk_iload0 dJ6_bitCount_0f7a4_42 (pc' := 43) rfl ?_
  refine gk_bipush (v := 16) dJ6_bitCount_0f7a4_43 (pc' := 45) rfl (by decide) ?_
  refine gk_iushr dJ6_bitCount_0f7a4_45 (pc' := 46) rfl ?_
  rw [pk_ushrN (k := 16) (show bc3 (bc2 (bc1 r)) + bc3 (bc2 (bc1 r)) / 2 ^ 8 < 2 ^ 32 by omega) 16 (by decide)]
  refine gk_iadd dJ6_bitCount_0f7a4_46 (pc' := 47) rfl ?_
  rw [nI_add]
  refine gk_istore0 dJ6_bitCount_0f7a4_47 (pc' := 48) rfl (by decide) rfl ?_
  refine gk_iload0 dJ6_bitCount_0f7a4_48 (pc' := 49) rfl ?_
  refine gk_bipush (v := 63) dJ6_bitCount_0f7a4_49 (pc' := 51) rfl (by decide) ?_
  refine gk_iand dJ6_bitCount_0f7a4_51 (pc' := 52) rfl ?_
  rw [show nI (bc3 (bc2 (bc1 r)) + bc3 (bc2 (bc1 r)) / 2 ^ 8 + (bc3 (bc2 (bc1 r)) + bc3 (bc2 (bc1 r)) / 2 ^ 8) / 2 ^ 16) &&& 63 = nI (bcN r) from nx_and _ 63, q1]
  refine gk_iret dJ6_bitCount_0f7a4_52 rfl hQ
theorem sp_Mask_lit {i j : Nat} (hp : isMk X h a R) (hi : i < 16) (hj : j < 16) (ht : (R j).testBit i = true → Q (some (.int 1)) h) (hf : (R j).testBit i = false → Q (some (.int 0)) h) : Gm (kx X) mt_Mask_lit (d + 2) b [.ref a, .int (nI i), .int (nI j)] h Q := by
  obtain ⟨hw, f, e1, e2, e3⟩ := hp
  have cj : (nI j).toNatClampNeg = j := nI_clamp (by omega)
  have key : nI (R j) >>> (nI i &&& 31) &&& 1 = (if (R j).testBit i then 1 else 0) := by
    apply b_ext
    intro n hn
    have hR := hw j hj
    rw [b_and, b_sshr i (by omega) _ hn]
    have b1 : bt 1 n = decide (n = 0) := (by decide +kernel : ∀ n, n < 32 → bt 1 n = decide (n = 0)) n hn
    rw [b1]
    by_cases h0 : n = 0
    · subst h0
      rw [if_pos (by omega), b_nI (by omega) (by omega), Nat.add_zero]
      cases (R j).testBit i <;> decide
    · rw [decide_eq_false h0, Bool.and_false]
      cases (R j).testBit i
      · exact (b_0 n).symm
      · show false = bt 1 n
        rw [b1, decide_eq_false h0]
  refine Gm.enter (L := [some (.ref a), some (.int (nI i)), some (.int (nI j))]) (by decide) (fun _ => trivial) (Nat.le_of_ble_eq_true rfl) rfl ?_
  refine gk_iload1 dX5_lit_0 (pc' := 1) rfl ?_
  refine gk_iload2 dX5_lit_1 (pc' := 2) rfl ?_
  refine gk_cSN1_2 mz_Room_isOfMask (host := "DarkRoom") (by decide +kernel) dX5_lit_2 (pc' := 5) rfl (Nat.le_of_ble_eq_true rfl) (sp_Room_isOfMask (fun i' j' _ _ _ _ => ?_) (fun q => absurd (by rw [nI_toInt (by omega), nI_toInt (by omega)]; omega) q))
  refine ⟨_, rfl, ?_⟩
  refine gk_if_eq dX5_lit_5 (tgt := 25) (pc' := 8) (by decide) rfl (fun c => absurd c (by decide)) (fun _ => ?_)
  refine gk_aload0 dX5_lit_8 (pc' := 9) rfl ?_
  refine gk_getf (fs := [_]) gF_Mask_9 dX5_lit_9 (pc' := 12) rfl (by assumption) rfl ?_
  refine gk_iload2 dX5_lit_12 (pc' := 13) rfl ?_
  refine gk_iald (t0 := 0) rfl dX5_lit_13 (pc' := 14) rfl (by assumption) (vp_in_nI (by omega) (by decide)) ?_
  rw [cj, e3 j hj]
  refine gk_iload1 dX5_lit_14 (pc' := 15) rfl ?_
  refine gk_ishr dX5_lit_15 (pc' := 16) rfl ?_
  refine gk_iconst (v := 1) dX5_lit_16 (pc' := 17) rfl (by decide) ?_
  refine gk_iand dX5_lit_17 (pc' := 18) rfl ?_
  rw [key]
  refine gk_if_eq dX5_lit_18 (tgt := 25) (pc' := 21) (by decide) rfl (fun c18 => ?_) (fun c18 => ?_)
  · rw [ite_eq_right_iff] at c18
    refine gk_iconst (v := 0) dX5_lit_25 (pc' := 26) rfl (by decide) ?_
    refine gk_zret dX5_lit_26 rfl rfl (by first | exact hf (by cases hz : (R j).testBit i; rfl; exact absurd (c18 hz) (by decide)) | exact ht (by cases hz : (R j).testBit i; exact absurd (fun q => by rw [hz] at q; cases q) c18; rfl))
  · rw [ite_eq_right_iff] at c18
    refine gk_iconst (v := 1) dX5_lit_21 (pc' := 22) rfl (by decide) ?_
    refine gk_goto dX5_lit_22 (tgt := 26) (by decide) ?_
    refine gk_zret dX5_lit_26 rfl rfl (by first | exact hf (by cases hz : (R j).testBit i; rfl; exact absurd (c18 hz) (by decide)) | exact ht (by cases hz : (R j).testBit i; exact absurd (fun q => by rw [hz] at q; cases q) c18; rfl))
end MkA
