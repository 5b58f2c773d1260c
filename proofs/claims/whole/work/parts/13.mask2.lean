/-! ===== Mask: writes, joins ===== -/
theorem nI_or (a b : Nat) : nI a ||| nI b = nI (a ||| b) := by
  apply Int32.toBitVec_inj.1
  show BitVec.ofNat 32 a ||| BitVec.ofNat 32 b = BitVec.ofNat 32 (a ||| b)
  apply BitVec.eq_of_getLsbD_eq
  intro i hi
  simp [hi]
theorem b_one {n : Nat} (hn : n < 32) : bt 1 n = decide (n = 0) := (by decide +kernel : ∀ n, n < 32 → bt 1 n = decide (n = 0)) n hn
theorem b_bit {i n : Nat} (hi : i < 16) (hn : n < 32) : bt ((1 : Int32) <<< (nI i &&& 31)) n = decide (n = i) := by
  rw [b_shl i (by omega) _ hn]
  by_cases h : i ≤ n
  · rw [b_one (by omega)]
    by_cases q : n = i
    · simp [q]
    · simp [h, q, show ¬ n - i = 0 by omega]
  · simp [h, show ¬ n = i by omega]
theorem b_row {r n : Nat} (hr : r < 65536) (hn : n < 32) : bt (nI r) n = (decide (n < 16) && r.testBit n) := by
  rw [b_nI (by omega) hn]
  by_cases q : n < 16
  · simp [q]
  · rw [b_hi hr (by omega)]; simp [q]
/-- row y of a mask with the place i, j put on or off -/
def mset (R : Nat → Nat) (i j : Nat) (on : Bool) : Nat → Nat := fun y => if y = j then mkR (fun x => if x = i then on else (R j).testBit x) 16 else R y
theorem mset_on {R : Nat → Nat} {i j : Nat} (hi : i < 16) (hR : R j < 65536) : nI (R j) ||| (1 : Int32) <<< (nI i &&& 31) = nI (mset R i j true j) := by
  unfold mset
  rw [if_pos rfl]
  refine row_eq fun n hn => ?_
  rw [b_or, b_bit hi hn, b_row hR hn]
  by_cases q : n = i
  · subst q; simp [hi]
  · simp [q]
theorem mset_off {R : Nat → Nat} {i j : Nat} (hi : i < 16) (hR : R j < 65536) : nI (R j) &&& ((1 : Int32) <<< (nI i &&& 31) ^^^ (-1)) = nI (mset R i j false j) := by
  unfold mset
  rw [if_pos rfl]
  refine row_eq fun n hn => ?_
  rw [b_and, b_xor, b_bit hi hn, b_row hR hn, b_m1 n hn]
  by_cases q : n = i
  · subst q; simp
  · simp [q]
theorem mset_lt {R : Nat → Nat} {i j : Nat} {on : Bool} (hR : ∀ y, y < 16 → R y < 65536) : ∀ y, y < 16 → mset R i j on y < 65536 := fun y hy => by
  unfold mset
  split
  · exact mkR_16 _
  · exact hR y hy
/-- bit x of row y when a mask R is joined with O -/
def mj (R O : Nat → Nat) (how y x : Nat) : Bool :=
  if how = 0 then (R y).testBit x && (O y).testBit x else if how = 1 then (R y).testBit x || (O y).testBit x else if how = 2 then (R y).testBit x ^^ (O y).testBit x else if how = 3 then !(O y).testBit x else if how = 4 then (O y).testBit x
  else if how = 5 then (O y).testBit x || (decide (1 ≤ x) && (O y).testBit (x - 1)) || (decide (x < 15) && (O y).testBit (x + 1)) || (decide (1 ≤ y) && (O (y - 1)).testBit x) || (decide (y < 15) && (O (y + 1)).testBit x)
  else (O y).testBit x && (decide (x = 0) || (O y).testBit (x - 1)) && (decide (15 ≤ x) || (O y).testBit (x + 1)) && (decide (y = 0) || (O (y - 1)).testBit x) && (decide (15 ≤ y) || (O (y + 1)).testBit x)
def mjR (R O : Nat → Nat) (how : Nat) : Nat → Nat := fun y => mkR (mj R O how y) 16
/-- row y, or a row beyond -/
def rowB (O : Nat → Nat) (y : Int) (z : Int32) : Int32 := if 0 ≤ y ∧ y < 16 then nI (O y.toNat) else z
section MkB
variable {X : gX} {d : Nat} {b : Nat × Nat} {h : gk_H} {Q : Option Value → gk_H → Prop} {a : Nat} {R : Nat → Nat}
theorem sp_Mask_row {y z : Int32} (hp : isMk X h a R) (hQ : Q (some (.int (rowB R y.toInt z))) h) : Gm (kx X) mt_Mask_row d b [.ref a, .int y, .int z] h Q := by
  obtain ⟨hw, f, e1, e2, e3⟩ := hp
  have z0 : (0 : Int32).toInt = 0 := rfl
  have z7 : (16 : Int32).toInt = 16 := rfl
  refine Gm.enter (L := [some (.ref a), some (.int y), some (.int z)]) (by decide) (fun _ => trivial) (Nat.le_of_ble_eq_true rfl) rfl ?_
  refine gk_iload1 dX5_row_0 (pc' := 1) rfl ?_
  refine gk_if_lt dX5_row_1 (tgt := 19) (pc' := 4) (by decide) rfl (fun c1 => ?_) (fun c1 => ?_)
  · rw [pu_lt, z0] at c1
    rw [rowB, if_neg (by omega)] at hQ
    refine gk_iload2 dX5_row_19 (pc' := 20) rfl ?_
    refine gk_iret dX5_row_20 rfl hQ
  · rw [pu_lt, z0] at c1
    refine gk_iload1 dX5_row_4 (pc' := 5) rfl ?_
    refine gk_bipush (v := 16) dX5_row_5 (pc' := 7) rfl (by decide) ?_
    refine gk_icmp_ge dX5_row_7 (tgt := 19) (pc' := 10) (by decide) rfl (fun c7 => ?_) (fun c7 => ?_)
    · rw [pu_le, z7] at c7
      rw [rowB, if_neg (by omega)] at hQ
      refine gk_iload2 dX5_row_19 (pc' := 20) rfl ?_
      refine gk_iret dX5_row_20 rfl hQ
    · rw [pu_le, z7] at c7
      rw [rowB, if_pos (by omega)] at hQ
      obtain ⟨j, hj, rfl⟩ := pu_of (x := y) (n := 16) (by omega) (by omega) (by omega)
      rw [nI_toInt (by omega), Int.toNat_natCast] at hQ
      refine gk_aload0 dX5_row_10 (pc' := 11) rfl ?_
      refine gk_getf (fs := [_]) gF_Mask_9 dX5_row_11 (pc' := 14) rfl (by assumption) rfl ?_
      refine gk_iload1 dX5_row_14 (pc' := 15) rfl ?_
      refine gk_iald (t0 := 0) rfl dX5_row_15 (pc' := 16) rfl (by assumption) (vp_in_nI (by omega) (by decide)) ?_
      rw [nI_clamp (by omega), e3 j hj]
      refine gk_goto dX5_row_16 (tgt := 20) (by decide) ?_
      refine gk_iret dX5_row_20 rfl hQ
theorem sp_Mask_light {i j : Nat} {on : Bool} (hp : isMk X h a R) (hi : i < 16) (hj : j < 16) (hQ : ∀ h', isMk X h' a (mset R i j on) → fr (fun c => c = a + 1) h h' → Q none h') : Gm (kx X) mt_Mask_light (d + 2) b [.ref a, .int (nI i), .int (nI j), .int (if on then 1 else 0)] h Q := by
  obtain ⟨hw, f, e1, e2, e3⟩ := hp
  have cj : (nI j).toNatClampNeg = j := nI_clamp (by omega)
  have fin : ∀ v, v = nI (mset R i j on j) → Q none (gk_set h (a + 1) (cI X 16 (upd f j v))) := fun v hv => hQ _ ⟨mset_lt hw, _, (gk_set_ne (by omega)).trans e1, gk_set_self, fun y hy => by
      by_cases q : y = j
      · subst q; rw [pk_us]; exact hv
      · rw [pk_un q, e3 y hy]; unfold mset; rw [if_neg q]⟩ fr.set
  refine Gm.enter (L := [some (.ref a), some (.int (nI i)), some (.int (nI j)), some (.int (if on then 1 else 0))]) (by decide) (fun _ => trivial) (Nat.le_of_ble_eq_true rfl) rfl ?_
  refine gk_iload1 dX5_light_0 (pc' := 1) rfl ?_
  refine gk_iload2 dX5_light_1 (pc' := 2) rfl ?_
  refine gk_cSN1_2 mz_Room_isOfMask (host := "DarkRoom") (by decide +kernel) dX5_light_2 (pc' := 5) rfl (Nat.le_of_ble_eq_true rfl) (sp_Room_isOfMask (fun i' j' _ _ _ _ => ?_) (fun q => absurd (by rw [nI_toInt (by omega), nI_toInt (by omega)]; omega) q))
  refine ⟨_, rfl, ?_⟩
  refine gk_if_eq dX5_light_5 (tgt := 43) (pc' := 8) (by decide) rfl (fun c => absurd c (by decide)) (fun _ => ?_)
  refine gk_aload0 dX5_light_8 (pc' := 9) rfl ?_
  refine gk_getf (fs := [_]) gF_Mask_9 dX5_light_9 (pc' := 12) rfl (by assumption) rfl ?_
  refine gk_iload2 dX5_light_12 (pc' := 13) rfl ?_
  refine gk_iload3 dX5_light_13 (pc' := 14) rfl ?_
  refine gk_if_eq dX5_light_14 (tgt := 30) (pc' := 17) (by decide) rfl (fun c14 => ?_) (fun c14 => ?_)
  · have ho : on = false := by cases on; rfl; exact absurd c14 (by decide)
    subst ho
    refine gk_aload0 dX5_light_30 (pc' := 31) rfl ?_
    refine gk_getf (fs := [_]) gF_Mask_9 dX5_light_31 (pc' := 34) rfl (by assumption) rfl ?_
    refine gk_iload2 dX5_light_34 (pc' := 35) rfl ?_
    refine gk_iald (t0 := 0) rfl dX5_light_35 (pc' := 36) rfl (by assumption) (vp_in_nI (by omega) (by decide)) ?_
    rw [cj, e3 j hj]
    refine gk_iconst (v := 1) dX5_light_36 (pc' := 37) rfl (by decide) ?_
    refine gk_iload1 dX5_light_37 (pc' := 38) rfl ?_
    refine gk_ishl dX5_light_38 (pc' := 39) rfl ?_
    refine gk_iconst (v := -1) dX5_light_39 (pc' := 40) rfl (by decide) ?_
    refine gk_ixor dX5_light_40 (pc' := 41) rfl ?_
    refine gk_iand dX5_light_41 (pc' := 42) rfl ?_
    rw [mset_off hi (hw j hj)]
    refine gk_iast (t0 := 0) rfl dX5_light_42 (pc' := 43) rfl (by assumption) (vp_in_nI (by omega) (by decide)) ?_
    rw [cj]
    refine gk_vret dX5_light_43 rfl (fin _ rfl)
  · have ho : on = true := by cases on; exact absurd rfl c14; rfl
    subst ho
    refine gk_aload0 dX5_light_17 (pc' := 18) rfl ?_
    refine gk_getf (fs := [_]) gF_Mask_9 dX5_light_18 (pc' := 21) rfl (by assumption) rfl ?_
    refine gk_iload2 dX5_light_21 (pc' := 22) rfl ?_
    refine gk_iald (t0 := 0) rfl dX5_light_22 (pc' := 23) rfl (by assumption) (vp_in_nI (by omega) (by decide)) ?_
    rw [cj, e3 j hj]
    refine gk_iconst (v := 1) dX5_light_23 (pc' := 24) rfl (by decide) ?_
    refine gk_iload1 dX5_light_24 (pc' := 25) rfl ?_
    refine gk_ishl dX5_light_25 (pc' := 26) rfl ?_
    refine gk_ior dX5_light_26 (pc' := 27) rfl ?_
    rw [mset_on hi (hw j hj)]
    refine gk_goto dX5_light_27 (tgt := 42) (by decide) ?_
    refine gk_iast (t0 := 0) rfl dX5_light_42 (pc' := 43) rfl (by assumption) (vp_in_nI (by omega) (by decide)) ?_
    rw [cj]
    refine gk_vret dX5_light_43 rfl (fin _ rfl)
theorem sp_Mask_darken (hp : isMk X h a R) (hQ : ∀ h', isMk X h' a (fun _ => 0) → fr (fun c => c = a + 1) h h' → Q none h') : Gm (kx X) mt_Mask_darken (d + 1) b [.ref a] h Q := by
  obtain ⟨hw, f, e1, e2, e3⟩ := hp
  refine Gm.enter (L := [some (.ref a)]) (by decide) (fun _ => trivial) (Nat.le_of_ble_eq_true rfl) rfl ?_
  refine gk_aload0 dX5_darken_0 (pc' := 1) rfl ?_
  refine gk_getf (fs := [_]) gF_Mask_9 dX5_darken_1 (pc' := 4) rfl (by assumption) rfl ?_
  refine gk_iconst (v := 0) dX5_darken_4 (pc' := 5) rfl (by decide) ?_
  refine gk_cS0_2 mz_Arrays_fill gw_560 dX5_darken_5 (pc' := 8) rfl (Nat.le_of_ble_eq_true rfl) (sp_Arrays_fill e2 (by omega) (fun h' g q1 q2 q3 => ?_))
  refine ⟨rfl, ?_⟩
  refine gk_vret dX5_darken_8 rfl (hQ h' ⟨fun _ _ => by show 0 < 65536; decide, g, (q3.2 _ (by omega)).trans e1, q1, fun i hi => q2 i hi⟩ q3)
theorem sp_Mask_copyFrom {a' : Nat} {R' : Nat → Nat} (hp : isMk X h a R) (hp' : isMk X h a' R') (n1 : a ≠ a') (hQ : ∀ h', isMk X h' a R' → fr (fun c => c = a + 1) h h' → Q none h') : Gm (kx X) mt_Mask_copyFrom (d + 1) b [.ref a, .ref a'] h Q := by
  obtain ⟨hw, f, e1, e2, e3⟩ := hp
  obtain ⟨hw', f', e1', e2', e3'⟩ := hp'
  refine Gm.enter (L := [some (.ref a), some (.ref a')]) (by decide) (fun _ => trivial) (Nat.le_of_ble_eq_true rfl) rfl ?_
  refine gk_aload1 dX5_copyFrom_0 (pc' := 1) rfl ?_
  refine gk_getf (fs := [_]) gF_Mask_9 dX5_copyFrom_1 (pc' := 4) rfl (by exact (e1')) rfl ?_
  refine gk_iconst (v := 0) dX5_copyFrom_4 (pc' := 5) rfl (by decide) ?_
  refine gk_aload0 dX5_copyFrom_5 (pc' := 6) rfl ?_
  refine gk_getf (fs := [_]) gF_Mask_9 dX5_copyFrom_6 (pc' := 9) rfl (by exact (e1)) rfl ?_
  refine gk_iconst (v := 0) dX5_copyFrom_9 (pc' := 10) rfl (by decide) ?_
  refine gk_bipush (v := 16) dX5_copyFrom_10 (pc' := 12) rfl (by decide) ?_
  refine gk_copy (n' := 16) (sp' := 0) (dp' := 0) (t0 := 0) rfl gw_543 gw_313 gw_312 gw_14 dX5_copyFrom_12 (pc' := 15) rfl e2' e2 rfl rfl rfl (by decide) (by decide) (by decide) (by decide) (by have := nfw; simp; omega) ?_
  refine gk_vret dX5_copyFrom_15 rfl (hQ _ ⟨hw', _, (gk_set_ne (by omega)).trans e1, gk_set_self, fun i hi => ?_⟩ fr.set)
  rw [pk_cpy_in (by omega) (by omega), Nat.zero_add, Nat.sub_zero]
  exact e3' i hi
theorem lp_Mask_howMany (hp : isMk X h a R) (hQ : Q (some (.int (nI (popM R 16)))) h) : ∀ n i, i + n = 16 → G (kx X) mt_Mask_howMany (d + 1) b 4 [some (.ref a), some (.int (nI (popM R i))), some (.int (nI i))] [] h Q := by
  obtain ⟨hw, f, e1, e2, e3⟩ := hp
  intro n
  induction n with
  | zero =>
    intro i hi
    have e : i = 16 := by omega
    subst e
    refine gk_iload2 dX5_howMany_4 (pc' := 5) rfl ?_
    refine gk_bipush (v := 16) dX5_howMany_5 (pc' := 7) rfl (by decide) ?_
    refine gk_icmp_ge dX5_howMany_7 (tgt := 28) (pc' := 10) (by decide) rfl (fun c7 => ?_) (fun c7 => absurd (by decide) c7)
    refine gk_iload1 dX5_howMany_28 (pc' := 29) rfl ?_
    refine gk_iret dX5_howMany_29 rfl hQ
  | succ n ih =>
    intro i hi
    refine gk_iload2 dX5_howMany_4 (pc' := 5) rfl ?_
    refine gk_bipush (v := 16) dX5_howMany_5 (pc' := 7) rfl (by decide) ?_
    refine gk_icmp_ge dX5_howMany_7 (tgt := 28) (pc' := 10) (by decide) rfl (fun c7 => absurd c7 (nI_ge (b := 16) (by omega) (by omega))) (fun c7 => ?_)
    refine gk_iload1 dX5_howMany_10 (pc' := 11) rfl ?_
    refine gk_aload0 dX5_howMany_11 (pc' := 12) rfl ?_
    refine gk_getf (fs := [_]) gF_Mask_9 dX5_howMany_12 (pc' := 15) rfl (by assumption) rfl ?_
    refine gk_iload2 dX5_howMany_15 (pc' := 16) rfl ?_
    refine gk_iald (t0 := 0) rfl dX5_howMany_16 (pc' := 17) rfl (by assumption) (vp_in_nI (by omega) (by decide)) ?_
    rw [nI_clamp (by omega), e3 i (by omega)]
    refine gk_cS1_1 mz_Integer_bitCount gw_565 dX5_howMany_17 (pc' := 20) rfl (Nat.le_of_ble_eq_true rfl) (sp_Integer_bitCount (hw i (by omega)) ?_)
    refine ⟨_, rfl, ?_⟩
    refine gk_iadd dX5_howMany_20 (pc' := 21) rfl ?_
    rw [nI_add]
    refine gk_istore1 dX5_howMany_21 (pc' := 22) rfl (by decide) rfl ?_
    refine gk_iinc2 (v := 1) dX5_howMany_22 (pc' := 25) rfl (by decide) (by decide) rfl ?_
    refine gk_goto dX5_howMany_25 (tgt := 4) (by decide) ?_
    rw [← nI_succ i]
    exact ih (i + 1) (by omega)
theorem sp_Mask_howMany (hp : isMk X h a R) (hQ : Q (some (.int (nI (popM R 16)))) h) : Gm (kx X) mt_Mask_howMany (d + 1) b [.ref a] h Q := by
  refine Gm.enter (L := [some (.ref a), none, none]) (by decide) (fun _ => trivial) (Nat.le_of_ble_eq_true rfl) rfl ?_
  refine gk_iconst (v := 0) dX5_howMany_0 (pc' := 1) rfl (by decide) ?_
  refine gk_istore1 dX5_howMany_1 (pc' := 2) rfl (by decide) rfl ?_
  refine gk_iconst (v := 0) dX5_howMany_2 (pc' := 3) rfl (by decide) ?_
  refine gk_istore2 dX5_howMany_3 (pc' := 4) rfl (by decide) rfl ?_
  exact lp_Mask_howMany hp hQ 16 0 (by omega)
theorem sp_Mask_init (ha : h.1 a = some (.inr (5, [.null]))) (hs : h.2 = a + 1) (hQ : ∀ h', isMk X h' a (fun _ => 0) → (∀ c, c ≠ a → c ≠ a + 1 → h'.1 c = h.1 c) → h'.2 = a + 2 → Q none h') : Gm (kx X) mt_Mask_init (d + 1) (1, 16) [.ref a] h Q := by
  refine Gm.enter (L := [some (.ref a)]) (by decide) (fun _ => trivial) (Nat.le_of_ble_eq_true rfl) rfl ?_
  refine gk_aload0 dX5_init_0 (pc' := 1) rfl ?_
  refine gk_objInit gw_66 gw_23 gw_24 dX5_init_1 (pc' := 4) rfl (Nat.le_of_ble_eq_true rfl) ?_
  refine gk_aload0 dX5_init_4 (pc' := 5) rfl ?_
  refine gk_bipush (v := 16) dX5_init_5 (pc' := 7) rfl (by decide) ?_
  refine gk_newi (n := 16) (bc := 0) (bs := 0) (t0 := 0) rfl gw_61 dX5_init_7 (pc' := 9) rfl rfl (by decide) ?_
  refine gk_putF (fs := [_]) gP_Mask_9 rfl dX5_init_9 (pc' := 12) rfl (by exact ((gk_new_ne (by omega)).trans ha)) rfl rfl (Nat.le_of_ble_eq_true rfl) ?_
  refine gk_vret dX5_init_12 rfl (hQ _ ⟨fun _ _ => by show 0 < 65536; decide, fun _ => 0, ?_, ?_, fun i hi => rfl⟩ (fun c n1 n2 => ?_) ?_)
  · rw [gk_set_self, hs]; rfl
  · rw [gk_set_ne (by omega), ← hs]; exact gk_new_self
  · rw [gk_set_ne n1, gk_new_ne (by omega)]
  · show h.2 + 1 = a + 2; omega
end MkB
