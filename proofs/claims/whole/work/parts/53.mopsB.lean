/-! ===== the reference: rounding, dither, even ===== -/
theorem cry_rel {w t k N : Nat} {f c o p : Nat → Int32} {x y : Int} {e : Int32} (h : ∀ i, i < N → f i = if i < k then o i else p i + c i) (hN : w * t ≤ N) (hk : 0 ≤ x ∧ x < w ∧ 0 ≤ y ∧ y < t → k ≤ y.toNat * w + x.toNat) : ∀ i, i < N → cry w t f x y e i = if i < k then o i else p i + cry w t c x y e i := fun i hi => by
  unfold cry
  by_cases q : 0 ≤ x ∧ x < w ∧ 0 ≤ y ∧ y < t
  · rw [if_pos q, if_pos q]
    have kk := hk q
    have pl := place_lt (w := w) (t := t) (i := x.toNat) (j := y.toNat) (by omega) (by omega)
    by_cases z : i = y.toNat * w + x.toNat
    · subst z
      rw [pk_us, pk_us, if_neg (by omega), h _ hi, if_neg (by omega), Int32.add_assoc]
    · rw [pk_un z, pk_un z]; exact h i hi
  · rw [if_neg q, if_neg q]; exact h i hi
theorem dS_congr {w t top : Nat} {p q : Nat → Int32} : ∀ n, (∀ i, i < n → p i = q i) → dS w t top p n = dS w t top q n
  | 0, _ => rfl
  | n + 1, h => by
    show dst w t top p n (dS w t top p n) = dst w t top q n (dS w t top q n)
    rw [dS_congr n (fun i hi => h i (by omega))]
    unfold dst
    rw [h n (by omega)]
theorem cN_congr {p q : Nat → Int32} {v : Int} : ∀ n, (∀ i, i < n → p i = q i) → cN p n v = cN q n v
  | 0, _ => rfl
  | n + 1, h => by
    unfold cN
    rw [cN_congr n (fun i hi => h i (by omega)), h n (by omega)]
section MoR
variable {X : gX} {d : Nat} {b : Nat × Nat} {h h0 : gk_H} {m : Nat} {A : MoA} {Z : MoZ} {Q : Option Value → gk_H → Prop} {S : St}
theorem sp_Mo_floored {x y : Int64} (hy : 0 < y.toInt) (hy2 : y.toInt < 2 ^ 40) (hx : -2 ^ 62 < x.toInt) (hx2 : x.toInt < 2 ^ 62) (hQ : ∀ r : Int64, r.toInt = x.toInt / y.toInt → Q (some (.long r)) h) : Gm (kx X) mt_Mo_floored d b [.long x, .long y] h Q := by
  have hne : ¬ y = 0 := fun q => by rw [q] at hy; exact absurd hy (by decide)
  have hdv : (x / y).toInt = x.toInt.tdiv y.toInt := Jvm.Kit.i64_div (by omega)
  have z0 : (0 : Int64).toInt = 0 := rfl
  have z1 : (1 : Int64).toInt = 1 := rfl
  have q1 : x.toInt.tdiv y.toInt * y.toInt + x.toInt.tmod y.toInt = x.toInt := by rw [Int.mul_comm, Int.tmod_def]; omega
  have q2 : x.toInt / y.toInt * y.toInt + x.toInt % y.toInt = x.toInt := by rw [Int.mul_comm]; exact Int.mul_ediv_add_emod ..
  have q3 : -y.toInt < x.toInt.tmod y.toInt ∧ x.toInt.tmod y.toInt < y.toInt := tmod_bounds hy
  have q4 := Int.emod_nonneg x.toInt (show y.toInt ≠ 0 by omega)
  have q5 := Int.emod_lt_of_pos x.toInt hy
  have q6 := pu_tmod (a := x.toInt) hy
  have ab : (x.toInt.tdiv y.toInt).natAbs ≤ x.toInt.natAbs := by rw [Int.natAbs_tdiv]; exact Nat.div_le_self _ _
  have pos : 0 ≤ x.toInt → x.toInt.tdiv y.toInt = x.toInt / y.toInt := fun q => Int.tdiv_eq_ediv_of_nonneg q
  have neg0 : x.toInt.tmod y.toInt = 0 → x.toInt.tdiv y.toInt = x.toInt / y.toInt := fun q => by
    rw [q] at q1 q6
    rw [if_neg (by omega)] at q6
    have : (x.toInt.tdiv y.toInt - x.toInt / y.toInt) * y.toInt = 0 := by rw [Int.sub_mul]; omega
    rcases Int.mul_eq_zero.mp this with q | q <;> omega
  have neg1 : x.toInt < 0 → ¬ x.toInt.tmod y.toInt = 0 → x.toInt.tdiv y.toInt - 1 = x.toInt / y.toInt := fun q qn => by
    have hs2 : x.toInt.tmod y.toInt ≤ 0 := by
      rw [← Int.neg_neg x.toInt, Int.neg_tmod]
      have := Int.tmod_nonneg (a := -x.toInt) y.toInt (by omega)
      omega
    rw [if_pos (by omega)] at q6
    have : (x.toInt.tdiv y.toInt - 1 - x.toInt / y.toInt) * y.toInt = 0 := by rw [Int.sub_mul, Int.sub_mul]; omega
    rcases Int.mul_eq_zero.mp this with q | q <;> omega
  have mm : (x / y * y).toInt = x.toInt - x.toInt.tmod y.toInt := by
    rw [Jvm.Kit.i64_mul (by rw [hdv]; omega) (by rw [hdv]; omega), hdv]
    omega
  have mr : (x - x / y * y).toInt = x.toInt.tmod y.toInt := by
    rw [Jvm.Kit.i64_sub (by rw [mm]; omega) (by rw [mm]; omega), mm]
    omega
  refine Gm.enter (L := [some (.long x), none, some (.long y), none, none, none]) (by decide) (fun _ => trivial) (Nat.le_of_ble_eq_true rfl) rfl ?_
  refine gk_lload0 dX11_floored_0 (pc' := 1) rfl ?_
  refine gk_lload2 dX11_floored_1 (pc' := 2) rfl ?_
  refine gk_ldiv dX11_floored_2 (pc' := 3) rfl (hne) ?_
  refine gk_lstore4 dX11_floored_3 (pc' := 5) rfl (by decide) rfl ?_
  refine gk_lload0 dX11_floored_5 (pc' := 6) rfl ?_
  refine gk_lload2 dX11_floored_6 (pc' := 7) rfl ?_
  refine gk_lrem dX11_floored_7 (pc' := 8) rfl (hne) ?_
  refine gk_lconst (v := 0) dX11_floored_8 (pc' := 9) rfl (by decide) ?_
  refine gk_lcmp dX11_floored_9 (pc' := 10) rfl ?_
  refine gk_if_eq dX11_floored_10 (tgt := 26) (pc' := 13) (by decide) rfl (fun c10 => ?_) (fun c10 => ?_)
  · rw [pu_cmp_eq] at c10
    have n0 : x.toInt.tmod y.toInt = 0 := by rw [← mr, c10, z0]
    refine gk_lload4 dX11_floored_26 (pc' := 28) rfl ?_
    refine gk_lret dX11_floored_28 rfl (by first | exact hQ _ (by rw [hdv]; exact neg0 n0) | exact hQ _ (by rw [hdv]; exact pos (by omega)) | exact hQ _ (by rw [Jvm.Kit.i64_sub (by rw [hdv]; omega) (by rw [hdv]; omega), hdv, z1]; exact neg1 (by omega) n0))
  · rw [pu_cmp_eq] at c10
    have n0 : ¬ x.toInt.tmod y.toInt = 0 := fun e => c10 (Int64.toInt_inj.mp (by rw [mr, e, z0]))
    refine gk_lload0 dX11_floored_13 (pc' := 14) rfl ?_
    refine gk_lconst (v := 0) dX11_floored_14 (pc' := 15) rfl (by decide) ?_
    refine gk_lcmp dX11_floored_15 (pc' := 16) rfl ?_
    refine gk_if_ge dX11_floored_16 (tgt := 26) (pc' := 19) (by decide) rfl (fun c16 => ?_) (fun c16 => ?_)
    · rw [← Int32.not_lt, pu_cmp_lt, z0] at c16
      refine gk_lload4 dX11_floored_26 (pc' := 28) rfl ?_
      refine gk_lret dX11_floored_28 rfl (by first | exact hQ _ (by rw [hdv]; exact neg0 n0) | exact hQ _ (by rw [hdv]; exact pos (by omega)) | exact hQ _ (by rw [Jvm.Kit.i64_sub (by rw [hdv]; omega) (by rw [hdv]; omega), hdv, z1]; exact neg1 (by omega) n0))
    · rw [← Int32.not_lt, Classical.not_not, pu_cmp_lt, z0] at c16
      refine gk_lload4 dX11_floored_19 (pc' := 21) rfl ?_
      refine gk_lconst (v := 1) dX11_floored_21 (pc' := 22) rfl (by decide) ?_
      refine gk_lsub dX11_floored_22 (pc' := 23) rfl ?_
      refine gk_goto dX11_floored_23 (tgt := 28) (by decide) ?_
      refine gk_lret dX11_floored_28 rfl (by first | exact hQ _ (by rw [hdv]; exact neg0 n0) | exact hQ _ (by rw [hdv]; exact pos (by omega)) | exact hQ _ (by rw [Jvm.Kit.i64_sub (by rw [hdv]; omega) (by rw [hdv]; omega), hdv, z1]; exact neg1 (by omega) n0))
theorem sp_Mo_rounded {x y : Int64} (hy : 0 < y.toInt) (hy2 : y.toInt < 2 ^ 38) (hx : -2 ^ 60 < x.toInt) (hx2 : x.toInt < 2 ^ 60) (hQ : ∀ r : Int64, r.toInt = rnd x.toInt y.toInt → Q (some (.long r)) h) : Gm (kx X) mt_Mo_rounded (d + 1) b [.long x, .long y] h Q := by
  have z2 : (2 : Int64).toInt = 2 := rfl
  have m1 : (2 * x).toInt = 2 * x.toInt := by rw [Jvm.Kit.i64_mul (by rw [z2]; omega) (by rw [z2]; omega), z2]
  have m2 : (2 * y).toInt = 2 * y.toInt := by rw [Jvm.Kit.i64_mul (by rw [z2]; omega) (by rw [z2]; omega), z2]
  have m3 : (2 * x + y).toInt = 2 * x.toInt + y.toInt := by rw [Jvm.Kit.i64_add (by omega) (by omega), m1]
  refine Gm.enter (L := [some (.long x), none, some (.long y), none]) (by decide) (fun _ => trivial) (Nat.le_of_ble_eq_true rfl) rfl ?_
  refine gk_ldc2 dX11_rounded_0 (pc' := 3) rfl gw_1028 ?_
  refine gk_lload0 dX11_rounded_3 (pc' := 4) rfl ?_
  refine gk_lmul dX11_rounded_4 (pc' := 5) rfl ?_
  refine gk_lload2 dX11_rounded_5 (pc' := 6) rfl ?_
  refine gk_ladd dX11_rounded_6 (pc' := 7) rfl ?_
  refine gk_ldc2 dX11_rounded_7 (pc' := 10) rfl gw_1028 ?_
  refine gk_lload2 dX11_rounded_10 (pc' := 11) rfl ?_
  refine gk_lmul dX11_rounded_11 (pc' := 12) rfl ?_
  refine gk_cS1_2 mz_Mo_floored gw_1029 dX11_rounded_12 (pc' := 15) rfl (Nat.le_of_ble_eq_true rfl) (sp_Mo_floored (by omega) (by omega) (by omega) (by omega) (fun r hr => ?_))
  refine ⟨_, rfl, ?_⟩
  refine gk_lret dX11_rounded_15 rfl (hQ r (by rw [hr, m3, m2]; rfl))
theorem sp_Mo_carry {w t : Nat} {x y e : Int32} (hZ : Z 4 = nI w ∧ Z 5 = nI t) (hw : w ≤ 16) (ht : t ≤ 16) (hy : 0 ≤ y.toInt) (hQ : Q none (mkH X h0 m (uA A 14 (cry w t (A 14) x.toInt y.toInt e)) Z)) : Gm (kx X) mt_Mo_carry (d + 1) b [.ref m, .int x, .int y, .int e] (mkH X h0 m A Z) Q := by
  have z0 : (0 : Int64).toInt = 0 := rfl
  have z1 : (1 : Int32).toInt = 1 := rfl
  have zx := i2l_i x
  have ar := area_le hw ht
  have zw : (nI w - 1).toInt64.toInt = (w : Int) - 1 := by rw [i2l_i, Jvm.Kit.i32_sub (by rw [nI_toInt (by omega)]; omega) (by rw [nI_toInt (by omega)]; omega), nI_toInt (by omega), z1]
  have skip : ¬ (0 ≤ x.toInt ∧ x.toInt < w ∧ 0 ≤ y.toInt ∧ y.toInt < t) → Q none (mkH X h0 m A Z) := fun n => by
    unfold cry at hQ
    rw [if_neg n, uA_i] at hQ
    exact hQ
  refine Gm.enter (L := [some (.ref m), some (.int x), some (.int y), some (.int e)]) (by decide) (fun _ => trivial) (Nat.le_of_ble_eq_true rfl) rfl ?_
  refine gk_iload1 dX11_carry_0 (pc' := 1) rfl ?_
  refine gk_i2l dX11_carry_1 (pc' := 2) rfl ?_
  refine gk_lconst (v := 0) dX11_carry_2 (pc' := 3) rfl (by decide) ?_
  refine gk_aload0 dX11_carry_3 (pc' := 4) rfl ?_
  refine gk_getf (fs := [_, _, _, _, _, _, _, _, _, _, _, _, _, _, _, _, _, _, _, _, _, _, _, _, _, _]) gF_Mo_138 dX11_carry_4 (pc' := 7) rfl (by exact (mkJ)) rfl ?_
  rw [hZ.1]
  refine gk_iconst (v := 1) dX11_carry_7 (pc' := 8) rfl (by decide) ?_
  refine gk_isub dX11_carry_8 (pc' := 9) rfl ?_
  refine gk_i2l dX11_carry_9 (pc' := 10) rfl ?_
  refine gk_cS1_3 mz_Mo_in gw_886 dX11_carry_10 (pc' := 13) rfl (Nat.le_of_ble_eq_true rfl) (sp_Mo_in (fun u v => ?_) (fun n10 => ?_))
  · refine ⟨_, rfl, ?_⟩
    refine gk_if_eq dX11_carry_13 (tgt := 41) (pc' := 16) (by decide) rfl (fun c => absurd c (by decide)) (fun _ => ?_)
    refine gk_iload2 dX11_carry_16 (pc' := 17) rfl ?_
    refine gk_aload0 dX11_carry_17 (pc' := 18) rfl ?_
    refine gk_getf (fs := [_, _, _, _, _, _, _, _, _, _, _, _, _, _, _, _, _, _, _, _, _, _, _, _, _, _]) gF_Mo_141 dX11_carry_18 (pc' := 21) rfl (by exact (mkJ)) rfl ?_
    rw [hZ.2]
    refine gk_icmp_ge dX11_carry_21 (tgt := 41) (pc' := 24) (by decide) rfl (fun c21 => ?_) (fun c21 => ?_)
    · rw [pu_le, nI_toInt (by omega)] at c21
      refine gk_vret dX11_carry_41 rfl (by first | exact hQ | exact skip (by omega))
    · rw [pu_le, nI_toInt (by omega)] at c21
      have qq : 0 ≤ x.toInt ∧ x.toInt < w ∧ 0 ≤ y.toInt ∧ y.toInt < t := by omega
      obtain ⟨jx, hjx, rfl⟩ := pu_of (x := x) (n := w) (by omega) (by omega) (by omega)
      obtain ⟨jy, hjy, rfl⟩ := pu_of (x := y) (n := t) (by omega) (by omega) (by omega)
      have pl := place_lt hjx hjy
      unfold cry at hQ
      rw [if_pos qq, nI_nat (j := jx) (by omega), nI_nat (j := jy) (by omega)] at hQ
      refine gk_aload0 dX11_carry_24 (pc' := 25) rfl ?_
      refine gk_getf (fs := [_, _, _, _, _, _, _, _, _, _, _, _, _, _, _, _, _, _, _, _, _, _, _, _, _, _]) gF_Mo_50 dX11_carry_25 (pc' := 28) rfl (by exact (mkJ)) rfl ?_
      refine gk_iload2 dX11_carry_28 (pc' := 29) rfl ?_
      refine gk_aload0 dX11_carry_29 (pc' := 30) rfl ?_
      refine gk_getf (fs := [_, _, _, _, _, _, _, _, _, _, _, _, _, _, _, _, _, _, _, _, _, _, _, _, _, _]) gF_Mo_138 dX11_carry_30 (pc' := 33) rfl (by exact (mkJ)) rfl ?_
      rw [hZ.1]
      refine gk_imulN dX11_carry_33 (pc' := 34) rfl ?_
      refine gk_iload1 dX11_carry_34 (pc' := 35) rfl ?_
      refine gk_iaddN dX11_carry_35 (pc' := 36) rfl ?_
      refine gk_dup2 dX11_carry_36 (pc' := 37) rfl rfl rfl ?_
      refine gk_iald (t0 := 0) rfl dX11_carry_37 (pc' := 38) rfl (by exact (mkA14)) (vp_in_nI (by omega) (by decide)) ?_
      rw [nI_clamp (by omega)]
      refine gk_iload3 dX11_carry_38 (pc' := 39) rfl ?_
      refine gk_iadd dX11_carry_39 (pc' := 40) rfl ?_
      refine gk_iast (t0 := 0) rfl dX11_carry_40 (pc' := 41) rfl (by exact (mkA14)) (vp_in_nI (by omega) (by decide)) ?_
      rw [nI_clamp (by omega), mkS14]
      refine gk_vret dX11_carry_41 rfl (by first | exact hQ | exact skip (by omega))
  · refine ⟨_, rfl, ?_⟩
    refine gk_if_eq dX11_carry_13 (tgt := 41) (pc' := 16) (by decide) rfl (fun _ => ?_) (fun c => absurd c (by decide))
    refine gk_vret dX11_carry_41 rfl (by first | exact hQ | exact skip (by omega))
theorem lp_Mo_dither0 {l1 l2 : Option Value} {L2 : Int32} (e2 : l2 = some (.int L2)) (hQ : ∀ l3, G (kx X) mt_Mo_dither (d + 10) b 79 [some (.ref m), l1, l2, l3, none, none, none, none, none, none] [] (mkH X h0 m (uA A 14 (cpI (A 14) (A 9) 0 256)) Z) Q) : ∀ n i, i + n = 256 → G (kx X) mt_Mo_dither (d + 10) b 54 [some (.ref m), l1, l2, some (.int (nI i)), none, none, none, none, none, none] [] (mkH X h0 m (uA A 14 (cpI (A 14) (A 9) 0 i)) Z) Q := by
  subst e2
  intro n
  induction n with
  | zero =>
    intro i hi
    have e : i = 256 := by omega
    subst e
    refine gk_iload3 dX11_dither_54 (pc' := 55) rfl ?_
    refine gk_sipush (v := 256) dX11_dither_55 (pc' := 58) rfl (by decide) ?_
    refine gk_icmp_ge dX11_dither_58 (tgt := 79) (pc' := 61) (by decide) rfl (fun c58 => ?_) (fun c58 => absurd (by decide) c58)
    exact hQ _
  | succ n ih =>
    intro i hi
    have es : upd (cpI (A 14) (A 9) 0 i) i (A 9 i) = cpI (A 14) (A 9) 0 (i + 1) := by
      have := cpI_s (f := A 14) (g := A 9) (s := 0) (i := i)
      rw [Nat.zero_add] at this
      exact this
    refine gk_iload3 dX11_dither_54 (pc' := 55) rfl ?_
    refine gk_sipush (v := 256) dX11_dither_55 (pc' := 58) rfl (by decide) ?_
    refine gk_icmp_ge dX11_dither_58 (tgt := 79) (pc' := 61) (by decide) rfl (fun c58 => absurd c58 (nI_ge (b := 256) (by omega) (by omega))) (fun c58 => ?_)
    refine gk_aload0 dX11_dither_61 (pc' := 62) rfl ?_
    refine gk_getf (fs := [_, _, _, _, _, _, _, _, _, _, _, _, _, _, _, _, _, _, _, _, _, _, _, _, _, _]) gF_Mo_50 dX11_dither_62 (pc' := 65) rfl (by exact (mkJ)) rfl ?_
    refine gk_iload3 dX11_dither_65 (pc' := 66) rfl ?_
    refine gk_aload0 dX11_dither_66 (pc' := 67) rfl ?_
    refine gk_getf (fs := [_, _, _, _, _, _, _, _, _, _, _, _, _, _, _, _, _, _, _, _, _, _, _, _, _, _]) gF_Mo_35 dX11_dither_67 (pc' := 70) rfl (by exact (mkJ)) rfl ?_
    refine gk_iload3 dX11_dither_70 (pc' := 71) rfl ?_
    refine gk_iald (t0 := 0) rfl dX11_dither_71 (pc' := 72) rfl (by exact (mkA9)) (vp_in_nI (by omega) (by decide)) ?_
    rw [nI_clamp (by omega)]
    refine gk_iast (t0 := 0) rfl dX11_dither_72 (pc' := 73) rfl (by exact (mkA14)) (vp_in_nI (by omega) (by decide)) ?_
    rw [nI_clamp (by omega), mkS14]
    refine gk_iinc3 (v := 1) dX11_dither_73 (pc' := 76) rfl (by decide) (by decide) rfl ?_
    refine gk_goto dX11_dither_76 (tgt := 54) (by decide) ?_
    rw [← nI_succ, uA_s, uA_n (show 9 ≠ 14 by decide), uA_u, es]
    exact ih (i + 1) (by omega)
/-- made, where n pixels are dithered -/
def dInv (w t top : Nat) (p : Nat → Int32) (n : Nat) (f : Nat → Int32) : Prop := ∀ i, i < w * t → f i = if i < n then (dS w t top p n).2 i else p i + (dS w t top p n).1 i
theorem dInv.step {w t top x y : Nat} {p f : Nat → Int32} (hx : x < w) (hy : y < t) (h : dInv w t top p (y * w + x) f) {v e : Int32} (hv : v = p (y * w + x) + (dS w t top p (y * w + x)).1 (y * w + x)) (he : e = v - dmd top v) : dInv w t top p (y * w + x + 1) (cry w t (cry w t (cry w t (cry w t (upd f (y * w + x) (dmd top v)) ((x : Int) + 1) y (7 * e / 16)) ((x : Int) - 1) ((y : Int) + 1) (3 * e / 16)) x ((y : Int) + 1) (5 * e / 16)) ((x : Int) + 1) ((y : Int) + 1) (e - 7 * e / 16 - 3 * e / 16 - 5 * e / 16)) := by
  have d1 := dm (y := y) hx
  have pl := place_lt hx hy
  have es : dS w t top p (y * w + x + 1) = (cry w t (cry w t (cry w t (cry w t (dS w t top p (y * w + x)).1 ((x : Int) + 1) y (7 * e / 16)) ((x : Int) - 1) ((y : Int) + 1) (3 * e / 16)) x ((y : Int) + 1) (5 * e / 16)) ((x : Int) + 1) ((y : Int) + 1) (e - 7 * e / 16 - 3 * e / 16 - 5 * e / 16), upd (dS w t top p (y * w + x)).2 (y * w + x) (dmd top v)) := by
    show dst w t top p (y * w + x) (dS w t top p (y * w + x)) = _
    unfold dst
    rw [d1.1, d1.2, he, hv]
  have h1 : ∀ i, i < w * t → upd f (y * w + x) (dmd top v) i = if i < y * w + x + 1 then upd (dS w t top p (y * w + x)).2 (y * w + x) (dmd top v) i else p i + (dS w t top p (y * w + x)).1 i := fun i hi => by
    by_cases z : i = y * w + x
    · subst z; rw [pk_us, pk_us, if_pos (by omega)]
    · rw [pk_un z, pk_un z, h i hi]
      by_cases g : i < y * w + x
      · rw [if_pos g, if_pos (by omega)]
      · rw [if_neg g, if_neg (by omega)]
  have yw : (y + 1) * w = y * w + w := by rw [Nat.add_mul, Nat.one_mul]
  have yt : ((y : Int) + 1).toNat = y + 1 := by omega
  have yt0 : ((y : Int)).toNat = y := by omega
  intro i hi
  have e1 : (dS w t top p (y * w + x + 1)).1 = cry w t (cry w t (cry w t (cry w t (dS w t top p (y * w + x)).1 ((x : Int) + 1) y (7 * e / 16)) ((x : Int) - 1) ((y : Int) + 1) (3 * e / 16)) x ((y : Int) + 1) (5 * e / 16)) ((x : Int) + 1) ((y : Int) + 1) (e - 7 * e / 16 - 3 * e / 16 - 5 * e / 16) := congrArg Prod.fst es
  have e2 : (dS w t top p (y * w + x + 1)).2 = upd (dS w t top p (y * w + x)).2 (y * w + x) (dmd top v) := congrArg Prod.snd es
  rw [e1, e2]
  refine cry_rel (cry_rel (cry_rel (cry_rel h1 (Nat.le_refl _) (fun q => ?_)) (Nat.le_refl _) (fun q => ?_)) (Nat.le_refl _) (fun q => ?_)) (Nat.le_refl _) (fun q => ?_) i hi
  · rw [yt0, show ((x : Int) + 1).toNat = x + 1 by omega]; omega
  · rw [yt, yw]; omega
  · rw [yt, yw]; omega
  · rw [yt, yw]; omega
theorem lp_Mo_ditherX {w t top y : Nat} {p : Nat → Int32} {l1 : Option Value} (hZ : Z 4 = nI w ∧ Z 5 = nI t) (hw : 1 ≤ w ∧ w ≤ 16) (ht : 1 ≤ t ∧ t ≤ 16) (h1 : 1 ≤ top) (h2 : top ≤ 15) (hy : y < t) (hQ : ∀ f (l4 l5 l6 l7 l8 l9 : Option Value), dInv w t top p ((y + 1) * w) f → G (kx X) mt_Mo_dither (d + 10) b 297 [some (.ref m), l1, some (.int (nI (top + 1))), some (.int (nI y)), l4, l5, l6, l7, l8, l9] [] (mkH X h0 m (uA A 14 f) Z) Q) :
    ∀ n x f (l5 l6 l7 l8 l9 : Option Value), x + n = w → dInv w t top p (y * w + x) f → G (kx X) mt_Mo_dither (d + 10) b 92 [some (.ref m), l1, some (.int (nI (top + 1))), some (.int (nI y)), some (.int (nI x)), l5, l6, l7, l8, l9] [] (mkH X h0 m (uA A 14 f) Z) Q := by
  have ar := area_le hw.2 ht.2
  intro n
  induction n with
  | zero =>
    intro x f l5 l6 l7 l8 l9 hx hf
    refine gk_iload4 dX11_dither_92 (pc' := 94) rfl ?_
    refine gk_aload0 dX11_dither_94 (pc' := 95) rfl ?_
    refine gk_getf (fs := [_, _, _, _, _, _, _, _, _, _, _, _, _, _, _, _, _, _, _, _, _, _, _, _, _, _]) gF_Mo_138 dX11_dither_95 (pc' := 98) rfl (by exact (mkJ)) rfl ?_
    rw [hZ.1]
    refine gk_icmp_ge dX11_dither_98 (tgt := 297) (pc' := 101) (by decide) rfl (fun c98 => ?_) (fun c98 => absurd (nI_le (by omega) (by omega)) c98)
    refine hQ f _ _ _ _ _ _ ?_
    rw [show (y + 1) * w = y * w + x by rw [Nat.add_mul, Nat.one_mul]; omega]
    exact hf
  | succ n ih =>
    intro x f l5 l6 l7 l8 l9 hx hf
    have hxw : x < w := by omega
    have pl := place_lt hxw hy
    have hv := hf (y * w + x) pl
    rw [if_neg (by omega)] at hv
    have st := fun e he => hf.step (v := f (y * w + x)) (e := e) hxw hy hv he
    have zx : (nI x).toInt = x := nI_toInt (by omega)
    have zy : (nI y).toInt = y := nI_toInt (by omega)
    have z1 : (1 : Int32).toInt = 1 := rfl
    have xp : (nI x + 1).toInt = (x : Int) + 1 := by rw [Jvm.Kit.i32_add (by omega) (by omega), zx, z1]
    have xm : (nI x - 1).toInt = (x : Int) - 1 := by rw [Jvm.Kit.i32_sub (by omega) (by omega), zx, z1]
    have yp : (nI y + 1).toInt = (y : Int) + 1 := by rw [Jvm.Kit.i32_add (by omega) (by omega), zy, z1]
    have zt : (nI top).toInt64.toInt = top := by rw [i2l_i, nI_toInt (by omega)]
    have e1 : nI (top + 1) - 1 = nI top := nI_pred top
    have lv := dlv_rng top (f (y * w + x))
    have fin : ∀ (l6 : Option Value), G (kx X) mt_Mo_dither (d + 10) b 177 [some (.ref m), l1, some (.int (nI (top + 1))), some (.int (nI y)), some (.int (nI x)), some (.int (f (y * w + x))), l6, none, l8, l9] [.int (dmd top (f (y * w + x)))] (mkH X h0 m (uA A 14 f) Z) Q := by
      intro l6
      refine gk_istore8 dX11_dither_177 (pc' := 179) rfl (by decide) rfl ?_
      refine gk_iload5 dX11_dither_179 (pc' := 181) rfl ?_
      refine gk_iload8 dX11_dither_181 (pc' := 183) rfl ?_
      refine gk_isub dX11_dither_183 (pc' := 184) rfl ?_
      refine gk_istore9 dX11_dither_184 (pc' := 186) rfl (by decide) rfl ?_
      refine gk_aload0 dX11_dither_186 (pc' := 187) rfl ?_
      refine gk_getf (fs := [_, _, _, _, _, _, _, _, _, _, _, _, _, _, _, _, _, _, _, _, _, _, _, _, _, _]) gF_Mo_50 dX11_dither_187 (pc' := 190) rfl (by exact (mkJ)) rfl ?_
      refine gk_iload3 dX11_dither_190 (pc' := 191) rfl ?_
      refine gk_aload0 dX11_dither_191 (pc' := 192) rfl ?_
      refine gk_getf (fs := [_, _, _, _, _, _, _, _, _, _, _, _, _, _, _, _, _, _, _, _, _, _, _, _, _, _]) gF_Mo_138 dX11_dither_192 (pc' := 195) rfl (by exact (mkJ)) rfl ?_
      rw [hZ.1]
      refine gk_imulN dX11_dither_195 (pc' := 196) rfl ?_
      refine gk_iload4 dX11_dither_196 (pc' := 198) rfl ?_
      refine gk_iaddN dX11_dither_198 (pc' := 199) rfl ?_
      refine gk_iload8 dX11_dither_199 (pc' := 201) rfl ?_
      refine gk_iast (t0 := 0) rfl dX11_dither_201 (pc' := 202) rfl (by exact (mkA14)) (vp_in_nI (by omega) (by decide)) ?_
      rw [nI_clamp (by omega), mkS14]
      rw [uA_s, uA_u]
      refine gk_aload0 dX11_dither_202 (pc' := 203) rfl ?_
      refine gk_iload4 dX11_dither_203 (pc' := 205) rfl ?_
      refine gk_iconst (v := 1) dX11_dither_205 (pc' := 206) rfl (by decide) ?_
      refine gk_iadd dX11_dither_206 (pc' := 207) rfl ?_
      refine gk_iload3 dX11_dither_207 (pc' := 208) rfl ?_
      refine gk_bipush (v := 7) dX11_dither_208 (pc' := 210) rfl (by decide) ?_
      refine gk_iload9 dX11_dither_210 (pc' := 212) rfl ?_
      refine gk_imul dX11_dither_212 (pc' := 213) rfl ?_
      refine gk_bipush (v := 16) dX11_dither_213 (pc' := 215) rfl (by decide) ?_
      refine gk_idiv dX11_dither_215 (pc' := 216) rfl (by decide) ?_
      refine gk_cV0_3 mv_Mo_carry gw_1087 dX11_dither_216 (pc' := 219) rfl (Nat.le_of_ble_eq_true rfl) (by exact (mkJ)) (sp_Mo_carry hZ hw.2 ht.2 (by omega) ?_)
      refine ⟨rfl, ?_⟩
      rw [uA_s, uA_u, xp, zy]
      refine gk_aload0 dX11_dither_219 (pc' := 220) rfl ?_
      refine gk_iload4 dX11_dither_220 (pc' := 222) rfl ?_
      refine gk_iconst (v := 1) dX11_dither_222 (pc' := 223) rfl (by decide) ?_
      refine gk_isub dX11_dither_223 (pc' := 224) rfl ?_
      refine gk_iload3 dX11_dither_224 (pc' := 225) rfl ?_
      refine gk_iconst (v := 1) dX11_dither_225 (pc' := 226) rfl (by decide) ?_
      refine gk_iadd dX11_dither_226 (pc' := 227) rfl ?_
      refine gk_iconst (v := 3) dX11_dither_227 (pc' := 228) rfl (by decide) ?_
      refine gk_iload9 dX11_dither_228 (pc' := 230) rfl ?_
      refine gk_imul dX11_dither_230 (pc' := 231) rfl ?_
      refine gk_bipush (v := 16) dX11_dither_231 (pc' := 233) rfl (by decide) ?_
      refine gk_idiv dX11_dither_233 (pc' := 234) rfl (by decide) ?_
      refine gk_cV0_3 mv_Mo_carry gw_1087 dX11_dither_234 (pc' := 237) rfl (Nat.le_of_ble_eq_true rfl) (by exact (mkJ)) (sp_Mo_carry hZ hw.2 ht.2 (by omega) ?_)
      refine ⟨rfl, ?_⟩
      rw [uA_s, uA_u, xm, yp]
      refine gk_aload0 dX11_dither_237 (pc' := 238) rfl ?_
      refine gk_iload4 dX11_dither_238 (pc' := 240) rfl ?_
      refine gk_iload3 dX11_dither_240 (pc' := 241) rfl ?_
      refine gk_iconst (v := 1) dX11_dither_241 (pc' := 242) rfl (by decide) ?_
      refine gk_iadd dX11_dither_242 (pc' := 243) rfl ?_
      refine gk_iconst (v := 5) dX11_dither_243 (pc' := 244) rfl (by decide) ?_
      refine gk_iload9 dX11_dither_244 (pc' := 246) rfl ?_
      refine gk_imul dX11_dither_246 (pc' := 247) rfl ?_
      refine gk_bipush (v := 16) dX11_dither_247 (pc' := 249) rfl (by decide) ?_
      refine gk_idiv dX11_dither_249 (pc' := 250) rfl (by decide) ?_
      refine gk_cV0_3 mv_Mo_carry gw_1087 dX11_dither_250 (pc' := 253) rfl (Nat.le_of_ble_eq_true rfl) (by exact (mkJ)) (sp_Mo_carry hZ hw.2 ht.2 (by omega) ?_)
      refine ⟨rfl, ?_⟩
      rw [uA_s, uA_u, zx, yp]
      refine gk_aload0 dX11_dither_253 (pc' := 254) rfl ?_
      refine gk_iload4 dX11_dither_254 (pc' := 256) rfl ?_
      refine gk_iconst (v := 1) dX11_dither_256 (pc' := 257) rfl (by decide) ?_
      refine gk_iadd dX11_dither_257 (pc' := 258) rfl ?_
      refine gk_iload3 dX11_dither_258 (pc' := 259) rfl ?_
      refine gk_iconst (v := 1) dX11_dither_259 (pc' := 260) rfl (by decide) ?_
      refine gk_iadd dX11_dither_260 (pc' := 261) rfl ?_
      refine gk_iload9 dX11_dither_261 (pc' := 263) rfl ?_
      refine gk_bipush (v := 7) dX11_dither_263 (pc' := 265) rfl (by decide) ?_
      refine gk_iload9 dX11_dither_265 (pc' := 267) rfl ?_
      refine gk_imul dX11_dither_267 (pc' := 268) rfl ?_
      refine gk_bipush (v := 16) dX11_dither_268 (pc' := 270) rfl (by decide) ?_
      refine gk_idiv dX11_dither_270 (pc' := 271) rfl (by decide) ?_
      refine gk_isub dX11_dither_271 (pc' := 272) rfl ?_
      refine gk_iconst (v := 3) dX11_dither_272 (pc' := 273) rfl (by decide) ?_
      refine gk_iload9 dX11_dither_273 (pc' := 275) rfl ?_
      refine gk_imul dX11_dither_275 (pc' := 276) rfl ?_
      refine gk_bipush (v := 16) dX11_dither_276 (pc' := 278) rfl (by decide) ?_
      refine gk_idiv dX11_dither_278 (pc' := 279) rfl (by decide) ?_
      refine gk_isub dX11_dither_279 (pc' := 280) rfl ?_
      refine gk_iconst (v := 5) dX11_dither_280 (pc' := 281) rfl (by decide) ?_
      refine gk_iload9 dX11_dither_281 (pc' := 283) rfl ?_
      refine gk_imul dX11_dither_283 (pc' := 284) rfl ?_
      refine gk_bipush (v := 16) dX11_dither_284 (pc' := 286) rfl (by decide) ?_
      refine gk_idiv dX11_dither_286 (pc' := 287) rfl (by decide) ?_
      refine gk_isub dX11_dither_287 (pc' := 288) rfl ?_
      refine gk_cV0_3 mv_Mo_carry gw_1087 dX11_dither_288 (pc' := 291) rfl (Nat.le_of_ble_eq_true rfl) (by exact (mkJ)) (sp_Mo_carry hZ hw.2 ht.2 (by omega) ?_)
      refine ⟨rfl, ?_⟩
      rw [uA_s, uA_u, xp, yp]
      refine gk_iinc4 (v := 1) dX11_dither_291 (pc' := 294) rfl (by decide) (by decide) rfl ?_
      refine gk_goto dX11_dither_294 (tgt := 92) (by decide) ?_
      rw [← nI_succ x]
      exact ih (x + 1) _ _ _ _ _ _ (by omega) (st _ rfl)
    have mid : ∀ (kk : Int64) (l6x : Option Value), kk.toInt = dlv top (f (y * w + x)) → G (kx X) mt_Mo_dither (d + 10) b 163 [some (.ref m), l1, some (.int (nI (top + 1))), some (.int (nI y)), some (.int (nI x)), some (.int (f (y * w + x))), l6x, none, l8, l9] [.long kk] (mkH X h0 m (uA A 14 f) Z) Q := by
      intro kk l6x hk
      have z255 : (255 : Int64).toInt = 255 := rfl
      have tp : (0 : Int) < top := by omega
      have mk : (255 * kk).toInt = 255 * kk.toInt := by rw [Jvm.Kit.i64_mul (by rw [z255]; omega) (by rw [z255]; omega), z255]
      have dv : (255 * kk / (nI top).toInt64).toInt = ((255 * (dlv top (f (y * w + x))).toNat / top : Nat) : Int) := by
        rw [Jvm.Kit.i64_div (by rw [mk]; omega), mk, zt, hk, Int.tdiv_eq_ediv_of_nonneg (by omega)]
        rw [show (255 * dlv top (f (y * w + x)) : Int) = ((255 * (dlv top (f (y * w + x))).toNat : Nat) : Int) by omega]
        exact (Int.natCast_ediv _ _).symm
      have db : 255 * (dlv top (f (y * w + x))).toNat / top ≤ 255 := by
        rw [Nat.div_le_iff_le_mul_add_pred (by omega)]
        have : 255 * (dlv top (f (y * w + x))).toNat ≤ 255 * top := Nat.mul_le_mul_left _ (by omega)
        rw [Nat.mul_comm top 255]
        omega
      have fv : (255 * kk / (nI top).toInt64).toInt32 = dmd top (f (y * w + x)) := by
        unfold dmd
        generalize 255 * (dlv top (f (y * w + x))).toNat / top = dd at *
        apply pu_inj
        rw [Jvm.Kit.i32_of_i64 (by omega) (by omega), dv, nI_toInt (by omega)]
      refine gk_lstore6 dX11_dither_163 (pc' := 165) rfl (by decide) rfl ?_
      refine gk_ldc2 dX11_dither_165 (pc' := 168) rfl gw_944 ?_
      refine gk_lload6 dX11_dither_168 (pc' := 170) rfl ?_
      refine gk_lmul dX11_dither_170 (pc' := 171) rfl ?_
      refine gk_iload2 dX11_dither_171 (pc' := 172) rfl ?_
      refine gk_iconst (v := 1) dX11_dither_172 (pc' := 173) rfl (by decide) ?_
      refine gk_isub dX11_dither_173 (pc' := 174) rfl ?_
      rw [e1]
      refine gk_i2l dX11_dither_174 (pc' := 175) rfl ?_
      refine gk_ldiv dX11_dither_175 (pc' := 176) rfl (fun q => by have := congrArg Int64.toInt q; rw [zt] at this; have z0 : (0 : Int64).toInt = 0 := rfl; omega) ?_
      refine gk_l2i dX11_dither_176 (pc' := 177) rfl ?_
      rw [fv]
      exact fin _
    have z255 : (255 : Int64).toInt = 255 := rfl
    have z0 : (0 : Int64).toInt = 0 := rfl
    have vr := pu_rng (f (y * w + x))
    have mb := mulB3 (n := top) vr h2
    have mv : ((f (y * w + x)).toInt64 * (nI top).toInt64).toInt = (f (y * w + x)).toInt * top := by rw [Jvm.Kit.i64_mul (by rw [i2l_i, zt]; omega) (by rw [i2l_i, zt]; omega), i2l_i, zt]
    refine gk_iload4 dX11_dither_92 (pc' := 94) rfl ?_
    refine gk_aload0 dX11_dither_94 (pc' := 95) rfl ?_
    refine gk_getf (fs := [_, _, _, _, _, _, _, _, _, _, _, _, _, _, _, _, _, _, _, _, _, _, _, _, _, _]) gF_Mo_138 dX11_dither_95 (pc' := 98) rfl (by exact (mkJ)) rfl ?_
    rw [hZ.1]
    refine gk_icmp_ge dX11_dither_98 (tgt := 297) (pc' := 101) (by decide) rfl (fun c98 => absurd c98 (nI_ge (by omega) (by omega))) (fun c98 => ?_)
    refine gk_aload0 dX11_dither_101 (pc' := 102) rfl ?_
    refine gk_getf (fs := [_, _, _, _, _, _, _, _, _, _, _, _, _, _, _, _, _, _, _, _, _, _, _, _, _, _]) gF_Mo_50 dX11_dither_102 (pc' := 105) rfl (by exact (mkJ)) rfl ?_
    refine gk_iload3 dX11_dither_105 (pc' := 106) rfl ?_
    refine gk_aload0 dX11_dither_106 (pc' := 107) rfl ?_
    refine gk_getf (fs := [_, _, _, _, _, _, _, _, _, _, _, _, _, _, _, _, _, _, _, _, _, _, _, _, _, _]) gF_Mo_138 dX11_dither_107 (pc' := 110) rfl (by exact (mkJ)) rfl ?_
    rw [hZ.1]
    refine gk_imulN dX11_dither_110 (pc' := 111) rfl ?_
    refine gk_iload4 dX11_dither_111 (pc' := 113) rfl ?_
    refine gk_iaddN dX11_dither_113 (pc' := 114) rfl ?_
    refine gk_iald (t0 := 0) rfl dX11_dither_114 (pc' := 115) rfl (by exact (mkA14)) (vp_in_nI (by omega) (by decide)) ?_
    rw [nI_clamp (by omega)]
    rw [uA_s]
    refine gk_istore5 dX11_dither_115 (pc' := 117) rfl (by decide) rfl ?_
    refine gk_iload5 dX11_dither_117 (pc' := 119) rfl ?_
    refine gk_i2l dX11_dither_119 (pc' := 120) rfl ?_
    refine gk_iload2 dX11_dither_120 (pc' := 121) rfl ?_
    refine gk_iconst (v := 1) dX11_dither_121 (pc' := 122) rfl (by decide) ?_
    refine gk_isub dX11_dither_122 (pc' := 123) rfl ?_
    rw [e1]
    refine gk_i2l dX11_dither_123 (pc' := 124) rfl ?_
    refine gk_lmul dX11_dither_124 (pc' := 125) rfl ?_
    refine gk_ldc2 dX11_dither_125 (pc' := 128) rfl gw_944 ?_
    refine gk_cS1_2 mz_Mo_rounded gw_1025 dX11_dither_128 (pc' := 131) rfl (Nat.le_of_ble_eq_true rfl) (sp_Mo_rounded (by rw [z255]; omega) (by rw [z255]; omega) (by rw [mv]; omega) (by rw [mv]; omega) (fun r hr => ?_))
    refine ⟨_, rfl, ?_⟩
    rw [mv, z255] at hr
    have ek : dlv top (f (y * w + x)) = max 0 (min (top : Int) r.toInt) := by unfold dlv; rw [hr]
    refine gk_lstore6 dX11_dither_131 (pc' := 133) rfl (by decide) rfl ?_
    refine gk_lload6 dX11_dither_133 (pc' := 135) rfl ?_
    refine gk_lconst (v := 0) dX11_dither_135 (pc' := 136) rfl (by decide) ?_
    refine gk_lcmp dX11_dither_136 (pc' := 137) rfl ?_
    refine gk_if_ge dX11_dither_137 (tgt := 144) (pc' := 140) (by decide) rfl (fun c137 => ?_) (fun c137 => ?_)
    · rw [← Int32.not_lt, pu_cmp_lt, z0] at c137
      refine gk_lload6 dX11_dither_144 (pc' := 146) rfl ?_
      refine gk_iload2 dX11_dither_146 (pc' := 147) rfl ?_
      refine gk_iconst (v := 1) dX11_dither_147 (pc' := 148) rfl (by decide) ?_
      refine gk_isub dX11_dither_148 (pc' := 149) rfl ?_
      rw [e1]
      refine gk_i2l dX11_dither_149 (pc' := 150) rfl ?_
      refine gk_lcmp dX11_dither_150 (pc' := 151) rfl ?_
      refine gk_if_le dX11_dither_151 (tgt := 161) (pc' := 154) (by decide) rfl (fun c151 => ?_) (fun c151 => ?_)
      · rw [← Int32.not_lt, pu_cmp_gt, zt] at c151
        refine gk_lload6 dX11_dither_161 (pc' := 163) rfl ?_
        first | exact mid 0 _ (by rw [z0]; omega) | exact mid (nI top).toInt64 _ (by rw [zt]; omega) | exact mid r _ (by omega)
      · rw [← Int32.not_lt, Classical.not_not, pu_cmp_gt, zt] at c151
        refine gk_iload2 dX11_dither_154 (pc' := 155) rfl ?_
        refine gk_iconst (v := 1) dX11_dither_155 (pc' := 156) rfl (by decide) ?_
        refine gk_isub dX11_dither_156 (pc' := 157) rfl ?_
        rw [e1]
        refine gk_i2l dX11_dither_157 (pc' := 158) rfl ?_
        refine gk_goto dX11_dither_158 (tgt := 163) (by decide) ?_
        first | exact mid 0 _ (by rw [z0]; omega) | exact mid (nI top).toInt64 _ (by rw [zt]; omega) | exact mid r _ (by omega)
    · rw [← Int32.not_lt, Classical.not_not, pu_cmp_lt, z0] at c137
      refine gk_lconst (v := 0) dX11_dither_140 (pc' := 141) rfl (by decide) ?_
      refine gk_goto dX11_dither_141 (tgt := 163) (by decide) ?_
      first | exact mid 0 _ (by rw [z0]; omega) | exact mid (nI top).toInt64 _ (by rw [zt]; omega) | exact mid r _ (by omega)
theorem lp_Mo_ditherY {w t top : Nat} {p : Nat → Int32} {l1 : Option Value} (hZ : Z 4 = nI w ∧ Z 5 = nI t) (hw : 1 ≤ w ∧ w ≤ 16) (ht : 1 ≤ t ∧ t ≤ 16) (h1 : 1 ≤ top) (h2 : top ≤ 15) (hQ : ∀ f (l3 l4 l5 l6 l7 l8 l9 : Option Value), dInv w t top p (t * w) f → G (kx X) mt_Mo_dither (d + 10) b 303 [some (.ref m), l1, some (.int (nI (top + 1))), l3, l4, l5, l6, l7, l8, l9] [] (mkH X h0 m (uA A 14 f) Z) Q) :
    ∀ n y f (l4 l5 l6 l7 l8 l9 : Option Value), y + n = t → dInv w t top p (y * w) f → G (kx X) mt_Mo_dither (d + 10) b 81 [some (.ref m), l1, some (.int (nI (top + 1))), some (.int (nI y)), l4, l5, l6, l7, l8, l9] [] (mkH X h0 m (uA A 14 f) Z) Q := by
  intro n
  induction n with
  | zero =>
    intro y f l4 l5 l6 l7 l8 l9 hy hf
    have e : t * w = y * w := by rw [show y = t by omega]
    refine gk_iload3 dX11_dither_81 (pc' := 82) rfl ?_
    refine gk_aload0 dX11_dither_82 (pc' := 83) rfl ?_
    refine gk_getf (fs := [_, _, _, _, _, _, _, _, _, _, _, _, _, _, _, _, _, _, _, _, _, _, _, _, _, _]) gF_Mo_141 dX11_dither_83 (pc' := 86) rfl (by exact (mkJ)) rfl ?_
    rw [hZ.2]
    refine gk_icmp_ge dX11_dither_86 (tgt := 303) (pc' := 89) (by decide) rfl (fun c86 => ?_) (fun c86 => absurd (nI_le (by omega) (by omega)) c86)
    exact hQ f _ _ _ _ _ _ _ (by rw [e]; exact hf)
  | succ n ih =>
    intro y f l4 l5 l6 l7 l8 l9 hy hf
    refine gk_iload3 dX11_dither_81 (pc' := 82) rfl ?_
    refine gk_aload0 dX11_dither_82 (pc' := 83) rfl ?_
    refine gk_getf (fs := [_, _, _, _, _, _, _, _, _, _, _, _, _, _, _, _, _, _, _, _, _, _, _, _, _, _]) gF_Mo_141 dX11_dither_83 (pc' := 86) rfl (by exact (mkJ)) rfl ?_
    rw [hZ.2]
    refine gk_icmp_ge dX11_dither_86 (tgt := 303) (pc' := 89) (by decide) rfl (fun c86 => absurd c86 (nI_ge (by omega) (by omega))) (fun c86 => ?_)
    refine gk_iconst (v := 0) dX11_dither_89 (pc' := 90) rfl (by decide) ?_
    refine gk_istore4 dX11_dither_90 (pc' := 92) rfl (by decide) rfl ?_
    refine lp_Mo_ditherX hZ hw ht h1 h2 (by omega) (fun f' l4 l5 l6 l7 l8 l9 hf' => ?_) w 0 f _ _ _ _ _ (by omega) hf
    refine gk_iinc3 (v := 1) dX11_dither_297 (pc' := 300) rfl (by decide) (by decide) rfl ?_
    refine gk_goto dX11_dither_300 (tgt := 81) (by decide) ?_
    rw [← nI_succ]
    exact ih (y + 1) f' _ _ _ _ _ _ (by omega) hf'
theorem mo_dither {p n : Int32} (hM : Mod X h m S) (hw : wfS S) (hQ : ∀ h', Mod X h' m (oDither S p n).2 → frO m h h' → Q (some (.int (oDither S p n).1)) h') : Gm (kx X) mt_Mo_dither (d + 10) b [.ref m, .int p, .int n] h Q := by
  obtain ⟨h0, A, Z, rfl, hS⟩ := hM
  have hE : ∀ a0 S' A' Z', oDither S p n = (a0, S') → MoS A' Z' S' → Q (some (.int a0)) (mkH X h0 m A' Z') := fun a0 S' A' Z' e0 h1 => by
    have q := hQ (mkH X h0 m A' Z')
    rw [e0] at q
    exact q ⟨h0, A', Z', rfl, h1⟩ mk_fr
  have hB : ∀ a0, oDither S p n = (a0, S) → Q (some (.int a0)) (mkH X h0 m A Z) := fun a0 e0 => hE a0 S A Z e0 hS
  have zn := i2l_i n
  have z2 : (2 : Int64).toInt = 2 := rfl
  have z16 : (16 : Int64).toInt = 16 := rfl
  refine Gm.enter (L := [some (.ref m), some (.int p), some (.int n), none, none, none, none, none, none, none]) (by decide) (fun _ => trivial) (Nat.le_of_ble_eq_true rfl) rfl ?_
  refine gk_iload1 dX11_dither_0 (pc' := 1) rfl ?_
  refine gk_cS1_1 mz_Mo_isPicture gw_882 dX11_dither_1 (pc' := 4) rfl (Nat.le_of_ble_eq_true rfl) (sp_Mo_isPicture (fun j1 hj1 ej1 => ?_) (fun n1 => ?_))
  · refine ⟨_, rfl, ?_⟩
    subst ej1
    have zj1 : (nI j1).toInt = j1 := nI_toInt (by omega)
    have yj1 : (nI j1).toInt.toNat = j1 := by omega
    have pr1 := hS.picS hj1
    have ok1 := hw.okp hj1
    have wt1 := ok1.wt
    have ar1 := ok1.ar
    refine gk_if_eq dX11_dither_4 (tgt := 21) (pc' := 7) (by decide) rfl (fun c => absurd c (by decide)) (fun _ => ?_)
    refine gk_iload2 dX11_dither_7 (pc' := 8) rfl ?_
    refine gk_i2l dX11_dither_8 (pc' := 9) rfl ?_
    refine gk_ldc2 dX11_dither_9 (pc' := 12) rfl gw_1028 ?_
    refine gk_ldc2 dX11_dither_12 (pc' := 15) rfl gw_890 ?_
    refine gk_cS1_3 mz_Mo_in gw_886 dX11_dither_15 (pc' := 18) rfl (Nat.le_of_ble_eq_true rfl) (sp_Mo_in (fun u15 v15 => ?_) (fun n15 => ?_))
    · refine ⟨_, rfl, ?_⟩
      obtain ⟨jn, hjn, rfl⟩ := pu_of (x := n) (n := 17) (by omega) (by omega) (by omega)
      have zjn : (nI jn).toInt = jn := nI_toInt (by omega)
      obtain ⟨top, rfl⟩ : ∃ top, jn = top + 1 := ⟨jn - 1, by omega⟩
      refine gk_if_ne dX11_dither_18 (tgt := 24) (pc' := 21) (by decide) rfl (fun _ => ?_) (fun c => absurd c (by decide))
      refine gk_aload0 dX11_dither_24 (pc' := 25) rfl ?_
      refine gk_iload1 dX11_dither_25 (pc' := 26) rfl ?_
      refine gk_cV1_1 mv_Mo_isThere gw_905 dX11_dither_26 (pc' := 29) rfl (Nat.le_of_ble_eq_true rfl) (by exact (mkJ)) (sp_Mo_isThere pr1 hj1 ok1 (fun k26 => ?_) (fun k26 => ?_))
      · refine ⟨_, rfl, ?_⟩
        have okk := ok1.kind k26
        refine gk_if_eq dX11_dither_29 (tgt := 40) (pc' := 32) (by decide) rfl (fun c => absurd c (by decide)) (fun _ => ?_)
        refine gk_aload0 dX11_dither_32 (pc' := 33) rfl ?_
        refine gk_iload1 dX11_dither_33 (pc' := 34) rfl ?_
        refine gk_cV1_1 mv_Mo_kindOf gw_921 dX11_dither_34 (pc' := 37) rfl (Nat.le_of_ble_eq_true rfl) (by exact (mkJ)) (sp_Mo_kindOf pr1 hj1 ?_)
        refine ⟨_, rfl, ?_⟩
        refine gk_if_eq dX11_dither_37 (tgt := 43) (pc' := 40) (by decide) rfl (fun c37 => ?_) (fun c37 => ?_)
        · have k37 : (pcS S (nI j1)).1 = 0 := c37
          refine gk_aload0 dX11_dither_43 (pc' := 44) rfl ?_
          refine gk_cV0_0 mv_Mo_begin gw_892 dX11_dither_44 (pc' := 47) rfl (Nat.le_of_ble_eq_true rfl) (by exact (mkJ)) (sp_Mo_begin hS hw.1 (fun A1 Z1 a1 a2 hBg => ?_))
          refine ⟨rfl, ?_⟩
          have pr2 : pRow (A1 1) (259 * j1) (pcS S (nI j1)) := by rw [a1 1 (by decide)]; exact pr1
          refine gk_aload0 dX11_dither_47 (pc' := 48) rfl ?_
          refine gk_iload1 dX11_dither_48 (pc' := 49) rfl ?_
          refine gk_cV0_1 mv_Mo_look gw_952 dX11_dither_49 (pc' := 52) rfl (Nat.le_of_ble_eq_true rfl) (by exact (mkJ)) (sp_Mo_look pr2 hj1 ?_)
          refine ⟨rfl, ?_⟩
          refine gk_iconst (v := 0) dX11_dither_52 (pc' := 53) rfl (by decide) ?_
          refine gk_istore3 dX11_dither_53 (pc' := 54) rfl (by decide) rfl ?_
          have l9 : ∀ i, i < (pcS S (nI j1)).2.1 * (pcS S (nI j1)).2.2.1 → lkA A1 j1 9 i = (pcS S (nI j1)).2.2.2 i := fun i hi => lk_px pr2 ar1 hi
          have q := lp_Mo_dither0 (X := X) (h0 := h0) (m := m) (A := lkA A1 j1) (Z := lkZ Z1 (pcS S (nI j1)).2.1 (pcS S (nI j1)).2.2.1) (d := d) (b := b) (Q := Q) (l1 := some (.int (nI j1))) (l2 := some (.int (nI (top + 1)))) rfl (fun l3 => by
            refine gk_iconst (v := 0) dX11_dither_79 (pc' := 80) rfl (by decide) ?_
            refine gk_istore3 dX11_dither_80 (pc' := 81) rfl (by decide) rfl ?_
            refine lp_Mo_ditherY (p := (pcS S (nI j1)).2.2.2) (w := (pcS S (nI j1)).2.1) (t := (pcS S (nI j1)).2.2.1) (top := top) ⟨rfl, rfl⟩ okk.2.1 okk.2.2.1 (by omega) (by omega) (fun f l3 l4 l5 l6 l7 l8 l9' hf => ?_) (pcS S (nI j1)).2.2.1 0 _ _ _ _ _ _ _ (by omega) (fun i hi => ?_)
            · refine gk_aload0 dX11_dither_303 (pc' := 304) rfl ?_
              refine gk_iload1 dX11_dither_304 (pc' := 305) rfl ?_
              refine gk_cV1_1 mv_Mo_takes gw_1036 dX11_dither_305 (pc' := 308) rfl (Nat.le_of_ble_eq_true rfl) mkJ (sp_Mo_takes (c := pcS S (nI j1)) (by rw [uA_n (by decide)]; exact pr2) hj1 ar1 ?_)
              refine ⟨_, rfl, ?_⟩
              refine gk_iret dX11_dither_308 rfl ?_
              have ef : ∀ i, i < (pcS S (nI j1)).2.1 * (pcS S (nI j1)).2.2.1 → uA (lkA A1 j1) 14 f 14 i = (dS (pcS S (nI j1)).2.1 (pcS S (nI j1)).2.2.1 top (pcS S (nI j1)).2.2.2 ((pcS S (nI j1)).2.2.1 * (pcS S (nI j1)).2.1)).2 i := fun i hi => by rw [uA_s, hf i hi, if_pos (by rw [Nat.mul_comm]; exact hi)]
              rw [cntP_congr _ ef (fun _ _ => rfl)]
              exact hE _ (kP S j1 ((pcS S (nI j1)).1, (pcS S (nI j1)).2.1, (pcS S (nI j1)).2.2.1, (dS (pcS S (nI j1)).2.1 (pcS S (nI j1)).2.2.1 top (pcS S (nI j1)).2.2.2 ((pcS S (nI j1)).2.2.1 * (pcS S (nI j1)).2.1)).2)) _ _ ((if_pos (by omega)).trans ((if_pos k37).trans (by rw [yj1, nI_nat (j := top + 1) (by omega), Nat.add_sub_cancel]))) (hBg.actP hw.1 (by rw [a1 1 (by decide)]; exact hS.1) (fun i h1 h2 => by rw [uA_n (by omega), uA_n (by omega)]; exact uA_n (by omega)) (fun i hi => lkZ_n hi) hj1 (by rw [uA_s, uA_n (by decide)]; exact (fd_row pr2).congr ef) (fun q hq => by rw [uA_s, uA_n (by decide), fd_out ar1 q hq]; rfl))
            · rw [if_neg (by omega), Nat.zero_mul]
              show cpI _ _ 0 256 i = (pcS S (nI j1)).2.2.2 i + 0
              unfold cpI
              rw [if_pos (by omega), Nat.zero_add, l9 i hi, Int32.add_zero]) 256 0 (by omega)
          rw [cpI_0, uA_i] at q
          exact q
        · have k37 : ¬ (pcS S (nI j1)).1 = 0 := c37
          refine gk_ldc dX11_dither_40 (pc' := 42) rfl gw_869 ?_
          refine gk_iret dX11_dither_42 rfl (hB _ ((if_pos (by omega)).trans (if_neg (by first | exact k37 | (rw [k26]; decide)))))
      · refine ⟨_, rfl, ?_⟩
        refine gk_if_eq dX11_dither_29 (tgt := 40) (pc' := 32) (by decide) rfl (fun _ => ?_) (fun c => absurd c (by decide))
        refine gk_ldc dX11_dither_40 (pc' := 42) rfl gw_869 ?_
        refine gk_iret dX11_dither_42 rfl (hB _ ((if_pos (by omega)).trans (if_neg (by first | exact k37 | (rw [k26]; decide)))))
    · refine ⟨_, rfl, ?_⟩
      refine gk_if_ne dX11_dither_18 (tgt := 24) (pc' := 21) (by decide) rfl (fun c => absurd c (by decide)) (fun _ => ?_)
      refine gk_ldc dX11_dither_21 (pc' := 23) rfl gw_891 ?_
      refine gk_iret dX11_dither_23 rfl (hB _ (if_neg (by omega)))
  · refine ⟨_, rfl, ?_⟩
    refine gk_if_eq dX11_dither_4 (tgt := 21) (pc' := 7) (by decide) rfl (fun _ => ?_) (fun c => absurd c (by decide))
    refine gk_ldc dX11_dither_21 (pc' := 23) rfl gw_891 ?_
    refine gk_iret dX11_dither_23 rfl (hB _ (if_neg (by omega)))
theorem lp_Mo_upTo {w t : Nat} {v : Int32} (hZ : Z 4 = nI w ∧ Z 5 = nI t) (ar : w * t ≤ 256) (hQ : Q (some (.int (nI (cN (A 9) (w * t) v.toInt)))) (mkH X h0 m A Z)) : ∀ n i, i + n = w * t → G (kx X) mt_Mo_upTo d b 4 [some (.ref m), some (.int v), some (.int (nI (cN (A 9) i v.toInt))), some (.int (nI i))] [] (mkH X h0 m A Z) Q := by
  intro n
  induction n with
  | zero =>
    intro i hi
    have e : i = w * t := by omega
    refine gk_iload3 dX11_upTo_4 (pc' := 5) rfl ?_
    refine gk_aload0 dX11_upTo_5 (pc' := 6) rfl ?_
    refine gk_getf (fs := [_, _, _, _, _, _, _, _, _, _, _, _, _, _, _, _, _, _, _, _, _, _, _, _, _, _]) gF_Mo_138 dX11_upTo_6 (pc' := 9) rfl (by exact (mkJ)) rfl ?_
    rw [hZ.1]
    refine gk_aload0 dX11_upTo_9 (pc' := 10) rfl ?_
    refine gk_getf (fs := [_, _, _, _, _, _, _, _, _, _, _, _, _, _, _, _, _, _, _, _, _, _, _, _, _, _]) gF_Mo_141 dX11_upTo_10 (pc' := 13) rfl (by exact (mkJ)) rfl ?_
    rw [hZ.2]
    refine gk_imulN dX11_upTo_13 (pc' := 14) rfl ?_
    refine gk_icmp_ge dX11_upTo_14 (tgt := 41) (pc' := 17) (by decide) rfl (fun c14 => ?_) (fun c14 => absurd (nI_le (by omega) (by omega)) c14)
    refine gk_iload2 dX11_upTo_41 (pc' := 42) rfl ?_
    refine gk_iret dX11_upTo_42 rfl (by rw [e]; exact hQ)
  | succ n ih =>
    intro i hi
    have q := ih (i + 1) (by omega)
    refine gk_iload3 dX11_upTo_4 (pc' := 5) rfl ?_
    refine gk_aload0 dX11_upTo_5 (pc' := 6) rfl ?_
    refine gk_getf (fs := [_, _, _, _, _, _, _, _, _, _, _, _, _, _, _, _, _, _, _, _, _, _, _, _, _, _]) gF_Mo_138 dX11_upTo_6 (pc' := 9) rfl (by exact (mkJ)) rfl ?_
    rw [hZ.1]
    refine gk_aload0 dX11_upTo_9 (pc' := 10) rfl ?_
    refine gk_getf (fs := [_, _, _, _, _, _, _, _, _, _, _, _, _, _, _, _, _, _, _, _, _, _, _, _, _, _]) gF_Mo_141 dX11_upTo_10 (pc' := 13) rfl (by exact (mkJ)) rfl ?_
    rw [hZ.2]
    refine gk_imulN dX11_upTo_13 (pc' := 14) rfl ?_
    refine gk_icmp_ge dX11_upTo_14 (tgt := 41) (pc' := 17) (by decide) rfl (fun c14 => absurd c14 (nI_ge (by omega) (by omega))) (fun c14 => ?_)
    refine gk_iload2 dX11_upTo_17 (pc' := 18) rfl ?_
    refine gk_aload0 dX11_upTo_18 (pc' := 19) rfl ?_
    refine gk_getf (fs := [_, _, _, _, _, _, _, _, _, _, _, _, _, _, _, _, _, _, _, _, _, _, _, _, _, _]) gF_Mo_35 dX11_upTo_19 (pc' := 22) rfl (by exact (mkJ)) rfl ?_
    refine gk_iload3 dX11_upTo_22 (pc' := 23) rfl ?_
    refine gk_iald (t0 := 0) rfl dX11_upTo_23 (pc' := 24) rfl (by exact (mkA9)) (vp_in_nI (by omega) (by decide)) ?_
    rw [nI_clamp (by omega)]
    refine gk_iload1 dX11_upTo_24 (pc' := 25) rfl ?_
    refine gk_icmp_gt dX11_upTo_25 (tgt := 32) (pc' := 28) (by decide) rfl (fun c25 => ?_) (fun c25 => ?_)
    · have c25 : ¬ (A 9 i).toInt ≤ v.toInt := by rw [pu_lt] at c25; omega
      refine gk_iconst (v := nI 0) dX11_upTo_32 (pc' := 33) rfl (by decide) ?_
      refine gk_iaddN dX11_upTo_33 (pc' := 34) rfl ?_
      refine gk_istore2 dX11_upTo_34 (pc' := 35) rfl (by decide) rfl ?_
      refine gk_iinc3 (v := 1) dX11_upTo_35 (pc' := 38) rfl (by decide) (by decide) rfl ?_
      refine gk_goto dX11_upTo_38 (tgt := 4) (by decide) ?_
      rw [← nI_succ i]
      first | (rw [cN, if_neg c25] at q; exact q) | (rw [cN, if_pos c25] at q; exact q)
    · have c25 : (A 9 i).toInt ≤ v.toInt := by rw [pu_lt] at c25; omega
      refine gk_iconst (v := nI 1) dX11_upTo_28 (pc' := 29) rfl (by decide) ?_
      refine gk_goto dX11_upTo_29 (tgt := 33) (by decide) ?_
      refine gk_iaddN dX11_upTo_33 (pc' := 34) rfl ?_
      refine gk_istore2 dX11_upTo_34 (pc' := 35) rfl (by decide) rfl ?_
      refine gk_iinc3 (v := 1) dX11_upTo_35 (pc' := 38) rfl (by decide) (by decide) rfl ?_
      refine gk_goto dX11_upTo_38 (tgt := 4) (by decide) ?_
      rw [← nI_succ i]
      first | (rw [cN, if_neg c25] at q; exact q) | (rw [cN, if_pos c25] at q; exact q)
theorem sp_Mo_upTo {w t : Nat} {v : Int32} (hZ : Z 4 = nI w ∧ Z 5 = nI t) (ar : w * t ≤ 256) (hQ : Q (some (.int (nI (cN (A 9) (w * t) v.toInt)))) (mkH X h0 m A Z)) : Gm (kx X) mt_Mo_upTo d b [.ref m, .int v] (mkH X h0 m A Z) Q := by
  refine Gm.enter (L := [some (.ref m), some (.int v), none, none]) (by decide) (fun _ => trivial) (Nat.le_of_ble_eq_true rfl) rfl ?_
  refine gk_iconst (v := 0) dX11_upTo_0 (pc' := 1) rfl (by decide) ?_
  refine gk_istore2 dX11_upTo_1 (pc' := 2) rfl (by decide) rfl ?_
  refine gk_iconst (v := 0) dX11_upTo_2 (pc' := 3) rfl (by decide) ?_
  refine gk_istore3 dX11_upTo_3 (pc' := 4) rfl (by decide) rfl ?_
  exact lp_Mo_upTo hZ ar hQ (w * t) 0 (by omega)
theorem sp_Mo_about3 {j : Nat} {c : Pc} (hp : pRow (A 1) (259 * j) c) (hj : j < 8) (ok : okP c) (hk : c.1 = 0) (hQ : Q (some (.int (minP 255 c.2.2.2 (c.2.1 * c.2.2.1)))) (mkH X h0 m A Z)) : Gm (kx X) mt_Mo_about (d + 10) b [.ref m, .int (nI j), .int 3] (mkH X h0 m A Z) Q := by
  have hk1 : ¬ c.1 = -1 := by rw [hk]; decide
  have okk := ok.kind hk1
  have ar := ok.ar
  have zj : (nI j).toInt = j := nI_toInt (by omega)
  have z3 : (3 : Int32).toInt64.toInt = 3 := rfl
  have z0 : (0 : Int64).toInt = 0 := rfl
  have z5 : (5 : Int64).toInt = 5 := rfl
  have a1 : 1 ≤ c.2.1 * c.2.2.1 := Nat.mul_le_mul okk.2.1.1 okk.2.2.1.1
  have p0 := okk.2.2.2 0 (by omega)
  rw [hk] at p0
  have e3 : A 1 (259 * j + 3) = c.2.2.2 0 := hp.2.2.2 0 (by omega)
  have em : minP (c.2.2.2 0) c.2.2.2 (c.2.1 * c.2.2.1) = minP 255 c.2.2.2 (c.2.1 * c.2.2.1) := minP_any (Int.le_refl _) p0.2 _ a1
  have fin : ∀ l6 l7, G (kx X) mt_Mo_about (d + 10) b 142 [some (.ref m), some (.int (nI j)), some (.int 3), some (.int (minP (c.2.2.2 0) c.2.2.2 (c.2.1 * c.2.2.1))), some (.int (maxP (c.2.2.2 0) c.2.2.2 (c.2.1 * c.2.2.1))), some (.int (sumP c.2.2.2 (c.2.1 * c.2.2.1))), l6, l7] [] (mkH X h0 m A Z) Q := by
    intro l6 l7
    rw [em]
    refine gk_iload2 dX11_about_142 (pc' := 143) rfl ?_
    refine gk_iconst (v := 3) dX11_about_143 (pc' := 144) rfl (by decide) ?_
    refine gk_icmp_ne dX11_about_144 (tgt := 151) (pc' := 147) (by decide) rfl (fun c144 => absurd rfl c144) (fun c144 => ?_)
    refine gk_iload3 dX11_about_147 (pc' := 148) rfl ?_
    refine gk_goto dX11_about_148 (tgt := 163) (by decide) ?_
    refine gk_iret dX11_about_163 rfl hQ
  refine Gm.enter (L := [some (.ref m), some (.int (nI j)), some (.int 3), none, none, none, none, none]) (by decide) (fun _ => trivial) (Nat.le_of_ble_eq_true rfl) rfl ?_
  refine gk_iload1 dX11_about_0 (pc' := 1) rfl ?_
  refine gk_cS1_1 mz_Mo_isPicture gw_882 dX11_about_1 (pc' := 4) rfl (Nat.le_of_ble_eq_true rfl) (sp_Mo_isPicture (fun j' hj' ej' => ?_) (fun n1 => absurd (by omega) n1))
  refine ⟨_, rfl, ?_⟩
  refine gk_if_eq dX11_about_4 (tgt := 19) (pc' := 7) (by decide) rfl (fun c => absurd c (by decide)) (fun _ => ?_)
  refine gk_iload2 dX11_about_7 (pc' := 8) rfl ?_
  refine gk_i2l dX11_about_8 (pc' := 9) rfl ?_
  refine gk_lconst (v := 0) dX11_about_9 (pc' := 10) rfl (by decide) ?_
  refine gk_ldc2 dX11_about_10 (pc' := 13) rfl gw_967 ?_
  refine gk_cS1_3 mz_Mo_in gw_886 dX11_about_13 (pc' := 16) rfl (Nat.le_of_ble_eq_true rfl) (sp_Mo_in (fun u13 v13 => ?_) (fun n13 => absurd (by omega) n13))
  refine ⟨_, rfl, ?_⟩
  refine gk_if_ne dX11_about_16 (tgt := 22) (pc' := 19) (by decide) rfl (fun _ => ?_) (fun c => absurd c (by decide))
  refine gk_aload0 dX11_about_22 (pc' := 23) rfl ?_
  refine gk_iload1 dX11_about_23 (pc' := 24) rfl ?_
  refine gk_cV1_1 mv_Mo_isThere gw_905 dX11_about_24 (pc' := 27) rfl (Nat.le_of_ble_eq_true rfl) (by exact (mkJ)) (sp_Mo_isThere hp hj ok (fun k24 => ?_) (fun k24 => absurd k24 hk1))
  refine ⟨_, rfl, ?_⟩
  refine gk_if_ne dX11_about_27 (tgt := 33) (pc' := 30) (by decide) rfl (fun _ => ?_) (fun c => absurd c (by decide))
  refine gk_iload2 dX11_about_33 (pc' := 34) rfl ?_
  refine gk_iconst (v := 3) dX11_about_34 (pc' := 35) rfl (by decide) ?_
  refine gk_icmp_ge dX11_about_35 (tgt := 51) (pc' := 38) (by decide) rfl (fun c35 => ?_) (fun c35 => absurd (by decide) c35)
  refine gk_aload0 dX11_about_51 (pc' := 52) rfl ?_
  refine gk_getf (fs := [_, _, _, _, _, _, _, _, _, _, _, _, _, _, _, _, _, _, _, _, _, _, _, _, _, _]) gF_Mo_7 dX11_about_52 (pc' := 55) rfl (by exact (mkJ)) rfl ?_
  refine gk_sipush (v := nI 259) dX11_about_55 (pc' := 58) rfl (by decide) ?_
  refine gk_iload1 dX11_about_58 (pc' := 59) rfl ?_
  refine gk_imulN dX11_about_59 (pc' := 60) rfl ?_
  refine gk_iconst (v := nI 3) dX11_about_60 (pc' := 61) rfl (by decide) ?_
  refine gk_iaddN dX11_about_61 (pc' := 62) rfl ?_
  refine gk_iald (t0 := 0) rfl dX11_about_62 (pc' := 63) rfl (by exact (mkA1)) (vp_in_nI (by omega) (by decide)) ?_
  rw [nI_clamp (by omega)]
  rw [e3]
  refine gk_istore3 dX11_about_63 (pc' := 64) rfl (by decide) rfl ?_
  refine gk_iload3 dX11_about_64 (pc' := 65) rfl ?_
  refine gk_istore4 dX11_about_65 (pc' := 67) rfl (by decide) rfl ?_
  refine gk_iconst (v := 0) dX11_about_67 (pc' := 68) rfl (by decide) ?_
  refine gk_istore5 dX11_about_68 (pc' := 70) rfl (by decide) rfl ?_
  refine gk_iconst (v := 0) dX11_about_70 (pc' := 71) rfl (by decide) ?_
  refine gk_istore6 dX11_about_71 (pc' := 73) rfl (by decide) rfl ?_
  exact lp_Mo_about (m0 := c.2.2.2 0) hp hj ar fin (c.2.1 * c.2.2.1) 0 _ (by omega)
theorem lp_Mo_even {w t c0 : Nat} {p : Nat → Int32} {l1 l3 : Option Value} {L3 : Int32} (eL : l3 = some (.int L3)) (hZ : Z 4 = nI w ∧ Z 5 = nI t) (ar : w * t ≤ 256) (h9 : ∀ i, i < w * t → A 9 i = p i) (hb : ∀ i, i < w * t → inK 0 (p i)) (ec : c0 = cN p (w * t) (minP 255 p (w * t)).toInt) (hQ : ∀ f (l5 : Option Value), (∀ i, i < w * t → f i = evn p (w * t) i) → G (kx X) mt_Mo_even (d + 10) b 128 [some (.ref m), l1, some (.int (nI (w * t))), l3, some (.int (nI c0)), l5] [] (mkH X h0 m (uA A 14 f) Z) Q) :
    ∀ n i f, i + n = w * t → (∀ q, q < i → f q = evn p (w * t) q) → G (kx X) mt_Mo_even (d + 10) b 65 [some (.ref m), l1, some (.int (nI (w * t))), l3, some (.int (nI c0)), some (.int (nI i))] [] (mkH X h0 m (uA A 14 f) Z) Q := by
  subst eL
  have hc0 : c0 ≤ w * t := by rw [ec]; exact cN_le _ _ _
  intro n
  induction n with
  | zero =>
    intro i f hi hf
    refine gk_iload5 dX11_even_65 (pc' := 67) rfl ?_
    refine gk_iload2 dX11_even_67 (pc' := 68) rfl ?_
    refine gk_icmp_ge dX11_even_68 (tgt := 128) (pc' := 71) (by decide) rfl (fun c68 => ?_) (fun c68 => absurd (nI_le (by omega) (by omega)) c68)
    exact hQ f _ (fun q hq => hf q (by omega))
  | succ n ih =>
    intro i f hi hf
    have hiw : i < w * t := by omega
    have e9 : uA A 14 f 9 = A 9 := uA_n (by decide)
    have ecn : cN (A 9) (w * t) (p i).toInt = cN p (w * t) (p i).toInt := cN_congr _ h9
    have h1 := cN_le p (p i).toInt (w * t)
    have h2 : c0 ≤ cN p (w * t) (p i).toInt := by rw [ec]; exact cN_mono (minP_le _ i hiw) _
    have key : ∀ v, v = evn p (w * t) i → G (kx X) mt_Mo_even (d + 10) b 121 [some (.ref m), l1, some (.int (nI (w * t))), some (.int L3), some (.int (nI c0)), some (.int (nI i))] [.int v, .int (nI i), .ref (m + 14)] (mkH X h0 m (uA A 14 f) Z) Q := by
      intro v hv
      refine gk_iast (t0 := 0) rfl dX11_even_121 (pc' := 122) rfl (by exact (mkA14)) (vp_in_nI (by omega) (by decide)) ?_
      rw [nI_clamp (by omega), mkS14]
      rw [uA_s, uA_u]
      refine gk_iinc5 (v := 1) dX11_even_122 (pc' := 125) rfl (by decide) (by decide) rfl ?_
      refine gk_goto dX11_even_125 (tgt := 65) (by decide) ?_
      rw [← nI_succ]
      exact ih (i + 1) _ (by omega) (upd_lt hf hv)
    by_cases q : c0 = w * t
    · have ev : evn p (w * t) i = p i := by unfold evn; rw [← ec, if_pos (by omega)]
      refine gk_iload5 dX11_even_65 (pc' := 67) rfl ?_
      refine gk_iload2 dX11_even_67 (pc' := 68) rfl ?_
      refine gk_icmp_ge dX11_even_68 (tgt := 128) (pc' := 71) (by decide) rfl (fun c68 => absurd c68 (nI_ge (by omega) (by omega))) (fun c68 => ?_)
      refine gk_aload0 dX11_even_71 (pc' := 72) rfl ?_
      refine gk_getf (fs := [_, _, _, _, _, _, _, _, _, _, _, _, _, _, _, _, _, _, _, _, _, _, _, _, _, _]) gF_Mo_50 dX11_even_72 (pc' := 75) rfl (by exact (mkJ)) rfl ?_
      refine gk_iload5 dX11_even_75 (pc' := 77) rfl ?_
      refine gk_iload4 dX11_even_77 (pc' := 79) rfl ?_
      refine gk_iload2 dX11_even_79 (pc' := 80) rfl ?_
      refine gk_icmp_ne dX11_even_80 (tgt := 93) (pc' := 83) (by decide) rfl (fun c80 => absurd (by rw [q]) c80) (fun c80 => ?_)
      refine gk_aload0 dX11_even_83 (pc' := 84) rfl ?_
      refine gk_getf (fs := [_, _, _, _, _, _, _, _, _, _, _, _, _, _, _, _, _, _, _, _, _, _, _, _, _, _]) gF_Mo_35 dX11_even_84 (pc' := 87) rfl (by exact (mkJ)) rfl ?_
      refine gk_iload5 dX11_even_87 (pc' := 89) rfl ?_
      refine gk_iald (t0 := 0) rfl dX11_even_89 (pc' := 90) rfl (by exact (mkA9)) (vp_in_nI (by omega) (by decide)) ?_
      rw [nI_clamp (by omega)]
      rw [e9, h9 i hiw]
      refine gk_goto dX11_even_90 (tgt := 121) (by decide) ?_
      exact key _ ev.symm
    · have ev : evn p (w * t) i = Int32.ofInt (rnd (255 * ((cN p (w * t) (p i).toInt : Int) - c0)) (((w * t : Nat) : Int) - c0)) := by unfold evn; rw [← ec, if_neg (by omega)]
      have bb := inK_evn hb i hiw
      rw [ev] at bb
      generalize hN : w * t = N at *
      generalize hK : cN p N (p i).toInt = K at *
      have z255 : (255 : Int64).toInt = 255 := rfl
      have zk : (nI (K - c0)).toInt64.toInt = (K : Int) - c0 := by rw [i2l_i, nI_toInt (by omega)]; omega
      have zn : (nI (N - c0)).toInt64.toInt = (N : Int) - c0 := by rw [i2l_i, nI_toInt (by omega)]; omega
      have mk : ((nI (K - c0)).toInt64 * 255).toInt = 255 * ((K : Int) - c0) := by rw [Jvm.Kit.i64_mul (by rw [z255, zk]; omega) (by rw [z255, zk]; omega), z255, zk, Int.mul_comm]
      have hd : (0 : Int) < 2 * ((N : Int) - c0) := by omega
      have e0 : 0 ≤ rnd (255 * ((K : Int) - c0)) ((N : Int) - c0) ∧ rnd (255 * ((K : Int) - c0)) ((N : Int) - c0) ≤ 255 := by
        unfold rnd
        constructor
        · exact Int.ediv_nonneg (by omega) (by omega)
        · refine Int.le_of_lt_add_one (Int.ediv_lt_of_lt_mul hd ?_)
          omega
      refine gk_iload5 dX11_even_65 (pc' := 67) rfl ?_
      refine gk_iload2 dX11_even_67 (pc' := 68) rfl ?_
      refine gk_icmp_ge dX11_even_68 (tgt := 128) (pc' := 71) (by decide) rfl (fun c68 => absurd c68 (nI_ge (by omega) (by omega))) (fun c68 => ?_)
      refine gk_aload0 dX11_even_71 (pc' := 72) rfl ?_
      refine gk_getf (fs := [_, _, _, _, _, _, _, _, _, _, _, _, _, _, _, _, _, _, _, _, _, _, _, _, _, _]) gF_Mo_50 dX11_even_72 (pc' := 75) rfl (by exact (mkJ)) rfl ?_
      refine gk_iload5 dX11_even_75 (pc' := 77) rfl ?_
      refine gk_iload4 dX11_even_77 (pc' := 79) rfl ?_
      refine gk_iload2 dX11_even_79 (pc' := 80) rfl ?_
      refine gk_icmp_ne dX11_even_80 (tgt := 93) (pc' := 83) (by decide) rfl (fun c80 => ?_) (fun c80 => absurd (nI_inj (by omega) (by omega) c80) q)
      refine gk_aload0 dX11_even_93 (pc' := 94) rfl ?_
      refine gk_aload0 dX11_even_94 (pc' := 95) rfl ?_
      refine gk_getf (fs := [_, _, _, _, _, _, _, _, _, _, _, _, _, _, _, _, _, _, _, _, _, _, _, _, _, _]) gF_Mo_35 dX11_even_95 (pc' := 98) rfl (by exact (mkJ)) rfl ?_
      refine gk_iload5 dX11_even_98 (pc' := 100) rfl ?_
      refine gk_iald (t0 := 0) rfl dX11_even_100 (pc' := 101) rfl (by exact (mkA9)) (vp_in_nI (by omega) (by decide)) ?_
      rw [nI_clamp (by omega)]
      rw [e9, h9 i hiw]
      refine gk_cV1_1 mv_Mo_upTo gw_1096 dX11_even_101 (pc' := 104) rfl (Nat.le_of_ble_eq_true rfl) (by exact (mkJ)) (sp_Mo_upTo (w := w) (t := t) hZ (by omega) ?_)
      refine ⟨_, rfl, ?_⟩
      rw [hN, e9, ecn]
      refine gk_iload4 dX11_even_104 (pc' := 106) rfl ?_
      refine gk_isubN dX11_even_106 (pc' := 107) rfl (by omega) ?_
      refine gk_i2l dX11_even_107 (pc' := 108) rfl ?_
      refine gk_ldc2 dX11_even_108 (pc' := 111) rfl gw_944 ?_
      refine gk_lmul dX11_even_111 (pc' := 112) rfl ?_
      refine gk_iload2 dX11_even_112 (pc' := 113) rfl ?_
      refine gk_iload4 dX11_even_113 (pc' := 115) rfl ?_
      refine gk_isubN dX11_even_115 (pc' := 116) rfl (by omega) ?_
      refine gk_i2l dX11_even_116 (pc' := 117) rfl ?_
      refine gk_cS1_2 mz_Mo_rounded gw_1025 dX11_even_117 (pc' := 120) rfl (Nat.le_of_ble_eq_true rfl) (sp_Mo_rounded (by rw [zn]; omega) (by rw [zn]; omega) (by rw [mk]; omega) (by rw [mk]; omega) (fun r hr => ?_))
      refine ⟨_, rfl, ?_⟩
      rw [mk, zn] at hr
      refine gk_l2i dX11_even_120 (pc' := 121) rfl ?_
      exact key _ (by rw [ev, ← hr]; apply pu_inj; rw [Jvm.Kit.i32_of_i64 (by omega) (by omega), Int32.toInt_ofInt, Jvm.Kit.bmod32 (by omega) (by omega)])
theorem mo_even {p : Int32} (hM : Mod X h m S) (hw : wfS S) (hQ : ∀ h', Mod X h' m (oEven S p).2 → frO m h h' → Q (some (.int (oEven S p).1)) h') : Gm (kx X) mt_Mo_even (d + 12) b [.ref m, .int p] h Q := by
  obtain ⟨h0, A, Z, rfl, hS⟩ := hM
  have hE : ∀ a0 S' A' Z', oEven S p = (a0, S') → MoS A' Z' S' → Q (some (.int a0)) (mkH X h0 m A' Z') := fun a0 S' A' Z' e0 h1 => by
    have q := hQ (mkH X h0 m A' Z')
    rw [e0] at q
    exact q ⟨h0, A', Z', rfl, h1⟩ mk_fr
  have hB : ∀ a0, oEven S p = (a0, S) → Q (some (.int a0)) (mkH X h0 m A Z) := fun a0 e0 => hE a0 S A Z e0 hS
  refine Gm.enter (L := [some (.ref m), some (.int p), none, none, none, none]) (by decide) (fun _ => trivial) (Nat.le_of_ble_eq_true rfl) rfl ?_
  refine gk_iload1 dX11_even_0 (pc' := 1) rfl ?_
  refine gk_cS1_1 mz_Mo_isPicture gw_882 dX11_even_1 (pc' := 4) rfl (Nat.le_of_ble_eq_true rfl) (sp_Mo_isPicture (fun j1 hj1 ej1 => ?_) (fun n1 => ?_))
  · refine ⟨_, rfl, ?_⟩
    subst ej1
    have zj1 : (nI j1).toInt = j1 := nI_toInt (by omega)
    have yj1 : (nI j1).toInt.toNat = j1 := by omega
    have pr1 := hS.picS hj1
    have ok1 := hw.okp hj1
    have wt1 := ok1.wt
    have ar1 := ok1.ar
    refine gk_if_ne dX11_even_4 (tgt := 10) (pc' := 7) (by decide) rfl (fun _ => ?_) (fun c => absurd c (by decide))
    refine gk_aload0 dX11_even_10 (pc' := 11) rfl ?_
    refine gk_iload1 dX11_even_11 (pc' := 12) rfl ?_
    refine gk_cV1_1 mv_Mo_isThere gw_905 dX11_even_12 (pc' := 15) rfl (Nat.le_of_ble_eq_true rfl) (by exact (mkJ)) (sp_Mo_isThere pr1 hj1 ok1 (fun k12 => ?_) (fun k12 => ?_))
    · refine ⟨_, rfl, ?_⟩
      have okk := ok1.kind k12
      refine gk_if_eq dX11_even_15 (tgt := 26) (pc' := 18) (by decide) rfl (fun c => absurd c (by decide)) (fun _ => ?_)
      refine gk_aload0 dX11_even_18 (pc' := 19) rfl ?_
      refine gk_iload1 dX11_even_19 (pc' := 20) rfl ?_
      refine gk_cV1_1 mv_Mo_kindOf gw_921 dX11_even_20 (pc' := 23) rfl (Nat.le_of_ble_eq_true rfl) (by exact (mkJ)) (sp_Mo_kindOf pr1 hj1 ?_)
      refine ⟨_, rfl, ?_⟩
      refine gk_if_eq dX11_even_23 (tgt := 29) (pc' := 26) (by decide) rfl (fun c23 => ?_) (fun c23 => ?_)
      · have k23 : (pcS S (nI j1)).1 = 0 := c23
        refine gk_aload0 dX11_even_29 (pc' := 30) rfl ?_
        refine gk_cV0_0 mv_Mo_begin gw_892 dX11_even_30 (pc' := 33) rfl (Nat.le_of_ble_eq_true rfl) (by exact (mkJ)) (sp_Mo_begin hS hw.1 (fun A1 Z1 a1 a2 hBg => ?_))
        refine ⟨rfl, ?_⟩
        have pr2 : pRow (A1 1) (259 * j1) (pcS S (nI j1)) := by rw [a1 1 (by decide)]; exact pr1
        have l9 : ∀ i, i < (pcS S (nI j1)).2.1 * (pcS S (nI j1)).2.2.1 → lkA A1 j1 9 i = (pcS S (nI j1)).2.2.2 i := fun i hi => lk_px pr2 ar1 hi
        have okb := okk.2.2.2
        rw [k23] at okb
        refine gk_aload0 dX11_even_33 (pc' := 34) rfl ?_
        refine gk_iload1 dX11_even_34 (pc' := 35) rfl ?_
        refine gk_cV0_1 mv_Mo_look gw_952 dX11_even_35 (pc' := 38) rfl (Nat.le_of_ble_eq_true rfl) (by exact (mkJ)) (sp_Mo_look pr2 hj1 ?_)
        refine ⟨rfl, ?_⟩
        refine gk_aload0 dX11_even_38 (pc' := 39) rfl ?_
        refine gk_getf (fs := [_, _, _, _, _, _, _, _, _, _, _, _, _, _, _, _, _, _, _, _, _, _, _, _, _, _]) gF_Mo_138 dX11_even_39 (pc' := 42) rfl (by exact (mkJ)) rfl ?_
        rw [show lkZ Z1 (pcS S (nI j1)).2.1 (pcS S (nI j1)).2.2.1 4 = nI (pcS S (nI j1)).2.1 from rfl]
        refine gk_aload0 dX11_even_42 (pc' := 43) rfl ?_
        refine gk_getf (fs := [_, _, _, _, _, _, _, _, _, _, _, _, _, _, _, _, _, _, _, _, _, _, _, _, _, _]) gF_Mo_141 dX11_even_43 (pc' := 46) rfl (by exact (mkJ)) rfl ?_
        rw [show lkZ Z1 (pcS S (nI j1)).2.1 (pcS S (nI j1)).2.2.1 5 = nI (pcS S (nI j1)).2.2.1 from rfl]
        refine gk_imulN dX11_even_46 (pc' := 47) rfl ?_
        refine gk_istore2 dX11_even_47 (pc' := 48) rfl (by decide) rfl ?_
        refine gk_aload0 dX11_even_48 (pc' := 49) rfl ?_
        refine gk_iload1 dX11_even_49 (pc' := 50) rfl ?_
        refine gk_iconst (v := 3) dX11_even_50 (pc' := 51) rfl (by decide) ?_
        refine gk_cV1_2 mv_Mo_about gw_1095 dX11_even_51 (pc' := 54) rfl (Nat.le_of_ble_eq_true rfl) (by exact (mkJ)) (sp_Mo_about3 (c := pcS S (nI j1)) pr2 hj1 ok1 k23 ?_)
        refine ⟨_, rfl, ?_⟩
        refine gk_istore3 dX11_even_54 (pc' := 55) rfl (by decide) rfl ?_
        refine gk_aload0 dX11_even_55 (pc' := 56) rfl ?_
        refine gk_iload3 dX11_even_56 (pc' := 57) rfl ?_
        refine gk_cV1_1 mv_Mo_upTo gw_1096 dX11_even_57 (pc' := 60) rfl (Nat.le_of_ble_eq_true rfl) (by exact (mkJ)) (sp_Mo_upTo (w := (pcS S (nI j1)).2.1) (t := (pcS S (nI j1)).2.2.1) ⟨rfl, rfl⟩ ar1 ?_)
        refine ⟨_, rfl, ?_⟩
        rw [cN_congr _ l9]
        refine gk_istore4 dX11_even_60 (pc' := 62) rfl (by decide) rfl ?_
        refine gk_iconst (v := 0) dX11_even_62 (pc' := 63) rfl (by decide) ?_
        refine gk_istore5 dX11_even_63 (pc' := 65) rfl (by decide) rfl ?_
        have q := lp_Mo_even (X := X) (h0 := h0) (m := m) (A := lkA A1 j1) (Z := lkZ Z1 (pcS S (nI j1)).2.1 (pcS S (nI j1)).2.2.1) (d := d + 2) (b := b) (Q := Q) (w := (pcS S (nI j1)).2.1) (t := (pcS S (nI j1)).2.2.1) (p := (pcS S (nI j1)).2.2.2) (l1 := some (.int (nI j1))) (l3 := some (.int (minP 255 (pcS S (nI j1)).2.2.2 ((pcS S (nI j1)).2.1 * (pcS S (nI j1)).2.2.1)))) rfl ⟨rfl, rfl⟩ ar1 l9 okb rfl (fun f l5 hf => by
          refine gk_aload0 dX11_even_128 (pc' := 129) rfl ?_
          refine gk_iload1 dX11_even_129 (pc' := 130) rfl ?_
          refine gk_cV1_1 mv_Mo_takes gw_1036 dX11_even_130 (pc' := 133) rfl (Nat.le_of_ble_eq_true rfl) mkJ (sp_Mo_takes (c := pcS S (nI j1)) (by rw [uA_n (by decide)]; exact pr2) hj1 ar1 ?_)
          refine ⟨_, rfl, ?_⟩
          refine gk_iret dX11_even_133 rfl ?_
          have ef : ∀ i, i < (pcS S (nI j1)).2.1 * (pcS S (nI j1)).2.2.1 → uA (lkA A1 j1) 14 f 14 i = evn (pcS S (nI j1)).2.2.2 ((pcS S (nI j1)).2.1 * (pcS S (nI j1)).2.2.1) i := fun i hi => by rw [uA_s]; exact hf i hi
          rw [cntP_congr _ ef (fun _ _ => rfl)]
          exact hE _ (kP S j1 ((pcS S (nI j1)).1, (pcS S (nI j1)).2.1, (pcS S (nI j1)).2.2.1, evn (pcS S (nI j1)).2.2.2 ((pcS S (nI j1)).2.1 * (pcS S (nI j1)).2.2.1))) _ _ ((if_pos (by omega)).trans ((if_pos k23).trans (by rw [yj1]))) (hBg.actP hw.1 (by rw [a1 1 (by decide)]; exact hS.1) (fun i h1 h2 => by rw [uA_n (by omega), uA_n (by omega)]; exact uA_n (by omega)) (fun i hi => lkZ_n hi) hj1 (by rw [uA_s, uA_n (by decide)]; exact (fd_row pr2).congr ef) (fun q hq => by rw [uA_s, uA_n (by decide), fd_out ar1 q hq]; rfl))) ((pcS S (nI j1)).2.1 * (pcS S (nI j1)).2.2.1) 0 (lkA A1 j1 14) (by omega) (fun q hq => absurd hq (by omega))
        rw [uA_i] at q
        exact q
      · have k23 : ¬ (pcS S (nI j1)).1 = 0 := c23
        refine gk_ldc dX11_even_26 (pc' := 28) rfl gw_869 ?_
        refine gk_iret dX11_even_28 rfl (hB _ ((if_pos (by omega)).trans (if_neg (by first | exact k23 | (rw [k12]; decide)))))
    · refine ⟨_, rfl, ?_⟩
      refine gk_if_eq dX11_even_15 (tgt := 26) (pc' := 18) (by decide) rfl (fun _ => ?_) (fun c => absurd c (by decide))
      refine gk_ldc dX11_even_26 (pc' := 28) rfl gw_869 ?_
      refine gk_iret dX11_even_28 rfl (hB _ ((if_pos (by omega)).trans (if_neg (by first | exact k23 | (rw [k12]; decide)))))
  · refine ⟨_, rfl, ?_⟩
    refine gk_if_ne dX11_even_4 (tgt := 10) (pc' := 7) (by decide) rfl (fun c => absurd c (by decide)) (fun _ => ?_)
    refine gk_ldc dX11_even_7 (pc' := 9) rfl gw_891 ?_
    refine gk_iret dX11_even_9 rfl (hB _ (if_neg (by omega)))
end MoR
