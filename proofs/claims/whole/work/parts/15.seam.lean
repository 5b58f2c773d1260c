/-! ===== rounding; Seam ===== -/
/-- a / b, rounded to the nearest, a half up -/
def rnd (a b : Int) : Int := (2 * a + b) / (2 * b)
section NrA
variable {X : gX} {d : Nat} {b : Nat × Nat} {h : gk_H} {Q : Option Value → gk_H → Prop}
theorem sp_Math_floorDivL {x y : Int64} (hy : 0 < y.toInt) (hy2 : y.toInt < 2 ^ 40) (hx : -2 ^ 62 < x.toInt) (hx2 : x.toInt < 2 ^ 62) (hQ : ∀ r : Int64, r.toInt = x.toInt / y.toInt → Q (some (.long r)) h) : Gm (kx X) mt_Math_floorDivL d b [.long x, .long y] h Q := by
  have hne : ¬ y = 0 := fun q => by rw [q] at hy; exact absurd hy (by decide)
  have hdv : (x / y).toInt = x.toInt.tdiv y.toInt := Jvm.Kit.i64_div (by omega)
  have hxr := pu_xorL (x := x) (y := y) (by omega)
  have z0 : (0 : Int64).toInt = 0 := rfl
  have z1 : (1 : Int64).toInt = 1 := rfl
  have q1 : x.toInt.tdiv y.toInt * y.toInt + x.toInt.tmod y.toInt = x.toInt := by rw [Int.mul_comm, Int.tmod_def]; omega
  have q2 : x.toInt / y.toInt * y.toInt + x.toInt % y.toInt = x.toInt := by rw [Int.mul_comm]; exact Int.mul_ediv_add_emod ..
  have q3 : -y.toInt < x.toInt.tmod y.toInt ∧ x.toInt.tmod y.toInt < y.toInt := tmod_bounds hy
  have q4 := Int.emod_nonneg x.toInt (show y.toInt ≠ 0 by omega)
  have q5 := Int.emod_lt_of_pos x.toInt hy
  have q6 := pu_tmod (a := x.toInt) hy
  have ab : (x.toInt.tdiv y.toInt).natAbs ≤ x.toInt.natAbs := by rw [Int.natAbs_tdiv]; exact Nat.div_le_self _ _
  have pos : 0 ≤ x.toInt → x.toInt.tdiv y.toInt = x.toInt / y.toInt := fun q => Int.tdiv_eq_ediv_of_nonneg q
  have neg0 : x.toInt.tmod y.toInt = 0 → x.toInt.tdiv y.toInt = x.toInt / y.toInt := fun q => by
    rw [q] at q1 q6
    rw [if_neg (by omega)] at q6
    have : (x.toInt.tdiv y.toInt - x.toInt / y.toInt) * y.toInt = 0 := by rw [Int.sub_mul]; omega
    rcases Int.mul_eq_zero.mp this with q | q <;> omega
  have neg1 : x.toInt < 0 → ¬ x.toInt.tmod y.toInt = 0 → x.toInt.tdiv y.toInt - 1 = x.toInt / y.toInt := fun q qn => by
    have hs2 : x.toInt.tmod y.toInt ≤ 0 := by
      rw [← Int.neg_neg x.toInt, Int.neg_tmod]
      have := Int.tmod_nonneg (a := -x.toInt) y.toInt (by omega)
      omega
    rw [if_pos (by omega)] at q6
    have : (x.toInt.tdiv y.toInt - 1 - x.toInt / y.toInt) * y.toInt = 0 := by rw [Int.sub_mul, Int.sub_mul]; omega
    rcases Int.mul_eq_zero.mp this with q | q <;> omega
  have mm : (x / y * y).toInt = x.toInt - x.toInt.tmod y.toInt := by
    rw [Jvm.Kit.i64_mul (by rw [hdv]; omega) (by rw [hdv]; omega), hdv]
    omega
  refine Gm.enterJ (L := [some (.long x), none, some (.long y), none, none, none]) (by decide +kernel) (fun _ => trivial) (Nat.le_of_ble_eq_true rfl) rfl ?_
  refine gk_lload0 dJ9_floorDiv_f86c9_0 (pc' := 1) rfl ?_
  refine gk_lload2 dJ9_floorDiv_f86c9_1 (pc' := 2) rfl ?_
  refine gk_ldiv dJ9_floorDiv_f86c9_2 (pc' := 3) rfl (hne) ?_
  refine gk_lstore4 dJ9_floorDiv_f86c9_3 (pc' := 5) rfl (by decide) rfl ?_
  refine gk_lload0 dJ9_floorDiv_f86c9_5 (pc' := 6) rfl ?_
  refine gk_lload2 dJ9_floorDiv_f86c9_6 (pc' := 7) rfl ?_
  refine gk_lxor dJ9_floorDiv_f86c9_7 (pc' := 8) rfl ?_
  refine gk_lconst (v := 0) dJ9_floorDiv_f86c9_8 (pc' := 9) rfl (by decide) ?_
  refine gk_lcmp dJ9_floorDiv_f86c9_9 (pc' := 10) rfl ?_
  refine gk_if_ge dJ9_floorDiv_f86c9_10 (tgt := 27) (pc' := 13) (by decide) rfl (fun c10 => ?_) (fun c10 => ?_)
  · rw [← Int32.not_lt, pu_cmp_lt, z0] at c10
    refine gk_lload4 dJ9_floorDiv_f86c9_27 (pc' := 29) rfl ?_
    refine gk_lret dJ9_floorDiv_f86c9_29 rfl (hQ _ (by rw [hdv]; first | exact pos (by omega) | exact neg0 (by omega)))
  · rw [← Int32.not_lt, Classical.not_not, pu_cmp_lt, z0] at c10
    refine gk_lload4 dJ9_floorDiv_f86c9_13 (pc' := 15) rfl ?_
    refine gk_lload2 dJ9_floorDiv_f86c9_15 (pc' := 16) rfl ?_
    refine gk_lmul dJ9_floorDiv_f86c9_16 (pc' := 17) rfl ?_
    refine gk_lload0 dJ9_floorDiv_f86c9_17 (pc' := 18) rfl ?_
    refine gk_lcmp dJ9_floorDiv_f86c9_18 (pc' := 19) rfl ?_
    refine gk_if_eq dJ9_floorDiv_f86c9_19 (tgt := 27) (pc' := 22) (by decide) rfl (fun c19 => ?_) (fun c19 => ?_)
    · rw [pu_cmp_eq] at c19
      have := congrArg Int64.toInt c19
      rw [mm] at this
      refine gk_lload4 dJ9_floorDiv_f86c9_27 (pc' := 29) rfl ?_
      refine gk_lret dJ9_floorDiv_f86c9_29 rfl (hQ _ (by rw [hdv]; first | exact pos (by omega) | exact neg0 (by omega)))
    · rw [pu_cmp_eq] at c19
      have n0 : ¬ x.toInt.tmod y.toInt = 0 := fun e => c19 (Int64.toInt_inj.mp (by rw [mm]; omega))
      refine gk_lload4 dJ9_floorDiv_f86c9_22 (pc' := 24) rfl ?_
      refine gk_lconst (v := 1) dJ9_floorDiv_f86c9_24 (pc' := 25) rfl (by decide) ?_
      refine gk_lsub dJ9_floorDiv_f86c9_25 (pc' := 26) rfl ?_
      refine gk_lret dJ9_floorDiv_f86c9_26 rfl (hQ _ (by rw [Jvm.Kit.i64_sub (by rw [hdv]; omega) (by rw [hdv]; omega), hdv, z1]; exact neg1 (by omega) n0))
theorem sp_Room_nearest {x y : Int64} (hy : 0 < y.toInt) (hy2 : y.toInt < 2 ^ 38) (hx : -2 ^ 60 < x.toInt) (hx2 : x.toInt < 2 ^ 60) (hQ : ∀ r : Int64, r.toInt = rnd x.toInt y.toInt → Q (some (.long r)) h) : Gm (kx X) mt_Room_nearest (d + 1) b [.long x, .long y] h Q := by
  have z0 : (0 : Int64).toInt = 0 := rfl
  have z2 : (2 : Int64).toInt = 2 := rfl
  have m1 : (2 * x).toInt = 2 * x.toInt := by rw [Jvm.Kit.i64_mul (by rw [z2]; omega) (by rw [z2]; omega), z2]
  have m2 : (2 * y).toInt = 2 * y.toInt := by rw [Jvm.Kit.i64_mul (by rw [z2]; omega) (by rw [z2]; omega), z2]
  have m3 : (2 * x + y).toInt = 2 * x.toInt + y.toInt := by rw [Jvm.Kit.i64_add (by omega) (by omega), m1]
  refine Gm.enter (L := [some (.long x), none, some (.long y), none]) (by decide) (fun _ => trivial) (Nat.le_of_ble_eq_true rfl) rfl ?_
  refine gk_lload2 dX10_nearest_0 (pc' := 1) rfl ?_
  refine gk_lconst (v := 0) dX10_nearest_1 (pc' := 2) rfl (by decide) ?_
  refine gk_lcmp dX10_nearest_2 (pc' := 3) rfl ?_
  refine gk_if_le dX10_nearest_3 (tgt := 24) (pc' := 6) (by decide) rfl (fun c3 => absurd c3 (fun q => by have : ¬ 0 < lg_cmp y 0 := Int32.not_lt.mpr q; rw [pu_cmp_gt, z0] at this; omega)) (fun c3 => ?_)
  refine gk_ldc2 dX10_nearest_6 (pc' := 9) rfl gw_497 ?_
  refine gk_lload0 dX10_nearest_9 (pc' := 10) rfl ?_
  refine gk_lmul dX10_nearest_10 (pc' := 11) rfl ?_
  refine gk_lload2 dX10_nearest_11 (pc' := 12) rfl ?_
  refine gk_ladd dX10_nearest_12 (pc' := 13) rfl ?_
  refine gk_ldc2 dX10_nearest_13 (pc' := 16) rfl gw_497 ?_
  refine gk_lload2 dX10_nearest_16 (pc' := 17) rfl ?_
  refine gk_lmul dX10_nearest_17 (pc' := 18) rfl ?_
  refine gk_cS1_2 mz_Math_floorDivL gw_498 dX10_nearest_18 (pc' := 21) rfl (Nat.le_of_ble_eq_true rfl) (sp_Math_floorDivL (by omega) (by omega) (by omega) (by omega) (fun r hr => ?_))
  refine ⟨_, rfl, ?_⟩
  refine gk_goto dX10_nearest_21 (tgt := 25) (by decide) ?_
  refine gk_lret dX10_nearest_25 rfl (hQ r (by rw [hr, m3, m2]; rfl))
end NrA
/-- of the columns lo to hi that a row of w has, the least one of the least cost: a loop that stands at x -/
def lIF (c : Nat → Int32) : Nat → Nat → Nat → Nat
  | 0, _, bs => bs
  | n + 1, x, bs => lIF c n (x + 1) (if c x < c bs then x else bs)
def lI (c : Nat → Int32) (w lo hi : Nat) : Nat := lIF c (min hi (w - 1) - lo) (lo + 1) lo
theorem lIF_lt {c : Nat → Int32} {w : Nat} : ∀ n x bs, x + n ≤ w → bs < w → lIF c n x bs < w
  | 0, _, bs, _, h => h
  | n + 1, x, bs, h1, h2 => lIF_lt n (x + 1) _ (by omega) (by split <;> omega)
theorem lI_lt {c : Nat → Int32} {w lo hi : Nat} (h : lo < w) : lI c w lo hi < w := lIF_lt _ _ _ (by omega) h
/-- the least energy of a way down to column x of row y -/
def csR (w t : Nat) (p : Nat → Int32) : Nat → Nat → Int32
  | 0 => fun x => eng w t p x 0
  | y + 1 => fun x => csR w t p y (lI (csR w t p y) w (x - 1) (x + 1)) + eng w t p x (y + 1)
/-- the seam's column n rows above the last -/
def colD (w t : Nat) (p : Nat → Int32) : Nat → Nat
  | 0 => lI (csR w t p (t - 1)) w 0 (w - 1)
  | n + 1 => lI (csR w t p (t - 1 - (n + 1))) w (colD w t p n - 1) (colD w t p n + 1)
theorem colD_lt {w t : Nat} {p : Nat → Int32} (hw : 1 ≤ w) : ∀ n, colD w t p n < w
  | 0 => lI_lt (by omega)
  | n + 1 => lI_lt (by have := colD_lt (t := t) (p := p) hw n; omega)
def seamTot (w t : Nat) (p : Nat → Int32) : Int32 := csR w t p (t - 1) (colD w t p 0)
def seamCol (w t : Nat) (p : Nat → Int32) (y : Nat) : Nat := colD w t p (t - 1 - y)
/-- a Seam object at a: its costs, its columns, its total -/
def isSm (X : gX) (h : gk_H) (a : Nat) (cs cl : Nat → Int32) (tot : Int32) : Prop := h.1 a = some (.inr (7, [.ref (a + 1), .ref (a + 2), .int tot])) ∧ h.1 (a + 1) = some (cI X 256 cs) ∧ h.1 (a + 2) = some (cI X 16 cl)
section SmA
variable {X : gX} {d : Nat} {b : Nat × Nat} {h : gk_H} {Q : Option Value → gk_H → Prop} {a o : Nat} {k : Int32} {w t : Nat} {p cs cl : Nat → Int32} {tot : Int32}
theorem sp_Seam_column {i : Nat} (hs : isSm X h a cs cl tot) (hi : i < 16) (hQ : Q (some (.int (cl i))) h) : Gm (kx X) mt_Seam_column d b [.ref a, .int (nI i)] h Q := by
  obtain ⟨e1, e2, e3⟩ := hs
  refine Gm.enter (L := [some (.ref a), some (.int (nI i))]) (by decide) (fun _ => trivial) (Nat.le_of_ble_eq_true rfl) rfl ?_
  refine gk_iload1 dX7_column_0 (pc' := 1) rfl ?_
  refine gk_if_lt dX7_column_1 (tgt := 19) (pc' := 4) (by decide) rfl (fun c1 => absurd c1 (nI_pos (by omega))) (fun c1 => ?_)
  refine gk_iload1 dX7_column_4 (pc' := 5) rfl ?_
  refine gk_bipush (v := 16) dX7_column_5 (pc' := 7) rfl (by decide) ?_
  refine gk_icmp_ge dX7_column_7 (tgt := 19) (pc' := 10) (by decide) rfl (fun c7 => absurd c7 (nI_ge (b := 16) (by omega) (by decide))) (fun c7 => ?_)
  refine gk_aload0 dX7_column_10 (pc' := 11) rfl ?_
  refine gk_getf (fs := [_, _, _]) gF_Seam_15 dX7_column_11 (pc' := 14) rfl (by assumption) rfl ?_
  refine gk_iload1 dX7_column_14 (pc' := 15) rfl ?_
  refine gk_iald (t0 := 0) rfl dX7_column_15 (pc' := 16) rfl (by assumption) (vp_in_nI (by omega) (by decide)) ?_
  rw [nI_clamp (by omega)]
  refine gk_goto dX7_column_16 (tgt := 20) (by decide) ?_
  refine gk_iret dX7_column_20 rfl hQ
theorem sp_Seam_cost {x y : Nat} (hs : isSm X h a cs cl tot) (hp : isPic X h o k w t p) (hx : x < w) (hy : y < t) (hQ : Q (some (.int (cs (y * w + x)))) h) : Gm (kx X) mt_Seam_cost (d + 1) b [.ref a, .ref o, .int (nI x), .int (nI y)] h Q := by
  obtain ⟨e1, e2, e3⟩ := hs
  have g1 := hp.o
  have ha := hp.area
  have o1 := place_lt hx hy
  refine Gm.enter (L := [some (.ref a), some (.ref o), some (.int (nI x)), some (.int (nI y)), none]) (by decide) (fun _ => trivial) (Nat.le_of_ble_eq_true rfl) rfl ?_
  refine gk_aload1 dX7_cost_0 (pc' := 1) rfl ?_
  refine gk_iload2 dX7_cost_1 (pc' := 2) rfl ?_
  refine gk_iload3 dX7_cost_2 (pc' := 3) rfl ?_
  refine gk_cV1_2 mv_Picture_place gw_686 dX7_cost_3 (pc' := 6) rfl (Nat.le_of_ble_eq_true rfl) (by exact (g1)) (sp_Picture_placeN hp ?_)
  refine ⟨_, rfl, ?_⟩
  refine gk_istore4 dX7_cost_6 (pc' := 8) rfl (by decide) rfl ?_
  refine gk_iload4 dX7_cost_8 (pc' := 10) rfl ?_
  refine gk_if_lt dX7_cost_10 (tgt := 31) (pc' := 13) (by decide) rfl (fun c10 => absurd c10 (nI_pos (by omega))) (fun c10 => ?_)
  refine gk_iload4 dX7_cost_13 (pc' := 15) rfl ?_
  refine gk_sipush (v := 256) dX7_cost_15 (pc' := 18) rfl (by decide) ?_
  refine gk_icmp_ge dX7_cost_18 (tgt := 31) (pc' := 21) (by decide) rfl (fun c18 => absurd c18 (nI_ge (b := 256) (by omega) (by decide))) (fun c18 => ?_)
  refine gk_aload0 dX7_cost_21 (pc' := 22) rfl ?_
  refine gk_getf (fs := [_, _, _]) gF_Seam_9 dX7_cost_22 (pc' := 25) rfl (by assumption) rfl ?_
  refine gk_iload4 dX7_cost_25 (pc' := 27) rfl ?_
  refine gk_iald (t0 := 0) rfl dX7_cost_27 (pc' := 28) rfl (by assumption) (vp_in_nI (by omega) (by decide)) ?_
  rw [nI_clamp (by omega)]
  refine gk_goto dX7_cost_28 (tgt := 32) (by decide) ?_
  refine gk_iret dX7_cost_32 rfl hQ
theorem sp_Seam_setCost {i : Nat} {v : Int32} (hs : isSm X h a cs cl tot) (hi : i < 256) (hQ : ∀ h', isSm X h' a (upd cs i v) cl tot → fr (fun c => c = a + 1) h h' → Q none h') : Gm (kx X) mt_Seam_setCost d b [.ref a, .int (nI i), .int v] h Q := by
  obtain ⟨e1, e2, e3⟩ := hs
  refine Gm.enter (L := [some (.ref a), some (.int (nI i)), some (.int v)]) (by decide) (fun _ => trivial) (Nat.le_of_ble_eq_true rfl) rfl ?_
  refine gk_iload1 dX7_setCost_0 (pc' := 1) rfl ?_
  refine gk_if_lt dX7_setCost_1 (tgt := 18) (pc' := 4) (by decide) rfl (fun c1 => absurd c1 (nI_pos (by omega))) (fun c1 => ?_)
  refine gk_iload1 dX7_setCost_4 (pc' := 5) rfl ?_
  refine gk_sipush (v := 256) dX7_setCost_5 (pc' := 8) rfl (by decide) ?_
  refine gk_icmp_ge dX7_setCost_8 (tgt := 18) (pc' := 11) (by decide) rfl (fun c8 => absurd c8 (nI_ge (b := 256) (by omega) (by decide))) (fun c8 => ?_)
  refine gk_aload0 dX7_setCost_11 (pc' := 12) rfl ?_
  refine gk_getf (fs := [_, _, _]) gF_Seam_9 dX7_setCost_12 (pc' := 15) rfl (by assumption) rfl ?_
  refine gk_iload1 dX7_setCost_15 (pc' := 16) rfl ?_
  refine gk_iload2 dX7_setCost_16 (pc' := 17) rfl ?_
  refine gk_iast (t0 := 0) rfl dX7_setCost_17 (pc' := 18) rfl (by assumption) (vp_in_nI (by omega) (by decide)) ?_
  rw [nI_clamp (by omega)]
  refine gk_vret dX7_setCost_18 rfl (hQ _ ⟨(gk_set_ne (by omega)).trans e1, gk_set_self, (gk_set_ne (by omega)).trans e3⟩ fr.set)
theorem lp_Seam_leastIn {y hi : Nat} {low : Int32} {c : Nat → Int32} (hs : isSm X h a cs cl tot) (hp : isPic X h o k w t p) (hy : y < t) (hh : hi < 100) (hc : ∀ x, x < w → cs (y * w + x) = c x) {r : Nat} (hQ : Q (some (.int (nI r))) h) : ∀ n x bs, (x ≤ min hi (w - 1) + 1 ∨ n = 0) → min hi (w - 1) + 1 - x = n → bs < w → x < 100 → 1 ≤ w → lIF c n x bs = r → G (kx X) mt_Seam_leastIn (d + 2) b 13 [some (.ref a), some (.ref o), some (.int (nI y)), some (.int low), some (.int (nI hi)), some (.int (nI bs)), some (.int (nI x))] [] h Q := by
  have e1 := hs.1
  have g1 := hp.o
  have hw := hp.1
  intro n
  induction n with
  | zero =>
    intro x bs h0 h1 h2 h3 h4 h5
    refine gk_iload6 dX7_leastIn_13 (pc' := 15) rfl ?_
    refine gk_iload4 dX7_leastIn_15 (pc' := 17) rfl ?_
    refine gk_icmp_gt dX7_leastIn_17 (tgt := 58) (pc' := 20) (by decide) rfl (fun c17 => ?_) (fun c17 => ?_)
    · refine gk_iload5 dX7_leastIn_58 (pc' := 60) rfl ?_
      refine gk_iret dX7_leastIn_60 rfl (by rw [show bs = r from h5]; exact hQ)
    · rw [pu_lt, nI_toInt (by omega), nI_toInt (by omega)] at c17
      refine gk_iload6 dX7_leastIn_20 (pc' := 22) rfl ?_
      refine gk_aload1 dX7_leastIn_22 (pc' := 23) rfl ?_
      refine gk_getf (fs := [_, _, _, _]) gF_Seam_27 dX7_leastIn_23 (pc' := 26) rfl (by assumption) rfl ?_
      refine gk_icmp_ge dX7_leastIn_26 (tgt := 58) (pc' := 29) (by decide) rfl (fun c26 => ?_) (fun c26 => absurd (nI_le (by omega) (by omega)) c26)
      refine gk_iload5 dX7_leastIn_58 (pc' := 60) rfl ?_
      refine gk_iret dX7_leastIn_60 rfl (by rw [show bs = r from h5]; exact hQ)
  | succ n ih =>
    intro x bs h0 h1 h2 h3 h4 h5
    refine gk_iload6 dX7_leastIn_13 (pc' := 15) rfl ?_
    refine gk_iload4 dX7_leastIn_15 (pc' := 17) rfl ?_
    refine gk_icmp_gt dX7_leastIn_17 (tgt := 58) (pc' := 20) (by decide) rfl (fun c17 => absurd c17 (fun q => by rw [pu_lt, nI_toInt (by omega), nI_toInt (by omega)] at q; omega)) (fun c17 => ?_)
    refine gk_iload6 dX7_leastIn_20 (pc' := 22) rfl ?_
    refine gk_aload1 dX7_leastIn_22 (pc' := 23) rfl ?_
    refine gk_getf (fs := [_, _, _, _]) gF_Seam_27 dX7_leastIn_23 (pc' := 26) rfl (by assumption) rfl ?_
    refine gk_icmp_ge dX7_leastIn_26 (tgt := 58) (pc' := 29) (by decide) rfl (fun c26 => absurd c26 (nI_ge (by omega) (by omega))) (fun c26 => ?_)
    refine gk_aload0 dX7_leastIn_29 (pc' := 30) rfl ?_
    refine gk_aload1 dX7_leastIn_30 (pc' := 31) rfl ?_
    refine gk_iload6 dX7_leastIn_31 (pc' := 33) rfl ?_
    refine gk_iload2 dX7_leastIn_33 (pc' := 34) rfl ?_
    refine gk_cV1_3 mv_Seam_cost gw_682 dX7_leastIn_34 (pc' := 37) rfl (Nat.le_of_ble_eq_true rfl) (by exact (e1)) (sp_Seam_cost hs hp (by omega) hy ?_)
    refine ⟨_, rfl, ?_⟩
    refine gk_aload0 dX7_leastIn_37 (pc' := 38) rfl ?_
    refine gk_aload1 dX7_leastIn_38 (pc' := 39) rfl ?_
    refine gk_iload5 dX7_leastIn_39 (pc' := 41) rfl ?_
    refine gk_iload2 dX7_leastIn_41 (pc' := 42) rfl ?_
    refine gk_cV1_3 mv_Seam_cost gw_682 dX7_leastIn_42 (pc' := 45) rfl (Nat.le_of_ble_eq_true rfl) (by exact (e1)) (sp_Seam_cost hs hp h2 hy ?_)
    refine ⟨_, rfl, ?_⟩
    refine gk_icmp_ge dX7_leastIn_45 (tgt := 52) (pc' := 48) (by decide) rfl (fun c45 => ?_) (fun c45 => ?_)
    · refine gk_iinc6 (v := 1) dX7_leastIn_52 (pc' := 55) rfl (by decide) (by decide) rfl ?_
      refine gk_goto dX7_leastIn_55 (tgt := 13) (by decide) ?_
      rw [← nI_succ]
      refine ih (x + 1) _ (by omega) (by omega) (by omega) (by omega) h4 ?_
      rw [← h5, lIF, ← hc x (by omega), ← hc bs h2]
      first | rw [if_neg (fun q => absurd q (Int32.not_lt.mpr c45))] | rw [if_pos (Int32.not_le.mp c45)]
    · refine gk_iload6 dX7_leastIn_48 (pc' := 50) rfl ?_
      refine gk_istore5 dX7_leastIn_50 (pc' := 52) rfl (by decide) rfl ?_
      refine gk_iinc6 (v := 1) dX7_leastIn_52 (pc' := 55) rfl (by decide) (by decide) rfl ?_
      refine gk_goto dX7_leastIn_55 (tgt := 13) (by decide) ?_
      rw [← nI_succ]
      refine ih (x + 1) _ (by omega) (by omega) (by omega) (by omega) h4 ?_
      rw [← h5, lIF, ← hc x (by omega), ← hc bs h2]
      first | rw [if_neg (fun q => absurd q (Int32.not_lt.mpr c45))] | rw [if_pos (Int32.not_le.mp c45)]
theorem sp_Seam_leastIn {y lo hi : Nat} {low : Int32} {c : Nat → Int32} (hs : isSm X h a cs cl tot) (hp : isPic X h o k w t p) (hy : y < t) (hh : hi < 100) (hlo : lo < w) (hl : low.toInt = lo ∨ (low.toInt = -1 ∧ lo = 0)) (hc : ∀ x, x < w → cs (y * w + x) = c x) (hQ : Q (some (.int (nI (lI c w lo hi)))) h) : Gm (kx X) mt_Seam_leastIn (d + 2) b [.ref a, .ref o, .int (nI y), .int low, .int (nI hi)] h Q := by
  have hw := hp.1
  have e : (if low < 0 then 0 else low) = nI lo := pu_inj (by rw [pu_max, nI_toInt (by omega)]; have z0 : (0 : Int32).toInt = 0 := rfl; omega)
  refine Gm.enter (L := [some (.ref a), some (.ref o), some (.int (nI y)), some (.int low), some (.int (nI hi)), none, none]) (by decide) (fun _ => trivial) (Nat.le_of_ble_eq_true rfl) rfl ?_
  refine gk_iload3 dX7_leastIn_0 (pc' := 1) rfl ?_
  refine gk_iconst (v := 0) dX7_leastIn_1 (pc' := 2) rfl (by decide) ?_
  refine gk_cS1_2 mz_Math_max gw_681 dX7_leastIn_2 (pc' := 5) rfl (Nat.le_of_ble_eq_true rfl) (sp_Math_max ?_)
  refine ⟨_, rfl, ?_⟩
  rw [e]
  refine gk_istore5 dX7_leastIn_5 (pc' := 7) rfl (by decide) rfl ?_
  refine gk_iload5 dX7_leastIn_7 (pc' := 9) rfl ?_
  refine gk_iconst (v := 1) dX7_leastIn_9 (pc' := 10) rfl (by decide) ?_
  refine gk_iadd dX7_leastIn_10 (pc' := 11) rfl ?_
  refine gk_istore6 dX7_leastIn_11 (pc' := 13) rfl (by decide) rfl ?_
  rw [← nI_succ]
  exact lp_Seam_leastIn hs hp hy hh hc hQ _ (lo + 1) lo (by omega) rfl hlo (by omega) (by omega) (by unfold lI; congr 1; omega)
end SmA
