/-! ===== Tones ===== -/
/-- a part of an error is carried to x, y, if that is within -/
def cry (w t : Nat) (cr : Nat → Int32) (x y : Int) (e : Int32) : Nat → Int32 := if 0 ≤ x ∧ x < w ∧ 0 ≤ y ∧ y < t then upd cr (y.toNat * w + x.toNat) (cr (y.toNat * w + x.toNat) + e) else cr
/-- the level of v, the pixel that v becomes -/
def dlv (top : Nat) (v : Int32) : Int := max 0 (min top (rnd (v.toInt * top) 255))
def dmd (top : Nat) (v : Int32) : Int32 := nI (255 * (dlv top v).toNat / top)
/-- one pixel is dithered: what is carried, what is made -/
def dst (w t top : Nat) (p : Nat → Int32) (n : Nat) (s : (Nat → Int32) × (Nat → Int32)) : (Nat → Int32) × (Nat → Int32) :=
  let v := p n + s.1 n
  let e := v - dmd top v
  let x : Int := (n % w : Nat)
  let y : Int := (n / w : Nat)
  (cry w t (cry w t (cry w t (cry w t s.1 (x + 1) y (7 * e / 16)) (x - 1) (y + 1) (3 * e / 16)) x (y + 1) (5 * e / 16)) (x + 1) (y + 1) (e - 7 * e / 16 - 3 * e / 16 - 5 * e / 16), upd s.2 n (dmd top v))
def dS (w t top : Nat) (p : Nat → Int32) : Nat → (Nat → Int32) × (Nat → Int32)
  | 0 => (fun _ => 0, fun _ => 0)
  | n + 1 => dst w t top p n (dS w t top p n)
/-- how many of n pixels are v, at most v -/
def hst (p : Nat → Int32) : Nat → Int → Nat
  | 0, _ => 0
  | n + 1, v => hst p n v + (if (p n).toInt = v then 1 else 0)
def cN (p : Nat → Int32) : Nat → Int → Nat
  | 0, _ => 0
  | n + 1, v => cN p n v + (if (p n).toInt ≤ v then 1 else 0)
def smH (p : Nat → Int32) (n : Nat) : Nat → Nat
  | 0 => hst p n 0
  | v + 1 => smH p n v + hst p n (v + 1)
theorem hst_le (p : Nat → Int32) (v : Int) : ∀ n, hst p n v ≤ n
  | 0 => Nat.le_refl 0
  | n + 1 => by
    have := hst_le p v n
    unfold hst
    split <;> omega
theorem cN_le (p : Nat → Int32) (v : Int) : ∀ n, cN p n v ≤ n
  | 0 => Nat.le_refl 0
  | n + 1 => by
    have := cN_le p v n
    unfold cN
    split <;> omega
theorem cN_step (p : Nat → Int32) (v : Int) : ∀ n, cN p n (v + 1) = cN p n v + hst p n (v + 1)
  | 0 => rfl
  | n + 1 => by
    have := cN_step p v n
    unfold cN hst
    split <;> split <;> split <;> omega
theorem cN_0 (p : Nat → Int32) : ∀ n, (∀ i, i < n → 0 ≤ (p i).toInt) → cN p n 0 = hst p n 0
  | 0, _ => rfl
  | n + 1, h => by
    have := cN_0 p n (fun i hi => h i (by omega))
    have := h n (by omega)
    unfold cN hst
    split <;> split <;> omega
theorem smH_eq {p : Nat → Int32} {n : Nat} (h : ∀ i, i < n → 0 ≤ (p i).toInt) : ∀ v : Nat, smH p n v = cN p n v
  | 0 => (cN_0 p n h).symm
  | v + 1 => by
    rw [smH, smH_eq h v]
    exact (cN_step p v n).symm
/-- a tone made even -/
def evn (p : Nat → Int32) (n : Nat) : Nat → Int32 := fun i => if n ≤ cN p n (minP 255 p n).toInt then p i else Int32.ofInt (rnd (255 * ((cN p n (p i).toInt : Int) - cN p n (minP 255 p n).toInt)) (n - cN p n (minP 255 p n).toInt))
/-- a Tones object at a: what is carried, how many are at most a tone -/
def isTn (X : gX) (h : gk_H) (a : Nat) (cr am : Nat → Int32) : Prop := h.1 a = some (.inr (9, [.ref (a + 1), .ref (a + 2)])) ∧ h.1 (a + 1) = some (cI X 256 cr) ∧ h.1 (a + 2) = some (cI X 256 am)
theorem mulB3 {v : Int} {n : Nat} (h : -2147483648 ≤ v ∧ v < 2147483648) (hn : n ≤ 15) : -40000000000 ≤ v * n ∧ v * n ≤ 40000000000 := by
  rcases Int.le_total 0 v with q | q
  · have h1 := Int.mul_le_mul_of_nonneg_left (show (n : Int) ≤ 15 by omega) q
    have h2 := Int.mul_nonneg q (show (0 : Int) ≤ n by omega)
    omega
  · have h1 := Int.mul_le_mul_of_nonneg_left (show (n : Int) ≤ 15 by omega) (show 0 ≤ -v by omega)
    have h2 := Int.mul_nonneg (show 0 ≤ -v by omega) (show (0 : Int) ≤ n by omega)
    rw [Int.neg_mul] at h1 h2
    omega
theorem mulB {v : Int} {n : Nat} (h : -2147483648 ≤ v ∧ v < 2147483648) (hn : n ≤ 15) : -2 ^ 63 ≤ v * n := by
  have := mulB3 h hn
  omega
theorem mulB2 {v : Int} {n : Nat} (h : -2147483648 ≤ v ∧ v < 2147483648) (hn : n ≤ 15) : v * n < 2 ^ 63 := by
  have := mulB3 h hn
  omega
section TnA
variable {X : gX} {d : Nat} {b : Nat × Nat} {h : gk_H} {Q : Option Value → gk_H → Prop} {a o : Nat} {k : Int32} {w t : Nat} {p cr am : Nat → Int32}
theorem sp_Tones_howManyAtMost {i : Nat} (hs : isTn X h a cr am) (hi : i < 256) (hQ : Q (some (.int (am i))) h) : Gm (kx X) mt_Tones_howManyAtMost d b [.ref a, .int (nI i)] h Q := by
  obtain ⟨e1, e2, e3⟩ := hs
  refine Gm.enter (L := [some (.ref a), some (.int (nI i))]) (by decide) (fun _ => trivial) (Nat.le_of_ble_eq_true rfl) rfl ?_
  refine gk_iload1 dX9_howManyAtMost_0 (pc' := 1) rfl ?_
  refine gk_if_lt dX9_howManyAtMost_1 (tgt := 20) (pc' := 4) (by decide) rfl (fun c1 => absurd c1 (nI_pos (by omega))) (fun c1 => ?_)
  refine gk_iload1 dX9_howManyAtMost_4 (pc' := 5) rfl ?_
  refine gk_sipush (v := 256) dX9_howManyAtMost_5 (pc' := 8) rfl (by decide) ?_
  refine gk_icmp_ge dX9_howManyAtMost_8 (tgt := 20) (pc' := 11) (by decide) rfl (fun c8 => absurd c8 (nI_ge (b := 256) (by omega) (by decide))) (fun c8 => ?_)
  refine gk_aload0 dX9_howManyAtMost_11 (pc' := 12) rfl ?_
  refine gk_getf (fs := [_, _]) gF_Tones_15 dX9_howManyAtMost_12 (pc' := 15) rfl (by assumption) rfl ?_
  refine gk_iload1 dX9_howManyAtMost_15 (pc' := 16) rfl ?_
  refine gk_iald (t0 := 0) rfl dX9_howManyAtMost_16 (pc' := 17) rfl (by exact (e3)) (vp_in_nI (by omega) (by decide)) ?_
  rw [nI_clamp (by omega)]
  refine gk_goto dX9_howManyAtMost_17 (tgt := 21) (by decide) ?_
  refine gk_iret dX9_howManyAtMost_21 rfl hQ
theorem sp_Tones_carry {x y e : Int32} (hs : isTn X h a cr am) (hp : isPic X h o k w t p) (hQ : ∀ h', isTn X h' a (cry w t cr x.toInt y.toInt e) am → fr (fun c => c = a + 1) h h' → Q none h') : Gm (kx X) mt_Tones_carry (d + 1) b [.ref a, .ref o, .int x, .int y, .int e] h Q := by
  have ha := hp.area
  have g1 := hp.o
  have hw := hp.1
  have hh := hp.2.1
  obtain ⟨e1, e2, e3⟩ := hs
  refine Gm.enter (L := [some (.ref a), some (.ref o), some (.int x), some (.int y), some (.int e), none]) (by decide) (fun _ => trivial) (Nat.le_of_ble_eq_true rfl) rfl ?_
  refine gk_aload1 dX9_carry_0 (pc' := 1) rfl ?_
  refine gk_iload2 dX9_carry_1 (pc' := 2) rfl ?_
  refine gk_iload3 dX9_carry_2 (pc' := 3) rfl ?_
  refine gk_cV1_2 mv_Picture_place gw_628 dX9_carry_3 (pc' := 6) rfl (Nat.le_of_ble_eq_true rfl) (by exact (g1)) (sp_Picture_place hp ?_)
  refine ⟨_, rfl, ?_⟩
  refine gk_istore5 dX9_carry_6 (pc' := 8) rfl (by decide) rfl ?_
  refine gk_aload1 dX9_carry_8 (pc' := 9) rfl ?_
  refine gk_iload2 dX9_carry_9 (pc' := 10) rfl ?_
  refine gk_iload3 dX9_carry_10 (pc' := 11) rfl ?_
  refine gk_cV1_2 mv_Picture_has gw_639 dX9_carry_11 (pc' := 14) rfl (Nat.le_of_ble_eq_true rfl) (by exact (g1)) (sp_Picture_has hp (fun i j ei ej hi hj => ?_) (fun c11 => ?_))
  · refine ⟨_, rfl, ?_⟩
    subst ei; subst ej
    have o1 := place_lt hi hj
    rw [show nI j * nI w + nI i = nI (j * w + i) by rw [pk_mul, nI_add]]
    have hc : cry w t cr (nI i).toInt (nI j).toInt e = upd cr (j * w + i) (cr (j * w + i) + e) := by
      rw [nI_toInt (by omega), nI_toInt (by omega), cry, if_pos (by omega), Int.toNat_natCast, Int.toNat_natCast]
    rw [hc] at hQ
    refine gk_if_eq dX9_carry_14 (tgt := 37) (pc' := 17) (by decide) rfl (fun c => absurd c (by decide)) (fun _ => ?_)
    refine gk_iload5 dX9_carry_17 (pc' := 19) rfl ?_
    refine gk_sipush (v := 256) dX9_carry_19 (pc' := 22) rfl (by decide) ?_
    refine gk_icmp_ge dX9_carry_22 (tgt := 37) (pc' := 25) (by decide) rfl (fun c22 => absurd c22 (nI_ge (b := 256) (by omega) (by decide))) (fun c22 => ?_)
    refine gk_aload0 dX9_carry_25 (pc' := 26) rfl ?_
    refine gk_getf (fs := [_, _]) gF_Tones_9 dX9_carry_26 (pc' := 29) rfl (by assumption) rfl ?_
    refine gk_iload5 dX9_carry_29 (pc' := 31) rfl ?_
    refine gk_dup2 dX9_carry_31 (pc' := 32) rfl rfl rfl ?_
    refine gk_iald (t0 := 0) rfl dX9_carry_32 (pc' := 33) rfl (by assumption) (vp_in_nI (by omega) (by decide)) ?_
    rw [nI_clamp (by omega)]
    refine gk_iload4 dX9_carry_33 (pc' := 35) rfl ?_
    refine gk_iadd dX9_carry_35 (pc' := 36) rfl ?_
    refine gk_iast (t0 := 0) rfl dX9_carry_36 (pc' := 37) rfl (by assumption) (vp_in_nI (by omega) (by decide)) ?_
    rw [nI_clamp (by omega)]
    refine gk_vret dX9_carry_37 rfl (by first | exact hQ h ⟨e1, e2, e3⟩ fr.rf | exact hQ _ ⟨(gk_set_ne (by omega)).trans e1, gk_set_self, (gk_set_ne (by omega)).trans e3⟩ fr.set)
  · refine ⟨_, rfl, ?_⟩
    have hc : cry w t cr x.toInt y.toInt e = cr := by rw [cry, if_neg (by omega)]
    rw [hc] at hQ
    refine gk_if_eq dX9_carry_14 (tgt := 37) (pc' := 17) (by decide) rfl (fun _ => ?_) (fun c => absurd c (by decide))
    refine gk_vret dX9_carry_37 rfl (by first | exact hQ h ⟨e1, e2, e3⟩ fr.rf | exact hQ _ ⟨(gk_set_ne (by omega)).trans e1, gk_set_self, (gk_set_ne (by omega)).trans e3⟩ fr.set)
theorem isTn.pic {h' : gk_H} {o : Nat} {k : Int32} {w t : Nat} {p : Nat → Int32} (hp : isPic X h o k w t p) (hf : fr (fun c => c = a + 1) h h') (n1 : o ≠ a + 1 ∧ o ≠ a) : isPic X h' o k w t p := hp.fr hf (by omega) (by omega)
theorem dlv_rng (top : Nat) (v : Int32) : 0 ≤ dlv top v ∧ dlv top v ≤ top := by
  unfold dlv
  omega
theorem sp_Tones_spreadAt {o' : Nat} {g : Nat → Int32} {x y top : Nat} {ot : Nat → Int32} (hs : isTn X h a cr am) (hp : isPic X h o k w t p) (hg : isPic X h o' k w t g) (n1 : o ≠ a + 1 ∧ o ≠ a) (n2 : o' ≠ a + 1 ∧ o' ≠ a ∧ o' + 1 ≠ a ∧ o' ≠ a + 2 ∧ o' + 1 ≠ a + 2) (n3 : o ≠ o' ∧ o ≠ o' + 1 ∧ o' ≠ o + 1) (hx : x < w) (hy : y < t) (h1 : 1 ≤ top) (h2 : top ≤ 15) (hgo : ∀ i, i < y * w + x → g i = ot i)
    (hQ : ∀ h' g', isTn X h' a (dst w t top p (y * w + x) (cr, ot)).1 am → isPic X h' o' k w t g' → (∀ i, i < y * w + x + 1 → g' i = (dst w t top p (y * w + x) (cr, ot)).2 i) → fr (fun c => c = a + 1 ∨ c = o' + 1) h h' → Q none h') : Gm (kx X) mt_Tones_spreadAt (d + 3) b [.ref a, .ref o, .ref o', .int (nI x), .int (nI y), .int (nI top)] h Q := by
  have ha := hp.area
  have q1 := hp.o
  have q2 := hg.o
  have hw := hp.1
  have hh := hp.2.1
  have o1 := place_lt hx hy
  have s1 := hs.1
  have s2 := hs.2.1
  have zx : (nI x).toInt = x := nI_toInt (by omega)
  have zy : (nI y).toInt = y := nI_toInt (by omega)
  have z1 : (1 : Int32).toInt = 1 := rfl
  have zt : (nI top).toInt = top := nI_toInt (by omega)
  have xp : (nI x + 1).toInt = (x : Int) + 1 := by rw [Jvm.Kit.i32_add (by omega) (by omega), zx, z1]
  have xm : (nI x - 1).toInt = (x : Int) - 1 := by rw [Jvm.Kit.i32_sub (by omega) (by omega), zx, z1]
  have yp : (nI y + 1).toInt = (y : Int) + 1 := by rw [Jvm.Kit.i32_add (by omega) (by omega), zy, z1]
  have c255 : (255 : Int64).toInt = 255 := rfl
  have c0 : (0 : Int64).toInt = 0 := rfl
  have lr := dlv_rng top (p (y * w + x) + cr (y * w + x))
  have rv := pu_rng (p (y * w + x) + cr (y * w + x))
  have mv : ((p (y * w + x) + cr (y * w + x)).toInt64 * (nI top).toInt64).toInt = (p (y * w + x) + cr (y * w + x)).toInt * top := by
    rw [Jvm.Kit.i64_mul (by rw [Jvm.Kit.i64_of_i32, Jvm.Kit.i64_of_i32, zt]; exact mulB rv h2) (by rw [Jvm.Kit.i64_of_i32, Jvm.Kit.i64_of_i32, zt]; exact mulB2 rv h2), Jvm.Kit.i64_of_i32, Jvm.Kit.i64_of_i32, zt]
  have mb := mulB3 rv h2
  refine Gm.enter (L := [some (.ref a), some (.ref o), some (.ref o'), some (.int (nI x)), some (.int (nI y)), some (.int (nI top)), none, none, none, none, none, none, none, none]) (by decide) (fun _ => trivial) (Nat.le_of_ble_eq_true rfl) rfl ?_
  refine gk_aload1 dX9_spreadAt_0 (pc' := 1) rfl ?_
  refine gk_iload3 dX9_spreadAt_1 (pc' := 2) rfl ?_
  refine gk_iload4 dX9_spreadAt_2 (pc' := 4) rfl ?_
  refine gk_cV1_2 mv_Picture_place gw_628 dX9_spreadAt_4 (pc' := 7) rfl (Nat.le_of_ble_eq_true rfl) (by exact (q1)) (sp_Picture_placeN hp ?_)
  refine ⟨_, rfl, ?_⟩
  refine gk_istore6 dX9_spreadAt_7 (pc' := 9) rfl (by decide) rfl ?_
  refine gk_iload5 dX9_spreadAt_9 (pc' := 11) rfl ?_
  refine gk_iconst (v := 1) dX9_spreadAt_11 (pc' := 12) rfl (by decide) ?_
  refine gk_icmp_lt dX9_spreadAt_12 (tgt := 28) (pc' := 15) (by decide) rfl (fun c12 => absurd c12 (nI_nlt (b := 1) (by omega) (by omega))) (fun c12 => ?_)
  refine gk_iload6 dX9_spreadAt_15 (pc' := 17) rfl ?_
  refine gk_if_lt dX9_spreadAt_17 (tgt := 28) (pc' := 20) (by decide) rfl (fun c17 => absurd c17 (nI_pos (by omega))) (fun c17 => ?_)
  refine gk_iload6 dX9_spreadAt_20 (pc' := 22) rfl ?_
  refine gk_sipush (v := 256) dX9_spreadAt_22 (pc' := 25) rfl (by decide) ?_
  refine gk_icmp_lt dX9_spreadAt_25 (tgt := 29) (pc' := 28) (by decide) rfl (fun c25 => ?_) (fun c25 => absurd (nI_lt (b := 256) (by omega) (by decide)) c25)
  refine gk_aload1 dX9_spreadAt_29 (pc' := 30) rfl ?_
  refine gk_iload6 dX9_spreadAt_30 (pc' := 32) rfl ?_
  refine gk_cV1_1 mv_Picture_pixel gw_629 dX9_spreadAt_32 (pc' := 35) rfl (Nat.le_of_ble_eq_true rfl) (by exact (q1)) (sp_Picture_pixel hp o1 ?_)
  refine ⟨_, rfl, ?_⟩
  refine gk_aload0 dX9_spreadAt_35 (pc' := 36) rfl ?_
  refine gk_getf (fs := [_, _]) gF_Tones_9 dX9_spreadAt_36 (pc' := 39) rfl (by assumption) rfl ?_
  refine gk_iload6 dX9_spreadAt_39 (pc' := 41) rfl ?_
  refine gk_iald (t0 := 0) rfl dX9_spreadAt_41 (pc' := 42) rfl (by exact (s2)) (vp_in_nI (by omega) (by decide)) ?_
  rw [nI_clamp (by omega)]
  refine gk_iadd dX9_spreadAt_42 (pc' := 43) rfl ?_
  refine gk_istore7 dX9_spreadAt_43 (pc' := 45) rfl (by decide) rfl ?_
  refine gk_lconst (v := 0) dX9_spreadAt_45 (pc' := 46) rfl (by decide) ?_
  refine gk_iload5 dX9_spreadAt_46 (pc' := 48) rfl ?_
  refine gk_i2l dX9_spreadAt_48 (pc' := 49) rfl ?_
  refine gk_iload7 dX9_spreadAt_49 (pc' := 51) rfl ?_
  refine gk_i2l dX9_spreadAt_51 (pc' := 52) rfl ?_
  refine gk_iload5 dX9_spreadAt_52 (pc' := 54) rfl ?_
  refine gk_i2l dX9_spreadAt_54 (pc' := 55) rfl ?_
  refine gk_lmul dX9_spreadAt_55 (pc' := 56) rfl ?_
  refine gk_ldc2 dX9_spreadAt_56 (pc' := 59) rfl gw_630 ?_
  refine gk_cSN1_2 mz_Room_nearest (host := "DarkRoom") (by decide +kernel) dX9_spreadAt_59 (pc' := 62) rfl (Nat.le_of_ble_eq_true rfl) (sp_Room_nearest (by omega) (by omega) (by omega) (by omega) (fun r hr => ?_))
  refine ⟨_, rfl, ?_⟩
  rw [mv, c255] at hr
  refine gk_cS1_2 mz_Math_minL gw_632 dX9_spreadAt_62 (pc' := 65) rfl (Nat.le_of_ble_eq_true rfl) (sp_Math_minL (fun r2 hr2 => ?_))
  refine ⟨_, rfl, ?_⟩
  refine gk_cS1_2 mz_Math_maxL gw_633 dX9_spreadAt_65 (pc' := 68) rfl (Nat.le_of_ble_eq_true rfl) (sp_Math_maxL (fun r3 hr3 => ?_))
  refine ⟨_, rfl, ?_⟩
  rw [Jvm.Kit.i64_of_i32, zt, hr] at hr2
  rw [c0, hr2] at hr3
  have e3 : r3.toInt32 = nI (dlv top (p (y * w + x) + cr (y * w + x))).toNat := pu_nI (by rw [Jvm.Kit.i32_of_i64 (by unfold dlv at lr; omega) (by unfold dlv at lr; omega)]; unfold dlv at lr ⊢; omega) (by omega)
  refine gk_l2i dX9_spreadAt_68 (pc' := 69) rfl ?_
  rw [e3]
  refine gk_istore8 dX9_spreadAt_69 (pc' := 71) rfl (by decide) rfl ?_
  refine gk_sipush (v := 255) dX9_spreadAt_71 (pc' := 74) rfl (by decide) ?_
  refine gk_iload8 dX9_spreadAt_74 (pc' := 76) rfl ?_
  refine gk_imul dX9_spreadAt_76 (pc' := 77) rfl ?_
  rw [show (255 : Int32) * nI (dlv top (p (y * w + x) + cr (y * w + x))).toNat = nI (255 * (dlv top (p (y * w + x) + cr (y * w + x))).toNat) from pk_mul 255 _]
  refine gk_iload5 dX9_spreadAt_77 (pc' := 79) rfl ?_
  refine gk_idiv dX9_spreadAt_79 (pc' := 80) rfl (nI_ne0 (by omega) (by omega)) ?_
  rw [nI_div (by omega) (by omega) (by omega), show nI (255 * (dlv top (p (y * w + x) + cr (y * w + x))).toNat / top) = dmd top (p (y * w + x) + cr (y * w + x)) from rfl]
  refine gk_istore9 dX9_spreadAt_80 (pc' := 82) rfl (by decide) rfl ?_
  refine gk_aload2 dX9_spreadAt_82 (pc' := 83) rfl ?_
  refine gk_iload6 dX9_spreadAt_83 (pc' := 85) rfl ?_
  refine gk_iload9 dX9_spreadAt_85 (pc' := 87) rfl ?_
  refine gk_cV0_2 mv_Picture_set gw_634 dX9_spreadAt_87 (pc' := 90) rfl (Nat.le_of_ble_eq_true rfl) (by exact (q2)) (sp_Picture_set hg (by omega) (fun h1' g1 f1 => ?_))
  refine ⟨rfl, ?_⟩
  have hs1 : isTn X h1' a cr am := ⟨(f1.2 _ (by omega)).trans hs.1, (f1.2 _ (by omega)).trans hs.2.1, (f1.2 _ (by omega)).trans hs.2.2⟩
  have hp1 := hp.fr f1 (by omega) (by omega)
  have t1 := hs1.1
  refine gk_iload7 dX9_spreadAt_90 (pc' := 92) rfl ?_
  refine gk_iload9 dX9_spreadAt_92 (pc' := 94) rfl ?_
  refine gk_isub dX9_spreadAt_94 (pc' := 95) rfl ?_
  refine gk_istore10 dX9_spreadAt_95 (pc' := 97) rfl (by decide) rfl ?_
  refine gk_bipush (v := 7) dX9_spreadAt_97 (pc' := 99) rfl (by decide) ?_
  refine gk_iload10 dX9_spreadAt_99 (pc' := 101) rfl ?_
  refine gk_imul dX9_spreadAt_101 (pc' := 102) rfl ?_
  refine gk_bipush (v := 16) dX9_spreadAt_102 (pc' := 104) rfl (by decide) ?_
  refine gk_idiv dX9_spreadAt_104 (pc' := 105) rfl (by decide) ?_
  refine gk_istore11 dX9_spreadAt_105 (pc' := 107) rfl (by decide) rfl ?_
  refine gk_iconst (v := 3) dX9_spreadAt_107 (pc' := 108) rfl (by decide) ?_
  refine gk_iload10 dX9_spreadAt_108 (pc' := 110) rfl ?_
  refine gk_imul dX9_spreadAt_110 (pc' := 111) rfl ?_
  refine gk_bipush (v := 16) dX9_spreadAt_111 (pc' := 113) rfl (by decide) ?_
  refine gk_idiv dX9_spreadAt_113 (pc' := 114) rfl (by decide) ?_
  refine gk_istore12 dX9_spreadAt_114 (pc' := 116) rfl (by decide) rfl ?_
  refine gk_iconst (v := 5) dX9_spreadAt_116 (pc' := 117) rfl (by decide) ?_
  refine gk_iload10 dX9_spreadAt_117 (pc' := 119) rfl ?_
  refine gk_imul dX9_spreadAt_119 (pc' := 120) rfl ?_
  refine gk_bipush (v := 16) dX9_spreadAt_120 (pc' := 122) rfl (by decide) ?_
  refine gk_idiv dX9_spreadAt_122 (pc' := 123) rfl (by decide) ?_
  refine gk_istore13 dX9_spreadAt_123 (pc' := 125) rfl (by decide) rfl ?_
  refine gk_aload0 dX9_spreadAt_125 (pc' := 126) rfl ?_
  refine gk_aload1 dX9_spreadAt_126 (pc' := 127) rfl ?_
  refine gk_iload3 dX9_spreadAt_127 (pc' := 128) rfl ?_
  refine gk_iconst (v := 1) dX9_spreadAt_128 (pc' := 129) rfl (by decide) ?_
  refine gk_iadd dX9_spreadAt_129 (pc' := 130) rfl ?_
  refine gk_iload4 dX9_spreadAt_130 (pc' := 132) rfl ?_
  refine gk_iload11 dX9_spreadAt_132 (pc' := 134) rfl ?_
  refine gk_cV0_4 mv_Tones_carry gw_635 dX9_spreadAt_134 (pc' := 137) rfl (Nat.le_of_ble_eq_true rfl) (by exact (t1)) (sp_Tones_carry hs1 hp1 (fun h2' hs2 f2 => ?_))
  refine ⟨rfl, ?_⟩
  have hp2 := isTn.pic hp1 f2 n1
  have g2 := g1.fr f2 (by omega) (by omega)
  have t2 := hs2.1
  refine gk_aload0 dX9_spreadAt_137 (pc' := 138) rfl ?_
  refine gk_aload1 dX9_spreadAt_138 (pc' := 139) rfl ?_
  refine gk_iload3 dX9_spreadAt_139 (pc' := 140) rfl ?_
  refine gk_iconst (v := 1) dX9_spreadAt_140 (pc' := 141) rfl (by decide) ?_
  refine gk_isub dX9_spreadAt_141 (pc' := 142) rfl ?_
  refine gk_iload4 dX9_spreadAt_142 (pc' := 144) rfl ?_
  refine gk_iconst (v := 1) dX9_spreadAt_144 (pc' := 145) rfl (by decide) ?_
  refine gk_iadd dX9_spreadAt_145 (pc' := 146) rfl ?_
  refine gk_iload12 dX9_spreadAt_146 (pc' := 148) rfl ?_
  refine gk_cV0_4 mv_Tones_carry gw_635 dX9_spreadAt_148 (pc' := 151) rfl (Nat.le_of_ble_eq_true rfl) (by exact (t2)) (sp_Tones_carry hs2 hp2 (fun h3' hs3 f3 => ?_))
  refine ⟨rfl, ?_⟩
  have hp3 := isTn.pic hp2 f3 n1
  have g3 := g2.fr f3 (by omega) (by omega)
  have t3 := hs3.1
  refine gk_aload0 dX9_spreadAt_151 (pc' := 152) rfl ?_
  refine gk_aload1 dX9_spreadAt_152 (pc' := 153) rfl ?_
  refine gk_iload3 dX9_spreadAt_153 (pc' := 154) rfl ?_
  refine gk_iload4 dX9_spreadAt_154 (pc' := 156) rfl ?_
  refine gk_iconst (v := 1) dX9_spreadAt_156 (pc' := 157) rfl (by decide) ?_
  refine gk_iadd dX9_spreadAt_157 (pc' := 158) rfl ?_
  refine gk_iload13 dX9_spreadAt_158 (pc' := 160) rfl ?_
  refine gk_cV0_4 mv_Tones_carry gw_635 dX9_spreadAt_160 (pc' := 163) rfl (Nat.le_of_ble_eq_true rfl) (by exact (t3)) (sp_Tones_carry hs3 hp3 (fun h4' hs4 f4 => ?_))
  refine ⟨rfl, ?_⟩
  have hp4 := isTn.pic hp3 f4 n1
  have g4 := g3.fr f4 (by omega) (by omega)
  have t4 := hs4.1
  refine gk_aload0 dX9_spreadAt_163 (pc' := 164) rfl ?_
  refine gk_aload1 dX9_spreadAt_164 (pc' := 165) rfl ?_
  refine gk_iload3 dX9_spreadAt_165 (pc' := 166) rfl ?_
  refine gk_iconst (v := 1) dX9_spreadAt_166 (pc' := 167) rfl (by decide) ?_
  refine gk_iadd dX9_spreadAt_167 (pc' := 168) rfl ?_
  refine gk_iload4 dX9_spreadAt_168 (pc' := 170) rfl ?_
  refine gk_iconst (v := 1) dX9_spreadAt_170 (pc' := 171) rfl (by decide) ?_
  refine gk_iadd dX9_spreadAt_171 (pc' := 172) rfl ?_
  refine gk_iload10 dX9_spreadAt_172 (pc' := 174) rfl ?_
  refine gk_iload11 dX9_spreadAt_174 (pc' := 176) rfl ?_
  refine gk_isub dX9_spreadAt_176 (pc' := 177) rfl ?_
  refine gk_iload12 dX9_spreadAt_177 (pc' := 179) rfl ?_
  refine gk_isub dX9_spreadAt_179 (pc' := 180) rfl ?_
  refine gk_iload13 dX9_spreadAt_180 (pc' := 182) rfl ?_
  refine gk_isub dX9_spreadAt_182 (pc' := 183) rfl ?_
  refine gk_cV0_4 mv_Tones_carry gw_635 dX9_spreadAt_183 (pc' := 186) rfl (Nat.le_of_ble_eq_true rfl) (by exact (t4)) (sp_Tones_carry hs4 hp4 (fun h5' hs5 f5 => ?_))
  refine ⟨rfl, ?_⟩
  have g5 := g4.fr f5 (by omega) (by omega)
  rw [xp, xm, yp, zx, zy] at hs5
  refine gk_vret dX9_spreadAt_186 rfl (hQ h5' _ (by unfold dst; rw [(dm hx).1, (dm hx).2]; exact hs5) g5 (fun i hi => ?_) ⟨by rw [f5.1, f4.1, f3.1, f2.1, f1.1], fun c hc => by rw [f5.2 c (by omega), f4.2 c (by omega), f3.2 c (by omega), f2.2 c (by omega), f1.2 c (by omega)]⟩)
  show _ = upd ot (y * w + x) (dmd top (p (y * w + x) + cr (y * w + x))) i
  by_cases z : i = y * w + x
  · rw [z, pk_us, pk_us]
  · rw [pk_un z, pk_un z]; exact hgo i (by omega)
end TnA
