/-! ===== the reference: maskBy ===== -/
def uK (x k : Nat) : Int := if k = 0 then (x : Int) - 1 else if k = 1 then (x : Int) + 1 else x
def vK (y k : Nat) : Int := if k = 2 then (y : Int) - 1 else if k = 3 then (y : Int) + 1 else y
/-- neighbour k of x, y: there, and on (if that is asked) -/
def bK (O : Nat → Nat) (x y : Nat) (on : Bool) (k : Nat) : Bool := decide (0 ≤ uK x k ∧ uK x k < 16 ∧ 0 ≤ vK y k ∧ vK y k < 16) && (!on || (O (vK y k).toNat).testBit (uK x k).toNat)
def bsN (O : Nat → Nat) (x y : Nat) (on : Bool) : Nat → Nat
  | 0 => 0
  | k + 1 => bsN O x y on k + (if bK O x y on k then 1 else 0)
theorem bsN_le (O : Nat → Nat) (x y : Nat) (on : Bool) : ∀ k, bsN O x y on k ≤ k
  | 0 => Nat.le_refl 0
  | k + 1 => by
    have := bsN_le O x y on k
    unfold bsN
    split <;> omega
theorem bK0 {O : Nat → Nat} {x y : Nat} {on : Bool} (hx : x < 16) (hy : y < 16) : bK O x y on 0 = (decide (1 ≤ x) && (!on || (O y).testBit (x - 1))) := by
  have e1 : uK x 0 = (x : Int) - 1 := rfl
  have e2 : vK y 0 = y := rfl
  unfold bK
  rw [e1, e2, Int.toNat_natCast, show ((x : Int) - 1).toNat = x - 1 by omega]
  by_cases h : 1 ≤ x
  · rw [decide_eq_true h, decide_eq_true (by omega)]
  · rw [decide_eq_false h, decide_eq_false (by omega), Bool.false_and]
theorem bK1 {O : Nat → Nat} {x y : Nat} {on : Bool} (hx : x < 16) (hy : y < 16) : bK O x y on 1 = (decide (x < 15) && (!on || (O y).testBit (x + 1))) := by
  have e1 : uK x 1 = (x : Int) + 1 := rfl
  have e2 : vK y 1 = y := rfl
  unfold bK
  rw [e1, e2, Int.toNat_natCast, show ((x : Int) + 1).toNat = x + 1 by omega]
  by_cases h : x < 15
  · rw [decide_eq_true h, decide_eq_true (by omega)]
  · rw [decide_eq_false h, decide_eq_false (by omega), Bool.false_and]
theorem bK2 {O : Nat → Nat} {x y : Nat} {on : Bool} (hx : x < 16) (hy : y < 16) : bK O x y on 2 = (decide (1 ≤ y) && (!on || (O (y - 1)).testBit x)) := by
  have e1 : uK x 2 = x := rfl
  have e2 : vK y 2 = (y : Int) - 1 := rfl
  unfold bK
  rw [e1, e2, Int.toNat_natCast, show ((y : Int) - 1).toNat = y - 1 by omega]
  by_cases h : 1 ≤ y
  · rw [decide_eq_true h, decide_eq_true (by omega)]
  · rw [decide_eq_false h, decide_eq_false (by omega), Bool.false_and]
theorem bK3 {O : Nat → Nat} {x y : Nat} {on : Bool} (hx : x < 16) (hy : y < 16) : bK O x y on 3 = (decide (y < 15) && (!on || (O (y + 1)).testBit x)) := by
  have e1 : uK x 3 = x := rfl
  have e2 : vK y 3 = (y : Int) + 1 := rfl
  unfold bK
  rw [e1, e2, Int.toNat_natCast, show ((y : Int) + 1).toNat = y + 1 by omega]
  by_cases h : y < 15
  · rw [decide_eq_true h, decide_eq_true (by omega)]
  · rw [decide_eq_false h, decide_eq_false (by omega), Bool.false_and]
theorem bs4 (O : Nat → Nat) (x y : Nat) (on : Bool) : bsN O x y on 4 = (if bK O x y on 0 then 1 else 0) + (if bK O x y on 1 then 1 else 0) + (if bK O x y on 2 then 1 else 0) + (if bK O x y on 3 then 1 else 0) := by
  simp only [bsN, Nat.zero_add]
theorem mj5_bs {R O : Nat → Nat} {x y : Nat} (hx : x < 16) (hy : y < 16) : mj R O 5 y x = ((O y).testBit x || decide (0 < bsN O x y true 4)) := by
  rw [bs4, bK0 hx hy, bK1 hx hy, bK2 hx hy, bK3 hx hy]
  unfold mj
  simp only [Bool.not_true, Bool.false_or, show ¬ (5 = 0) by decide, show ¬ (5 = 1) by decide, show ¬ (5 = 2) by decide, show ¬ (5 = 3) by decide, show ¬ (5 = 4) by decide, if_false, if_true]
  generalize (O y).testBit x = a
  generalize (decide (1 ≤ x) && (O y).testBit (x - 1)) = b0
  generalize (decide (x < 15) && (O y).testBit (x + 1)) = b1
  generalize (decide (1 ≤ y) && (O (y - 1)).testBit x) = b2
  generalize (decide (y < 15) && (O (y + 1)).testBit x) = b3
  revert a b0 b1 b2 b3
  decide
theorem mj6_bs {R O : Nat → Nat} {x y : Nat} (hx : x < 16) (hy : y < 16) : mj R O 6 y x = ((O y).testBit x && decide (bsN O x y true 4 = bsN O x y false 4)) := by
  rw [bs4, bs4, bK0 hx hy, bK1 hx hy, bK2 hx hy, bK3 hx hy, bK0 hx hy, bK1 hx hy, bK2 hx hy, bK3 hx hy]
  unfold mj
  simp only [Bool.not_true, Bool.false_or, Bool.not_false, Bool.true_or, Bool.and_true]
  have e0 : decide (x = 0) = !decide (1 ≤ x) := by by_cases h : x = 0 <;> simp [h]; omega
  have e1 : decide (15 ≤ x) = !decide (x < 15) := by by_cases h : x < 15 <;> simp [h] <;> omega
  have e2 : decide (y = 0) = !decide (1 ≤ y) := by by_cases h : y = 0 <;> simp [h]; omega
  have e3 : decide (15 ≤ y) = !decide (y < 15) := by by_cases h : y < 15 <;> simp [h] <;> omega
  rw [e0, e1, e2, e3]
  simp only [show ¬ (6 = 0) by decide, show ¬ (6 = 1) by decide, show ¬ (6 = 2) by decide, show ¬ (6 = 3) by decide, show ¬ (6 = 4) by decide, show ¬ (6 = 5) by decide, if_false]
  generalize (O y).testBit x = a
  generalize (O y).testBit (x - 1) = b0
  generalize (O y).testBit (x + 1) = b1
  generalize (O (y - 1)).testBit x = b2
  generalize (O (y + 1)).testBit x = b3
  generalize decide (1 ≤ x) = c0
  generalize decide (x < 15) = c1
  generalize decide (1 ≤ y) = c2
  generalize decide (y < 15) = c3
  revert a b0 b1 b2 b3 c0 c1 c2 c3
  decide
section MoJ
variable {X : gX} {d : Nat} {b : Nat × Nat} {h h0 : gk_H} {m : Nat} {A : MoA} {Z : MoZ} {Q : Option Value → gk_H → Prop} {S : St}
theorem lp_Mo_beside {O : Nat → Nat} {x y : Nat} {on : Bool} (h14 : mRow (A 14) 0 O) (hx : x < 16) (hy : y < 16) (hQ : Q (some (.int (nI (bsN O x y on 4)))) (mkH X h0 m A Z)) : ∀ n k l6 l7, k + n = 4 → G (kx X) mt_Mo_beside (d + 2) b 6 [some (.ref m), some (.int (nI x)), some (.int (nI y)), some (.int (if on then 1 else 0)), some (.int (nI (bsN O x y on k))), some (.int (nI k)), l6, l7] [] (mkH X h0 m A Z) Q := by
  have z1 : (1 : Int32).toInt = 1 := rfl
  have zx : (nI x).toInt = x := nI_toInt (by omega)
  have zy : (nI y).toInt = y := nI_toInt (by omega)
  have xm : (nI x - 1).toInt = (x : Int) - 1 := by rw [Jvm.Kit.i32_sub (by omega) (by omega), zx, z1]
  have xp : (nI x + 1).toInt = (x : Int) + 1 := by rw [Jvm.Kit.i32_add (by omega) (by omega), zx, z1]
  have ym : (nI y - 1).toInt = (y : Int) - 1 := by rw [Jvm.Kit.i32_sub (by omega) (by omega), zy, z1]
  have yp : (nI y + 1).toInt = (y : Int) + 1 := by rw [Jvm.Kit.i32_add (by omega) (by omega), zy, z1]
  intro n
  induction n with
  | zero =>
    intro k l6 l7 hk
    have e : k = 4 := by omega
    subst e
    refine gk_iload5 dX11_beside_6 (pc' := 8) rfl ?_
    refine gk_iconst (v := 4) dX11_beside_8 (pc' := 9) rfl (by decide) ?_
    refine gk_icmp_ge dX11_beside_9 (tgt := 112) (pc' := 12) (by decide) rfl (fun c9 => ?_) (fun c9 => absurd (by decide) c9)
    refine gk_iload4 dX11_beside_112 (pc' := 114) rfl ?_
    refine gk_iret dX11_beside_114 rfl hQ
  | succ n ih =>
    intro k l6 l7 hk
    have q := fun l6 l7 => ih (k + 1) l6 l7 (by omega)
    have key : ∀ (u v : Int32), u.toInt = uK x k → v.toInt = vK y k → G (kx X) mt_Mo_beside (d + 2) b 63 [some (.ref m), some (.int (nI x)), some (.int (nI y)), some (.int (if on then 1 else 0)), some (.int (nI (bsN O x y on k))), some (.int (nI k)), some (.int u), l7] [.int v] (mkH X h0 m A Z) Q := by
      intro u v eu ev
      have fin : ∀ bb : Bool, bb = bK O x y on k → G (kx X) mt_Mo_beside (d + 2) b 103 [some (.ref m), some (.int (nI x)), some (.int (nI y)), some (.int (if on then 1 else 0)), some (.int (nI (bsN O x y on k))), some (.int (nI k)), some (.int u), some (.int v)] [.int (nI (if bb then 1 else 0)), .int (nI (bsN O x y on k))] (mkH X h0 m A Z) Q := by
        intro bb hb
        have q1 := q (some (.int u)) (some (.int v))
        rw [bsN, ← hb] at q1
        refine gk_iaddN dX11_beside_103 (pc' := 104) rfl ?_
        refine gk_istore4 dX11_beside_104 (pc' := 106) rfl (by decide) rfl ?_
        refine gk_iinc5 (v := 1) dX11_beside_106 (pc' := 109) rfl (by decide) (by decide) rfl ?_
        refine gk_goto dX11_beside_109 (tgt := 6) (by decide) ?_
        rw [← nI_succ k]
        exact q1
      refine gk_istore7 dX11_beside_63 (pc' := 65) rfl (by decide) rfl ?_
      refine gk_iload4 dX11_beside_65 (pc' := 67) rfl ?_
      refine gk_iload6 dX11_beside_67 (pc' := 69) rfl ?_
      refine gk_iload7 dX11_beside_69 (pc' := 71) rfl ?_
      refine gk_cS1_2 mz_Mo_isSpot gw_1047 dX11_beside_71 (pc' := 74) rfl (Nat.le_of_ble_eq_true rfl) (sp_Mo_isSpot (fun i j hi hj ei ej => ?_) (fun n71 => ?_))
      · refine ⟨_, rfl, ?_⟩
        subst ei ej
        have zi : (nI i).toInt = i := nI_toInt (by omega)
        have zj : (nI j).toInt = j := nI_toInt (by omega)
        have eb : bK O x y on k = (!on || (O j).testBit i) := by unfold bK; rw [decide_eq_true (by omega), Bool.true_and, show (uK x k).toNat = i by omega, show (vK y k).toNat = j by omega]
        have e14 : A 14 (16 * j + i) = if (O j).testBit i then 1 else 0 := by have := h14 j hj i hi; rw [Nat.zero_add] at this; exact this
        refine gk_if_eq dX11_beside_74 (tgt := 102) (pc' := 77) (by decide) rfl (fun c => absurd c (by decide)) (fun _ => ?_)
        refine gk_iload3 dX11_beside_77 (pc' := 78) rfl ?_
        refine gk_if_eq dX11_beside_78 (tgt := 98) (pc' := 81) (by decide) rfl (fun c78 => ?_) (fun c78 => ?_)
        · have ho : on = false := by cases on; rfl; exact absurd c78 (by decide)
          refine gk_iconst (v := nI 1) dX11_beside_98 (pc' := 99) rfl (by decide) ?_
          refine gk_goto dX11_beside_99 (tgt := 103) (by decide) ?_
          first | exact fin false eb.symm | exact fin true (by rw [eb, ho]; rfl) | exact fin true (by rw [eb, cb, Bool.or_true]) | exact fin false (by rw [eb, cb, ho]; rfl)
        · have ho : on = true := by cases on; exact absurd rfl c78; rfl
          refine gk_aload0 dX11_beside_81 (pc' := 82) rfl ?_
          refine gk_getf (fs := [_, _, _, _, _, _, _, _, _, _, _, _, _, _, _, _, _, _, _, _, _, _, _, _, _, _]) gF_Mo_50 dX11_beside_82 (pc' := 85) rfl (by exact (mkJ)) rfl ?_
          refine gk_bipush (v := nI 16) dX11_beside_85 (pc' := 87) rfl (by decide) ?_
          refine gk_iload7 dX11_beside_87 (pc' := 89) rfl ?_
          refine gk_imulN dX11_beside_89 (pc' := 90) rfl ?_
          refine gk_iload6 dX11_beside_90 (pc' := 92) rfl ?_
          refine gk_iaddN dX11_beside_92 (pc' := 93) rfl ?_
          refine gk_iald (t0 := 0) rfl dX11_beside_93 (pc' := 94) rfl (by exact (mkA14)) (vp_in_nI (by omega) (by decide)) ?_
          rw [nI_clamp (by omega)]
          rw [e14]
          refine gk_iconst (v := 1) dX11_beside_94 (pc' := 95) rfl (by decide) ?_
          refine gk_icmp_ne dX11_beside_95 (tgt := 102) (pc' := 98) (by decide) rfl (fun c95 => ?_) (fun c95 => ?_)
          · have cb : (O j).testBit i = false := by cases h : (O j).testBit i; rfl; rw [h] at c95; exact absurd rfl c95
            refine gk_iconst (v := nI 0) dX11_beside_102 (pc' := 103) rfl (by decide) ?_
            first | exact fin false eb.symm | exact fin true (by rw [eb, ho]; rfl) | exact fin true (by rw [eb, cb, Bool.or_true]) | exact fin false (by rw [eb, cb, ho]; rfl)
          · have cb : (O j).testBit i = true := by cases h : (O j).testBit i; rw [h] at c95; exact absurd c95 (by decide); rfl
            refine gk_iconst (v := nI 1) dX11_beside_98 (pc' := 99) rfl (by decide) ?_
            refine gk_goto dX11_beside_99 (tgt := 103) (by decide) ?_
            first | exact fin false eb.symm | exact fin true (by rw [eb, ho]; rfl) | exact fin true (by rw [eb, cb, Bool.or_true]) | exact fin false (by rw [eb, cb, ho]; rfl)
      · refine ⟨_, rfl, ?_⟩
        have eb : bK O x y on k = false := by unfold bK; rw [decide_eq_false (by omega), Bool.false_and]
        refine gk_if_eq dX11_beside_74 (tgt := 102) (pc' := 77) (by decide) rfl (fun _ => ?_) (fun c => absurd c (by decide))
        refine gk_iconst (v := nI 0) dX11_beside_102 (pc' := 103) rfl (by decide) ?_
        first | exact fin false eb.symm | exact fin true (by rw [eb, ho]; rfl) | exact fin true (by rw [eb, cb, Bool.or_true]) | exact fin false (by rw [eb, cb, ho]; rfl)
    rcases (show k = 0 ∨ k = 1 ∨ k = 2 ∨ k = 3 by omega) with rfl | rfl | rfl | rfl
    · refine gk_iload5 dX11_beside_6 (pc' := 8) rfl ?_
      refine gk_iconst (v := 4) dX11_beside_8 (pc' := 9) rfl (by decide) ?_
      refine gk_icmp_ge dX11_beside_9 (tgt := 112) (pc' := 12) (by decide) rfl (fun c => absurd c (by decide)) (fun _ => ?_)
      refine gk_iload5 dX11_beside_12 (pc' := 14) rfl ?_
      refine gk_if_ne dX11_beside_14 (tgt := 23) (pc' := 17) (by decide) rfl (fun c => absurd c (by decide)) (fun _ => ?_)
      refine gk_iload1 dX11_beside_17 (pc' := 18) rfl ?_
      refine gk_iconst (v := 1) dX11_beside_18 (pc' := 19) rfl (by decide) ?_
      refine gk_isub dX11_beside_19 (pc' := 20) rfl ?_
      refine gk_goto dX11_beside_20 (tgt := 36) (by decide) ?_
      refine gk_istore6 dX11_beside_36 (pc' := 38) rfl (by decide) rfl ?_
      refine gk_iload5 dX11_beside_38 (pc' := 40) rfl ?_
      refine gk_iconst (v := 2) dX11_beside_40 (pc' := 41) rfl (by decide) ?_
      refine gk_icmp_ne dX11_beside_41 (tgt := 50) (pc' := 44) (by decide) rfl (fun _ => ?_) (fun c => absurd c (by decide))
      refine gk_iload5 dX11_beside_50 (pc' := 52) rfl ?_
      refine gk_iconst (v := 3) dX11_beside_52 (pc' := 53) rfl (by decide) ?_
      refine gk_icmp_ne dX11_beside_53 (tgt := 62) (pc' := 56) (by decide) rfl (fun _ => ?_) (fun c => absurd c (by decide))
      refine gk_iload2 dX11_beside_62 (pc' := 63) rfl ?_
      exact key _ _ xm zy
    · refine gk_iload5 dX11_beside_6 (pc' := 8) rfl ?_
      refine gk_iconst (v := 4) dX11_beside_8 (pc' := 9) rfl (by decide) ?_
      refine gk_icmp_ge dX11_beside_9 (tgt := 112) (pc' := 12) (by decide) rfl (fun c => absurd c (by decide)) (fun _ => ?_)
      refine gk_iload5 dX11_beside_12 (pc' := 14) rfl ?_
      refine gk_if_ne dX11_beside_14 (tgt := 23) (pc' := 17) (by decide) rfl (fun _ => ?_) (fun c => absurd c (by decide))
      refine gk_iload5 dX11_beside_23 (pc' := 25) rfl ?_
      refine gk_iconst (v := 1) dX11_beside_25 (pc' := 26) rfl (by decide) ?_
      refine gk_icmp_ne dX11_beside_26 (tgt := 35) (pc' := 29) (by decide) rfl (fun c => absurd c (by decide)) (fun _ => ?_)
      refine gk_iload1 dX11_beside_29 (pc' := 30) rfl ?_
      refine gk_iconst (v := 1) dX11_beside_30 (pc' := 31) rfl (by decide) ?_
      refine gk_iadd dX11_beside_31 (pc' := 32) rfl ?_
      refine gk_goto dX11_beside_32 (tgt := 36) (by decide) ?_
      refine gk_istore6 dX11_beside_36 (pc' := 38) rfl (by decide) rfl ?_
      refine gk_iload5 dX11_beside_38 (pc' := 40) rfl ?_
      refine gk_iconst (v := 2) dX11_beside_40 (pc' := 41) rfl (by decide) ?_
      refine gk_icmp_ne dX11_beside_41 (tgt := 50) (pc' := 44) (by decide) rfl (fun _ => ?_) (fun c => absurd c (by decide))
      refine gk_iload5 dX11_beside_50 (pc' := 52) rfl ?_
      refine gk_iconst (v := 3) dX11_beside_52 (pc' := 53) rfl (by decide) ?_
      refine gk_icmp_ne dX11_beside_53 (tgt := 62) (pc' := 56) (by decide) rfl (fun _ => ?_) (fun c => absurd c (by decide))
      refine gk_iload2 dX11_beside_62 (pc' := 63) rfl ?_
      exact key _ _ xp zy
    · refine gk_iload5 dX11_beside_6 (pc' := 8) rfl ?_
      refine gk_iconst (v := 4) dX11_beside_8 (pc' := 9) rfl (by decide) ?_
      refine gk_icmp_ge dX11_beside_9 (tgt := 112) (pc' := 12) (by decide) rfl (fun c => absurd c (by decide)) (fun _ => ?_)
      refine gk_iload5 dX11_beside_12 (pc' := 14) rfl ?_
      refine gk_if_ne dX11_beside_14 (tgt := 23) (pc' := 17) (by decide) rfl (fun _ => ?_) (fun c => absurd c (by decide))
      refine gk_iload5 dX11_beside_23 (pc' := 25) rfl ?_
      refine gk_iconst (v := 1) dX11_beside_25 (pc' := 26) rfl (by decide) ?_
      refine gk_icmp_ne dX11_beside_26 (tgt := 35) (pc' := 29) (by decide) rfl (fun _ => ?_) (fun c => absurd c (by decide))
      refine gk_iload1 dX11_beside_35 (pc' := 36) rfl ?_
      refine gk_istore6 dX11_beside_36 (pc' := 38) rfl (by decide) rfl ?_
      refine gk_iload5 dX11_beside_38 (pc' := 40) rfl ?_
      refine gk_iconst (v := 2) dX11_beside_40 (pc' := 41) rfl (by decide) ?_
      refine gk_icmp_ne dX11_beside_41 (tgt := 50) (pc' := 44) (by decide) rfl (fun c => absurd c (by decide)) (fun _ => ?_)
      refine gk_iload2 dX11_beside_44 (pc' := 45) rfl ?_
      refine gk_iconst (v := 1) dX11_beside_45 (pc' := 46) rfl (by decide) ?_
      refine gk_isub dX11_beside_46 (pc' := 47) rfl ?_
      refine gk_goto dX11_beside_47 (tgt := 63) (by decide) ?_
      exact key _ _ zx ym
    · refine gk_iload5 dX11_beside_6 (pc' := 8) rfl ?_
      refine gk_iconst (v := 4) dX11_beside_8 (pc' := 9) rfl (by decide) ?_
      refine gk_icmp_ge dX11_beside_9 (tgt := 112) (pc' := 12) (by decide) rfl (fun c => absurd c (by decide)) (fun _ => ?_)
      refine gk_iload5 dX11_beside_12 (pc' := 14) rfl ?_
      refine gk_if_ne dX11_beside_14 (tgt := 23) (pc' := 17) (by decide) rfl (fun _ => ?_) (fun c => absurd c (by decide))
      refine gk_iload5 dX11_beside_23 (pc' := 25) rfl ?_
      refine gk_iconst (v := 1) dX11_beside_25 (pc' := 26) rfl (by decide) ?_
      refine gk_icmp_ne dX11_beside_26 (tgt := 35) (pc' := 29) (by decide) rfl (fun _ => ?_) (fun c => absurd c (by decide))
      refine gk_iload1 dX11_beside_35 (pc' := 36) rfl ?_
      refine gk_istore6 dX11_beside_36 (pc' := 38) rfl (by decide) rfl ?_
      refine gk_iload5 dX11_beside_38 (pc' := 40) rfl ?_
      refine gk_iconst (v := 2) dX11_beside_40 (pc' := 41) rfl (by decide) ?_
      refine gk_icmp_ne dX11_beside_41 (tgt := 50) (pc' := 44) (by decide) rfl (fun _ => ?_) (fun c => absurd c (by decide))
      refine gk_iload5 dX11_beside_50 (pc' := 52) rfl ?_
      refine gk_iconst (v := 3) dX11_beside_52 (pc' := 53) rfl (by decide) ?_
      refine gk_icmp_ne dX11_beside_53 (tgt := 62) (pc' := 56) (by decide) rfl (fun c => absurd c (by decide)) (fun _ => ?_)
      refine gk_iload2 dX11_beside_56 (pc' := 57) rfl ?_
      refine gk_iconst (v := 1) dX11_beside_57 (pc' := 58) rfl (by decide) ?_
      refine gk_iadd dX11_beside_58 (pc' := 59) rfl ?_
      refine gk_goto dX11_beside_59 (tgt := 63) (by decide) ?_
      exact key _ _ zx yp
theorem sp_Mo_beside {O : Nat → Nat} {x y : Nat} {on : Bool} (h14 : mRow (A 14) 0 O) (hx : x < 16) (hy : y < 16) (hQ : Q (some (.int (nI (bsN O x y on 4)))) (mkH X h0 m A Z)) : Gm (kx X) mt_Mo_beside (d + 2) b [.ref m, .int (nI x), .int (nI y), .int (if on then 1 else 0)] (mkH X h0 m A Z) Q := by
  refine Gm.enter (L := [some (.ref m), some (.int (nI x)), some (.int (nI y)), some (.int (if on then 1 else 0)), none, none, none, none]) (by decide) (fun _ => trivial) (Nat.le_of_ble_eq_true rfl) rfl ?_
  refine gk_iconst (v := 0) dX11_beside_0 (pc' := 1) rfl (by decide) ?_
  refine gk_istore4 dX11_beside_1 (pc' := 3) rfl (by decide) rfl ?_
  refine gk_iconst (v := 0) dX11_beside_3 (pc' := 4) rfl (by decide) ?_
  refine gk_istore5 dX11_beside_4 (pc' := 6) rfl (by decide) rfl ?_
  exact lp_Mo_beside h14 hx hy hQ 4 0 _ _ (by omega)
def cpI (f g : Nat → Int32) (s i : Nat) : Nat → Int32 := fun q => if q < i then g (s + q) else f q
theorem cpI_0 {f g : Nat → Int32} {s : Nat} : cpI f g s 0 = f := funext fun q => if_neg (by omega)
theorem cpI_s {f g : Nat → Int32} {s i : Nat} : upd (cpI f g s i) i (g (s + i)) = cpI f g s (i + 1) := funext fun q => by
  by_cases e : q = i
  · subst e; rw [pk_us]; unfold cpI; rw [if_pos (by omega)]
  · rw [pk_un e]
    unfold cpI
    by_cases z : q < i
    · rw [if_pos z, if_pos (by omega)]
    · rw [if_neg z, if_neg (by omega)]
theorem lp_Mo_maskBy1 {j2 : Nat} {l1 : Option Value} {l3 : Int32} (h2 : j2 < 6) (hQ : ∀ l4, G (kx X) mt_Mo_maskBy (d + 10) b 74 [some (.ref m), l1, some (.int (nI j2)), some (.int l3), l4, none, none, none, none, none] [] (mkH X h0 m (uA A 14 (cpI (A 14) (A 1) (2072 + 256 * j2) 256)) Z) Q) : ∀ n i, i + n = 256 → G (kx X) mt_Mo_maskBy (d + 10) b 36 [some (.ref m), l1, some (.int (nI j2)), some (.int l3), some (.int (nI i)), none, none, none, none, none] [] (mkH X h0 m (uA A 14 (cpI (A 14) (A 1) (2072 + 256 * j2) i)) Z) Q := by
  intro n
  induction n with
  | zero =>
    intro i hi
    have e : i = 256 := by omega
    subst e
    refine gk_iload4 dX11_maskBy_36 (pc' := 38) rfl ?_
    refine gk_sipush (v := 256) dX11_maskBy_38 (pc' := 41) rfl (by decide) ?_
    refine gk_icmp_ge dX11_maskBy_41 (tgt := 74) (pc' := 44) (by decide) rfl (fun c41 => ?_) (fun c41 => absurd (by decide) c41)
    exact hQ _
  | succ n ih =>
    intro i hi
    refine gk_iload4 dX11_maskBy_36 (pc' := 38) rfl ?_
    refine gk_sipush (v := 256) dX11_maskBy_38 (pc' := 41) rfl (by decide) ?_
    refine gk_icmp_ge dX11_maskBy_41 (tgt := 74) (pc' := 44) (by decide) rfl (fun c41 => absurd c41 (nI_ge (b := 256) (by omega) (by omega))) (fun c41 => ?_)
    refine gk_aload0 dX11_maskBy_44 (pc' := 45) rfl ?_
    refine gk_getf (fs := [_, _, _, _, _, _, _, _, _, _, _, _, _, _, _, _, _, _, _, _, _, _, _, _, _, _]) gF_Mo_50 dX11_maskBy_45 (pc' := 48) rfl (by exact (mkJ)) rfl ?_
    refine gk_iload4 dX11_maskBy_48 (pc' := 50) rfl ?_
    refine gk_aload0 dX11_maskBy_50 (pc' := 51) rfl ?_
    refine gk_getf (fs := [_, _, _, _, _, _, _, _, _, _, _, _, _, _, _, _, _, _, _, _, _, _, _, _, _, _]) gF_Mo_7 dX11_maskBy_51 (pc' := 54) rfl (by exact (mkJ)) rfl ?_
    refine gk_sipush (v := nI 2072) dX11_maskBy_54 (pc' := 57) rfl (by decide) ?_
    refine gk_sipush (v := nI 256) dX11_maskBy_57 (pc' := 60) rfl (by decide) ?_
    refine gk_iload2 dX11_maskBy_60 (pc' := 61) rfl ?_
    refine gk_imulN dX11_maskBy_61 (pc' := 62) rfl ?_
    refine gk_iaddN dX11_maskBy_62 (pc' := 63) rfl ?_
    refine gk_iload4 dX11_maskBy_63 (pc' := 65) rfl ?_
    refine gk_iaddN dX11_maskBy_65 (pc' := 66) rfl ?_
    refine gk_iald (t0 := 0) rfl dX11_maskBy_66 (pc' := 67) rfl (by exact (mkA1)) (vp_in_nI (by omega) (by decide)) ?_
    rw [nI_clamp (by omega)]
    refine gk_iast (t0 := 0) rfl dX11_maskBy_67 (pc' := 68) rfl (by exact (mkA14)) (vp_in_nI (by omega) (by decide)) ?_
    rw [nI_clamp (by omega), mkS14]
    refine gk_iinc4 (v := 1) dX11_maskBy_68 (pc' := 71) rfl (by decide) (by decide) rfl ?_
    refine gk_goto dX11_maskBy_71 (tgt := 36) (by decide) ?_
    rw [← nI_succ, uA_s, uA_n (show 1 ≠ 14 by decide), uA_u, cpI_s]
    exact ih (i + 1) (by omega)
theorem lp_Mo_maskBy2 {j1 jh : Nat} {R O : Nat → Nat} {l2 : Option Value} (hR : mRow (A 1) (2072 + 256 * j1) R) (h14 : mRow (A 14) 0 O) (h1 : j1 < 6) (hh : jh < 7) (hQ : ∀ l4 l5 l6 l7 l8 l9, G (kx X) mt_Mo_maskBy (d + 10) b 301 [some (.ref m), some (.int (nI j1)), l2, some (.int (nI jh)), l4, l5, l6, l7, l8, l9] [] (mkH X h0 m (uA A 1 (fdF (A 1) (2072 + 256 * j1) 256 (mG (mjR R O jh)))) Z) Q) : ∀ n i l5 l6 l7 l8 l9, i + n = 256 → G (kx X) mt_Mo_maskBy (d + 10) b 77 [some (.ref m), some (.int (nI j1)), l2, some (.int (nI jh)), some (.int (nI i)), l5, l6, l7, l8, l9] [] (mkH X h0 m (uA A 1 (fdF (A 1) (2072 + 256 * j1) i (mG (mjR R O jh)))) Z) Q := by
  intro n
  induction n with
  | zero =>
    intro i l5 l6 l7 l8 l9 hi
    have e : i = 256 := by omega
    subst e
    refine gk_iload4 dX11_maskBy_77 (pc' := 79) rfl ?_
    refine gk_sipush (v := 256) dX11_maskBy_79 (pc' := 82) rfl (by decide) ?_
    refine gk_icmp_ge dX11_maskBy_82 (tgt := 301) (pc' := 85) (by decide) rfl (fun c82 => ?_) (fun c82 => absurd (by decide) c82)
    exact hQ _ _ _ _ _ _
  | succ n ih =>
    intro i l5 l6 l7 l8 l9 hi
    have hx : i % 16 < 16 := by omega
    have hy : i / 16 < 16 := by omega
    have ea : fdF (A 1) (2072 + 256 * j1) i (mG (mjR R O jh)) (2072 + 256 * j1 + i) = if (R (i / 16)).testBit (i % 16) then 1 else 0 := by
      unfold fdF
      rw [if_neg (by omega)]
      have := hR (i / 16) hy (i % 16) hx
      rw [show 2072 + 256 * j1 + 16 * (i / 16) + i % 16 = 2072 + 256 * j1 + i by omega] at this
      exact this
    have eb : A 14 i = if (O (i / 16)).testBit (i % 16) then 1 else 0 := by
      have := h14 (i / 16) hy (i % 16) hx
      rw [show 0 + 16 * (i / 16) + i % 16 = i by omega] at this
      exact this
    have ev : ∀ v : Bool, v = mj R O jh (i / 16) (i % 16) → (if v = true then (1 : Int32) else 0) = mG (mjR R O jh) i := by
      intro v hv
      unfold mG mjR
      rw [mkR_bit, decide_eq_true hx, Bool.true_and, ← hv]
    have h14' : mRow (uA A 1 (fdF (A 1) (2072 + 256 * j1) i (mG (mjR R O jh))) 14) 0 O := by rw [uA_n (by decide)]; exact h14
    generalize hra : (R (i / 16)).testBit (i % 16) = ra at *
    generalize hoa : (O (i / 16)).testBit (i % 16) = oa at *
    have key : ∀ v : Int32, v = mG (mjR R O jh) i → ∀ l5 l6 l7 l8, G (kx X) mt_Mo_maskBy (d + 10) b 276 [some (.ref m), some (.int (nI j1)), l2, some (.int (nI jh)), some (.int (nI i)), l5, l6, l7, l8, some (.int v)] [] (mkH X h0 m (uA A 1 (fdF (A 1) (2072 + 256 * j1) i (mG (mjR R O jh)))) Z) Q := by
      intro v hv l5 l6 l7 l8
      refine gk_aload0 dX11_maskBy_276 (pc' := 277) rfl ?_
      refine gk_getf (fs := [_, _, _, _, _, _, _, _, _, _, _, _, _, _, _, _, _, _, _, _, _, _, _, _, _, _]) gF_Mo_7 dX11_maskBy_277 (pc' := 280) rfl (by exact (mkJ)) rfl ?_
      refine gk_sipush (v := nI 2072) dX11_maskBy_280 (pc' := 283) rfl (by decide) ?_
      refine gk_sipush (v := nI 256) dX11_maskBy_283 (pc' := 286) rfl (by decide) ?_
      refine gk_iload1 dX11_maskBy_286 (pc' := 287) rfl ?_
      refine gk_imulN dX11_maskBy_287 (pc' := 288) rfl ?_
      refine gk_iaddN dX11_maskBy_288 (pc' := 289) rfl ?_
      refine gk_iload4 dX11_maskBy_289 (pc' := 291) rfl ?_
      refine gk_iaddN dX11_maskBy_291 (pc' := 292) rfl ?_
      refine gk_iload9 dX11_maskBy_292 (pc' := 294) rfl ?_
      refine gk_iast (t0 := 0) rfl dX11_maskBy_294 (pc' := 295) rfl (by exact (mkA1)) (vp_in_nI (by omega) (by decide)) ?_
      rw [nI_clamp (by omega), mkS1]
      rw [uA_s, uA_u, fdF_s hv]
      refine gk_iinc4 (v := 1) dX11_maskBy_295 (pc' := 298) rfl (by decide) (by decide) rfl ?_
      refine gk_goto dX11_maskBy_298 (tgt := 77) (by decide) ?_
      rw [← nI_succ]
      exact ih (i + 1) _ _ _ _ _ (by omega)
    have sw : G (kx X) mt_Mo_maskBy (d + 10) b 127 [some (.ref m), some (.int (nI j1)), l2, some (.int (nI jh)), some (.int (nI i)), some (.int (if ra then 1 else 0)), some (.int (if oa then 1 else 0)), some (.int (nI (i % 16))), some (.int (nI (i / 16))), l9] [] (mkH X h0 m (uA A 1 (fdF (A 1) (2072 + 256 * j1) i (mG (mjR R O jh)))) Z) Q := by
      clear ih ea eb
      rcases (show jh = 0 ∨ jh = 1 ∨ jh = 2 ∨ jh = 3 ∨ jh = 4 ∨ jh = 5 ∨ jh = 6 by omega) with rfl | rfl | rfl | rfl | rfl | rfl | rfl
      · refine gk_iload3 dX11_maskBy_127 (pc' := 128) rfl ?_
        refine gk_tableIn dX11_maskBy_128 (tgt := 168) (off := 40) (by decide) (by decide) (by decide +kernel) (by decide) ?_
        refine gk_iload5 dX11_maskBy_168 (pc' := 170) rfl ?_
        refine gk_iload6 dX11_maskBy_170 (pc' := 172) rfl ?_
        refine gk_iand dX11_maskBy_172 (pc' := 173) rfl ?_
        refine gk_istore9 dX11_maskBy_173 (pc' := 175) rfl (by decide) rfl ?_
        refine gk_goto dX11_maskBy_175 (tgt := 276) (by decide) ?_
        exact key _ ((show _ = if (ra && oa) = true then (1 : Int32) else 0 by cases ra <;> cases oa <;> decide).trans (ev _ (by unfold mj; rw [if_pos rfl, hra, hoa]))) _ _ _ _
      · refine gk_iload3 dX11_maskBy_127 (pc' := 128) rfl ?_
        refine gk_tableIn dX11_maskBy_128 (tgt := 178) (off := 50) (by decide) (by decide) (by decide +kernel) (by decide) ?_
        refine gk_iload5 dX11_maskBy_178 (pc' := 180) rfl ?_
        refine gk_iload6 dX11_maskBy_180 (pc' := 182) rfl ?_
        refine gk_ior dX11_maskBy_182 (pc' := 183) rfl ?_
        refine gk_istore9 dX11_maskBy_183 (pc' := 185) rfl (by decide) rfl ?_
        refine gk_goto dX11_maskBy_185 (tgt := 276) (by decide) ?_
        exact key _ ((show _ = if (ra || oa) = true then (1 : Int32) else 0 by cases ra <;> cases oa <;> decide).trans (ev _ (by unfold mj; rw [if_neg (by decide), if_pos rfl, hra, hoa]))) _ _ _ _
      · refine gk_iload3 dX11_maskBy_127 (pc' := 128) rfl ?_
        refine gk_tableIn dX11_maskBy_128 (tgt := 188) (off := 60) (by decide) (by decide) (by decide +kernel) (by decide) ?_
        refine gk_iload5 dX11_maskBy_188 (pc' := 190) rfl ?_
        refine gk_iload6 dX11_maskBy_190 (pc' := 192) rfl ?_
        refine gk_ixor dX11_maskBy_192 (pc' := 193) rfl ?_
        refine gk_istore9 dX11_maskBy_193 (pc' := 195) rfl (by decide) rfl ?_
        refine gk_goto dX11_maskBy_195 (tgt := 276) (by decide) ?_
        exact key _ ((show _ = if (ra ^^ oa) = true then (1 : Int32) else 0 by cases ra <;> cases oa <;> decide).trans (ev _ (by unfold mj; rw [if_neg (by decide), if_neg (by decide), if_pos rfl, hra, hoa]))) _ _ _ _
      · refine gk_iload3 dX11_maskBy_127 (pc' := 128) rfl ?_
        refine gk_tableIn dX11_maskBy_128 (tgt := 198) (off := 70) (by decide) (by decide) (by decide +kernel) (by decide) ?_
        refine gk_iconst (v := 1) dX11_maskBy_198 (pc' := 199) rfl (by decide) ?_
        refine gk_iload6 dX11_maskBy_199 (pc' := 201) rfl ?_
        refine gk_isub dX11_maskBy_201 (pc' := 202) rfl ?_
        refine gk_istore9 dX11_maskBy_202 (pc' := 204) rfl (by decide) rfl ?_
        refine gk_goto dX11_maskBy_204 (tgt := 276) (by decide) ?_
        exact key _ ((show _ = if (!oa) = true then (1 : Int32) else 0 by cases oa <;> decide).trans (ev _ (by unfold mj; rw [if_neg (by decide), if_neg (by decide), if_neg (by decide), if_pos rfl, hoa]))) _ _ _ _
      · refine gk_iload3 dX11_maskBy_127 (pc' := 128) rfl ?_
        refine gk_tableIn dX11_maskBy_128 (tgt := 207) (off := 79) (by decide) (by decide) (by decide +kernel) (by decide) ?_
        refine gk_iload6 dX11_maskBy_207 (pc' := 209) rfl ?_
        refine gk_istore9 dX11_maskBy_209 (pc' := 211) rfl (by decide) rfl ?_
        refine gk_goto dX11_maskBy_211 (tgt := 276) (by decide) ?_
        exact key _ (ev oa (by unfold mj; rw [if_neg (by decide), if_neg (by decide), if_neg (by decide), if_neg (by decide), if_pos rfl, hoa])) _ _ _ _
      · have e5 := mj5_bs (R := R) (O := O) hx hy
        rw [hoa] at e5
        have bl := bsN_le O (i % 16) (i / 16) true 4
        refine gk_iload3 dX11_maskBy_127 (pc' := 128) rfl ?_
        refine gk_tableIn dX11_maskBy_128 (tgt := 214) (off := 86) (by decide) (by decide) (by decide +kernel) (by decide) ?_
        refine gk_iload6 dX11_maskBy_214 (pc' := 216) rfl ?_
        refine gk_iconst (v := 1) dX11_maskBy_216 (pc' := 217) rfl (by decide) ?_
        refine gk_icmp_eq dX11_maskBy_217 (tgt := 232) (pc' := 220) (by decide) rfl (fun c217 => ?_) (fun c217 => ?_)
        · have co : oa = true := by cases oa; exact absurd c217 (by decide); rfl
          refine gk_iconst (v := 1) dX11_maskBy_232 (pc' := 233) rfl (by decide) ?_
          refine gk_goto dX11_maskBy_233 (tgt := 237) (by decide) ?_
          refine gk_istore9 dX11_maskBy_237 (pc' := 239) rfl (by decide) rfl ?_
          refine gk_goto dX11_maskBy_239 (tgt := 276) (by decide) ?_
          first | exact key _ (ev true (by rw [e5, co]; rfl)) _ _ _ _ | exact key _ (ev true (by rw [e5, co, decide_eq_true cl]; rfl)) _ _ _ _ | exact key _ (ev false (by rw [e5, co, cl]; rfl)) _ _ _ _
        · have co : oa = false := by cases oa; rfl; exact absurd rfl c217
          refine gk_aload0 dX11_maskBy_220 (pc' := 221) rfl ?_
          refine gk_iload7 dX11_maskBy_221 (pc' := 223) rfl ?_
          refine gk_iload8 dX11_maskBy_223 (pc' := 225) rfl ?_
          refine gk_iconst (v := 1) dX11_maskBy_225 (pc' := 226) rfl (by decide) ?_
          refine gk_cV1_3 mv_Mo_beside gw_1067 dX11_maskBy_226 (pc' := 229) rfl (Nat.le_of_ble_eq_true rfl) (by exact (mkJ)) (sp_Mo_beside (on := true) h14' hx hy ?_)
          refine ⟨_, rfl, ?_⟩
          refine gk_if_le dX11_maskBy_229 (tgt := 236) (pc' := 232) (by decide) rfl (fun c229 => ?_) (fun c229 => ?_)
          · have cl : bsN O (i % 16) (i / 16) true 4 = 0 := by have := (nI_leI (b := 0) (by omega) (by omega)).mp c229; omega
            refine gk_iconst (v := 0) dX11_maskBy_236 (pc' := 237) rfl (by decide) ?_
            refine gk_istore9 dX11_maskBy_237 (pc' := 239) rfl (by decide) rfl ?_
            refine gk_goto dX11_maskBy_239 (tgt := 276) (by decide) ?_
            first | exact key _ (ev true (by rw [e5, co]; rfl)) _ _ _ _ | exact key _ (ev true (by rw [e5, co, decide_eq_true cl]; rfl)) _ _ _ _ | exact key _ (ev false (by rw [e5, co, cl]; rfl)) _ _ _ _
          · have cl : 0 < bsN O (i % 16) (i / 16) true 4 := by rcases Nat.eq_zero_or_pos (bsN O (i % 16) (i / 16) true 4) with z | z; rw [z] at c229; exact absurd (by decide) c229; exact z
            refine gk_iconst (v := 1) dX11_maskBy_232 (pc' := 233) rfl (by decide) ?_
            refine gk_goto dX11_maskBy_233 (tgt := 237) (by decide) ?_
            refine gk_istore9 dX11_maskBy_237 (pc' := 239) rfl (by decide) rfl ?_
            refine gk_goto dX11_maskBy_239 (tgt := 276) (by decide) ?_
            first | exact key _ (ev true (by rw [e5, co]; rfl)) _ _ _ _ | exact key _ (ev true (by rw [e5, co, decide_eq_true cl]; rfl)) _ _ _ _ | exact key _ (ev false (by rw [e5, co, cl]; rfl)) _ _ _ _
      · have e6 := mj6_bs (R := R) (O := O) hx hy
        rw [hoa] at e6
        have bl := bsN_le O (i % 16) (i / 16) true 4
        have bl2 := bsN_le O (i % 16) (i / 16) false 4
        refine gk_iload3 dX11_maskBy_127 (pc' := 128) rfl ?_
        refine gk_tableOut dX11_maskBy_128 (tgt := 242) (by decide) (by decide) ?_
        refine gk_iload6 dX11_maskBy_242 (pc' := 244) rfl ?_
        refine gk_iconst (v := 1) dX11_maskBy_244 (pc' := 245) rfl (by decide) ?_
        refine gk_icmp_ne dX11_maskBy_245 (tgt := 273) (pc' := 248) (by decide) rfl (fun c245 => ?_) (fun c245 => ?_)
        · have co : oa = false := by cases oa; rfl; exact absurd rfl c245
          refine gk_iconst (v := 0) dX11_maskBy_273 (pc' := 274) rfl (by decide) ?_
          refine gk_istore9 dX11_maskBy_274 (pc' := 276) rfl (by decide) rfl ?_
          first | exact key _ (ev false (by rw [e6, co]; rfl)) _ _ _ _ | exact key _ (ev true (by rw [e6, co, decide_eq_true cl]; rfl)) _ _ _ _ | exact key _ (ev false (by rw [e6, co, decide_eq_false cl]; rfl)) _ _ _ _
        · have co : oa = true := by cases oa; exact absurd c245 (by decide); rfl
          refine gk_aload0 dX11_maskBy_248 (pc' := 249) rfl ?_
          refine gk_iload7 dX11_maskBy_249 (pc' := 251) rfl ?_
          refine gk_iload8 dX11_maskBy_251 (pc' := 253) rfl ?_
          refine gk_iconst (v := 1) dX11_maskBy_253 (pc' := 254) rfl (by decide) ?_
          refine gk_cV1_3 mv_Mo_beside gw_1067 dX11_maskBy_254 (pc' := 257) rfl (Nat.le_of_ble_eq_true rfl) (by exact (mkJ)) (sp_Mo_beside (on := true) h14' hx hy ?_)
          refine ⟨_, rfl, ?_⟩
          refine gk_aload0 dX11_maskBy_257 (pc' := 258) rfl ?_
          refine gk_iload7 dX11_maskBy_258 (pc' := 260) rfl ?_
          refine gk_iload8 dX11_maskBy_260 (pc' := 262) rfl ?_
          refine gk_iconst (v := 0) dX11_maskBy_262 (pc' := 263) rfl (by decide) ?_
          refine gk_cV1_3 mv_Mo_beside gw_1067 dX11_maskBy_263 (pc' := 266) rfl (Nat.le_of_ble_eq_true rfl) (by exact (mkJ)) (sp_Mo_beside (on := false) h14' hx hy ?_)
          refine ⟨_, rfl, ?_⟩
          refine gk_icmp_ne dX11_maskBy_266 (tgt := 273) (pc' := 269) (by decide) rfl (fun c266 => ?_) (fun c266 => ?_)
          · have cl : ¬ bsN O (i % 16) (i / 16) true 4 = bsN O (i % 16) (i / 16) false 4 := fun e => c266 (by rw [e])
            refine gk_iconst (v := 0) dX11_maskBy_273 (pc' := 274) rfl (by decide) ?_
            refine gk_istore9 dX11_maskBy_274 (pc' := 276) rfl (by decide) rfl ?_
            first | exact key _ (ev false (by rw [e6, co]; rfl)) _ _ _ _ | exact key _ (ev true (by rw [e6, co, decide_eq_true cl]; rfl)) _ _ _ _ | exact key _ (ev false (by rw [e6, co, decide_eq_false cl]; rfl)) _ _ _ _
          · have cl : bsN O (i % 16) (i / 16) true 4 = bsN O (i % 16) (i / 16) false 4 := nI_inj (by omega) (by omega) c266
            refine gk_iconst (v := 1) dX11_maskBy_269 (pc' := 270) rfl (by decide) ?_
            refine gk_goto dX11_maskBy_270 (tgt := 274) (by decide) ?_
            refine gk_istore9 dX11_maskBy_274 (pc' := 276) rfl (by decide) rfl ?_
            first | exact key _ (ev false (by rw [e6, co]; rfl)) _ _ _ _ | exact key _ (ev true (by rw [e6, co, decide_eq_true cl]; rfl)) _ _ _ _ | exact key _ (ev false (by rw [e6, co, decide_eq_false cl]; rfl)) _ _ _ _
    refine gk_iload4 dX11_maskBy_77 (pc' := 79) rfl ?_
    refine gk_sipush (v := 256) dX11_maskBy_79 (pc' := 82) rfl (by decide) ?_
    refine gk_icmp_ge dX11_maskBy_82 (tgt := 301) (pc' := 85) (by decide) rfl (fun c82 => absurd c82 (nI_ge (b := 256) (by omega) (by omega))) (fun c82 => ?_)
    refine gk_aload0 dX11_maskBy_85 (pc' := 86) rfl ?_
    refine gk_getf (fs := [_, _, _, _, _, _, _, _, _, _, _, _, _, _, _, _, _, _, _, _, _, _, _, _, _, _]) gF_Mo_7 dX11_maskBy_86 (pc' := 89) rfl (by exact (mkJ)) rfl ?_
    refine gk_sipush (v := nI 2072) dX11_maskBy_89 (pc' := 92) rfl (by decide) ?_
    refine gk_sipush (v := nI 256) dX11_maskBy_92 (pc' := 95) rfl (by decide) ?_
    refine gk_iload1 dX11_maskBy_95 (pc' := 96) rfl ?_
    refine gk_imulN dX11_maskBy_96 (pc' := 97) rfl ?_
    refine gk_iaddN dX11_maskBy_97 (pc' := 98) rfl ?_
    refine gk_iload4 dX11_maskBy_98 (pc' := 100) rfl ?_
    refine gk_iaddN dX11_maskBy_100 (pc' := 101) rfl ?_
    refine gk_iald (t0 := 0) rfl dX11_maskBy_101 (pc' := 102) rfl (by exact (mkA1)) (vp_in_nI (by omega) (by decide)) ?_
    rw [nI_clamp (by omega)]
    rw [uA_s, ea]
    refine gk_istore5 dX11_maskBy_102 (pc' := 104) rfl (by decide) rfl ?_
    refine gk_aload0 dX11_maskBy_104 (pc' := 105) rfl ?_
    refine gk_getf (fs := [_, _, _, _, _, _, _, _, _, _, _, _, _, _, _, _, _, _, _, _, _, _, _, _, _, _]) gF_Mo_50 dX11_maskBy_105 (pc' := 108) rfl (by exact (mkJ)) rfl ?_
    refine gk_iload4 dX11_maskBy_108 (pc' := 110) rfl ?_
    refine gk_iald (t0 := 0) rfl dX11_maskBy_110 (pc' := 111) rfl (by exact (mkA14)) (vp_in_nI (by omega) (by decide)) ?_
    rw [nI_clamp (by omega)]
    rw [uA_n (show 14 ≠ 1 by decide), eb]
    refine gk_istore6 dX11_maskBy_111 (pc' := 113) rfl (by decide) rfl ?_
    refine gk_iload4 dX11_maskBy_113 (pc' := 115) rfl ?_
    refine gk_bipush (v := nI 16) dX11_maskBy_115 (pc' := 117) rfl (by decide) ?_
    refine gk_iremN dX11_maskBy_117 (pc' := 118) rfl (by omega) (by omega) (by omega) ?_
    refine gk_istore7 dX11_maskBy_118 (pc' := 120) rfl (by decide) rfl ?_
    refine gk_iload4 dX11_maskBy_120 (pc' := 122) rfl ?_
    refine gk_bipush (v := nI 16) dX11_maskBy_122 (pc' := 124) rfl (by decide) ?_
    refine gk_idivN dX11_maskBy_124 (pc' := 125) rfl (by omega) (by omega) (by omega) ?_
    refine gk_istore8 dX11_maskBy_125 (pc' := 127) rfl (by decide) rfl ?_
    exact sw
theorem mo_maskBy {q n how : Int32} (hM : Mod X h m S) (hw : wfS S) (hQ : ∀ h', Mod X h' m (oMaskBy S q n how).2 → frO m h h' → Q (some (.int (oMaskBy S q n how).1)) h') : Gm (kx X) mt_Mo_maskBy (d + 10) b [.ref m, .int q, .int n, .int how] h Q := by
  obtain ⟨h0, A, Z, rfl, hS⟩ := hM
  have hE : ∀ a0 S' A' Z', oMaskBy S q n how = (a0, S') → MoS A' Z' S' → Q (some (.int a0)) (mkH X h0 m A' Z') := fun a0 S' A' Z' e0 h1 => by
    have q := hQ (mkH X h0 m A' Z')
    rw [e0] at q
    exact q ⟨h0, A', Z', rfl, h1⟩ mk_fr
  have hB : ∀ a0, oMaskBy S q n how = (a0, S) → Q (some (.int a0)) (mkH X h0 m A Z) := fun a0 e0 => hE a0 S A Z e0 hS
  have zh := i2l_i how
  have z0 : (0 : Int64).toInt = 0 := rfl
  have z6 : (6 : Int64).toInt = 6 := rfl
  refine Gm.enter (L := [some (.ref m), some (.int q), some (.int n), some (.int how), none, none, none, none, none, none]) (by decide) (fun _ => trivial) (Nat.le_of_ble_eq_true rfl) rfl ?_
  refine gk_iload1 dX11_maskBy_0 (pc' := 1) rfl ?_
  refine gk_cS1_1 mz_Mo_isMask gw_1044 dX11_maskBy_1 (pc' := 4) rfl (Nat.le_of_ble_eq_true rfl) (sp_Mo_isMask (fun j1 hj1 ej1 => ?_) (fun n1 => ?_))
  · refine ⟨_, rfl, ?_⟩
    subst ej1
    have zj1 : (nI j1).toInt = j1 := nI_toInt (by omega)
    have yj1 : (nI j1).toInt.toNat = j1 := by omega
    have pr1 := hS.msk hj1
    refine gk_if_eq dX11_maskBy_4 (tgt := 26) (pc' := 7) (by decide) rfl (fun c => absurd c (by decide)) (fun _ => ?_)
    refine gk_iload2 dX11_maskBy_7 (pc' := 8) rfl ?_
    refine gk_cS1_1 mz_Mo_isMask gw_1044 dX11_maskBy_8 (pc' := 11) rfl (Nat.le_of_ble_eq_true rfl) (sp_Mo_isMask (fun j8 hj8 ej8 => ?_) (fun n8 => ?_))
    · refine ⟨_, rfl, ?_⟩
      subst ej8
      have zj8 : (nI j8).toInt = j8 := nI_toInt (by omega)
      have yj8 : (nI j8).toInt.toNat = j8 := by omega
      have pr8 := hS.msk hj8
      refine gk_if_eq dX11_maskBy_11 (tgt := 26) (pc' := 14) (by decide) rfl (fun c => absurd c (by decide)) (fun _ => ?_)
      refine gk_iload3 dX11_maskBy_14 (pc' := 15) rfl ?_
      refine gk_i2l dX11_maskBy_15 (pc' := 16) rfl ?_
      refine gk_lconst (v := 0) dX11_maskBy_16 (pc' := 17) rfl (by decide) ?_
      refine gk_ldc2 dX11_maskBy_17 (pc' := 20) rfl gw_1066 ?_
      refine gk_cS1_3 mz_Mo_in gw_886 dX11_maskBy_20 (pc' := 23) rfl (Nat.le_of_ble_eq_true rfl) (sp_Mo_in (fun u20 v20 => ?_) (fun n20 => ?_))
      · refine ⟨_, rfl, ?_⟩
        obtain ⟨jh, hjh, rfl⟩ := pu_of (x := how) (n := 7) (by omega) (by omega) (by omega)
        have zjh : (nI jh).toInt = jh := nI_toInt (by omega)
        refine gk_if_ne dX11_maskBy_23 (tgt := 29) (pc' := 26) (by decide) rfl (fun _ => ?_) (fun c => absurd c (by decide))
        refine gk_aload0 dX11_maskBy_29 (pc' := 30) rfl ?_
        refine gk_cV0_0 mv_Mo_begin gw_892 dX11_maskBy_30 (pc' := 33) rfl (Nat.le_of_ble_eq_true rfl) (by exact (mkJ)) (sp_Mo_begin hS hw.1 (fun A1 Z1 a1 a2 hBg => ?_))
        refine ⟨rfl, ?_⟩
        have pr2 : mRow (A1 1) (2072 + 256 * j1) (mkS S (nI j1)) := by rw [a1 1 (by decide)]; exact pr1
        have pr3 : mRow (A1 1) (2072 + 256 * j8) (mkS S (nI j8)) := by rw [a1 1 (by decide)]; exact pr8
        refine gk_iconst (v := 0) dX11_maskBy_33 (pc' := 34) rfl (by decide) ?_
        refine gk_istore4 dX11_maskBy_34 (pc' := 36) rfl (by decide) rfl ?_
        have q1 := lp_Mo_maskBy1 (X := X) (h0 := h0) (m := m) (A := A1) (Z := Z1) (d := d) (b := b) (Q := Q) (j2 := j8) (l1 := some (.int (nI j1))) (l3 := nI jh) hj8 (fun l4 => by
          refine gk_iconst (v := 0) dX11_maskBy_74 (pc' := 75) rfl (by decide) ?_
          refine gk_istore4 dX11_maskBy_75 (pc' := 77) rfl (by decide) rfl ?_
          have h14 : mRow (uA A1 14 (cpI (A1 14) (A1 1) (2072 + 256 * j8) 256) 14) 0 (mkS S (nI j8)) := by
            rw [uA_s]
            exact pr3.to (fun i hi => by unfold cpI; rw [Nat.zero_add, if_pos hi])
          have q2 := lp_Mo_maskBy2 (X := X) (h0 := h0) (m := m) (A := uA A1 14 (cpI (A1 14) (A1 1) (2072 + 256 * j8) 256)) (Z := Z1) (d := d) (b := b) (Q := Q) (j1 := j1) (jh := jh) (R := mkS S (nI j1)) (O := mkS S (nI j8)) (l2 := some (.int (nI j8))) (by rw [uA_n (by decide)]; exact pr2) h14 hj1 hjh (fun l4 l5 l6 l7 l8 l9 => by
            refine gk_aload0 dX11_maskBy_301 (pc' := 302) rfl ?_
            refine gk_iload1 dX11_maskBy_302 (pc' := 303) rfl ?_
            refine gk_cV1_1 mv_Mo_ons gw_1058 dX11_maskBy_303 (pc' := 306) rfl (Nat.le_of_ble_eq_true rfl) mkJ (sp_Mo_ons (R := mjR (mkS S (nI j1)) (mkS S (nI j8)) jh) (by rw [uA_s]; exact mG_row) hj1 ?_)
            refine ⟨_, rfl, ?_⟩
            refine gk_iret dX11_maskBy_306 rfl ?_
            exact hE _ (kM S j1 (mjR (mkS S (nI j1)) (mkS S (nI j8)) jh)) _ _ ((if_pos (by omega)).trans (by rw [yj1, nI_nat (j := jh) (by omega)])) (hBg.actM hw.1 (by rw [a1 1 (by decide)]; exact hS.1) (fun i h1 h2 => by rw [uA_n (by omega)]; exact uA_n (by omega)) (fun i hi => rfl) hj1 (by rw [uA_s]; exact mG_row) (fun q hq => by rw [uA_s, mG_out (by omega) q hq]; rfl))) 256 0 none none none none none (by omega)
          rw [fdF_0, uA_i] at q2
          exact q2) 256 0 (by omega)
        rw [cpI_0, uA_i] at q1
        exact q1
      · refine ⟨_, rfl, ?_⟩
        refine gk_if_ne dX11_maskBy_23 (tgt := 29) (pc' := 26) (by decide) rfl (fun c => absurd c (by decide)) (fun _ => ?_)
        refine gk_ldc dX11_maskBy_26 (pc' := 28) rfl gw_891 ?_
        refine gk_iret dX11_maskBy_28 rfl (hB _ (if_neg (by omega)))
    · refine ⟨_, rfl, ?_⟩
      refine gk_if_eq dX11_maskBy_11 (tgt := 26) (pc' := 14) (by decide) rfl (fun _ => ?_) (fun c => absurd c (by decide))
      refine gk_ldc dX11_maskBy_26 (pc' := 28) rfl gw_891 ?_
      refine gk_iret dX11_maskBy_28 rfl (hB _ (if_neg (by omega)))
  · refine ⟨_, rfl, ?_⟩
    refine gk_if_eq dX11_maskBy_4 (tgt := 26) (pc' := 7) (by decide) rfl (fun _ => ?_) (fun c => absurd c (by decide))
    refine gk_ldc dX11_maskBy_26 (pc' := 28) rfl gw_891 ?_
    refine gk_iret dX11_maskBy_28 rfl (hB _ (if_neg (by omega)))
end MoJ
