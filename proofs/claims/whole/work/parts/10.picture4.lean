/-! ===== Picture: energy, turning ===== -/
theorem nI_sub1 {a b : Nat} (h : b + 1 ≤ a) : nI a - 1 - nI b = nI (a - 1 - b) := by
  have e : nI a - 1 = nI (a - 1) := pk_sub (a := a) (b := 1) (by omega)
  rw [e, pk_sub (by omega)]
/-- the energy at x, y -/
def abI (z : Int32) : Int32 := if z < 0 then -z else z
def eng (w t : Nat) (p : Nat → Int32) (x y : Int) : Int32 := abI (sn w t p (x - 1) y 0 - sn w t p (x + 1) y 0) + abI (sn w t p x (y - 1) 0 - sn w t p x (y + 1) 0)
/-- where the pixel x, y of a turned picture comes from -/
def trF (w t q : Nat) (m : Bool) (x y : Nat) : Nat := (if q = 0 then y else if q = 1 then t - 1 - x else if q = 2 then t - 1 - y else x) * w + (if m then w - 1 - (if q = 0 then x else if q = 1 then y else if q = 2 then w - 1 - x else w - 1 - y) else (if q = 0 then x else if q = 1 then y else if q = 2 then w - 1 - x else w - 1 - y))
def trW (w t q : Nat) : Nat := if q % 2 = 1 then t else w
def trn (w t : Nat) (p : Nat → Int32) (q : Nat) (m : Bool) : Nat → Int32 := fun i => p (trF w t q m (i % trW w t q) (i / trW w t q))
theorem upd_lt {g F : Nat → Int32} {n : Nat} {v : Int32} (h : ∀ i, i < n → g i = F i) (hv : v = F n) : ∀ i, i < n + 1 → upd g n v i = F i := fun i hi => by
  by_cases q : i = n
  · subst q; rw [pk_us]; exact hv
  · rw [pk_un q]; exact h i (by omega)
theorem dm {w x y : Nat} (hx : x < w) : (y * w + x) % w = x ∧ (y * w + x) / w = y := by
  constructor
  · rw [Nat.mul_comm, Nat.mul_add_mod]
    exact Nat.mod_eq_of_lt hx
  · rw [Nat.mul_comm, Nat.mul_add_div (by omega), Nat.div_eq_of_lt hx, Nat.add_zero]
section PicD
variable {X : gX} {d : Nat} {b : Nat × Nat} {h : gk_H} {Q : Option Value → gk_H → Prop} {a : Nat} {k : Int32} {w t : Nat} {p : Nat → Int32}
theorem sp_Picture_energyAt {x y : Int32} (hp : isPic X h a k w t p) (h1 : 1 ≤ w) (h2 : 1 ≤ t) (hx : -10000 ≤ x.toInt ∧ x.toInt ≤ 10000) (hy : -10000 ≤ y.toInt ∧ y.toInt ≤ 10000) (hQ : Q (some (.int (eng w t p x.toInt y.toInt))) h) : Gm (kx X) mt_Picture_energyAt (d + 3) b [.ref a, .int x, .int y] h Q := by
  have e1 := hp.o
  have z1 : (1 : Int32).toInt = 1 := rfl
  have xm : (x - 1).toInt = x.toInt - 1 := Jvm.Kit.i32_sub (by omega) (by omega)
  have xp : (x + 1).toInt = x.toInt + 1 := Jvm.Kit.i32_add (by omega) (by omega)
  have ym : (y - 1).toInt = y.toInt - 1 := Jvm.Kit.i32_sub (by omega) (by omega)
  have yp : (y + 1).toInt = y.toInt + 1 := Jvm.Kit.i32_add (by omega) (by omega)
  refine Gm.enter (L := [some (.ref a), some (.int x), some (.int y), none, none]) (by decide) (fun _ => trivial) (Nat.le_of_ble_eq_true rfl) rfl ?_
  refine gk_aload0 dX6_energyAt_0 (pc' := 1) rfl ?_
  refine gk_iload1 dX6_energyAt_1 (pc' := 2) rfl ?_
  refine gk_iconst (v := 1) dX6_energyAt_2 (pc' := 3) rfl (by decide) ?_
  refine gk_isub dX6_energyAt_3 (pc' := 4) rfl ?_
  refine gk_iload2 dX6_energyAt_4 (pc' := 5) rfl ?_
  refine gk_iconst (v := 0) dX6_energyAt_5 (pc' := 6) rfl (by decide) ?_
  refine gk_cV1_3 mv_Picture_seen gw_667 dX6_energyAt_6 (pc' := 9) rfl (Nat.le_of_ble_eq_true rfl) (by assumption) (sp_Picture_seen hp h1 h2 (by omega) (by omega) ?_)
  refine ⟨_, rfl, ?_⟩
  refine gk_aload0 dX6_energyAt_9 (pc' := 10) rfl ?_
  refine gk_iload1 dX6_energyAt_10 (pc' := 11) rfl ?_
  refine gk_iconst (v := 1) dX6_energyAt_11 (pc' := 12) rfl (by decide) ?_
  refine gk_iadd dX6_energyAt_12 (pc' := 13) rfl ?_
  refine gk_iload2 dX6_energyAt_13 (pc' := 14) rfl ?_
  refine gk_iconst (v := 0) dX6_energyAt_14 (pc' := 15) rfl (by decide) ?_
  refine gk_cV1_3 mv_Picture_seen gw_667 dX6_energyAt_15 (pc' := 18) rfl (Nat.le_of_ble_eq_true rfl) (by assumption) (sp_Picture_seen hp h1 h2 (by omega) (by omega) ?_)
  refine ⟨_, rfl, ?_⟩
  refine gk_isub dX6_energyAt_18 (pc' := 19) rfl ?_
  refine gk_istore3 dX6_energyAt_19 (pc' := 20) rfl (by decide) rfl ?_
  refine gk_aload0 dX6_energyAt_20 (pc' := 21) rfl ?_
  refine gk_iload1 dX6_energyAt_21 (pc' := 22) rfl ?_
  refine gk_iload2 dX6_energyAt_22 (pc' := 23) rfl ?_
  refine gk_iconst (v := 1) dX6_energyAt_23 (pc' := 24) rfl (by decide) ?_
  refine gk_isub dX6_energyAt_24 (pc' := 25) rfl ?_
  refine gk_iconst (v := 0) dX6_energyAt_25 (pc' := 26) rfl (by decide) ?_
  refine gk_cV1_3 mv_Picture_seen gw_667 dX6_energyAt_26 (pc' := 29) rfl (Nat.le_of_ble_eq_true rfl) (by assumption) (sp_Picture_seen hp h1 h2 (by omega) (by omega) ?_)
  refine ⟨_, rfl, ?_⟩
  refine gk_aload0 dX6_energyAt_29 (pc' := 30) rfl ?_
  refine gk_iload1 dX6_energyAt_30 (pc' := 31) rfl ?_
  refine gk_iload2 dX6_energyAt_31 (pc' := 32) rfl ?_
  refine gk_iconst (v := 1) dX6_energyAt_32 (pc' := 33) rfl (by decide) ?_
  refine gk_iadd dX6_energyAt_33 (pc' := 34) rfl ?_
  refine gk_iconst (v := 0) dX6_energyAt_34 (pc' := 35) rfl (by decide) ?_
  refine gk_cV1_3 mv_Picture_seen gw_667 dX6_energyAt_35 (pc' := 38) rfl (Nat.le_of_ble_eq_true rfl) (by assumption) (sp_Picture_seen hp h1 h2 (by omega) (by omega) ?_)
  refine ⟨_, rfl, ?_⟩
  refine gk_isub dX6_energyAt_38 (pc' := 39) rfl ?_
  refine gk_istore4 dX6_energyAt_39 (pc' := 41) rfl (by decide) rfl ?_
  refine gk_iload3 dX6_energyAt_41 (pc' := 42) rfl ?_
  refine gk_cS1_1 mz_Math_abs gw_668 dX6_energyAt_42 (pc' := 45) rfl (Nat.le_of_ble_eq_true rfl) (sp_Math_abs ?_)
  refine ⟨_, rfl, ?_⟩
  refine gk_iload4 dX6_energyAt_45 (pc' := 47) rfl ?_
  refine gk_cS1_1 mz_Math_abs gw_668 dX6_energyAt_47 (pc' := 50) rfl (Nat.le_of_ble_eq_true rfl) (sp_Math_abs ?_)
  refine ⟨_, rfl, ?_⟩
  refine gk_iadd dX6_energyAt_50 (pc' := 51) rfl ?_
  refine gk_iret dX6_energyAt_51 rfl (by unfold eng abI at hQ; rw [← xm, ← xp, ← ym, ← yp] at hQ; exact hQ)
theorem lp_Picture_turnX {a' : Nat} {k' : Int32} {w' t' : Nat} {p' : Nat → Int32} {q : Nat} {m : Bool} {h0 : gk_H} {y : Nat} {ly : Int32} (n1 : a ≠ a') (n2 : a ≠ a' + 1) (n3 : a' ≠ a + 1) (hp' : isPic X h0 a' k' w' t' p') (hq : q < 4) (hw : w = trW w' t' q) (ht : t = trW t' w' q) (hy : y < t)
    (hQ : ∀ h g, isPic X h a k w t g → (∀ i, i < (y + 1) * w → g i = trn w' t' p' q m i) → fr (fun c => c = a ∨ c = a + 1) h0 h → ∀ l6 l7 l8 l9 l10, G (kx X) mt_Picture_turnedFrom (d + 1) b 211 [some (.ref a), some (.ref a'), some (.int (nI q)), some (.int (if m then 1 else 0)), some (.int ly), some (.int (nI y)), l6, l7, l8, l9, l10] [] h Q) :
    ∀ f x h g l7 l8 l9 l10, x + f = w → isPic X h a k w t g → (∀ i, i < y * w + x → g i = trn w' t' p' q m i) → fr (fun c => c = a ∨ c = a + 1) h0 h → G (kx X) mt_Picture_turnedFrom (d + 1) b 68 [some (.ref a), some (.ref a'), some (.int (nI q)), some (.int (if m then 1 else 0)), some (.int ly), some (.int (nI y)), some (.int (nI x)), l7, l8, l9, l10] [] h Q := by
  intro f
  induction f with
  | zero =>
    intro x h g l7 l8 l9 l10 hx hp hg hf
    have e1 := hp.o
    have hwl := hp.1
    refine gk_iload6 dX6_turnedFrom_68 (pc' := 70) rfl ?_
    refine gk_aload0 dX6_turnedFrom_70 (pc' := 71) rfl ?_
    refine gk_getf (fs := [_, _, _, _]) gF_Picture_15 dX6_turnedFrom_71 (pc' := 74) rfl (by assumption) rfl ?_
    refine gk_icmp_ge dX6_turnedFrom_74 (tgt := 211) (pc' := 77) (by decide) rfl (fun c74 => ?_) (fun c74 => absurd (nI_le (by omega) (by omega)) c74)
    exact hQ h g hp (fun i hi => hg i (by rw [Nat.add_mul, Nat.one_mul] at hi; omega)) hf _ _ _ _ _
  | succ f ih =>
    intro x h g l7 l8 l9 l10 hx hp hg hf
    have e1 := hp.o
    have hwl := hp.1
    have htl := hp.2.1
    have hp2 := hp'.fr hf (by omega) (by omega)
    have e2 := hp2.o
    have hwl' := hp'.1
    have htl' := hp'.2.1
    have hxw : x < w := by omega
    have o1 := place_lt (t := t) hxw hy
    have ha := hp.area
    have key2 : ∀ fx fy l7 l8, fx = (if q = 0 then x else if q = 1 then y else if q = 2 then w - 1 - x else t - 1 - y) → fy = (if q = 0 then y else if q = 1 then w - 1 - x else if q = 2 then t - 1 - y else x) → G (kx X) mt_Picture_turnedFrom (d + 1) b 165 [some (.ref a), some (.ref a'), some (.int (nI q)), some (.int (if m then 1 else 0)), some (.int ly), some (.int (nI y)), some (.int (nI x)), l7, l8, some (.int (nI fx)), some (.int (nI fy))] [] h Q := by
      intro fx fy l7 l8 e3 e4
      have hb : fx < w' ∧ fy < t' ∧ trF w' t' q m x y = fy * w' + (if m then w' - 1 - fx else fx) := by
        unfold trF
        unfold trW at hw ht
        rcases (show q = 0 ∨ q = 1 ∨ q = 2 ∨ q = 3 by omega) with rfl | rfl | rfl | rfl
        · simp at *; subst e3; subst e4; subst hw; subst ht; exact ⟨hxw, hy, rfl⟩
        · simp at *; subst e3; subst e4; subst hw; subst ht; exact ⟨hy, by omega, rfl⟩
        · simp at *; subst e3; subst e4; subst hw; subst ht; exact ⟨by omega, by omega, rfl⟩
        · simp at *; subst e3; subst e4; subst hw; subst ht; exact ⟨by omega, hxw, rfl⟩
      obtain ⟨b1, b2, b3⟩ := hb
      have key : ∀ sx, sx = (if m then w' - 1 - fx else fx) → G (kx X) mt_Picture_turnedFrom (d + 1) b 194 [some (.ref a), some (.ref a'), some (.int (nI q)), some (.int (if m then 1 else 0)), some (.int ly), some (.int (nI y)), some (.int (nI x)), l7, l8, some (.int (nI fx)), some (.int (nI fy))] [.int (nI sx), .ref a', .ref a', .int (nI (y * w + x)), .ref a] h Q := by
        intro sx e5
        have b4 : sx < w' := by rw [e5]; split <;> omega
        have o2 := place_lt (t := t') b4 b2
        refine gk_iload10 dX6_turnedFrom_194 (pc' := 196) rfl ?_
        refine gk_cV1_2 mv_Picture_place gw_342 dX6_turnedFrom_196 (pc' := 199) rfl (Nat.le_of_ble_eq_true rfl) (by exact (e2)) (sp_Picture_placeN hp2 ?_)
        refine ⟨_, rfl, ?_⟩
        refine gk_cV1_1 mv_Picture_pixel gw_343 dX6_turnedFrom_199 (pc' := 202) rfl (Nat.le_of_ble_eq_true rfl) (by exact (e2)) (sp_Picture_pixel hp2 o2 ?_)
        refine ⟨_, rfl, ?_⟩
        refine gk_cV0_2 mv_Picture_set gw_402 dX6_turnedFrom_202 (pc' := 205) rfl (Nat.le_of_ble_eq_true rfl) (by exact (e1)) (sp_Picture_set hp (by omega) (fun h' q1 q2 => ?_))
        refine ⟨rfl, ?_⟩
        refine gk_iinc6 (v := 1) dX6_turnedFrom_205 (pc' := 208) rfl (by decide) (by decide) rfl ?_
        refine gk_goto dX6_turnedFrom_208 (tgt := 68) (by decide) ?_
        rw [← nI_succ]
        refine ih (x + 1) h' _ _ _ _ _ (by omega) q1 ?_ (hf.trans q2 (fun _ q => q) (fun _ q => Or.inr q))
        rw [← Nat.add_assoc]
        refine upd_lt hg ?_
        unfold trn
        rw [← hw, (dm hxw).1, (dm hxw).2, b3, e5]
      refine gk_aload0 dX6_turnedFrom_165 (pc' := 166) rfl ?_
      refine gk_aload0 dX6_turnedFrom_166 (pc' := 167) rfl ?_
      refine gk_iload6 dX6_turnedFrom_167 (pc' := 169) rfl ?_
      refine gk_iload5 dX6_turnedFrom_169 (pc' := 171) rfl ?_
      refine gk_cV1_2 mv_Picture_place gw_342 dX6_turnedFrom_171 (pc' := 174) rfl (Nat.le_of_ble_eq_true rfl) (by exact (e1)) (sp_Picture_placeN hp ?_)
      refine ⟨_, rfl, ?_⟩
      refine gk_aload1 dX6_turnedFrom_174 (pc' := 175) rfl ?_
      refine gk_aload1 dX6_turnedFrom_175 (pc' := 176) rfl ?_
      refine gk_iload3 dX6_turnedFrom_176 (pc' := 177) rfl ?_
      refine gk_if_eq dX6_turnedFrom_177 (tgt := 192) (pc' := 180) (by decide) rfl (fun c177 => ?_) (fun c177 => ?_)
      · refine gk_iload9 dX6_turnedFrom_192 (pc' := 194) rfl ?_
        exact key _ (by cases m <;> simp at c177 ⊢)
      · refine gk_aload1 dX6_turnedFrom_180 (pc' := 181) rfl ?_
        refine gk_getf (fs := [_, _, _, _]) gF_Picture_15 dX6_turnedFrom_181 (pc' := 184) rfl (by exact (e2)) rfl ?_
        refine gk_iconst (v := 1) dX6_turnedFrom_184 (pc' := 185) rfl (by decide) ?_
        refine gk_isub dX6_turnedFrom_185 (pc' := 186) rfl ?_
        refine gk_iload9 dX6_turnedFrom_186 (pc' := 188) rfl ?_
        refine gk_isub dX6_turnedFrom_188 (pc' := 189) rfl ?_
        rw [nI_sub1 (by omega)]
        refine gk_goto dX6_turnedFrom_189 (tgt := 194) (by decide) ?_
        exact key _ (by cases m <;> simp at c177 ⊢)
    have key1 : ∀ fx, fx = (if q = 0 then x else if q = 1 then y else if q = 2 then w - 1 - x else t - 1 - y) → G (kx X) mt_Picture_turnedFrom (d + 1) b 132 [some (.ref a), some (.ref a'), some (.int (nI q)), some (.int (if m then 1 else 0)), some (.int ly), some (.int (nI y)), some (.int (nI x)), some (.int (nI (w - 1 - x))), some (.int (nI (t - 1 - y))), some (.int (nI fx)), l10] [] h Q := by
      intro fx e3
      refine gk_iload2 dX6_turnedFrom_132 (pc' := 133) rfl ?_
      refine gk_if_ne dX6_turnedFrom_133 (tgt := 141) (pc' := 136) (by decide) rfl (fun c133 => ?_) (fun c133 => ?_)
      · have q0 : ¬ q = 0 := fun e => c133 (by rw [e]; rfl)
        refine gk_iload2 dX6_turnedFrom_141 (pc' := 142) rfl ?_
        refine gk_iconst (v := 1) dX6_turnedFrom_142 (pc' := 143) rfl (by decide) ?_
        refine gk_icmp_ne dX6_turnedFrom_143 (tgt := 151) (pc' := 146) (by decide) rfl (fun c143 => ?_) (fun c143 => ?_)
        · have q1 : ¬ q = 1 := fun e => c143 (by rw [e]; rfl)
          refine gk_iload2 dX6_turnedFrom_151 (pc' := 152) rfl ?_
          refine gk_iconst (v := 2) dX6_turnedFrom_152 (pc' := 153) rfl (by decide) ?_
          refine gk_icmp_ne dX6_turnedFrom_153 (tgt := 161) (pc' := 156) (by decide) rfl (fun c153 => ?_) (fun c153 => ?_)
          · have q2 : ¬ q = 2 := fun e => c153 (by rw [e]; rfl)
            refine gk_iload6 dX6_turnedFrom_161 (pc' := 163) rfl ?_
            refine gk_istore10 dX6_turnedFrom_163 (pc' := 165) rfl (by decide) rfl ?_
            exact key2 fx _ _ _ e3 (by first | (rw [if_pos q0]; done) | (rw [if_neg q0, if_pos q1]; done) | (rw [if_neg q0, if_neg q1, if_pos q2]; done) | (rw [if_neg q0, if_neg q1, if_neg q2]; done))
          · have q2 := (nI_eq (b := 2) (by omega) (by omega)).mp c153
            refine gk_iload8 dX6_turnedFrom_156 (pc' := 158) rfl ?_
            refine gk_goto dX6_turnedFrom_158 (tgt := 163) (by decide) ?_
            refine gk_istore10 dX6_turnedFrom_163 (pc' := 165) rfl (by decide) rfl ?_
            exact key2 fx _ _ _ e3 (by first | (rw [if_pos q0]; done) | (rw [if_neg q0, if_pos q1]; done) | (rw [if_neg q0, if_neg q1, if_pos q2]; done) | (rw [if_neg q0, if_neg q1, if_neg q2]; done))
        · have q1 := (nI_eq (b := 1) (by omega) (by omega)).mp c143
          refine gk_iload7 dX6_turnedFrom_146 (pc' := 148) rfl ?_
          refine gk_goto dX6_turnedFrom_148 (tgt := 163) (by decide) ?_
          refine gk_istore10 dX6_turnedFrom_163 (pc' := 165) rfl (by decide) rfl ?_
          exact key2 fx _ _ _ e3 (by first | (rw [if_pos q0]; done) | (rw [if_neg q0, if_pos q1]; done) | (rw [if_neg q0, if_neg q1, if_pos q2]; done) | (rw [if_neg q0, if_neg q1, if_neg q2]; done))
      · have q0 := (nI_eq (b := 0) (by omega) (by omega)).mp c133
        refine gk_iload5 dX6_turnedFrom_136 (pc' := 138) rfl ?_
        refine gk_goto dX6_turnedFrom_138 (tgt := 163) (by decide) ?_
        refine gk_istore10 dX6_turnedFrom_163 (pc' := 165) rfl (by decide) rfl ?_
        exact key2 fx _ _ _ e3 (by first | (rw [if_pos q0]; done) | (rw [if_neg q0, if_pos q1]; done) | (rw [if_neg q0, if_neg q1, if_pos q2]; done) | (rw [if_neg q0, if_neg q1, if_neg q2]; done))
    refine gk_iload6 dX6_turnedFrom_68 (pc' := 70) rfl ?_
    refine gk_aload0 dX6_turnedFrom_70 (pc' := 71) rfl ?_
    refine gk_getf (fs := [_, _, _, _]) gF_Picture_15 dX6_turnedFrom_71 (pc' := 74) rfl (by assumption) rfl ?_
    refine gk_icmp_ge dX6_turnedFrom_74 (tgt := 211) (pc' := 77) (by decide) rfl (fun c74 => absurd c74 (nI_ge (by omega) (by omega))) (fun c74 => ?_)
    refine gk_aload0 dX6_turnedFrom_77 (pc' := 78) rfl ?_
    refine gk_getf (fs := [_, _, _, _]) gF_Picture_15 dX6_turnedFrom_78 (pc' := 81) rfl (by assumption) rfl ?_
    refine gk_iconst (v := 1) dX6_turnedFrom_81 (pc' := 82) rfl (by decide) ?_
    refine gk_isub dX6_turnedFrom_82 (pc' := 83) rfl ?_
    refine gk_iload6 dX6_turnedFrom_83 (pc' := 85) rfl ?_
    refine gk_isub dX6_turnedFrom_85 (pc' := 86) rfl ?_
    rw [nI_sub1 (by omega)]
    refine gk_istore7 dX6_turnedFrom_86 (pc' := 88) rfl (by decide) rfl ?_
    refine gk_aload0 dX6_turnedFrom_88 (pc' := 89) rfl ?_
    refine gk_getf (fs := [_, _, _, _]) gF_Picture_18 dX6_turnedFrom_89 (pc' := 92) rfl (by assumption) rfl ?_
    refine gk_iconst (v := 1) dX6_turnedFrom_92 (pc' := 93) rfl (by decide) ?_
    refine gk_isub dX6_turnedFrom_93 (pc' := 94) rfl ?_
    refine gk_iload5 dX6_turnedFrom_94 (pc' := 96) rfl ?_
    refine gk_isub dX6_turnedFrom_96 (pc' := 97) rfl ?_
    rw [nI_sub1 (by omega)]
    refine gk_istore8 dX6_turnedFrom_97 (pc' := 99) rfl (by decide) rfl ?_
    refine gk_iload2 dX6_turnedFrom_99 (pc' := 100) rfl ?_
    refine gk_if_ne dX6_turnedFrom_100 (tgt := 108) (pc' := 103) (by decide) rfl (fun c100 => ?_) (fun c100 => ?_)
    · have q0 : ¬ q = 0 := fun e => c100 (by rw [e]; rfl)
      refine gk_iload2 dX6_turnedFrom_108 (pc' := 109) rfl ?_
      refine gk_iconst (v := 1) dX6_turnedFrom_109 (pc' := 110) rfl (by decide) ?_
      refine gk_icmp_ne dX6_turnedFrom_110 (tgt := 118) (pc' := 113) (by decide) rfl (fun c110 => ?_) (fun c110 => ?_)
      · have q1 : ¬ q = 1 := fun e => c110 (by rw [e]; rfl)
        refine gk_iload2 dX6_turnedFrom_118 (pc' := 119) rfl ?_
        refine gk_iconst (v := 2) dX6_turnedFrom_119 (pc' := 120) rfl (by decide) ?_
        refine gk_icmp_ne dX6_turnedFrom_120 (tgt := 128) (pc' := 123) (by decide) rfl (fun c120 => ?_) (fun c120 => ?_)
        · have q2 : ¬ q = 2 := fun e => c120 (by rw [e]; rfl)
          refine gk_iload8 dX6_turnedFrom_128 (pc' := 130) rfl ?_
          refine gk_istore9 dX6_turnedFrom_130 (pc' := 132) rfl (by decide) rfl ?_
          exact key1 _ (by first | (rw [if_pos q0]; done) | (rw [if_neg q0, if_pos q1]; done) | (rw [if_neg q0, if_neg q1, if_pos q2]; done) | (rw [if_neg q0, if_neg q1, if_neg q2]; done))
        · have q2 := (nI_eq (b := 2) (by omega) (by omega)).mp c120
          refine gk_iload7 dX6_turnedFrom_123 (pc' := 125) rfl ?_
          refine gk_goto dX6_turnedFrom_125 (tgt := 130) (by decide) ?_
          refine gk_istore9 dX6_turnedFrom_130 (pc' := 132) rfl (by decide) rfl ?_
          exact key1 _ (by first | (rw [if_pos q0]; done) | (rw [if_neg q0, if_pos q1]; done) | (rw [if_neg q0, if_neg q1, if_pos q2]; done) | (rw [if_neg q0, if_neg q1, if_neg q2]; done))
      · have q1 := (nI_eq (b := 1) (by omega) (by omega)).mp c110
        refine gk_iload5 dX6_turnedFrom_113 (pc' := 115) rfl ?_
        refine gk_goto dX6_turnedFrom_115 (tgt := 130) (by decide) ?_
        refine gk_istore9 dX6_turnedFrom_130 (pc' := 132) rfl (by decide) rfl ?_
        exact key1 _ (by first | (rw [if_pos q0]; done) | (rw [if_neg q0, if_pos q1]; done) | (rw [if_neg q0, if_neg q1, if_pos q2]; done) | (rw [if_neg q0, if_neg q1, if_neg q2]; done))
    · have q0 := (nI_eq (b := 0) (by omega) (by omega)).mp c100
      refine gk_iload6 dX6_turnedFrom_103 (pc' := 105) rfl ?_
      refine gk_goto dX6_turnedFrom_105 (tgt := 130) (by decide) ?_
      refine gk_istore9 dX6_turnedFrom_130 (pc' := 132) rfl (by decide) rfl ?_
      exact key1 _ (by first | (rw [if_pos q0]; done) | (rw [if_neg q0, if_pos q1]; done) | (rw [if_neg q0, if_neg q1, if_pos q2]; done) | (rw [if_neg q0, if_neg q1, if_neg q2]; done))
theorem lp_Picture_turnY {a' : Nat} {k' : Int32} {w' t' : Nat} {p' : Nat → Int32} {q : Nat} {m : Bool} {h0 : gk_H} {ly : Int32} (n1 : a ≠ a') (n2 : a ≠ a' + 1) (n3 : a' ≠ a + 1) (hp' : isPic X h0 a' k' w' t' p') (hq : q < 4) (hw : w = trW w' t' q) (ht : t = trW t' w' q)
    (hQ : ∀ h, isPic X h a k w t (trn w' t' p' q m) → fr (fun c => c = a ∨ c = a + 1) h0 h → Q none h) :
    ∀ f y h g l6 l7 l8 l9 l10, y + f = t → isPic X h a k w t g → (∀ i, i < y * w → g i = trn w' t' p' q m i) → fr (fun c => c = a ∨ c = a + 1) h0 h → G (kx X) mt_Picture_turnedFrom (d + 1) b 56 [some (.ref a), some (.ref a'), some (.int (nI q)), some (.int (if m then 1 else 0)), some (.int ly), some (.int (nI y)), l6, l7, l8, l9, l10] [] h Q := by
  intro f
  induction f with
  | zero =>
    intro y h g l6 l7 l8 l9 l10 hy hp hg hf
    have e1 := hp.o
    have htl := hp.2.1
    refine gk_iload5 dX6_turnedFrom_56 (pc' := 58) rfl ?_
    refine gk_aload0 dX6_turnedFrom_58 (pc' := 59) rfl ?_
    refine gk_getf (fs := [_, _, _, _]) gF_Picture_18 dX6_turnedFrom_59 (pc' := 62) rfl (by assumption) rfl ?_
    refine gk_icmp_ge dX6_turnedFrom_62 (tgt := 217) (pc' := 65) (by decide) rfl (fun c62 => ?_) (fun c62 => absurd (nI_le (by omega) (by omega)) c62)
    refine gk_vret dX6_turnedFrom_217 rfl (hQ h (hp.congr (fun i hi => hg i (by rw [Nat.mul_comm, show t = y by omega] at hi; exact hi))) hf)
  | succ f ih =>
    intro y h g l6 l7 l8 l9 l10 hy hp hg hf
    have e1 := hp.o
    have htl := hp.2.1
    refine gk_iload5 dX6_turnedFrom_56 (pc' := 58) rfl ?_
    refine gk_aload0 dX6_turnedFrom_58 (pc' := 59) rfl ?_
    refine gk_getf (fs := [_, _, _, _]) gF_Picture_18 dX6_turnedFrom_59 (pc' := 62) rfl (by assumption) rfl ?_
    refine gk_icmp_ge dX6_turnedFrom_62 (tgt := 217) (pc' := 65) (by decide) rfl (fun c62 => absurd c62 (nI_ge (by omega) (by omega))) (fun c62 => ?_)
    refine gk_iconst (v := 0) dX6_turnedFrom_65 (pc' := 66) rfl (by decide) ?_
    refine gk_istore6 dX6_turnedFrom_66 (pc' := 68) rfl (by decide) rfl ?_
    refine lp_Picture_turnX n1 n2 n3 hp' hq hw ht (by omega) (fun h2 g2 hp2 hg2 hf2 l6 l7 l8 l9 l10 => ?_) w 0 h g _ _ _ _ (by omega) hp (fun i hi => hg i (by omega)) hf
    refine gk_iinc5 (v := 1) dX6_turnedFrom_211 (pc' := 214) rfl (by decide) (by decide) rfl ?_
    refine gk_goto dX6_turnedFrom_214 (tgt := 56) (by decide) ?_
    rw [← nI_succ]
    exact ih (y + 1) h2 g2 _ _ _ _ _ (by omega) hp2 hg2 hf2
theorem sp_Picture_turnedFrom {a' : Nat} {k' : Int32} {w' t' : Nat} {p' : Nat → Int32} {q : Nat} {m : Bool} (hp : isPic X h a k w t p) (hp' : isPic X h a' k' w' t' p') (n1 : a ≠ a') (n2 : a ≠ a' + 1) (n3 : a' ≠ a + 1) (hq : q < 4)
    (hQ : ∀ h', isPic X h' a k' (trW w' t' q) (trW t' w' q) (trn w' t' p' q m) → fr (fun c => c = a ∨ c = a + 1) h h' → Q none h') : Gm (kx X) mt_Picture_turnedFrom (d + 1) b [.ref a, .ref a', .int (nI q), .int (if m then 1 else 0)] h Q := by
  have e1 := hp.o
  have e2 := hp'.o
  have hw' := hp'.1
  have ht' := hp'.2.1
  have z : nI q - nI q / 2 * 2 = nI (q % 2) := pk_rem (d := 2) (by omega) (by omega) (by omega)
  have go : ∀ ly, G (kx X) mt_Picture_turnedFrom (d + 1) b 50 [some (.ref a), some (.ref a'), some (.int (nI q)), some (.int (if m then 1 else 0)), some (.int ly), none, none, none, none, none, none] [.int (nI (trW t' w' q)), .int (nI (trW w' t' q)), .int k', .ref a] h Q := by
    intro ly
    refine gk_cV0_3 mv_Picture_shape gw_310 dX6_turnedFrom_50 (pc' := 53) rfl (Nat.le_of_ble_eq_true rfl) (by exact (e1)) (sp_Picture_shape hp (by unfold trW; split <;> omega) (by unfold trW; split <;> omega) (fun h1 g q1 q2 => ?_))
    refine ⟨rfl, ?_⟩
    refine gk_iconst (v := 0) dX6_turnedFrom_53 (pc' := 54) rfl (by decide) ?_
    refine gk_istore5 dX6_turnedFrom_54 (pc' := 56) rfl (by decide) rfl ?_
    exact lp_Picture_turnY n1 n2 n3 (hp'.fr q2 (Ne.symm n1) (Ne.symm n2)) hq rfl rfl (fun h2 g1 g2 => hQ h2 g1 (q2.trans g2 (fun _ z => Or.inl z) (fun _ z => z))) (trW t' w' q) 0 h1 g _ _ _ _ _ (by omega) q1 (fun i hi => absurd hi (by omega)) fr.rf
  refine Gm.enter (L := [some (.ref a), some (.ref a'), some (.int (nI q)), some (.int (if m then 1 else 0)), none, none, none, none, none, none, none]) (by decide) (fun _ => trivial) (Nat.le_of_ble_eq_true rfl) rfl ?_
  refine gk_iload2 dX6_turnedFrom_0 (pc' := 1) rfl ?_
  refine gk_iconst (v := 2) dX6_turnedFrom_1 (pc' := 2) rfl (by decide) ?_
  refine gk_irem dX6_turnedFrom_2 (pc' := 3) rfl (by decide) ?_
  rw [z]
  refine gk_if_eq dX6_turnedFrom_3 (tgt := 10) (pc' := 6) (by decide) rfl (fun c3 => ?_) (fun c3 => ?_)
  · have q0 : ¬ q % 2 = 1 := fun e => by rw [e] at c3; exact absurd c3 (by decide)
    have eW : nI (trW w' t' q) = nI w' := by unfold trW; rw [if_neg q0]
    have eT : nI (trW t' w' q) = nI t' := by unfold trW; rw [if_neg q0]
    refine gk_iconst (v := 0) dX6_turnedFrom_10 (pc' := 11) rfl (by decide) ?_
    refine gk_istore4 dX6_turnedFrom_11 (pc' := 13) rfl (by decide) rfl ?_
    refine gk_aload0 dX6_turnedFrom_13 (pc' := 14) rfl ?_
    refine gk_aload1 dX6_turnedFrom_14 (pc' := 15) rfl ?_
    refine gk_getf (fs := [_, _, _, _]) gF_Picture_9 dX6_turnedFrom_15 (pc' := 18) rfl (by exact (e2)) rfl ?_
    refine gk_iload4 dX6_turnedFrom_18 (pc' := 20) rfl ?_
    refine gk_if_eq dX6_turnedFrom_20 (tgt := 30) (pc' := 23) (by decide) rfl (fun _ => ?_) (fun c => absurd c (by decide))
    refine gk_aload1 dX6_turnedFrom_30 (pc' := 31) rfl ?_
    refine gk_getf (fs := [_, _, _, _]) gF_Picture_15 dX6_turnedFrom_31 (pc' := 34) rfl (by exact (e2)) rfl ?_
    refine gk_iload4 dX6_turnedFrom_34 (pc' := 36) rfl ?_
    refine gk_if_eq dX6_turnedFrom_36 (tgt := 46) (pc' := 39) (by decide) rfl (fun _ => ?_) (fun c => absurd c (by decide))
    refine gk_aload1 dX6_turnedFrom_46 (pc' := 47) rfl ?_
    refine gk_getf (fs := [_, _, _, _]) gF_Picture_18 dX6_turnedFrom_47 (pc' := 50) rfl (by exact (e2)) rfl ?_
    rw [← eW, ← eT]
    exact go _
  · have q0 : q % 2 = 1 := by rcases (show q % 2 = 0 ∨ q % 2 = 1 by omega) with e | e; rw [e] at c3; exact absurd rfl c3; exact e
    have eW : nI (trW w' t' q) = nI t' := by unfold trW; rw [if_pos q0]
    have eT : nI (trW t' w' q) = nI w' := by unfold trW; rw [if_pos q0]
    refine gk_iconst (v := 1) dX6_turnedFrom_6 (pc' := 7) rfl (by decide) ?_
    refine gk_goto dX6_turnedFrom_7 (tgt := 11) (by decide) ?_
    refine gk_istore4 dX6_turnedFrom_11 (pc' := 13) rfl (by decide) rfl ?_
    refine gk_aload0 dX6_turnedFrom_13 (pc' := 14) rfl ?_
    refine gk_aload1 dX6_turnedFrom_14 (pc' := 15) rfl ?_
    refine gk_getf (fs := [_, _, _, _]) gF_Picture_9 dX6_turnedFrom_15 (pc' := 18) rfl (by exact (e2)) rfl ?_
    refine gk_iload4 dX6_turnedFrom_18 (pc' := 20) rfl ?_
    refine gk_if_eq dX6_turnedFrom_20 (tgt := 30) (pc' := 23) (by decide) rfl (fun c => absurd c (by decide)) (fun _ => ?_)
    refine gk_aload1 dX6_turnedFrom_23 (pc' := 24) rfl ?_
    refine gk_getf (fs := [_, _, _, _]) gF_Picture_18 dX6_turnedFrom_24 (pc' := 27) rfl (by exact (e2)) rfl ?_
    refine gk_goto dX6_turnedFrom_27 (tgt := 34) (by decide) ?_
    refine gk_iload4 dX6_turnedFrom_34 (pc' := 36) rfl ?_
    refine gk_if_eq dX6_turnedFrom_36 (tgt := 46) (pc' := 39) (by decide) rfl (fun c => absurd c (by decide)) (fun _ => ?_)
    refine gk_aload1 dX6_turnedFrom_39 (pc' := 40) rfl ?_
    refine gk_getf (fs := [_, _, _, _]) gF_Picture_15 dX6_turnedFrom_40 (pc' := 43) rfl (by exact (e2)) rfl ?_
    refine gk_goto dX6_turnedFrom_43 (tgt := 50) (by decide) ?_
    rw [← eW, ← eT]
    exact go _
end PicD
