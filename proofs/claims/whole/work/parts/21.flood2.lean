/-! ===== Flood: pour ===== -/
def fInv (w t : Nat) (p : Nat → Int32) (s : Nat) (tol : Int) (pl : Nat → Int32) (wt : Nat → Bool) (n : Nat) (q : Nat → Nat) : Prop := n = cntB wt 256 ∧ (∀ m, m < n → pl m = nI (q m) ∧ q m < w * t ∧ wt (q m) = true) ∧ ∀ j, wt j = true → j < w * t ∧ Rch w t p s tol j ∧ ∃ m, m < n ∧ q m = j
theorem fInv.rst {w t : Nat} {p : Nat → Int32} {s : Nat} {tol x y : Int} {pl pl' : Nat → Int32} {wt wt' : Nat → Bool} {n n' : Nat} {q : Nat → Nat} (har : w * t ≤ 256) (h : fInv w t p s tol pl wt n q) (hr : rst w t p s tol x y (pl, wt, n) (pl', wt', n')) (hR : (0 ≤ x ∧ x < w ∧ 0 ≤ y ∧ y < t) → okF p s tol (y.toNat * w + x.toNat) → Rch w t p s tol (y.toNat * w + x.toNat)) :
    ∃ q', fInv w t p s tol pl' wt' n' q' ∧ (∀ m, m < n → q' m = q m) ∧ n ≤ n' ∧ (∀ j, wt j = true → wt' j = true) ∧ ((0 ≤ x ∧ x < w ∧ 0 ≤ y ∧ y < t) → okF p s tol (y.toNat * w + x.toNat) → wt' (y.toNat * w + x.toNat) = true) := by
  rcases hr with ⟨j, r1, rfl, r3, r4, r5⟩ | ⟨r1, r2⟩
  · simp only [Prod.mk.injEq] at r5
    obtain ⟨rfl, rfl, rfl⟩ := r5
    have hj : y.toNat * w + x.toNat < w * t := place_lt (by omega) (by omega)
    obtain ⟨q2, hq1, hq2⟩ : ∃ q2 : Nat → Nat, q2 n = y.toNat * w + x.toNat ∧ ∀ m, m ≠ n → q2 m = q m := ⟨fun m => if m = n then y.toNat * w + x.toNat else q m, by simp, fun m hm => by simp [hm]⟩
    refine ⟨q2, ⟨?_, fun m hm => ?_, fun j hw => ?_⟩, fun m hm => hq2 m (by omega), by omega, fun j hw => ?_, fun _ _ => by simp⟩
    · show n + 1 = _
      rw [cntB_add (f := wt) (j := y.toNat * w + x.toNat) r3 (by simp) (fun i hi => by simp [hi]) 256 (by omega), ← h.1]
    · by_cases z : m = n
      · rw [z, pk_us, hq1]
        exact ⟨rfl, hj, by simp⟩
      · obtain ⟨g1, g2, g3⟩ := h.2.1 m (by have : m < n + 1 := hm; omega)
        rw [pk_un z, hq2 m z]
        exact ⟨g1, g2, by simp [g3]⟩
    · by_cases z : j = y.toNat * w + x.toNat
      · rw [z]
        exact ⟨hj, hR r1 r4, n, by show n < n + 1; omega, hq1⟩
      · have hw' : wt j = true := by simpa [z] using hw
        obtain ⟨g1, g2, m, g3, g4⟩ := h.2.2 j hw'
        exact ⟨g1, g2, m, by show m < n + 1; omega, by rw [hq2 m (by omega)]; exact g4⟩
    · show (if j = y.toNat * w + x.toNat then true else wt j) = true
      split
      · rfl
      · exact hw
  · simp only [Prod.mk.injEq] at r1
    obtain ⟨rfl, rfl, rfl⟩ := r1
    exact ⟨q, h, fun _ _ => rfl, Nat.le_refl _, fun _ z => z, r2⟩
section FdB
variable {X : gX} {d : Nat} {b : Nat × Nat} {h : gk_H} {Q : Option Value → gk_H → Prop} {a o : Nat} {k : Int32} {w t : Nat} {p pl : Nat → Int32} {wt : Nat → Bool} {n : Nat}
theorem isFd.pic {h' : gk_H} (hp : isPic X h o k w t p) (hf : fr (fun c => c = a ∨ c = a + 1 ∨ c = a + 2) h h') (n1 : o ≠ a ∧ o ≠ a + 1 ∧ o ≠ a + 2) (n2 : o + 1 ≠ a) : isPic X h' o k w t p := hp.fr hf (by omega) (by omega)
theorem lp_Flood_pour {h0 : gk_H} {s : Nat} {x y tol : Int32} (n1 : o ≠ a ∧ o ≠ a + 1 ∧ o ≠ a + 2) (n2 : o + 1 ≠ a) (hp0 : isPic X h0 o k w t p) (h1 : 1 ≤ w) (hr : ∀ i, i < w * t → -32768 ≤ (p i).toInt ∧ (p i).toInt ≤ 32767) (hst : s < w * t)
    (hQ : ∀ (h' : gk_H) (pl' : Nat → Int32) (wt' : Nat → Bool) (n' : Nat) (q : Nat → Nat), isFd X h' a pl' wt' n' → n' = cntB (rB w t p s tol.toInt) (w * t) → (∀ m, m < n' → pl' m = nI (q m) ∧ q m < w * t) → (∀ j, j < w * t → (rB w t p s tol.toInt j = true ↔ ∃ m, m < n' ∧ q m = j)) → fr (fun c => c = a ∨ c = a + 1 ∨ c = a + 2) h0 h' → Q (some (.int (nI n'))) h') :
    ∀ f i h pl wt n q l7 l8, i + f = 257 → i ≤ n → isFd X h a pl wt n → fInv w t p s tol.toInt pl wt n q → wt s = true → (∀ m, m < i → ∀ j, adjF w t (q m) j → okF p s tol.toInt j → wt j = true) → fr (fun c => c = a ∨ c = a + 1 ∨ c = a + 2) h0 h → G (kx X) mt_Flood_pour (d + 2) b 56 [some (.ref a), some (.ref o), some (.int x), some (.int y), some (.int tol), some (.int (p s)), some (.int (nI i)), l7, l8] [] h Q := by
  intro f
  induction f with
  | zero =>
    intro i h pl wt n q l7 l8 hi hin hs hv hws hcl hf
    have := cntB_le wt 256
    have := hv.1
    omega
  | succ f ih =>
    intro i h pl wt n q l7 l8 hi hin hs hv hws hcl hf
    have hp := isFd.pic hp0 hf n1 n2
    have g1 := hp.o
    have har := hp.area
    have hw := hp.1
    have hh := hp.2.1
    have e1 := hs.1
    have e2 := hs.2.1
    have hn6 : n ≤ 256 := by rw [hv.1]; exact cntB_le _ _
    refine gk_iload6 dX3_pour_56 (pc' := 58) rfl ?_
    refine gk_aload0 dX3_pour_58 (pc' := 59) rfl ?_
    refine gk_getf (fs := [_, _, _]) gF_Flood_19 dX3_pour_59 (pc' := 62) rfl (by exact (e1)) rfl ?_
    refine gk_icmp_ge dX3_pour_62 (tgt := 174) (pc' := 65) (by decide) rfl (fun c62 => ?_) (fun c62 => ?_)
    · have q1 : i = n := by have := (nI_leI (by omega) (by omega)).mp c62; omega
      refine gk_aload0 dX3_pour_174 (pc' := 175) rfl ?_
      refine gk_getf (fs := [_, _, _]) gF_Flood_19 dX3_pour_175 (pc' := 178) rfl (by exact (e1)) rfl ?_
      refine gk_iret dX3_pour_178 rfl (by
        have cl : ∀ j, Rch w t p s tol.toInt j → wt j = true := fun j hj => hj (fun z => wt z = true) hws (fun i' j' z1 z2 z3 => by
          obtain ⟨-, -, m, g1, g2⟩ := hv.2.2 i' z1
          exact hcl m (by omega) j' (by rw [g2]; exact z2) z3)
        have eqB : ∀ j, rB w t p s tol.toInt j = wt j := fun j => by
          cases hz : wt j
          · cases hz2 : rB w t p s tol.toInt j
            · rfl
            · rw [cl j (rB_iff.mp hz2)] at hz; cases hz
          · exact rB_iff.mpr (hv.2.2 j hz).2.1
        refine hQ h pl wt n q hs ?_ (fun m hm => ⟨(hv.2.1 m hm).1, (hv.2.1 m hm).2.1⟩) (fun j hj => ?_) hf
        · rw [cntB_congr (w * t) (fun j _ => eqB j), hv.1]
          obtain ⟨e, he⟩ : ∃ e, 256 = w * t + e := ⟨256 - w * t, by omega⟩
          rw [he]
          exact cntB_ext (fun j hj => by cases hz : wt j; rfl; exact absurd (hv.2.2 j hz).1 (by omega)) e
        · rw [eqB j]
          exact ⟨fun z => (hv.2.2 j z).2.2, fun ⟨m, z1, z2⟩ => by rw [← z2]; exact (hv.2.1 m z1).2.2⟩)
    · have q1 : i < n := by
        rcases Nat.lt_or_ge i n with z | z
        · exact z
        · exact absurd (nI_le z (by omega)) c62
      obtain ⟨v1, v2, v3⟩ := hv.2.1 i q1
      have v4 : Rch w t p s tol.toInt (q i) := (hv.2.2 _ v3).2.1
      have m1 := Nat.mod_lt (q i) (show 0 < w by omega)
      have m2 : q i / w < t := Nat.div_lt_of_lt_mul v2
      have m3 : q i / w * w + q i % w = q i := by rw [Nat.mul_comm]; exact Nat.div_add_mod _ _
      obtain ⟨x0, hX⟩ : ∃ x0, q i % w = x0 := ⟨_, rfl⟩
      obtain ⟨y0, hY⟩ : ∃ y0, q i / w = y0 := ⟨_, rfl⟩
      rw [hX] at m1 m3
      rw [hY] at m2 m3
      have zx : (nI x0).toInt = (x0 : Int) := nI_toInt (by omega)
      have zy : (nI y0).toInt = (y0 : Int) := nI_toInt (by omega)
      have z1 : (1 : Int32).toInt = 1 := rfl
      have xp : (nI x0 + 1).toInt = (x0 : Int) + 1 := by rw [Jvm.Kit.i32_add (by omega) (by omega), zx, z1]
      have xm : (nI x0 - 1).toInt = (x0 : Int) - 1 := by rw [Jvm.Kit.i32_sub (by omega) (by omega), zx, z1]
      have yp : (nI y0 + 1).toInt = (y0 : Int) + 1 := by rw [Jvm.Kit.i32_add (by omega) (by omega), zy, z1]
      have ym : (nI y0 - 1).toInt = (y0 : Int) - 1 := by rw [Jvm.Kit.i32_sub (by omega) (by omega), zy, z1]
      have nb : ∀ X' Y' : Nat, X' < w → Y' < t → ((X' = x0 ∧ (Y' + 1 = y0 ∨ Y' = y0 + 1)) ∨ (Y' = y0 ∧ (X' + 1 = x0 ∨ X' = x0 + 1))) → adjF w t (q i) (Y' * w + X') := by
        intro X' Y' hx hy hc
        refine ⟨place_lt hx hy, ?_⟩
        rw [(dm hx).1, (dm hx).2, hX, hY]
        exact hc
      refine gk_iload6 dX3_pour_65 (pc' := 67) rfl ?_
      refine gk_sipush (v := 256) dX3_pour_67 (pc' := 70) rfl (by decide) ?_
      refine gk_icmp_ge dX3_pour_70 (tgt := 174) (pc' := 73) (by decide) rfl (fun c70 => absurd c70 (nI_ge (b := 256) (by omega) (by decide))) (fun c70 => ?_)
      refine gk_aload1 dX3_pour_73 (pc' := 74) rfl ?_
      refine gk_getf (fs := [_, _, _, _]) gF_Flood_37 dX3_pour_74 (pc' := 77) rfl (by exact (g1)) rfl ?_
      refine gk_if_le dX3_pour_77 (tgt := 174) (pc' := 80) (by decide) rfl (fun c77 => absurd c77 (nI_nle (by omega) (by omega))) (fun c77 => ?_)
      refine gk_aload0 dX3_pour_80 (pc' := 81) rfl ?_
      refine gk_getf (fs := [_, _, _]) gF_Flood_9 dX3_pour_81 (pc' := 84) rfl (by assumption) rfl ?_
      refine gk_iload6 dX3_pour_84 (pc' := 86) rfl ?_
      refine gk_iald (t0 := 0) rfl dX3_pour_86 (pc' := 87) rfl (by exact (e2)) (vp_in_nI (by omega) (by decide)) ?_
      rw [nI_clamp (by omega), v1]
      refine gk_aload1 dX3_pour_87 (pc' := 88) rfl ?_
      refine gk_getf (fs := [_, _, _, _]) gF_Flood_37 dX3_pour_88 (pc' := 91) rfl (by exact (g1)) rfl ?_
      refine gk_irem dX3_pour_91 (pc' := 92) rfl (nI_ne0 (by omega) (by omega)) ?_
      rw [nI_mod (by omega) (by omega) (by omega), hX]
      refine gk_istore7 dX3_pour_92 (pc' := 94) rfl (by decide) rfl ?_
      refine gk_aload0 dX3_pour_94 (pc' := 95) rfl ?_
      refine gk_getf (fs := [_, _, _]) gF_Flood_9 dX3_pour_95 (pc' := 98) rfl (by assumption) rfl ?_
      refine gk_iload6 dX3_pour_98 (pc' := 100) rfl ?_
      refine gk_iald (t0 := 0) rfl dX3_pour_100 (pc' := 101) rfl (by exact (e2)) (vp_in_nI (by omega) (by decide)) ?_
      rw [nI_clamp (by omega), v1]
      refine gk_aload1 dX3_pour_101 (pc' := 102) rfl ?_
      refine gk_getf (fs := [_, _, _, _]) gF_Flood_37 dX3_pour_102 (pc' := 105) rfl (by exact (g1)) rfl ?_
      refine gk_idiv dX3_pour_105 (pc' := 106) rfl (nI_ne0 (by omega) (by omega)) ?_
      rw [nI_div (by omega) (by omega) (by omega), hY]
      refine gk_istore8 dX3_pour_106 (pc' := 108) rfl (by decide) rfl ?_
      refine gk_aload0 dX3_pour_108 (pc' := 109) rfl ?_
      refine gk_aload1 dX3_pour_109 (pc' := 110) rfl ?_
      refine gk_iload7 dX3_pour_110 (pc' := 112) rfl ?_
      refine gk_iconst (v := 1) dX3_pour_112 (pc' := 113) rfl (by decide) ?_
      refine gk_isub dX3_pour_113 (pc' := 114) rfl ?_
      refine gk_iload8 dX3_pour_114 (pc' := 116) rfl ?_
      refine gk_iload5 dX3_pour_116 (pc' := 118) rfl ?_
      refine gk_iload4 dX3_pour_118 (pc' := 120) rfl ?_
      refine gk_cV0_5 mv_Flood_reach gw_602 dX3_pour_120 (pc' := 123) rfl (Nat.le_of_ble_eq_true rfl) (by exact (e1)) (sp_Flood_reach hs hp hr hst hv.1 (fun h2 pl2 wt2 n2' r2 s2 f2 => ?_))
      refine ⟨rfl, ?_⟩
      rw [xm, zy] at r2
      obtain ⟨q2, i2, k2, l2, w2, d2⟩ := hv.rst har r2 (fun z o => v4.step (by have := nb ((x0 : Int) - 1).toNat y0 (by omega) (by omega) (by omega); rw [Int.toNat_natCast]; exact this) o)
      have hp2 := isFd.pic hp f2 n1 n2
      have e12 := s2.1
      refine gk_aload0 dX3_pour_123 (pc' := 124) rfl ?_
      refine gk_aload1 dX3_pour_124 (pc' := 125) rfl ?_
      refine gk_iload7 dX3_pour_125 (pc' := 127) rfl ?_
      refine gk_iconst (v := 1) dX3_pour_127 (pc' := 128) rfl (by decide) ?_
      refine gk_iadd dX3_pour_128 (pc' := 129) rfl ?_
      refine gk_iload8 dX3_pour_129 (pc' := 131) rfl ?_
      refine gk_iload5 dX3_pour_131 (pc' := 133) rfl ?_
      refine gk_iload4 dX3_pour_133 (pc' := 135) rfl ?_
      refine gk_cV0_5 mv_Flood_reach gw_602 dX3_pour_135 (pc' := 138) rfl (Nat.le_of_ble_eq_true rfl) (by exact (e12)) (sp_Flood_reach s2 hp2 hr hst i2.1 (fun h3 pl3 wt3 n3' r3 s3 f3 => ?_))
      refine ⟨rfl, ?_⟩
      rw [xp, zy] at r3
      obtain ⟨q3, i3, k3, l3, w3, d3⟩ := i2.rst har r3 (fun z o => v4.step (by have := nb ((x0 : Int) + 1).toNat y0 (by omega) (by omega) (by omega); rw [Int.toNat_natCast]; exact this) o)
      have hp3 := isFd.pic hp2 f3 n1 n2
      have e13 := s3.1
      refine gk_aload0 dX3_pour_138 (pc' := 139) rfl ?_
      refine gk_aload1 dX3_pour_139 (pc' := 140) rfl ?_
      refine gk_iload7 dX3_pour_140 (pc' := 142) rfl ?_
      refine gk_iload8 dX3_pour_142 (pc' := 144) rfl ?_
      refine gk_iconst (v := 1) dX3_pour_144 (pc' := 145) rfl (by decide) ?_
      refine gk_isub dX3_pour_145 (pc' := 146) rfl ?_
      refine gk_iload5 dX3_pour_146 (pc' := 148) rfl ?_
      refine gk_iload4 dX3_pour_148 (pc' := 150) rfl ?_
      refine gk_cV0_5 mv_Flood_reach gw_602 dX3_pour_150 (pc' := 153) rfl (Nat.le_of_ble_eq_true rfl) (by exact (e13)) (sp_Flood_reach s3 hp3 hr hst i3.1 (fun h4 pl4 wt4 n4' r4 s4 f4 => ?_))
      refine ⟨rfl, ?_⟩
      rw [zx, ym] at r4
      obtain ⟨q4, i4, k4, l4, w4, d4⟩ := i3.rst har r4 (fun z o => v4.step (by have := nb x0 ((y0 : Int) - 1).toNat (by omega) (by omega) (by omega); rw [Int.toNat_natCast x0]; exact this) o)
      have hp4 := isFd.pic hp3 f4 n1 n2
      have e14 := s4.1
      refine gk_aload0 dX3_pour_153 (pc' := 154) rfl ?_
      refine gk_aload1 dX3_pour_154 (pc' := 155) rfl ?_
      refine gk_iload7 dX3_pour_155 (pc' := 157) rfl ?_
      refine gk_iload8 dX3_pour_157 (pc' := 159) rfl ?_
      refine gk_iconst (v := 1) dX3_pour_159 (pc' := 160) rfl (by decide) ?_
      refine gk_iadd dX3_pour_160 (pc' := 161) rfl ?_
      refine gk_iload5 dX3_pour_161 (pc' := 163) rfl ?_
      refine gk_iload4 dX3_pour_163 (pc' := 165) rfl ?_
      refine gk_cV0_5 mv_Flood_reach gw_602 dX3_pour_165 (pc' := 168) rfl (Nat.le_of_ble_eq_true rfl) (by exact (e14)) (sp_Flood_reach s4 hp4 hr hst i4.1 (fun h5 pl5 wt5 n5' r5 s5 f5 => ?_))
      refine ⟨rfl, ?_⟩
      rw [zx, yp] at r5
      obtain ⟨q5, i5, k5, l5, w5, d5⟩ := i4.rst har r5 (fun z o => v4.step (by have := nb x0 ((y0 : Int) + 1).toNat (by omega) (by omega) (by omega); rw [Int.toNat_natCast x0]; exact this) o)
      refine gk_iinc6 (v := 1) dX3_pour_168 (pc' := 171) rfl (by decide) (by decide) rfl ?_
      refine gk_goto dX3_pour_171 (tgt := 56) (by decide) ?_
      rw [← nI_succ]
      have kk : ∀ m, m < n → q5 m = q m := fun m hm => by rw [k5 m (by omega), k4 m (by omega), k3 m (by omega), k2 m hm]
      have ww : ∀ j, wt j = true → wt5 j = true := fun j z => w5 j (w4 j (w3 j (w2 j z)))
      refine ih (i + 1) h5 pl5 wt5 n5' q5 _ _ (by omega) (by omega) s5 i5 (ww _ hws) (fun m hm j ha ho => ?_) ((((hf.trans f2 (fun _ z => z) (fun _ z => z)).trans f3 (fun _ z => z) (fun _ z => z)).trans f4 (fun _ z => z) (fun _ z => z)).trans f5 (fun _ z => z) (fun _ z => z))
      rw [kk m (by omega)] at ha
      by_cases z : m = i
      · subst z
        obtain ⟨a1, a2⟩ := ha
        rw [hX, hY] at a2
        have b1 := Nat.mod_lt j (show 0 < w by omega)
        have b2 : j / w < t := Nat.div_lt_of_lt_mul a1
        have b3 : j / w * w + j % w = j := by rw [Nat.mul_comm]; exact Nat.div_add_mod _ _
        obtain ⟨jx, hjx⟩ : ∃ jx, j % w = jx := ⟨_, rfl⟩
        obtain ⟨jy, hjy⟩ : ∃ jy, j / w = jy := ⟨_, rfl⟩
        rw [hjx] at b1 b3 a2
        rw [hjy] at b2 b3 a2
        have pick : ∀ (X' Y' : Int), X' = jx → Y' = jy → Y'.toNat * w + X'.toNat = j := fun X' Y' ex ey => by rw [ex, ey, Int.toNat_natCast, Int.toNat_natCast]; exact b3
        rcases a2 with ⟨c1, c2 | c2⟩ | ⟨c1, c2 | c2⟩
        · have e := pick x0 ((y0 : Int) - 1) (by rw [c1]) (by omega)
          have := d4 (by omega) (by rw [e]; exact ho)
          rw [e] at this; exact w5 _ this
        · have e := pick x0 ((y0 : Int) + 1) (by rw [c1]) (by omega)
          have := d5 (by omega) (by rw [e]; exact ho)
          rw [e] at this; exact this
        · have e := pick ((x0 : Int) - 1) y0 (by omega) (by rw [c1])
          have := d2 (by omega) (by rw [e]; exact ho)
          rw [e] at this; exact w5 _ (w4 _ (w3 _ this))
        · have e := pick ((x0 : Int) + 1) y0 (by omega) (by rw [c1])
          have := d3 (by omega) (by rw [e]; exact ho)
          rw [e] at this; exact w5 _ (w4 _ this)
      · exact ww _ (hcl m (by omega) j ha ho)
theorem lp_Flood_clear {h0 : gk_H} {x y tol : Int32} {wt0 : Nat → Bool} (hQ : ∀ h wt, isFd X h a pl wt n → (∀ j, j < 256 → wt j = false) → fr (fun c => c = a ∨ c = a + 1 ∨ c = a + 2) h0 h → ∀ l5, G (kx X) mt_Flood_pour (d + 2) b 25 [some (.ref a), some (.ref o), some (.int x), some (.int y), some (.int tol), l5, none, none, none] [] h Q) :
    ∀ f i h, i + f = 256 → isFd X h a pl (fun j => if j < i then false else wt0 j) n → fr (fun c => c = a ∨ c = a + 1 ∨ c = a + 2) h0 h → G (kx X) mt_Flood_pour (d + 2) b 3 [some (.ref a), some (.ref o), some (.int x), some (.int y), some (.int tol), some (.int (nI i)), none, none, none] [] h Q := by
  intro f
  induction f with
  | zero =>
    intro i h hi hs hf
    have e : i = 256 := by omega
    subst e
    refine gk_iload5 dX3_pour_3 (pc' := 5) rfl ?_
    refine gk_sipush (v := 256) dX3_pour_5 (pc' := 8) rfl (by decide) ?_
    refine gk_icmp_ge dX3_pour_8 (tgt := 25) (pc' := 11) (by decide) rfl (fun c8 => ?_) (fun c8 => absurd (by decide) c8)
    exact hQ h _ hs (fun j hj => by simp [hj]) hf _
  | succ f ih =>
    intro i h hi hs hf
    obtain ⟨e1, e2, e3⟩ := hs
    refine gk_iload5 dX3_pour_3 (pc' := 5) rfl ?_
    refine gk_sipush (v := 256) dX3_pour_5 (pc' := 8) rfl (by decide) ?_
    refine gk_icmp_ge dX3_pour_8 (tgt := 25) (pc' := 11) (by decide) rfl (fun c8 => absurd c8 (nI_ge (b := 256) (by omega) (by decide))) (fun c8 => ?_)
    refine gk_aload0 dX3_pour_11 (pc' := 12) rfl ?_
    refine gk_getf (fs := [_, _, _]) gF_Flood_15 dX3_pour_12 (pc' := 15) rfl (by exact (e1)) rfl ?_
    refine gk_iload5 dX3_pour_15 (pc' := 17) rfl ?_
    refine gk_iconst (v := 0) dX3_pour_17 (pc' := 18) rfl (by decide) ?_
    refine gk_zast (t0 := 1) rfl dX3_pour_18 (pc' := 19) rfl (by exact (e3)) (vp_in_nI (by omega) (by decide)) ?_
    rw [nI_clamp (by omega)]
    refine gk_iinc5 (v := 1) dX3_pour_19 (pc' := 22) rfl (by decide) (by decide) rfl ?_
    refine gk_goto dX3_pour_22 (tgt := 3) (by decide) ?_
    rw [← nI_succ]
    refine ih (i + 1) _ (by omega) ⟨(gk_set_ne (by omega)).trans e1, (gk_set_ne (by omega)).trans e2, ?_⟩ (hf.trans fr.set (fun _ z => z) (fun _ z => Or.inr (Or.inr z)))
    rw [gk_set_self]
    refine congrArg (fun f => some (cZ X 256 f)) (funext fun z => ?_)
    by_cases q : z = i
    · rw [q, pk_us]; simp; rfl
    · rw [pk_un q]
      by_cases q2 : z < i
      · simp [q2, show z < i + 1 by omega]
      · simp [q2, show ¬ z < i + 1 by omega]
theorem sp_Flood_pour {i j : Nat} {tol : Int32} (hs : isFd X h a pl wt n) (hp : isPic X h o k w t p) (n1 : o ≠ a ∧ o ≠ a + 1 ∧ o ≠ a + 2) (n2 : o + 1 ≠ a) (hr : ∀ i, i < w * t → -32768 ≤ (p i).toInt ∧ (p i).toInt ≤ 32767) (hi : i < w) (hj : j < t) (htol : 0 ≤ tol.toInt)
    (hQ : ∀ (h' : gk_H) (pl' : Nat → Int32) (wt' : Nat → Bool) (n' : Nat) (q : Nat → Nat), isFd X h' a pl' wt' n' → n' = cntB (rB w t p (j * w + i) tol.toInt) (w * t) → (∀ m, m < n' → pl' m = nI (q m) ∧ q m < w * t) → (∀ z, z < w * t → (rB w t p (j * w + i) tol.toInt z = true ↔ ∃ m, m < n' ∧ q m = z)) → fr (fun c => c = a ∨ c = a + 1 ∨ c = a + 2) h h' → Q (some (.int (nI n'))) h') : Gm (kx X) mt_Flood_pour (d + 2) b [.ref a, .ref o, .int (nI i), .int (nI j), .int tol] h Q := by
  have har := hp.area
  have hw := hp.1
  have hh := hp.2.1
  have o1 := place_lt hi hj
  have zi : (nI i).toInt = i := nI_toInt (by omega)
  have zj : (nI j).toInt = j := nI_toInt (by omega)
  refine Gm.enter (L := [some (.ref a), some (.ref o), some (.int (nI i)), some (.int (nI j)), some (.int tol), none, none, none, none]) (by decide) (fun _ => trivial) (Nat.le_of_ble_eq_true rfl) rfl ?_
  refine gk_iconst (v := 0) dX3_pour_0 (pc' := 1) rfl (by decide) ?_
  refine gk_istore5 dX3_pour_1 (pc' := 3) rfl (by decide) rfl ?_
  refine lp_Flood_clear (h0 := h) (wt0 := wt) (fun h2 wt2 s2 c2 f2 l5 => ?_) 256 0 h (by omega) ⟨hs.1, hs.2.1, by rw [hs.2.2]; exact congrArg (fun f => some (cZ X 256 f)) (funext fun z => by simp)⟩ fr.rf
  have hp2 := isFd.pic hp f2 n1 n2
  have g2 := hp2.o
  obtain ⟨e1, e2, e3⟩ := s2
  have nrm : ∀ H, gk_rep (kx X) h2 H → gk_rep (kx X) (gk_set h2 (a + 2) (cZ X 256 (fun z => if (fun _ : Nat => false) z then 1 else 0))) H := fun H r => rep_same e3 (fun z hz => by rw [c2 z hz]) H r
  refine G.norm nrm ?_
  clear nrm
  generalize hh3 : gk_set h2 (a + 2) (cZ X 256 (fun z => if (fun _ : Nat => false) z then 1 else 0)) = h3
  have f3 : fr (fun c => c = a ∨ c = a + 1 ∨ c = a + 2) h h3 := by rw [← hh3]; exact f2.trans fr.set (fun _ z => z) (fun _ z => Or.inr (Or.inr z))
  have s3 : isFd X h3 a pl (fun _ => false) n := by rw [← hh3]; exact ⟨(gk_set_ne (by omega)).trans e1, (gk_set_ne (by omega)).trans e2, gk_set_self⟩
  clear e1 e2 e3
  obtain ⟨e1, e2, e3⟩ := s3
  have hp3 := isFd.pic hp f3 n1 n2
  refine gk_aload0 dX3_pour_25 (pc' := 26) rfl ?_
  refine gk_iconst (v := 0) dX3_pour_26 (pc' := 27) rfl (by decide) ?_
  refine gk_putf (fs := [_, _, _]) gP_Flood_19 dX3_pour_27 (pc' := 30) rfl (by exact (e1)) rfl rfl (Nat.le_of_ble_eq_true rfl) ?_
  refine gk_aload1 dX3_pour_30 (pc' := 31) rfl ?_
  refine gk_aload1 dX3_pour_31 (pc' := 32) rfl ?_
  refine gk_iload2 dX3_pour_32 (pc' := 33) rfl ?_
  refine gk_iload3 dX3_pour_33 (pc' := 34) rfl ?_
  have hp4 : isPic X (gk_set h3 a (.inr (3, [.ref (a + 1), .ref (a + 2), .int 0]))) o k w t p := hp3.kept (gk_set_ne (by omega)) (gk_set_ne (by omega))
  have s4 : isFd X (gk_set h3 a (.inr (3, [.ref (a + 1), .ref (a + 2), .int 0]))) a pl (fun _ => false) 0 := ⟨gk_set_self, (gk_set_ne (by omega)).trans e2, (gk_set_ne (by omega)).trans e3⟩
  have f4 : fr (fun c => c = a ∨ c = a + 1 ∨ c = a + 2) h (gk_set h3 a (.inr (3, [.ref (a + 1), .ref (a + 2), .int 0]))) := f3.trans fr.set (fun _ z => z) (fun _ z => Or.inl z)
  show G _ _ _ _ _ _ _ (gk_set h3 a (.inr (3, [.ref (a + 1), .ref (a + 2), .int 0]))) _
  generalize gk_set h3 a (.inr (3, [.ref (a + 1), .ref (a + 2), .int 0])) = h4 at hp4 s4 f4 ⊢
  have g4 := hp4.o
  have e4 := s4.1
  have z0 : 0 = cntB (fun _ => false) 256 := by
    have := cntB_ext (f := fun _ => false) (m := 0) (fun _ _ => rfl) 256
    rw [Nat.zero_add] at this
    exact this.symm
  refine gk_cV1_2 mv_Picture_place gw_600 dX3_pour_34 (pc' := 37) rfl (Nat.le_of_ble_eq_true rfl) (by exact (g4)) (sp_Picture_placeN hp4 ?_)
  refine ⟨_, rfl, ?_⟩
  refine gk_cV1_1 mv_Picture_pixel gw_601 dX3_pour_37 (pc' := 40) rfl (Nat.le_of_ble_eq_true rfl) (by exact (g4)) (sp_Picture_pixel hp4 o1 ?_)
  refine ⟨_, rfl, ?_⟩
  refine gk_istore5 dX3_pour_40 (pc' := 42) rfl (by decide) rfl ?_
  refine gk_aload0 dX3_pour_42 (pc' := 43) rfl ?_
  refine gk_aload1 dX3_pour_43 (pc' := 44) rfl ?_
  refine gk_iload2 dX3_pour_44 (pc' := 45) rfl ?_
  refine gk_iload3 dX3_pour_45 (pc' := 46) rfl ?_
  refine gk_iload5 dX3_pour_46 (pc' := 48) rfl ?_
  refine gk_iload4 dX3_pour_48 (pc' := 50) rfl ?_
  refine gk_cV0_5 mv_Flood_reach gw_602 dX3_pour_50 (pc' := 53) rfl (Nat.le_of_ble_eq_true rfl) (by exact (e4)) (sp_Flood_reach (s := j * w + i) s4 hp4 hr o1 z0 (fun h5 pl5 wt5 n5 r5 s5 f5 => ?_))
  refine ⟨rfl, ?_⟩
  rw [zi, zj] at r5
  have v0 : fInv w t p (j * w + i) tol.toInt pl (fun _ => false) 0 (fun _ => 0) := ⟨z0, fun m hm => absurd hm (by omega), fun j hw => by cases hw⟩
  obtain ⟨q5, i5, k5, l5, w5, d5⟩ := v0.rst har r5 (fun _ _ => by rw [Int.toNat_natCast, Int.toNat_natCast]; exact Rch.start)
  have ws := d5 (by omega) (by rw [Int.toNat_natCast, Int.toNat_natCast]; unfold okF; omega)
  rw [Int.toNat_natCast, Int.toNat_natCast] at ws
  refine gk_iconst (v := 0) dX3_pour_53 (pc' := 54) rfl (by decide) ?_
  refine gk_istore6 dX3_pour_54 (pc' := 56) rfl (by decide) rfl ?_
  exact lp_Flood_pour (h0 := h) n1 n2 hp (by omega) hr o1 hQ 257 0 h5 pl5 wt5 n5 q5 _ _ (by omega) (by omega) s5 i5 ws (fun m hm => absurd hm (by omega)) (f4.trans f5 (fun _ z => z) (fun _ z => z))
theorem sp_Flood_init (ha : h.1 a = some (.inr (3, [.null, .null, .int 0]))) (hz : h.2 = a + 1) (hQ : ∀ h' pl wt, isFd X h' a pl wt 0 → (∀ c, c ≠ a → c ≠ a + 1 → c ≠ a + 2 → h'.1 c = h.1 c) → h'.2 = a + 3 → Q none h') : Gm (kx X) mt_Flood_init (d + 1) (2, 512) [.ref a] h Q := by
  refine Gm.enter (L := [some (.ref a)]) (by decide) (fun _ => trivial) (Nat.le_of_ble_eq_true rfl) rfl ?_
  refine gk_aload0 dX3_init_0 (pc' := 1) rfl ?_
  refine gk_objInit gw_140 gw_23 gw_24 dX3_init_1 (pc' := 4) rfl (Nat.le_of_ble_eq_true rfl) ?_
  refine gk_aload0 dX3_init_4 (pc' := 5) rfl ?_
  refine gk_sipush (v := 256) dX3_init_5 (pc' := 8) rfl (by decide) ?_
  refine gk_newi (n := 256) (bc := 1) (bs := 256) (t0 := 0) rfl gw_61 dX3_init_8 (pc' := 10) rfl rfl (by decide) ?_
  refine gk_putF (fs := [_, _, _]) gP_Flood_9 rfl dX3_init_10 (pc' := 13) rfl (by exact ((gk_new_ne (by omega)).trans ha)) rfl rfl (Nat.le_of_ble_eq_true rfl) ?_
  refine gk_aload0 dX3_init_13 (pc' := 14) rfl ?_
  refine gk_sipush (v := 256) dX3_init_14 (pc' := 17) rfl (by decide) ?_
  refine gk_newz (n := 256) (bc := 0) (bs := 0) (t0 := 1) rfl gw_151 dX3_init_17 (pc' := 19) rfl rfl (by decide) ?_
  refine gk_putF (fs := [_, _, _]) gP_Flood_15 rfl dX3_init_19 (pc' := 22) rfl (by exact ((gk_new_ne (by show a ≠ h.2 + 1; omega)).trans gk_set_self)) rfl rfl (Nat.le_of_ble_eq_true rfl) ?_
  refine gk_aload0 dX3_init_22 (pc' := 23) rfl ?_
  refine gk_iconst (v := 0) dX3_init_23 (pc' := 24) rfl (by decide) ?_
  refine gk_putf (fs := [_, _, _]) gP_Flood_19 dX3_init_24 (pc' := 27) rfl (by exact (gk_set_self)) rfl rfl (Nat.le_of_ble_eq_true rfl) ?_
  refine gk_vret dX3_init_27 rfl (hQ _ (fun _ => 0) (fun _ => false) ⟨?_, ?_, ?_⟩ (fun c n1 n2 n3 => ?_) ?_)
  · rw [gk_set_self]
    show some (Sum.inr (_, [Value.ref h.2, Value.ref (h.2 + 1), Value.int 0])) = _
    rw [hz]; rfl
  · rw [gk_set_ne (by omega), gk_set_ne (by omega), gk_new_ne (by show a + 1 ≠ h.2 + 1; omega), gk_set_ne (by omega), ← hz]; exact gk_new_self
  · rw [gk_set_ne (by omega), gk_set_ne (by omega), show a + 2 = h.2 + 1 by omega]
    refine gk_new_self.trans ?_
    exact congrArg (fun f => some (cZ X 256 f)) (funext fun z => rfl)
  · rw [gk_set_ne n1, gk_set_ne n1, gk_new_ne (by show c ≠ h.2 + 1; omega), gk_set_ne n1, gk_new_ne (by omega)]
  · show h.2 + 1 + 1 = a + 3; omega
end FdB
