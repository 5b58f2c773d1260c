/-! ===== the reference: seamGoes, runs ===== -/
theorem upd_upd {f : Nat → Int32} {k : Nat} {x y : Int32} : upd (upd f k x) k y = upd f k y := funext fun j => by
  by_cases e : j = k
  · rw [e, pk_us, pk_us]
  · rw [pk_un e, pk_un e, pk_un e]
theorem sgF_congr {w t : Nat} {p q : Nat → Int32} {how : Int32} (h1 : 1 ≤ w) (h2 : 1 ≤ t) (he : ∀ i, i < w * t → p i = q i) {i : Nat} (hi : i < sgW w how * t) (hn : 0 < sgW w how) : sgF w t p how i = sgF w t q how i := by
  unfold sgF
  rw [seamCol_congr h1 h2 he]
  have im : i % sgW w how < sgW w how := Nat.mod_lt _ hn
  exact he _ (place_lt (sgS_lt (colD_lt h1 _) im) ((Nat.div_lt_iff_lt_mul hn).mpr (by rw [Nat.mul_comm]; exact hi)))
theorem nI_predm {n : Nat} (h : n < 100000) : nI (n + 1) + (-1) = nI n := by
  apply pu_inj
  have z1 : (-1 : Int32).toInt = -1 := rfl
  have z2 : (nI (n + 1)).toInt = (n + 1 : Nat) := nI_toInt (by omega)
  rw [Jvm.Kit.i32_add (by omega) (by omega), z2, z1, nI_toInt (n := n) (by omega)]
  omega
section MoL
variable {X : gX} {d : Nat} {b : Nat × Nat} {h h0 : gk_H} {m : Nat} {A : MoA} {Z : MoZ} {Q : Option Value → gk_H → Prop} {S : St}
theorem lp_Mo_sgX {j w t nw y : Nat} {how tot : Int32} {k : Int32} (hj : j < 8) (hw : 1 ≤ w ∧ w ≤ 16) (ht : 1 ≤ t ∧ t ≤ 16) (hnw : nw = sgW w how) (h16 : 1 ≤ nw ∧ nw ≤ 16) (hz4 : Z 4 = nI w) (h18 : ∀ y, y < t → A 18 y = nI (seamCol w t (A 9) y)) (hpr : A 1 (259 * j) = k ∧ A 1 (259 * j + 1) = nI nw ∧ A 1 (259 * j + 2) = nI t) (hy : y < t) (hQ : ∀ l6 l7, G (kx X) mt_Mo_seamGoes (d + 10) b 199 [some (.ref m), some (.int (nI j)), some (.int how), some (.int tot), some (.int (nI nw)), some (.int (nI y)), l6, l7] [] (mkH X h0 m (uA A 1 (fdF (A 1) (259 * j + 3) ((y + 1) * nw) (sgF w t (A 9) how))) Z) Q) :
    ∀ n x l7, x + n = nw → G (kx X) mt_Mo_seamGoes (d + 10) b 106 [some (.ref m), some (.int (nI j)), some (.int how), some (.int tot), some (.int (nI nw)), some (.int (nI y)), some (.int (nI x)), l7] [] (mkH X h0 m (uA A 1 (fdF (A 1) (259 * j + 3) (y * nw + x) (sgF w t (A 9) how))) Z) Q := by
  have hcol : seamCol w t (A 9) y < w := colD_lt hw.1 _
  have ar := area_le hw.2 ht.2
  have ar2 := area_le h16.2 ht.2
  intro n
  induction n with
  | zero =>
    intro x l7 hx
    have e : y * nw + x = (y + 1) * nw := by rw [Nat.add_mul, Nat.one_mul]; omega
    rw [e]
    refine gk_iload6 dX11_seamGoes_106 (pc' := 108) rfl ?_
    refine gk_iload4 dX11_seamGoes_108 (pc' := 110) rfl ?_
    refine gk_icmp_ge dX11_seamGoes_110 (tgt := 199) (pc' := 113) (by decide) rfl (fun c110 => ?_) (fun c110 => absurd (nI_le (by omega) (by omega)) c110)
    exact hQ _ _
  | succ n ih =>
    intro x l7 hx
    have hxw : x < nw := by omega
    have o1 := place_lt hxw hy
    have d1 := dm (y := y) hxw
    have hsx : sgS (seamCol w t (A 9) y) how x < w := sgS_lt hcol (by omega)
    have ev : sgF w t (A 9) how (y * nw + x) = A 9 (y * w + sgS (seamCol w t (A 9) y) how x) := by
      unfold sgF
      rw [← hnw, d1.1, d1.2]
    obtain ⟨cP, eP, pr⟩ : ∃ c : Pc, c.2.1 = nw ∧ pRow (uA A 1 (fdF (A 1) (259 * j + 3) (y * nw + x) (sgF w t (A 9) how)) 1) (259 * j) c := ⟨(k, nw, t, fun i => fdF (A 1) (259 * j + 3) (y * nw + x) (sgF w t (A 9) how) (259 * j + 3 + i)), rfl, by
      rw [uA_s]
      refine ⟨?_, ?_, ?_, fun i _ => rfl⟩
      · unfold fdF; rw [if_neg (by omega)]; exact hpr.1
      · unfold fdF; rw [if_neg (by omega)]; exact hpr.2.1
      · unfold fdF; rw [if_neg (by omega)]; exact hpr.2.2⟩
    generalize hC : seamCol w t (A 9) y = col at *
    have key : ∀ sx, sx = sgS col how x → G (kx X) mt_Mo_seamGoes (d + 10) b 162 [some (.ref m), some (.int (nI j)), some (.int how), some (.int tot), some (.int (nI nw)), some (.int (nI y)), some (.int (nI x)), l7] [.int (nI sx)] (mkH X h0 m (uA A 1 (fdF (A 1) (259 * j + 3) (y * nw + x) (sgF w t (A 9) how))) Z) Q := by
      intro sx e
      rw [← e] at hsx ev
      have o2 := place_lt (t := t) hsx hy
      refine gk_istore7 dX11_seamGoes_162 (pc' := 164) rfl (by decide) rfl ?_
      refine gk_aload0 dX11_seamGoes_164 (pc' := 165) rfl ?_
      refine gk_getf (fs := [_, _, _, _, _, _, _, _, _, _, _, _, _, _, _, _, _, _, _, _, _, _, _, _, _, _]) gF_Mo_7 dX11_seamGoes_165 (pc' := 168) rfl (by exact (mkJ)) rfl ?_
      refine gk_aload0 dX11_seamGoes_168 (pc' := 169) rfl ?_
      refine gk_iload1 dX11_seamGoes_169 (pc' := 170) rfl ?_
      refine gk_iload6 dX11_seamGoes_170 (pc' := 172) rfl ?_
      refine gk_iload5 dX11_seamGoes_172 (pc' := 174) rfl ?_
      refine gk_cV1_3 mv_Mo_pixelAt gw_931 dX11_seamGoes_174 (pc' := 177) rfl (Nat.le_of_ble_eq_true rfl) (by exact (mkJ)) (sp_Mo_pixelAt pr hj ?_)
      refine ⟨_, rfl, ?_⟩
      rw [eP]
      refine gk_aload0 dX11_seamGoes_177 (pc' := 178) rfl ?_
      refine gk_getf (fs := [_, _, _, _, _, _, _, _, _, _, _, _, _, _, _, _, _, _, _, _, _, _, _, _, _, _]) gF_Mo_35 dX11_seamGoes_178 (pc' := 181) rfl (by exact (mkJ)) rfl ?_
      refine gk_iload5 dX11_seamGoes_181 (pc' := 183) rfl ?_
      refine gk_aload0 dX11_seamGoes_183 (pc' := 184) rfl ?_
      refine gk_getf (fs := [_, _, _, _, _, _, _, _, _, _, _, _, _, _, _, _, _, _, _, _, _, _, _, _, _, _]) gF_Mo_138 dX11_seamGoes_184 (pc' := 187) rfl (by exact (mkJ)) rfl ?_
      rw [hz4]
      refine gk_imulN dX11_seamGoes_187 (pc' := 188) rfl ?_
      refine gk_iload7 dX11_seamGoes_188 (pc' := 190) rfl ?_
      refine gk_iaddN dX11_seamGoes_190 (pc' := 191) rfl ?_
      refine gk_iald (t0 := 0) rfl dX11_seamGoes_191 (pc' := 192) rfl (by exact (mkA9)) (vp_in_nI (by omega) (by decide)) ?_
      rw [nI_clamp (by omega)]
      rw [uA_n (show 9 ≠ 1 by decide), ← ev]
      refine gk_iast (t0 := 0) rfl dX11_seamGoes_192 (pc' := 193) rfl (by exact (mkA1)) (vp_in_nI (by omega) (by decide)) ?_
      rw [nI_clamp (by omega), mkS1]
      rw [uA_s, uA_u, Nat.add_assoc (259 * j + 3), fdF_s (V := sgF w t (A 9) how) rfl]
      refine gk_iinc6 (v := 1) dX11_seamGoes_193 (pc' := 196) rfl (by decide) (by decide) rfl ?_
      refine gk_goto dX11_seamGoes_196 (tgt := 106) (by decide) ?_
      rw [← nI_succ]
      exact ih (x + 1) _ (by omega)
    refine gk_iload6 dX11_seamGoes_106 (pc' := 108) rfl ?_
    refine gk_iload4 dX11_seamGoes_108 (pc' := 110) rfl ?_
    refine gk_icmp_ge dX11_seamGoes_110 (tgt := 199) (pc' := 113) (by decide) rfl (fun c110 => absurd c110 (nI_ge (by omega) (by omega))) (fun c110 => ?_)
    refine gk_iload2 dX11_seamGoes_113 (pc' := 114) rfl ?_
    refine gk_if_ne dX11_seamGoes_114 (tgt := 141) (pc' := 117) (by decide) rfl (fun c114 => ?_) (fun c114 => ?_)
    · have c114 : ¬ how = 0 := c114
      refine gk_iload6 dX11_seamGoes_141 (pc' := 143) rfl ?_
      refine gk_aload0 dX11_seamGoes_143 (pc' := 144) rfl ?_
      refine gk_getf (fs := [_, _, _, _, _, _, _, _, _, _, _, _, _, _, _, _, _, _, _, _, _, _, _, _, _, _]) gF_Mo_63 dX11_seamGoes_144 (pc' := 147) rfl (by exact (mkJ)) rfl ?_
      refine gk_iload5 dX11_seamGoes_147 (pc' := 149) rfl ?_
      refine gk_iald (t0 := 0) rfl dX11_seamGoes_149 (pc' := 150) rfl (by exact (mkA18)) (vp_in_nI (by omega) (by decide)) ?_
      rw [nI_clamp (by omega)]
      rw [uA_n (show 18 ≠ 1 by decide), h18 y hy, hC]
      refine gk_icmp_gt dX11_seamGoes_150 (tgt := 158) (pc' := 153) (by decide) rfl (fun c150 => ?_) (fun c150 => ?_)
      · rw [pu_lt, nI_toInt (by omega), nI_toInt (by omega)] at c150
        refine gk_iload6 dX11_seamGoes_158 (pc' := 160) rfl ?_
        refine gk_iconst (v := nI 1) dX11_seamGoes_160 (pc' := 161) rfl (by decide) ?_
        refine gk_isubN dX11_seamGoes_161 (pc' := 162) rfl (by omega) ?_
        exact key _ (by unfold sgS; first | (rw [if_pos c114, if_pos (by omega)]; done) | (rw [if_pos c114, if_neg (by omega)]; done) | (rw [if_neg c114, if_pos (by omega)]; done) | (rw [if_neg c114, if_neg (by omega)]; done))
      · rw [pu_lt, nI_toInt (by omega), nI_toInt (by omega)] at c150
        refine gk_iload6 dX11_seamGoes_153 (pc' := 155) rfl ?_
        refine gk_goto dX11_seamGoes_155 (tgt := 162) (by decide) ?_
        exact key _ (by unfold sgS; first | (rw [if_pos c114, if_pos (by omega)]; done) | (rw [if_pos c114, if_neg (by omega)]; done) | (rw [if_neg c114, if_pos (by omega)]; done) | (rw [if_neg c114, if_neg (by omega)]; done))
    · have c114 : how = 0 := c114
      refine gk_iload6 dX11_seamGoes_117 (pc' := 119) rfl ?_
      refine gk_aload0 dX11_seamGoes_119 (pc' := 120) rfl ?_
      refine gk_getf (fs := [_, _, _, _, _, _, _, _, _, _, _, _, _, _, _, _, _, _, _, _, _, _, _, _, _, _]) gF_Mo_63 dX11_seamGoes_120 (pc' := 123) rfl (by exact (mkJ)) rfl ?_
      refine gk_iload5 dX11_seamGoes_123 (pc' := 125) rfl ?_
      refine gk_iald (t0 := 0) rfl dX11_seamGoes_125 (pc' := 126) rfl (by exact (mkA18)) (vp_in_nI (by omega) (by decide)) ?_
      rw [nI_clamp (by omega)]
      rw [uA_n (show 18 ≠ 1 by decide), h18 y hy, hC]
      refine gk_icmp_ge dX11_seamGoes_126 (tgt := 134) (pc' := 129) (by decide) rfl (fun c126 => ?_) (fun c126 => ?_)
      · rw [pu_le, nI_toInt (by omega), nI_toInt (by omega)] at c126
        refine gk_iload6 dX11_seamGoes_134 (pc' := 136) rfl ?_
        refine gk_iconst (v := nI 1) dX11_seamGoes_136 (pc' := 137) rfl (by decide) ?_
        refine gk_iaddN dX11_seamGoes_137 (pc' := 138) rfl ?_
        refine gk_goto dX11_seamGoes_138 (tgt := 162) (by decide) ?_
        exact key _ (by unfold sgS; first | (rw [if_pos c114, if_pos (by omega)]; done) | (rw [if_pos c114, if_neg (by omega)]; done) | (rw [if_neg c114, if_pos (by omega)]; done) | (rw [if_neg c114, if_neg (by omega)]; done))
      · rw [pu_le, nI_toInt (by omega), nI_toInt (by omega)] at c126
        refine gk_iload6 dX11_seamGoes_129 (pc' := 131) rfl ?_
        refine gk_goto dX11_seamGoes_131 (tgt := 162) (by decide) ?_
        exact key _ (by unfold sgS; first | (rw [if_pos c114, if_pos (by omega)]; done) | (rw [if_pos c114, if_neg (by omega)]; done) | (rw [if_neg c114, if_pos (by omega)]; done) | (rw [if_neg c114, if_neg (by omega)]; done))
theorem lp_Mo_sgY {j w t nw : Nat} {how tot : Int32} {k : Int32} (hj : j < 8) (hw : 1 ≤ w ∧ w ≤ 16) (ht : 1 ≤ t ∧ t ≤ 16) (hnw : nw = sgW w how) (h16 : 1 ≤ nw ∧ nw ≤ 16) (hz4 : Z 4 = nI w) (hz5 : Z 5 = nI t) (h18 : ∀ y, y < t → A 18 y = nI (seamCol w t (A 9) y)) (hpr : A 1 (259 * j) = k ∧ A 1 (259 * j + 1) = nI nw ∧ A 1 (259 * j + 2) = nI t) (hQ : Q (some (.int (nI nw))) (mkH X h0 m (uA A 1 (fdF (A 1) (259 * j + 3) (nw * t) (sgF w t (A 9) how))) Z)) :
    ∀ n y l6 l7, y + n = t → G (kx X) mt_Mo_seamGoes (d + 10) b 94 [some (.ref m), some (.int (nI j)), some (.int how), some (.int tot), some (.int (nI nw)), some (.int (nI y)), l6, l7] [] (mkH X h0 m (uA A 1 (fdF (A 1) (259 * j + 3) (y * nw) (sgF w t (A 9) how))) Z) Q := by
  intro n
  induction n with
  | zero =>
    intro y l6 l7 hy
    have e : y * nw = nw * t := by rw [Nat.mul_comm, show y = t by omega]
    rw [e]
    refine gk_iload5 dX11_seamGoes_94 (pc' := 96) rfl ?_
    refine gk_aload0 dX11_seamGoes_96 (pc' := 97) rfl ?_
    refine gk_getf (fs := [_, _, _, _, _, _, _, _, _, _, _, _, _, _, _, _, _, _, _, _, _, _, _, _, _, _]) gF_Mo_141 dX11_seamGoes_97 (pc' := 100) rfl (by exact (mkJ)) rfl ?_
    rw [hz5]
    refine gk_icmp_ge dX11_seamGoes_100 (tgt := 205) (pc' := 103) (by decide) rfl (fun c100 => ?_) (fun c100 => absurd (nI_le (by omega) (by omega)) c100)
    refine gk_iload4 dX11_seamGoes_205 (pc' := 207) rfl ?_
    refine gk_iret dX11_seamGoes_207 rfl hQ
  | succ n ih =>
    intro y l6 l7 hy
    refine gk_iload5 dX11_seamGoes_94 (pc' := 96) rfl ?_
    refine gk_aload0 dX11_seamGoes_96 (pc' := 97) rfl ?_
    refine gk_getf (fs := [_, _, _, _, _, _, _, _, _, _, _, _, _, _, _, _, _, _, _, _, _, _, _, _, _, _]) gF_Mo_141 dX11_seamGoes_97 (pc' := 100) rfl (by exact (mkJ)) rfl ?_
    rw [hz5]
    refine gk_icmp_ge dX11_seamGoes_100 (tgt := 205) (pc' := 103) (by decide) rfl (fun c100 => absurd c100 (nI_ge (by omega) (by omega))) (fun c100 => ?_)
    refine gk_iconst (v := 0) dX11_seamGoes_103 (pc' := 104) rfl (by decide) ?_
    refine gk_istore6 dX11_seamGoes_104 (pc' := 106) rfl (by decide) rfl ?_
    refine lp_Mo_sgX hj hw ht hnw h16 hz4 h18 hpr (by omega) (fun l6 l7 => ?_) nw 0 _ (by omega)
    refine gk_iinc5 (v := 1) dX11_seamGoes_199 (pc' := 202) rfl (by decide) (by decide) rfl ?_
    refine gk_goto dX11_seamGoes_202 (tgt := 94) (by decide) ?_
    rw [← nI_succ]
    exact ih (y + 1) _ _ (by omega)
theorem mo_seamGoes {p how : Int32} (hM : Mod X h m S) (hw : wfS S) (hQ : ∀ h', Mod X h' m (oSeamGoes S p how).2 → frO m h h' → Q (some (.int (oSeamGoes S p how).1)) h') : Gm (kx X) mt_Mo_seamGoes (d + 10) b [.ref m, .int p, .int how] h Q := by
  obtain ⟨h0, A, Z, rfl, hS⟩ := hM
  have hE : ∀ a0 S' A' Z', oSeamGoes S p how = (a0, S') → MoS A' Z' S' → Q (some (.int a0)) (mkH X h0 m A' Z') := fun a0 S' A' Z' e0 h1 => by
    have q := hQ (mkH X h0 m A' Z')
    rw [e0] at q
    exact q ⟨h0, A', Z', rfl, h1⟩ mk_fr
  have hB : ∀ a0, oSeamGoes S p how = (a0, S) → Q (some (.int a0)) (mkH X h0 m A Z) := fun a0 e0 => hE a0 S A Z e0 hS
  have zh := i2l_i how
  have z0 : (0 : Int64).toInt = 0 := rfl
  have z1 : (1 : Int64).toInt = 1 := rfl
  have z16 : (16 : Int32) = nI 16 := rfl
  have zo : (1 : Int32) = nI 1 := rfl
  have fin : ∀ j1 (A1 A' : MoA) (Z1 : MoZ) (wd tot : Int32), j1 < 8 → p = nI j1 → iR 0 1 how → ¬ (pcS S p).1 = -1 → 1 ≤ sgW (pcS S p).2.1 how → sgW (pcS S p).2.1 how ≤ 16 → (∀ i, i ≠ 2 → A1 i = A i) → Bg A1 Z1 S → (∀ i, i ≤ 8 → A' i = A1 i) → A' 9 = lkA A1 j1 9 → (∀ y, y < (pcS S p).2.2.1 → A' 18 y = nI (seamCol (pcS S p).2.1 (pcS S p).2.2.1 (pcS S p).2.2.2 y)) → wd = nI (sgW (pcS S p).2.1 how) → G (kx X) mt_Mo_seamGoes (d + 10) b 73 [some (.ref m), some (.int p), some (.int how), some (.int tot), none, none, none, none] [.int wd] (mkH X h0 m A' (lkZ Z1 (pcS S p).2.1 (pcS S p).2.2.1)) Q := by
    intro j1 A1 A' Z1 wd tot hj1 ep hh hk g1 g2 a1 hBg b1 b2 b3 ew
    subst ep ew
    have zj1 : (nI j1).toInt = j1 := nI_toInt (by omega)
    have ok1 := hw.okp hj1
    have okk := ok1.kind hk
    have ar1 := ok1.ar
    have ar2 := area_le g2 okk.2.2.1.2
    have pr2 : pRow (A1 1) (259 * j1) (pcS S (nI j1)) := by rw [a1 1 (by decide)]; exact hS.picS hj1
    have pr3 : pRow (A' 1) (259 * j1) (pcS S (nI j1)) := by rw [b1 1 (by decide)]; exact pr2
    have l9 : ∀ i, i < (pcS S (nI j1)).2.1 * (pcS S (nI j1)).2.2.1 → A' 9 i = (pcS S (nI j1)).2.2.2 i := fun i hi => by rw [b2]; exact lk_px pr2 ar1 hi
    refine gk_istore4 dX11_seamGoes_73 (pc' := 75) rfl (by decide) rfl ?_
    refine gk_aload0 dX11_seamGoes_75 (pc' := 76) rfl ?_
    refine gk_iload1 dX11_seamGoes_76 (pc' := 77) rfl ?_
    refine gk_aload0 dX11_seamGoes_77 (pc' := 78) rfl ?_
    refine gk_iload1 dX11_seamGoes_78 (pc' := 79) rfl ?_
    refine gk_cV1_1 mv_Mo_kindOf gw_921 dX11_seamGoes_79 (pc' := 82) rfl (Nat.le_of_ble_eq_true rfl) (by exact (mkJ)) (sp_Mo_kindOf pr3 hj1 ?_)
    refine ⟨_, rfl, ?_⟩
    refine gk_iload4 dX11_seamGoes_82 (pc' := 84) rfl ?_
    refine gk_aload0 dX11_seamGoes_84 (pc' := 85) rfl ?_
    refine gk_getf (fs := [_, _, _, _, _, _, _, _, _, _, _, _, _, _, _, _, _, _, _, _, _, _, _, _, _, _]) gF_Mo_141 dX11_seamGoes_85 (pc' := 88) rfl (by exact (mkJ)) rfl ?_
    rw [show lkZ Z1 (pcS S (nI j1)).2.1 (pcS S (nI j1)).2.2.1 5 = nI (pcS S (nI j1)).2.2.1 from rfl]
    refine gk_cV0_4 mv_Mo_become gw_897 dX11_seamGoes_88 (pc' := 91) rfl (Nat.le_of_ble_eq_true rfl) (by exact (mkJ)) (sp_Mo_become hj1 ?_)
    refine ⟨rfl, ?_⟩
    refine gk_iconst (v := 0) dX11_seamGoes_91 (pc' := 92) rfl (by decide) ?_
    refine gk_istore5 dX11_seamGoes_92 (pc' := 94) rfl (by decide) rfl ?_
    have bc := bcF_row (f := A' 1) (j := j1) (k := (pcS S (nI j1)).1) ar2
    have q := lp_Mo_sgY (X := X) (h0 := h0) (m := m) (A := uA A' 1 (bcF (A' 1) j1 (pcS S (nI j1)).1 (nI (sgW (pcS S (nI j1)).2.1 how)) (nI (pcS S (nI j1)).2.2.1))) (Z := lkZ Z1 (pcS S (nI j1)).2.1 (pcS S (nI j1)).2.2.1) (d := d) (b := b) (Q := Q) (j := j1) (w := (pcS S (nI j1)).2.1) (t := (pcS S (nI j1)).2.2.1) (nw := sgW (pcS S (nI j1)).2.1 how) (how := how) (tot := tot) (k := (pcS S (nI j1)).1) hj1 okk.2.1 okk.2.2.1 rfl ⟨g1, g2⟩ rfl rfl (fun y hy => by rw [uA_n (by decide), uA_n (by decide), b3 y hy]; exact congrArg nI (seamCol_congr okk.2.1.1 okk.2.2.1.1 l9 y).symm) (by rw [uA_s]; exact ⟨bc.1, bc.2.1, bc.2.2.1⟩) (by
      rw [show (uA A' 1 (bcF (A' 1) j1 (pcS S (nI j1)).1 (nI (sgW (pcS S (nI j1)).2.1 how)) (nI (pcS S (nI j1)).2.2.1))) 9 = A' 9 from uA_n (by decide), uA_u, uA_s]
      exact hE _ (kP S j1 ((pcS S (nI j1)).1, sgW (pcS S (nI j1)).2.1 how, (pcS S (nI j1)).2.2.1, sgF (pcS S (nI j1)).2.1 (pcS S (nI j1)).2.2.1 (pcS S (nI j1)).2.2.2 how)) _ _ ((if_pos ⟨by omega, by omega⟩).trans ((if_pos ⟨hk, g1, g2⟩).trans (by rw [nI_nat (j := j1) (by omega)]))) (hBg.actP hw.1 (by rw [a1 1 (by decide)]; exact hS.1) (fun i h1 h2 => by rw [uA_n (by omega)]; exact b1 i (by omega)) (fun i hi => lkZ_n hi) hj1 (by rw [uA_s]; exact (fd_row (c := ((pcS S (nI j1)).1, sgW (pcS S (nI j1)).2.1 how, (pcS S (nI j1)).2.2.1, fun _ => 0)) bc).congr (fun i hi => sgF_congr okk.2.1.1 okk.2.2.1.1 l9 hi (by omega))) (fun q hq => by rw [uA_s, fd_out ar2 q hq, bcF_out q hq, b1 1 (by decide)]))) (pcS S (nI j1)).2.2.1 0 none none (by omega)
    rw [Nat.zero_mul, fdF_0, uA_i] at q
    exact q
  refine Gm.enter (L := [some (.ref m), some (.int p), some (.int how), none, none, none, none, none]) (by decide) (fun _ => trivial) (Nat.le_of_ble_eq_true rfl) rfl ?_
  refine gk_iload1 dX11_seamGoes_0 (pc' := 1) rfl ?_
  refine gk_cS1_1 mz_Mo_isPicture gw_882 dX11_seamGoes_1 (pc' := 4) rfl (Nat.le_of_ble_eq_true rfl) (sp_Mo_isPicture (fun j1 hj1 ej1 => ?_) (fun n1 => ?_))
  · refine ⟨_, rfl, ?_⟩
    subst ej1
    have zj1 : (nI j1).toInt = j1 := nI_toInt (by omega)
    have yj1 : (nI j1).toInt.toNat = j1 := by omega
    have pr1 := hS.picS hj1
    have ok1 := hw.okp hj1
    have wt1 := ok1.wt
    have ar1 := ok1.ar
    refine gk_if_eq dX11_seamGoes_4 (tgt := 17) (pc' := 7) (by decide) rfl (fun c => absurd c (by decide)) (fun _ => ?_)
    refine gk_iload2 dX11_seamGoes_7 (pc' := 8) rfl ?_
    refine gk_i2l dX11_seamGoes_8 (pc' := 9) rfl ?_
    refine gk_lconst (v := 0) dX11_seamGoes_9 (pc' := 10) rfl (by decide) ?_
    refine gk_lconst (v := 1) dX11_seamGoes_10 (pc' := 11) rfl (by decide) ?_
    refine gk_cS1_3 mz_Mo_in gw_886 dX11_seamGoes_11 (pc' := 14) rfl (Nat.le_of_ble_eq_true rfl) (sp_Mo_in (fun u11 v11 => ?_) (fun n11 => ?_))
    · refine ⟨_, rfl, ?_⟩
      refine gk_if_ne dX11_seamGoes_14 (tgt := 20) (pc' := 17) (by decide) rfl (fun _ => ?_) (fun c => absurd c (by decide))
      refine gk_aload0 dX11_seamGoes_20 (pc' := 21) rfl ?_
      refine gk_iload1 dX11_seamGoes_21 (pc' := 22) rfl ?_
      refine gk_cV1_1 mv_Mo_isThere gw_905 dX11_seamGoes_22 (pc' := 25) rfl (Nat.le_of_ble_eq_true rfl) (by exact (mkJ)) (sp_Mo_isThere pr1 hj1 ok1 (fun k22 => ?_) (fun k22 => ?_))
      · refine ⟨_, rfl, ?_⟩
        have okk := ok1.kind k22
        refine gk_if_eq dX11_seamGoes_25 (tgt := 46) (pc' := 28) (by decide) rfl (fun c => absurd c (by decide)) (fun _ => ?_)
        refine gk_aload0 dX11_seamGoes_28 (pc' := 29) rfl ?_
        refine gk_iload1 dX11_seamGoes_29 (pc' := 30) rfl ?_
        refine gk_cV1_1 mv_Mo_wide gw_913 dX11_seamGoes_30 (pc' := 33) rfl (Nat.le_of_ble_eq_true rfl) (by exact (mkJ)) (sp_Mo_wide pr1 hj1 ?_)
        refine ⟨_, rfl, ?_⟩
        refine gk_iload2 dX11_seamGoes_33 (pc' := 34) rfl ?_
        refine gk_if_ne dX11_seamGoes_34 (tgt := 41) (pc' := 37) (by decide) rfl (fun c34 => ?_) (fun c34 => ?_)
        · have c34 : ¬ how = 0 := c34
          refine gk_bipush (v := 16) dX11_seamGoes_41 (pc' := 43) rfl (by decide) ?_
          refine gk_icmp_ne dX11_seamGoes_43 (tgt := 49) (pc' := 46) (by decide) rfl (fun c43 => ?_) (fun c43 => ?_)
          · have k43 : 1 ≤ sgW (pcS S (nI j1)).2.1 how ∧ sgW (pcS S (nI j1)).2.1 how ≤ 16 := by first | (have : ¬ (pcS S (nI j1)).2.1 = 1 := (fun e => c43 (by rw [e]; rfl)); unfold sgW; rw [if_pos c34]; omega) | (have : ¬ (pcS S (nI j1)).2.1 = 16 := (fun e => c43 (by rw [e]; rfl)); unfold sgW; rw [if_neg c34]; omega)
            refine gk_aload0 dX11_seamGoes_49 (pc' := 50) rfl ?_
            refine gk_cV0_0 mv_Mo_begin gw_892 dX11_seamGoes_50 (pc' := 53) rfl (Nat.le_of_ble_eq_true rfl) (by exact (mkJ)) (sp_Mo_begin hS hw.1 (fun A1 Z1 a1 a2 hBg => ?_))
            refine ⟨rfl, ?_⟩
            have pr2 : pRow (A1 1) (259 * j1) (pcS S (nI j1)) := by rw [a1 1 (by decide)]; exact pr1
            refine gk_aload0 dX11_seamGoes_53 (pc' := 54) rfl ?_
            refine gk_iload1 dX11_seamGoes_54 (pc' := 55) rfl ?_
            refine gk_cV1_1 mv_Mo_laySeam gw_1115 dX11_seamGoes_55 (pc' := 58) rfl (Nat.le_of_ble_eq_true rfl) (by exact (mkJ)) (sp_Mo_laySeam pr2 hj1 ok1 k22 (fun A' b1 b2 b3 => ?_))
            refine ⟨_, rfl, ?_⟩
            refine gk_istore3 dX11_seamGoes_58 (pc' := 59) rfl (by decide) rfl ?_
            refine gk_aload0 dX11_seamGoes_59 (pc' := 60) rfl ?_
            refine gk_getf (fs := [_, _, _, _, _, _, _, _, _, _, _, _, _, _, _, _, _, _, _, _, _, _, _, _, _, _]) gF_Mo_138 dX11_seamGoes_60 (pc' := 63) rfl (by exact (mkJ)) rfl ?_
            rw [show lkZ Z1 (pcS S (nI j1)).2.1 (pcS S (nI j1)).2.2.1 4 = nI (pcS S (nI j1)).2.1 from rfl]
            refine gk_iload2 dX11_seamGoes_63 (pc' := 64) rfl ?_
            refine gk_if_ne dX11_seamGoes_64 (tgt := 71) (pc' := 67) (by decide) rfl (fun c64 => ?_) (fun c64 => ?_)
            · have c64 : ¬ how = 0 := c64
              refine gk_iconst (v := 1) dX11_seamGoes_71 (pc' := 72) rfl (by decide) ?_
              refine gk_iadd dX11_seamGoes_72 (pc' := 73) rfl ?_
              first | exact absurd c34 c64 | exact absurd c64 c34 | exact fin j1 A1 A' Z1 _ _ hj1 rfl ⟨by omega, by omega⟩ k22 k43.1 k43.2 a1 hBg b1 b2 b3 (by unfold sgW; first | (rw [if_pos c34]; obtain ⟨w', ew⟩ : ∃ w', (pcS S (nI j1)).2.1 = w' + 1 := ⟨(pcS S (nI j1)).2.1 - 1, by omega⟩; rw [ew, Nat.add_sub_cancel]; exact nI_predm (by omega)) | (rw [if_neg c34]; exact (nI_succ _).symm))
            · have c64 : how = 0 := c64
              refine gk_iconst (v := -1) dX11_seamGoes_67 (pc' := 68) rfl (by decide) ?_
              refine gk_goto dX11_seamGoes_68 (tgt := 72) (by decide) ?_
              refine gk_iadd dX11_seamGoes_72 (pc' := 73) rfl ?_
              first | exact absurd c34 c64 | exact absurd c64 c34 | exact fin j1 A1 A' Z1 _ _ hj1 rfl ⟨by omega, by omega⟩ k22 k43.1 k43.2 a1 hBg b1 b2 b3 (by unfold sgW; first | (rw [if_pos c34]; obtain ⟨w', ew⟩ : ∃ w', (pcS S (nI j1)).2.1 = w' + 1 := ⟨(pcS S (nI j1)).2.1 - 1, by omega⟩; rw [ew, Nat.add_sub_cancel]; exact nI_predm (by omega)) | (rw [if_neg c34]; exact (nI_succ _).symm))
          · have k43 : ¬ (1 ≤ sgW (pcS S (nI j1)).2.1 how ∧ sgW (pcS S (nI j1)).2.1 how ≤ 16) := by first | (have : (pcS S (nI j1)).2.1 = 1 := nI_inj (by omega) (by omega) (c43.trans zo); unfold sgW; rw [if_pos c34]; omega) | (have : (pcS S (nI j1)).2.1 = 16 := nI_inj (by omega) (by omega) (c43.trans z16); unfold sgW; rw [if_neg c34]; omega)
            refine gk_ldc dX11_seamGoes_46 (pc' := 48) rfl gw_869 ?_
            refine gk_iret dX11_seamGoes_48 rfl (hB _ ((if_pos (by omega)).trans (if_neg (fun z => by first | exact z.1 k22 | exact k43 z.2))))
        · have c34 : how = 0 := c34
          refine gk_iconst (v := 1) dX11_seamGoes_37 (pc' := 38) rfl (by decide) ?_
          refine gk_goto dX11_seamGoes_38 (tgt := 43) (by decide) ?_
          refine gk_icmp_ne dX11_seamGoes_43 (tgt := 49) (pc' := 46) (by decide) rfl (fun c43 => ?_) (fun c43 => ?_)
          · have k43 : 1 ≤ sgW (pcS S (nI j1)).2.1 how ∧ sgW (pcS S (nI j1)).2.1 how ≤ 16 := by first | (have : ¬ (pcS S (nI j1)).2.1 = 1 := (fun e => c43 (by rw [e]; rfl)); unfold sgW; rw [if_pos c34]; omega) | (have : ¬ (pcS S (nI j1)).2.1 = 16 := (fun e => c43 (by rw [e]; rfl)); unfold sgW; rw [if_neg c34]; omega)
            refine gk_aload0 dX11_seamGoes_49 (pc' := 50) rfl ?_
            refine gk_cV0_0 mv_Mo_begin gw_892 dX11_seamGoes_50 (pc' := 53) rfl (Nat.le_of_ble_eq_true rfl) (by exact (mkJ)) (sp_Mo_begin hS hw.1 (fun A1 Z1 a1 a2 hBg => ?_))
            refine ⟨rfl, ?_⟩
            have pr2 : pRow (A1 1) (259 * j1) (pcS S (nI j1)) := by rw [a1 1 (by decide)]; exact pr1
            refine gk_aload0 dX11_seamGoes_53 (pc' := 54) rfl ?_
            refine gk_iload1 dX11_seamGoes_54 (pc' := 55) rfl ?_
            refine gk_cV1_1 mv_Mo_laySeam gw_1115 dX11_seamGoes_55 (pc' := 58) rfl (Nat.le_of_ble_eq_true rfl) (by exact (mkJ)) (sp_Mo_laySeam pr2 hj1 ok1 k22 (fun A' b1 b2 b3 => ?_))
            refine ⟨_, rfl, ?_⟩
            refine gk_istore3 dX11_seamGoes_58 (pc' := 59) rfl (by decide) rfl ?_
            refine gk_aload0 dX11_seamGoes_59 (pc' := 60) rfl ?_
            refine gk_getf (fs := [_, _, _, _, _, _, _, _, _, _, _, _, _, _, _, _, _, _, _, _, _, _, _, _, _, _]) gF_Mo_138 dX11_seamGoes_60 (pc' := 63) rfl (by exact (mkJ)) rfl ?_
            rw [show lkZ Z1 (pcS S (nI j1)).2.1 (pcS S (nI j1)).2.2.1 4 = nI (pcS S (nI j1)).2.1 from rfl]
            refine gk_iload2 dX11_seamGoes_63 (pc' := 64) rfl ?_
            refine gk_if_ne dX11_seamGoes_64 (tgt := 71) (pc' := 67) (by decide) rfl (fun c64 => ?_) (fun c64 => ?_)
            · have c64 : ¬ how = 0 := c64
              refine gk_iconst (v := 1) dX11_seamGoes_71 (pc' := 72) rfl (by decide) ?_
              refine gk_iadd dX11_seamGoes_72 (pc' := 73) rfl ?_
              first | exact absurd c34 c64 | exact absurd c64 c34 | exact fin j1 A1 A' Z1 _ _ hj1 rfl ⟨by omega, by omega⟩ k22 k43.1 k43.2 a1 hBg b1 b2 b3 (by unfold sgW; first | (rw [if_pos c34]; obtain ⟨w', ew⟩ : ∃ w', (pcS S (nI j1)).2.1 = w' + 1 := ⟨(pcS S (nI j1)).2.1 - 1, by omega⟩; rw [ew, Nat.add_sub_cancel]; exact nI_predm (by omega)) | (rw [if_neg c34]; exact (nI_succ _).symm))
            · have c64 : how = 0 := c64
              refine gk_iconst (v := -1) dX11_seamGoes_67 (pc' := 68) rfl (by decide) ?_
              refine gk_goto dX11_seamGoes_68 (tgt := 72) (by decide) ?_
              refine gk_iadd dX11_seamGoes_72 (pc' := 73) rfl ?_
              first | exact absurd c34 c64 | exact absurd c64 c34 | exact fin j1 A1 A' Z1 _ _ hj1 rfl ⟨by omega, by omega⟩ k22 k43.1 k43.2 a1 hBg b1 b2 b3 (by unfold sgW; first | (rw [if_pos c34]; obtain ⟨w', ew⟩ : ∃ w', (pcS S (nI j1)).2.1 = w' + 1 := ⟨(pcS S (nI j1)).2.1 - 1, by omega⟩; rw [ew, Nat.add_sub_cancel]; exact nI_predm (by omega)) | (rw [if_neg c34]; exact (nI_succ _).symm))
          · have k43 : ¬ (1 ≤ sgW (pcS S (nI j1)).2.1 how ∧ sgW (pcS S (nI j1)).2.1 how ≤ 16) := by first | (have : (pcS S (nI j1)).2.1 = 1 := nI_inj (by omega) (by omega) (c43.trans zo); unfold sgW; rw [if_pos c34]; omega) | (have : (pcS S (nI j1)).2.1 = 16 := nI_inj (by omega) (by omega) (c43.trans z16); unfold sgW; rw [if_neg c34]; omega)
            refine gk_ldc dX11_seamGoes_46 (pc' := 48) rfl gw_869 ?_
            refine gk_iret dX11_seamGoes_48 rfl (hB _ ((if_pos (by omega)).trans (if_neg (fun z => by first | exact z.1 k22 | exact k43 z.2))))
      · refine ⟨_, rfl, ?_⟩
        refine gk_if_eq dX11_seamGoes_25 (tgt := 46) (pc' := 28) (by decide) rfl (fun _ => ?_) (fun c => absurd c (by decide))
        refine gk_ldc dX11_seamGoes_46 (pc' := 48) rfl gw_869 ?_
        refine gk_iret dX11_seamGoes_48 rfl (hB _ ((if_pos (by omega)).trans (if_neg (fun z => by first | exact z.1 k22 | exact k43 z.2))))
    · refine ⟨_, rfl, ?_⟩
      refine gk_if_ne dX11_seamGoes_14 (tgt := 20) (pc' := 17) (by decide) rfl (fun c => absurd c (by decide)) (fun _ => ?_)
      refine gk_ldc dX11_seamGoes_17 (pc' := 19) rfl gw_891 ?_
      refine gk_iret dX11_seamGoes_19 rfl (hB _ (if_neg (by omega)))
  · refine ⟨_, rfl, ?_⟩
    refine gk_if_eq dX11_seamGoes_4 (tgt := 17) (pc' := 7) (by decide) rfl (fun _ => ?_) (fun c => absurd c (by decide))
    refine gk_ldc dX11_seamGoes_17 (pc' := 19) rfl gw_891 ?_
    refine gk_iret dX11_seamGoes_19 rfl (hB _ (if_neg (by omega)))
theorem sp_Mo_addRun {v : Int32} {n : Nat} (hz : Z 6 = nI n) (hn : n < 800) (hQ : Q none (mkH X h0 m (uA A 19 (upd (A 19) n (v &&& 255))) (upd Z 6 (nI (n + 1))))) : Gm (kx X) mt_Mo_addRun d b [.ref m, .int v] (mkH X h0 m A Z) Q := by
  refine Gm.enter (L := [some (.ref m), some (.int v)]) (by decide) (fun _ => trivial) (Nat.le_of_ble_eq_true rfl) rfl ?_
  refine gk_aload0 dX11_addRun_0 (pc' := 1) rfl ?_
  refine gk_getf (fs := [_, _, _, _, _, _, _, _, _, _, _, _, _, _, _, _, _, _, _, _, _, _, _, _, _, _]) gF_Mo_66 dX11_addRun_1 (pc' := 4) rfl (by exact (mkJ)) rfl ?_
  refine gk_aload0 dX11_addRun_4 (pc' := 5) rfl ?_
  refine gk_getf (fs := [_, _, _, _, _, _, _, _, _, _, _, _, _, _, _, _, _, _, _, _, _, _, _, _, _, _]) gF_Mo_257 dX11_addRun_5 (pc' := 8) rfl (by exact (mkJ)) rfl ?_
  rw [hz]
  refine gk_iload1 dX11_addRun_8 (pc' := 9) rfl ?_
  refine gk_sipush (v := 255) dX11_addRun_9 (pc' := 12) rfl (by decide) ?_
  refine gk_iand dX11_addRun_12 (pc' := 13) rfl ?_
  refine gk_iast (t0 := 0) rfl dX11_addRun_13 (pc' := 14) rfl (by exact (mkA19)) (vp_in_nI (by omega) (by decide)) ?_
  rw [nI_clamp (by omega), mkS19]
  refine gk_aload0 dX11_addRun_14 (pc' := 15) rfl ?_
  refine gk_dup dX11_addRun_15 (pc' := 16) rfl rfl ?_
  refine gk_getf (fs := [_, _, _, _, _, _, _, _, _, _, _, _, _, _, _, _, _, _, _, _, _, _, _, _, _, _]) gF_Mo_257 dX11_addRun_16 (pc' := 19) rfl (by exact (mkJ)) rfl ?_
  rw [hz]
  refine gk_iconst (v := nI 1) dX11_addRun_19 (pc' := 20) rfl (by decide) ?_
  refine gk_iaddN dX11_addRun_20 (pc' := 21) rfl ?_
  refine gk_putf (fs := [_, _, _, _, _, _, _, _, _, _, _, _, _, _, _, _, _, _, _, _, _, _, _, _, _, _]) gP_Mo_257 dX11_addRun_21 (pc' := 24) rfl (by exact (mkJ)) rfl rfl (Nat.le_of_ble_eq_true rfl) ?_
  rw [mkP6]
  refine gk_vret dX11_addRun_24 rfl hQ
/-- the bytes bs stand in f -/
def rbS (f : Nat → Int32) (bs : List Int32) : Prop := ∀ i, i < bs.length → bs[i]? = some (f i)
theorem rbS.add {f : Nat → Int32} {bs : List Int32} (h : rbS f bs) (v : Int32) : rbS (upd f bs.length v) (bs ++ [v]) := fun i hi => by
  rw [List.length_append] at hi
  have hi : i < bs.length + 1 := hi
  by_cases e : i = bs.length
  · subst e
    rw [pk_us, List.getElem?_append_right (Nat.le_refl _), Nat.sub_self]
    rfl
  · rw [pk_un e, List.getElem?_append_left (by omega)]
    exact h i (by omega)
theorem nI_255 {n : Nat} (h : n ≤ 255) : nI n &&& 255 = nI n := by
  have : ∀ n, n < 256 → nI n &&& 255 = nI n := by decide +kernel
  exact this n (by omega)
theorem sp_Mo_addR {v : Int32} {f : Nat → Int32} {bs : List Int32} (hb : rbS f bs) (hn : bs.length < 800) (hQ : ∀ f', rbS f' (bs ++ [v &&& 255]) → Q none (mkH X h0 m (uA A 19 f') (upd Z 6 (nI (bs ++ [v &&& 255]).length)))) : Gm (kx X) mt_Mo_addRun d b [.ref m, .int v] (mkH X h0 m (uA A 19 f) (upd Z 6 (nI bs.length))) Q := by
  refine sp_Mo_addRun pk_us hn ?_
  rw [uA_s, uA_u, upd_upd]
  have := hQ _ (hb.add (v &&& 255))
  rw [List.length_append] at this
  exact this
theorem lp_Mo_runsIn {j n s : Nat} {c : Pc} {f : Nat → Int32} {z : Int32} (hp : pRow (A 1) (259 * j) c) (hj : j < 8) (hn : n = c.2.1 * c.2.2.1) (ar : n ≤ 256) (hs : s < n) (hQ : G (kx X) mt_Mo_layRuns (d + 2) b 108 [some (.ref m), some (.int (nI j)), some (.int (nI n)), some (.int (nI s)), some (.int (c.2.2.2 s)), some (.int (nI (rl c.2.2.2 n s)))] [] (mkH X h0 m (uA A 19 f) (upd Z 6 z)) Q) : ∀ ff mm, s + mm + ff = n → 1 ≤ mm → mm ≤ 255 → rl c.2.2.2 n s = rlF c.2.2.2 s (n - (s + mm)) mm → G (kx X) mt_Mo_layRuns (d + 2) b 64 [some (.ref m), some (.int (nI j)), some (.int (nI n)), some (.int (nI s)), some (.int (c.2.2.2 s)), some (.int (nI mm))] [] (mkH X h0 m (uA A 19 f) (upd Z 6 z)) Q := by
  have z255 : (255 : Int32) = nI 255 := rfl
  intro ff
  induction ff with
  | zero =>
    intro mm h1 h2 h25 h3
    have e : rl c.2.2.2 n s = mm := by rw [h3, show n - (s + mm) = 0 by omega]; rfl
    rw [e] at hQ
    refine gk_iload3 dX11_layRuns_64 (pc' := 65) rfl ?_
    refine gk_iload5 dX11_layRuns_65 (pc' := 67) rfl ?_
    refine gk_iaddN dX11_layRuns_67 (pc' := 68) rfl ?_
    refine gk_iload2 dX11_layRuns_68 (pc' := 69) rfl ?_
    refine gk_icmp_ge dX11_layRuns_69 (tgt := 108) (pc' := 72) (by decide) rfl (fun c69 => ?_) (fun c69 => absurd (nI_le (by omega) (by omega)) c69)
    exact hQ
  | succ ff ih =>
    intro mm h1 h2 h25 h3
    obtain ⟨g, hg⟩ : ∃ g, n - (s + mm) = g + 1 := ⟨n - (s + mm) - 1, by omega⟩
    rw [hg, rlF] at h3
    have ep : uA A 19 f 1 (259 * j + 3 + s + mm) = c.2.2.2 (s + mm) := by
      rw [uA_n (by decide), Nat.add_assoc (259 * j + 3)]
      exact hp.2.2.2 _ (by omega)
    refine gk_iload3 dX11_layRuns_64 (pc' := 65) rfl ?_
    refine gk_iload5 dX11_layRuns_65 (pc' := 67) rfl ?_
    refine gk_iaddN dX11_layRuns_67 (pc' := 68) rfl ?_
    refine gk_iload2 dX11_layRuns_68 (pc' := 69) rfl ?_
    refine gk_icmp_ge dX11_layRuns_69 (tgt := 108) (pc' := 72) (by decide) rfl (fun c69 => absurd c69 (nI_ge (by omega) (by omega))) (fun c69 => ?_)
    refine gk_iload5 dX11_layRuns_72 (pc' := 74) rfl ?_
    refine gk_sipush (v := 255) dX11_layRuns_74 (pc' := 77) rfl (by decide) ?_
    refine gk_icmp_ge dX11_layRuns_77 (tgt := 108) (pc' := 80) (by decide) rfl (fun c77 => ?_) (fun c77 => ?_)
    · have q : mm = 255 := by have := (nI_leI (a := 255) (by omega) (by omega)).mp c77; omega
      rw [if_pos (Or.inl q)] at h3
      rw [h3] at hQ
      exact hQ
    · have q : ¬ mm = 255 := fun e => c77 (by rw [e]; decide)
      refine gk_aload0 dX11_layRuns_80 (pc' := 81) rfl ?_
      refine gk_getf (fs := [_, _, _, _, _, _, _, _, _, _, _, _, _, _, _, _, _, _, _, _, _, _, _, _, _, _]) gF_Mo_7 dX11_layRuns_81 (pc' := 84) rfl (by exact (mkJ)) rfl ?_
      refine gk_sipush (v := nI 259) dX11_layRuns_84 (pc' := 87) rfl (by decide) ?_
      refine gk_iload1 dX11_layRuns_87 (pc' := 88) rfl ?_
      refine gk_imulN dX11_layRuns_88 (pc' := 89) rfl ?_
      refine gk_iconst (v := nI 3) dX11_layRuns_89 (pc' := 90) rfl (by decide) ?_
      refine gk_iaddN dX11_layRuns_90 (pc' := 91) rfl ?_
      refine gk_iload3 dX11_layRuns_91 (pc' := 92) rfl ?_
      refine gk_iaddN dX11_layRuns_92 (pc' := 93) rfl ?_
      refine gk_iload5 dX11_layRuns_93 (pc' := 95) rfl ?_
      refine gk_iaddN dX11_layRuns_95 (pc' := 96) rfl ?_
      refine gk_iald (t0 := 0) rfl dX11_layRuns_96 (pc' := 97) rfl (by exact (mkA1)) (vp_in_nI (by omega) (by decide)) ?_
      rw [nI_clamp (by omega)]
      rw [ep]
      refine gk_iload4 dX11_layRuns_97 (pc' := 99) rfl ?_
      refine gk_icmp_ne dX11_layRuns_99 (tgt := 108) (pc' := 102) (by decide) rfl (fun c99 => ?_) (fun c99 => ?_)
      · rw [if_pos (Or.inr (fun e => c99 e))] at h3
        rw [h3] at hQ
        exact hQ
      · have c99 : c.2.2.2 (s + mm) = c.2.2.2 s := c99
        refine gk_iinc5 (v := 1) dX11_layRuns_102 (pc' := 105) rfl (by decide) (by decide) rfl ?_
        refine gk_goto dX11_layRuns_105 (tgt := 64) (by decide) ?_
        rw [← nI_succ]
        refine ih (mm + 1) (by omega) (by omega) (by omega) ?_
        rw [h3, if_neg (fun z => z.elim (by omega) (fun z => z (by rw [c99]))), show n - (s + (mm + 1)) = g by omega]
theorem lp_Mo_layRuns {j n : Nat} {c : Pc} {full : List Int32} (hp : pRow (A 1) (259 * j) c) (hj : j < 8) (hk : c.1 = 0 ∨ c.1 = 1) (hn : n = c.2.1 * c.2.2.1) (ar : n ≤ 256) (hfull : full.length < 790) (hQ : ∀ f, rbS f full → Q none (mkH X h0 m (uA A 19 f) (upd Z 6 (nI full.length)))) : ∀ ff s f bs l4 l5, n - s ≤ ff → s ≤ n → rbS f bs → bs ++ rb c.1 c.2.2.2 n s = full → G (kx X) mt_Mo_layRuns (d + 2) b 40 [some (.ref m), some (.int (nI j)), some (.int (nI n)), some (.int (nI s)), l4, l5] [] (mkH X h0 m (uA A 19 f) (upd Z 6 (nI bs.length))) Q := by
  intro ff
  induction ff with
  | zero =>
    intro s f bs l4 l5 h1 h2 hb he
    have e : bs = full := by rw [← he, rb_end (by omega), List.append_nil]
    subst e
    refine gk_iload3 dX11_layRuns_40 (pc' := 41) rfl ?_
    refine gk_iload2 dX11_layRuns_41 (pc' := 42) rfl ?_
    refine gk_icmp_ge dX11_layRuns_42 (tgt := 146) (pc' := 45) (by decide) rfl (fun c42 => ?_) (fun c42 => absurd (nI_le (by omega) (by omega)) c42)
    refine gk_vret dX11_layRuns_146 rfl (hQ f hb)
  | succ ff ih =>
    intro s f bs l4 l5 h1 h2 hb he
    by_cases hs : s < n
    · have h3 := rl_pos c.2.2.2 n s
      have h4 := rl_le (p := c.2.2.2) hs
      have h5 := rl_255 c.2.2.2 n s
      rw [rb_step hs] at he
      have ep : uA A 19 f 1 (259 * j + 3 + s) = c.2.2.2 s := by
        rw [uA_n (by decide)]
        exact hp.2.2.2 _ (by omega)
      have hlen := congrArg List.length he
      rw [List.length_append, List.length_append, segB_len] at hlen
      have pr : ∀ f', pRow (uA A 19 f' 1) (259 * j) c := fun f' => by rw [uA_n (by decide)]; exact hp
      have body : G (kx X) mt_Mo_layRuns (d + 2) b 108 [some (.ref m), some (.int (nI j)), some (.int (nI n)), some (.int (nI s)), some (.int (c.2.2.2 s)), some (.int (nI (rl c.2.2.2 n s)))] [] (mkH X h0 m (uA A 19 f) (upd Z 6 (nI bs.length))) Q := by
        have n255 := nI_255 h5
        generalize rl c.2.2.2 n s = r at *
        rcases hk with k0 | k1
        · have es : segB c.1 (c.2.2.2 s) r = [nI r, c.2.2.2 s &&& 255] := by unfold segB pB; rw [if_neg (by rw [k0]; decide), if_neg (by rw [k0]; exact fun z => absurd z.1 (by decide))]
          rw [es] at he
          rw [if_neg (by rw [k0]; decide)] at hlen
          refine gk_aload0 dX11_layRuns_108 (pc' := 109) rfl ?_
          refine gk_iload5 dX11_layRuns_109 (pc' := 111) rfl ?_
          refine gk_cV0_1 mv_Mo_addRun gw_1135 dX11_layRuns_111 (pc' := 114) rfl (Nat.le_of_ble_eq_true rfl) (by exact (mkJ)) (sp_Mo_addR hb (by omega) (fun f1 y1 => ?_))
          refine ⟨rfl, ?_⟩
          rw [n255] at y1
          rw [n255]
          refine gk_aload0 dX11_layRuns_114 (pc' := 115) rfl ?_
          refine gk_iload1 dX11_layRuns_115 (pc' := 116) rfl ?_
          refine gk_cV1_1 mv_Mo_kindOf gw_921 dX11_layRuns_116 (pc' := 119) rfl (Nat.le_of_ble_eq_true rfl) (by exact (mkJ)) (sp_Mo_kindOf (pr f1) hj ?_)
          refine ⟨_, rfl, ?_⟩
          refine gk_iconst (v := 1) dX11_layRuns_119 (pc' := 120) rfl (by decide) ?_
          refine gk_icmp_ne dX11_layRuns_120 (tgt := 132) (pc' := 123) (by decide) rfl (fun c120 => ?_) (fun c120 => absurd c120 (by rw [k0]; decide))
          refine gk_aload0 dX11_layRuns_132 (pc' := 133) rfl ?_
          refine gk_iload4 dX11_layRuns_133 (pc' := 135) rfl ?_
          refine gk_cV0_1 mv_Mo_addRun gw_1135 dX11_layRuns_135 (pc' := 138) rfl (Nat.le_of_ble_eq_true rfl) (by exact (mkJ)) (sp_Mo_addR y1 (by rw [List.length_append]; show bs.length + 1 < 800; omega) (fun f2 y2 => ?_))
          refine ⟨rfl, ?_⟩
          refine gk_iload3 dX11_layRuns_138 (pc' := 139) rfl ?_
          refine gk_iload5 dX11_layRuns_139 (pc' := 141) rfl ?_
          refine gk_iaddN dX11_layRuns_141 (pc' := 142) rfl ?_
          refine gk_istore3 dX11_layRuns_142 (pc' := 143) rfl (by decide) rfl ?_
          refine gk_goto dX11_layRuns_143 (tgt := 40) (by decide) ?_
          refine ih (s + r) f2 _ _ _ (by omega) (by omega) y2 ?_
          rw [← he, List.append_assoc, List.append_assoc]
          rfl
        · have es : segB c.1 (c.2.2.2 s) r = [nI r, (c.2.2.2 s >>> (8 &&& 31)) &&& 255, c.2.2.2 s &&& 255] := by unfold segB pB; rw [if_pos k1, if_pos ⟨k1, rfl⟩, if_neg (fun z => absurd z.2 (by decide))]
          rw [es] at he
          rw [if_pos k1] at hlen
          refine gk_aload0 dX11_layRuns_108 (pc' := 109) rfl ?_
          refine gk_iload5 dX11_layRuns_109 (pc' := 111) rfl ?_
          refine gk_cV0_1 mv_Mo_addRun gw_1135 dX11_layRuns_111 (pc' := 114) rfl (Nat.le_of_ble_eq_true rfl) (by exact (mkJ)) (sp_Mo_addR hb (by omega) (fun f1 y1 => ?_))
          refine ⟨rfl, ?_⟩
          rw [n255] at y1
          rw [n255]
          refine gk_aload0 dX11_layRuns_114 (pc' := 115) rfl ?_
          refine gk_iload1 dX11_layRuns_115 (pc' := 116) rfl ?_
          refine gk_cV1_1 mv_Mo_kindOf gw_921 dX11_layRuns_116 (pc' := 119) rfl (Nat.le_of_ble_eq_true rfl) (by exact (mkJ)) (sp_Mo_kindOf (pr f1) hj ?_)
          refine ⟨_, rfl, ?_⟩
          refine gk_iconst (v := 1) dX11_layRuns_119 (pc' := 120) rfl (by decide) ?_
          refine gk_icmp_ne dX11_layRuns_120 (tgt := 132) (pc' := 123) (by decide) rfl (fun c120 => absurd k1 c120) (fun c120 => ?_)
          refine gk_aload0 dX11_layRuns_123 (pc' := 124) rfl ?_
          refine gk_iload4 dX11_layRuns_124 (pc' := 126) rfl ?_
          refine gk_bipush (v := 8) dX11_layRuns_126 (pc' := 128) rfl (by decide) ?_
          refine gk_ishr dX11_layRuns_128 (pc' := 129) rfl ?_
          refine gk_cV0_1 mv_Mo_addRun gw_1135 dX11_layRuns_129 (pc' := 132) rfl (Nat.le_of_ble_eq_true rfl) (by exact (mkJ)) (sp_Mo_addR y1 (by rw [List.length_append]; show bs.length + 1 < 800; omega) (fun f2 y2 => ?_))
          refine ⟨rfl, ?_⟩
          refine gk_aload0 dX11_layRuns_132 (pc' := 133) rfl ?_
          refine gk_iload4 dX11_layRuns_133 (pc' := 135) rfl ?_
          refine gk_cV0_1 mv_Mo_addRun gw_1135 dX11_layRuns_135 (pc' := 138) rfl (Nat.le_of_ble_eq_true rfl) (by exact (mkJ)) (sp_Mo_addR y2 (by rw [List.length_append, List.length_append]; show bs.length + 1 + 1 < 800; omega) (fun f3 y3 => ?_))
          refine ⟨rfl, ?_⟩
          refine gk_iload3 dX11_layRuns_138 (pc' := 139) rfl ?_
          refine gk_iload5 dX11_layRuns_139 (pc' := 141) rfl ?_
          refine gk_iaddN dX11_layRuns_141 (pc' := 142) rfl ?_
          refine gk_istore3 dX11_layRuns_142 (pc' := 143) rfl (by decide) rfl ?_
          refine gk_goto dX11_layRuns_143 (tgt := 40) (by decide) ?_
          refine ih (s + r) f3 _ _ _ (by omega) (by omega) y3 ?_
          rw [← he, List.append_assoc, List.append_assoc, List.append_assoc]
          rfl
      refine gk_iload3 dX11_layRuns_40 (pc' := 41) rfl ?_
      refine gk_iload2 dX11_layRuns_41 (pc' := 42) rfl ?_
      refine gk_icmp_ge dX11_layRuns_42 (tgt := 146) (pc' := 45) (by decide) rfl (fun c42 => absurd c42 (nI_ge (by omega) (by omega))) (fun c42 => ?_)
      refine gk_aload0 dX11_layRuns_45 (pc' := 46) rfl ?_
      refine gk_getf (fs := [_, _, _, _, _, _, _, _, _, _, _, _, _, _, _, _, _, _, _, _, _, _, _, _, _, _]) gF_Mo_7 dX11_layRuns_46 (pc' := 49) rfl (by exact (mkJ)) rfl ?_
      refine gk_sipush (v := nI 259) dX11_layRuns_49 (pc' := 52) rfl (by decide) ?_
      refine gk_iload1 dX11_layRuns_52 (pc' := 53) rfl ?_
      refine gk_imulN dX11_layRuns_53 (pc' := 54) rfl ?_
      refine gk_iconst (v := nI 3) dX11_layRuns_54 (pc' := 55) rfl (by decide) ?_
      refine gk_iaddN dX11_layRuns_55 (pc' := 56) rfl ?_
      refine gk_iload3 dX11_layRuns_56 (pc' := 57) rfl ?_
      refine gk_iaddN dX11_layRuns_57 (pc' := 58) rfl ?_
      refine gk_iald (t0 := 0) rfl dX11_layRuns_58 (pc' := 59) rfl (by exact (mkA1)) (vp_in_nI (by omega) (by decide)) ?_
      rw [nI_clamp (by omega)]
      rw [ep]
      refine gk_istore4 dX11_layRuns_59 (pc' := 61) rfl (by decide) rfl ?_
      refine gk_iconst (v := 1) dX11_layRuns_61 (pc' := 62) rfl (by decide) ?_
      refine gk_istore5 dX11_layRuns_62 (pc' := 64) rfl (by decide) rfl ?_
      exact lp_Mo_runsIn hp hj hn ar hs body (n - (s + 1)) 1 (by omega) (by omega) (by omega) rfl
    · have e : bs = full := by rw [← he, rb_end (by omega), List.append_nil]
      subst e
      refine gk_iload3 dX11_layRuns_40 (pc' := 41) rfl ?_
      refine gk_iload2 dX11_layRuns_41 (pc' := 42) rfl ?_
      refine gk_icmp_ge dX11_layRuns_42 (tgt := 146) (pc' := 45) (by decide) rfl (fun c42 => ?_) (fun c42 => absurd (nI_le (by omega) (by omega)) c42)
      refine gk_vret dX11_layRuns_146 rfl (hQ f hb)
theorem sp_Mo_layRuns {j : Nat} {c : Pc} (hp : pRow (A 1) (259 * j) c) (hj : j < 8) (ok : okP c) (hk : ¬ c.1 = -1) (hQ : ∀ f, rbS f ([c.1, nI c.2.1, nI c.2.2.1] ++ rb c.1 c.2.2.2 (c.2.1 * c.2.2.1) 0) → Q none (mkH X h0 m (uA A 19 f) (upd Z 6 (nI ([c.1, nI c.2.1, nI c.2.2.1] ++ rb c.1 c.2.2.2 (c.2.1 * c.2.2.1) 0).length)))) : Gm (kx X) mt_Mo_layRuns (d + 2) b [.ref m, .int (nI j)] (mkH X h0 m A Z) Q := by
  have okk := ok.kind hk
  have ar := ok.ar
  have pr : ∀ f', pRow (uA A 19 f' 1) (259 * j) c := fun f' => by rw [uA_n (by decide)]; exact hp
  have hl := rb_len c.1 c.2.2.2 (c.2.1 * c.2.2.1) (c.2.1 * c.2.2.1) 0 (by omega)
  have hb0 : rbS (A 19) [] := fun i hi => absurd hi (Nat.not_lt_zero _)
  have k255 : c.1 &&& 255 = c.1 := by rcases okk.1 with z | z <;> rw [z] <;> decide
  have w255 := nI_255 (n := c.2.1) (by omega)
  have t255 := nI_255 (n := c.2.2.1) (by omega)
  have g11 : G (kx X) mt_Mo_layRuns (d + 2) b 5 [some (.ref m), some (.int (nI j)), none, none, none, none] [] (mkH X h0 m (uA A 19 (A 19)) (upd Z 6 (nI ([] : List Int32).length))) Q := by
    refine gk_aload0 dX11_layRuns_5 (pc' := 6) rfl ?_
    refine gk_aload0 dX11_layRuns_6 (pc' := 7) rfl ?_
    refine gk_iload1 dX11_layRuns_7 (pc' := 8) rfl ?_
    refine gk_cV1_1 mv_Mo_kindOf gw_921 dX11_layRuns_8 (pc' := 11) rfl (Nat.le_of_ble_eq_true rfl) (by exact (mkJ)) (sp_Mo_kindOf (pr _) hj ?_)
    refine ⟨_, rfl, ?_⟩
    refine gk_cV0_1 mv_Mo_addRun gw_1135 dX11_layRuns_11 (pc' := 14) rfl (Nat.le_of_ble_eq_true rfl) (by exact (mkJ)) (sp_Mo_addR hb0 (by decide) (fun f1 y1 => ?_))
    refine ⟨rfl, ?_⟩
    refine gk_aload0 dX11_layRuns_14 (pc' := 15) rfl ?_
    refine gk_aload0 dX11_layRuns_15 (pc' := 16) rfl ?_
    refine gk_iload1 dX11_layRuns_16 (pc' := 17) rfl ?_
    refine gk_cV1_1 mv_Mo_wide gw_913 dX11_layRuns_17 (pc' := 20) rfl (Nat.le_of_ble_eq_true rfl) (by exact (mkJ)) (sp_Mo_wide (pr f1) hj ?_)
    refine ⟨_, rfl, ?_⟩
    refine gk_cV0_1 mv_Mo_addRun gw_1135 dX11_layRuns_20 (pc' := 23) rfl (Nat.le_of_ble_eq_true rfl) (by exact (mkJ)) (sp_Mo_addR y1 (by show 1 < 800; decide) (fun f2 y2 => ?_))
    refine ⟨rfl, ?_⟩
    refine gk_aload0 dX11_layRuns_23 (pc' := 24) rfl ?_
    refine gk_aload0 dX11_layRuns_24 (pc' := 25) rfl ?_
    refine gk_iload1 dX11_layRuns_25 (pc' := 26) rfl ?_
    refine gk_cV1_1 mv_Mo_tall gw_917 dX11_layRuns_26 (pc' := 29) rfl (Nat.le_of_ble_eq_true rfl) (by exact (mkJ)) (sp_Mo_tall (pr f2) hj ?_)
    refine ⟨_, rfl, ?_⟩
    refine gk_cV0_1 mv_Mo_addRun gw_1135 dX11_layRuns_29 (pc' := 32) rfl (Nat.le_of_ble_eq_true rfl) (by exact (mkJ)) (sp_Mo_addR y2 (by show 2 < 800; decide) (fun f3 y3 => ?_))
    refine ⟨rfl, ?_⟩
    rw [k255, w255, t255] at y3
    rw [k255, w255, t255]
    refine gk_aload0 dX11_layRuns_32 (pc' := 33) rfl ?_
    refine gk_iload1 dX11_layRuns_33 (pc' := 34) rfl ?_
    refine gk_cV1_1 mv_Mo_pixels gw_940 dX11_layRuns_34 (pc' := 37) rfl (Nat.le_of_ble_eq_true rfl) (by exact (mkJ)) (sp_Mo_pixels (pr f3) hj ?_)
    refine ⟨_, rfl, ?_⟩
    refine gk_istore2 dX11_layRuns_37 (pc' := 38) rfl (by decide) rfl ?_
    refine gk_iconst (v := 0) dX11_layRuns_38 (pc' := 39) rfl (by decide) ?_
    refine gk_istore3 dX11_layRuns_39 (pc' := 40) rfl (by decide) rfl ?_
    exact lp_Mo_layRuns hp hj okk.1 rfl ar (by rw [List.length_append]; show 3 + _ < 790; omega) hQ (c.2.1 * c.2.2.1) 0 f3 _ _ _ (by omega) (by omega) y3 rfl
  rw [uA_i] at g11
  refine Gm.enter (L := [some (.ref m), some (.int (nI j)), none, none, none, none]) (by decide) (fun _ => trivial) (Nat.le_of_ble_eq_true rfl) rfl ?_
  refine gk_aload0 dX11_layRuns_0 (pc' := 1) rfl ?_
  refine gk_iconst (v := 0) dX11_layRuns_1 (pc' := 2) rfl (by decide) ?_
  refine gk_putf (fs := [_, _, _, _, _, _, _, _, _, _, _, _, _, _, _, _, _, _, _, _, _, _, _, _, _, _]) gP_Mo_257 dX11_layRuns_2 (pc' := 5) rfl (by exact (mkJ)) rfl rfl (Nat.le_of_ble_eq_true rfl) ?_
  rw [mkP6]
  exact g11
theorem mo_runs {p i : Int32} (hM : Mod X h m S) (hw : wfS S) (hQ : ∀ h', Mod X h' m (oRuns S p i).2 → frO m h h' → Q (some (.int (oRuns S p i).1)) h') : Gm (kx X) mt_Mo_runs (d + 10) b [.ref m, .int p, .int i] h Q := by
  obtain ⟨h0, A, Z, rfl, hS⟩ := hM
  have hE : ∀ a0 S' A' Z', oRuns S p i = (a0, S') → MoS A' Z' S' → Q (some (.int a0)) (mkH X h0 m A' Z') := fun a0 S' A' Z' e0 h1 => by
    have q := hQ (mkH X h0 m A' Z')
    rw [e0] at q
    exact q ⟨h0, A', Z', rfl, h1⟩ mk_fr
  have hB : ∀ a0, oRuns S p i = (a0, S) → Q (some (.int a0)) (mkH X h0 m A Z) := fun a0 e0 => hE a0 S A Z e0 hS
  have zm : (-1 : Int32).toInt = -1 := rfl
  have z0 : (0 : Int32).toInt = 0 := rfl
  refine Gm.enter (L := [some (.ref m), some (.int p), some (.int i)]) (by decide) (fun _ => trivial) (Nat.le_of_ble_eq_true rfl) rfl ?_
  refine gk_iload1 dX11_runs_0 (pc' := 1) rfl ?_
  refine gk_cS1_1 mz_Mo_isPicture gw_882 dX11_runs_1 (pc' := 4) rfl (Nat.le_of_ble_eq_true rfl) (sp_Mo_isPicture (fun j1 hj1 ej1 => ?_) (fun n1 => ?_))
  · refine ⟨_, rfl, ?_⟩
    subst ej1
    have zj1 : (nI j1).toInt = j1 := nI_toInt (by omega)
    have yj1 : (nI j1).toInt.toNat = j1 := by omega
    have pr1 := hS.picS hj1
    have ok1 := hw.okp hj1
    have wt1 := ok1.wt
    have ar1 := ok1.ar
    refine gk_if_eq dX11_runs_4 (tgt := 12) (pc' := 7) (by decide) rfl (fun c => absurd c (by decide)) (fun _ => ?_)
    refine gk_iload2 dX11_runs_7 (pc' := 8) rfl ?_
    refine gk_iconst (v := -1) dX11_runs_8 (pc' := 9) rfl (by decide) ?_
    refine gk_icmp_ge dX11_runs_9 (tgt := 15) (pc' := 12) (by decide) rfl (fun c9 => ?_) (fun c9 => ?_)
    · rw [pu_le, zm] at c9
      refine gk_aload0 dX11_runs_15 (pc' := 16) rfl ?_
      refine gk_iload1 dX11_runs_16 (pc' := 17) rfl ?_
      refine gk_cV1_1 mv_Mo_isThere gw_905 dX11_runs_17 (pc' := 20) rfl (Nat.le_of_ble_eq_true rfl) (by exact (mkJ)) (sp_Mo_isThere pr1 hj1 ok1 (fun k17 => ?_) (fun k17 => ?_))
      · refine ⟨_, rfl, ?_⟩
        refine gk_if_ne dX11_runs_20 (tgt := 26) (pc' := 23) (by decide) rfl (fun _ => ?_) (fun c => absurd c (by decide))
        refine gk_aload0 dX11_runs_26 (pc' := 27) rfl ?_
        refine gk_iload1 dX11_runs_27 (pc' := 28) rfl ?_
        refine gk_cV0_1 mv_Mo_layRuns gw_1131 dX11_runs_28 (pc' := 31) rfl (Nat.le_of_ble_eq_true rfl) (by exact (mkJ)) (sp_Mo_layRuns pr1 hj1 ok1 k17 (fun f hf => ?_))
        refine ⟨rfl, ?_⟩
        have hl := rb_len (pcS S (nI j1)).1 (pcS S (nI j1)).2.2.2 ((pcS S (nI j1)).2.1 * (pcS S (nI j1)).2.2.1) ((pcS S (nI j1)).2.1 * (pcS S (nI j1)).2.2.1) 0 (by omega)
        have el : ([(pcS S (nI j1)).1, nI (pcS S (nI j1)).2.1, nI (pcS S (nI j1)).2.2.1] ++ rb (pcS S (nI j1)).1 (pcS S (nI j1)).2.2.2 ((pcS S (nI j1)).2.1 * (pcS S (nI j1)).2.2.1) 0).length = 3 + (rb (pcS S (nI j1)).1 (pcS S (nI j1)).2.2.2 ((pcS S (nI j1)).2.1 * (pcS S (nI j1)).2.2.1) 0).length := by rw [List.length_append]; rfl
        rw [el]
        have hE' : ∀ v, rolS (pcS S (nI j1)).1 (pcS S (nI j1)).2.1 (pcS S (nI j1)).2.2.1 (pcS S (nI j1)).2.2.2 i.toInt = v → Q (some (.int v)) (mkH X h0 m (uA A 19 f) (upd Z 6 (nI (3 + (rb (pcS S (nI j1)).1 (pcS S (nI j1)).2.2.2 ((pcS S (nI j1)).2.1 * (pcS S (nI j1)).2.2.1) 0).length)))) := fun v hv => hE _ S _ _ ((if_pos (by omega)).trans ((if_neg k17).trans (by rw [hv]))) (hS.kept (fun i h1 h2 => uA_n (by omega)) (fun i hi => pk_un (by omega)))
        refine gk_iload2 dX11_runs_31 (pc' := 32) rfl ?_
        refine gk_if_ge dX11_runs_32 (tgt := 42) (pc' := 35) (by decide) rfl (fun c32 => ?_) (fun c32 => ?_)
        · rw [pu_le, z0] at c32
          refine gk_iload2 dX11_runs_42 (pc' := 43) rfl ?_
          refine gk_aload0 dX11_runs_43 (pc' := 44) rfl ?_
          refine gk_getf (fs := [_, _, _, _, _, _, _, _, _, _, _, _, _, _, _, _, _, _, _, _, _, _, _, _, _, _]) gF_Mo_257 dX11_runs_44 (pc' := 47) rfl (by exact (mkJ)) rfl ?_
          rw [pk_us]
          refine gk_icmp_ge dX11_runs_47 (tgt := 59) (pc' := 50) (by decide) rfl (fun c47 => ?_) (fun c47 => ?_)
          · rw [pu_le, nI_toInt (by omega)] at c47
            refine gk_ldc dX11_runs_59 (pc' := 61) rfl gw_968 ?_
            refine gk_iret dX11_runs_61 rfl ?_
            first
            | exact hE' _ (by unfold rolS; rw [if_neg (by omega), if_neg (by omega), if_neg (by omega), if_pos (by omega)])
            | exact hE' _ (by unfold rolS; rw [if_neg (by omega), if_neg (by omega), if_neg (by omega), if_neg (by omega), List.getElem?_eq_none (by omega)]; rfl)
            | (refine hE' _ ?_
               rw [zi]
               by_cases g : ji < 3
               · rcases (show ji = 0 ∨ ji = 1 ∨ ji = 2 by omega) with rfl | rfl | rfl
                 · exact Option.some.inj hfi
                 · exact Option.some.inj hfi
                 · exact Option.some.inj hfi
               · unfold rolS
                 rw [if_neg (by omega), if_neg (by omega), if_neg (by omega), if_neg (by omega)]
                 rw [List.getElem?_append_right (by show 3 ≤ ji; omega)] at hfi
                 rw [show ((ji : Int) - 3).toNat = ji - 3 by omega]
                 exact (by rw [show (rb (pcS S (nI j1)).1 (pcS S (nI j1)).2.2.2 ((pcS S (nI j1)).2.1 * (pcS S (nI j1)).2.2.1) 0)[ji - 3]? = some (f ji) from hfi]; rfl))
          · rw [pu_le, nI_toInt (by omega)] at c47
            obtain ⟨ji, hji, rfl⟩ := pu_of (x := i) (n := 3 + (rb (pcS S (nI j1)).1 (pcS S (nI j1)).2.2.2 ((pcS S (nI j1)).2.1 * (pcS S (nI j1)).2.2.1) 0).length) c32 (by omega) (by omega)
            have zi : (nI ji).toInt = ji := nI_toInt (by omega)
            have hfi := hf ji (by rw [el]; omega)
            refine gk_aload0 dX11_runs_50 (pc' := 51) rfl ?_
            refine gk_getf (fs := [_, _, _, _, _, _, _, _, _, _, _, _, _, _, _, _, _, _, _, _, _, _, _, _, _, _]) gF_Mo_66 dX11_runs_51 (pc' := 54) rfl (by exact (mkJ)) rfl ?_
            refine gk_iload2 dX11_runs_54 (pc' := 55) rfl ?_
            refine gk_iald (t0 := 0) rfl dX11_runs_55 (pc' := 56) rfl (by exact (mkA19)) (vp_in_nI (by omega) (by decide)) ?_
            rw [nI_clamp (by omega)]
            rw [uA_s]
            refine gk_goto dX11_runs_56 (tgt := 61) (by decide) ?_
            refine gk_iret dX11_runs_61 rfl ?_
            first
            | exact hE' _ (by unfold rolS; rw [if_neg (by omega), if_neg (by omega), if_neg (by omega), if_pos (by omega)])
            | exact hE' _ (by unfold rolS; rw [if_neg (by omega), if_neg (by omega), if_neg (by omega), if_neg (by omega), List.getElem?_eq_none (by omega)]; rfl)
            | (refine hE' _ ?_
               rw [zi]
               by_cases g : ji < 3
               · rcases (show ji = 0 ∨ ji = 1 ∨ ji = 2 by omega) with rfl | rfl | rfl
                 · exact Option.some.inj hfi
                 · exact Option.some.inj hfi
                 · exact Option.some.inj hfi
               · unfold rolS
                 rw [if_neg (by omega), if_neg (by omega), if_neg (by omega), if_neg (by omega)]
                 rw [List.getElem?_append_right (by show 3 ≤ ji; omega)] at hfi
                 rw [show ((ji : Int) - 3).toNat = ji - 3 by omega]
                 exact (by rw [show (rb (pcS S (nI j1)).1 (pcS S (nI j1)).2.2.2 ((pcS S (nI j1)).2.1 * (pcS S (nI j1)).2.2.1) 0)[ji - 3]? = some (f ji) from hfi]; rfl))
        · rw [pu_le, z0] at c32
          refine gk_aload0 dX11_runs_35 (pc' := 36) rfl ?_
          refine gk_getf (fs := [_, _, _, _, _, _, _, _, _, _, _, _, _, _, _, _, _, _, _, _, _, _, _, _, _, _]) gF_Mo_257 dX11_runs_36 (pc' := 39) rfl (by exact (mkJ)) rfl ?_
          rw [pk_us]
          refine gk_goto dX11_runs_39 (tgt := 61) (by decide) ?_
          refine gk_iret dX11_runs_61 rfl ?_
          first
          | exact hE' _ (by unfold rolS; rw [if_neg (by omega), if_neg (by omega), if_neg (by omega), if_pos (by omega)])
          | exact hE' _ (by unfold rolS; rw [if_neg (by omega), if_neg (by omega), if_neg (by omega), if_neg (by omega), List.getElem?_eq_none (by omega)]; rfl)
          | (refine hE' _ ?_
             rw [zi]
             by_cases g : ji < 3
             · rcases (show ji = 0 ∨ ji = 1 ∨ ji = 2 by omega) with rfl | rfl | rfl
               · exact Option.some.inj hfi
               · exact Option.some.inj hfi
               · exact Option.some.inj hfi
             · unfold rolS
               rw [if_neg (by omega), if_neg (by omega), if_neg (by omega), if_neg (by omega)]
               rw [List.getElem?_append_right (by show 3 ≤ ji; omega)] at hfi
               rw [show ((ji : Int) - 3).toNat = ji - 3 by omega]
               exact (by rw [show (rb (pcS S (nI j1)).1 (pcS S (nI j1)).2.2.2 ((pcS S (nI j1)).2.1 * (pcS S (nI j1)).2.2.1) 0)[ji - 3]? = some (f ji) from hfi]; rfl))
      · refine ⟨_, rfl, ?_⟩
        refine gk_if_ne dX11_runs_20 (tgt := 26) (pc' := 23) (by decide) rfl (fun c => absurd c (by decide)) (fun _ => ?_)
        refine gk_ldc dX11_runs_23 (pc' := 25) rfl gw_869 ?_
        refine gk_iret dX11_runs_25 rfl (hB _ ((if_pos (by omega)).trans (if_pos k17)))
    · rw [pu_le, zm] at c9
      refine gk_ldc dX11_runs_12 (pc' := 14) rfl gw_891 ?_
      refine gk_iret dX11_runs_14 rfl (hB _ (if_neg (by omega)))
  · refine ⟨_, rfl, ?_⟩
    refine gk_if_eq dX11_runs_4 (tgt := 12) (pc' := 7) (by decide) rfl (fun _ => ?_) (fun c => absurd c (by decide))
    refine gk_ldc dX11_runs_12 (pc' := 14) rfl gw_891 ?_
    refine gk_iret dX11_runs_14 rfl (hB _ (if_neg (by omega)))
end MoL
