/-! ===== the reference: feed, convert, cut, mask, maskOf, energy ===== -/
theorem fd_row {f F : Nat → Int32} {j : Nat} {c : Pc} (h : pRow f (259 * j) c) : pRow (fdF f (259 * j + 3) (c.2.1 * c.2.2.1) F) (259 * j) (c.1, c.2.1, c.2.2.1, F) := by
  refine ⟨?_, ?_, ?_, fun i hi => ?_⟩
  · unfold fdF; rw [if_neg (by omega)]; exact h.1
  · unfold fdF; rw [if_neg (by omega)]; exact h.2.1
  · unfold fdF; rw [if_neg (by omega)]; exact h.2.2.1
  · have hi : i < c.2.1 * c.2.2.1 := hi
    unfold fdF; rw [if_pos (by omega), Nat.add_sub_cancel_left]
theorem fd_row2 {f F : Nat → Int32} {j s n : Nat} {c : Pc} (h : pRow f (259 * j) c) : pRow (fdF f (259 * j + 3 + s) n F) (259 * j) (c.1, c.2.1, c.2.2.1, fdF c.2.2.2 s n F) := by
  refine ⟨?_, ?_, ?_, fun i hi => ?_⟩
  · unfold fdF; rw [if_neg (by omega)]; exact h.1
  · unfold fdF; rw [if_neg (by omega)]; exact h.2.1
  · unfold fdF; rw [if_neg (by omega)]; exact h.2.2.1
  · show fdF f (259 * j + 3 + s) n F (259 * j + 3 + i) = fdF c.2.2.2 s n F i
    unfold fdF
    by_cases e : s ≤ i ∧ i < s + n
    · rw [if_pos (by omega), if_pos e]; congr 1; omega
    · rw [if_neg (by omega), if_neg e]; exact h.2.2.2 i hi
theorem fd_out {f F : Nat → Int32} {j n : Nat} (hn : n ≤ 256) : ∀ q, (q < 259 * j ∨ 259 * j + 259 ≤ q) → fdF f (259 * j + 3) n F q = f q := fun q hq => by
  unfold fdF; rw [if_neg (by omega)]
theorem fd_out2 {f F : Nat → Int32} {j s n : Nat} (hn : s + n ≤ 256) : ∀ q, (q < 259 * j ∨ 259 * j + 259 ≤ q) → fdF f (259 * j + 3 + s) n F q = f q := fun q hq => by
  unfold fdF; rw [if_neg (by omega)]
theorem pRow.congr {f : Nat → Int32} {q : Nat} {k : Int32} {w t : Nat} {p p' : Nat → Int32} (h : pRow f q (k, w, t, p)) (e : ∀ i, i < w * t → p i = p' i) : pRow f q (k, w, t, p') := ⟨h.1, h.2.1, h.2.2.1, fun i hi => (h.2.2.2 i hi).trans (e i hi)⟩
theorem cntP_congr {p p' q q' : Nat → Int32} : ∀ n, (∀ i, i < n → p i = p' i) → (∀ i, i < n → q i = q' i) → cntP p q n = cntP p' q' n
  | 0, _, _ => rfl
  | n + 1, h1, h2 => by
    unfold cntP
    rw [cntP_congr n (fun i hi => h1 i (by omega)) (fun i hi => h2 i (by omega)), h1 n (by omega), h2 n (by omega)]
theorem l255 (x : Int64) : (x &&& 255).toInt32 = x.toInt32 &&& 255 := by rw [Int64.toInt32_and]; rfl
section MoF
variable {X : gX} {d : Nat} {b : Nat × Nat} {h h0 : gk_H} {m : Nat} {A : MoA} {Z : MoZ} {Q : Option Value → gk_H → Prop} {S : St}
theorem lp_Mo_feed {j s mm : Nat} {c : Pc} {lw : Int64} {l2 l3 l6 : Option Value} (hp : pRow (A 1) (259 * j) c) (hk : c.1 = 0 ∨ c.1 = 1) (hj : j < 8) (hs : s + mm ≤ 256) (hQ : Q (some (.int (nI mm))) (mkH X h0 m (uA A 1 (fdF (A 1) (259 * j + 3 + s) mm (fdV c.1 lw))) Z)) : ∀ f i, i + f = mm → G (kx X) mt_Mo_feed (d + 10) b 111 [some (.ref m), some (.int (nI j)), l2, l3, some (.long lw), none, l6, some (.int (nI mm)), some (.int (nI s)), some (.int (nI i))] [] (mkH X h0 m (uA A 1 (fdF (A 1) (259 * j + 3 + s) i (fdV c.1 lw))) Z) Q := by
  intro f
  induction f with
  | zero =>
    intro i hi
    have e : i = mm := by omega
    subst e
    refine gk_iload9 dX11_feed_111 (pc' := 113) rfl ?_
    refine gk_iload7 dX11_feed_113 (pc' := 115) rfl ?_
    refine gk_icmp_ge dX11_feed_115 (tgt := 176) (pc' := 118) (by decide) rfl (fun c115 => ?_) (fun c115 => absurd (nI_le (Nat.le_refl _) (by omega)) c115)
    refine gk_iload7 dX11_feed_176 (pc' := 178) rfl ?_
    refine gk_iret dX11_feed_178 rfl hQ
  | succ f ih =>
    intro i hi
    have pr : pRow (uA A 1 (fdF (A 1) (259 * j + 3 + s) i (fdV c.1 lw)) 1) (259 * j) (c.1, c.2.1, c.2.2.1, fdF c.2.2.2 s i (fdV c.1 lw)) := by rw [uA_s]; exact fd_row2 hp
    refine gk_iload9 dX11_feed_111 (pc' := 113) rfl ?_
    refine gk_iload7 dX11_feed_113 (pc' := 115) rfl ?_
    refine gk_icmp_ge dX11_feed_115 (tgt := 176) (pc' := 118) (by decide) rfl (fun c115 => absurd c115 (nI_ge (by omega) (by omega))) (fun c115 => ?_)
    refine gk_aload0 dX11_feed_118 (pc' := 119) rfl ?_
    refine gk_getf (fs := [_, _, _, _, _, _, _, _, _, _, _, _, _, _, _, _, _, _, _, _, _, _, _, _, _, _]) gF_Mo_7 dX11_feed_119 (pc' := 122) rfl (by exact (mkJ)) rfl ?_
    refine gk_sipush (v := nI 259) dX11_feed_122 (pc' := 125) rfl (by decide) ?_
    refine gk_iload1 dX11_feed_125 (pc' := 126) rfl ?_
    refine gk_imulN dX11_feed_126 (pc' := 127) rfl ?_
    refine gk_iconst (v := nI 3) dX11_feed_127 (pc' := 128) rfl (by decide) ?_
    refine gk_iaddN dX11_feed_128 (pc' := 129) rfl ?_
    refine gk_iload8 dX11_feed_129 (pc' := 131) rfl ?_
    refine gk_iaddN dX11_feed_131 (pc' := 132) rfl ?_
    refine gk_iload9 dX11_feed_132 (pc' := 134) rfl ?_
    refine gk_iaddN dX11_feed_134 (pc' := 135) rfl ?_
    refine gk_aload0 dX11_feed_135 (pc' := 136) rfl ?_
    refine gk_iload1 dX11_feed_136 (pc' := 137) rfl ?_
    refine gk_cV1_1 mv_Mo_kindOf gw_921 dX11_feed_137 (pc' := 140) rfl (Nat.le_of_ble_eq_true rfl) (by exact (mkJ)) (sp_Mo_kindOf pr hj ?_)
    refine ⟨_, rfl, ?_⟩
    refine gk_if_ne dX11_feed_140 (tgt := 159) (pc' := 143) (by decide) rfl (fun c140 => ?_) (fun c140 => ?_)
    · have c140 : ¬ c.1 = 0 := c140
      refine gk_lload4 dX11_feed_159 (pc' := 161) rfl ?_
      refine gk_bipush (v := 16) dX11_feed_161 (pc' := 163) rfl (by decide) ?_
      refine gk_iload9 dX11_feed_163 (pc' := 165) rfl ?_
      refine gk_imul dX11_feed_165 (pc' := 166) rfl ?_
      refine gk_lshr dX11_feed_166 (pc' := 167) rfl ?_
      refine gk_l2i dX11_feed_167 (pc' := 168) rfl ?_
      refine gk_i2s dX11_feed_168 (pc' := 169) rfl ?_
      refine gk_iast (t0 := 0) rfl dX11_feed_169 (pc' := 170) rfl (by exact (mkA1)) (vp_in_nI (by omega) (by decide)) ?_
      rw [nI_clamp (by omega), mkS1]
      refine gk_iinc9 (v := 1) dX11_feed_170 (pc' := 173) rfl (by decide) (by decide) rfl ?_
      refine gk_goto dX11_feed_173 (tgt := 111) (by decide) ?_
      rw [← nI_succ, uA_s, uA_u]
      first | rw [fdF_s (by unfold fdV; rw [if_neg (by rw [c140]; decide), l255])] | rw [fdF_s (by unfold fdV; rw [if_pos (hk.resolve_left c140)])]
      exact ih (i + 1) (by omega)
    · have c140 : c.1 = 0 := c140
      refine gk_lload4 dX11_feed_143 (pc' := 145) rfl ?_
      refine gk_bipush (v := 8) dX11_feed_145 (pc' := 147) rfl (by decide) ?_
      refine gk_iload9 dX11_feed_147 (pc' := 149) rfl ?_
      refine gk_imul dX11_feed_149 (pc' := 150) rfl ?_
      refine gk_lshr dX11_feed_150 (pc' := 151) rfl ?_
      refine gk_ldc2 dX11_feed_151 (pc' := 154) rfl gw_944 ?_
      refine gk_land dX11_feed_154 (pc' := 155) rfl ?_
      refine gk_l2i dX11_feed_155 (pc' := 156) rfl ?_
      refine gk_goto dX11_feed_156 (tgt := 169) (by decide) ?_
      refine gk_iast (t0 := 0) rfl dX11_feed_169 (pc' := 170) rfl (by exact (mkA1)) (vp_in_nI (by omega) (by decide)) ?_
      rw [nI_clamp (by omega), mkS1]
      refine gk_iinc9 (v := 1) dX11_feed_170 (pc' := 173) rfl (by decide) (by decide) rfl ?_
      refine gk_goto dX11_feed_173 (tgt := 111) (by decide) ?_
      rw [← nI_succ, uA_s, uA_u]
      first | rw [fdF_s (by unfold fdV; rw [if_neg (by rw [c140]; decide), l255])] | rw [fdF_s (by unfold fdV; rw [if_pos (hk.resolve_left c140)])]
      exact ih (i + 1) (by omega)
theorem mo_feed {p x y n : Int32} {lw : Int64} (hM : Mod X h m S) (hw : wfS S) (hQ : ∀ h', Mod X h' m (oFeed S p x y lw n).2 → frO m h h' → Q (some (.int (oFeed S p x y lw n).1)) h') : Gm (kx X) mt_Mo_feed (d + 10) b [.ref m, .int p, .int x, .int y, .long lw, .int n] h Q := by
  obtain ⟨h0, A, Z, rfl, hS⟩ := hM
  have hE : ∀ a0 S' A' Z', oFeed S p x y lw n = (a0, S') → MoS A' Z' S' → Q (some (.int a0)) (mkH X h0 m A' Z') := fun a0 S' A' Z' e0 h1 => by
    have q := hQ (mkH X h0 m A' Z')
    rw [e0] at q
    exact q ⟨h0, A', Z', rfl, h1⟩ mk_fr
  have hB : ∀ a0, oFeed S p x y lw n = (a0, S) → Q (some (.int a0)) (mkH X h0 m A Z) := fun a0 e0 => hE a0 S A Z e0 hS
  have zn := i2l_i n
  have z1 : (1 : Int64).toInt = 1 := rfl
  have z8 : (8 : Int64).toInt = 8 := rfl
  have tail : ∀ j1 i j jn, j1 < 8 → p = nI j1 → x = nI i → y = nI j → n = nI jn → i < (pcS S p).2.1 → j < (pcS S p).2.2.1 → 1 ≤ jn → jn ≤ 8 → ¬ ((pcS S p).1 = 1 ∧ jn % 2 = 1) → G (kx X) mt_Mo_feed (d + 10) b 75 [some (.ref m), some (.int p), some (.int x), some (.int y), some (.long lw), none, some (.int n), none, none, none] [.int (nI (fdM (pcS S p).1 n))] (mkH X h0 m A Z) Q := by
    intro j1 i j jn hj1 ep ex ey en hi hj g1 g2 g5
    subst ep ex ey en
    have pr1 := hS.picS hj1
    have ok1 := hw.okp hj1
    have okk := ok1.has (by omega)
    have wt1 := ok1.wt
    have ar := ok1.ar
    have zj1 : (nI j1).toInt = j1 := nI_toInt (by omega)
    have yj1 : (nI j1).toInt.toNat = j1 := by omega
    have zi : (nI i).toInt = i := nI_toInt (by omega)
    have zj : (nI j).toInt = j := nI_toInt (by omega)
    have zjn : (nI jn).toInt = jn := nI_toInt (by omega)
    have yi : (nI i).toInt.toNat = i := by omega
    have yj : (nI j).toInt.toNat = j := by omega
    have yn : (nI jn).toInt.toNat = jn := by omega
    have pl := place_lt hi hj
    have hm8 : fdM (pcS S (nI j1)).1 (nI jn) ≤ 8 := by unfold fdM; split <;> omega
    generalize em : fdM (pcS S (nI j1)).1 (nI jn) = mm at *
    have c0 : iR 0 7 (nI j1) ∧ hasP (pcS S (nI j1)) (nI i) (nI j) ∧ iR 1 8 (nI jn) ∧ ¬ ((pcS S (nI j1)).1 = 1 ∧ (nI jn).toInt.toNat % 2 = 1) := ⟨by omega, by omega, by omega, by rw [yn]; exact g5⟩
    refine gk_istore7 dX11_feed_75 (pc' := 77) rfl (by decide) rfl ?_
    refine gk_iload3 dX11_feed_77 (pc' := 78) rfl ?_
    refine gk_aload0 dX11_feed_78 (pc' := 79) rfl ?_
    refine gk_iload1 dX11_feed_79 (pc' := 80) rfl ?_
    refine gk_cV1_1 mv_Mo_wide gw_913 dX11_feed_80 (pc' := 83) rfl (Nat.le_of_ble_eq_true rfl) (by exact (mkJ)) (sp_Mo_wide pr1 hj1 ?_)
    refine ⟨_, rfl, ?_⟩
    refine gk_imulN dX11_feed_83 (pc' := 84) rfl ?_
    refine gk_iload2 dX11_feed_84 (pc' := 85) rfl ?_
    refine gk_iaddN dX11_feed_85 (pc' := 86) rfl ?_
    refine gk_istore8 dX11_feed_86 (pc' := 88) rfl (by decide) rfl ?_
    refine gk_iload8 dX11_feed_88 (pc' := 90) rfl ?_
    refine gk_iload7 dX11_feed_90 (pc' := 92) rfl ?_
    refine gk_iaddN dX11_feed_92 (pc' := 93) rfl ?_
    refine gk_aload0 dX11_feed_93 (pc' := 94) rfl ?_
    refine gk_iload1 dX11_feed_94 (pc' := 95) rfl ?_
    refine gk_cV1_1 mv_Mo_pixels gw_940 dX11_feed_95 (pc' := 98) rfl (Nat.le_of_ble_eq_true rfl) (by exact (mkJ)) (sp_Mo_pixels pr1 hj1 ?_)
    refine ⟨_, rfl, ?_⟩
    refine gk_icmp_le dX11_feed_98 (tgt := 104) (pc' := 101) (by decide) rfl (fun c98 => ?_) (fun c98 => ?_)
    · have q9 : j * (pcS S (nI j1)).2.1 + i + mm ≤ (pcS S (nI j1)).2.1 * (pcS S (nI j1)).2.2.1 := (nI_leI (by omega) (by omega)).mp c98
      refine gk_aload0 dX11_feed_104 (pc' := 105) rfl ?_
      refine gk_cV0_0 mv_Mo_begin gw_892 dX11_feed_105 (pc' := 108) rfl (Nat.le_of_ble_eq_true rfl) (by exact (mkJ)) (sp_Mo_begin hS hw.1 (fun A1 Z1 a1 a2 hBg => ?_))
      refine ⟨rfl, ?_⟩
      have pr2 : pRow (A1 1) (259 * j1) (pcS S (nI j1)) := by rw [a1 1 (by decide)]; exact pr1
      refine gk_iconst (v := 0) dX11_feed_108 (pc' := 109) rfl (by decide) ?_
      refine gk_istore9 dX11_feed_109 (pc' := 111) rfl (by decide) rfl ?_
      have q := lp_Mo_feed (X := X) (h0 := h0) (m := m) (A := A1) (Z := Z1) (d := d) (b := b) (Q := Q) (j := j1) (s := j * (pcS S (nI j1)).2.1 + i) (mm := mm) (lw := lw) (l2 := some (.int (nI i))) (l3 := some (.int (nI j))) (l6 := some (.int (nI jn))) pr2 okk.1 hj1 (by omega) (hE _ (kP S j1 ((pcS S (nI j1)).1, (pcS S (nI j1)).2.1, (pcS S (nI j1)).2.2.1, fdF (pcS S (nI j1)).2.2.2 (j * (pcS S (nI j1)).2.1 + i) mm (fdV (pcS S (nI j1)).1 lw))) _ _ ((if_pos c0).trans ((if_pos (by rw [yi, yj, em]; exact q9)).trans (by rw [yi, yj, yj1, em]))) (hBg.actP hw.1 (by rw [a1 1 (by decide)]; exact hS.1) (fun i h1 h2 => uA_n (by omega)) (fun i hi => rfl) hj1 (by rw [uA_s]; exact fd_row2 pr2) (fun q hq => by rw [uA_s]; exact fd_out2 (by omega) q hq))) mm 0 (by omega)
      rw [fdF_0, uA_i] at q
      exact q
    · have q9 : ¬ j * (pcS S (nI j1)).2.1 + i + mm ≤ (pcS S (nI j1)).2.1 * (pcS S (nI j1)).2.2.1 := fun q => c98 (nI_le q (by omega))
      refine gk_ldc dX11_feed_101 (pc' := 103) rfl gw_869 ?_
      refine gk_iret dX11_feed_103 rfl (hB _ ((if_pos c0).trans (if_neg (by rw [yi, yj, em]; exact q9))))
  refine Gm.enter (L := [some (.ref m), some (.int p), some (.int x), some (.int y), some (.long lw), none, some (.int n), none, none, none]) (by decide) (fun _ => trivial) (Nat.le_of_ble_eq_true rfl) rfl ?_
  refine gk_iload1 dX11_feed_0 (pc' := 1) rfl ?_
  refine gk_cS1_1 mz_Mo_isPicture gw_882 dX11_feed_1 (pc' := 4) rfl (Nat.le_of_ble_eq_true rfl) (sp_Mo_isPicture (fun j1 hj1 ej1 => ?_) (fun n1 => ?_))
  · refine ⟨_, rfl, ?_⟩
    subst ej1
    have zj1 : (nI j1).toInt = j1 := nI_toInt (by omega)
    have yj1 : (nI j1).toInt.toNat = j1 := by omega
    have pr1 := hS.picS hj1
    have ok1 := hw.okp hj1
    have wt1 := ok1.wt
    have ar1 := ok1.ar
    refine gk_if_eq dX11_feed_4 (tgt := 55) (pc' := 7) (by decide) rfl (fun c => absurd c (by decide)) (fun _ => ?_)
    refine gk_aload0 dX11_feed_7 (pc' := 8) rfl ?_
    refine gk_iload1 dX11_feed_8 (pc' := 9) rfl ?_
    refine gk_cV1_1 mv_Mo_isThere gw_905 dX11_feed_9 (pc' := 12) rfl (Nat.le_of_ble_eq_true rfl) (by exact (mkJ)) (sp_Mo_isThere pr1 hj1 ok1 (fun k9 => ?_) (fun k9 => ?_))
    · refine ⟨_, rfl, ?_⟩
      have okk := ok1.kind k9
      refine gk_if_eq dX11_feed_12 (tgt := 55) (pc' := 15) (by decide) rfl (fun c => absurd c (by decide)) (fun _ => ?_)
      refine gk_aload0 dX11_feed_15 (pc' := 16) rfl ?_
      refine gk_iload1 dX11_feed_16 (pc' := 17) rfl ?_
      refine gk_iload2 dX11_feed_17 (pc' := 18) rfl ?_
      refine gk_iload3 dX11_feed_18 (pc' := 19) rfl ?_
      refine gk_cV1_3 mv_Mo_isWithin gw_909 dX11_feed_19 (pc' := 22) rfl (Nat.le_of_ble_eq_true rfl) (by exact (mkJ)) (sp_Mo_isWithin pr1 hj1 wt1 (fun i j ei ej hi hj => ?_) (fun n19 => ?_))
      · refine ⟨_, rfl, ?_⟩
        subst ei ej
        have zi : (nI i).toInt = i := nI_toInt (by omega)
        have zj : (nI j).toInt = j := nI_toInt (by omega)
        refine gk_if_eq dX11_feed_22 (tgt := 55) (pc' := 25) (by decide) rfl (fun c => absurd c (by decide)) (fun _ => ?_)
        refine gk_iload6 dX11_feed_25 (pc' := 27) rfl ?_
        refine gk_i2l dX11_feed_27 (pc' := 28) rfl ?_
        refine gk_lconst (v := 1) dX11_feed_28 (pc' := 29) rfl (by decide) ?_
        refine gk_ldc2 dX11_feed_29 (pc' := 32) rfl gw_939 ?_
        refine gk_cS1_3 mz_Mo_in gw_886 dX11_feed_32 (pc' := 35) rfl (Nat.le_of_ble_eq_true rfl) (sp_Mo_in (fun u32 v32 => ?_) (fun n32 => ?_))
        · refine ⟨_, rfl, ?_⟩
          obtain ⟨jn, hn9, rfl⟩ := pu_of (x := n) (n := 9) (by omega) (by omega) (by omega)
          have zjn : (nI jn).toInt = jn := nI_toInt (by omega)
          have yn : (nI jn).toInt.toNat = jn := by omega
          refine gk_if_eq dX11_feed_35 (tgt := 55) (pc' := 38) (by decide) rfl (fun c => absurd c (by decide)) (fun _ => ?_)
          refine gk_aload0 dX11_feed_38 (pc' := 39) rfl ?_
          refine gk_iload1 dX11_feed_39 (pc' := 40) rfl ?_
          refine gk_cV1_1 mv_Mo_kindOf gw_921 dX11_feed_40 (pc' := 43) rfl (Nat.le_of_ble_eq_true rfl) (by exact (mkJ)) (sp_Mo_kindOf pr1 hj1 ?_)
          refine ⟨_, rfl, ?_⟩
          refine gk_iconst (v := 1) dX11_feed_43 (pc' := 44) rfl (by decide) ?_
          refine gk_icmp_ne dX11_feed_44 (tgt := 58) (pc' := 47) (by decide) rfl (fun c44 => ?_) (fun c44 => ?_)
          · have c44 : ¬ (pcS S (nI j1)).1 = 1 := c44
            refine gk_aload0 dX11_feed_58 (pc' := 59) rfl ?_
            refine gk_iload1 dX11_feed_59 (pc' := 60) rfl ?_
            refine gk_cV1_1 mv_Mo_kindOf gw_921 dX11_feed_60 (pc' := 63) rfl (Nat.le_of_ble_eq_true rfl) (by exact (mkJ)) (sp_Mo_kindOf pr1 hj1 ?_)
            refine ⟨_, rfl, ?_⟩
            refine gk_if_ne dX11_feed_63 (tgt := 71) (pc' := 66) (by decide) rfl (fun c63 => ?_) (fun c63 => ?_)
            · have c63 : ¬ (pcS S (nI j1)).1 = 0 := c63
              refine gk_iload6 dX11_feed_71 (pc' := 73) rfl ?_
              refine gk_iconst (v := nI 2) dX11_feed_73 (pc' := 74) rfl (by decide) ?_
              refine gk_idivN dX11_feed_74 (pc' := 75) rfl (by omega) (by omega) (by omega) ?_
              have q := tail j1 i j jn hj1 rfl rfl rfl rfl hi hj (by omega) (by omega) (by first | exact fun z => c44 z.1 | exact fun z => c52 z.2)
              unfold fdM at q
              rw [yn] at q
              first | (rw [if_neg (by rw [c63]; decide)] at q; exact q) | (rw [if_pos (okk.1.resolve_left c63)] at q; exact q)
            · have c63 : (pcS S (nI j1)).1 = 0 := c63
              refine gk_iload6 dX11_feed_66 (pc' := 68) rfl ?_
              refine gk_goto dX11_feed_68 (tgt := 75) (by decide) ?_
              have q := tail j1 i j jn hj1 rfl rfl rfl rfl hi hj (by omega) (by omega) (by first | exact fun z => c44 z.1 | exact fun z => c52 z.2)
              unfold fdM at q
              rw [yn] at q
              first | (rw [if_neg (by rw [c63]; decide)] at q; exact q) | (rw [if_pos (okk.1.resolve_left c63)] at q; exact q)
          · have c44 : (pcS S (nI j1)).1 = 1 := c44
            refine gk_iload6 dX11_feed_47 (pc' := 49) rfl ?_
            refine gk_iconst (v := nI 2) dX11_feed_49 (pc' := 50) rfl (by decide) ?_
            refine gk_iremN dX11_feed_50 (pc' := 51) rfl (by omega) (by omega) (by omega) ?_
            refine gk_iconst (v := 1) dX11_feed_51 (pc' := 52) rfl (by decide) ?_
            refine gk_icmp_ne dX11_feed_52 (tgt := 58) (pc' := 55) (by decide) rfl (fun c52 => ?_) (fun c52 => ?_)
            · have c52 : ¬ jn % 2 = 1 := fun e => c52 (by rw [e]; rfl)
              refine gk_aload0 dX11_feed_58 (pc' := 59) rfl ?_
              refine gk_iload1 dX11_feed_59 (pc' := 60) rfl ?_
              refine gk_cV1_1 mv_Mo_kindOf gw_921 dX11_feed_60 (pc' := 63) rfl (Nat.le_of_ble_eq_true rfl) (by exact (mkJ)) (sp_Mo_kindOf pr1 hj1 ?_)
              refine ⟨_, rfl, ?_⟩
              refine gk_if_ne dX11_feed_63 (tgt := 71) (pc' := 66) (by decide) rfl (fun c63 => ?_) (fun c63 => ?_)
              · have c63 : ¬ (pcS S (nI j1)).1 = 0 := c63
                refine gk_iload6 dX11_feed_71 (pc' := 73) rfl ?_
                refine gk_iconst (v := nI 2) dX11_feed_73 (pc' := 74) rfl (by decide) ?_
                refine gk_idivN dX11_feed_74 (pc' := 75) rfl (by omega) (by omega) (by omega) ?_
                have q := tail j1 i j jn hj1 rfl rfl rfl rfl hi hj (by omega) (by omega) (by first | exact fun z => c44 z.1 | exact fun z => c52 z.2)
                unfold fdM at q
                rw [yn] at q
                first | (rw [if_neg (by rw [c63]; decide)] at q; exact q) | (rw [if_pos (okk.1.resolve_left c63)] at q; exact q)
              · have c63 : (pcS S (nI j1)).1 = 0 := c63
                refine gk_iload6 dX11_feed_66 (pc' := 68) rfl ?_
                refine gk_goto dX11_feed_68 (tgt := 75) (by decide) ?_
                have q := tail j1 i j jn hj1 rfl rfl rfl rfl hi hj (by omega) (by omega) (by first | exact fun z => c44 z.1 | exact fun z => c52 z.2)
                unfold fdM at q
                rw [yn] at q
                first | (rw [if_neg (by rw [c63]; decide)] at q; exact q) | (rw [if_pos (okk.1.resolve_left c63)] at q; exact q)
            · have c52 : jn % 2 = 1 := nI_inj (by omega) (by omega) (c52.trans (show (1 : Int32) = nI 1 from rfl))
              refine gk_ldc dX11_feed_55 (pc' := 57) rfl gw_891 ?_
              refine gk_iret dX11_feed_57 rfl (hB _ (if_neg (fun z => by first | exact z.2.2.2 ⟨c44, by rw [yn]; exact c52⟩ | (have := z.1; have := z.2.1; have := z.2.2.1; omega))))
        · refine ⟨_, rfl, ?_⟩
          refine gk_if_eq dX11_feed_35 (tgt := 55) (pc' := 38) (by decide) rfl (fun _ => ?_) (fun c => absurd c (by decide))
          refine gk_ldc dX11_feed_55 (pc' := 57) rfl gw_891 ?_
          refine gk_iret dX11_feed_57 rfl (hB _ (if_neg (fun z => by first | exact z.2.2.2 ⟨c44, by rw [yn]; exact c52⟩ | (have := z.1; have := z.2.1; have := z.2.2.1; omega))))
      · refine ⟨_, rfl, ?_⟩
        refine gk_if_eq dX11_feed_22 (tgt := 55) (pc' := 25) (by decide) rfl (fun _ => ?_) (fun c => absurd c (by decide))
        refine gk_ldc dX11_feed_55 (pc' := 57) rfl gw_891 ?_
        refine gk_iret dX11_feed_57 rfl (hB _ (if_neg (fun z => by first | exact z.2.2.2 ⟨c44, by rw [yn]; exact c52⟩ | (have := z.1; have := z.2.1; have := z.2.2.1; omega))))
    · refine ⟨_, rfl, ?_⟩
      have okm : (pcS S (nI j1)).2.1 = 0 := ok1.elim (fun z => z.2.1) (fun z => absurd k9 (by rcases z.1 with y | y <;> rw [y] <;> decide))
      refine gk_if_eq dX11_feed_12 (tgt := 55) (pc' := 15) (by decide) rfl (fun _ => ?_) (fun c => absurd c (by decide))
      refine gk_ldc dX11_feed_55 (pc' := 57) rfl gw_891 ?_
      refine gk_iret dX11_feed_57 rfl (hB _ (if_neg (fun z => by first | exact z.2.2.2 ⟨c44, by rw [yn]; exact c52⟩ | (have := z.1; have := z.2.1; have := z.2.2.1; omega))))
  · refine ⟨_, rfl, ?_⟩
    refine gk_if_eq dX11_feed_4 (tgt := 55) (pc' := 7) (by decide) rfl (fun _ => ?_) (fun c => absurd c (by decide))
    refine gk_ldc dX11_feed_55 (pc' := 57) rfl gw_891 ?_
    refine gk_iret dX11_feed_57 rfl (hB _ (if_neg (fun z => by first | exact z.2.2.2 ⟨c44, by rw [yn]; exact c52⟩ | (have := z.1; have := z.2.1; have := z.2.2.1; omega))))
theorem lp_Mo_convert {j w t : Nat} {k rule : Int32} {l1 : Option Value} (hk : k = 0 ∨ k = 1) (hj : j < 8) (hZ : Z 4 = nI w ∧ Z 5 = nI t) (ar : w * t ≤ 256) (hQ : Q (some (.int (nI (cntP (fun i => cvV k rule (A 9 i)) (A 9) (w * t))))) (mkH X h0 m (uA A 1 (fdF (A 1) (259 * j + 3) (w * t) (fun i => cvV k rule (A 9 i)))) Z)) : ∀ f i l7, i + f = w * t → G (kx X) mt_Mo_convert (d + 10) b 78 [some (.ref m), l1, some (.int (nI j)), some (.int k), some (.int rule), some (.int (nI (cntP (fun i => cvV k rule (A 9 i)) (A 9) i))), some (.int (nI i)), l7] [] (mkH X h0 m (uA A 1 (fdF (A 1) (259 * j + 3) i (fun i => cvV k rule (A 9 i)))) Z) Q := by
  intro f
  induction f with
  | zero =>
    intro i l7 hi
    have e : i = w * t := by omega
    refine gk_iload6 dX11_convert_78 (pc' := 80) rfl ?_
    refine gk_aload0 dX11_convert_80 (pc' := 81) rfl ?_
    refine gk_getf (fs := [_, _, _, _, _, _, _, _, _, _, _, _, _, _, _, _, _, _, _, _, _, _, _, _, _, _]) gF_Mo_138 dX11_convert_81 (pc' := 84) rfl (by exact (mkJ)) rfl ?_
    rw [hZ.1]
    refine gk_aload0 dX11_convert_84 (pc' := 85) rfl ?_
    refine gk_getf (fs := [_, _, _, _, _, _, _, _, _, _, _, _, _, _, _, _, _, _, _, _, _, _, _, _, _, _]) gF_Mo_141 dX11_convert_85 (pc' := 88) rfl (by exact (mkJ)) rfl ?_
    rw [hZ.2]
    refine gk_imulN dX11_convert_88 (pc' := 89) rfl ?_
    refine gk_icmp_ge dX11_convert_89 (tgt := 184) (pc' := 92) (by decide) rfl (fun c89 => ?_) (fun c89 => absurd (nI_le (by omega) (by omega)) c89)
    refine gk_iload5 dX11_convert_184 (pc' := 186) rfl ?_
    refine gk_iret dX11_convert_186 rfl (by rw [e]; exact hQ)
  | succ f ih =>
    intro i l7 hi
    have key : ∀ v, v = cvV k rule (A 9 i) → G (kx X) mt_Mo_convert (d + 10) b 137 [some (.ref m), l1, some (.int (nI j)), some (.int k), some (.int rule), some (.int (nI (cntP (fun i => cvV k rule (A 9 i)) (A 9) i))), some (.int (nI i)), l7] [.int v] (mkH X h0 m (uA A 1 (fdF (A 1) (259 * j + 3) i (fun i => cvV k rule (A 9 i)))) Z) Q := by
      intro v hv
      have q := ih (i + 1) (some (.int v)) (by omega)
      refine gk_istore7 dX11_convert_137 (pc' := 139) rfl (by decide) rfl ?_
      refine gk_aload0 dX11_convert_139 (pc' := 140) rfl ?_
      refine gk_getf (fs := [_, _, _, _, _, _, _, _, _, _, _, _, _, _, _, _, _, _, _, _, _, _, _, _, _, _]) gF_Mo_7 dX11_convert_140 (pc' := 143) rfl (by exact (mkJ)) rfl ?_
      refine gk_sipush (v := nI 259) dX11_convert_143 (pc' := 146) rfl (by decide) ?_
      refine gk_iload2 dX11_convert_146 (pc' := 147) rfl ?_
      refine gk_imulN dX11_convert_147 (pc' := 148) rfl ?_
      refine gk_iconst (v := nI 3) dX11_convert_148 (pc' := 149) rfl (by decide) ?_
      refine gk_iaddN dX11_convert_149 (pc' := 150) rfl ?_
      refine gk_iload6 dX11_convert_150 (pc' := 152) rfl ?_
      refine gk_iaddN dX11_convert_152 (pc' := 153) rfl ?_
      refine gk_iload7 dX11_convert_153 (pc' := 155) rfl ?_
      refine gk_iast (t0 := 0) rfl dX11_convert_155 (pc' := 156) rfl (by exact (mkA1)) (vp_in_nI (by omega) (by decide)) ?_
      rw [nI_clamp (by omega), mkS1]
      rw [uA_s, uA_u, fdF_s (V := fun i => cvV k rule (A 9 i)) hv]
      refine gk_iload5 dX11_convert_156 (pc' := 158) rfl ?_
      refine gk_iload7 dX11_convert_158 (pc' := 160) rfl ?_
      refine gk_aload0 dX11_convert_160 (pc' := 161) rfl ?_
      refine gk_getf (fs := [_, _, _, _, _, _, _, _, _, _, _, _, _, _, _, _, _, _, _, _, _, _, _, _, _, _]) gF_Mo_35 dX11_convert_161 (pc' := 164) rfl (by exact (mkJ)) rfl ?_
      refine gk_iload6 dX11_convert_164 (pc' := 166) rfl ?_
      refine gk_iald (t0 := 0) rfl dX11_convert_166 (pc' := 167) rfl (by exact (mkA9)) (vp_in_nI (by omega) (by decide)) ?_
      rw [nI_clamp (by omega)]
      rw [uA_n (show 9 ≠ 1 by decide)]
      refine gk_icmp_eq dX11_convert_167 (tgt := 174) (pc' := 170) (by decide) rfl (fun c167 => ?_) (fun c167 => ?_)
      · have c167' : (fun i => cvV k rule (A 9 i)) i = A 9 i := hv.symm.trans c167
        refine gk_iconst (v := nI 0) dX11_convert_174 (pc' := 175) rfl (by decide) ?_
        refine gk_iaddN dX11_convert_175 (pc' := 176) rfl ?_
        refine gk_istore5 dX11_convert_176 (pc' := 178) rfl (by decide) rfl ?_
        refine gk_iinc6 (v := 1) dX11_convert_178 (pc' := 181) rfl (by decide) (by decide) rfl ?_
        refine gk_goto dX11_convert_181 (tgt := 78) (by decide) ?_
        rw [← nI_succ i]
        first | (rw [cntP, if_pos c167'] at q; exact q) | (rw [cntP, if_neg c167'] at q; exact q)
      · have c167' : ¬ (fun i => cvV k rule (A 9 i)) i = A 9 i := fun e => c167 (hv.trans e)
        refine gk_iconst (v := nI 1) dX11_convert_170 (pc' := 171) rfl (by decide) ?_
        refine gk_goto dX11_convert_171 (tgt := 175) (by decide) ?_
        refine gk_iaddN dX11_convert_175 (pc' := 176) rfl ?_
        refine gk_istore5 dX11_convert_176 (pc' := 178) rfl (by decide) rfl ?_
        refine gk_iinc6 (v := 1) dX11_convert_178 (pc' := 181) rfl (by decide) (by decide) rfl ?_
        refine gk_goto dX11_convert_181 (tgt := 78) (by decide) ?_
        rw [← nI_succ i]
        first | (rw [cntP, if_pos c167'] at q; exact q) | (rw [cntP, if_neg c167'] at q; exact q)
    refine gk_iload6 dX11_convert_78 (pc' := 80) rfl ?_
    refine gk_aload0 dX11_convert_80 (pc' := 81) rfl ?_
    refine gk_getf (fs := [_, _, _, _, _, _, _, _, _, _, _, _, _, _, _, _, _, _, _, _, _, _, _, _, _, _]) gF_Mo_138 dX11_convert_81 (pc' := 84) rfl (by exact (mkJ)) rfl ?_
    rw [hZ.1]
    refine gk_aload0 dX11_convert_84 (pc' := 85) rfl ?_
    refine gk_getf (fs := [_, _, _, _, _, _, _, _, _, _, _, _, _, _, _, _, _, _, _, _, _, _, _, _, _, _]) gF_Mo_141 dX11_convert_85 (pc' := 88) rfl (by exact (mkJ)) rfl ?_
    rw [hZ.2]
    refine gk_imulN dX11_convert_88 (pc' := 89) rfl ?_
    refine gk_icmp_ge dX11_convert_89 (tgt := 184) (pc' := 92) (by decide) rfl (fun c89 => absurd c89 (nI_ge (by omega) (by omega))) (fun c89 => ?_)
    refine gk_iload4 dX11_convert_92 (pc' := 94) rfl ?_
    refine gk_if_ne dX11_convert_94 (tgt := 112) (pc' := 97) (by decide) rfl (fun c94 => ?_) (fun c94 => ?_)
    · have c94 : ¬ rule = 0 := c94
      refine gk_iload3 dX11_convert_112 (pc' := 113) rfl ?_
      refine gk_if_ne dX11_convert_113 (tgt := 130) (pc' := 116) (by decide) rfl (fun c113 => ?_) (fun c113 => ?_)
      · have c113 : ¬ k = 0 := c113
        refine gk_aload0 dX11_convert_130 (pc' := 131) rfl ?_
        refine gk_getf (fs := [_, _, _, _, _, _, _, _, _, _, _, _, _, _, _, _, _, _, _, _, _, _, _, _, _, _]) gF_Mo_35 dX11_convert_131 (pc' := 134) rfl (by exact (mkJ)) rfl ?_
        refine gk_iload6 dX11_convert_134 (pc' := 136) rfl ?_
        refine gk_iald (t0 := 0) rfl dX11_convert_136 (pc' := 137) rfl (by exact (mkA9)) (vp_in_nI (by omega) (by decide)) ?_
        rw [nI_clamp (by omega)]
        rw [uA_n (show 9 ≠ 1 by decide)]
        exact key _ (by unfold cvV; first | (rw [if_pos c94, i2l_i]; done) | (rw [if_neg c94, if_pos c113]; done) | (rw [if_neg c94, if_neg c113]; done))
      · have c113 : k = 0 := c113
        refine gk_aload0 dX11_convert_116 (pc' := 117) rfl ?_
        refine gk_getf (fs := [_, _, _, _, _, _, _, _, _, _, _, _, _, _, _, _, _, _, _, _, _, _, _, _, _, _]) gF_Mo_35 dX11_convert_117 (pc' := 120) rfl (by exact (mkJ)) rfl ?_
        refine gk_iload6 dX11_convert_120 (pc' := 122) rfl ?_
        refine gk_iald (t0 := 0) rfl dX11_convert_122 (pc' := 123) rfl (by exact (mkA9)) (vp_in_nI (by omega) (by decide)) ?_
        rw [nI_clamp (by omega)]
        rw [uA_n (show 9 ≠ 1 by decide)]
        refine gk_sipush (v := 255) dX11_convert_123 (pc' := 126) rfl (by decide) ?_
        refine gk_iand dX11_convert_126 (pc' := 127) rfl ?_
        refine gk_goto dX11_convert_127 (tgt := 137) (by decide) ?_
        exact key _ (by unfold cvV; first | (rw [if_pos c94, i2l_i]; done) | (rw [if_neg c94, if_pos c113]; done) | (rw [if_neg c94, if_neg c113]; done))
    · have c94 : rule = 0 := c94
      refine gk_iload3 dX11_convert_97 (pc' := 98) rfl ?_
      refine gk_aload0 dX11_convert_98 (pc' := 99) rfl ?_
      refine gk_getf (fs := [_, _, _, _, _, _, _, _, _, _, _, _, _, _, _, _, _, _, _, _, _, _, _, _, _, _]) gF_Mo_35 dX11_convert_99 (pc' := 102) rfl (by exact (mkJ)) rfl ?_
      refine gk_iload6 dX11_convert_102 (pc' := 104) rfl ?_
      refine gk_iald (t0 := 0) rfl dX11_convert_104 (pc' := 105) rfl (by exact (mkA9)) (vp_in_nI (by omega) (by decide)) ?_
      rw [nI_clamp (by omega)]
      rw [uA_n (show 9 ≠ 1 by decide)]
      refine gk_i2l dX11_convert_105 (pc' := 106) rfl ?_
      refine gk_cS1_2 mz_Mo_keptIn gw_973 dX11_convert_106 (pc' := 109) rfl (Nat.le_of_ble_eq_true rfl) (sp_Mo_keptIn hk ?_)
      refine ⟨_, rfl, ?_⟩
      refine gk_goto dX11_convert_109 (tgt := 137) (by decide) ?_
      exact key _ (by unfold cvV; first | (rw [if_pos c94, i2l_i]; done) | (rw [if_neg c94, if_pos c113]; done) | (rw [if_neg c94, if_neg c113]; done))
theorem mo_convert {p q k rule : Int32} (hM : Mod X h m S) (hw : wfS S) (hQ : ∀ h', Mod X h' m (oConvert S p q k rule).2 → frO m h h' → Q (some (.int (oConvert S p q k rule).1)) h') : Gm (kx X) mt_Mo_convert (d + 10) b [.ref m, .int p, .int q, .int k, .int rule] h Q := by
  obtain ⟨h0, A, Z, rfl, hS⟩ := hM
  have hE : ∀ a0 S' A' Z', oConvert S p q k rule = (a0, S') → MoS A' Z' S' → Q (some (.int a0)) (mkH X h0 m A' Z') := fun a0 S' A' Z' e0 h1 => by
    have q := hQ (mkH X h0 m A' Z')
    rw [e0] at q
    exact q ⟨h0, A', Z', rfl, h1⟩ mk_fr
  have hB : ∀ a0, oConvert S p q k rule = (a0, S) → Q (some (.int a0)) (mkH X h0 m A Z) := fun a0 e0 => hE a0 S A Z e0 hS
  have zk := i2l_i k
  have zr := i2l_i rule
  have z0 : (0 : Int64).toInt = 0 := rfl
  have z1 : (1 : Int64).toInt = 1 := rfl
  refine Gm.enter (L := [some (.ref m), some (.int p), some (.int q), some (.int k), some (.int rule), none, none, none]) (by decide) (fun _ => trivial) (Nat.le_of_ble_eq_true rfl) rfl ?_
  refine gk_iload1 dX11_convert_0 (pc' := 1) rfl ?_
  refine gk_cS1_1 mz_Mo_isPicture gw_882 dX11_convert_1 (pc' := 4) rfl (Nat.le_of_ble_eq_true rfl) (sp_Mo_isPicture (fun j1 hj1 ej1 => ?_) (fun n1 => ?_))
  · refine ⟨_, rfl, ?_⟩
    subst ej1
    have zj1 : (nI j1).toInt = j1 := nI_toInt (by omega)
    have yj1 : (nI j1).toInt.toNat = j1 := by omega
    have pr1 := hS.picS hj1
    have ok1 := hw.okp hj1
    have wt1 := ok1.wt
    have ar1 := ok1.ar
    refine gk_if_eq dX11_convert_4 (tgt := 35) (pc' := 7) (by decide) rfl (fun c => absurd c (by decide)) (fun _ => ?_)
    refine gk_iload2 dX11_convert_7 (pc' := 8) rfl ?_
    refine gk_cS1_1 mz_Mo_isPicture gw_882 dX11_convert_8 (pc' := 11) rfl (Nat.le_of_ble_eq_true rfl) (sp_Mo_isPicture (fun j8 hj8 ej8 => ?_) (fun n8 => ?_))
    · refine ⟨_, rfl, ?_⟩
      subst ej8
      have zj8 : (nI j8).toInt = j8 := nI_toInt (by omega)
      have yj8 : (nI j8).toInt.toNat = j8 := by omega
      have pr8 := hS.picS hj8
      have ok8 := hw.okp hj8
      have wt8 := ok8.wt
      have ar8 := ok8.ar
      refine gk_if_eq dX11_convert_11 (tgt := 35) (pc' := 14) (by decide) rfl (fun c => absurd c (by decide)) (fun _ => ?_)
      refine gk_iload3 dX11_convert_14 (pc' := 15) rfl ?_
      refine gk_i2l dX11_convert_15 (pc' := 16) rfl ?_
      refine gk_lconst (v := 0) dX11_convert_16 (pc' := 17) rfl (by decide) ?_
      refine gk_lconst (v := 1) dX11_convert_17 (pc' := 18) rfl (by decide) ?_
      refine gk_cS1_3 mz_Mo_in gw_886 dX11_convert_18 (pc' := 21) rfl (Nat.le_of_ble_eq_true rfl) (sp_Mo_in (fun u18 v18 => ?_) (fun n18 => ?_))
      · refine ⟨_, rfl, ?_⟩
        refine gk_if_eq dX11_convert_21 (tgt := 35) (pc' := 24) (by decide) rfl (fun c => absurd c (by decide)) (fun _ => ?_)
        refine gk_iload4 dX11_convert_24 (pc' := 26) rfl ?_
        refine gk_i2l dX11_convert_26 (pc' := 27) rfl ?_
        refine gk_lconst (v := 0) dX11_convert_27 (pc' := 28) rfl (by decide) ?_
        refine gk_lconst (v := 1) dX11_convert_28 (pc' := 29) rfl (by decide) ?_
        refine gk_cS1_3 mz_Mo_in gw_886 dX11_convert_29 (pc' := 32) rfl (Nat.le_of_ble_eq_true rfl) (sp_Mo_in (fun u29 v29 => ?_) (fun n29 => ?_))
        · refine ⟨_, rfl, ?_⟩
          refine gk_if_ne dX11_convert_32 (tgt := 38) (pc' := 35) (by decide) rfl (fun _ => ?_) (fun c => absurd c (by decide))
          refine gk_aload0 dX11_convert_38 (pc' := 39) rfl ?_
          refine gk_iload1 dX11_convert_39 (pc' := 40) rfl ?_
          refine gk_cV1_1 mv_Mo_isThere gw_905 dX11_convert_40 (pc' := 43) rfl (Nat.le_of_ble_eq_true rfl) (by exact (mkJ)) (sp_Mo_isThere pr1 hj1 ok1 (fun k40 => ?_) (fun k40 => ?_))
          · refine ⟨_, rfl, ?_⟩
            refine gk_if_ne dX11_convert_43 (tgt := 49) (pc' := 46) (by decide) rfl (fun _ => ?_) (fun c => absurd c (by decide))
            refine gk_aload0 dX11_convert_49 (pc' := 50) rfl ?_
            refine gk_cV0_0 mv_Mo_begin gw_892 dX11_convert_50 (pc' := 53) rfl (Nat.le_of_ble_eq_true rfl) (by exact (mkJ)) (sp_Mo_begin hS hw.1 (fun A1 Z1 a1 a2 hBg => ?_))
            refine ⟨rfl, ?_⟩
            have pr2 : pRow (A1 1) (259 * j1) (pcS S (nI j1)) := by rw [a1 1 (by decide)]; exact pr1
            have hk : k = 0 ∨ k = 1 := k_in (by omega) (by omega) (fun e => by rw [e] at zk u18; rw [zk] at u18; exact absurd u18 (by decide))
            refine gk_aload0 dX11_convert_53 (pc' := 54) rfl ?_
            refine gk_iload1 dX11_convert_54 (pc' := 55) rfl ?_
            refine gk_cV0_1 mv_Mo_look gw_952 dX11_convert_55 (pc' := 58) rfl (Nat.le_of_ble_eq_true rfl) (by exact (mkJ)) (sp_Mo_look pr2 hj1 ?_)
            refine ⟨rfl, ?_⟩
            refine gk_aload0 dX11_convert_58 (pc' := 59) rfl ?_
            refine gk_iload2 dX11_convert_59 (pc' := 60) rfl ?_
            refine gk_iload3 dX11_convert_60 (pc' := 61) rfl ?_
            refine gk_aload0 dX11_convert_61 (pc' := 62) rfl ?_
            refine gk_getf (fs := [_, _, _, _, _, _, _, _, _, _, _, _, _, _, _, _, _, _, _, _, _, _, _, _, _, _]) gF_Mo_138 dX11_convert_62 (pc' := 65) rfl (by exact (mkJ)) rfl ?_
            rw [show lkZ Z1 (pcS S (nI j1)).2.1 (pcS S (nI j1)).2.2.1 4 = nI (pcS S (nI j1)).2.1 from rfl]
            refine gk_aload0 dX11_convert_65 (pc' := 66) rfl ?_
            refine gk_getf (fs := [_, _, _, _, _, _, _, _, _, _, _, _, _, _, _, _, _, _, _, _, _, _, _, _, _, _]) gF_Mo_141 dX11_convert_66 (pc' := 69) rfl (by exact (mkJ)) rfl ?_
            rw [show lkZ Z1 (pcS S (nI j1)).2.1 (pcS S (nI j1)).2.2.1 5 = nI (pcS S (nI j1)).2.2.1 from rfl]
            refine gk_cV0_4 mv_Mo_become gw_897 dX11_convert_69 (pc' := 72) rfl (Nat.le_of_ble_eq_true rfl) (by exact (mkJ)) (sp_Mo_become hj8 ?_)
            refine ⟨rfl, ?_⟩
            refine gk_iconst (v := 0) dX11_convert_72 (pc' := 73) rfl (by decide) ?_
            refine gk_istore5 dX11_convert_73 (pc' := 75) rfl (by decide) rfl ?_
            refine gk_iconst (v := 0) dX11_convert_75 (pc' := 76) rfl (by decide) ?_
            refine gk_istore6 dX11_convert_76 (pc' := 78) rfl (by decide) rfl ?_
            have l9 : ∀ i, i < (pcS S (nI j1)).2.1 * (pcS S (nI j1)).2.2.1 → lkA A1 j1 9 i = (pcS S (nI j1)).2.2.2 i := fun i hi => lk_px pr2 ar1 hi
            have q := lp_Mo_convert (X := X) (h0 := h0) (m := m) (A := uA (lkA A1 j1) 1 (bcF (lkA A1 j1 1) j8 k (nI (pcS S (nI j1)).2.1) (nI (pcS S (nI j1)).2.2.1))) (Z := lkZ Z1 (pcS S (nI j1)).2.1 (pcS S (nI j1)).2.2.1) (d := d) (b := b) (Q := Q) (j := j8) (w := (pcS S (nI j1)).2.1) (t := (pcS S (nI j1)).2.2.1) (k := k) (rule := rule) (l1 := some (.int (nI j1))) hk hj8 ⟨rfl, rfl⟩ ar1 (by
              rw [show (uA (lkA A1 j1) 1 (bcF (lkA A1 j1 1) j8 k (nI (pcS S (nI j1)).2.1) (nI (pcS S (nI j1)).2.2.1))) 9 = lkA A1 j1 9 from uA_n (by decide), uA_u, uA_s, cntP_congr _ (fun i hi => congrArg (cvV k rule) (l9 i hi)) l9]
              exact hE _ (kP S j8 (k, (pcS S (nI j1)).2.1, (pcS S (nI j1)).2.2.1, fun i => cvV k rule ((pcS S (nI j1)).2.2.2 i))) _ _ ((if_pos (by omega)).trans ((if_neg k40).trans (by rw [yj8]))) (hBg.actP hw.1 (by rw [a1 1 (by decide)]; exact hS.1) (fun i h1 h2 => by rw [uA_n (by omega)]; exact uA_n (by omega)) (fun i hi => lkZ_n hi) hj8 (by rw [uA_s]; exact (fd_row (c := (k, (pcS S (nI j1)).2.1, (pcS S (nI j1)).2.2.1, fun _ => 0)) (bcF_row ar1)).congr (fun i hi => congrArg (cvV k rule) (l9 i hi))) (fun q hq => by rw [uA_s, fd_out (by omega) q hq, bcF_out q hq]; rfl))) ((pcS S (nI j1)).2.1 * (pcS S (nI j1)).2.2.1) 0 none (by omega)
            rw [fdF_0, uA_i] at q
            exact q
          · refine ⟨_, rfl, ?_⟩
            refine gk_if_ne dX11_convert_43 (tgt := 49) (pc' := 46) (by decide) rfl (fun c => absurd c (by decide)) (fun _ => ?_)
            refine gk_ldc dX11_convert_46 (pc' := 48) rfl gw_869 ?_
            refine gk_iret dX11_convert_48 rfl (hB _ ((if_pos (by omega)).trans (if_pos k40)))
        · refine ⟨_, rfl, ?_⟩
          refine gk_if_ne dX11_convert_32 (tgt := 38) (pc' := 35) (by decide) rfl (fun c => absurd c (by decide)) (fun _ => ?_)
          refine gk_ldc dX11_convert_35 (pc' := 37) rfl gw_891 ?_
          refine gk_iret dX11_convert_37 rfl (hB _ (if_neg (by omega)))
      · refine ⟨_, rfl, ?_⟩
        refine gk_if_eq dX11_convert_21 (tgt := 35) (pc' := 24) (by decide) rfl (fun _ => ?_) (fun c => absurd c (by decide))
        refine gk_ldc dX11_convert_35 (pc' := 37) rfl gw_891 ?_
        refine gk_iret dX11_convert_37 rfl (hB _ (if_neg (by omega)))
    · refine ⟨_, rfl, ?_⟩
      refine gk_if_eq dX11_convert_11 (tgt := 35) (pc' := 14) (by decide) rfl (fun _ => ?_) (fun c => absurd c (by decide))
      refine gk_ldc dX11_convert_35 (pc' := 37) rfl gw_891 ?_
      refine gk_iret dX11_convert_37 rfl (hB _ (if_neg (by omega)))
  · refine ⟨_, rfl, ?_⟩
    refine gk_if_eq dX11_convert_4 (tgt := 35) (pc' := 7) (by decide) rfl (fun _ => ?_) (fun c => absurd c (by decide))
    refine gk_ldc dX11_convert_35 (pc' := 37) rfl gw_891 ?_
    refine gk_iret dX11_convert_37 rfl (hB _ (if_neg (by omega)))
theorem lp_Mo_cut {j w t w0 t0 : Nat} {x y e : Int32} {l1 : Option Value} (hj : j < 8) (hw : 1 ≤ w ∧ w ≤ 16) (ht : 1 ≤ t ∧ t ≤ 16) (hx : -100 ≤ x.toInt ∧ x.toInt ≤ 100) (hy : -100 ≤ y.toInt ∧ y.toInt ≤ 100) (he : 0 ≤ e.toInt ∧ e.toInt ≤ 3) (hZ : Z 4 = nI w0 ∧ Z 5 = nI t0) (hw0 : 1 ≤ w0 ∧ w0 ≤ 16) (ht0 : 1 ≤ t0 ∧ t0 ≤ 16) (hQ : Q (some (.int 0)) (mkH X h0 m (uA A 1 (fdF (A 1) (259 * j + 3) (w * t) (fun i => sn w0 t0 (A 9) (x.toInt + (i % w : Nat)) (y.toInt + (i / w : Nat)) e))) Z)) : ∀ f i, i + f = w * t → G (kx X) mt_Mo_cut (d + 10) b 122 [some (.ref m), l1, some (.int (nI j)), some (.int x), some (.int y), some (.int (nI w)), some (.int (nI t)), some (.int e), some (.int (nI i))] [] (mkH X h0 m (uA A 1 (fdF (A 1) (259 * j + 3) i (fun i => sn w0 t0 (A 9) (x.toInt + (i % w : Nat)) (y.toInt + (i / w : Nat)) e))) Z) Q := by
  have ar := area_le hw.2 ht.2
  intro f
  induction f with
  | zero =>
    intro i hi
    have e : i = w * t := by omega
    refine gk_iload8 dX11_cut_122 (pc' := 124) rfl ?_
    refine gk_iload5 dX11_cut_124 (pc' := 126) rfl ?_
    refine gk_iload6 dX11_cut_126 (pc' := 128) rfl ?_
    refine gk_imulN dX11_cut_128 (pc' := 129) rfl ?_
    refine gk_icmp_ge dX11_cut_129 (tgt := 174) (pc' := 132) (by decide) rfl (fun c129 => ?_) (fun c129 => absurd (nI_le (by omega) (by omega)) c129)
    refine gk_iconst (v := 0) dX11_cut_174 (pc' := 175) rfl (by decide) ?_
    refine gk_iret dX11_cut_175 rfl (by rw [e]; exact hQ)
  | succ f ih =>
    intro i hi
    have im : i % w < w := Nat.mod_lt _ (by omega)
    have id : i / w ≤ i := Nat.div_le_self i w
    have id0 : (0 : Int) ≤ ((i / w : Nat) : Int) := Int.natCast_nonneg _
    have ex : (x + nI (i % w)).toInt = x.toInt + (i % w : Nat) := by rw [Jvm.Kit.i32_add (by rw [nI_toInt (by omega)]; omega) (by rw [nI_toInt (by omega)]; omega), nI_toInt (by omega)]
    have ey : (y + nI (i / w)).toInt = y.toInt + (i / w : Nat) := by rw [Jvm.Kit.i32_add (by rw [nI_toInt (by omega)]; omega) (by rw [nI_toInt (by omega)]; omega), nI_toInt (by omega)]
    refine gk_iload8 dX11_cut_122 (pc' := 124) rfl ?_
    refine gk_iload5 dX11_cut_124 (pc' := 126) rfl ?_
    refine gk_iload6 dX11_cut_126 (pc' := 128) rfl ?_
    refine gk_imulN dX11_cut_128 (pc' := 129) rfl ?_
    refine gk_icmp_ge dX11_cut_129 (tgt := 174) (pc' := 132) (by decide) rfl (fun c129 => absurd c129 (nI_ge (by omega) (by omega))) (fun c129 => ?_)
    refine gk_aload0 dX11_cut_132 (pc' := 133) rfl ?_
    refine gk_getf (fs := [_, _, _, _, _, _, _, _, _, _, _, _, _, _, _, _, _, _, _, _, _, _, _, _, _, _]) gF_Mo_7 dX11_cut_133 (pc' := 136) rfl (by exact (mkJ)) rfl ?_
    refine gk_sipush (v := nI 259) dX11_cut_136 (pc' := 139) rfl (by decide) ?_
    refine gk_iload2 dX11_cut_139 (pc' := 140) rfl ?_
    refine gk_imulN dX11_cut_140 (pc' := 141) rfl ?_
    refine gk_iconst (v := nI 3) dX11_cut_141 (pc' := 142) rfl (by decide) ?_
    refine gk_iaddN dX11_cut_142 (pc' := 143) rfl ?_
    refine gk_iload8 dX11_cut_143 (pc' := 145) rfl ?_
    refine gk_iaddN dX11_cut_145 (pc' := 146) rfl ?_
    refine gk_aload0 dX11_cut_146 (pc' := 147) rfl ?_
    refine gk_iload3 dX11_cut_147 (pc' := 148) rfl ?_
    refine gk_iload8 dX11_cut_148 (pc' := 150) rfl ?_
    refine gk_iload5 dX11_cut_150 (pc' := 152) rfl ?_
    refine gk_iremN dX11_cut_152 (pc' := 153) rfl (by omega) (by omega) (by omega) ?_
    refine gk_iadd dX11_cut_153 (pc' := 154) rfl ?_
    refine gk_iload4 dX11_cut_154 (pc' := 156) rfl ?_
    refine gk_iload8 dX11_cut_156 (pc' := 158) rfl ?_
    refine gk_iload5 dX11_cut_158 (pc' := 160) rfl ?_
    refine gk_idivN dX11_cut_160 (pc' := 161) rfl (by omega) (by omega) (by omega) ?_
    refine gk_iadd dX11_cut_161 (pc' := 162) rfl ?_
    refine gk_iload7 dX11_cut_162 (pc' := 164) rfl ?_
    refine gk_cV1_3 mv_Mo_seenAt gw_956 dX11_cut_164 (pc' := 167) rfl (Nat.le_of_ble_eq_true rfl) (by exact (mkJ)) (sp_Mo_seenAt hZ hw0.1 ht0.1 hw0.2 ht0.2 (by omega) (by omega) he ?_)
    refine ⟨_, rfl, ?_⟩
    rw [uA_n (show 9 ≠ 1 by decide), ex, ey]
    refine gk_iast (t0 := 0) rfl dX11_cut_167 (pc' := 168) rfl (by exact (mkA1)) (vp_in_nI (by omega) (by decide)) ?_
    rw [nI_clamp (by omega), mkS1]
    rw [uA_s, uA_u, fdF_s (V := fun i => sn w0 t0 (A 9) (x.toInt + (i % w : Nat)) (y.toInt + (i / w : Nat)) e) rfl]
    refine gk_iinc8 (v := 1) dX11_cut_168 (pc' := 171) rfl (by decide) (by decide) rfl ?_
    refine gk_goto dX11_cut_171 (tgt := 122) (by decide) ?_
    rw [← nI_succ]
    exact ih (i + 1) (by omega)
theorem mo_cut {p q x y w t e : Int32} (hM : Mod X h m S) (hw : wfS S) (hQ : ∀ h', Mod X h' m (oCut S p q x y w t e).2 → frO m h h' → Q (some (.int (oCut S p q x y w t e).1)) h') : Gm (kx X) mt_Mo_cut (d + 10) b [.ref m, .int p, .int q, .int x, .int y, .int w, .int t, .int e] h Q := by
  obtain ⟨h0, A, Z, rfl, hS⟩ := hM
  have hE : ∀ a0 S' A' Z', oCut S p q x y w t e = (a0, S') → MoS A' Z' S' → Q (some (.int a0)) (mkH X h0 m A' Z') := fun a0 S' A' Z' e0 h1 => by
    have q := hQ (mkH X h0 m A' Z')
    rw [e0] at q
    exact q ⟨h0, A', Z', rfl, h1⟩ mk_fr
  have hB : ∀ a0, oCut S p q x y w t e = (a0, S) → Q (some (.int a0)) (mkH X h0 m A Z) := fun a0 e0 => hE a0 S A Z e0 hS
  have zx := i2l_i x
  have zy := i2l_i y
  have zw := i2l_i w
  have zt := i2l_i t
  have ze := i2l_i e
  have z0 : (0 : Int64).toInt = 0 := rfl
  have z1 : (1 : Int64).toInt = 1 := rfl
  have z3 : (3 : Int64).toInt = 3 := rfl
  have z16 : (16 : Int64).toInt = 16 := rfl
  have zm : (-100 : Int64).toInt = -100 := rfl
  have zh : (100 : Int64).toInt = 100 := rfl
  refine Gm.enter (L := [some (.ref m), some (.int p), some (.int q), some (.int x), some (.int y), some (.int w), some (.int t), some (.int e), none]) (by decide) (fun _ => trivial) (Nat.le_of_ble_eq_true rfl) rfl ?_
  refine gk_iload1 dX11_cut_0 (pc' := 1) rfl ?_
  refine gk_cS1_1 mz_Mo_isPicture gw_882 dX11_cut_1 (pc' := 4) rfl (Nat.le_of_ble_eq_true rfl) (sp_Mo_isPicture (fun j1 hj1 ej1 => ?_) (fun n1 => ?_))
  · refine ⟨_, rfl, ?_⟩
    subst ej1
    have zj1 : (nI j1).toInt = j1 := nI_toInt (by omega)
    have yj1 : (nI j1).toInt.toNat = j1 := by omega
    have pr1 := hS.picS hj1
    have ok1 := hw.okp hj1
    have wt1 := ok1.wt
    have ar1 := ok1.ar
    refine gk_if_eq dX11_cut_4 (tgt := 82) (pc' := 7) (by decide) rfl (fun c => absurd c (by decide)) (fun _ => ?_)
    refine gk_iload2 dX11_cut_7 (pc' := 8) rfl ?_
    refine gk_cS1_1 mz_Mo_isPicture gw_882 dX11_cut_8 (pc' := 11) rfl (Nat.le_of_ble_eq_true rfl) (sp_Mo_isPicture (fun j8 hj8 ej8 => ?_) (fun n8 => ?_))
    · refine ⟨_, rfl, ?_⟩
      subst ej8
      have zj8 : (nI j8).toInt = j8 := nI_toInt (by omega)
      have yj8 : (nI j8).toInt.toNat = j8 := by omega
      have pr8 := hS.picS hj8
      have ok8 := hw.okp hj8
      have wt8 := ok8.wt
      have ar8 := ok8.ar
      refine gk_if_eq dX11_cut_11 (tgt := 82) (pc' := 14) (by decide) rfl (fun c => absurd c (by decide)) (fun _ => ?_)
      refine gk_iload3 dX11_cut_14 (pc' := 15) rfl ?_
      refine gk_i2l dX11_cut_15 (pc' := 16) rfl ?_
      refine gk_ldc2 dX11_cut_16 (pc' := 19) rfl gw_980 ?_
      refine gk_ldc2 dX11_cut_19 (pc' := 22) rfl gw_981 ?_
      refine gk_cS1_3 mz_Mo_in gw_886 dX11_cut_22 (pc' := 25) rfl (Nat.le_of_ble_eq_true rfl) (sp_Mo_in (fun u22 v22 => ?_) (fun n22 => ?_))
      · refine ⟨_, rfl, ?_⟩
        refine gk_if_eq dX11_cut_25 (tgt := 82) (pc' := 28) (by decide) rfl (fun c => absurd c (by decide)) (fun _ => ?_)
        refine gk_iload4 dX11_cut_28 (pc' := 30) rfl ?_
        refine gk_i2l dX11_cut_30 (pc' := 31) rfl ?_
        refine gk_ldc2 dX11_cut_31 (pc' := 34) rfl gw_980 ?_
        refine gk_ldc2 dX11_cut_34 (pc' := 37) rfl gw_981 ?_
        refine gk_cS1_3 mz_Mo_in gw_886 dX11_cut_37 (pc' := 40) rfl (Nat.le_of_ble_eq_true rfl) (sp_Mo_in (fun u37 v37 => ?_) (fun n37 => ?_))
        · refine ⟨_, rfl, ?_⟩
          refine gk_if_eq dX11_cut_40 (tgt := 82) (pc' := 43) (by decide) rfl (fun c => absurd c (by decide)) (fun _ => ?_)
          refine gk_iload5 dX11_cut_43 (pc' := 45) rfl ?_
          refine gk_i2l dX11_cut_45 (pc' := 46) rfl ?_
          refine gk_lconst (v := 1) dX11_cut_46 (pc' := 47) rfl (by decide) ?_
          refine gk_ldc2 dX11_cut_47 (pc' := 50) rfl gw_890 ?_
          refine gk_cS1_3 mz_Mo_in gw_886 dX11_cut_50 (pc' := 53) rfl (Nat.le_of_ble_eq_true rfl) (sp_Mo_in (fun u50 v50 => ?_) (fun n50 => ?_))
          · refine ⟨_, rfl, ?_⟩
            refine gk_if_eq dX11_cut_53 (tgt := 82) (pc' := 56) (by decide) rfl (fun c => absurd c (by decide)) (fun _ => ?_)
            refine gk_iload6 dX11_cut_56 (pc' := 58) rfl ?_
            refine gk_i2l dX11_cut_58 (pc' := 59) rfl ?_
            refine gk_lconst (v := 1) dX11_cut_59 (pc' := 60) rfl (by decide) ?_
            refine gk_ldc2 dX11_cut_60 (pc' := 63) rfl gw_890 ?_
            refine gk_cS1_3 mz_Mo_in gw_886 dX11_cut_63 (pc' := 66) rfl (Nat.le_of_ble_eq_true rfl) (sp_Mo_in (fun u63 v63 => ?_) (fun n63 => ?_))
            · refine ⟨_, rfl, ?_⟩
              refine gk_if_eq dX11_cut_66 (tgt := 82) (pc' := 69) (by decide) rfl (fun c => absurd c (by decide)) (fun _ => ?_)
              refine gk_iload7 dX11_cut_69 (pc' := 71) rfl ?_
              refine gk_i2l dX11_cut_71 (pc' := 72) rfl ?_
              refine gk_lconst (v := 0) dX11_cut_72 (pc' := 73) rfl (by decide) ?_
              refine gk_ldc2 dX11_cut_73 (pc' := 76) rfl gw_951 ?_
              refine gk_cS1_3 mz_Mo_in gw_886 dX11_cut_76 (pc' := 79) rfl (Nat.le_of_ble_eq_true rfl) (sp_Mo_in (fun u76 v76 => ?_) (fun n76 => ?_))
              · refine ⟨_, rfl, ?_⟩
                refine gk_if_ne dX11_cut_79 (tgt := 85) (pc' := 82) (by decide) rfl (fun _ => ?_) (fun c => absurd c (by decide))
                refine gk_aload0 dX11_cut_85 (pc' := 86) rfl ?_
                refine gk_iload1 dX11_cut_86 (pc' := 87) rfl ?_
                refine gk_cV1_1 mv_Mo_isThere gw_905 dX11_cut_87 (pc' := 90) rfl (Nat.le_of_ble_eq_true rfl) (by exact (mkJ)) (sp_Mo_isThere pr1 hj1 ok1 (fun k87 => ?_) (fun k87 => ?_))
                · refine ⟨_, rfl, ?_⟩
                  obtain ⟨jw, hjw, rfl⟩ := pu_of (x := w) (n := 17) (by omega) (by omega) (by omega)
                  obtain ⟨jt, hjt, rfl⟩ := pu_of (x := t) (n := 17) (by omega) (by omega) (by omega)
                  have yw := nI_toInt (n := jw) (by omega)
                  have yt := nI_toInt (n := jt) (by omega)
                  have okk := ok1.kind k87
                  refine gk_if_ne dX11_cut_90 (tgt := 96) (pc' := 93) (by decide) rfl (fun _ => ?_) (fun c => absurd c (by decide))
                  refine gk_aload0 dX11_cut_96 (pc' := 97) rfl ?_
                  refine gk_cV0_0 mv_Mo_begin gw_892 dX11_cut_97 (pc' := 100) rfl (Nat.le_of_ble_eq_true rfl) (by exact (mkJ)) (sp_Mo_begin hS hw.1 (fun A1 Z1 a1 a2 hBg => ?_))
                  refine ⟨rfl, ?_⟩
                  have pr2 : pRow (A1 1) (259 * j1) (pcS S (nI j1)) := by rw [a1 1 (by decide)]; exact pr1
                  refine gk_aload0 dX11_cut_100 (pc' := 101) rfl ?_
                  refine gk_iload1 dX11_cut_101 (pc' := 102) rfl ?_
                  refine gk_cV0_1 mv_Mo_look gw_952 dX11_cut_102 (pc' := 105) rfl (Nat.le_of_ble_eq_true rfl) (by exact (mkJ)) (sp_Mo_look pr2 hj1 ?_)
                  refine ⟨rfl, ?_⟩
                  refine gk_aload0 dX11_cut_105 (pc' := 106) rfl ?_
                  refine gk_iload2 dX11_cut_106 (pc' := 107) rfl ?_
                  refine gk_aload0 dX11_cut_107 (pc' := 108) rfl ?_
                  refine gk_iload1 dX11_cut_108 (pc' := 109) rfl ?_
                  refine gk_cV1_1 mv_Mo_kindOf gw_921 dX11_cut_109 (pc' := 112) rfl (Nat.le_of_ble_eq_true rfl) (by exact (mkJ)) (sp_Mo_kindOf (c := pcS S (nI j1)) pr2 hj1 ?_)
                  refine ⟨_, rfl, ?_⟩
                  refine gk_iload5 dX11_cut_112 (pc' := 114) rfl ?_
                  refine gk_iload6 dX11_cut_114 (pc' := 116) rfl ?_
                  refine gk_cV0_4 mv_Mo_become gw_897 dX11_cut_116 (pc' := 119) rfl (Nat.le_of_ble_eq_true rfl) (by exact (mkJ)) (sp_Mo_become hj8 ?_)
                  refine ⟨rfl, ?_⟩
                  refine gk_iconst (v := 0) dX11_cut_119 (pc' := 120) rfl (by decide) ?_
                  refine gk_istore8 dX11_cut_120 (pc' := 122) rfl (by decide) rfl ?_
                  have l9 : ∀ i, i < (pcS S (nI j1)).2.1 * (pcS S (nI j1)).2.2.1 → lkA A1 j1 9 i = (pcS S (nI j1)).2.2.2 i := fun i hi => lk_px pr2 ar1 hi
                  have ar2 : jw * jt ≤ 256 := area_le (by omega) (by omega)
                  have q := lp_Mo_cut (X := X) (h0 := h0) (m := m) (A := uA (lkA A1 j1) 1 (bcF (lkA A1 j1 1) j8 (pcS S (nI j1)).1 (nI jw) (nI jt))) (Z := lkZ Z1 (pcS S (nI j1)).2.1 (pcS S (nI j1)).2.2.1) (d := d) (b := b) (Q := Q) (j := j8) (w := jw) (t := jt) (x := x) (y := y) (e := e) (l1 := some (.int (nI j1))) hj8 ⟨by omega, by omega⟩ ⟨by omega, by omega⟩ ⟨by omega, by omega⟩ ⟨by omega, by omega⟩ ⟨by omega, by omega⟩ ⟨rfl, rfl⟩ okk.2.1 okk.2.2.1 (by
                    rw [show (uA (lkA A1 j1) 1 (bcF (lkA A1 j1 1) j8 (pcS S (nI j1)).1 (nI jw) (nI jt))) 9 = lkA A1 j1 9 from uA_n (by decide), uA_u, uA_s]
                    exact hE _ (kP S j8 ((pcS S (nI j1)).1, jw, jt, fun i => sn (pcS S (nI j1)).2.1 (pcS S (nI j1)).2.2.1 (pcS S (nI j1)).2.2.2 (x.toInt + (i % jw : Nat)) (y.toInt + (i / jw : Nat)) e)) _ _ ((if_pos (by omega)).trans ((if_neg k87).trans (by rw [yj8, nI_nat (j := jw) (by omega), nI_nat (j := jt) (by omega)]))) (hBg.actP hw.1 (by rw [a1 1 (by decide)]; exact hS.1) (fun i h1 h2 => by rw [uA_n (by omega)]; exact uA_n (by omega)) (fun i hi => lkZ_n hi) hj8 (by rw [uA_s]; exact (fd_row (c := ((pcS S (nI j1)).1, jw, jt, fun _ => 0)) (bcF_row ar2)).congr (fun i hi => sn_congr okk.2.1.1 okk.2.2.1.1 l9)) (fun q hq => by rw [uA_s, fd_out ar2 q hq, bcF_out q hq]; rfl))) (jw * jt) 0 (by omega)
                  rw [fdF_0, uA_i] at q
                  exact q
                · refine ⟨_, rfl, ?_⟩
                  refine gk_if_ne dX11_cut_90 (tgt := 96) (pc' := 93) (by decide) rfl (fun c => absurd c (by decide)) (fun _ => ?_)
                  refine gk_ldc dX11_cut_93 (pc' := 95) rfl gw_869 ?_
                  refine gk_iret dX11_cut_95 rfl (hB _ ((if_pos (by omega)).trans (if_pos k87)))
              · refine ⟨_, rfl, ?_⟩
                refine gk_if_ne dX11_cut_79 (tgt := 85) (pc' := 82) (by decide) rfl (fun c => absurd c (by decide)) (fun _ => ?_)
                refine gk_ldc dX11_cut_82 (pc' := 84) rfl gw_891 ?_
                refine gk_iret dX11_cut_84 rfl (hB _ (if_neg (by omega)))
            · refine ⟨_, rfl, ?_⟩
              refine gk_if_eq dX11_cut_66 (tgt := 82) (pc' := 69) (by decide) rfl (fun _ => ?_) (fun c => absurd c (by decide))
              refine gk_ldc dX11_cut_82 (pc' := 84) rfl gw_891 ?_
              refine gk_iret dX11_cut_84 rfl (hB _ (if_neg (by omega)))
          · refine ⟨_, rfl, ?_⟩
            refine gk_if_eq dX11_cut_53 (tgt := 82) (pc' := 56) (by decide) rfl (fun _ => ?_) (fun c => absurd c (by decide))
            refine gk_ldc dX11_cut_82 (pc' := 84) rfl gw_891 ?_
            refine gk_iret dX11_cut_84 rfl (hB _ (if_neg (by omega)))
        · refine ⟨_, rfl, ?_⟩
          refine gk_if_eq dX11_cut_40 (tgt := 82) (pc' := 43) (by decide) rfl (fun _ => ?_) (fun c => absurd c (by decide))
          refine gk_ldc dX11_cut_82 (pc' := 84) rfl gw_891 ?_
          refine gk_iret dX11_cut_84 rfl (hB _ (if_neg (by omega)))
      · refine ⟨_, rfl, ?_⟩
        refine gk_if_eq dX11_cut_25 (tgt := 82) (pc' := 28) (by decide) rfl (fun _ => ?_) (fun c => absurd c (by decide))
        refine gk_ldc dX11_cut_82 (pc' := 84) rfl gw_891 ?_
        refine gk_iret dX11_cut_84 rfl (hB _ (if_neg (by omega)))
    · refine ⟨_, rfl, ?_⟩
      refine gk_if_eq dX11_cut_11 (tgt := 82) (pc' := 14) (by decide) rfl (fun _ => ?_) (fun c => absurd c (by decide))
      refine gk_ldc dX11_cut_82 (pc' := 84) rfl gw_891 ?_
      refine gk_iret dX11_cut_84 rfl (hB _ (if_neg (by omega)))
  · refine ⟨_, rfl, ?_⟩
    refine gk_if_eq dX11_cut_4 (tgt := 82) (pc' := 7) (by decide) rfl (fun _ => ?_) (fun c => absurd c (by decide))
    refine gk_ldc dX11_cut_82 (pc' := 84) rfl gw_891 ?_
    refine gk_iret dX11_cut_84 rfl (hB _ (if_neg (by omega)))
end MoF
