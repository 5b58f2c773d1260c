/-! ===== Seam: trace ===== -/
section SmB
variable {X : gX} {d : Nat} {b : Nat × Nat} {h : gk_H} {Q : Option Value → gk_H → Prop} {a o : Nat} {k : Int32} {w t : Nat} {p cs cl : Nat → Int32} {tot : Int32}
theorem nI_toN {x : Int32} {z : Nat} (h : x.toInt = z) : x = nI z := pu_nI h (by have := pu_rng x; omega)
theorem isSm.pic {h' : gk_H} (hp : isPic X h o k w t p) (hf : fr (fun c => c = a ∨ c = a + 1 ∨ c = a + 2) h h') (n1 : o ≠ a ∧ o ≠ a + 1 ∧ o ≠ a + 2) (n2 : o + 1 ≠ a) : isPic X h' o k w t p := hp.fr hf (by omega) (by omega)
/-- row y of the costs is there up to x -/
theorem lp_Seam_rowX {h0 : gk_H} {y : Nat} (n1 : o ≠ a ∧ o ≠ a + 1 ∧ o ≠ a + 2) (n2 : o + 1 ≠ a) (hp0 : isPic X h0 o k w t p) (h1 : 1 ≤ w) (hy : y < t)
    (hQ : ∀ h cs, isSm X h a cs cl tot → (∀ y' x', y' ≤ y → x' < w → cs (y' * w + x') = csR w t p y' x') → fr (fun c => c = a ∨ c = a + 1 ∨ c = a + 2) h0 h → ∀ l3 l4, G (kx X) mt_Seam_trace (d + 4) b 77 [some (.ref a), some (.ref o), some (.int (nI y)), l3, l4] [] h Q) :
    ∀ f x h cs l4, x + f = w → isSm X h a cs cl tot → (∀ y' x', y' < y → x' < w → cs (y' * w + x') = csR w t p y' x') → (∀ x', x' < x → cs (y * w + x') = csR w t p y x') → fr (fun c => c = a ∨ c = a + 1 ∨ c = a + 2) h0 h → G (kx X) mt_Seam_trace (d + 4) b 12 [some (.ref a), some (.ref o), some (.int (nI y)), some (.int (nI x)), l4] [] h Q := by
  intro f
  induction f with
  | zero =>
    intro x h cs l4 hx hs hr hc hf
    have hp := isSm.pic hp0 hf n1 n2
    have g1 := hp.o
    have hw := hp.1
    refine gk_iload3 dX7_trace_12 (pc' := 13) rfl ?_
    refine gk_aload1 dX7_trace_13 (pc' := 14) rfl ?_
    refine gk_getf (fs := [_, _, _, _]) gF_Seam_27 dX7_trace_14 (pc' := 17) rfl (by assumption) rfl ?_
    refine gk_icmp_ge dX7_trace_17 (tgt := 77) (pc' := 20) (by decide) rfl (fun c17 => ?_) (fun c17 => absurd (nI_le (by omega) (by omega)) c17)
    refine hQ h cs hs (fun y' x' q1 q2 => ?_) hf _ _
    by_cases q : y' = y
    · subst q; exact hc x' (by omega)
    · exact hr y' x' (by omega) q2
  | succ f ih =>
    intro x h cs l4 hx hs hr hc hf
    have hp := isSm.pic hp0 hf n1 n2
    have g1 := hp.o
    have s1 := hs.1
    have hw := hp.1
    have ht := hp.2.1
    have ha := hp.area
    have hxw : x < w := by omega
    have o1 := place_lt hxw hy
    have zx : (nI x).toInt = x := nI_toInt (by omega)
    have zy : (nI y).toInt = y := nI_toInt (by omega)
    have z1 : (1 : Int32).toInt = 1 := rfl
    have key : ∀ ab, ab + eng w t p x y = csR w t p y x → G (kx X) mt_Seam_trace (d + 4) b 52 [some (.ref a), some (.ref o), some (.int (nI y)), some (.int (nI x)), some (.int ab)] [] h Q := by
      intro ab hab
      refine gk_aload0 dX7_trace_52 (pc' := 53) rfl ?_
      refine gk_aload1 dX7_trace_53 (pc' := 54) rfl ?_
      refine gk_iload3 dX7_trace_54 (pc' := 55) rfl ?_
      refine gk_iload2 dX7_trace_55 (pc' := 56) rfl ?_
      refine gk_cV1_2 mv_Picture_place gw_686 dX7_trace_56 (pc' := 59) rfl (Nat.le_of_ble_eq_true rfl) (by exact (g1)) (sp_Picture_placeN hp ?_)
      refine ⟨_, rfl, ?_⟩
      refine gk_iload4 dX7_trace_59 (pc' := 61) rfl ?_
      refine gk_aload1 dX7_trace_61 (pc' := 62) rfl ?_
      refine gk_iload3 dX7_trace_62 (pc' := 63) rfl ?_
      refine gk_iload2 dX7_trace_63 (pc' := 64) rfl ?_
      refine gk_cV1_2 mv_Picture_energyAt gw_687 dX7_trace_64 (pc' := 67) rfl (Nat.le_of_ble_eq_true rfl) (by exact (g1)) (sp_Picture_energyAt hp h1 (by omega) (by omega) (by omega) ?_)
      refine ⟨_, rfl, ?_⟩
      rw [zx, zy]
      refine gk_iadd dX7_trace_67 (pc' := 68) rfl ?_
      rw [hab]
      refine gk_cV0_2 mv_Seam_setCost gw_688 dX7_trace_68 (pc' := 71) rfl (Nat.le_of_ble_eq_true rfl) (by exact (s1)) (sp_Seam_setCost hs (by omega) (fun h' q1 q2 => ?_))
      refine ⟨rfl, ?_⟩
      refine gk_iinc3 (v := 1) dX7_trace_71 (pc' := 74) rfl (by decide) (by decide) rfl ?_
      refine gk_goto dX7_trace_74 (tgt := 12) (by decide) ?_
      rw [← nI_succ x]
      refine ih (x + 1) h' _ _ (by omega) q1 (fun y' x' r1 r2 => ?_) (fun x' r1 => ?_) (hf.trans q2 (fun _ q => q) (fun _ q => Or.inr (Or.inl q)))
      · rw [pk_un (fun e => by have := place_lt (t := y) r2 r1; rw [Nat.mul_comm w y] at this; omega)]; exact hr y' x' r1 r2
      · by_cases q : x' = x
        · subst q; rw [pk_us]
        · rw [pk_un (by omega)]; exact hc x' (by omega)
    refine gk_iload3 dX7_trace_12 (pc' := 13) rfl ?_
    refine gk_aload1 dX7_trace_13 (pc' := 14) rfl ?_
    refine gk_getf (fs := [_, _, _, _]) gF_Seam_27 dX7_trace_14 (pc' := 17) rfl (by assumption) rfl ?_
    refine gk_icmp_ge dX7_trace_17 (tgt := 77) (pc' := 20) (by decide) rfl (fun c17 => absurd c17 (nI_ge (by omega) (by omega))) (fun c17 => ?_)
    refine gk_iload2 dX7_trace_20 (pc' := 21) rfl ?_
    refine gk_if_ne dX7_trace_21 (tgt := 28) (pc' := 24) (by decide) rfl (fun c21 => ?_) (fun c21 => ?_)
    · have q : ¬ y = 0 := fun e => c21 (by rw [e]; rfl)
      obtain ⟨y', rfl⟩ : ∃ y', y = y' + 1 := ⟨y - 1, by omega⟩
      have ey : nI (y' + 1) - 1 = nI y' := nI_pred y'
      have em : (nI x - 1).toInt = (x : Int) - 1 := by rw [Jvm.Kit.i32_sub (by omega) (by omega), zx, z1]
      have ep : nI x + 1 = nI (x + 1) := (nI_succ x).symm
      refine gk_aload0 dX7_trace_28 (pc' := 29) rfl ?_
      refine gk_aload1 dX7_trace_29 (pc' := 30) rfl ?_
      refine gk_aload0 dX7_trace_30 (pc' := 31) rfl ?_
      refine gk_aload1 dX7_trace_31 (pc' := 32) rfl ?_
      refine gk_iload2 dX7_trace_32 (pc' := 33) rfl ?_
      refine gk_iconst (v := 1) dX7_trace_33 (pc' := 34) rfl (by decide) ?_
      refine gk_isub dX7_trace_34 (pc' := 35) rfl ?_
      rw [ey]
      refine gk_iload3 dX7_trace_35 (pc' := 36) rfl ?_
      refine gk_iconst (v := 1) dX7_trace_36 (pc' := 37) rfl (by decide) ?_
      refine gk_isub dX7_trace_37 (pc' := 38) rfl ?_
      refine gk_iload3 dX7_trace_38 (pc' := 39) rfl ?_
      refine gk_iconst (v := 1) dX7_trace_39 (pc' := 40) rfl (by decide) ?_
      refine gk_iadd dX7_trace_40 (pc' := 41) rfl ?_
      rw [ep]
      refine gk_cV1_4 mv_Seam_leastIn gw_677 dX7_trace_41 (pc' := 44) rfl (Nat.le_of_ble_eq_true rfl) (by exact (s1)) (sp_Seam_leastIn (lo := x - 1) (c := csR w t p y') hs hp (by omega) (by omega) (by omega) (by omega) (fun x' q1 => hr y' x' (by omega) q1) ?_)
      refine ⟨_, rfl, ?_⟩
      refine gk_iload2 dX7_trace_44 (pc' := 45) rfl ?_
      refine gk_iconst (v := 1) dX7_trace_45 (pc' := 46) rfl (by decide) ?_
      refine gk_isub dX7_trace_46 (pc' := 47) rfl ?_
      rw [ey]
      refine gk_cV1_3 mv_Seam_cost gw_682 dX7_trace_47 (pc' := 50) rfl (Nat.le_of_ble_eq_true rfl) (by exact (s1)) (sp_Seam_cost hs hp (lI_lt (by omega)) (by omega) ?_)
      refine ⟨_, rfl, ?_⟩
      refine gk_istore4 dX7_trace_50 (pc' := 52) rfl (by decide) rfl ?_
      refine key _ ?_
      first | (rw [hr y' _ (by omega) (lI_lt (by omega))]; rfl) | (rw [Int32.zero_add]; rfl)
    · have q := (nI_eq (b := 0) (by omega) (by omega)).mp c21
      subst q
      refine gk_iconst (v := 0) dX7_trace_24 (pc' := 25) rfl (by decide) ?_
      refine gk_goto dX7_trace_25 (tgt := 50) (by decide) ?_
      refine gk_istore4 dX7_trace_50 (pc' := 52) rfl (by decide) rfl ?_
      refine key _ ?_
      first | (rw [hr y' _ (by omega) (lI_lt (by omega))]; rfl) | (rw [Int32.zero_add]; rfl)
theorem lp_Seam_rowY {h0 : gk_H} (n1 : o ≠ a ∧ o ≠ a + 1 ∧ o ≠ a + 2) (n2 : o + 1 ≠ a) (hp0 : isPic X h0 o k w t p) (h1 : 1 ≤ w)
    (hQ : ∀ h cs, isSm X h a cs cl tot → (∀ y' x', y' < t → x' < w → cs (y' * w + x') = csR w t p y' x') → fr (fun c => c = a ∨ c = a + 1 ∨ c = a + 2) h0 h → ∀ l2 l3 l4, G (kx X) mt_Seam_trace (d + 4) b 83 [some (.ref a), some (.ref o), l2, l3, l4] [] h Q) :
    ∀ f y h cs l3 l4, y + f = t → isSm X h a cs cl tot → (∀ y' x', y' < y → x' < w → cs (y' * w + x') = csR w t p y' x') → fr (fun c => c = a ∨ c = a + 1 ∨ c = a + 2) h0 h → G (kx X) mt_Seam_trace (d + 4) b 2 [some (.ref a), some (.ref o), some (.int (nI y)), l3, l4] [] h Q := by
  intro f
  induction f with
  | zero =>
    intro y h cs l3 l4 hy hs hr hf
    have hp := isSm.pic hp0 hf n1 n2
    have g1 := hp.o
    have ht := hp.2.1
    refine gk_iload2 dX7_trace_2 (pc' := 3) rfl ?_
    refine gk_aload1 dX7_trace_3 (pc' := 4) rfl ?_
    refine gk_getf (fs := [_, _, _, _]) gF_Seam_22 dX7_trace_4 (pc' := 7) rfl (by assumption) rfl ?_
    refine gk_icmp_ge dX7_trace_7 (tgt := 83) (pc' := 10) (by decide) rfl (fun c7 => ?_) (fun c7 => absurd (nI_le (by omega) (by omega)) c7)
    exact hQ h cs hs (fun y' x' q1 q2 => hr y' x' (by omega) q2) hf _ _ _
  | succ f ih =>
    intro y h cs l3 l4 hy hs hr hf
    have hp := isSm.pic hp0 hf n1 n2
    have g1 := hp.o
    have ht := hp.2.1
    refine gk_iload2 dX7_trace_2 (pc' := 3) rfl ?_
    refine gk_aload1 dX7_trace_3 (pc' := 4) rfl ?_
    refine gk_getf (fs := [_, _, _, _]) gF_Seam_22 dX7_trace_4 (pc' := 7) rfl (by assumption) rfl ?_
    refine gk_icmp_ge dX7_trace_7 (tgt := 83) (pc' := 10) (by decide) rfl (fun c7 => absurd c7 (nI_ge (by omega) (by omega))) (fun c7 => ?_)
    refine gk_iconst (v := 0) dX7_trace_10 (pc' := 11) rfl (by decide) ?_
    refine gk_istore3 dX7_trace_11 (pc' := 12) rfl (by decide) rfl ?_
    refine lp_Seam_rowX n1 n2 hp0 h1 (by omega) (fun h2 cs2 hs2 hr2 hf2 l3 l4 => ?_) w 0 h cs _ (by omega) hs hr (fun x' q => absurd q (by omega)) hf
    refine gk_iinc2 (v := 1) dX7_trace_77 (pc' := 80) rfl (by decide) (by decide) rfl ?_
    refine gk_goto dX7_trace_80 (tgt := 2) (by decide) ?_
    rw [← nI_succ]
    exact ih (y + 1) h2 cs2 _ _ (by omega) hs2 (fun y' x' q1 q2 => hr2 y' x' (by omega) q2) hf2
theorem lp_Seam_cols {h0 : gk_H} (n1 : o ≠ a ∧ o ≠ a + 1 ∧ o ≠ a + 2) (n2 : o + 1 ≠ a) (hp0 : isPic X h0 o k w t p) (h1 : 1 ≤ w) (h2 : 1 ≤ t)
    (hr : ∀ y' x', y' < t → x' < w → cs (y' * w + x') = csR w t p y' x') (hQ : ∀ h cl, isSm X h a cs cl tot → (∀ y, y < t → cl y = nI (seamCol w t p y)) → fr (fun c => c = a ∨ c = a + 1 ∨ c = a + 2) h0 h → Q none h) :
    ∀ f n h cl x v, v = nI f - 1 → n + f = t → isSm X h a cs cl tot → (∀ i, i < n → cl (t - 1 - i) = nI (colD w t p i)) → (x = if n = 0 then colD w t p 0 else colD w t p (n - 1)) → fr (fun c => c = a ∨ c = a + 1 ∨ c = a + 2) h0 h → G (kx X) mt_Seam_trace (d + 4) b 118 [some (.ref a), some (.ref o), some (.int (nI (t - 1))), some (.int (nI x)), some (.int v)] [] h Q := by
  intro f
  induction f with
  | zero =>
    intro n h cl x v hv hn hs hc hx hf
    subst hv
    refine gk_iload4 dX7_trace_118 (pc' := 120) rfl ?_
    refine gk_if_lt dX7_trace_120 (tgt := 168) (pc' := 123) (by decide) rfl (fun c120 => ?_) (fun c120 => absurd (by decide) c120)
    refine gk_vret dX7_trace_168 rfl (hQ h cl hs (fun y hy => ?_) hf)
    have := hc (t - 1 - y) (by omega)
    rw [show t - 1 - (t - 1 - y) = y by omega] at this
    exact this
  | succ f ih =>
    intro n h cl x v hv hn hs hc hx hf
    subst hv
    have hp := isSm.pic hp0 hf n1 n2
    have g1 := hp.o
    have s1 := hs.1
    have hw := hp.1
    have ht := hp.2.1
    have ef : nI (f + 1) - 1 = nI f := nI_pred f
    rw [ef]
    have hf' : f = t - 1 - n := by omega
    have xl : x < w := by rw [hx]; split <;> exact colD_lt h1 _
    have zx : (nI x).toInt = x := nI_toInt (by omega)
    have z1 : (1 : Int32).toInt = 1 := rfl
    have key : ∀ x', x' = colD w t p n → G (kx X) mt_Seam_trace (d + 4) b 154 [some (.ref a), some (.ref o), some (.int (nI (t - 1))), some (.int (nI x')), some (.int (nI f))] [] h Q := by
      intro x' hx'
      obtain ⟨s1, s2, s3⟩ := hs
      refine gk_aload0 dX7_trace_154 (pc' := 155) rfl ?_
      refine gk_getf (fs := [_, _, _]) gF_Seam_15 dX7_trace_155 (pc' := 158) rfl (by assumption) rfl ?_
      refine gk_iload4 dX7_trace_158 (pc' := 160) rfl ?_
      refine gk_iload3 dX7_trace_160 (pc' := 161) rfl ?_
      refine gk_iast (t0 := 0) rfl dX7_trace_161 (pc' := 162) rfl (by exact (s3)) (vp_in_nI (by omega) (by decide)) ?_
      rw [nI_clamp (by omega)]
      refine gk_iinc4 (v := -1) dX7_trace_162 (pc' := 165) rfl (by decide) (by decide) rfl ?_
      refine gk_goto dX7_trace_165 (tgt := 118) (by decide) ?_
      refine ih (n + 1) _ _ x' _ (by rw [Int32.sub_eq_add_neg]) (by omega) ⟨(gk_set_ne (by omega)).trans s1, (gk_set_ne (by omega)).trans s2, gk_set_self⟩ (fun i hi => ?_) (by rw [if_neg (by omega)]; exact hx') (hf.trans fr.set (fun _ q => q) (fun _ q => Or.inr (Or.inr q)))
      by_cases q : i = n
      · subst q; rw [hf', pk_us, hx']
      · rw [pk_un (by omega)]; exact hc i (by omega)
    refine gk_iload4 dX7_trace_118 (pc' := 120) rfl ?_
    refine gk_if_lt dX7_trace_120 (tgt := 168) (pc' := 123) (by decide) rfl (fun c120 => absurd c120 (nI_pos (by omega))) (fun c120 => ?_)
    refine gk_iload4 dX7_trace_123 (pc' := 125) rfl ?_
    refine gk_bipush (v := 16) dX7_trace_125 (pc' := 127) rfl (by decide) ?_
    refine gk_icmp_ge dX7_trace_127 (tgt := 168) (pc' := 130) (by decide) rfl (fun c127 => absurd c127 (nI_ge (b := 16) (by omega) (by decide))) (fun c127 => ?_)
    refine gk_iload4 dX7_trace_130 (pc' := 132) rfl ?_
    refine gk_iload2 dX7_trace_132 (pc' := 133) rfl ?_
    refine gk_icmp_ne dX7_trace_133 (tgt := 140) (pc' := 136) (by decide) rfl (fun c133 => ?_) (fun c133 => ?_)
    · have q : ¬ n = 0 := fun e => c133 (by rw [hf', e]; rfl)
      rw [if_neg q] at hx
      obtain ⟨m, rfl⟩ : ∃ m, n = m + 1 := ⟨n - 1, by omega⟩
      have em : (nI x - 1).toInt = (x : Int) - 1 := by rw [Jvm.Kit.i32_sub (by omega) (by omega), zx, z1]
      have ep : nI x + 1 = nI (x + 1) := (nI_succ x).symm
      refine gk_aload0 dX7_trace_140 (pc' := 141) rfl ?_
      refine gk_aload1 dX7_trace_141 (pc' := 142) rfl ?_
      refine gk_iload4 dX7_trace_142 (pc' := 144) rfl ?_
      refine gk_iload3 dX7_trace_144 (pc' := 145) rfl ?_
      refine gk_iconst (v := 1) dX7_trace_145 (pc' := 146) rfl (by decide) ?_
      refine gk_isub dX7_trace_146 (pc' := 147) rfl ?_
      refine gk_iload3 dX7_trace_147 (pc' := 148) rfl ?_
      refine gk_iconst (v := 1) dX7_trace_148 (pc' := 149) rfl (by decide) ?_
      refine gk_iadd dX7_trace_149 (pc' := 150) rfl ?_
      rw [ep]
      refine gk_cV1_4 mv_Seam_leastIn gw_677 dX7_trace_150 (pc' := 153) rfl (Nat.le_of_ble_eq_true rfl) (by exact (s1)) (sp_Seam_leastIn (lo := x - 1) (c := csR w t p f) hs hp (by omega) (by omega) (by omega) (by omega) (fun x' q1 => hr f x' (by omega) q1) ?_)
      refine ⟨_, rfl, ?_⟩
      refine gk_istore3 dX7_trace_153 (pc' := 154) rfl (by decide) rfl ?_
      refine key _ ?_
      first | (rw [if_pos (by omega)] at hx; rw [hx, show n = 0 by omega]; done) | (rw [hx, hf']; rfl)
    · have q := (nI_eq (by omega) (by omega)).mp c133
      refine gk_iload3 dX7_trace_136 (pc' := 137) rfl ?_
      refine gk_goto dX7_trace_137 (tgt := 153) (by decide) ?_
      refine gk_istore3 dX7_trace_153 (pc' := 154) rfl (by decide) rfl ?_
      refine key _ ?_
      first | (rw [if_pos (by omega)] at hx; rw [hx, show n = 0 by omega]; done) | (rw [hx, hf']; rfl)
theorem sp_Seam_trace (hs : isSm X h a cs cl tot) (hp : isPic X h o k w t p) (n1 : o ≠ a ∧ o ≠ a + 1 ∧ o ≠ a + 2) (n2 : o + 1 ≠ a) (h1 : 1 ≤ w) (h2 : 1 ≤ t)
    (hQ : ∀ h' cs' cl', isSm X h' a cs' cl' (seamTot w t p) → (∀ y, y < t → cl' y = nI (seamCol w t p y)) → fr (fun c => c = a ∨ c = a + 1 ∨ c = a + 2) h h' → Q none h') : Gm (kx X) mt_Seam_trace (d + 4) b [.ref a, .ref o] h Q := by
  have hw := hp.1
  have ht := hp.2.1
  have et : nI t - 1 = nI (t - 1) := pk_sub (b := 1) h2
  have ew : nI w - 1 = nI (w - 1) := pk_sub (b := 1) h1
  refine Gm.enter (L := [some (.ref a), some (.ref o), none, none, none]) (by decide) (fun _ => trivial) (Nat.le_of_ble_eq_true rfl) rfl ?_
  refine gk_iconst (v := 0) dX7_trace_0 (pc' := 1) rfl (by decide) ?_
  refine gk_istore2 dX7_trace_1 (pc' := 2) rfl (by decide) rfl ?_
  refine lp_Seam_rowY n1 n2 hp h1 (fun h1' cs1 hs1 hr1 hf1 l2 l3 l4 => ?_) t 0 h cs _ _ (by omega) hs (fun y' x' q => absurd q (by omega)) fr.rf
  have hp1 := isSm.pic hp hf1 n1 n2
  have g1 := hp1.o
  have s1 := hs1.1
  refine gk_aload1 dX7_trace_83 (pc' := 84) rfl ?_
  refine gk_getf (fs := [_, _, _, _]) gF_Seam_22 dX7_trace_84 (pc' := 87) rfl (by exact (g1)) rfl ?_
  refine gk_iconst (v := 1) dX7_trace_87 (pc' := 88) rfl (by decide) ?_
  refine gk_isub dX7_trace_88 (pc' := 89) rfl ?_
  rw [et]
  refine gk_istore2 dX7_trace_89 (pc' := 90) rfl (by decide) rfl ?_
  refine gk_aload0 dX7_trace_90 (pc' := 91) rfl ?_
  refine gk_aload1 dX7_trace_91 (pc' := 92) rfl ?_
  refine gk_iload2 dX7_trace_92 (pc' := 93) rfl ?_
  refine gk_iconst (v := 0) dX7_trace_93 (pc' := 94) rfl (by decide) ?_
  refine gk_aload1 dX7_trace_94 (pc' := 95) rfl ?_
  refine gk_getf (fs := [_, _, _, _]) gF_Seam_27 dX7_trace_95 (pc' := 98) rfl (by exact (g1)) rfl ?_
  refine gk_iconst (v := 1) dX7_trace_98 (pc' := 99) rfl (by decide) ?_
  refine gk_isub dX7_trace_99 (pc' := 100) rfl ?_
  rw [ew]
  refine gk_cV1_4 mv_Seam_leastIn gw_677 dX7_trace_100 (pc' := 103) rfl (Nat.le_of_ble_eq_true rfl) (by exact (s1)) (sp_Seam_leastIn (lo := 0) (c := csR w t p (t - 1)) hs1 hp1 (by omega) (by omega) (by omega) (Or.inl rfl) (fun x' q1 => hr1 (t - 1) x' (by omega) q1) ?_)
  refine ⟨_, rfl, ?_⟩
  refine gk_istore3 dX7_trace_103 (pc' := 104) rfl (by decide) rfl ?_
  refine gk_aload0 dX7_trace_104 (pc' := 105) rfl ?_
  refine gk_aload0 dX7_trace_105 (pc' := 106) rfl ?_
  refine gk_aload1 dX7_trace_106 (pc' := 107) rfl ?_
  refine gk_iload3 dX7_trace_107 (pc' := 108) rfl ?_
  refine gk_iload2 dX7_trace_108 (pc' := 109) rfl ?_
  refine gk_cV1_3 mv_Seam_cost gw_682 dX7_trace_109 (pc' := 112) rfl (Nat.le_of_ble_eq_true rfl) (by exact (s1)) (sp_Seam_cost hs1 hp1 (lI_lt (by omega)) (by omega) ?_)
  refine ⟨_, rfl, ?_⟩
  rw [hr1 (t - 1) _ (by omega) (lI_lt (by omega))]
  refine gk_putf (fs := [_, _, _]) gP_Seam_18 dX7_trace_112 (pc' := 115) rfl (by exact (s1)) rfl rfl (Nat.le_of_ble_eq_true rfl) ?_
  refine gk_iload2 dX7_trace_115 (pc' := 116) rfl ?_
  refine gk_istore4 dX7_trace_116 (pc' := 118) rfl (by decide) rfl ?_
  obtain ⟨s1, s2, s3⟩ := hs1
  refine lp_Seam_cols (cs := cs1) n1 n2 hp h1 h2 hr1 (fun h3 cl3 q1 q2 q3 => hQ h3 cs1 cl3 q1 q2 q3) t 0 _ cl _ _ et.symm (by omega) ⟨gk_set_self, (gk_set_ne (by omega)).trans s2, (gk_set_ne (by omega)).trans s3⟩ (fun i hi => absurd hi (by omega)) rfl (hf1.trans fr.set (fun _ q => q) (fun _ q => Or.inl q))
theorem sp_Seam_init (ha : h.1 a = some (.inr (7, [.null, .null, .int 0]))) (hz : h.2 = a + 1) (hQ : ∀ h' cs cl, isSm X h' a cs cl 0 → (∀ c, c ≠ a → c ≠ a + 1 → c ≠ a + 2 → h'.1 c = h.1 c) → h'.2 = a + 3 → Q none h') : Gm (kx X) mt_Seam_init (d + 1) (2, 272) [.ref a] h Q := by
  refine Gm.enter (L := [some (.ref a)]) (by decide) (fun _ => trivial) (Nat.le_of_ble_eq_true rfl) rfl ?_
  refine gk_aload0 dX7_init_0 (pc' := 1) rfl ?_
  refine gk_objInit gw_170 gw_23 gw_24 dX7_init_1 (pc' := 4) rfl (Nat.le_of_ble_eq_true rfl) ?_
  refine gk_aload0 dX7_init_4 (pc' := 5) rfl ?_
  refine gk_sipush (v := 256) dX7_init_5 (pc' := 8) rfl (by decide) ?_
  refine gk_newi (n := 256) (bc := 1) (bs := 16) (t0 := 0) rfl gw_61 dX7_init_8 (pc' := 10) rfl rfl (by decide) ?_
  refine gk_putF (fs := [_, _, _]) gP_Seam_9 rfl dX7_init_10 (pc' := 13) rfl (by exact ((gk_new_ne (by omega)).trans ha)) rfl rfl (Nat.le_of_ble_eq_true rfl) ?_
  refine gk_aload0 dX7_init_13 (pc' := 14) rfl ?_
  refine gk_bipush (v := 16) dX7_init_14 (pc' := 16) rfl (by decide) ?_
  refine gk_newi (n := 16) (bc := 0) (bs := 0) (t0 := 0) rfl gw_61 dX7_init_16 (pc' := 18) rfl rfl (by decide) ?_
  refine gk_putF (fs := [_, _, _]) gP_Seam_15 rfl dX7_init_18 (pc' := 21) rfl (by exact ((gk_new_ne (by show a ≠ h.2 + 1; omega)).trans gk_set_self)) rfl rfl (Nat.le_of_ble_eq_true rfl) ?_
  refine gk_aload0 dX7_init_21 (pc' := 22) rfl ?_
  refine gk_iconst (v := 0) dX7_init_22 (pc' := 23) rfl (by decide) ?_
  refine gk_putf (fs := [_, _, _]) gP_Seam_18 dX7_init_23 (pc' := 26) rfl (by exact (gk_set_self)) rfl rfl (Nat.le_of_ble_eq_true rfl) ?_
  refine gk_vret dX7_init_26 rfl (hQ _ (fun _ => 0) (fun _ => 0) ⟨?_, ?_, ?_⟩ (fun c n1 n2 n3 => ?_) ?_)
  · rw [gk_set_self]
    show some (Sum.inr (_, [Value.ref h.2, Value.ref (h.2 + 1), Value.int 0])) = _
    rw [hz]
  · rw [gk_set_ne (by omega), gk_set_ne (by omega), gk_new_ne (by show a + 1 ≠ h.2 + 1; omega), gk_set_ne (by omega), ← hz]; exact gk_new_self
  · rw [gk_set_ne (by omega), gk_set_ne (by omega), show a + 2 = h.2 + 1 by omega]; exact gk_new_self
  · rw [gk_set_ne n1, gk_set_ne n1, gk_new_ne (by show c ≠ h.2 + 1; omega), gk_set_ne n1, gk_new_ne (by omega)]
  · show h.2 + 1 + 1 = a + 3; omega
end SmB
