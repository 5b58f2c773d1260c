/-! ===== Tones: spread, flatten ===== -/
section TnB
variable {X : gX} {d : Nat} {b : Nat × Nat} {h : gk_H} {Q : Option Value → gk_H → Prop} {a o o' : Nat} {k : Int32} {w t : Nat} {p cr am : Nat → Int32}
theorem lp_Tones_spreadX {h0 : gk_H} {y top : Nat} (hp0 : isPic X h0 o k w t p) (n1 : o ≠ a + 1 ∧ o ≠ a) (n2 : o' ≠ a + 1 ∧ o' ≠ a ∧ o' + 1 ≠ a ∧ o' ≠ a + 2 ∧ o' + 1 ≠ a + 2) (n3 : o ≠ o' ∧ o ≠ o' + 1 ∧ o' ≠ o + 1) (hy : y < t) (h1 : 1 ≤ top) (h2 : top ≤ 15)
    (hQ : ∀ h g, isTn X h a (dS w t top p (y * w + w)).1 am → isPic X h o' k w t g → (∀ i, i < y * w + w → g i = (dS w t top p (y * w + w)).2 i) → fr (fun c => c = a + 1 ∨ c = o' ∨ c = o' + 1) h0 h → ∀ l5, G (kx X) mt_Tones_spread (d + 4) b 67 [some (.ref a), some (.ref o), some (.ref o'), some (.int (nI (top + 1))), some (.int (nI y)), l5] [] h Q) :
    ∀ f x h g, x + f = w → isTn X h a (dS w t top p (y * w + x)).1 am → isPic X h o' k w t g → (∀ i, i < y * w + x → g i = (dS w t top p (y * w + x)).2 i) → fr (fun c => c = a + 1 ∨ c = o' ∨ c = o' + 1) h0 h → G (kx X) mt_Tones_spread (d + 4) b 39 [some (.ref a), some (.ref o), some (.ref o'), some (.int (nI (top + 1))), some (.int (nI y)), some (.int (nI x))] [] h Q := by
  intro f
  induction f with
  | zero =>
    intro x h g hx hs hg hgo hf
    have hp := hp0.fr hf (by omega) (by omega)
    have q1 := hp.o
    have hw := hp.1
    have e : x = w := by omega
    subst e
    refine gk_iload5 dX9_spread_39 (pc' := 41) rfl ?_
    refine gk_aload1 dX9_spread_41 (pc' := 42) rfl ?_
    refine gk_getf (fs := [_, _, _, _]) gF_Tones_24 dX9_spread_42 (pc' := 45) rfl (by assumption) rfl ?_
    refine gk_icmp_ge dX9_spread_45 (tgt := 67) (pc' := 48) (by decide) rfl (fun c45 => ?_) (fun c45 => absurd (nI_le (by omega) (by omega)) c45)
    exact hQ h g hs hg hgo hf _
  | succ f ih =>
    intro x h g hx hs hg hgo hf
    have hp := hp0.fr hf (by omega) (by omega)
    have q1 := hp.o
    have s1 := hs.1
    have hw := hp.1
    refine gk_iload5 dX9_spread_39 (pc' := 41) rfl ?_
    refine gk_aload1 dX9_spread_41 (pc' := 42) rfl ?_
    refine gk_getf (fs := [_, _, _, _]) gF_Tones_24 dX9_spread_42 (pc' := 45) rfl (by assumption) rfl ?_
    refine gk_icmp_ge dX9_spread_45 (tgt := 67) (pc' := 48) (by decide) rfl (fun c45 => absurd c45 (nI_ge (by omega) (by omega))) (fun c45 => ?_)
    refine gk_aload0 dX9_spread_48 (pc' := 49) rfl ?_
    refine gk_aload1 dX9_spread_49 (pc' := 50) rfl ?_
    refine gk_aload2 dX9_spread_50 (pc' := 51) rfl ?_
    refine gk_iload5 dX9_spread_51 (pc' := 53) rfl ?_
    refine gk_iload4 dX9_spread_53 (pc' := 55) rfl ?_
    refine gk_iload3 dX9_spread_55 (pc' := 56) rfl ?_
    refine gk_iconst (v := 1) dX9_spread_56 (pc' := 57) rfl (by decide) ?_
    refine gk_isub dX9_spread_57 (pc' := 58) rfl ?_
    rw [nI_pred]
    refine gk_cV0_5 mv_Tones_spreadAt gw_624 dX9_spread_58 (pc' := 61) rfl (Nat.le_of_ble_eq_true rfl) (by exact (s1)) (sp_Tones_spreadAt hs hp hg n1 n2 n3 (by omega) hy h1 h2 hgo (fun h' g' r1 r2 r3 r4 => ?_))
    refine ⟨rfl, ?_⟩
    refine gk_iinc5 (v := 1) dX9_spread_61 (pc' := 64) rfl (by decide) (by decide) rfl ?_
    refine gk_goto dX9_spread_64 (tgt := 39) (by decide) ?_
    rw [← nI_succ]
    exact ih (x + 1) h' g' (by omega) r1 r2 r3 (hf.trans r4 (fun _ z => z) (fun _ z => z.elim Or.inl (fun z => Or.inr (Or.inr z))))
theorem lp_Tones_spreadY {h0 : gk_H} {top : Nat} (hp0 : isPic X h0 o k w t p) (n1 : o ≠ a + 1 ∧ o ≠ a) (n2 : o' ≠ a + 1 ∧ o' ≠ a ∧ o' + 1 ≠ a ∧ o' ≠ a + 2 ∧ o' + 1 ≠ a + 2) (n3 : o ≠ o' ∧ o ≠ o' + 1 ∧ o' ≠ o + 1) (h1 : 1 ≤ top) (h2 : top ≤ 15)
    (hQ : ∀ h cr, isTn X h a cr am → isPic X h o' k w t (dS w t top p (t * w)).2 → fr (fun c => c = a + 1 ∨ c = o' ∨ c = o' + 1) h0 h → Q none h) :
    ∀ f y h g l5, y + f = t → isTn X h a (dS w t top p (y * w)).1 am → isPic X h o' k w t g → (∀ i, i < y * w → g i = (dS w t top p (y * w)).2 i) → fr (fun c => c = a + 1 ∨ c = o' ∨ c = o' + 1) h0 h → G (kx X) mt_Tones_spread (d + 4) b 27 [some (.ref a), some (.ref o), some (.ref o'), some (.int (nI (top + 1))), some (.int (nI y)), l5] [] h Q := by
  intro f
  induction f with
  | zero =>
    intro y h g l5 hy hs hg hgo hf
    have hp := hp0.fr hf (by omega) (by omega)
    have q1 := hp.o
    have hh := hp.2.1
    have e : y = t := by omega
    subst e
    refine gk_iload4 dX9_spread_27 (pc' := 29) rfl ?_
    refine gk_aload1 dX9_spread_29 (pc' := 30) rfl ?_
    refine gk_getf (fs := [_, _, _, _]) gF_Tones_27 dX9_spread_30 (pc' := 33) rfl (by assumption) rfl ?_
    refine gk_icmp_ge dX9_spread_33 (tgt := 73) (pc' := 36) (by decide) rfl (fun c33 => ?_) (fun c33 => absurd (nI_le (by omega) (by omega)) c33)
    refine gk_vret dX9_spread_73 rfl (hQ h _ hs (hg.congr (fun i hi => hgo i (by rw [Nat.mul_comm]; exact hi))) hf)
  | succ f ih =>
    intro y h g l5 hy hs hg hgo hf
    have hp := hp0.fr hf (by omega) (by omega)
    have q1 := hp.o
    have hh := hp.2.1
    refine gk_iload4 dX9_spread_27 (pc' := 29) rfl ?_
    refine gk_aload1 dX9_spread_29 (pc' := 30) rfl ?_
    refine gk_getf (fs := [_, _, _, _]) gF_Tones_27 dX9_spread_30 (pc' := 33) rfl (by assumption) rfl ?_
    refine gk_icmp_ge dX9_spread_33 (tgt := 73) (pc' := 36) (by decide) rfl (fun c33 => absurd c33 (nI_ge (by omega) (by omega))) (fun c33 => ?_)
    refine gk_iconst (v := 0) dX9_spread_36 (pc' := 37) rfl (by decide) ?_
    refine gk_istore5 dX9_spread_37 (pc' := 39) rfl (by decide) rfl ?_
    refine lp_Tones_spreadX hp0 n1 n2 n3 (by omega) h1 h2 (fun h3 g3 r1 r2 r3 r4 l5 => ?_) w 0 h g (by omega) hs hg hgo hf
    refine gk_iinc4 (v := 1) dX9_spread_67 (pc' := 70) rfl (by decide) (by decide) rfl ?_
    refine gk_goto dX9_spread_70 (tgt := 27) (by decide) ?_
    rw [← nI_succ]
    have e : (y + 1) * w = y * w + w := by rw [Nat.add_mul, Nat.one_mul]
    exact ih (y + 1) h3 g3 _ (by omega) (by rw [e]; exact r1) r2 (by rw [e]; exact r3) r4
theorem sp_Tones_spread {k' : Int32} {w' t' : Nat} {p' : Nat → Int32} {top : Nat} (hs : isTn X h a cr am) (hp : isPic X h o k w t p) (hp' : isPic X h o' k' w' t' p') (n1 : o ≠ a + 1 ∧ o ≠ a ∧ o + 1 ≠ a) (n2 : o' ≠ a + 1 ∧ o' ≠ a ∧ o' + 1 ≠ a ∧ o' ≠ a + 2 ∧ o' + 1 ≠ a + 2) (n3 : o ≠ o' ∧ o ≠ o' + 1 ∧ o' ≠ o + 1) (h1 : 1 ≤ top) (h2 : top ≤ 15)
    (hQ : ∀ h' cr', isTn X h' a cr' am → isPic X h' o' k w t (dS w t top p (t * w)).2 → fr (fun c => c = a + 1 ∨ c = o' ∨ c = o' + 1) h h' → Q none h') : Gm (kx X) mt_Tones_spread (d + 4) b [.ref a, .ref o, .ref o', .int (nI (top + 1))] h Q := by
  have q1 := hp.o
  have q2 := hp'.o
  refine Gm.enter (L := [some (.ref a), some (.ref o), some (.ref o'), some (.int (nI (top + 1))), none, none]) (by decide) (fun _ => trivial) (Nat.le_of_ble_eq_true rfl) rfl ?_
  refine gk_aload2 dX9_spread_0 (pc' := 1) rfl ?_
  refine gk_aload1 dX9_spread_1 (pc' := 2) rfl ?_
  refine gk_getf (fs := [_, _, _, _]) gF_Tones_18 dX9_spread_2 (pc' := 5) rfl (by exact (q1)) rfl ?_
  refine gk_aload1 dX9_spread_5 (pc' := 6) rfl ?_
  refine gk_getf (fs := [_, _, _, _]) gF_Tones_24 dX9_spread_6 (pc' := 9) rfl (by exact (q1)) rfl ?_
  refine gk_aload1 dX9_spread_9 (pc' := 10) rfl ?_
  refine gk_getf (fs := [_, _, _, _]) gF_Tones_27 dX9_spread_10 (pc' := 13) rfl (by exact (q1)) rfl ?_
  refine gk_cV0_3 mv_Picture_shape gw_622 dX9_spread_13 (pc' := 16) rfl (Nat.le_of_ble_eq_true rfl) (by exact (q2)) (sp_Picture_shape hp' hp.1 hp.2.1 (fun h1' g r1 r2 => ?_))
  refine ⟨rfl, ?_⟩
  have t1 := (r2.2 a (by omega)).trans hs.1
  have t2 := (r2.2 (a + 1) (by omega)).trans hs.2.1
  have t3 := (r2.2 (a + 2) (by omega)).trans hs.2.2
  have hp1 := hp.fr r2 (by omega) (by omega)
  refine gk_aload0 dX9_spread_16 (pc' := 17) rfl ?_
  refine gk_getf (fs := [_, _]) gF_Tones_9 dX9_spread_17 (pc' := 20) rfl (by exact (t1)) rfl ?_
  refine gk_iconst (v := 0) dX9_spread_20 (pc' := 21) rfl (by decide) ?_
  refine gk_cS0_2 mz_Arrays_fill gw_623 dX9_spread_21 (pc' := 24) rfl (Nat.le_of_ble_eq_true rfl) (sp_Arrays_fillE t2 (by omega) ?_)
  refine ⟨rfl, ?_⟩
  refine gk_iconst (v := 0) dX9_spread_24 (pc' := 25) rfl (by decide) ?_
  refine gk_istore4 dX9_spread_25 (pc' := 27) rfl (by decide) rfl ?_
  exact lp_Tones_spreadY (h0 := h) hp ⟨n1.1, n1.2.1⟩ n2 n3 h1 h2 hQ t 0 _ g _ (by omega) ⟨(gk_set_ne (by omega)).trans t1, by rw [Nat.zero_mul]; exact gk_set_self, (gk_set_ne (by omega)).trans t3⟩ (r1.kept (gk_set_ne (by omega)) (gk_set_ne (by omega))) (fun i hi => absurd hi (by omega)) (r2.trans fr.set (fun _ z => Or.inr (Or.inl z)) (fun _ z => Or.inl z))
theorem lp_Tones_hist {h0 : gk_H} (n1 : o ≠ a + 2 ∧ o + 1 ≠ a + 2) (hp0 : isPic X h0 o k w t p) (hb : ∀ i, i < w * t → 0 ≤ (p i).toInt ∧ (p i).toInt ≤ 255) (hQ : ∀ h, isTn X h a cr (fun v => nI (hst p (w * t) v)) → fr (fun c => c = a + 2) h0 h → ∀ l2 l3, G (kx X) mt_Tones_countUp (d + 1) b 51 [some (.ref a), some (.ref o), l2, l3] [] h Q) :
    ∀ f i h l3, i + f = w * t → isTn X h a cr (fun v => nI (hst p i v)) → fr (fun c => c = a + 2) h0 h → G (kx X) mt_Tones_countUp (d + 1) b 10 [some (.ref a), some (.ref o), some (.int (nI i)), l3] [] h Q := by
  intro f
  induction f with
  | zero =>
    intro i h l3 hi hs hf
    have hp := hp0.fr hf (by omega) (by omega)
    have q1 := hp.o
    have har := hp.area
    refine gk_iload2 dX9_countUp_10 (pc' := 11) rfl ?_
    refine gk_aload1 dX9_countUp_11 (pc' := 12) rfl ?_
    refine gk_cV1_0 mv_Picture_area gw_649 dX9_countUp_12 (pc' := 15) rfl (Nat.le_of_ble_eq_true rfl) (by exact (q1)) (sp_Picture_area hp ?_)
    refine ⟨_, rfl, ?_⟩
    refine gk_icmp_ge dX9_countUp_15 (tgt := 51) (pc' := 18) (by decide) rfl (fun c15 => ?_) (fun c15 => absurd (nI_le (by omega) (by omega)) c15)
    exact hQ h (by rw [show w * t = i by omega]; exact hs) hf _ _
  | succ f ih =>
    intro i h l3 hi hs hf
    have hp := hp0.fr hf (by omega) (by omega)
    have q1 := hp.o
    have har := hp.area
    obtain ⟨e1, e2, e3⟩ := hs
    have hbi := hb i (by omega)
    obtain ⟨m, em, rm⟩ := pu_nn hbi.1
    refine gk_iload2 dX9_countUp_10 (pc' := 11) rfl ?_
    refine gk_aload1 dX9_countUp_11 (pc' := 12) rfl ?_
    refine gk_cV1_0 mv_Picture_area gw_649 dX9_countUp_12 (pc' := 15) rfl (Nat.le_of_ble_eq_true rfl) (by exact (q1)) (sp_Picture_area hp ?_)
    refine ⟨_, rfl, ?_⟩
    refine gk_icmp_ge dX9_countUp_15 (tgt := 51) (pc' := 18) (by decide) rfl (fun c15 => absurd c15 (nI_ge (by omega) (by omega))) (fun c15 => ?_)
    refine gk_aload1 dX9_countUp_18 (pc' := 19) rfl ?_
    refine gk_iload2 dX9_countUp_19 (pc' := 20) rfl ?_
    refine gk_cV1_1 mv_Picture_pixel gw_629 dX9_countUp_20 (pc' := 23) rfl (Nat.le_of_ble_eq_true rfl) (by exact (q1)) (sp_Picture_pixel hp (by omega) ?_)
    refine ⟨_, rfl, ?_⟩
    rw [rm]
    refine gk_istore3 dX9_countUp_23 (pc' := 24) rfl (by decide) rfl ?_
    refine gk_iload3 dX9_countUp_24 (pc' := 25) rfl ?_
    refine gk_if_lt dX9_countUp_25 (tgt := 45) (pc' := 28) (by decide) rfl (fun c25 => absurd c25 (nI_pos (by omega))) (fun c25 => ?_)
    refine gk_iload3 dX9_countUp_28 (pc' := 29) rfl ?_
    refine gk_sipush (v := 256) dX9_countUp_29 (pc' := 32) rfl (by decide) ?_
    refine gk_icmp_ge dX9_countUp_32 (tgt := 45) (pc' := 35) (by decide) rfl (fun c32 => absurd c32 (nI_ge (b := 256) (by omega) (by decide))) (fun c32 => ?_)
    refine gk_aload0 dX9_countUp_35 (pc' := 36) rfl ?_
    refine gk_getf (fs := [_, _]) gF_Tones_15 dX9_countUp_36 (pc' := 39) rfl (by assumption) rfl ?_
    refine gk_iload3 dX9_countUp_39 (pc' := 40) rfl ?_
    refine gk_dup2 dX9_countUp_40 (pc' := 41) rfl rfl rfl ?_
    refine gk_iald (t0 := 0) rfl dX9_countUp_41 (pc' := 42) rfl (by exact (e3)) (vp_in_nI (by omega) (by decide)) ?_
    rw [nI_clamp (by omega)]
    refine gk_iconst (v := 1) dX9_countUp_42 (pc' := 43) rfl (by decide) ?_
    refine gk_iadd dX9_countUp_43 (pc' := 44) rfl ?_
    refine gk_iast (t0 := 0) rfl dX9_countUp_44 (pc' := 45) rfl (by exact (e3)) (vp_in_nI (by omega) (by decide)) ?_
    rw [nI_clamp (by omega)]
    refine gk_iinc2 (v := 1) dX9_countUp_45 (pc' := 48) rfl (by decide) (by decide) rfl ?_
    refine gk_goto dX9_countUp_48 (tgt := 10) (by decide) ?_
    rw [← nI_succ i]
    refine ih (i + 1) _ _ (by omega) ⟨(gk_set_ne (by omega)).trans e1, (gk_set_ne (by omega)).trans e2, ?_⟩ (hf.trans fr.set (fun _ z => z) (fun _ z => z))
    rw [gk_set_self]
    refine congrArg (fun f => some (cI X 256 f)) (funext fun v => ?_)
    by_cases z : v = m
    · rw [z, pk_us, hst, if_pos (by omega), nI_succ]
    · rw [pk_un z, hst, if_neg (by omega), Nat.add_zero]
theorem lp_Tones_sums {h0 : gk_H} {n : Nat} (hn : n ≤ 256) (hQ : ∀ h am, isTn X h a cr am → (∀ u, u < 256 → am u = nI (smH p n u)) → fr (fun c => c = a + 2) h0 h → Q none h) :
    ∀ f v h l3, v + f = 256 → 1 ≤ v → isTn X h a cr (fun u => if u < v then nI (smH p n u) else nI (hst p n u)) → fr (fun c => c = a + 2) h0 h → G (kx X) mt_Tones_countUp (d + 1) b 53 [some (.ref a), some (.ref o), some (.int (nI v)), l3] [] h Q := by
  intro f
  induction f with
  | zero =>
    intro v h l3 hv h1 hs hf
    have e : v = 256 := by omega
    subst e
    refine gk_iload2 dX9_countUp_53 (pc' := 54) rfl ?_
    refine gk_sipush (v := 256) dX9_countUp_54 (pc' := 57) rfl (by decide) ?_
    refine gk_icmp_ge dX9_countUp_57 (tgt := 83) (pc' := 60) (by decide) rfl (fun c57 => ?_) (fun c57 => absurd (by decide) c57)
    refine gk_vret dX9_countUp_83 rfl (hQ h _ hs (fun u hu => by rw [if_pos hu]) hf)
  | succ f ih =>
    intro v h l3 hv h1 hs hf
    obtain ⟨e1, e2, e3⟩ := hs
    obtain ⟨v, rfl⟩ : ∃ v', v = v' + 1 := ⟨v - 1, by omega⟩
    refine gk_iload2 dX9_countUp_53 (pc' := 54) rfl ?_
    refine gk_sipush (v := 256) dX9_countUp_54 (pc' := 57) rfl (by decide) ?_
    refine gk_icmp_ge dX9_countUp_57 (tgt := 83) (pc' := 60) (by decide) rfl (fun c57 => absurd c57 (nI_ge (b := 256) (by omega) (by decide))) (fun c57 => ?_)
    refine gk_aload0 dX9_countUp_60 (pc' := 61) rfl ?_
    refine gk_getf (fs := [_, _]) gF_Tones_15 dX9_countUp_61 (pc' := 64) rfl (by exact (e1)) rfl ?_
    refine gk_iload2 dX9_countUp_64 (pc' := 65) rfl ?_
    refine gk_dup2 dX9_countUp_65 (pc' := 66) rfl rfl rfl ?_
    refine gk_iald (t0 := 0) rfl dX9_countUp_66 (pc' := 67) rfl (by exact (e3)) (vp_in_nI (by omega) (by decide)) ?_
    rw [nI_clamp (by omega), if_neg (by omega)]
    refine gk_aload0 dX9_countUp_67 (pc' := 68) rfl ?_
    refine gk_getf (fs := [_, _]) gF_Tones_15 dX9_countUp_68 (pc' := 71) rfl (by exact (e1)) rfl ?_
    refine gk_iload2 dX9_countUp_71 (pc' := 72) rfl ?_
    refine gk_iconst (v := 1) dX9_countUp_72 (pc' := 73) rfl (by decide) ?_
    refine gk_isub dX9_countUp_73 (pc' := 74) rfl ?_
    rw [nI_pred]
    refine gk_iald (t0 := 0) rfl dX9_countUp_74 (pc' := 75) rfl (by exact (e3)) (vp_in_nI (by omega) (by decide)) ?_
    rw [nI_clamp (by omega), if_pos (by omega)]
    refine gk_iadd dX9_countUp_75 (pc' := 76) rfl ?_
    rw [nI_add]
    refine gk_iast (t0 := 0) rfl dX9_countUp_76 (pc' := 77) rfl (by exact (e3)) (vp_in_nI (by omega) (by decide)) ?_
    rw [nI_clamp (by omega)]
    refine gk_iinc2 (v := 1) dX9_countUp_77 (pc' := 80) rfl (by decide) (by decide) rfl ?_
    refine gk_goto dX9_countUp_80 (tgt := 53) (by decide) ?_
    rw [← nI_succ (v + 1)]
    refine ih (v + 1 + 1) _ _ (by omega) (by omega) ⟨(gk_set_ne (by omega)).trans e1, (gk_set_ne (by omega)).trans e2, ?_⟩ (hf.trans fr.set (fun _ z => z) (fun _ z => z))
    rw [gk_set_self]
    refine congrArg (fun f => some (cI X 256 f)) (funext fun u => ?_)
    by_cases z : u = v + 1
    · rw [z, pk_us, if_pos (by omega), smH, Nat.add_comm]; rfl
    · rw [pk_un z]
      by_cases z2 : u < v + 1
      · rw [if_pos z2, if_pos (by omega)]
      · rw [if_neg z2, if_neg (by omega)]
theorem sp_Tones_countUp (hs : isTn X h a cr am) (hp : isPic X h o k w t p) (n1 : o ≠ a + 2 ∧ o + 1 ≠ a + 2) (hb : ∀ i, i < w * t → 0 ≤ (p i).toInt ∧ (p i).toInt ≤ 255) (hQ : ∀ h' am', isTn X h' a cr am' → (∀ u : Nat, u < 256 → am' u = nI (cN p (w * t) u)) → fr (fun c => c = a + 2) h h' → Q none h') : Gm (kx X) mt_Tones_countUp (d + 1) b [.ref a, .ref o] h Q := by
  have e1 := hs.1
  have e2 := hs.2.1
  have e3 := hs.2.2
  have har := hp.area
  refine Gm.enter (L := [some (.ref a), some (.ref o), none, none]) (by decide) (fun _ => trivial) (Nat.le_of_ble_eq_true rfl) rfl ?_
  refine gk_aload0 dX9_countUp_0 (pc' := 1) rfl ?_
  refine gk_getf (fs := [_, _]) gF_Tones_15 dX9_countUp_1 (pc' := 4) rfl (by exact (e1)) rfl ?_
  refine gk_iconst (v := 0) dX9_countUp_4 (pc' := 5) rfl (by decide) ?_
  refine gk_cS0_2 mz_Arrays_fill gw_623 dX9_countUp_5 (pc' := 8) rfl (Nat.le_of_ble_eq_true rfl) (sp_Arrays_fillE e3 (by omega) ?_)
  refine ⟨rfl, ?_⟩
  refine gk_iconst (v := 0) dX9_countUp_8 (pc' := 9) rfl (by decide) ?_
  refine gk_istore2 dX9_countUp_9 (pc' := 10) rfl (by decide) rfl ?_
  refine lp_Tones_hist (h0 := h) n1 hp hb (fun h2 r1 r2 l2 l3 => ?_) (w * t) 0 _ _ (by omega) ⟨(gk_set_ne (by omega)).trans e1, (gk_set_ne (by omega)).trans e2, gk_set_self⟩ fr.set
  refine gk_iconst (v := 1) dX9_countUp_51 (pc' := 52) rfl (by decide) ?_
  refine gk_istore2 dX9_countUp_52 (pc' := 53) rfl (by decide) rfl ?_
  refine lp_Tones_sums (h0 := h) (n := w * t) (p := p) har (fun h3 am3 g1 g2 g3 => hQ h3 am3 g1 (fun u hu => by rw [g2 u hu, smH_eq (fun i hi => (hb i hi).1)]) g3) 255 1 h2 _ (by omega) (by omega) ?_ r2
  refine ⟨r1.1, r1.2.1, ?_⟩
  rw [r1.2.2]
  congr 4
  funext u
  by_cases z : u < 1
  · rw [if_pos z, show u = 0 by omega]; rfl
  · rw [if_neg z]
theorem minP_rng {p : Nat → Int32} : ∀ n, (∀ i, i < n → 0 ≤ (p i).toInt ∧ (p i).toInt ≤ 255) → 0 ≤ (minP 255 p n).toInt ∧ (minP 255 p n).toInt ≤ 255
  | 0, _ => by show 0 ≤ (255 : Int32).toInt ∧ (255 : Int32).toInt ≤ 255; decide
  | n + 1, hb => by
    have := minP_rng n (fun i hi => hb i (by omega))
    have := hb n (by omega)
    unfold minP
    split <;> omega
theorem lp_Tones_flat {h0 : gk_H} {p' : Nat → Int32} (n1 : o ≠ o' ∧ o ≠ o' + 1 ∧ o' ≠ o + 1) (n2 : a ≠ o' ∧ a ≠ o' + 1 ∧ a + 1 ≠ o' ∧ a + 1 ≠ o' + 1 ∧ a + 2 ≠ o' ∧ a + 2 ≠ o' + 1) (hs0 : isTn X h0 a cr am) (hp0 : isPic X h0 o k w t p) (ham : ∀ u : Nat, u < 256 → am u = nI (cN p (w * t) u)) (hb : ∀ i, i < w * t → 0 ≤ (p i).toInt ∧ (p i).toInt ≤ 255)
    (hlt : cN p (w * t) (minP 255 p (w * t)).toInt < w * t) (hQ : ∀ h, isPic X h o' k w t (evn p (w * t)) → fr (fun c => c = o' + 1) h0 h → Q none h) :
    ∀ f i h g l6 l7, i + f = w * t → isPic X h o' k w t g → (∀ j, j < i → g j = evn p (w * t) j) → fr (fun c => c = o' + 1) h0 h → G (kx X) mt_Tones_flatten (d + 2) b 35 [some (.ref a), some (.ref o), some (.ref o'), some (.int (nI (w * t))), some (.int (nI (cN p (w * t) (minP 255 p (w * t)).toInt))), some (.int (nI i)), l6, l7] [] h Q := by
  intro f
  induction f with
  | zero =>
    intro i h g l6 l7 hi hg hgo hf
    have har := hg.area
    refine gk_iload5 dX9_flatten_35 (pc' := 37) rfl ?_
    refine gk_iload3 dX9_flatten_37 (pc' := 38) rfl ?_
    refine gk_icmp_ge dX9_flatten_38 (tgt := 84) (pc' := 41) (by decide) rfl (fun c38 => ?_) (fun c38 => absurd (nI_le (by omega) (by omega)) c38)
    refine gk_vret dX9_flatten_84 rfl (hQ h (hg.congr (fun j hj => hgo j (by omega))) hf)
  | succ f ih =>
    intro i h g l6 l7 hi hg hgo hf
    have har := hg.area
    have hp := hp0.fr hf (by omega) (by omega)
    have hs : isTn X h a cr am := ⟨(hf.2 _ (by omega)).trans hs0.1, (hf.2 _ (by omega)).trans hs0.2.1, (hf.2 _ (by omega)).trans hs0.2.2⟩
    have e1 := hs.1
    have q1 := hp.o
    have q2 := hg.o
    have hbi := hb i (by omega)
    obtain ⟨m, em, rm⟩ := pu_nn hbi.1
    have cl1 := cN_le p (p i).toInt (w * t)
    have c255 : (255 : Int64).toInt = 255 := rfl
    have zc : (nI (cN p (w * t) (p i).toInt)).toInt = cN p (w * t) (p i).toInt := nI_toInt (by omega)
    have zc0 : (nI (cN p (w * t) (minP 255 p (w * t)).toInt)).toInt = cN p (w * t) (minP 255 p (w * t)).toInt := nI_toInt (by omega)
    have zn : (nI (w * t)).toInt = (w * t : Nat) := nI_toInt (by omega)
    have zs : (nI (cN p (w * t) (p i).toInt) - nI (cN p (w * t) (minP 255 p (w * t)).toInt)).toInt = (cN p (w * t) (p i).toInt : Int) - cN p (w * t) (minP 255 p (w * t)).toInt := by rw [Jvm.Kit.i32_sub (by omega) (by omega), zc, zc0]
    have zd : (nI (w * t) - nI (cN p (w * t) (minP 255 p (w * t)).toInt)).toInt = (w * t : Nat) - (cN p (w * t) (minP 255 p (w * t)).toInt : Int) := by rw [Jvm.Kit.i32_sub (by omega) (by omega), zn, zc0]
    have zm : ((255 : Int64) * (nI (cN p (w * t) (p i).toInt) - nI (cN p (w * t) (minP 255 p (w * t)).toInt)).toInt64).toInt = 255 * ((cN p (w * t) (p i).toInt : Int) - cN p (w * t) (minP 255 p (w * t)).toInt) := by
      rw [Jvm.Kit.i64_mul (by rw [c255, Jvm.Kit.i64_of_i32, zs]; omega) (by rw [c255, Jvm.Kit.i64_of_i32, zs]; omega), c255, Jvm.Kit.i64_of_i32, zs]
    refine gk_iload5 dX9_flatten_35 (pc' := 37) rfl ?_
    refine gk_iload3 dX9_flatten_37 (pc' := 38) rfl ?_
    refine gk_icmp_ge dX9_flatten_38 (tgt := 84) (pc' := 41) (by decide) rfl (fun c38 => absurd c38 (nI_ge (by omega) (by omega))) (fun c38 => ?_)
    refine gk_aload0 dX9_flatten_41 (pc' := 42) rfl ?_
    refine gk_aload1 dX9_flatten_42 (pc' := 43) rfl ?_
    refine gk_iload5 dX9_flatten_43 (pc' := 45) rfl ?_
    refine gk_cV1_1 mv_Picture_pixel gw_629 dX9_flatten_45 (pc' := 48) rfl (Nat.le_of_ble_eq_true rfl) (by exact (q1)) (sp_Picture_pixel hp (by omega) ?_)
    refine ⟨_, rfl, ?_⟩
    rw [rm]
    refine gk_cV1_1 mv_Tones_howManyAtMost gw_655 dX9_flatten_48 (pc' := 51) rfl (Nat.le_of_ble_eq_true rfl) (by exact (e1)) (sp_Tones_howManyAtMost hs (by omega) ?_)
    refine ⟨_, rfl, ?_⟩
    rw [ham m (by omega), em]
    refine gk_iload4 dX9_flatten_51 (pc' := 53) rfl ?_
    refine gk_isub dX9_flatten_53 (pc' := 54) rfl ?_
    refine gk_i2l dX9_flatten_54 (pc' := 55) rfl ?_
    refine gk_lstore6 dX9_flatten_55 (pc' := 57) rfl (by decide) rfl ?_
    refine gk_aload2 dX9_flatten_57 (pc' := 58) rfl ?_
    refine gk_iload5 dX9_flatten_58 (pc' := 60) rfl ?_
    refine gk_ldc2 dX9_flatten_60 (pc' := 63) rfl gw_630 ?_
    refine gk_lload6 dX9_flatten_63 (pc' := 65) rfl ?_
    refine gk_lmul dX9_flatten_65 (pc' := 66) rfl ?_
    refine gk_iload3 dX9_flatten_66 (pc' := 67) rfl ?_
    refine gk_iload4 dX9_flatten_67 (pc' := 69) rfl ?_
    refine gk_isub dX9_flatten_69 (pc' := 70) rfl ?_
    refine gk_i2l dX9_flatten_70 (pc' := 71) rfl ?_
    refine gk_cSN1_2 mz_Room_nearest (host := "DarkRoom") (by decide +kernel) dX9_flatten_71 (pc' := 74) rfl (Nat.le_of_ble_eq_true rfl) (sp_Room_nearest (by rw [Jvm.Kit.i64_of_i32, zd]; omega) (by rw [Jvm.Kit.i64_of_i32, zd]; omega) (by rw [zm]; omega) (by rw [zm]; omega) (fun r hr => ?_))
    refine ⟨_, rfl, ?_⟩
    rw [zm, Jvm.Kit.i64_of_i32, zd] at hr
    have er : r.toInt32 = evn p (w * t) i := by
      unfold evn
      rw [if_neg (by omega)]
      apply pu_inj
      rw [Int64.toInt_toInt32, Int32.toInt_ofInt, hr]
    refine gk_l2i dX9_flatten_74 (pc' := 75) rfl ?_
    rw [er]
    refine gk_cV0_2 mv_Picture_set gw_634 dX9_flatten_75 (pc' := 78) rfl (Nat.le_of_ble_eq_true rfl) (by exact (q2)) (sp_Picture_set hg (by omega) (fun h' r1 r2 => ?_))
    refine ⟨rfl, ?_⟩
    refine gk_iinc5 (v := 1) dX9_flatten_78 (pc' := 81) rfl (by decide) (by decide) rfl ?_
    refine gk_goto dX9_flatten_81 (tgt := 35) (by decide) ?_
    rw [← nI_succ i]
    exact ih (i + 1) h' _ _ _ (by omega) r1 (upd_lt hgo rfl) (hf.trans r2 (fun _ z => z) (fun _ z => z))
theorem sp_Tones_flatten {k' : Int32} {w' t' : Nat} {p' : Nat → Int32} (hs : isTn X h a cr am) (hp : isPic X h o k w t p) (hp' : isPic X h o' k' w' t' p') (hk : k = 0) (n1 : o ≠ o' ∧ o ≠ o' + 1 ∧ o' ≠ o + 1) (n2 : a ≠ o' ∧ a ≠ o' + 1 ∧ a + 1 ≠ o' ∧ a + 1 ≠ o' + 1 ∧ a + 2 ≠ o' ∧ a + 2 ≠ o' + 1) (n3 : o ≠ a + 2 ∧ o + 1 ≠ a + 2) (hb : ∀ i, i < w * t → 0 ≤ (p i).toInt ∧ (p i).toInt ≤ 255)
    (hQ : ∀ h' am', isTn X h' a cr am' → isPic X h' o' k w t (evn p (w * t)) → fr (fun c => c = a + 2 ∨ c = o' ∨ c = o' + 1) h h' → Q none h') : Gm (kx X) mt_Tones_flatten (d + 2) b [.ref a, .ref o, .ref o'] h Q := by
  have q1 := hp.o
  have q2 := hp'.o
  have har := hp.area
  have hm := minP_rng (w * t) hb
  obtain ⟨m, em, rm⟩ := pu_nn hm.1
  have cl1 := cN_le p (minP 255 p (w * t)).toInt (w * t)
  refine Gm.enter (L := [some (.ref a), some (.ref o), some (.ref o'), none, none, none, none, none]) (by decide) (fun _ => trivial) (Nat.le_of_ble_eq_true rfl) rfl ?_
  refine gk_aload2 dX9_flatten_0 (pc' := 1) rfl ?_
  refine gk_aload1 dX9_flatten_1 (pc' := 2) rfl ?_
  refine gk_cV0_1 mv_Picture_copyFrom gw_648 dX9_flatten_2 (pc' := 5) rfl (Nat.le_of_ble_eq_true rfl) (by exact (q2)) (sp_Picture_copyFrom hp' hp (by omega) (by omega) (by omega) (fun h1 r1 f1 => ?_))
  refine ⟨rfl, ?_⟩
  have hp1 := hp.fr f1 (by omega) (by omega)
  have q3 := hp1.o
  have hs1 : isTn X h1 a cr am := ⟨(f1.2 _ (by omega)).trans hs.1, (f1.2 _ (by omega)).trans hs.2.1, (f1.2 _ (by omega)).trans hs.2.2⟩
  have s1 := hs1.1
  refine gk_aload1 dX9_flatten_5 (pc' := 6) rfl ?_
  refine gk_cV1_0 mv_Picture_area gw_649 dX9_flatten_6 (pc' := 9) rfl (Nat.le_of_ble_eq_true rfl) (by exact (q3)) (sp_Picture_area hp1 ?_)
  refine ⟨_, rfl, ?_⟩
  refine gk_istore3 dX9_flatten_9 (pc' := 10) rfl (by decide) rfl ?_
  refine gk_aload0 dX9_flatten_10 (pc' := 11) rfl ?_
  refine gk_aload1 dX9_flatten_11 (pc' := 12) rfl ?_
  refine gk_cV0_1 mv_Tones_countUp gw_650 dX9_flatten_12 (pc' := 15) rfl (Nat.le_of_ble_eq_true rfl) (by exact (s1)) (sp_Tones_countUp hs1 hp1 n3 hb (fun h2 am2 r2 r3 f2 => ?_))
  refine ⟨rfl, ?_⟩
  have hp2 := hp1.fr f2 (by omega) (by omega)
  have q4 := hp2.o
  have s2 := r2.1
  have r4 := r1.fr f2 (by omega) (by omega)
  refine gk_aload0 dX9_flatten_15 (pc' := 16) rfl ?_
  refine gk_aload1 dX9_flatten_16 (pc' := 17) rfl ?_
  refine gk_cV1_0 mv_Picture_leastPixel gw_654 dX9_flatten_17 (pc' := 20) rfl (Nat.le_of_ble_eq_true rfl) (by exact (q4)) (sp_Picture_leastPixel hp2 ?_)
  refine ⟨_, rfl, ?_⟩
  rw [show hiK k = 255 by rw [hk]; rfl, rm]
  refine gk_cV1_1 mv_Tones_howManyAtMost gw_655 dX9_flatten_20 (pc' := 23) rfl (Nat.le_of_ble_eq_true rfl) (by exact (s2)) (sp_Tones_howManyAtMost r2 (by omega) ?_)
  refine ⟨_, rfl, ?_⟩
  rw [r3 m (by omega), em]
  refine gk_istore4 dX9_flatten_23 (pc' := 25) rfl (by decide) rfl ?_
  refine gk_iload4 dX9_flatten_25 (pc' := 27) rfl ?_
  refine gk_iload3 dX9_flatten_27 (pc' := 28) rfl ?_
  refine gk_icmp_lt dX9_flatten_28 (tgt := 32) (pc' := 31) (by decide) rfl (fun c28 => ?_) (fun c28 => ?_)
  · have q5 : cN p (w * t) (minP 255 p (w * t)).toInt < w * t := (nI_ltI (by omega) (by omega)).mp c28
    refine gk_iconst (v := 0) dX9_flatten_32 (pc' := 33) rfl (by decide) ?_
    refine gk_istore5 dX9_flatten_33 (pc' := 35) rfl (by decide) rfl ?_
    exact lp_Tones_flat (p' := p') n1 n2 r2 hp2 r3 hb q5 (fun h3 g1 g2 => hQ h3 am2 ⟨(g2.2 _ (by omega)).trans r2.1, (g2.2 _ (by omega)).trans r2.2.1, (g2.2 _ (by omega)).trans r2.2.2⟩ g1 ((f1.trans f2 (C := fun c => c = a + 2 ∨ c = o' ∨ c = o' + 1) (fun _ z => Or.inr z) (fun _ z => Or.inl z)).trans g2 (fun _ z => z) (fun _ z => Or.inr (Or.inr z)))) (w * t) 0 h2 p _ _ (by omega) r4 (fun j hj => absurd hj (by omega)) fr.rf
  · have q5 : ¬ cN p (w * t) (minP 255 p (w * t)).toInt < w * t := fun z => c28 ((nI_ltI (by omega) (by omega)).mpr z)
    refine gk_vret dX9_flatten_31 rfl (hQ h2 am2 r2 (r4.congr (fun i hi => by unfold evn; rw [if_pos (by omega)])) (f1.trans f2 (fun _ z => Or.inr z) (fun _ z => Or.inl z)))
theorem sp_Tones_init (ha : h.1 a = some (.inr (9, [.null, .null]))) (hz : h.2 = a + 1) (hQ : ∀ h' cr am, isTn X h' a cr am → (∀ c, c ≠ a → c ≠ a + 1 → c ≠ a + 2 → h'.1 c = h.1 c) → h'.2 = a + 3 → Q none h') : Gm (kx X) mt_Tones_init (d + 1) (2, 512) [.ref a] h Q := by
  refine Gm.enter (L := [some (.ref a)]) (by decide) (fun _ => trivial) (Nat.le_of_ble_eq_true rfl) rfl ?_
  refine gk_aload0 dX9_init_0 (pc' := 1) rfl ?_
  refine gk_objInit gw_157 gw_23 gw_24 dX9_init_1 (pc' := 4) rfl (Nat.le_of_ble_eq_true rfl) ?_
  refine gk_aload0 dX9_init_4 (pc' := 5) rfl ?_
  refine gk_sipush (v := 256) dX9_init_5 (pc' := 8) rfl (by decide) ?_
  refine gk_newi (n := 256) (bc := 1) (bs := 256) (t0 := 0) rfl gw_61 dX9_init_8 (pc' := 10) rfl rfl (by decide) ?_
  refine gk_putF (fs := [_, _]) gP_Tones_9 rfl dX9_init_10 (pc' := 13) rfl (by exact ((gk_new_ne (by omega)).trans ha)) rfl rfl (Nat.le_of_ble_eq_true rfl) ?_
  refine gk_aload0 dX9_init_13 (pc' := 14) rfl ?_
  refine gk_sipush (v := 256) dX9_init_14 (pc' := 17) rfl (by decide) ?_
  refine gk_newi (n := 256) (bc := 0) (bs := 0) (t0 := 0) rfl gw_61 dX9_init_17 (pc' := 19) rfl rfl (by decide) ?_
  refine gk_putF (fs := [_, _]) gP_Tones_15 rfl dX9_init_19 (pc' := 22) rfl (by exact ((gk_new_ne (by show a ≠ h.2 + 1; omega)).trans gk_set_self)) rfl rfl (Nat.le_of_ble_eq_true rfl) ?_
  refine gk_vret dX9_init_22 rfl (hQ _ (fun _ => 0) (fun _ => 0) ⟨?_, ?_, ?_⟩ (fun c n1 n2 n3 => ?_) ?_)
  · rw [gk_set_self]
    show some (Sum.inr (_, [Value.ref h.2, Value.ref (h.2 + 1)])) = _
    rw [hz]
  · rw [gk_set_ne (by omega), gk_new_ne (by show a + 1 ≠ h.2 + 1; omega), gk_set_ne (by omega), ← hz]; exact gk_new_self
  · rw [gk_set_ne (by omega), show a + 2 = h.2 + 1 by omega]; exact gk_new_self
  · rw [gk_set_ne n1, gk_new_ne (by show c ≠ h.2 + 1; omega), gk_set_ne n1, gk_new_ne (by omega)]
  · show h.2 + 1 + 1 = a + 3; omega
end TnB
