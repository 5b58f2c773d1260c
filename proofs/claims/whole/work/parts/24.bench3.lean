/-! ===== Bench: around; what a filter makes, whole ===== -/
/-- the pixels of a kind -/
def inK (k : Int32) (v : Int32) : Prop := (loK k).toInt ≤ v.toInt ∧ v.toInt ≤ (hiK k).toInt
theorem inK_r {k v : Int32} (h : inK k v) : -32768 ≤ v.toInt ∧ v.toInt ≤ 32767 := by
  have h1 := loK_rng k
  have h2 := hiK_rng k
  unfold inK at h
  omega
theorem inK_kpt (k : Int32) (z : Int) : inK k (kpt k z) := by
  have h1 := loK_rng k
  have h2 := hiK_rng k
  unfold inK kpt
  split
  · omega
  · split
    · omega
    · rw [Int32.toInt_ofInt, Jvm.Kit.bmod32 (by omega) (by omega)]
      omega
theorem inK_0 (k : Int32) : inK k 0 := by
  have h1 := loK_rng k
  have h2 := hiK_rng k
  have z0 : (0 : Int32).toInt = 0 := rfl
  unfold inK
  omega
theorem inK_sn {k : Int32} {w t : Nat} {p : Nat → Int32} {x y : Int} {e : Int32} (h1 : 1 ≤ w) (h2 : 1 ≤ t) (hr : ∀ i, i < w * t → inK k (p i)) : inK k (sn w t p x y e) := by
  unfold sn
  split
  · exact hr _ (place_lt (by omega) (by omega))
  · split
    · exact inK_0 k
    · exact hr _ (place_lt (fo_lt h1) (fo_lt h2))
theorem inK_md {k fk fa fb v : Int32} (h : inK k v) : inK k (mdF fk fa fb k v) := by
  have h1 := loK_rng k
  have h2 := hiK_rng k
  unfold mdF
  split
  · exact inK_kpt _ _
  · split
    · unfold inK at h ⊢
      rw [Jvm.Kit.i32_sub (by rw [Jvm.Kit.i32_add (by omega) (by omega)]; omega) (by rw [Jvm.Kit.i32_add (by omega) (by omega)]; omega), Jvm.Kit.i32_add (by omega) (by omega)]
      omega
    · split
      · split <;> unfold inK <;> omega
      · exact inK_kpt _ _
theorem ins_all {P : Int32 → Prop} {v : Int32} (hv : P v) : ∀ i (g : Nat → Int32) n, i < n → (∀ j, j < n → P (g j)) → ∀ j, j < n → P (ins v i g j)
  | 0, g, n, hi, h, j, hj => by
    unfold ins
    by_cases z : j = 0
    · rw [z, pk_us]; exact hv
    · rw [pk_un z]; exact h j hj
  | i + 1, g, n, hi, h, j, hj => by
    unfold ins
    split
    · refine ins_all hv i _ n (by omega) (fun j hj => ?_) j hj
      by_cases z : j = i + 1
      · rw [z, pk_us]; exact h i (by omega)
      · rw [pk_un z]; exact h j hj
    · by_cases z : j = i + 1
      · rw [z, pk_us]; exact hv
      · rw [pk_un z]; exact h j hj
theorem srt_all {P : Int32 → Prop} {g : Nat → Int32} {n : Nat} (h : ∀ j, j < n → P (g j)) : ∀ m, m < n → ∀ j, j < n → P (srt g m j)
  | 0, _ => h
  | m + 1, hm => ins_all (srt_all h m (by omega) (m + 1) (by omega)) (m + 1) _ n (by omega) (srt_all h m (by omega))
theorem inK_ar {k fk fa : Int32} {wt p : Nat → Int32} {w t : Nat} {e : Int32} {i : Nat} (h1 : 1 ≤ w) (h2 : 1 ≤ t) (hr : ∀ i, i < w * t → inK k (p i)) (hf : fa.toInt.toNat < 9 ∨ fk = 4) : inK k (arF fk fa wt k w t p e i) := by
  unfold arF
  split
  · exact inK_kpt _ _
  · rename_i c
    exact srt_all (P := inK k) (n := 9) (fun j _ => inK_sn h1 h2 hr) 8 (by omega) _ (hf.resolve_right c)
theorem inK_ha {k : Int32} {p q : Nat → Int32} {i : Nat} (h1 : inK k (p i)) (h2 : inK k (q i)) : inK k (haF p q i) := by
  have r1 := inK_r h1
  have r2 := inK_r h2
  unfold haF inK at *
  rw [Jvm.Kit.i32_shr (k := 1) _ _ (by decide), Jvm.Kit.i32_add (by omega) (by omega)]
  omega
/-- what FILTER f makes of a picture (n: at least as much as it is high) -/
def dv (fk fa fb : Nat → Int32) (fw : Nat → Nat → Int32) (R : Nat → Nat → Nat) (k : Int32) (w t : Nat) (e : Int32) : Nat → Nat → (Nat → Int32) → (Nat → Int32)
  | 0, _, p => p
  | n + 1, f, p => if fk f = 4 ∨ fk f = 5 then arF (fk f) (fa f) (fw f) k w t p e else if fk f = 6 then dv fk fa fb fw R k w t e n (fb f).toInt.toNat (dv fk fa fb fw R k w t e n (fa f).toInt.toNat p) else if fk f = 7 then whF (R (fa f).toInt.toNat) w (dv fk fa fb fw R k w t e n (fb f).toInt.toNat p) p else if fk f = 8 then haF (dv fk fa fb fw R k w t e n (fa f).toInt.toNat p) (dv fk fa fb fw R k w t e n (fb f).toInt.toNat p) else fun i => mdF (fk f) (fa f) (fb f) k (p i)
theorem inK_dv {fk fa fb : Nat → Int32} {fw : Nat → Nat → Int32} {R : Nat → Nat → Nat} {k : Int32} {w t : Nat} {e : Int32} (h1 : 1 ≤ w) (h2 : 1 ≤ t) (hrk : ∀ f, fk f = 5 → (fa f).toInt.toNat < 9) : ∀ n f p, (∀ i, i < w * t → inK k (p i)) → ∀ i, i < w * t → inK k (dv fk fa fb fw R k w t e n f p i)
  | 0, f, p, h => h
  | n + 1, f, p, h => by
    intro i hi
    unfold dv
    split
    · rename_i c
      exact inK_ar h1 h2 h (c.elim Or.inr (fun z => Or.inl (hrk f z)))
    · split
      · exact inK_dv h1 h2 hrk n _ _ (inK_dv h1 h2 hrk n _ _ h) i hi
      · split
        · unfold whF
          split
          · exact inK_dv h1 h2 hrk n _ _ h i hi
          · exact h i hi
        · split
          · exact inK_ha (inK_dv h1 h2 hrk n _ _ h i hi) (inK_dv h1 h2 hrk n _ _ h i hi)
          · exact inK_md (h i hi)
theorem wsmB {g wt : Nat → Int32} (hg9 : ∀ i, i < 9 → -40000 ≤ (g i).toInt ∧ (g i).toInt ≤ 40000) (hw9 : ∀ i, i < 9 → -1000 ≤ (wt i).toInt ∧ (wt i).toInt ≤ 1000) : -360000000 ≤ wsm g wt 9 ∧ wsm g wt 9 ≤ 360000000 := by
  have h : ∀ i : Nat, i ≤ 9 → -(40000000 * i : Int) ≤ wsm g wt i ∧ wsm g wt i ≤ 40000000 * i := by
    intro i
    induction i with
    | zero => intro _; unfold wsm; omega
    | succ i ih =>
      intro hi
      have := ih (by omega)
      have := mulB4 (hg9 i (by omega)) (hw9 i (by omega))
      unfold wsm
      omega
  have := h 9 (by omega)
  omega
section BnC
variable {X : gX} {d : Nat} {b : Nat × Nat} {h : gk_H} {Q : Option Value → gk_H → Prop} {a o o' : Nat} {k : Int32} {w t : Nat} {p g : Nat → Int32} {fa : Nat} {fk a1 b1 : Int32} {hg : Nat} {f1 f2 : Option Nat} {wt : Nat → Int32} {e : Int32}
theorem lp_Bench_arX {h0 : gk_H} {y : Nat} (n1 : o ≠ o' ∧ o ≠ o' + 1 ∧ o' ≠ o + 1) (n2 : fa ≠ o' + 1 ∧ fa ≠ o' ∧ fa ≠ a + 2 ∧ fa + 1 ≠ a + 2) (n3 : o ≠ a + 2 ∧ o + 1 ≠ a + 2 ∧ o' ≠ a + 2 ∧ o' + 1 ≠ a + 2 ∧ a ≠ o' + 1 ∧ a + 1 ≠ o' + 1) (hp0 : isPic X h0 o k w t p) (hf0 : isFl X h0 fa fk a1 b1 hg f1 f2 wt) (hk : (fk = 4 ∧ 1 ≤ a1.toInt ∧ a1.toInt ≤ 1000 ∧ ∀ i, i < 9 → -1000 ≤ (wt i).toInt ∧ (wt i).toInt ≤ 1000) ∨ (fk = 5 ∧ 0 ≤ a1.toInt ∧ a1.toInt ≤ 8)) (h1 : 1 ≤ w) (hr : ∀ i, i < w * t → inK k (p i)) (hy : y < t)
    (hQ : ∀ h g gn, isBn X h a gn → isPic X h o' k w t g → (∀ i, i < y * w + w → g i = arF fk a1 wt k w t p e i) → fr (fun c => c = o' + 1 ∨ c = a + 2) h0 h → ∀ l6 l7, G (kx X) mt_Bench_developAround (d + 4) b 93 [some (.ref a), some (.ref fa), some (.ref o), some (.ref o'), some (.int e), some (.int (nI y)), l6, l7] [] h Q) :
    ∀ f x h g gn l7, x + f = w → isBn X h a gn → isPic X h o' k w t g → (∀ i, i < y * w + x → g i = arF fk a1 wt k w t p e i) → fr (fun c => c = o' + 1 ∨ c = a + 2) h0 h → G (kx X) mt_Bench_developAround (d + 4) b 15 [some (.ref a), some (.ref fa), some (.ref o), some (.ref o'), some (.int e), some (.int (nI y)), some (.int (nI x)), l7] [] h Q := by
  intro f
  induction f with
  | zero =>
    intro x h g gn l7 hx hs hg' hgo hf
    have hp := hp0.fr hf (by omega) (by omega)
    have q1 := hp.o
    have hw := hp.1
    have e' : x = w := by omega
    subst e'
    refine gk_iload6 dX1_developAround_15 (pc' := 17) rfl ?_
    refine gk_aload2 dX1_developAround_17 (pc' := 18) rfl ?_
    refine gk_getf (fs := [_, _, _, _]) gF_Bench_26 dX1_developAround_18 (pc' := 21) rfl (by exact (q1)) rfl ?_
    refine gk_icmp_ge dX1_developAround_21 (tgt := 93) (pc' := 24) (by decide) rfl (fun c21 => ?_) (fun c21 => absurd (nI_le (by omega) (by omega)) c21)
    exact hQ h g gn hs hg' hgo hf _ _
  | succ f ih =>
    intro x h g gn l7 hx hs hg' hgo hf
    have hp := hp0.fr hf (by omega) (by omega)
    have hfl := hf0.fr hf (by omega) (by omega)
    have q1 := hp.o
    have s1 := hs.1
    have hw := hp.1
    have hh := hp.2.1
    have hxw : x < w := by omega
    have o1 := place_lt hxw hy
    have har := hp.area
    have zx : (nI x).toInt = x := nI_toInt (by omega)
    have zy : (nI y).toInt = y := nI_toInt (by omega)
    have key : ∀ (h2 : gk_H) (v : Int32) gn2, isBn X h2 a gn2 → fr (fun c => c = a + 2) h h2 → v = arF fk a1 wt k w t p e (y * w + x) → G (kx X) mt_Bench_developAround (d + 4) b 71 [some (.ref a), some (.ref fa), some (.ref o), some (.ref o'), some (.int e), some (.int (nI y)), some (.int (nI x)), l7] [.int v] h2 Q := by
      intro h2 v gn2 hs2 hf2 hv
      have hg2 := hg'.fr hf2 (by omega) (by omega)
      have q2 := hg2.o
      refine gk_istore7 dX1_developAround_71 (pc' := 73) rfl (by decide) rfl ?_
      refine gk_aload3 dX1_developAround_73 (pc' := 74) rfl ?_
      refine gk_aload3 dX1_developAround_74 (pc' := 75) rfl ?_
      refine gk_iload6 dX1_developAround_75 (pc' := 77) rfl ?_
      refine gk_iload5 dX1_developAround_77 (pc' := 79) rfl ?_
      refine gk_cV1_2 mv_Picture_place gw_506 dX1_developAround_79 (pc' := 82) rfl (Nat.le_of_ble_eq_true rfl) (by exact (q2)) (sp_Picture_placeN hg2 ?_)
      refine ⟨_, rfl, ?_⟩
      refine gk_iload7 dX1_developAround_82 (pc' := 84) rfl ?_
      refine gk_cV0_2 mv_Picture_set gw_507 dX1_developAround_84 (pc' := 87) rfl (Nat.le_of_ble_eq_true rfl) (by exact (q2)) (sp_Picture_set hg2 (by omega) (fun h3 r1 r2 => ?_))
      refine ⟨rfl, ?_⟩
      refine gk_iinc6 (v := 1) dX1_developAround_87 (pc' := 90) rfl (by decide) (by decide) rfl ?_
      refine gk_goto dX1_developAround_90 (tgt := 15) (by decide) ?_
      rw [← nI_succ x]
      exact ih (x + 1) h3 _ gn2 _ (by omega) (hs2.kept (r2.2 _ (by omega)) (r2.2 _ (by omega)) (r2.2 _ (by omega))) r1 (upd_lt (F := arF fk a1 wt k w t p e) hgo hv) ((hf.trans hf2 (C := fun c => c = o' + 1 ∨ c = a + 2) (fun _ z => z) (fun _ z => Or.inr z)).trans r2 (fun _ z => z) (fun _ z => Or.inl z))
    refine gk_iload6 dX1_developAround_15 (pc' := 17) rfl ?_
    refine gk_aload2 dX1_developAround_17 (pc' := 18) rfl ?_
    refine gk_getf (fs := [_, _, _, _]) gF_Bench_26 dX1_developAround_18 (pc' := 21) rfl (by exact (q1)) rfl ?_
    refine gk_icmp_ge dX1_developAround_21 (tgt := 93) (pc' := 24) (by decide) rfl (fun c21 => absurd c21 (nI_ge (by omega) (by omega))) (fun c21 => ?_)
    refine gk_aload0 dX1_developAround_24 (pc' := 25) rfl ?_
    refine gk_aload2 dX1_developAround_25 (pc' := 26) rfl ?_
    refine gk_iload6 dX1_developAround_26 (pc' := 28) rfl ?_
    refine gk_iload5 dX1_developAround_28 (pc' := 30) rfl ?_
    refine gk_iload4 dX1_developAround_30 (pc' := 32) rfl ?_
    refine gk_cV0_4 mv_Bench_gather gw_484 dX1_developAround_32 (pc' := 35) rfl (Nat.le_of_ble_eq_true rfl) (by exact (s1)) (sp_Bench_gather hs (by omega) hp h1 (by omega) (by omega) (by omega) (fun h2 s2 r2 => ?_))
    refine ⟨rfl, ?_⟩
    rw [zx, zy] at s2
    have hp2 := hp.fr r2 (by omega) (by omega)
    have hfl2 := hfl.fr r2 (by omega) (by omega)
    have g1 := hfl2.1
    have q2 := hp2.o
    have t1 := s2.1
    have ear : arF fk a1 wt k w t p e (y * w + x) = if fk = 4 then kpt k (rnd (wsm (nin w t p x y e) wt 9) a1.toInt) else srt (nin w t p x y e) 8 a1.toInt.toNat := by unfold arF; rw [(dm hxw).1, (dm hxw).2]
    refine gk_aload1 dX1_developAround_35 (pc' := 36) rfl ?_
    refine gk_getf (fs := [_, _, _, _, _, _, _]) gF_Bench_36 dX1_developAround_36 (pc' := 39) rfl (by exact (g1)) rfl ?_
    refine gk_iconst (v := 4) dX1_developAround_39 (pc' := 40) rfl (by decide) ?_
    refine gk_icmp_ne dX1_developAround_40 (tgt := 63) (pc' := 43) (by decide) rfl (fun c40 => ?_) (fun c40 => ?_)
    · have hk5 := hk.resolve_left (fun z => c40 z.1)
      rw [if_neg c40] at ear
      obtain ⟨m, em, rm⟩ := pu_nn hk5.2.1
      have zm : a1.toInt.toNat = m := by omega
      refine gk_aload0 dX1_developAround_63 (pc' := 64) rfl ?_
      refine gk_aload1 dX1_developAround_64 (pc' := 65) rfl ?_
      refine gk_getf (fs := [_, _, _, _, _, _, _]) gF_Bench_54 dX1_developAround_65 (pc' := 68) rfl (by exact (g1)) rfl ?_
      rw [rm]
      refine gk_cV1_1 mv_Bench_ranked gw_502 dX1_developAround_68 (pc' := 71) rfl (Nat.le_of_ble_eq_true rfl) (by exact (t1)) (sp_Bench_ranked s2 (kn := m) (by omega) (fun h3 gn3 s3 r3 => ?_))
      refine ⟨_, rfl, ?_⟩
      first
      | exact key _ _ _ s2 r2 ear.symm
      | exact key _ _ _ s3 (r2.trans r3 (fun _ z => z) (fun _ z => z)) (by rw [ear, zm])
    · have hk4 := hk.resolve_right (fun z => by rw [z.1] at c40; exact absurd c40 (by decide))
      rw [if_pos c40] at ear
      refine gk_aload2 dX1_developAround_43 (pc' := 44) rfl ?_
      refine gk_aload0 dX1_developAround_44 (pc' := 45) rfl ?_
      refine gk_aload1 dX1_developAround_45 (pc' := 46) rfl ?_
      refine gk_cV1_1 mv_Bench_weighed gw_489 dX1_developAround_46 (pc' := 49) rfl (Nat.le_of_ble_eq_true rfl) (by exact (t1)) (sp_Bench_weighed s2 hfl2 c40 (fun i _ => by have := inK_r (inK_sn (x := (x : Int) + (i % 3 : Nat) - 1) (y := (y : Int) + (i / 3 : Nat) - 1) (e := e) h1 (by omega) hr); unfold nin; omega) hk4.2.2.2 (fun r hr' => ?_))
      refine ⟨_, rfl, ?_⟩
      have wb := wsmB (g := nin w t p x y e) (wt := wt) (fun i _ => by have := inK_r (inK_sn (x := (x : Int) + (i % 3 : Nat) - 1) (y := (y : Int) + (i / 3 : Nat) - 1) (e := e) h1 (by omega) hr); unfold nin; omega) hk4.2.2.2
      refine gk_aload1 dX1_developAround_49 (pc' := 50) rfl ?_
      refine gk_getf (fs := [_, _, _, _, _, _, _]) gF_Bench_54 dX1_developAround_50 (pc' := 53) rfl (by exact (g1)) rfl ?_
      refine gk_i2l dX1_developAround_53 (pc' := 54) rfl ?_
      refine gk_cSN1_2 mz_Room_nearest (host := "DarkRoom") (by decide +kernel) dX1_developAround_54 (pc' := 57) rfl (Nat.le_of_ble_eq_true rfl) (sp_Room_nearest (by rw [Jvm.Kit.i64_of_i32]; omega) (by rw [Jvm.Kit.i64_of_i32]; omega) (by rw [hr']; omega) (by rw [hr']; omega) (fun r2' hr2 => ?_))
      refine ⟨_, rfl, ?_⟩
      rw [hr', Jvm.Kit.i64_of_i32] at hr2
      refine gk_cV1_1 mv_Picture_kept gw_501 dX1_developAround_57 (pc' := 60) rfl (Nat.le_of_ble_eq_true rfl) (by exact (q2)) (sp_Picture_kept hp2 ?_)
      refine ⟨_, rfl, ?_⟩
      rw [hr2]
      refine gk_goto dX1_developAround_60 (tgt := 71) (by decide) ?_
      first
      | exact key _ _ _ s2 r2 ear.symm
      | exact key _ _ _ s3 (r2.trans r3 (fun _ z => z) (fun _ z => z)) (by rw [ear, zm])
theorem lp_Bench_arY {h0 : gk_H} (n1 : o ≠ o' ∧ o ≠ o' + 1 ∧ o' ≠ o + 1) (n2 : fa ≠ o' + 1 ∧ fa ≠ o' ∧ fa ≠ a + 2 ∧ fa + 1 ≠ a + 2) (n3 : o ≠ a + 2 ∧ o + 1 ≠ a + 2 ∧ o' ≠ a + 2 ∧ o' + 1 ≠ a + 2 ∧ a ≠ o' + 1 ∧ a + 1 ≠ o' + 1) (hp0 : isPic X h0 o k w t p) (hf0 : isFl X h0 fa fk a1 b1 hg f1 f2 wt) (hk : (fk = 4 ∧ 1 ≤ a1.toInt ∧ a1.toInt ≤ 1000 ∧ ∀ i, i < 9 → -1000 ≤ (wt i).toInt ∧ (wt i).toInt ≤ 1000) ∨ (fk = 5 ∧ 0 ≤ a1.toInt ∧ a1.toInt ≤ 8)) (h1 : 1 ≤ w) (hr : ∀ i, i < w * t → inK k (p i))
    (hQ : ∀ h gn, isBn X h a gn → isPic X h o' k w t (arF fk a1 wt k w t p e) → fr (fun c => c = o' + 1 ∨ c = a + 2) h0 h → Q none h) :
    ∀ f y h g gn l6 l7, y + f = t → isBn X h a gn → isPic X h o' k w t g → (∀ i, i < y * w → g i = arF fk a1 wt k w t p e i) → fr (fun c => c = o' + 1 ∨ c = a + 2) h0 h → G (kx X) mt_Bench_developAround (d + 4) b 3 [some (.ref a), some (.ref fa), some (.ref o), some (.ref o'), some (.int e), some (.int (nI y)), l6, l7] [] h Q := by
  intro f
  induction f with
  | zero =>
    intro y h g gn l6 l7 hy hs hg' hgo hf
    have hp := hp0.fr hf (by omega) (by omega)
    have q1 := hp.o
    have hh := hp.2.1
    have e' : y = t := by omega
    subst e'
    refine gk_iload5 dX1_developAround_3 (pc' := 5) rfl ?_
    refine gk_aload2 dX1_developAround_5 (pc' := 6) rfl ?_
    refine gk_getf (fs := [_, _, _, _]) gF_Bench_29 dX1_developAround_6 (pc' := 9) rfl (by exact (q1)) rfl ?_
    refine gk_icmp_ge dX1_developAround_9 (tgt := 99) (pc' := 12) (by decide) rfl (fun c9 => ?_) (fun c9 => absurd (nI_le (by omega) (by omega)) c9)
    refine gk_vret dX1_developAround_99 rfl (hQ h gn hs (hg'.congr (fun i hi => hgo i (by rw [Nat.mul_comm]; exact hi))) hf)
  | succ f ih =>
    intro y h g gn l6 l7 hy hs hg' hgo hf
    have hp := hp0.fr hf (by omega) (by omega)
    have q1 := hp.o
    have hh := hp.2.1
    refine gk_iload5 dX1_developAround_3 (pc' := 5) rfl ?_
    refine gk_aload2 dX1_developAround_5 (pc' := 6) rfl ?_
    refine gk_getf (fs := [_, _, _, _]) gF_Bench_29 dX1_developAround_6 (pc' := 9) rfl (by exact (q1)) rfl ?_
    refine gk_icmp_ge dX1_developAround_9 (tgt := 99) (pc' := 12) (by decide) rfl (fun c9 => absurd c9 (nI_ge (by omega) (by omega))) (fun c9 => ?_)
    refine gk_iconst (v := 0) dX1_developAround_12 (pc' := 13) rfl (by decide) ?_
    refine gk_istore6 dX1_developAround_13 (pc' := 15) rfl (by decide) rfl ?_
    refine lp_Bench_arX n1 n2 n3 hp0 hf0 hk h1 hr (by omega) (fun h3 g3 gn3 r0 r1 r2 r3 l6 l7 => ?_) w 0 h g gn _ (by omega) hs hg' hgo hf
    refine gk_iinc5 (v := 1) dX1_developAround_93 (pc' := 96) rfl (by decide) (by decide) rfl ?_
    refine gk_goto dX1_developAround_96 (tgt := 3) (by decide) ?_
    rw [← nI_succ]
    exact ih (y + 1) h3 g3 gn3 _ _ (by omega) r0 r1 (by rw [Nat.add_mul, Nat.one_mul]; exact r2) r3
theorem sp_Bench_developAround {gn : Nat → Int32} (hs : isBn X h a gn) (n1 : o ≠ o' ∧ o ≠ o' + 1 ∧ o' ≠ o + 1) (n2 : fa ≠ o' + 1 ∧ fa ≠ o' ∧ fa ≠ a + 2 ∧ fa + 1 ≠ a + 2) (n3 : o ≠ a + 2 ∧ o + 1 ≠ a + 2 ∧ o' ≠ a + 2 ∧ o' + 1 ≠ a + 2 ∧ a ≠ o' + 1 ∧ a + 1 ≠ o' + 1) (hp : isPic X h o k w t p) (hg' : isPic X h o' k w t g) (hf : isFl X h fa fk a1 b1 hg f1 f2 wt) (hk : (fk = 4 ∧ 1 ≤ a1.toInt ∧ a1.toInt ≤ 1000 ∧ ∀ i, i < 9 → -1000 ≤ (wt i).toInt ∧ (wt i).toInt ≤ 1000) ∨ (fk = 5 ∧ 0 ≤ a1.toInt ∧ a1.toInt ≤ 8)) (h1 : 1 ≤ w) (hr : ∀ i, i < w * t → inK k (p i))
    (hQ : ∀ h' gn', isBn X h' a gn' → isPic X h' o' k w t (arF fk a1 wt k w t p e) → fr (fun c => c = o' + 1 ∨ c = a + 2) h h' → Q none h') : Gm (kx X) mt_Bench_developAround (d + 4) b [.ref a, .ref fa, .ref o, .ref o', .int e] h Q := by
  refine Gm.enter (L := [some (.ref a), some (.ref fa), some (.ref o), some (.ref o'), some (.int e), none, none, none]) (by decide) (fun _ => trivial) (Nat.le_of_ble_eq_true rfl) rfl ?_
  refine gk_iconst (v := 0) dX1_developAround_0 (pc' := 1) rfl (by decide) ?_
  refine gk_istore5 dX1_developAround_1 (pc' := 3) rfl (by decide) rfl ?_
  exact lp_Bench_arY n1 n2 n3 hp hf hk h1 hr hQ t 0 h g gn _ _ (by omega) hs hg' (fun j hj => absurd hj (by omega)) fr.rf
end BnC
