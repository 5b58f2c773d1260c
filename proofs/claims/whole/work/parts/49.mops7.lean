/-! ===== the reference: seam, seamGoes ===== -/
theorem csR_congr {w t : Nat} {p q : Nat → Int32} (h1 : 1 ≤ w) (h2 : 1 ≤ t) (he : ∀ i, i < w * t → p i = q i) : ∀ y, csR w t p y = csR w t q y
  | 0 => funext fun x => eng_congr h1 h2 he
  | y + 1 => funext fun x => by
    show csR w t p y (lI (csR w t p y) w (x - 1) (x + 1)) + eng w t p x (y + 1) = csR w t q y (lI (csR w t q y) w (x - 1) (x + 1)) + eng w t q x (y + 1)
    rw [csR_congr h1 h2 he y, eng_congr h1 h2 he]
theorem colD_congr {w t : Nat} {p q : Nat → Int32} (h1 : 1 ≤ w) (h2 : 1 ≤ t) (he : ∀ i, i < w * t → p i = q i) : ∀ n, colD w t p n = colD w t q n
  | 0 => by unfold colD; rw [csR_congr h1 h2 he]
  | n + 1 => by
    show lI (csR w t p (t - 1 - (n + 1))) w (colD w t p n - 1) (colD w t p n + 1) = lI (csR w t q (t - 1 - (n + 1))) w (colD w t q n - 1) (colD w t q n + 1)
    rw [csR_congr h1 h2 he, colD_congr h1 h2 he n]
theorem seamTot_congr {w t : Nat} {p q : Nat → Int32} (h1 : 1 ≤ w) (h2 : 1 ≤ t) (he : ∀ i, i < w * t → p i = q i) : seamTot w t p = seamTot w t q := by
  unfold seamTot
  rw [csR_congr h1 h2 he, colD_congr h1 h2 he]
theorem seamCol_congr {w t : Nat} {p q : Nat → Int32} (h1 : 1 ≤ w) (h2 : 1 ≤ t) (he : ∀ i, i < w * t → p i = q i) (y : Nat) : seamCol w t p y = seamCol w t q y := by
  unfold seamCol
  rw [colD_congr h1 h2 he]
section MoK
variable {X : gX} {d : Nat} {b : Nat × Nat} {h h0 : gk_H} {m : Nat} {A : MoA} {Z : MoZ} {Q : Option Value → gk_H → Prop} {S : St}
theorem lp_Mo_leastIn {y hi w : Nat} {l2 : Option Value} {c : Nat → Int32} (hz : Z 4 = nI w) (hy : y < 16) (hw : 1 ≤ w ∧ w ≤ 16) (hh : hi < 100) (hc : ∀ x, x < w → A 17 (y * w + x) = c x) (hyw : (y + 1) * w ≤ 256) {r : Nat} (hQ : Q (some (.int (nI r))) (mkH X h0 m A Z)) : ∀ n x bs, (x ≤ min hi (w - 1) + 1 ∨ n = 0) → min hi (w - 1) + 1 - x = n → bs < w → x < 100 → lIF c n x bs = r → G (kx X) mt_Mo_leastIn d b 17 [some (.ref m), some (.int (nI y)), l2, some (.int (nI hi)), some (.int (nI bs)), some (.int (nI x))] [] (mkH X h0 m A Z) Q := by
  rw [Nat.add_mul, Nat.one_mul] at hyw
  intro n
  induction n with
  | zero =>
    intro x bs h0 h1 h2 h3 h5
    refine gk_iload5 dX11_leastIn_17 (pc' := 19) rfl ?_
    refine gk_iload3 dX11_leastIn_19 (pc' := 20) rfl ?_
    refine gk_icmp_gt dX11_leastIn_20 (tgt := 78) (pc' := 23) (by decide) rfl (fun c20 => ?_) (fun c20 => ?_)
    · refine gk_iload4 dX11_leastIn_78 (pc' := 80) rfl ?_
      refine gk_iret dX11_leastIn_80 rfl (by rw [show bs = r from h5]; exact hQ)
    · rw [pu_lt, nI_toInt (by omega), nI_toInt (by omega)] at c20
      refine gk_iload5 dX11_leastIn_23 (pc' := 25) rfl ?_
      refine gk_aload0 dX11_leastIn_25 (pc' := 26) rfl ?_
      refine gk_getf (fs := [_, _, _, _, _, _, _, _, _, _, _, _, _, _, _, _, _, _, _, _, _, _, _, _, _, _]) gF_Mo_138 dX11_leastIn_26 (pc' := 29) rfl (by exact (mkJ)) rfl ?_
      rw [hz]
      refine gk_icmp_ge dX11_leastIn_29 (tgt := 78) (pc' := 32) (by decide) rfl (fun c29 => ?_) (fun c29 => absurd (nI_le (by omega) (by omega)) c29)
      refine gk_iload4 dX11_leastIn_78 (pc' := 80) rfl ?_
      refine gk_iret dX11_leastIn_80 rfl (by rw [show bs = r from h5]; exact hQ)
  | succ n ih =>
    intro x bs h0 h1 h2 h3 h5
    refine gk_iload5 dX11_leastIn_17 (pc' := 19) rfl ?_
    refine gk_iload3 dX11_leastIn_19 (pc' := 20) rfl ?_
    refine gk_icmp_gt dX11_leastIn_20 (tgt := 78) (pc' := 23) (by decide) rfl (fun c20 => absurd c20 (fun q => by rw [pu_lt, nI_toInt (by omega), nI_toInt (by omega)] at q; omega)) (fun c20 => ?_)
    refine gk_iload5 dX11_leastIn_23 (pc' := 25) rfl ?_
    refine gk_aload0 dX11_leastIn_25 (pc' := 26) rfl ?_
    refine gk_getf (fs := [_, _, _, _, _, _, _, _, _, _, _, _, _, _, _, _, _, _, _, _, _, _, _, _, _, _]) gF_Mo_138 dX11_leastIn_26 (pc' := 29) rfl (by exact (mkJ)) rfl ?_
    rw [hz]
    refine gk_icmp_ge dX11_leastIn_29 (tgt := 78) (pc' := 32) (by decide) rfl (fun c29 => absurd c29 (nI_ge (by omega) (by omega))) (fun c29 => ?_)
    refine gk_aload0 dX11_leastIn_32 (pc' := 33) rfl ?_
    refine gk_getf (fs := [_, _, _, _, _, _, _, _, _, _, _, _, _, _, _, _, _, _, _, _, _, _, _, _, _, _]) gF_Mo_60 dX11_leastIn_33 (pc' := 36) rfl (by exact (mkJ)) rfl ?_
    refine gk_iload1 dX11_leastIn_36 (pc' := 37) rfl ?_
    refine gk_aload0 dX11_leastIn_37 (pc' := 38) rfl ?_
    refine gk_getf (fs := [_, _, _, _, _, _, _, _, _, _, _, _, _, _, _, _, _, _, _, _, _, _, _, _, _, _]) gF_Mo_138 dX11_leastIn_38 (pc' := 41) rfl (by exact (mkJ)) rfl ?_
    rw [hz]
    refine gk_imulN dX11_leastIn_41 (pc' := 42) rfl ?_
    refine gk_iload5 dX11_leastIn_42 (pc' := 44) rfl ?_
    refine gk_iaddN dX11_leastIn_44 (pc' := 45) rfl ?_
    refine gk_iald (t0 := 0) rfl dX11_leastIn_45 (pc' := 46) rfl (by exact (mkA17)) (vp_in_nI (by omega) (by decide)) ?_
    rw [nI_clamp (by omega)]
    rw [hc x (by omega)]
    refine gk_aload0 dX11_leastIn_46 (pc' := 47) rfl ?_
    refine gk_getf (fs := [_, _, _, _, _, _, _, _, _, _, _, _, _, _, _, _, _, _, _, _, _, _, _, _, _, _]) gF_Mo_60 dX11_leastIn_47 (pc' := 50) rfl (by exact (mkJ)) rfl ?_
    refine gk_iload1 dX11_leastIn_50 (pc' := 51) rfl ?_
    refine gk_aload0 dX11_leastIn_51 (pc' := 52) rfl ?_
    refine gk_getf (fs := [_, _, _, _, _, _, _, _, _, _, _, _, _, _, _, _, _, _, _, _, _, _, _, _, _, _]) gF_Mo_138 dX11_leastIn_52 (pc' := 55) rfl (by exact (mkJ)) rfl ?_
    rw [hz]
    refine gk_imulN dX11_leastIn_55 (pc' := 56) rfl ?_
    refine gk_iload4 dX11_leastIn_56 (pc' := 58) rfl ?_
    refine gk_iaddN dX11_leastIn_58 (pc' := 59) rfl ?_
    refine gk_iald (t0 := 0) rfl dX11_leastIn_59 (pc' := 60) rfl (by exact (mkA17)) (vp_in_nI (by omega) (by decide)) ?_
    rw [nI_clamp (by omega)]
    rw [hc bs h2]
    refine gk_icmp_ge dX11_leastIn_60 (tgt := 68) (pc' := 63) (by decide) rfl (fun c60 => ?_) (fun c60 => ?_)
    · refine gk_iload4 dX11_leastIn_68 (pc' := 70) rfl ?_
      refine gk_istore4 dX11_leastIn_70 (pc' := 72) rfl (by decide) rfl ?_
      refine gk_iinc5 (v := 1) dX11_leastIn_72 (pc' := 75) rfl (by decide) (by decide) rfl ?_
      refine gk_goto dX11_leastIn_75 (tgt := 17) (by decide) ?_
      rw [← nI_succ]
      refine ih (x + 1) _ (by omega) (by omega) (by omega) (by omega) ?_
      rw [← h5, lIF]
      first | rw [if_neg (fun q => absurd q (Int32.not_lt.mpr c60))] | rw [if_pos (Int32.not_le.mp c60)]
    · refine gk_iload5 dX11_leastIn_63 (pc' := 65) rfl ?_
      refine gk_goto dX11_leastIn_65 (tgt := 70) (by decide) ?_
      refine gk_istore4 dX11_leastIn_70 (pc' := 72) rfl (by decide) rfl ?_
      refine gk_iinc5 (v := 1) dX11_leastIn_72 (pc' := 75) rfl (by decide) (by decide) rfl ?_
      refine gk_goto dX11_leastIn_75 (tgt := 17) (by decide) ?_
      rw [← nI_succ]
      refine ih (x + 1) _ (by omega) (by omega) (by omega) (by omega) ?_
      rw [← h5, lIF]
      first | rw [if_neg (fun q => absurd q (Int32.not_lt.mpr c60))] | rw [if_pos (Int32.not_le.mp c60)]
theorem sp_Mo_leastIn {y lo hi w : Nat} {low : Int32} {c : Nat → Int32} (hz : Z 4 = nI w) (hy : y < 16) (hw : 1 ≤ w ∧ w ≤ 16) (hh : hi < 100) (hlo : lo < w) (hl : low.toInt = lo ∨ (low.toInt = -1 ∧ lo = 0)) (hc : ∀ x, x < w → A 17 (y * w + x) = c x) (hyw : (y + 1) * w ≤ 256) (hQ : Q (some (.int (nI (lI c w lo hi)))) (mkH X h0 m A Z)) : Gm (kx X) mt_Mo_leastIn d b [.ref m, .int (nI y), .int low, .int (nI hi)] (mkH X h0 m A Z) Q := by
  have z0 : (0 : Int32).toInt = 0 := rfl
  have go : G (kx X) mt_Mo_leastIn d b 9 [some (.ref m), some (.int (nI y)), some (.int low), some (.int (nI hi)), none, none] [.int (nI lo)] (mkH X h0 m A Z) Q := by
    refine gk_istore4 dX11_leastIn_9 (pc' := 11) rfl (by decide) rfl ?_
    refine gk_iload4 dX11_leastIn_11 (pc' := 13) rfl ?_
    refine gk_iconst (v := nI 1) dX11_leastIn_13 (pc' := 14) rfl (by decide) ?_
    refine gk_iaddN dX11_leastIn_14 (pc' := 15) rfl ?_
    refine gk_istore5 dX11_leastIn_15 (pc' := 17) rfl (by decide) rfl ?_
    exact lp_Mo_leastIn hz hy hw hh hc hyw hQ _ (lo + 1) lo (by omega) rfl hlo (by omega) (by unfold lI; congr 1; omega)
  refine Gm.enter (L := [some (.ref m), some (.int (nI y)), some (.int low), some (.int (nI hi)), none, none]) (by decide) (fun _ => trivial) (Nat.le_of_ble_eq_true rfl) rfl ?_
  refine gk_iload2 dX11_leastIn_0 (pc' := 1) rfl ?_
  refine gk_if_ge dX11_leastIn_1 (tgt := 8) (pc' := 4) (by decide) rfl (fun c1 => ?_) (fun c1 => ?_)
  · rw [pu_le, z0] at c1
    have e : low = nI lo := pu_nI (by omega) (by omega)
    rw [← e] at go
    refine gk_iload2 dX11_leastIn_8 (pc' := 9) rfl ?_
    exact go
  · rw [pu_le, z0] at c1
    have e : lo = 0 := by omega
    subst e
    refine gk_iconst (v := 0) dX11_leastIn_4 (pc' := 5) rfl (by decide) ?_
    refine gk_goto dX11_leastIn_5 (tgt := 9) (by decide) ?_
    exact go
theorem lp_Mo_layX {w t y : Nat} {l1 : Int32} (hZ : Z 4 = nI w ∧ Z 5 = nI t) (hw : 1 ≤ w ∧ w ≤ 16) (ht : 1 ≤ t ∧ t ≤ 16) (hr : ∀ i, i < w * t → -32768 ≤ (A 9 i).toInt ∧ (A 9 i).toInt ≤ 32767) (hy : y < t) (hQ : ∀ f l3 l4, (∀ n, n < (y + 1) * w → f n = csR w t (A 9) (n / w) (n % w)) → G (kx X) mt_Mo_laySeam (d + 3) b 90 [some (.ref m), some (.int l1), some (.int (nI y)), l3, l4] [] (mkH X h0 m (uA A 17 f) Z) Q) :
    ∀ n x f l4, x + n = w → (∀ i, i < y * w + x → f i = csR w t (A 9) (i / w) (i % w)) → G (kx X) mt_Mo_laySeam (d + 3) b 17 [some (.ref m), some (.int l1), some (.int (nI y)), some (.int (nI x)), l4] [] (mkH X h0 m (uA A 17 f) Z) Q := by
  have ar := area_le hw.2 ht.2
  intro n
  induction n with
  | zero =>
    intro x f l4 hx hf
    refine gk_iload3 dX11_laySeam_17 (pc' := 18) rfl ?_
    refine gk_aload0 dX11_laySeam_18 (pc' := 19) rfl ?_
    refine gk_getf (fs := [_, _, _, _, _, _, _, _, _, _, _, _, _, _, _, _, _, _, _, _, _, _, _, _, _, _]) gF_Mo_138 dX11_laySeam_19 (pc' := 22) rfl (by exact (mkJ)) rfl ?_
    rw [hZ.1]
    refine gk_icmp_ge dX11_laySeam_22 (tgt := 90) (pc' := 25) (by decide) rfl (fun c22 => ?_) (fun c22 => absurd (nI_le (by omega) (by omega)) c22)
    exact hQ f _ _ (fun i hi => hf i (by rw [Nat.add_mul, Nat.one_mul] at hi; omega))
  | succ n ih =>
    intro x f l4 hx hf
    have hxw : x < w := by omega
    have pl := place_lt hxw hy
    have z1 : (1 : Int32).toInt = 1 := rfl
    have zx : (nI x).toInt = x := nI_toInt (by omega)
    have zy : (nI y).toInt = y := nI_toInt (by omega)
    have d1 := dm (y := y) hxw
    have key : ∀ ah : Int32, eng w t (A 9) x y + ah = csR w t (A 9) y x → G (kx X) mt_Mo_laySeam (d + 3) b 60 [some (.ref m), some (.int l1), some (.int (nI y)), some (.int (nI x)), l4] [.int ah] (mkH X h0 m (uA A 17 f) Z) Q := by
      intro ah hah
      refine gk_istore4 dX11_laySeam_60 (pc' := 62) rfl (by decide) rfl ?_
      refine gk_aload0 dX11_laySeam_62 (pc' := 63) rfl ?_
      refine gk_getf (fs := [_, _, _, _, _, _, _, _, _, _, _, _, _, _, _, _, _, _, _, _, _, _, _, _, _, _]) gF_Mo_60 dX11_laySeam_63 (pc' := 66) rfl (by exact (mkJ)) rfl ?_
      refine gk_iload2 dX11_laySeam_66 (pc' := 67) rfl ?_
      refine gk_aload0 dX11_laySeam_67 (pc' := 68) rfl ?_
      refine gk_getf (fs := [_, _, _, _, _, _, _, _, _, _, _, _, _, _, _, _, _, _, _, _, _, _, _, _, _, _]) gF_Mo_138 dX11_laySeam_68 (pc' := 71) rfl (by exact (mkJ)) rfl ?_
      rw [hZ.1]
      refine gk_imulN dX11_laySeam_71 (pc' := 72) rfl ?_
      refine gk_iload3 dX11_laySeam_72 (pc' := 73) rfl ?_
      refine gk_iaddN dX11_laySeam_73 (pc' := 74) rfl ?_
      refine gk_aload0 dX11_laySeam_74 (pc' := 75) rfl ?_
      refine gk_iload3 dX11_laySeam_75 (pc' := 76) rfl ?_
      refine gk_iload2 dX11_laySeam_76 (pc' := 77) rfl ?_
      refine gk_cV1_2 mv_Mo_energyAt gw_1104 dX11_laySeam_77 (pc' := 80) rfl (Nat.le_of_ble_eq_true rfl) (by exact (mkJ)) (sp_Mo_energyAt (w := w) (t := t) hZ hw.1 ht.1 hw.2 ht.2 hr (by omega) (by omega) ?_)
      refine ⟨_, rfl, ?_⟩
      rw [zx, zy, show uA A 17 f 9 = A 9 from uA_n (by decide)]
      refine gk_iload4 dX11_laySeam_80 (pc' := 82) rfl ?_
      refine gk_iadd dX11_laySeam_82 (pc' := 83) rfl ?_
      rw [hah]
      refine gk_iast (t0 := 0) rfl dX11_laySeam_83 (pc' := 84) rfl (by exact (mkA17)) (vp_in_nI (by omega) (by decide)) ?_
      rw [nI_clamp (by omega), mkS17]
      rw [uA_s, uA_u]
      refine gk_iinc3 (v := 1) dX11_laySeam_84 (pc' := 87) rfl (by decide) (by decide) rfl ?_
      refine gk_goto dX11_laySeam_87 (tgt := 17) (by decide) ?_
      rw [← nI_succ]
      refine ih (x + 1) _ _ (by omega) ?_
      rw [← Nat.add_assoc]
      exact upd_lt hf (by rw [d1.1, d1.2])
    by_cases hy0 : y = 0
    · subst hy0
      refine gk_iload3 dX11_laySeam_17 (pc' := 18) rfl ?_
      refine gk_aload0 dX11_laySeam_18 (pc' := 19) rfl ?_
      refine gk_getf (fs := [_, _, _, _, _, _, _, _, _, _, _, _, _, _, _, _, _, _, _, _, _, _, _, _, _, _]) gF_Mo_138 dX11_laySeam_19 (pc' := 22) rfl (by exact (mkJ)) rfl ?_
      rw [hZ.1]
      refine gk_icmp_ge dX11_laySeam_22 (tgt := 90) (pc' := 25) (by decide) rfl (fun c22 => absurd c22 (nI_ge (by omega) (by omega))) (fun c22 => ?_)
      refine gk_iload2 dX11_laySeam_25 (pc' := 26) rfl ?_
      refine gk_if_ne dX11_laySeam_26 (tgt := 33) (pc' := 29) (by decide) rfl (fun c26 => absurd rfl c26) (fun c26 => ?_)
      refine gk_iconst (v := 0) dX11_laySeam_29 (pc' := 30) rfl (by decide) ?_
      refine gk_goto dX11_laySeam_30 (tgt := 60) (by decide) ?_
      exact key _ (by rw [Int32.add_zero]; rfl)
    · obtain ⟨y', rfl⟩ : ∃ y', y = y' + 1 := ⟨y - 1, by omega⟩
      have hl := lI_lt (c := csR w t (A 9) y') (w := w) (lo := x - 1) (hi := x + 1) (by omega)
      have pl2 := place_lt (t := t) hl (show y' < t by omega)
      have yw : (y' + 1) * w = y' * w + w := by rw [Nat.add_mul, Nat.one_mul]
      have hrow : ∀ z, z < w → uA A 17 f 17 (y' * w + z) = csR w t (A 9) y' z := fun z hz => by
        have dz := dm (y := y') hz
        rw [uA_s, hf _ (by omega), dz.1, dz.2]
      have xm : (nI x - 1).toInt = ((x - 1 : Nat) : Int) ∨ ((nI x - 1).toInt = -1 ∧ x - 1 = 0) := by
        have := Jvm.Kit.i32_sub (x := nI x) (y := 1) (by omega) (by omega)
        omega
      refine gk_iload3 dX11_laySeam_17 (pc' := 18) rfl ?_
      refine gk_aload0 dX11_laySeam_18 (pc' := 19) rfl ?_
      refine gk_getf (fs := [_, _, _, _, _, _, _, _, _, _, _, _, _, _, _, _, _, _, _, _, _, _, _, _, _, _]) gF_Mo_138 dX11_laySeam_19 (pc' := 22) rfl (by exact (mkJ)) rfl ?_
      rw [hZ.1]
      refine gk_icmp_ge dX11_laySeam_22 (tgt := 90) (pc' := 25) (by decide) rfl (fun c22 => absurd c22 (nI_ge (by omega) (by omega))) (fun c22 => ?_)
      refine gk_iload2 dX11_laySeam_25 (pc' := 26) rfl ?_
      refine gk_if_ne dX11_laySeam_26 (tgt := 33) (pc' := 29) (by decide) rfl (fun c26 => ?_) (fun c26 => absurd (nI_inj (a := y' + 1) (c := 0) (by omega) (by omega) c26) (by omega))
      refine gk_aload0 dX11_laySeam_33 (pc' := 34) rfl ?_
      refine gk_getf (fs := [_, _, _, _, _, _, _, _, _, _, _, _, _, _, _, _, _, _, _, _, _, _, _, _, _, _]) gF_Mo_60 dX11_laySeam_34 (pc' := 37) rfl (by exact (mkJ)) rfl ?_
      refine gk_iload2 dX11_laySeam_37 (pc' := 38) rfl ?_
      refine gk_iconst (v := nI 1) dX11_laySeam_38 (pc' := 39) rfl (by decide) ?_
      refine gk_isubN dX11_laySeam_39 (pc' := 40) rfl (by omega) ?_
      rw [Nat.add_sub_cancel]
      refine gk_aload0 dX11_laySeam_40 (pc' := 41) rfl ?_
      refine gk_getf (fs := [_, _, _, _, _, _, _, _, _, _, _, _, _, _, _, _, _, _, _, _, _, _, _, _, _, _]) gF_Mo_138 dX11_laySeam_41 (pc' := 44) rfl (by exact (mkJ)) rfl ?_
      rw [hZ.1]
      refine gk_imulN dX11_laySeam_44 (pc' := 45) rfl ?_
      refine gk_aload0 dX11_laySeam_45 (pc' := 46) rfl ?_
      refine gk_iload2 dX11_laySeam_46 (pc' := 47) rfl ?_
      refine gk_iconst (v := nI 1) dX11_laySeam_47 (pc' := 48) rfl (by decide) ?_
      refine gk_isubN dX11_laySeam_48 (pc' := 49) rfl (by omega) ?_
      rw [Nat.add_sub_cancel]
      refine gk_iload3 dX11_laySeam_49 (pc' := 50) rfl ?_
      refine gk_iconst (v := 1) dX11_laySeam_50 (pc' := 51) rfl (by decide) ?_
      refine gk_isub dX11_laySeam_51 (pc' := 52) rfl ?_
      refine gk_iload3 dX11_laySeam_52 (pc' := 53) rfl ?_
      refine gk_iconst (v := nI 1) dX11_laySeam_53 (pc' := 54) rfl (by decide) ?_
      refine gk_iaddN dX11_laySeam_54 (pc' := 55) rfl ?_
      refine gk_cV1_3 mv_Mo_leastIn gw_1119 dX11_laySeam_55 (pc' := 58) rfl (Nat.le_of_ble_eq_true rfl) (by exact (mkJ)) (sp_Mo_leastIn (c := csR w t (A 9) y') (lo := x - 1) hZ.1 (by omega) hw (by omega) (by omega) xm hrow (by omega) ?_)
      refine ⟨_, rfl, ?_⟩
      refine gk_iaddN dX11_laySeam_58 (pc' := 59) rfl ?_
      refine gk_iald (t0 := 0) rfl dX11_laySeam_59 (pc' := 60) rfl (by exact (mkA17)) (vp_in_nI (by omega) (by decide)) ?_
      rw [nI_clamp (by omega)]
      rw [hrow _ hl]
      exact key _ (by rw [Int32.add_comm]; rfl)
theorem lp_Mo_layY {w t : Nat} {l1 : Int32} (hZ : Z 4 = nI w ∧ Z 5 = nI t) (hw : 1 ≤ w ∧ w ≤ 16) (ht : 1 ≤ t ∧ t ≤ 16) (hr : ∀ i, i < w * t → -32768 ≤ (A 9 i).toInt ∧ (A 9 i).toInt ≤ 32767) (hQ : ∀ f l2 l3 l4, (∀ n, n < t * w → f n = csR w t (A 9) (n / w) (n % w)) → G (kx X) mt_Mo_laySeam (d + 3) b 96 [some (.ref m), some (.int l1), l2, l3, l4] [] (mkH X h0 m (uA A 17 f) Z) Q) :
    ∀ n y f l3 l4, y + n = t → (∀ i, i < y * w → f i = csR w t (A 9) (i / w) (i % w)) → G (kx X) mt_Mo_laySeam (d + 3) b 7 [some (.ref m), some (.int l1), some (.int (nI y)), l3, l4] [] (mkH X h0 m (uA A 17 f) Z) Q := by
  intro n
  induction n with
  | zero =>
    intro y f l3 l4 hy hf
    have e : y = t := by omega
    refine gk_iload2 dX11_laySeam_7 (pc' := 8) rfl ?_
    refine gk_aload0 dX11_laySeam_8 (pc' := 9) rfl ?_
    refine gk_getf (fs := [_, _, _, _, _, _, _, _, _, _, _, _, _, _, _, _, _, _, _, _, _, _, _, _, _, _]) gF_Mo_141 dX11_laySeam_9 (pc' := 12) rfl (by exact (mkJ)) rfl ?_
    rw [hZ.2]
    refine gk_icmp_ge dX11_laySeam_12 (tgt := 96) (pc' := 15) (by decide) rfl (fun c12 => ?_) (fun c12 => absurd (nI_le (by omega) (by omega)) c12)
    exact hQ f _ _ _ (fun i hi => hf i (by rw [e]; exact hi))
  | succ n ih =>
    intro y f l3 l4 hy hf
    refine gk_iload2 dX11_laySeam_7 (pc' := 8) rfl ?_
    refine gk_aload0 dX11_laySeam_8 (pc' := 9) rfl ?_
    refine gk_getf (fs := [_, _, _, _, _, _, _, _, _, _, _, _, _, _, _, _, _, _, _, _, _, _, _, _, _, _]) gF_Mo_141 dX11_laySeam_9 (pc' := 12) rfl (by exact (mkJ)) rfl ?_
    rw [hZ.2]
    refine gk_icmp_ge dX11_laySeam_12 (tgt := 96) (pc' := 15) (by decide) rfl (fun c12 => absurd c12 (nI_ge (by omega) (by omega))) (fun c12 => ?_)
    refine gk_iconst (v := 0) dX11_laySeam_15 (pc' := 16) rfl (by decide) ?_
    refine gk_istore3 dX11_laySeam_16 (pc' := 17) rfl (by decide) rfl ?_
    refine lp_Mo_layX hZ hw ht hr (by omega) (fun f' l3 l4 hf' => ?_) w 0 f _ (by omega) hf
    refine gk_iinc2 (v := 1) dX11_laySeam_90 (pc' := 93) rfl (by decide) (by decide) rfl ?_
    refine gk_goto dX11_laySeam_93 (tgt := 7) (by decide) ?_
    rw [← nI_succ]
    exact ih (y + 1) f' _ _ (by omega) hf'
theorem lp_Mo_layZ {w t : Nat} {l1 : Int32} {tot : Int32} (hZ : Z 4 = nI w ∧ Z 5 = nI t) (hw : 1 ≤ w ∧ w ≤ 16) (ht : 1 ≤ t ∧ t ≤ 16) (h17 : ∀ n, n < t * w → A 17 n = csR w t (A 9) (n / w) (n % w)) (hQ : ∀ g, (∀ y, y < t → g y = nI (seamCol w t (A 9) y)) → Q (some (.int tot)) (mkH X h0 m (uA A 18 g) Z)) :
    ∀ n g (l2 : Option Value), n ≤ t → (∀ y, n ≤ y → y < t → g y = nI (seamCol w t (A 9) y)) → (∀ n', n = n' + 1 → l2 = some (.int (nI (seamCol w t (A 9) n')))) → (n = 0 → ∃ z, l2 = some (.int z)) → G (kx X) mt_Mo_laySeam (d + 3) b 141 [some (.ref m), some (.int l1), l2, some (.int tot), some (.int (nI n - 1))] [] (mkH X h0 m (uA A 18 g) Z) Q := by
  have ar := area_le hw.2 ht.2
  have z0 : (0 : Int32).toInt = 0 := rfl
  have z1 : (1 : Int32).toInt = 1 := rfl
  intro n
  induction n with
  | zero =>
    intro g l2 hn hg h2 h3
    refine gk_iload4 dX11_laySeam_141 (pc' := 143) rfl ?_
    refine gk_if_lt dX11_laySeam_143 (tgt := 184) (pc' := 146) (by decide) rfl (fun c143 => ?_) (fun c143 => absurd (show nI 0 - 1 < 0 by decide) c143)
    refine gk_iload3 dX11_laySeam_184 (pc' := 185) rfl ?_
    refine gk_iret dX11_laySeam_185 rfl (hQ g (fun y hy => hg y (by omega) hy))
  | succ n ih =>
    intro g l2 hn hg h2 h3
    have el := h2 n rfl
    subst el
    have hcol : seamCol w t (A 9) n < w := colD_lt hw.1 _
    have zc : (nI (seamCol w t (A 9) n)).toInt = seamCol w t (A 9) n := nI_toInt (by omega)
    have hg' : ∀ y, n ≤ y → y < t → upd g n (nI (seamCol w t (A 9) n)) y = nI (seamCol w t (A 9) y) := fun y h1 h2 => by
      by_cases e : y = n
      · subst e; rw [pk_us]
      · rw [pk_un e]; exact hg y (by omega) h2
    have e1 : nI (n + 1) - 1 = nI n := nI_pred n
    rw [e1]
    have en : nI n + (-1) = nI n - 1 := by
      apply pu_inj
      have zn : (nI n).toInt = n := nI_toInt (by omega)
      have zm : (-1 : Int32).toInt = -1 := rfl
      rw [Jvm.Kit.i32_add (by omega) (by omega), Jvm.Kit.i32_sub (by omega) (by omega)]
      omega
    by_cases n0 : n = 0
    · subst n0
      refine gk_iload4 dX11_laySeam_141 (pc' := 143) rfl ?_
      refine gk_if_lt dX11_laySeam_143 (tgt := 184) (pc' := 146) (by decide) rfl (fun c143 => absurd c143 (by decide)) (fun c143 => ?_)
      refine gk_aload0 dX11_laySeam_146 (pc' := 147) rfl ?_
      refine gk_getf (fs := [_, _, _, _, _, _, _, _, _, _, _, _, _, _, _, _, _, _, _, _, _, _, _, _, _, _]) gF_Mo_63 dX11_laySeam_147 (pc' := 150) rfl (by exact (mkJ)) rfl ?_
      refine gk_iload4 dX11_laySeam_150 (pc' := 152) rfl ?_
      refine gk_iload2 dX11_laySeam_152 (pc' := 153) rfl ?_
      refine gk_iast (t0 := 0) rfl dX11_laySeam_153 (pc' := 154) rfl (by exact (mkA18)) (vp_in_nI (by omega) (by decide)) ?_
      rw [nI_clamp (by omega), mkS18]
      rw [uA_s, uA_u]
      refine gk_iload4 dX11_laySeam_154 (pc' := 156) rfl ?_
      refine gk_if_le dX11_laySeam_156 (tgt := 176) (pc' := 159) (by decide) rfl (fun c156 => ?_) (fun c156 => absurd (by decide) c156)
      refine gk_iload2 dX11_laySeam_176 (pc' := 177) rfl ?_
      refine gk_istore2 dX11_laySeam_177 (pc' := 178) rfl (by decide) rfl ?_
      refine gk_iinc4 (v := -1) dX11_laySeam_178 (pc' := 181) rfl (by decide) (by decide) rfl ?_
      refine gk_goto dX11_laySeam_181 (tgt := 141) (by decide) ?_
      rw [show nI 0 + (-1) = nI 0 - 1 from rfl]
      exact ih _ _ (by omega) hg' (fun n' h => absurd h (by omega)) (fun _ => ⟨_, rfl⟩)
    · obtain ⟨n', rfl⟩ : ∃ n', n = n' + 1 := ⟨n - 1, by omega⟩
      have hl := lI_lt (c := csR w t (A 9) n') (w := w) (lo := seamCol w t (A 9) (n' + 1) - 1) (hi := seamCol w t (A 9) (n' + 1) + 1) (by omega)
      have yw : (n' + 1) * w ≤ w * t := by rw [Nat.mul_comm w t]; exact Nat.mul_le_mul_right w (by omega)
      have yw2 : (n' + 1) * w = n' * w + w := by rw [Nat.add_mul, Nat.one_mul]
      have hrow : ∀ z, z < w → uA A 18 (upd g (n' + 1) (nI (seamCol w t (A 9) (n' + 1)))) 17 (n' * w + z) = csR w t (A 9) n' z := fun z hz => by
        have dz := dm (y := n') hz
        rw [uA_n (by decide), h17 _ (by rw [Nat.mul_comm t w]; omega), dz.1, dz.2]
      have xm : (nI (seamCol w t (A 9) (n' + 1)) - 1).toInt = ((seamCol w t (A 9) (n' + 1) - 1 : Nat) : Int) ∨ ((nI (seamCol w t (A 9) (n' + 1)) - 1).toInt = -1 ∧ seamCol w t (A 9) (n' + 1) - 1 = 0) := by
        have := Jvm.Kit.i32_sub (x := nI (seamCol w t (A 9) (n' + 1))) (y := 1) (by omega) (by omega)
        omega
      have ecol : lI (csR w t (A 9) n') w (seamCol w t (A 9) (n' + 1) - 1) (seamCol w t (A 9) (n' + 1) + 1) = seamCol w t (A 9) n' := by
        show _ = colD w t (A 9) (t - 1 - n')
        rw [show t - 1 - n' = (t - 1 - (n' + 1)) + 1 by omega]
        show _ = lI (csR w t (A 9) (t - 1 - ((t - 1 - (n' + 1)) + 1))) w (colD w t (A 9) (t - 1 - (n' + 1)) - 1) (colD w t (A 9) (t - 1 - (n' + 1)) + 1)
        rw [show t - 1 - ((t - 1 - (n' + 1)) + 1) = n' by omega]
        rfl
      refine gk_iload4 dX11_laySeam_141 (pc' := 143) rfl ?_
      refine gk_if_lt dX11_laySeam_143 (tgt := 184) (pc' := 146) (by decide) rfl (fun c143 => absurd c143 (nI_pos (by omega))) (fun c143 => ?_)
      refine gk_aload0 dX11_laySeam_146 (pc' := 147) rfl ?_
      refine gk_getf (fs := [_, _, _, _, _, _, _, _, _, _, _, _, _, _, _, _, _, _, _, _, _, _, _, _, _, _]) gF_Mo_63 dX11_laySeam_147 (pc' := 150) rfl (by exact (mkJ)) rfl ?_
      refine gk_iload4 dX11_laySeam_150 (pc' := 152) rfl ?_
      refine gk_iload2 dX11_laySeam_152 (pc' := 153) rfl ?_
      refine gk_iast (t0 := 0) rfl dX11_laySeam_153 (pc' := 154) rfl (by exact (mkA18)) (vp_in_nI (by omega) (by decide)) ?_
      rw [nI_clamp (by omega), mkS18]
      rw [uA_s, uA_u]
      refine gk_iload4 dX11_laySeam_154 (pc' := 156) rfl ?_
      refine gk_if_le dX11_laySeam_156 (tgt := 176) (pc' := 159) (by decide) rfl (fun c156 => absurd ((nI_leI (b := 0) (by omega) (by omega)).mp c156) (by omega)) (fun c156 => ?_)
      refine gk_aload0 dX11_laySeam_159 (pc' := 160) rfl ?_
      refine gk_iload4 dX11_laySeam_160 (pc' := 162) rfl ?_
      refine gk_iconst (v := nI 1) dX11_laySeam_162 (pc' := 163) rfl (by decide) ?_
      refine gk_isubN dX11_laySeam_163 (pc' := 164) rfl (by omega) ?_
      rw [Nat.add_sub_cancel]
      refine gk_iload2 dX11_laySeam_164 (pc' := 165) rfl ?_
      refine gk_iconst (v := 1) dX11_laySeam_165 (pc' := 166) rfl (by decide) ?_
      refine gk_isub dX11_laySeam_166 (pc' := 167) rfl ?_
      refine gk_iload2 dX11_laySeam_167 (pc' := 168) rfl ?_
      refine gk_iconst (v := nI 1) dX11_laySeam_168 (pc' := 169) rfl (by decide) ?_
      refine gk_iaddN dX11_laySeam_169 (pc' := 170) rfl ?_
      refine gk_cV1_3 mv_Mo_leastIn gw_1119 dX11_laySeam_170 (pc' := 173) rfl (Nat.le_of_ble_eq_true rfl) (by exact (mkJ)) (sp_Mo_leastIn (c := csR w t (A 9) n') (lo := seamCol w t (A 9) (n' + 1) - 1) hZ.1 (by omega) hw (by omega) (by omega) xm hrow (by omega) ?_)
      refine ⟨_, rfl, ?_⟩
      rw [ecol]
      refine gk_goto dX11_laySeam_173 (tgt := 177) (by decide) ?_
      refine gk_istore2 dX11_laySeam_177 (pc' := 178) rfl (by decide) rfl ?_
      refine gk_iinc4 (v := -1) dX11_laySeam_178 (pc' := 181) rfl (by decide) (by decide) rfl ?_
      refine gk_goto dX11_laySeam_181 (tgt := 141) (by decide) ?_
      rw [en]
      exact ih _ _ (by omega) hg' (fun n'' h => by rw [show n'' = n' by omega]) (fun h => absurd h (by omega))
theorem sp_Mo_laySeam {j : Nat} {c : Pc} (hp : pRow (A 1) (259 * j) c) (hj : j < 8) (ok : okP c) (hk : ¬ c.1 = -1) (hQ : ∀ A' : MoA, (∀ i, i ≤ 8 → A' i = A i) → A' 9 = lkA A j 9 → (∀ y, y < c.2.2.1 → A' 18 y = nI (seamCol c.2.1 c.2.2.1 c.2.2.2 y)) → Q (some (.int (seamTot c.2.1 c.2.2.1 c.2.2.2))) (mkH X h0 m A' (lkZ Z c.2.1 c.2.2.1))) : Gm (kx X) mt_Mo_laySeam (d + 3) b [.ref m, .int (nI j)] (mkH X h0 m A Z) Q := by
  have okk := ok.kind hk
  have ar := ok.ar
  have l9 : ∀ i, i < c.2.1 * c.2.2.1 → lkA A j 9 i = c.2.2.2 i := fun i hi => lk_px hp ar hi
  have hr : ∀ i, i < c.2.1 * c.2.2.1 → -32768 ≤ (lkA A j 9 i).toInt ∧ (lkA A j 9 i).toInt ≤ 32767 := fun i hi => by rw [l9 i hi]; exact inK_r (okk.2.2.2 i hi)
  have hw := okk.2.1
  have ht := okk.2.2.1
  have hZ : lkZ Z c.2.1 c.2.2.1 4 = nI c.2.1 ∧ lkZ Z c.2.1 c.2.2.1 5 = nI c.2.2.1 := ⟨rfl, rfl⟩
  have hc0 : colD c.2.1 c.2.2.1 (lkA A j 9) 0 < c.2.1 := colD_lt hw.1 0
  have fin : ∀ f l2 l3 l4, (∀ n, n < c.2.2.1 * c.2.1 → f n = csR c.2.1 c.2.2.1 (lkA A j 9) (n / c.2.1) (n % c.2.1)) → G (kx X) mt_Mo_laySeam (d + 3) b 96 [some (.ref m), some (.int (nI j)), l2, l3, l4] [] (mkH X h0 m (uA (lkA A j) 17 f) (lkZ Z c.2.1 c.2.2.1)) Q := by
    intro f l2 l3 l4 hf
    obtain ⟨t', et⟩ : ∃ t', c.2.2.1 = t' + 1 := ⟨c.2.2.1 - 1, by omega⟩
    have tw : (c.2.2.1 - 1 + 1) * c.2.1 = c.2.2.1 * c.2.1 := by rw [show c.2.2.1 - 1 + 1 = c.2.2.1 by omega]
    have tw2 : (c.2.2.1 - 1 + 1) * c.2.1 = (c.2.2.1 - 1) * c.2.1 + c.2.1 := by rw [Nat.add_mul, Nat.one_mul]
    have twc : c.2.2.1 * c.2.1 ≤ 256 := by rw [Nat.mul_comm]; exact ar
    have hrow : ∀ z, z < c.2.1 → uA (lkA A j) 17 f 17 ((c.2.2.1 - 1) * c.2.1 + z) = csR c.2.1 c.2.2.1 (lkA A j 9) (c.2.2.1 - 1) z := fun z hz => by
      have dz := dm (y := c.2.2.1 - 1) hz
      rw [uA_s, hf _ (by omega), dz.1, dz.2]
    have z0 : (0 : Int32).toInt = 0 := rfl
    refine gk_aload0 dX11_laySeam_96 (pc' := 97) rfl ?_
    refine gk_aload0 dX11_laySeam_97 (pc' := 98) rfl ?_
    refine gk_getf (fs := [_, _, _, _, _, _, _, _, _, _, _, _, _, _, _, _, _, _, _, _, _, _, _, _, _, _]) gF_Mo_141 dX11_laySeam_98 (pc' := 101) rfl (by exact (mkJ)) rfl ?_
    rw [hZ.2]
    refine gk_iconst (v := nI 1) dX11_laySeam_101 (pc' := 102) rfl (by decide) ?_
    refine gk_isubN dX11_laySeam_102 (pc' := 103) rfl (by omega) ?_
    refine gk_iconst (v := 0) dX11_laySeam_103 (pc' := 104) rfl (by decide) ?_
    refine gk_aload0 dX11_laySeam_104 (pc' := 105) rfl ?_
    refine gk_getf (fs := [_, _, _, _, _, _, _, _, _, _, _, _, _, _, _, _, _, _, _, _, _, _, _, _, _, _]) gF_Mo_138 dX11_laySeam_105 (pc' := 108) rfl (by exact (mkJ)) rfl ?_
    rw [hZ.1]
    refine gk_iconst (v := nI 1) dX11_laySeam_108 (pc' := 109) rfl (by decide) ?_
    refine gk_isubN dX11_laySeam_109 (pc' := 110) rfl (by omega) ?_
    refine gk_cV1_3 mv_Mo_leastIn gw_1119 dX11_laySeam_110 (pc' := 113) rfl (Nat.le_of_ble_eq_true rfl) (by exact (mkJ)) (sp_Mo_leastIn (c := csR c.2.1 c.2.2.1 (lkA A j 9) (c.2.2.1 - 1)) (lo := 0) hZ.1 (by omega) hw (by omega) (by omega) (Or.inl z0) hrow (by omega) ?_)
    refine ⟨_, rfl, ?_⟩
    rw [show lI (csR c.2.1 c.2.2.1 (lkA A j 9) (c.2.2.1 - 1)) c.2.1 0 (c.2.1 - 1) = colD c.2.1 c.2.2.1 (lkA A j 9) 0 from rfl]
    refine gk_istore2 dX11_laySeam_113 (pc' := 114) rfl (by decide) rfl ?_
    refine gk_aload0 dX11_laySeam_114 (pc' := 115) rfl ?_
    refine gk_getf (fs := [_, _, _, _, _, _, _, _, _, _, _, _, _, _, _, _, _, _, _, _, _, _, _, _, _, _]) gF_Mo_60 dX11_laySeam_115 (pc' := 118) rfl (by exact (mkJ)) rfl ?_
    refine gk_aload0 dX11_laySeam_118 (pc' := 119) rfl ?_
    refine gk_getf (fs := [_, _, _, _, _, _, _, _, _, _, _, _, _, _, _, _, _, _, _, _, _, _, _, _, _, _]) gF_Mo_141 dX11_laySeam_119 (pc' := 122) rfl (by exact (mkJ)) rfl ?_
    rw [hZ.2]
    refine gk_iconst (v := nI 1) dX11_laySeam_122 (pc' := 123) rfl (by decide) ?_
    refine gk_isubN dX11_laySeam_123 (pc' := 124) rfl (by omega) ?_
    refine gk_aload0 dX11_laySeam_124 (pc' := 125) rfl ?_
    refine gk_getf (fs := [_, _, _, _, _, _, _, _, _, _, _, _, _, _, _, _, _, _, _, _, _, _, _, _, _, _]) gF_Mo_138 dX11_laySeam_125 (pc' := 128) rfl (by exact (mkJ)) rfl ?_
    rw [hZ.1]
    refine gk_imulN dX11_laySeam_128 (pc' := 129) rfl ?_
    refine gk_iload2 dX11_laySeam_129 (pc' := 130) rfl ?_
    refine gk_iaddN dX11_laySeam_130 (pc' := 131) rfl ?_
    refine gk_iald (t0 := 0) rfl dX11_laySeam_131 (pc' := 132) rfl (by exact (mkA17)) (vp_in_nI (by omega) (by decide)) ?_
    rw [nI_clamp (by omega)]
    rw [hrow _ hc0]
    refine gk_istore3 dX11_laySeam_132 (pc' := 133) rfl (by decide) rfl ?_
    refine gk_aload0 dX11_laySeam_133 (pc' := 134) rfl ?_
    refine gk_getf (fs := [_, _, _, _, _, _, _, _, _, _, _, _, _, _, _, _, _, _, _, _, _, _, _, _, _, _]) gF_Mo_141 dX11_laySeam_134 (pc' := 137) rfl (by exact (mkJ)) rfl ?_
    rw [hZ.2]
    refine gk_iconst (v := 1) dX11_laySeam_137 (pc' := 138) rfl (by decide) ?_
    refine gk_isub dX11_laySeam_138 (pc' := 139) rfl ?_
    refine gk_istore4 dX11_laySeam_139 (pc' := 141) rfl (by decide) rfl ?_
    have q := lp_Mo_layZ (X := X) (h0 := h0) (m := m) (A := uA (lkA A j) 17 f) (Z := lkZ Z c.2.1 c.2.2.1) (d := d) (b := b) (Q := Q) (w := c.2.1) (t := c.2.2.1) (l1 := nI j) (tot := csR c.2.1 c.2.2.1 (lkA A j 9) (c.2.2.1 - 1) (colD c.2.1 c.2.2.1 (lkA A j 9) 0)) hZ hw ht (fun n hn => by rw [uA_s, uA_n (by decide)]; exact hf n hn) (fun g hg => by
      have e1 : csR c.2.1 c.2.2.1 (lkA A j 9) (c.2.2.1 - 1) (colD c.2.1 c.2.2.1 (lkA A j 9) 0) = seamTot c.2.1 c.2.2.1 c.2.2.2 := seamTot_congr hw.1 ht.1 l9
      rw [e1]
      exact hQ _ (fun i hi => by rw [uA_n (by omega), uA_n (by omega)]; exact uA_n (by omega)) (by rw [uA_n (by decide), uA_n (by decide)]) (fun y hy => by rw [uA_s, hg y hy]; exact congrArg nI (seamCol_congr hw.1 ht.1 (fun i hi => by rw [uA_n (by decide)]; exact l9 i hi) y))) c.2.2.1 (uA (lkA A j) 17 f 18) (some (.int (nI (colD c.2.1 c.2.2.1 (lkA A j 9) 0)))) (Nat.le_refl _) (fun y h1 h2 => absurd h1 (by omega)) (fun n' h => by rw [show n' = c.2.2.1 - 1 by omega]; unfold seamCol; rw [Nat.sub_self, uA_n (by decide)]) (fun h => absurd h (by omega))
    rw [uA_i] at q
    exact q
  refine Gm.enter (L := [some (.ref m), some (.int (nI j)), none, none, none]) (by decide) (fun _ => trivial) (Nat.le_of_ble_eq_true rfl) rfl ?_
  refine gk_aload0 dX11_laySeam_0 (pc' := 1) rfl ?_
  refine gk_iload1 dX11_laySeam_1 (pc' := 2) rfl ?_
  refine gk_cV0_1 mv_Mo_look gw_952 dX11_laySeam_2 (pc' := 5) rfl (Nat.le_of_ble_eq_true rfl) (by exact (mkJ)) (sp_Mo_look hp hj ?_)
  refine ⟨rfl, ?_⟩
  refine gk_iconst (v := 0) dX11_laySeam_5 (pc' := 6) rfl (by decide) ?_
  refine gk_istore2 dX11_laySeam_6 (pc' := 7) rfl (by decide) rfl ?_
  have q := lp_Mo_layY (X := X) (h0 := h0) (m := m) (A := lkA A j) (Z := lkZ Z c.2.1 c.2.2.1) (d := d) (b := b) (Q := Q) (l1 := nI j) hZ hw ht hr fin c.2.2.1 0 (lkA A j 17) none none (by omega) (fun i hi => absurd hi (by omega))
  rw [uA_i] at q
  exact q
theorem mo_seam {p y : Int32} (hM : Mod X h m S) (hw : wfS S) (hQ : ∀ h', Mod X h' m (oSeam S p y).2 → frO m h h' → Q (some (.int (oSeam S p y).1)) h') : Gm (kx X) mt_Mo_seam (d + 10) b [.ref m, .int p, .int y] h Q := by
  obtain ⟨h0, A, Z, rfl, hS⟩ := hM
  have hE : ∀ a0 S' A' Z', oSeam S p y = (a0, S') → MoS A' Z' S' → Q (some (.int a0)) (mkH X h0 m A' Z') := fun a0 S' A' Z' e0 h1 => by
    have q := hQ (mkH X h0 m A' Z')
    rw [e0] at q
    exact q ⟨h0, A', Z', rfl, h1⟩ mk_fr
  have hB : ∀ a0, oSeam S p y = (a0, S) → Q (some (.int a0)) (mkH X h0 m A Z) := fun a0 e0 => hE a0 S A Z e0 hS
  have zm : (-1 : Int32).toInt = -1 := rfl
  have z0 : (0 : Int32).toInt = 0 := rfl
  refine Gm.enter (L := [some (.ref m), some (.int p), some (.int y), none]) (by decide) (fun _ => trivial) (Nat.le_of_ble_eq_true rfl) rfl ?_
  refine gk_iload1 dX11_seam_0 (pc' := 1) rfl ?_
  refine gk_cS1_1 mz_Mo_isPicture gw_882 dX11_seam_1 (pc' := 4) rfl (Nat.le_of_ble_eq_true rfl) (sp_Mo_isPicture (fun j1 hj1 ej1 => ?_) (fun n1 => ?_))
  · refine ⟨_, rfl, ?_⟩
    subst ej1
    have zj1 : (nI j1).toInt = j1 := nI_toInt (by omega)
    have yj1 : (nI j1).toInt.toNat = j1 := by omega
    have pr1 := hS.picS hj1
    have ok1 := hw.okp hj1
    have wt1 := ok1.wt
    have ar1 := ok1.ar
    refine gk_if_eq dX11_seam_4 (tgt := 12) (pc' := 7) (by decide) rfl (fun c => absurd c (by decide)) (fun _ => ?_)
    refine gk_iload2 dX11_seam_7 (pc' := 8) rfl ?_
    refine gk_iconst (v := -1) dX11_seam_8 (pc' := 9) rfl (by decide) ?_
    refine gk_icmp_ge dX11_seam_9 (tgt := 15) (pc' := 12) (by decide) rfl (fun c9 => ?_) (fun c9 => ?_)
    · rw [pu_le, zm] at c9
      refine gk_aload0 dX11_seam_15 (pc' := 16) rfl ?_
      refine gk_iload1 dX11_seam_16 (pc' := 17) rfl ?_
      refine gk_cV1_1 mv_Mo_isThere gw_905 dX11_seam_17 (pc' := 20) rfl (Nat.le_of_ble_eq_true rfl) (by exact (mkJ)) (sp_Mo_isThere pr1 hj1 ok1 (fun k17 => ?_) (fun k17 => ?_))
      · refine ⟨_, rfl, ?_⟩
        have okk := ok1.kind k17
        refine gk_if_eq dX11_seam_20 (tgt := 32) (pc' := 23) (by decide) rfl (fun c => absurd c (by decide)) (fun _ => ?_)
        refine gk_iload2 dX11_seam_23 (pc' := 24) rfl ?_
        refine gk_aload0 dX11_seam_24 (pc' := 25) rfl ?_
        refine gk_iload1 dX11_seam_25 (pc' := 26) rfl ?_
        refine gk_cV1_1 mv_Mo_tall gw_917 dX11_seam_26 (pc' := 29) rfl (Nat.le_of_ble_eq_true rfl) (by exact (mkJ)) (sp_Mo_tall pr1 hj1 ?_)
        refine ⟨_, rfl, ?_⟩
        refine gk_icmp_lt dX11_seam_29 (tgt := 35) (pc' := 32) (by decide) rfl (fun c29 => ?_) (fun c29 => ?_)
        · rw [pu_lt, nI_toInt (by omega)] at c29
          refine gk_aload0 dX11_seam_35 (pc' := 36) rfl ?_
          refine gk_iload1 dX11_seam_36 (pc' := 37) rfl ?_
          refine gk_cV1_1 mv_Mo_laySeam gw_1115 dX11_seam_37 (pc' := 40) rfl (Nat.le_of_ble_eq_true rfl) (by exact (mkJ)) (sp_Mo_laySeam pr1 hj1 ok1 k17 (fun A' b1 b2 b3 => ?_))
          refine ⟨_, rfl, ?_⟩
          refine gk_istore3 dX11_seam_40 (pc' := 41) rfl (by decide) rfl ?_
          refine gk_iload2 dX11_seam_41 (pc' := 42) rfl ?_
          refine gk_if_ge dX11_seam_42 (tgt := 49) (pc' := 45) (by decide) rfl (fun c42 => ?_) (fun c42 => ?_)
          · rw [pu_le, z0] at c42
            obtain ⟨jy, hjy, rfl⟩ := pu_of (x := y) (n := 16) c42 (by omega) (by omega)
            have zy : (nI jy).toInt = jy := nI_toInt (by omega)
            have ny : ¬ nI jy = -1 := fun e => by rw [e] at c42; exact absurd c42 (by decide)
            refine gk_aload0 dX11_seam_49 (pc' := 50) rfl ?_
            refine gk_getf (fs := [_, _, _, _, _, _, _, _, _, _, _, _, _, _, _, _, _, _, _, _, _, _, _, _, _, _]) gF_Mo_63 dX11_seam_50 (pc' := 53) rfl (by exact (mkJ)) rfl ?_
            refine gk_iload2 dX11_seam_53 (pc' := 54) rfl ?_
            refine gk_iald (t0 := 0) rfl dX11_seam_54 (pc' := 55) rfl (by exact (mkA18)) (vp_in_nI (by omega) (by decide)) ?_
            rw [nI_clamp (by omega)]
            rw [b3 jy (by omega)]
            refine gk_iret dX11_seam_55 rfl (by first | exact hE _ S _ _ ((if_pos (by omega)).trans ((if_pos ⟨k17, c29⟩).trans (by rw [if_pos ny]))) (hS.kept (fun i h1 h2 => b1 i (by omega)) (fun i hi => lkZ_n hi)) | exact hE _ S _ _ ((if_pos (by omega)).trans ((if_pos ⟨k17, c29⟩).trans (by rw [if_neg ny, nI_nat (j := jy) (by omega)]))) (hS.kept (fun i h1 h2 => b1 i (by omega)) (fun i hi => lkZ_n hi)))
          · rw [pu_le, z0] at c42
            have ny : y = -1 := pu_inj (by rw [zm]; omega)
            refine gk_iload3 dX11_seam_45 (pc' := 46) rfl ?_
            refine gk_goto dX11_seam_46 (tgt := 55) (by decide) ?_
            refine gk_iret dX11_seam_55 rfl (by first | exact hE _ S _ _ ((if_pos (by omega)).trans ((if_pos ⟨k17, c29⟩).trans (by rw [if_pos ny]))) (hS.kept (fun i h1 h2 => b1 i (by omega)) (fun i hi => lkZ_n hi)) | exact hE _ S _ _ ((if_pos (by omega)).trans ((if_pos ⟨k17, c29⟩).trans (by rw [if_neg ny, nI_nat (j := jy) (by omega)]))) (hS.kept (fun i h1 h2 => b1 i (by omega)) (fun i hi => lkZ_n hi)))
        · rw [pu_lt, nI_toInt (by omega)] at c29
          refine gk_ldc dX11_seam_32 (pc' := 34) rfl gw_869 ?_
          refine gk_iret dX11_seam_34 rfl (hB _ ((if_pos (by omega)).trans (if_neg (fun z => by first | exact z.1 k17 | exact c29 z.2))))
      · refine ⟨_, rfl, ?_⟩
        refine gk_if_eq dX11_seam_20 (tgt := 32) (pc' := 23) (by decide) rfl (fun _ => ?_) (fun c => absurd c (by decide))
        refine gk_ldc dX11_seam_32 (pc' := 34) rfl gw_869 ?_
        refine gk_iret dX11_seam_34 rfl (hB _ ((if_pos (by omega)).trans (if_neg (fun z => by first | exact z.1 k17 | exact c29 z.2))))
    · rw [pu_le, zm] at c9
      refine gk_ldc dX11_seam_12 (pc' := 14) rfl gw_891 ?_
      refine gk_iret dX11_seam_14 rfl (hB _ (if_neg (by omega)))
  · refine ⟨_, rfl, ?_⟩
    refine gk_if_eq dX11_seam_4 (tgt := 12) (pc' := 7) (by decide) rfl (fun _ => ?_) (fun c => absurd c (by decide))
    refine gk_ldc dX11_seam_12 (pc' := 14) rfl gw_891 ?_
    refine gk_iret dX11_seam_14 rfl (hB _ (if_neg (by omega)))
end MoK
