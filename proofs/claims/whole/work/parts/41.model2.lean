/-! ===== the reference: its small methods ===== -/
section MoC
variable {X : gX} {d : Nat} {b : Nat × Nat} {h h0 : gk_H} {m : Nat} {A : MoA} {Z : MoZ} {Q : Option Value → gk_H → Prop}
theorem sp_Mo_in {v lo hi : Int64} (ht : lo.toInt ≤ v.toInt → v.toInt ≤ hi.toInt → Q (some (.int 1)) h) (hf : ¬ (lo.toInt ≤ v.toInt ∧ v.toInt ≤ hi.toInt) → Q (some (.int 0)) h) : Gm (kx X) mt_Mo_in d b [.long v, .long lo, .long hi] h Q := by
  refine Gm.enter (L := [some (.long v), none, some (.long lo), none, some (.long hi), none]) (by decide) (fun _ => trivial) (Nat.le_of_ble_eq_true rfl) rfl ?_
  refine gk_lload0 dX11_in_0 (pc' := 1) rfl ?_
  refine gk_lload2 dX11_in_1 (pc' := 2) rfl ?_
  refine gk_lcmp dX11_in_2 (pc' := 3) rfl ?_
  refine gk_if_lt dX11_in_3 (tgt := 17) (pc' := 6) (by decide) rfl (fun c3 => ?_) (fun c3 => ?_)
  · rw [pu_cmp_lt] at c3
    refine gk_iconst (v := 0) dX11_in_17 (pc' := 18) rfl (by decide) ?_
    refine gk_zret dX11_in_18 rfl rfl (by first | exact ht (by omega) (by omega) | exact hf (by omega))
  · rw [pu_cmp_lt] at c3
    refine gk_lload0 dX11_in_6 (pc' := 7) rfl ?_
    refine gk_lload4 dX11_in_7 (pc' := 9) rfl ?_
    refine gk_lcmp dX11_in_9 (pc' := 10) rfl ?_
    refine gk_if_gt dX11_in_10 (tgt := 17) (pc' := 13) (by decide) rfl (fun c10 => ?_) (fun c10 => ?_)
    · rw [pu_cmp_gt] at c10
      refine gk_iconst (v := 0) dX11_in_17 (pc' := 18) rfl (by decide) ?_
      refine gk_zret dX11_in_18 rfl rfl (by first | exact ht (by omega) (by omega) | exact hf (by omega))
    · rw [pu_cmp_gt] at c10
      refine gk_iconst (v := 1) dX11_in_13 (pc' := 14) rfl (by decide) ?_
      refine gk_goto dX11_in_14 (tgt := 18) (by decide) ?_
      refine gk_zret dX11_in_18 rfl rfl (by first | exact ht (by omega) (by omega) | exact hf (by omega))
theorem i2l_i (x : Int32) : x.toInt64.toInt = x.toInt := Jvm.Kit.i64_of_i32 x
theorem sp_Mo_isPicture {p : Int32} (ht : ∀ j, j < 8 → p = nI j → Q (some (.int 1)) h) (hf : ¬ (0 ≤ p.toInt ∧ p.toInt < 8) → Q (some (.int 0)) h) : Gm (kx X) mt_Mo_isPicture (d + 1) b [.int p] h Q := by
  have z0 : (0 : Int64).toInt = 0 := rfl
  have z7 : (7 : Int64).toInt = 7 := rfl
  have zp := i2l_i p
  refine Gm.enter (L := [some (.int p)]) (by decide) (fun _ => trivial) (Nat.le_of_ble_eq_true rfl) rfl ?_
  refine gk_iload0 dX11_isPicture_0 (pc' := 1) rfl ?_
  refine gk_i2l dX11_isPicture_1 (pc' := 2) rfl ?_
  refine gk_lconst (v := 0) dX11_isPicture_2 (pc' := 3) rfl (by decide) ?_
  refine gk_ldc2 dX11_isPicture_3 (pc' := 6) rfl gw_885 ?_
  refine gk_cS1_3 mz_Mo_in gw_886 dX11_isPicture_6 (pc' := 9) rfl (Nat.le_of_ble_eq_true rfl) (sp_Mo_in (fun q1 q2 => ?_) (fun q1 => ?_))
  · refine ⟨_, rfl, ?_⟩
    obtain ⟨j, hj, ej⟩ := pu_of (x := p) (n := 8) (by omega) (by omega) (by omega)
    refine gk_zret dX11_isPicture_9 rfl rfl (by first | exact ht j hj ej | exact hf (by omega))
  · refine ⟨_, rfl, ?_⟩
    refine gk_zret dX11_isPicture_9 rfl rfl (by first | exact ht j hj ej | exact hf (by omega))
theorem sp_Mo_isMask {p : Int32} (ht : ∀ j, j < 6 → p = nI j → Q (some (.int 1)) h) (hf : ¬ (0 ≤ p.toInt ∧ p.toInt < 6) → Q (some (.int 0)) h) : Gm (kx X) mt_Mo_isMask (d + 1) b [.int p] h Q := by
  have z0 : (0 : Int64).toInt = 0 := rfl
  have z7 : (5 : Int64).toInt = 5 := rfl
  have zp := i2l_i p
  refine Gm.enter (L := [some (.int p)]) (by decide) (fun _ => trivial) (Nat.le_of_ble_eq_true rfl) rfl ?_
  refine gk_iload0 dX11_isMask_0 (pc' := 1) rfl ?_
  refine gk_i2l dX11_isMask_1 (pc' := 2) rfl ?_
  refine gk_lconst (v := 0) dX11_isMask_2 (pc' := 3) rfl (by decide) ?_
  refine gk_ldc2 dX11_isMask_3 (pc' := 6) rfl gw_967 ?_
  refine gk_cS1_3 mz_Mo_in gw_886 dX11_isMask_6 (pc' := 9) rfl (Nat.le_of_ble_eq_true rfl) (sp_Mo_in (fun q1 q2 => ?_) (fun q1 => ?_))
  · refine ⟨_, rfl, ?_⟩
    obtain ⟨j, hj, ej⟩ := pu_of (x := p) (n := 6) (by omega) (by omega) (by omega)
    refine gk_zret dX11_isMask_9 rfl rfl (by first | exact ht j hj ej | exact hf (by omega))
  · refine ⟨_, rfl, ?_⟩
    refine gk_zret dX11_isMask_9 rfl rfl (by first | exact ht j hj ej | exact hf (by omega))
theorem sp_Mo_kindOf {j : Nat} {c : Pc} (hp : pRow (A 1) (259 * j) c) (hj : j < 8) (hQ : Q (some (.int c.1)) (mkH X h0 m A Z)) : Gm (kx X) mt_Mo_kindOf d b [.ref m, .int (nI j)] (mkH X h0 m A Z) Q := by
  refine Gm.enter (L := [some (.ref m), some (.int (nI j))]) (by decide) (fun _ => trivial) (Nat.le_of_ble_eq_true rfl) rfl ?_
  refine gk_aload0 dX11_kindOf_0 (pc' := 1) rfl ?_
  refine gk_getf (fs := [_, _, _, _, _, _, _, _, _, _, _, _, _, _, _, _, _, _, _, _, _, _, _, _, _, _]) gF_Mo_7 dX11_kindOf_1 (pc' := 4) rfl (by exact (mkJ)) rfl ?_
  refine gk_sipush (v := nI 259) dX11_kindOf_4 (pc' := 7) rfl (by decide) ?_
  refine gk_iload1 dX11_kindOf_7 (pc' := 8) rfl ?_
  refine gk_imulN dX11_kindOf_8 (pc' := 9) rfl ?_
  refine gk_iald (t0 := 0) rfl dX11_kindOf_9 (pc' := 10) rfl (by exact (mkA1)) (vp_in_nI (by omega) (by decide)) ?_
  rw [nI_clamp (by omega)]
  refine gk_iret dX11_kindOf_10 rfl (by rw [hp.1]; exact hQ)
theorem sp_Mo_wide {j : Nat} {c : Pc} (hp : pRow (A 1) (259 * j) c) (hj : j < 8) (hQ : Q (some (.int (nI c.2.1))) (mkH X h0 m A Z)) : Gm (kx X) mt_Mo_wide d b [.ref m, .int (nI j)] (mkH X h0 m A Z) Q := by
  refine Gm.enter (L := [some (.ref m), some (.int (nI j))]) (by decide) (fun _ => trivial) (Nat.le_of_ble_eq_true rfl) rfl ?_
  refine gk_aload0 dX11_wide_0 (pc' := 1) rfl ?_
  refine gk_getf (fs := [_, _, _, _, _, _, _, _, _, _, _, _, _, _, _, _, _, _, _, _, _, _, _, _, _, _]) gF_Mo_7 dX11_wide_1 (pc' := 4) rfl (by exact (mkJ)) rfl ?_
  refine gk_sipush (v := nI 259) dX11_wide_4 (pc' := 7) rfl (by decide) ?_
  refine gk_iload1 dX11_wide_7 (pc' := 8) rfl ?_
  refine gk_imulN dX11_wide_8 (pc' := 9) rfl ?_
  refine gk_iconst (v := nI 1) dX11_wide_9 (pc' := 10) rfl (by decide) ?_
  refine gk_iaddN dX11_wide_10 (pc' := 11) rfl ?_
  refine gk_iald (t0 := 0) rfl dX11_wide_11 (pc' := 12) rfl (by exact (mkA1)) (vp_in_nI (by omega) (by decide)) ?_
  rw [nI_clamp (by omega)]
  refine gk_iret dX11_wide_12 rfl (by rw [hp.2.1]; exact hQ)
theorem sp_Mo_tall {j : Nat} {c : Pc} (hp : pRow (A 1) (259 * j) c) (hj : j < 8) (hQ : Q (some (.int (nI c.2.2.1))) (mkH X h0 m A Z)) : Gm (kx X) mt_Mo_tall d b [.ref m, .int (nI j)] (mkH X h0 m A Z) Q := by
  refine Gm.enter (L := [some (.ref m), some (.int (nI j))]) (by decide) (fun _ => trivial) (Nat.le_of_ble_eq_true rfl) rfl ?_
  refine gk_aload0 dX11_tall_0 (pc' := 1) rfl ?_
  refine gk_getf (fs := [_, _, _, _, _, _, _, _, _, _, _, _, _, _, _, _, _, _, _, _, _, _, _, _, _, _]) gF_Mo_7 dX11_tall_1 (pc' := 4) rfl (by exact (mkJ)) rfl ?_
  refine gk_sipush (v := nI 259) dX11_tall_4 (pc' := 7) rfl (by decide) ?_
  refine gk_iload1 dX11_tall_7 (pc' := 8) rfl ?_
  refine gk_imulN dX11_tall_8 (pc' := 9) rfl ?_
  refine gk_iconst (v := nI 2) dX11_tall_9 (pc' := 10) rfl (by decide) ?_
  refine gk_iaddN dX11_tall_10 (pc' := 11) rfl ?_
  refine gk_iald (t0 := 0) rfl dX11_tall_11 (pc' := 12) rfl (by exact (mkA1)) (vp_in_nI (by omega) (by decide)) ?_
  rw [nI_clamp (by omega)]
  refine gk_iret dX11_tall_12 rfl (by rw [hp.2.2.1]; exact hQ)
theorem sp_Mo_isThere {j : Nat} {c : Pc} (hp : pRow (A 1) (259 * j) c) (hj : j < 8) (ok : okP c) (ht : ¬ c.1 = -1 → Q (some (.int 1)) (mkH X h0 m A Z)) (hf : c.1 = -1 → Q (some (.int 0)) (mkH X h0 m A Z)) : Gm (kx X) mt_Mo_isThere d b [.ref m, .int (nI j)] (mkH X h0 m A Z) Q := by
  have key : c.1 < 0 ↔ c.1 = -1 := by
    rcases ok with z | z
    · rw [z.1]; decide
    · rcases z.1 with y | y <;> rw [y] <;> decide
  refine Gm.enter (L := [some (.ref m), some (.int (nI j))]) (by decide) (fun _ => trivial) (Nat.le_of_ble_eq_true rfl) rfl ?_
  refine gk_aload0 dX11_isThere_0 (pc' := 1) rfl ?_
  refine gk_getf (fs := [_, _, _, _, _, _, _, _, _, _, _, _, _, _, _, _, _, _, _, _, _, _, _, _, _, _]) gF_Mo_7 dX11_isThere_1 (pc' := 4) rfl (by exact (mkJ)) rfl ?_
  refine gk_sipush (v := nI 259) dX11_isThere_4 (pc' := 7) rfl (by decide) ?_
  refine gk_iload1 dX11_isThere_7 (pc' := 8) rfl ?_
  refine gk_imulN dX11_isThere_8 (pc' := 9) rfl ?_
  refine gk_iald (t0 := 0) rfl dX11_isThere_9 (pc' := 10) rfl (by exact (mkA1)) (vp_in_nI (by omega) (by decide)) ?_
  rw [nI_clamp (by omega)]
  rw [hp.1]
  refine gk_if_lt dX11_isThere_10 (tgt := 17) (pc' := 13) (by decide) rfl (fun c10 => ?_) (fun c10 => ?_)
  · rw [key] at c10
    refine gk_iconst (v := 0) dX11_isThere_17 (pc' := 18) rfl (by decide) ?_
    refine gk_zret dX11_isThere_18 rfl rfl (by first | exact ht c10 | exact hf c10)
  · rw [key] at c10
    refine gk_iconst (v := 1) dX11_isThere_13 (pc' := 14) rfl (by decide) ?_
    refine gk_goto dX11_isThere_14 (tgt := 18) (by decide) ?_
    refine gk_zret dX11_isThere_18 rfl rfl (by first | exact ht c10 | exact hf c10)
theorem sp_Mo_least {k : Int32} (hk : k = 0 ∨ k = 1) (hQ : Q (some (.int (loK k))) h) : Gm (kx X) mt_Mo_least d b [.int k] h Q := by
  refine Gm.enter (L := [some (.int k)]) (by decide) (fun _ => trivial) (Nat.le_of_ble_eq_true rfl) rfl ?_
  refine gk_iload0 dX11_least_0 (pc' := 1) rfl ?_
  refine gk_if_ne dX11_least_1 (tgt := 8) (pc' := 4) (by decide) rfl (fun c1 => ?_) (fun c1 => ?_)
  · have e : k = 1 := hk.resolve_left c1
    subst e
    refine gk_sipush (v := -32768) dX11_least_8 (pc' := 11) rfl (by decide) ?_
    refine gk_iret dX11_least_11 rfl hQ
  · have e : k = 0 := c1
    subst e
    refine gk_iconst (v := 0) dX11_least_4 (pc' := 5) rfl (by decide) ?_
    refine gk_goto dX11_least_5 (tgt := 11) (by decide) ?_
    refine gk_iret dX11_least_11 rfl hQ
theorem sp_Mo_greatest {k : Int32} (hk : k = 0 ∨ k = 1) (hQ : Q (some (.int (hiK k))) h) : Gm (kx X) mt_Mo_greatest d b [.int k] h Q := by
  refine Gm.enter (L := [some (.int k)]) (by decide) (fun _ => trivial) (Nat.le_of_ble_eq_true rfl) rfl ?_
  refine gk_iload0 dX11_greatest_0 (pc' := 1) rfl ?_
  refine gk_if_ne dX11_greatest_1 (tgt := 10) (pc' := 4) (by decide) rfl (fun c1 => ?_) (fun c1 => ?_)
  · have e : k = 1 := hk.resolve_left c1
    subst e
    refine gk_sipush (v := 32767) dX11_greatest_10 (pc' := 13) rfl (by decide) ?_
    refine gk_iret dX11_greatest_13 rfl hQ
  · have e : k = 0 := c1
    subst e
    refine gk_sipush (v := 255) dX11_greatest_4 (pc' := 7) rfl (by decide) ?_
    refine gk_goto dX11_greatest_7 (tgt := 13) (by decide) ?_
    refine gk_iret dX11_greatest_13 rfl hQ
theorem sp_Mo_keptIn {k : Int32} {v : Int64} (hk : k = 0 ∨ k = 1) (hQ : Q (some (.int (kpt k v.toInt))) h) : Gm (kx X) mt_Mo_keptIn (d + 1) b [.int k, .long v] h Q := by
  have h1 := loK_rng k
  have h2 := hiK_rng k
  have zl := i2l_i (loK k)
  have zh := i2l_i (hiK k)
  refine Gm.enter (L := [some (.int k), some (.long v), none]) (by decide) (fun _ => trivial) (Nat.le_of_ble_eq_true rfl) rfl ?_
  refine gk_lload1 dX11_keptIn_0 (pc' := 1) rfl ?_
  refine gk_iload0 dX11_keptIn_1 (pc' := 2) rfl ?_
  refine gk_cS1_1 mz_Mo_least gw_925 dX11_keptIn_2 (pc' := 5) rfl (Nat.le_of_ble_eq_true rfl) (sp_Mo_least hk ?_)
  refine ⟨_, rfl, ?_⟩
  refine gk_i2l dX11_keptIn_5 (pc' := 6) rfl ?_
  refine gk_lcmp dX11_keptIn_6 (pc' := 7) rfl ?_
  refine gk_if_ge dX11_keptIn_7 (tgt := 17) (pc' := 10) (by decide) rfl (fun c7 => ?_) (fun c7 => ?_)
  · rw [← Int32.not_lt, pu_cmp_lt] at c7
    refine gk_lload1 dX11_keptIn_17 (pc' := 18) rfl ?_
    refine gk_iload0 dX11_keptIn_18 (pc' := 19) rfl ?_
    refine gk_cS1_1 mz_Mo_greatest gw_928 dX11_keptIn_19 (pc' := 22) rfl (Nat.le_of_ble_eq_true rfl) (sp_Mo_greatest hk ?_)
    refine ⟨_, rfl, ?_⟩
    refine gk_i2l dX11_keptIn_22 (pc' := 23) rfl ?_
    refine gk_lcmp dX11_keptIn_23 (pc' := 24) rfl ?_
    refine gk_if_le dX11_keptIn_24 (tgt := 34) (pc' := 27) (by decide) rfl (fun c24 => ?_) (fun c24 => ?_)
    · rw [← Int32.not_lt, pu_cmp_gt] at c24
      refine gk_lload1 dX11_keptIn_34 (pc' := 35) rfl ?_
      refine gk_l2i dX11_keptIn_35 (pc' := 36) rfl ?_
      refine gk_iret dX11_keptIn_36 rfl (by first | (rw [kpt, if_pos (by omega)] at hQ; exact hQ) | (rw [kpt, if_neg (by omega), if_pos (by omega)] at hQ; exact hQ) | (rw [kpt_of (r := v.toInt32) (k := k) (z := v.toInt) (by rw [Jvm.Kit.i32_of_i64 (by omega) (by omega)]; omega)]; exact hQ))
    · rw [← Int32.not_lt, Classical.not_not, pu_cmp_gt] at c24
      refine gk_iload0 dX11_keptIn_27 (pc' := 28) rfl ?_
      refine gk_cS1_1 mz_Mo_greatest gw_928 dX11_keptIn_28 (pc' := 31) rfl (Nat.le_of_ble_eq_true rfl) (sp_Mo_greatest hk ?_)
      refine ⟨_, rfl, ?_⟩
      refine gk_goto dX11_keptIn_31 (tgt := 36) (by decide) ?_
      refine gk_iret dX11_keptIn_36 rfl (by first | (rw [kpt, if_pos (by omega)] at hQ; exact hQ) | (rw [kpt, if_neg (by omega), if_pos (by omega)] at hQ; exact hQ) | (rw [kpt_of (r := v.toInt32) (k := k) (z := v.toInt) (by rw [Jvm.Kit.i32_of_i64 (by omega) (by omega)]; omega)]; exact hQ))
  · rw [← Int32.not_lt, Classical.not_not, pu_cmp_lt] at c7
    refine gk_iload0 dX11_keptIn_10 (pc' := 11) rfl ?_
    refine gk_cS1_1 mz_Mo_least gw_925 dX11_keptIn_11 (pc' := 14) rfl (Nat.le_of_ble_eq_true rfl) (sp_Mo_least hk ?_)
    refine ⟨_, rfl, ?_⟩
    refine gk_goto dX11_keptIn_14 (tgt := 36) (by decide) ?_
    refine gk_iret dX11_keptIn_36 rfl (by first | (rw [kpt, if_pos (by omega)] at hQ; exact hQ) | (rw [kpt, if_neg (by omega), if_pos (by omega)] at hQ; exact hQ) | (rw [kpt_of (r := v.toInt32) (k := k) (z := v.toInt) (by rw [Jvm.Kit.i32_of_i64 (by omega) (by omega)]; omega)]; exact hQ))
theorem sp_Mo_pixels {j : Nat} {c : Pc} (hp : pRow (A 1) (259 * j) c) (hj : j < 8) (hQ : Q (some (.int (nI (c.2.1 * c.2.2.1)))) (mkH X h0 m A Z)) : Gm (kx X) mt_Mo_pixels (d + 1) b [.ref m, .int (nI j)] (mkH X h0 m A Z) Q := by
  refine Gm.enter (L := [some (.ref m), some (.int (nI j))]) (by decide) (fun _ => trivial) (Nat.le_of_ble_eq_true rfl) rfl ?_
  refine gk_aload0 dX11_pixels_0 (pc' := 1) rfl ?_
  refine gk_iload1 dX11_pixels_1 (pc' := 2) rfl ?_
  refine gk_cV1_1 mv_Mo_wide gw_913 dX11_pixels_2 (pc' := 5) rfl (Nat.le_of_ble_eq_true rfl) (by exact (mkJ)) (sp_Mo_wide hp hj ?_)
  refine ⟨_, rfl, ?_⟩
  refine gk_aload0 dX11_pixels_5 (pc' := 6) rfl ?_
  refine gk_iload1 dX11_pixels_6 (pc' := 7) rfl ?_
  refine gk_cV1_1 mv_Mo_tall gw_917 dX11_pixels_7 (pc' := 10) rfl (Nat.le_of_ble_eq_true rfl) (by exact (mkJ)) (sp_Mo_tall hp hj ?_)
  refine ⟨_, rfl, ?_⟩
  refine gk_imulN dX11_pixels_10 (pc' := 11) rfl ?_
  refine gk_iret dX11_pixels_11 rfl hQ
theorem sp_Mo_pixelAt {j x y : Nat} {c : Pc} (hp : pRow (A 1) (259 * j) c) (hj : j < 8) (hQ : Q (some (.int (nI (259 * j + 3 + y * c.2.1 + x)))) (mkH X h0 m A Z)) : Gm (kx X) mt_Mo_pixelAt (d + 1) b [.ref m, .int (nI j), .int (nI x), .int (nI y)] (mkH X h0 m A Z) Q := by
  refine Gm.enter (L := [some (.ref m), some (.int (nI j)), some (.int (nI x)), some (.int (nI y))]) (by decide) (fun _ => trivial) (Nat.le_of_ble_eq_true rfl) rfl ?_
  refine gk_sipush (v := nI 259) dX11_pixelAt_0 (pc' := 3) rfl (by decide) ?_
  refine gk_iload1 dX11_pixelAt_3 (pc' := 4) rfl ?_
  refine gk_imulN dX11_pixelAt_4 (pc' := 5) rfl ?_
  refine gk_iconst (v := nI 3) dX11_pixelAt_5 (pc' := 6) rfl (by decide) ?_
  refine gk_iaddN dX11_pixelAt_6 (pc' := 7) rfl ?_
  refine gk_iload3 dX11_pixelAt_7 (pc' := 8) rfl ?_
  refine gk_aload0 dX11_pixelAt_8 (pc' := 9) rfl ?_
  refine gk_iload1 dX11_pixelAt_9 (pc' := 10) rfl ?_
  refine gk_cV1_1 mv_Mo_wide gw_913 dX11_pixelAt_10 (pc' := 13) rfl (Nat.le_of_ble_eq_true rfl) (by exact (mkJ)) (sp_Mo_wide hp hj ?_)
  refine ⟨_, rfl, ?_⟩
  refine gk_imulN dX11_pixelAt_13 (pc' := 14) rfl ?_
  refine gk_iaddN dX11_pixelAt_14 (pc' := 15) rfl ?_
  refine gk_iload2 dX11_pixelAt_15 (pc' := 16) rfl ?_
  refine gk_iaddN dX11_pixelAt_16 (pc' := 17) rfl ?_
  refine gk_iret dX11_pixelAt_17 rfl hQ
theorem sp_Mo_isWithin {j : Nat} {x y : Int32} {c : Pc} (hp : pRow (A 1) (259 * j) c) (hj : j < 8) (hw : c.2.1 ≤ 16 ∧ c.2.2.1 ≤ 16) (ht : ∀ i j : Nat, x = nI i → y = nI j → i < c.2.1 → j < c.2.2.1 → Q (some (.int 1)) (mkH X h0 m A Z)) (hf : ¬ (0 ≤ x.toInt ∧ x.toInt < c.2.1 ∧ 0 ≤ y.toInt ∧ y.toInt < c.2.2.1) → Q (some (.int 0)) (mkH X h0 m A Z)) : Gm (kx X) mt_Mo_isWithin (d + 1) b [.ref m, .int (nI j), .int x, .int y] (mkH X h0 m A Z) Q := by
  have z0 : (0 : Int64).toInt = 0 := rfl
  have z1 : (1 : Int32).toInt = 1 := rfl
  have zx := i2l_i x
  have zy := i2l_i y
  have zw : (nI c.2.1 - 1).toInt64.toInt = (c.2.1 : Int) - 1 := by rw [i2l_i, Jvm.Kit.i32_sub (by rw [nI_toInt (by omega)]; omega) (by rw [nI_toInt (by omega)]; omega), nI_toInt (by omega), z1]
  have zt : (nI c.2.2.1 - 1).toInt64.toInt = (c.2.2.1 : Int) - 1 := by rw [i2l_i, Jvm.Kit.i32_sub (by rw [nI_toInt (by omega)]; omega) (by rw [nI_toInt (by omega)]; omega), nI_toInt (by omega), z1]
  refine Gm.enter (L := [some (.ref m), some (.int (nI j)), some (.int x), some (.int y)]) (by decide) (fun _ => trivial) (Nat.le_of_ble_eq_true rfl) rfl ?_
  refine gk_iload2 dX11_isWithin_0 (pc' := 1) rfl ?_
  refine gk_i2l dX11_isWithin_1 (pc' := 2) rfl ?_
  refine gk_lconst (v := 0) dX11_isWithin_2 (pc' := 3) rfl (by decide) ?_
  refine gk_aload0 dX11_isWithin_3 (pc' := 4) rfl ?_
  refine gk_iload1 dX11_isWithin_4 (pc' := 5) rfl ?_
  refine gk_cV1_1 mv_Mo_wide gw_913 dX11_isWithin_5 (pc' := 8) rfl (Nat.le_of_ble_eq_true rfl) (by exact (mkJ)) (sp_Mo_wide hp hj ?_)
  refine ⟨_, rfl, ?_⟩
  refine gk_iconst (v := 1) dX11_isWithin_8 (pc' := 9) rfl (by decide) ?_
  refine gk_isub dX11_isWithin_9 (pc' := 10) rfl ?_
  refine gk_i2l dX11_isWithin_10 (pc' := 11) rfl ?_
  refine gk_cS1_3 mz_Mo_in gw_886 dX11_isWithin_11 (pc' := 14) rfl (Nat.le_of_ble_eq_true rfl) (sp_Mo_in (fun q1 q2 => ?_) (fun q1 => ?_))
  · refine ⟨_, rfl, ?_⟩
    refine gk_if_eq dX11_isWithin_14 (tgt := 38) (pc' := 17) (by decide) rfl (fun c => absurd c (by decide)) (fun _ => ?_)
    refine gk_iload3 dX11_isWithin_17 (pc' := 18) rfl ?_
    refine gk_i2l dX11_isWithin_18 (pc' := 19) rfl ?_
    refine gk_lconst (v := 0) dX11_isWithin_19 (pc' := 20) rfl (by decide) ?_
    refine gk_aload0 dX11_isWithin_20 (pc' := 21) rfl ?_
    refine gk_iload1 dX11_isWithin_21 (pc' := 22) rfl ?_
    refine gk_cV1_1 mv_Mo_tall gw_917 dX11_isWithin_22 (pc' := 25) rfl (Nat.le_of_ble_eq_true rfl) (by exact (mkJ)) (sp_Mo_tall hp hj ?_)
    refine ⟨_, rfl, ?_⟩
    refine gk_iconst (v := 1) dX11_isWithin_25 (pc' := 26) rfl (by decide) ?_
    refine gk_isub dX11_isWithin_26 (pc' := 27) rfl ?_
    refine gk_i2l dX11_isWithin_27 (pc' := 28) rfl ?_
    refine gk_cS1_3 mz_Mo_in gw_886 dX11_isWithin_28 (pc' := 31) rfl (Nat.le_of_ble_eq_true rfl) (sp_Mo_in (fun q3 q4 => ?_) (fun q3 => ?_))
    · refine ⟨_, rfl, ?_⟩
      obtain ⟨i, hi, ei⟩ := pu_of (x := x) (n := c.2.1) (by omega) (by omega) (by omega)
      obtain ⟨i', hi', ei'⟩ := pu_of (x := y) (n := c.2.2.1) (by omega) (by omega) (by omega)
      refine gk_if_eq dX11_isWithin_31 (tgt := 38) (pc' := 34) (by decide) rfl (fun c => absurd c (by decide)) (fun _ => ?_)
      refine gk_iconst (v := 1) dX11_isWithin_34 (pc' := 35) rfl (by decide) ?_
      refine gk_goto dX11_isWithin_35 (tgt := 39) (by decide) ?_
      refine gk_zret dX11_isWithin_39 rfl rfl (by first | exact ht i i' ei ei' hi hi' | exact hf (by omega))
    · refine ⟨_, rfl, ?_⟩
      refine gk_if_eq dX11_isWithin_31 (tgt := 38) (pc' := 34) (by decide) rfl (fun _ => ?_) (fun c => absurd c (by decide))
      refine gk_iconst (v := 0) dX11_isWithin_38 (pc' := 39) rfl (by decide) ?_
      refine gk_zret dX11_isWithin_39 rfl rfl (by first | exact ht i i' ei ei' hi hi' | exact hf (by omega))
  · refine ⟨_, rfl, ?_⟩
    refine gk_if_eq dX11_isWithin_14 (tgt := 38) (pc' := 17) (by decide) rfl (fun _ => ?_) (fun c => absurd c (by decide))
    refine gk_iconst (v := 0) dX11_isWithin_38 (pc' := 39) rfl (by decide) ?_
    refine gk_zret dX11_isWithin_39 rfl rfl (by first | exact ht i i' ei ei' hi hi' | exact hf (by omega))
theorem sp_Mo_folded {x e : Int32} {n : Nat} (h1 : 1 ≤ n) (h2 : n ≤ 16) (hx : -100000 ≤ x.toInt ∧ x.toInt ≤ 100000) (he : (0 ≤ x.toInt ∧ x.toInt < n) ∨ e = 0 ∨ e = 1 ∨ e = 2) (hQ : Q (some (.int (nI (fo n e x.toInt)))) h) : Gm (kx X) mt_Mo_folded d b [.int x, .int (nI n), .int e] h Q := by
  have z0 : (0 : Int32).toInt = 0 := rfl
  have z1 : (1 : Int32).toInt = 1 := rfl
  have zn : (nI n).toInt = n := nI_toInt (by omega)
  have z2 : (2 : Int32) * nI n = nI (2 * n) := pk_mul 2 n
  have tail : ∀ bn : Nat, (0 < bn ∧ bn ≤ 32) → ((e = 1 ∧ bn = 2 * n) ∨ (e = 2 ∧ bn = n)) → G (kx X) mt_Mo_folded d b 39 [some (.int x), some (.int (nI n)), some (.int e), none, none] [.int (nI bn)] h Q := by
    intro bn hb hbe
    have zb : (nI bn).toInt = bn := nI_toInt (by omega)
    have hr := pu_rem x (nI bn)
    rw [zb] at hr
    have hm := pu_tmod (a := x.toInt) (n := bn) (by omega)
    have hbd : -(bn : Int) < x.toInt.tmod bn ∧ x.toInt.tmod bn < bn := tmod_bounds (by omega)
    have g3 := Int.emod_nonneg x.toInt (show (bn : Int) ≠ 0 by omega)
    have g4 := Int.emod_lt_of_pos x.toInt (show 0 < (bn : Int) by omega)
    have fin : ∀ rr : Int32, rr.toInt = x.toInt % bn → G (kx X) mt_Mo_folded d b 59 [some (.int x), some (.int (nI n)), some (.int e), some (.int (nI bn)), some (.int (x - x / nI bn * nI bn))] [.int rr] h Q := by
      intro rr hrr
      have hfo : (fo n e x.toInt : Int) = if x.toInt % bn < n then x.toInt % bn else bn - 1 - x.toInt % bn := by
        unfold fo
        rcases hbe with ⟨rfl, rfl⟩ | ⟨rfl, rfl⟩
        · rw [if_pos rfl]
          split <;> omega
        · rw [if_neg (by decide), if_pos rfl, if_pos (by omega)]
          omega
      have hfl := fo_lt (n := n) (e := e) (z := x.toInt) h1
      refine gk_istore4 dX11_folded_59 (pc' := 61) rfl (by decide) rfl ?_
      refine gk_iload4 dX11_folded_61 (pc' := 63) rfl ?_
      refine gk_iload1 dX11_folded_63 (pc' := 64) rfl ?_
      refine gk_icmp_ge dX11_folded_64 (tgt := 72) (pc' := 67) (by decide) rfl (fun c64 => ?_) (fun c64 => ?_)
      · rw [pu_le, zn] at c64
        rw [if_neg (by omega)] at hfo
        refine gk_iload3 dX11_folded_72 (pc' := 73) rfl ?_
        refine gk_iconst (v := 1) dX11_folded_73 (pc' := 74) rfl (by decide) ?_
        refine gk_isub dX11_folded_74 (pc' := 75) rfl ?_
        refine gk_iload4 dX11_folded_75 (pc' := 77) rfl ?_
        refine gk_isub dX11_folded_77 (pc' := 78) rfl ?_
        refine gk_iret dX11_folded_78 rfl (by first | (rw [pu_nI (x := rr) (z := fo n e x.toInt) (by omega) (by omega)]; exact hQ) | (rw [pu_nI (x := nI bn - 1 - rr) (z := fo n e x.toInt) (by have q1 : (nI bn - 1).toInt = bn - 1 := (by rw [Jvm.Kit.i32_sub (by omega) (by omega)]; omega); rw [Jvm.Kit.i32_sub (by omega) (by omega)]; omega) (by omega)]; exact hQ))
      · rw [pu_le, zn] at c64
        rw [if_pos (by omega)] at hfo
        refine gk_iload4 dX11_folded_67 (pc' := 69) rfl ?_
        refine gk_goto dX11_folded_69 (tgt := 78) (by decide) ?_
        refine gk_iret dX11_folded_78 rfl (by first | (rw [pu_nI (x := rr) (z := fo n e x.toInt) (by omega) (by omega)]; exact hQ) | (rw [pu_nI (x := nI bn - 1 - rr) (z := fo n e x.toInt) (by have q1 : (nI bn - 1).toInt = bn - 1 := (by rw [Jvm.Kit.i32_sub (by omega) (by omega)]; omega); rw [Jvm.Kit.i32_sub (by omega) (by omega)]; omega) (by omega)]; exact hQ))
    refine gk_istore3 dX11_folded_39 (pc' := 40) rfl (by decide) rfl ?_
    refine gk_iload0 dX11_folded_40 (pc' := 41) rfl ?_
    refine gk_iload3 dX11_folded_41 (pc' := 42) rfl ?_
    refine gk_irem dX11_folded_42 (pc' := 43) rfl (nI_nz hb.1 (by omega)) ?_
    refine gk_istore4 dX11_folded_43 (pc' := 45) rfl (by decide) rfl ?_
    refine gk_iload4 dX11_folded_45 (pc' := 47) rfl ?_
    refine gk_if_ge dX11_folded_47 (tgt := 57) (pc' := 50) (by decide) rfl (fun c47 => ?_) (fun c47 => ?_)
    · rw [pu_le, z0, hr] at c47
      refine gk_iload4 dX11_folded_57 (pc' := 59) rfl ?_
      first | exact fin _ (by rw [hr]; rw [if_neg (by omega)] at hm; exact hm) | exact fin _ (by rw [Jvm.Kit.i32_add (by omega) (by omega), hr, zb]; rw [if_pos (by omega)] at hm; exact hm)
    · rw [pu_le, z0, hr] at c47
      refine gk_iload4 dX11_folded_50 (pc' := 52) rfl ?_
      refine gk_iload3 dX11_folded_52 (pc' := 53) rfl ?_
      refine gk_iadd dX11_folded_53 (pc' := 54) rfl ?_
      refine gk_goto dX11_folded_54 (tgt := 59) (by decide) ?_
      first | exact fin _ (by rw [hr]; rw [if_neg (by omega)] at hm; exact hm) | exact fin _ (by rw [Jvm.Kit.i32_add (by omega) (by omega), hr, zb]; rw [if_pos (by omega)] at hm; exact hm)
  refine Gm.enter (L := [some (.int x), some (.int (nI n)), some (.int e), none, none]) (by decide) (fun _ => trivial) (Nat.le_of_ble_eq_true rfl) rfl ?_
  refine gk_iload0 dX11_folded_0 (pc' := 1) rfl ?_
  refine gk_if_lt dX11_folded_1 (tgt := 11) (pc' := 4) (by decide) rfl (fun c1 => ?_) (fun c1 => ?_)
  · rw [pu_lt, z0] at c1
    refine gk_iload2 dX11_folded_11 (pc' := 12) rfl ?_
    refine gk_if_ne dX11_folded_12 (tgt := 27) (pc' := 15) (by decide) rfl (fun c12 => ?_) (fun c12 => ?_)
    · have c12 : ¬ e = 0 := c12
      refine gk_iload2 dX11_folded_27 (pc' := 28) rfl ?_
      refine gk_iconst (v := 1) dX11_folded_28 (pc' := 29) rfl (by decide) ?_
      refine gk_icmp_ne dX11_folded_29 (tgt := 38) (pc' := 32) (by decide) rfl (fun c29 => ?_) (fun c29 => ?_)
      · have c29 : ¬ e = 1 := c29
        refine gk_iload1 dX11_folded_38 (pc' := 39) rfl ?_
        first | exact tail (2 * n) (by omega) (Or.inl ⟨c29, rfl⟩) | exact tail n (by omega) (Or.inr ⟨((he.resolve_left (by omega)).resolve_left c12).resolve_left c29, rfl⟩)
      · have c29 : e = 1 := c29
        refine gk_iconst (v := 2) dX11_folded_32 (pc' := 33) rfl (by decide) ?_
        refine gk_iload1 dX11_folded_33 (pc' := 34) rfl ?_
        refine gk_imul dX11_folded_34 (pc' := 35) rfl ?_
        rw [z2]
        refine gk_goto dX11_folded_35 (tgt := 39) (by decide) ?_
        first | exact tail (2 * n) (by omega) (Or.inl ⟨c29, rfl⟩) | exact tail n (by omega) (Or.inr ⟨((he.resolve_left (by omega)).resolve_left c12).resolve_left c29, rfl⟩)
    · have c12 : e = 0 := c12
      refine gk_iload0 dX11_folded_15 (pc' := 16) rfl ?_
      refine gk_if_ge dX11_folded_16 (tgt := 23) (pc' := 19) (by decide) rfl (fun c16 => ?_) (fun c16 => ?_)
      · rw [pu_le, z0] at c16
        refine gk_iload1 dX11_folded_23 (pc' := 24) rfl ?_
        refine gk_iconst (v := 1) dX11_folded_24 (pc' := 25) rfl (by decide) ?_
        refine gk_isub dX11_folded_25 (pc' := 26) rfl ?_
        refine gk_iret dX11_folded_26 rfl (by subst c12; unfold fo at hQ; rw [if_neg (by decide), if_neg (by decide)] at hQ; first | (rw [if_pos (by omega)] at hQ; exact hQ) | (rw [if_neg (by omega), if_neg (by omega)] at hQ; rw [show nI n - 1 = nI (n - 1) from pk_sub (a := n) (b := 1) (by omega)]; exact hQ))
      · rw [pu_le, z0] at c16
        refine gk_iconst (v := 0) dX11_folded_19 (pc' := 20) rfl (by decide) ?_
        refine gk_goto dX11_folded_20 (tgt := 26) (by decide) ?_
        refine gk_iret dX11_folded_26 rfl (by subst c12; unfold fo at hQ; rw [if_neg (by decide), if_neg (by decide)] at hQ; first | (rw [if_pos (by omega)] at hQ; exact hQ) | (rw [if_neg (by omega), if_neg (by omega)] at hQ; rw [show nI n - 1 = nI (n - 1) from pk_sub (a := n) (b := 1) (by omega)]; exact hQ))
  · rw [pu_lt, z0] at c1
    refine gk_iload0 dX11_folded_4 (pc' := 5) rfl ?_
    refine gk_iload1 dX11_folded_5 (pc' := 6) rfl ?_
    refine gk_icmp_ge dX11_folded_6 (tgt := 11) (pc' := 9) (by decide) rfl (fun c6 => ?_) (fun c6 => ?_)
    · rw [pu_le, zn] at c6
      refine gk_iload2 dX11_folded_11 (pc' := 12) rfl ?_
      refine gk_if_ne dX11_folded_12 (tgt := 27) (pc' := 15) (by decide) rfl (fun c12 => ?_) (fun c12 => ?_)
      · have c12 : ¬ e = 0 := c12
        refine gk_iload2 dX11_folded_27 (pc' := 28) rfl ?_
        refine gk_iconst (v := 1) dX11_folded_28 (pc' := 29) rfl (by decide) ?_
        refine gk_icmp_ne dX11_folded_29 (tgt := 38) (pc' := 32) (by decide) rfl (fun c29 => ?_) (fun c29 => ?_)
        · have c29 : ¬ e = 1 := c29
          refine gk_iload1 dX11_folded_38 (pc' := 39) rfl ?_
          first | exact tail (2 * n) (by omega) (Or.inl ⟨c29, rfl⟩) | exact tail n (by omega) (Or.inr ⟨((he.resolve_left (by omega)).resolve_left c12).resolve_left c29, rfl⟩)
        · have c29 : e = 1 := c29
          refine gk_iconst (v := 2) dX11_folded_32 (pc' := 33) rfl (by decide) ?_
          refine gk_iload1 dX11_folded_33 (pc' := 34) rfl ?_
          refine gk_imul dX11_folded_34 (pc' := 35) rfl ?_
          rw [z2]
          refine gk_goto dX11_folded_35 (tgt := 39) (by decide) ?_
          first | exact tail (2 * n) (by omega) (Or.inl ⟨c29, rfl⟩) | exact tail n (by omega) (Or.inr ⟨((he.resolve_left (by omega)).resolve_left c12).resolve_left c29, rfl⟩)
      · have c12 : e = 0 := c12
        refine gk_iload0 dX11_folded_15 (pc' := 16) rfl ?_
        refine gk_if_ge dX11_folded_16 (tgt := 23) (pc' := 19) (by decide) rfl (fun c16 => ?_) (fun c16 => ?_)
        · rw [pu_le, z0] at c16
          refine gk_iload1 dX11_folded_23 (pc' := 24) rfl ?_
          refine gk_iconst (v := 1) dX11_folded_24 (pc' := 25) rfl (by decide) ?_
          refine gk_isub dX11_folded_25 (pc' := 26) rfl ?_
          refine gk_iret dX11_folded_26 rfl (by subst c12; unfold fo at hQ; rw [if_neg (by decide), if_neg (by decide)] at hQ; first | (rw [if_pos (by omega)] at hQ; exact hQ) | (rw [if_neg (by omega), if_neg (by omega)] at hQ; rw [show nI n - 1 = nI (n - 1) from pk_sub (a := n) (b := 1) (by omega)]; exact hQ))
        · rw [pu_le, z0] at c16
          refine gk_iconst (v := 0) dX11_folded_19 (pc' := 20) rfl (by decide) ?_
          refine gk_goto dX11_folded_20 (tgt := 26) (by decide) ?_
          refine gk_iret dX11_folded_26 rfl (by subst c12; unfold fo at hQ; rw [if_neg (by decide), if_neg (by decide)] at hQ; first | (rw [if_pos (by omega)] at hQ; exact hQ) | (rw [if_neg (by omega), if_neg (by omega)] at hQ; rw [show nI n - 1 = nI (n - 1) from pk_sub (a := n) (b := 1) (by omega)]; exact hQ))
    · rw [pu_le, zn] at c6
      refine gk_iload0 dX11_folded_9 (pc' := 10) rfl ?_
      refine gk_iret dX11_folded_10 rfl (by rw [fo_in (by omega) (by omega), ← pu_nI (x := x) (z := x.toInt.toNat) (by omega) (by omega)] at hQ; exact hQ)
theorem sp_Mo_seenAt {w t : Nat} {x y e : Int32} (hZ : Z 4 = nI w ∧ Z 5 = nI t) (h1 : 1 ≤ w) (h2 : 1 ≤ t) (hw : w ≤ 16) (htt : t ≤ 16) (hx : -100000 ≤ x.toInt ∧ x.toInt ≤ 100000) (hy : -100000 ≤ y.toInt ∧ y.toInt ≤ 100000) (he : 0 ≤ e.toInt ∧ e.toInt ≤ 3) (hQ : Q (some (.int (sn w t (A 9) x.toInt y.toInt e))) (mkH X h0 m A Z)) : Gm (kx X) mt_Mo_seenAt (d + 1) b [.ref m, .int x, .int y, .int e] (mkH X h0 m A Z) Q := by
  have z0 : (0 : Int64).toInt = 0 := rfl
  have z1 : (1 : Int32).toInt = 1 := rfl
  have zx := i2l_i x
  have zy := i2l_i y
  have ar := area_le hw htt
  have zw : (nI w - 1).toInt64.toInt = (w : Int) - 1 := by rw [i2l_i, Jvm.Kit.i32_sub (by rw [nI_toInt (by omega)]; omega) (by rw [nI_toInt (by omega)]; omega), nI_toInt (by omega), z1]
  have zt : (nI t - 1).toInt64.toInt = (t : Int) - 1 := by rw [i2l_i, Jvm.Kit.i32_sub (by rw [nI_toInt (by omega)]; omega) (by rw [nI_toInt (by omega)]; omega), nI_toInt (by omega), z1]
  have o1 : fo t e y.toInt * w + fo w e x.toInt < w * t := place_lt (fo_lt h1) (fo_lt h2)
  have e3 : ¬ e = 3 → e = 0 ∨ e = 1 ∨ e = 2 := fun n => by
    rcases (show e.toInt = 0 ∨ e.toInt = 1 ∨ e.toInt = 2 ∨ e.toInt = 3 by omega) with q | q | q | q
    · exact Or.inl (pu_inj (q.trans rfl))
    · exact Or.inr (Or.inl (pu_inj (q.trans rfl)))
    · exact Or.inr (Or.inr (pu_inj (q.trans rfl)))
    · exact absurd (pu_inj (q.trans rfl)) n
  have go : ((0 ≤ x.toInt ∧ x.toInt < w ∧ 0 ≤ y.toInt ∧ y.toInt < t) ∨ ¬ e = 3) → G (kx X) mt_Mo_seenAt (d + 1) b 39 [some (.ref m), some (.int x), some (.int y), some (.int e)] [] (mkH X h0 m A Z) Q := by
    intro hc
    have hv : sn w t (A 9) x.toInt y.toInt e = A 9 (fo t e y.toInt * w + fo w e x.toInt) := by
      unfold sn
      by_cases q : 0 ≤ x.toInt ∧ x.toInt < w ∧ 0 ≤ y.toInt ∧ y.toInt < t
      · rw [if_pos q, fo_in q.1 q.2.1, fo_in q.2.2.1 q.2.2.2]
      · rw [if_neg q, if_neg (hc.resolve_left q)]
    rw [hv] at hQ
    refine gk_aload0 dX11_seenAt_39 (pc' := 40) rfl ?_
    refine gk_getf (fs := [_, _, _, _, _, _, _, _, _, _, _, _, _, _, _, _, _, _, _, _, _, _, _, _, _, _]) gF_Mo_35 dX11_seenAt_40 (pc' := 43) rfl (by exact (mkJ)) rfl ?_
    refine gk_iload2 dX11_seenAt_43 (pc' := 44) rfl ?_
    refine gk_aload0 dX11_seenAt_44 (pc' := 45) rfl ?_
    refine gk_getf (fs := [_, _, _, _, _, _, _, _, _, _, _, _, _, _, _, _, _, _, _, _, _, _, _, _, _, _]) gF_Mo_141 dX11_seenAt_45 (pc' := 48) rfl (by exact (mkJ)) rfl ?_
    rw [hZ.2]
    refine gk_iload3 dX11_seenAt_48 (pc' := 49) rfl ?_
    refine gk_cS1_3 mz_Mo_folded gw_960 dX11_seenAt_49 (pc' := 52) rfl (Nat.le_of_ble_eq_true rfl) (sp_Mo_folded h2 htt hy (hc.elim (fun q => Or.inl ⟨q.2.2.1, q.2.2.2⟩) (fun q => Or.inr (e3 q))) ?_)
    refine ⟨_, rfl, ?_⟩
    refine gk_aload0 dX11_seenAt_52 (pc' := 53) rfl ?_
    refine gk_getf (fs := [_, _, _, _, _, _, _, _, _, _, _, _, _, _, _, _, _, _, _, _, _, _, _, _, _, _]) gF_Mo_138 dX11_seenAt_53 (pc' := 56) rfl (by exact (mkJ)) rfl ?_
    rw [hZ.1]
    refine gk_imulN dX11_seenAt_56 (pc' := 57) rfl ?_
    refine gk_iload1 dX11_seenAt_57 (pc' := 58) rfl ?_
    refine gk_aload0 dX11_seenAt_58 (pc' := 59) rfl ?_
    refine gk_getf (fs := [_, _, _, _, _, _, _, _, _, _, _, _, _, _, _, _, _, _, _, _, _, _, _, _, _, _]) gF_Mo_138 dX11_seenAt_59 (pc' := 62) rfl (by exact (mkJ)) rfl ?_
    rw [hZ.1]
    refine gk_iload3 dX11_seenAt_62 (pc' := 63) rfl ?_
    refine gk_cS1_3 mz_Mo_folded gw_960 dX11_seenAt_63 (pc' := 66) rfl (Nat.le_of_ble_eq_true rfl) (sp_Mo_folded h1 hw hx (hc.elim (fun q => Or.inl ⟨q.1, q.2.1⟩) (fun q => Or.inr (e3 q))) ?_)
    refine ⟨_, rfl, ?_⟩
    refine gk_iaddN dX11_seenAt_66 (pc' := 67) rfl ?_
    refine gk_iald (t0 := 0) rfl dX11_seenAt_67 (pc' := 68) rfl (by exact (mkA9)) (vp_in_nI (by omega) (by decide)) ?_
    rw [nI_clamp (by omega)]
    refine gk_iret dX11_seenAt_68 rfl hQ
  refine Gm.enter (L := [some (.ref m), some (.int x), some (.int y), some (.int e)]) (by decide) (fun _ => trivial) (Nat.le_of_ble_eq_true rfl) rfl ?_
  refine gk_iload3 dX11_seenAt_0 (pc' := 1) rfl ?_
  refine gk_iconst (v := 3) dX11_seenAt_1 (pc' := 2) rfl (by decide) ?_
  refine gk_icmp_ne dX11_seenAt_2 (tgt := 39) (pc' := 5) (by decide) rfl (fun c2 => ?_) (fun c2 => ?_)
  · have c2 : ¬ e = 3 := c2
    first | exact go (Or.inr c2) | exact go (Or.inl (by omega))
  · have c2 : e = 3 := c2
    refine gk_iload1 dX11_seenAt_5 (pc' := 6) rfl ?_
    refine gk_i2l dX11_seenAt_6 (pc' := 7) rfl ?_
    refine gk_lconst (v := 0) dX11_seenAt_7 (pc' := 8) rfl (by decide) ?_
    refine gk_aload0 dX11_seenAt_8 (pc' := 9) rfl ?_
    refine gk_getf (fs := [_, _, _, _, _, _, _, _, _, _, _, _, _, _, _, _, _, _, _, _, _, _, _, _, _, _]) gF_Mo_138 dX11_seenAt_9 (pc' := 12) rfl (by exact (mkJ)) rfl ?_
    rw [hZ.1]
    refine gk_iconst (v := 1) dX11_seenAt_12 (pc' := 13) rfl (by decide) ?_
    refine gk_isub dX11_seenAt_13 (pc' := 14) rfl ?_
    refine gk_i2l dX11_seenAt_14 (pc' := 15) rfl ?_
    refine gk_cS1_3 mz_Mo_in gw_886 dX11_seenAt_15 (pc' := 18) rfl (Nat.le_of_ble_eq_true rfl) (sp_Mo_in (fun q1 q2 => ?_) (fun q1 => ?_))
    · refine ⟨_, rfl, ?_⟩
      refine gk_if_eq dX11_seenAt_18 (tgt := 37) (pc' := 21) (by decide) rfl (fun c => absurd c (by decide)) (fun _ => ?_)
      refine gk_iload2 dX11_seenAt_21 (pc' := 22) rfl ?_
      refine gk_i2l dX11_seenAt_22 (pc' := 23) rfl ?_
      refine gk_lconst (v := 0) dX11_seenAt_23 (pc' := 24) rfl (by decide) ?_
      refine gk_aload0 dX11_seenAt_24 (pc' := 25) rfl ?_
      refine gk_getf (fs := [_, _, _, _, _, _, _, _, _, _, _, _, _, _, _, _, _, _, _, _, _, _, _, _, _, _]) gF_Mo_141 dX11_seenAt_25 (pc' := 28) rfl (by exact (mkJ)) rfl ?_
      rw [hZ.2]
      refine gk_iconst (v := 1) dX11_seenAt_28 (pc' := 29) rfl (by decide) ?_
      refine gk_isub dX11_seenAt_29 (pc' := 30) rfl ?_
      refine gk_i2l dX11_seenAt_30 (pc' := 31) rfl ?_
      refine gk_cS1_3 mz_Mo_in gw_886 dX11_seenAt_31 (pc' := 34) rfl (Nat.le_of_ble_eq_true rfl) (sp_Mo_in (fun q3 q4 => ?_) (fun q3 => ?_))
      · refine ⟨_, rfl, ?_⟩
        refine gk_if_ne dX11_seenAt_34 (tgt := 39) (pc' := 37) (by decide) rfl (fun _ => ?_) (fun c => absurd c (by decide))
        first | exact go (Or.inr c2) | exact go (Or.inl (by omega))
      · refine ⟨_, rfl, ?_⟩
        refine gk_if_ne dX11_seenAt_34 (tgt := 39) (pc' := 37) (by decide) rfl (fun c => absurd c (by decide)) (fun _ => ?_)
        refine gk_iconst (v := 0) dX11_seenAt_37 (pc' := 38) rfl (by decide) ?_
        refine gk_iret dX11_seenAt_38 rfl (by unfold sn at hQ; rw [if_neg (by omega), if_pos c2] at hQ; exact hQ)
    · refine ⟨_, rfl, ?_⟩
      refine gk_if_eq dX11_seenAt_18 (tgt := 37) (pc' := 21) (by decide) rfl (fun _ => ?_) (fun c => absurd c (by decide))
      refine gk_iconst (v := 0) dX11_seenAt_37 (pc' := 38) rfl (by decide) ?_
      refine gk_iret dX11_seenAt_38 rfl (by unfold sn at hQ; rw [if_neg (by omega), if_pos c2] at hQ; exact hQ)
/-- all 256 pixels are looked at -/
def lkA (A : MoA) (j : Nat) : MoA := uA A 9 (fun i => if i < 256 then A 1 (259 * j + 3 + i) else A 9 i)
def lkZ (Z : MoZ) (w t : Nat) : MoZ := upd (upd Z 4 (nI w)) 5 (nI t)
theorem lp_Mo_look {j : Nat} (hj : j < 8) (hQ : Q none (mkH X h0 m (lkA A j) Z)) : ∀ n i, i + n = 256 → G (kx X) mt_Mo_look (d + 1) b 20 [some (.ref m), some (.int (nI j)), some (.int (nI i))] [] (mkH X h0 m (uA A 9 (fun q => if q < i then A 1 (259 * j + 3 + q) else A 9 q)) Z) Q := by
  intro n
  induction n with
  | zero =>
    intro i hi
    have e : i = 256 := by omega
    subst e
    refine gk_iload2 dX11_look_20 (pc' := 21) rfl ?_
    refine gk_sipush (v := 256) dX11_look_21 (pc' := 24) rfl (by decide) ?_
    refine gk_icmp_ge dX11_look_24 (tgt := 53) (pc' := 27) (by decide) rfl (fun c24 => ?_) (fun c24 => absurd (by decide) c24)
    refine gk_vret dX11_look_53 rfl hQ
  | succ n ih =>
    intro i hi
    refine gk_iload2 dX11_look_20 (pc' := 21) rfl ?_
    refine gk_sipush (v := 256) dX11_look_21 (pc' := 24) rfl (by decide) ?_
    refine gk_icmp_ge dX11_look_24 (tgt := 53) (pc' := 27) (by decide) rfl (fun c24 => absurd c24 (nI_ge (b := 256) (by omega) (by omega))) (fun c24 => ?_)
    refine gk_aload0 dX11_look_27 (pc' := 28) rfl ?_
    refine gk_getf (fs := [_, _, _, _, _, _, _, _, _, _, _, _, _, _, _, _, _, _, _, _, _, _, _, _, _, _]) gF_Mo_35 dX11_look_28 (pc' := 31) rfl (by exact (mkJ)) rfl ?_
    refine gk_iload2 dX11_look_31 (pc' := 32) rfl ?_
    refine gk_aload0 dX11_look_32 (pc' := 33) rfl ?_
    refine gk_getf (fs := [_, _, _, _, _, _, _, _, _, _, _, _, _, _, _, _, _, _, _, _, _, _, _, _, _, _]) gF_Mo_7 dX11_look_33 (pc' := 36) rfl (by exact (mkJ)) rfl ?_
    refine gk_sipush (v := nI 259) dX11_look_36 (pc' := 39) rfl (by decide) ?_
    refine gk_iload1 dX11_look_39 (pc' := 40) rfl ?_
    refine gk_imulN dX11_look_40 (pc' := 41) rfl ?_
    refine gk_iconst (v := nI 3) dX11_look_41 (pc' := 42) rfl (by decide) ?_
    refine gk_iaddN dX11_look_42 (pc' := 43) rfl ?_
    refine gk_iload2 dX11_look_43 (pc' := 44) rfl ?_
    refine gk_iaddN dX11_look_44 (pc' := 45) rfl ?_
    refine gk_iald (t0 := 0) rfl dX11_look_45 (pc' := 46) rfl (by exact (mkA1)) (vp_in_nI (by omega) (by decide)) ?_
    rw [nI_clamp (by omega)]
    refine gk_iast (t0 := 0) rfl dX11_look_46 (pc' := 47) rfl (by exact (mkA9)) (vp_in_nI (by omega) (by decide)) ?_
    rw [nI_clamp (by omega), mkS9]
    refine gk_iinc2 (v := 1) dX11_look_47 (pc' := 50) rfl (by decide) (by decide) rfl ?_
    refine gk_goto dX11_look_50 (tgt := 20) (by decide) ?_
    rw [← nI_succ, uA_u]
    have q := ih (i + 1) (by omega)
    rw [show upd (uA A 9 (fun q => if q < i then A 1 (259 * j + 3 + q) else A 9 q) 9) i (uA A 9 (fun q => if q < i then A 1 (259 * j + 3 + q) else A 9 q) 1 (259 * j + 3 + i)) = (fun q => if q < i + 1 then A 1 (259 * j + 3 + q) else A 9 q) from funext fun q => by
      rw [uA_s, uA_n (by decide)]
      by_cases e : q = i
      · subst e; rw [pk_us, if_pos (by omega)]
      · rw [pk_un e]
        by_cases z : q < i
        · rw [if_pos z, if_pos (by omega)]
        · rw [if_neg z, if_neg (by omega)]]
    exact q
theorem sp_Mo_look {j : Nat} {c : Pc} (hp : pRow (A 1) (259 * j) c) (hj : j < 8) (hQ : Q none (mkH X h0 m (lkA A j) (lkZ Z c.2.1 c.2.2.1))) : Gm (kx X) mt_Mo_look (d + 1) b [.ref m, .int (nI j)] (mkH X h0 m A Z) Q := by
  refine Gm.enter (L := [some (.ref m), some (.int (nI j)), none]) (by decide) (fun _ => trivial) (Nat.le_of_ble_eq_true rfl) rfl ?_
  refine gk_aload0 dX11_look_0 (pc' := 1) rfl ?_
  refine gk_aload0 dX11_look_1 (pc' := 2) rfl ?_
  refine gk_iload1 dX11_look_2 (pc' := 3) rfl ?_
  refine gk_cV1_1 mv_Mo_wide gw_913 dX11_look_3 (pc' := 6) rfl (Nat.le_of_ble_eq_true rfl) (by exact (mkJ)) (sp_Mo_wide hp hj ?_)
  refine ⟨_, rfl, ?_⟩
  refine gk_putf (fs := [_, _, _, _, _, _, _, _, _, _, _, _, _, _, _, _, _, _, _, _, _, _, _, _, _, _]) gP_Mo_138 dX11_look_6 (pc' := 9) rfl (by exact (mkJ)) rfl rfl (Nat.le_of_ble_eq_true rfl) ?_
  rw [mkP4]
  refine gk_aload0 dX11_look_9 (pc' := 10) rfl ?_
  refine gk_aload0 dX11_look_10 (pc' := 11) rfl ?_
  refine gk_iload1 dX11_look_11 (pc' := 12) rfl ?_
  refine gk_cV1_1 mv_Mo_tall gw_917 dX11_look_12 (pc' := 15) rfl (Nat.le_of_ble_eq_true rfl) (by exact (mkJ)) (sp_Mo_tall hp hj ?_)
  refine ⟨_, rfl, ?_⟩
  refine gk_putf (fs := [_, _, _, _, _, _, _, _, _, _, _, _, _, _, _, _, _, _, _, _, _, _, _, _, _, _]) gP_Mo_141 dX11_look_15 (pc' := 18) rfl (by exact (mkJ)) rfl rfl (Nat.le_of_ble_eq_true rfl) ?_
  rw [mkP5]
  refine gk_iconst (v := 0) dX11_look_18 (pc' := 19) rfl (by decide) ?_
  refine gk_istore2 dX11_look_19 (pc' := 20) rfl (by decide) rfl ?_
  have q := lp_Mo_look (X := X) (h0 := h0) (m := m) (A := A) (Z := lkZ Z c.2.1 c.2.2.1) (d := d) (b := b) (Q := Q) hj hQ 256 0 (by omega)
  rw [show (fun q => if q < 0 then A 1 (259 * j + 3 + q) else A 9 q) = A 9 from funext fun q => if_neg (by omega), uA_i] at q
  exact q
end MoC
