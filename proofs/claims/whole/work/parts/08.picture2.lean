/-! ===== Picture: what it keeps, what is seen, its loops ===== -/
section PicB
variable {X : gX} {d : Nat} {b : Nat × Nat} {h : gk_H} {Q : Option Value → gk_H → Prop} {a : Nat} {k : Int32} {w t : Nat} {p : Nat → Int32}
theorem sp_Picture_holds {v : Int32} (hp : isPic X h a k w t p) (ht : (loK k).toInt ≤ v.toInt → v.toInt ≤ (hiK k).toInt → Q (some (.int 1)) h) (hf : ¬ ((loK k).toInt ≤ v.toInt ∧ v.toInt ≤ (hiK k).toInt) → Q (some (.int 0)) h) : Gm (kx X) mt_Picture_holds (d + 1) b [.ref a, .int v] h Q := by
  have e1 := hp.o
  refine Gm.enter (L := [some (.ref a), some (.int v)]) (by decide) (fun _ => trivial) (Nat.le_of_ble_eq_true rfl) rfl ?_
  refine gk_iload1 dX6_holds_0 (pc' := 1) rfl ?_
  refine gk_aload0 dX6_holds_1 (pc' := 2) rfl ?_
  refine gk_cV1_0 mv_Picture_least gw_289 dX6_holds_2 (pc' := 5) rfl (Nat.le_of_ble_eq_true rfl) (by assumption) (sp_Picture_least hp ?_)
  refine ⟨_, rfl, ?_⟩
  refine gk_icmp_lt dX6_holds_5 (tgt := 20) (pc' := 8) (by decide) rfl (fun c5 => ?_) (fun c5 => ?_)
  · rw [pu_lt] at c5
    refine gk_iconst (v := 0) dX6_holds_20 (pc' := 21) rfl (by decide) ?_
    refine gk_zret dX6_holds_21 rfl rfl (by first | exact ht (by omega) (by omega) | exact hf (by omega))
  · rw [pu_lt] at c5
    refine gk_iload1 dX6_holds_8 (pc' := 9) rfl ?_
    refine gk_aload0 dX6_holds_9 (pc' := 10) rfl ?_
    refine gk_cV1_0 mv_Picture_greatest gw_293 dX6_holds_10 (pc' := 13) rfl (Nat.le_of_ble_eq_true rfl) (by assumption) (sp_Picture_greatest hp ?_)
    refine ⟨_, rfl, ?_⟩
    refine gk_icmp_gt dX6_holds_13 (tgt := 20) (pc' := 16) (by decide) rfl (fun c13 => ?_) (fun c13 => ?_)
    · rw [pu_lt] at c13
      refine gk_iconst (v := 0) dX6_holds_20 (pc' := 21) rfl (by decide) ?_
      refine gk_zret dX6_holds_21 rfl rfl (by first | exact ht (by omega) (by omega) | exact hf (by omega))
    · rw [pu_lt] at c13
      refine gk_iconst (v := 1) dX6_holds_16 (pc' := 17) rfl (by decide) ?_
      refine gk_goto dX6_holds_17 (tgt := 21) (by decide) ?_
      refine gk_zret dX6_holds_21 rfl rfl (by first | exact ht (by omega) (by omega) | exact hf (by omega))
theorem sp_Picture_kept {v : Int64} (hp : isPic X h a k w t p) (hQ : Q (some (.int (kpt k v.toInt))) h) : Gm (kx X) mt_Picture_kept (d + 1) b [.ref a, .long v] h Q := by
  have e1 := hp.o
  have h1 := loK_rng k
  have h2 := hiK_rng k
  refine Gm.enter (L := [some (.ref a), some (.long v), none]) (by decide) (fun _ => trivial) (Nat.le_of_ble_eq_true rfl) rfl ?_
  refine gk_aload0 dX6_kept_0 (pc' := 1) rfl ?_
  refine gk_cV1_0 mv_Picture_least gw_289 dX6_kept_1 (pc' := 4) rfl (Nat.le_of_ble_eq_true rfl) (by assumption) (sp_Picture_least hp ?_)
  refine ⟨_, rfl, ?_⟩
  refine gk_i2l dX6_kept_4 (pc' := 5) rfl ?_
  refine gk_aload0 dX6_kept_5 (pc' := 6) rfl ?_
  refine gk_cV1_0 mv_Picture_greatest gw_293 dX6_kept_6 (pc' := 9) rfl (Nat.le_of_ble_eq_true rfl) (by assumption) (sp_Picture_greatest hp ?_)
  refine ⟨_, rfl, ?_⟩
  refine gk_i2l dX6_kept_9 (pc' := 10) rfl ?_
  refine gk_lload1 dX6_kept_10 (pc' := 11) rfl ?_
  refine gk_cS1_2 mz_Math_minL gw_380 dX6_kept_11 (pc' := 14) rfl (Nat.le_of_ble_eq_true rfl) (sp_Math_minL (fun r hr => ?_))
  refine ⟨_, rfl, ?_⟩
  refine gk_cS1_2 mz_Math_maxL gw_383 dX6_kept_14 (pc' := 17) rfl (Nat.le_of_ble_eq_true rfl) (sp_Math_maxL (fun s hs => ?_))
  refine ⟨_, rfl, ?_⟩
  refine gk_l2i dX6_kept_17 (pc' := 18) rfl ?_
  refine gk_iret dX6_kept_18 rfl (by rw [Jvm.Kit.i64_of_i32] at hr hs; rw [kpt_of (r := s.toInt32) (k := k) (z := v.toInt) (by rw [Jvm.Kit.i32_of_i64 (by omega) (by omega)]; omega)]; exact hQ)
theorem foClamp {x : Int32} {n : Nat} (h1 : 1 ≤ n) (h2 : n ≤ 16) (hQ : Q (some (.int (nI (if x.toInt < 0 then 0 else if x.toInt < n then x.toInt.toNat else n - 1)))) h) : Q (some (.int (if 0 < (if nI n - 1 < x then nI n - 1 else x) then (if nI n - 1 < x then nI n - 1 else x) else 0))) h := by
  have e : nI n - 1 = nI (n - 1) := by
    obtain ⟨m, rfl⟩ : ∃ m, n = m + 1 := ⟨n - 1, by omega⟩
    rw [nI_pred]
    rfl
  have z : (nI (n - 1)).toInt = (n - 1 : Nat) := nI_toInt (by omega)
  have z0 : (0 : Int32).toInt = 0 := rfl
  have q : (if 0 < (if nI n - 1 < x then nI n - 1 else x) then (if nI n - 1 < x then nI n - 1 else x) else 0) = nI (if x.toInt < 0 then 0 else if x.toInt < n then x.toInt.toNat else n - 1) := by
    rw [e]
    apply pu_inj
    have r : (if x.toInt < 0 then 0 else if x.toInt < n then x.toInt.toNat else n - 1) < 2 ^ 31 := by
      split
      · omega
      · split <;> omega
    rw [pu_max, pu_min, z, z0, nI_toInt r]
    split
    · omega
    · split <;> omega
  rw [q]
  exact hQ
theorem sp_Picture_inside {x e : Int32} {n : Nat} (h1 : 1 ≤ n) (h2 : n ≤ 16) (hx : -100000 ≤ x.toInt ∧ x.toInt ≤ 100000) (hQ : Q (some (.int (nI (fo n e x.toInt)))) h) : Gm (kx X) mt_Picture_inside (d + 1) b [.int x, .int (nI n), .int e] h Q := by
  have z0 : (0 : Int32).toInt = 0 := rfl
  have zn : (nI n).toInt = n := nI_toInt (by omega)
  have z2 : (2 : Int32) * nI n = nI (2 * n) := pk_mul 2 n
  have zz : (nI (2 * n)).toInt = (2 * n : Nat) := nI_toInt (by omega)
  have g3 := Int.emod_nonneg x.toInt (show (n : Int) ≠ 0 by omega)
  have g4 := Int.emod_lt_of_pos x.toInt (show 0 < (n : Int) by omega)
  refine Gm.enter (L := [some (.int x), some (.int (nI n)), some (.int e), none]) (by decide) (fun _ => trivial) (Nat.le_of_ble_eq_true rfl) rfl ?_
  refine gk_iload1 dX6_inside_0 (pc' := 1) rfl ?_
  refine gk_iconst (v := 1) dX6_inside_1 (pc' := 2) rfl (by decide) ?_
  refine gk_icmp_ge dX6_inside_2 (tgt := 7) (pc' := 5) (by decide) rfl (fun c2 => ?_) (fun c2 => absurd (nI_le (a := 1) h1 (by omega)) c2)
  refine gk_iload2 dX6_inside_7 (pc' := 8) rfl ?_
  refine gk_iconst (v := 1) dX6_inside_8 (pc' := 9) rfl (by decide) ?_
  refine gk_icmp_ne dX6_inside_9 (tgt := 37) (pc' := 12) (by decide) rfl (fun c9 => ?_) (fun c9 => ?_)
  · unfold fo at hQ
    rw [if_neg c9] at hQ
    refine gk_iload2 dX6_inside_37 (pc' := 38) rfl ?_
    refine gk_iconst (v := 2) dX6_inside_38 (pc' := 39) rfl (by decide) ?_
    refine gk_icmp_ne dX6_inside_39 (tgt := 50) (pc' := 42) (by decide) rfl (fun c39 => ?_) (fun c39 => ?_)
    · rw [if_neg c39] at hQ
      refine gk_iconst (v := 0) dX6_inside_50 (pc' := 51) rfl (by decide) ?_
      refine gk_iload0 dX6_inside_51 (pc' := 52) rfl ?_
      refine gk_iload1 dX6_inside_52 (pc' := 53) rfl ?_
      refine gk_iconst (v := 1) dX6_inside_53 (pc' := 54) rfl (by decide) ?_
      refine gk_isub dX6_inside_54 (pc' := 55) rfl ?_
      refine gk_cS1_2 mz_Math_min gw_348 dX6_inside_55 (pc' := 58) rfl (Nat.le_of_ble_eq_true rfl) (sp_Math_min ?_)
      refine ⟨_, rfl, ?_⟩
      refine gk_cS1_2 mz_Math_max gw_351 dX6_inside_58 (pc' := 61) rfl (Nat.le_of_ble_eq_true rfl) (sp_Math_max ?_)
      refine ⟨_, rfl, ?_⟩
      refine gk_iret dX6_inside_61 rfl (by first | (rw [pu_nI (x := r) (z := (x.toInt % n).toNat) (by omega) (by omega)]; exact hQ) | exact foClamp h1 h2 hQ)
    · rw [if_pos c39] at hQ
      refine gk_iload0 dX6_inside_42 (pc' := 43) rfl ?_
      refine gk_iload1 dX6_inside_43 (pc' := 44) rfl ?_
      refine gk_cS1_2 mz_Math_floorMod gw_347 dX6_inside_44 (pc' := 47) rfl (Nat.le_of_ble_eq_true rfl) (sp_Math_floorMod (by omega) (by omega) (fun r hr => ?_))
      refine ⟨_, rfl, ?_⟩
      rw [zn] at hr
      refine gk_goto dX6_inside_47 (tgt := 61) (by decide) ?_
      refine gk_iret dX6_inside_61 rfl (by first | (rw [pu_nI (x := r) (z := (x.toInt % n).toNat) (by omega) (by omega)]; exact hQ) | exact foClamp h1 h2 hQ)
  · unfold fo at hQ
    rw [if_pos c9] at hQ
    refine gk_iload0 dX6_inside_12 (pc' := 13) rfl ?_
    refine gk_iconst (v := 2) dX6_inside_13 (pc' := 14) rfl (by decide) ?_
    refine gk_iload1 dX6_inside_14 (pc' := 15) rfl ?_
    refine gk_imul dX6_inside_15 (pc' := 16) rfl ?_
    rw [z2]
    refine gk_cS1_2 mz_Math_floorMod gw_347 dX6_inside_16 (pc' := 19) rfl (Nat.le_of_ble_eq_true rfl) (sp_Math_floorMod (by omega) (by omega) (fun r hr => ?_))
    refine ⟨_, rfl, ?_⟩
    rw [zz] at hr
    have g1 := Int.emod_nonneg x.toInt (show ((2 * n : Nat) : Int) ≠ 0 by omega)
    have g2 := Int.emod_lt_of_pos x.toInt (show 0 < ((2 * n : Nat) : Int) by omega)
    refine gk_istore3 dX6_inside_19 (pc' := 20) rfl (by decide) rfl ?_
    refine gk_iload3 dX6_inside_20 (pc' := 21) rfl ?_
    refine gk_iload1 dX6_inside_21 (pc' := 22) rfl ?_
    refine gk_icmp_ge dX6_inside_22 (tgt := 29) (pc' := 25) (by decide) rfl (fun c22 => ?_) (fun c22 => ?_)
    · rw [pu_le, zn] at c22
      rw [if_neg (by omega)] at hQ
      refine gk_iconst (v := 2) dX6_inside_29 (pc' := 30) rfl (by decide) ?_
      refine gk_iload1 dX6_inside_30 (pc' := 31) rfl ?_
      refine gk_imul dX6_inside_31 (pc' := 32) rfl ?_
      refine gk_iconst (v := 1) dX6_inside_32 (pc' := 33) rfl (by decide) ?_
      refine gk_isub dX6_inside_33 (pc' := 34) rfl ?_
      refine gk_iload3 dX6_inside_34 (pc' := 35) rfl ?_
      refine gk_isub dX6_inside_35 (pc' := 36) rfl ?_
      refine gk_iret dX6_inside_36 rfl (by first | (rw [pu_nI (x := r) (z := (x.toInt % (2 * n : Nat)).toNat) (by omega) (by omega)]; exact hQ) | (rw [z2, pu_nI (x := nI (2 * n) - 1 - r) (z := (2 * n - 1 - x.toInt % (2 * n : Nat)).toNat) (by have z1 : (1 : Int32).toInt = 1 := rfl; have q1 : (nI (2 * n) - 1).toInt = 2 * n - 1 := (by rw [Jvm.Kit.i32_sub (by omega) (by omega)]; omega); rw [Jvm.Kit.i32_sub (by omega) (by omega)]; omega) (by omega)]; exact hQ))
    · rw [pu_le, zn] at c22
      rw [if_pos (by omega)] at hQ
      refine gk_iload3 dX6_inside_25 (pc' := 26) rfl ?_
      refine gk_goto dX6_inside_26 (tgt := 36) (by decide) ?_
      refine gk_iret dX6_inside_36 rfl (by first | (rw [pu_nI (x := r) (z := (x.toInt % (2 * n : Nat)).toNat) (by omega) (by omega)]; exact hQ) | (rw [z2, pu_nI (x := nI (2 * n) - 1 - r) (z := (2 * n - 1 - x.toInt % (2 * n : Nat)).toNat) (by have z1 : (1 : Int32).toInt = 1 := rfl; have q1 : (nI (2 * n) - 1).toInt = 2 * n - 1 := (by rw [Jvm.Kit.i32_sub (by omega) (by omega)]; omega); rw [Jvm.Kit.i32_sub (by omega) (by omega)]; omega) (by omega)]; exact hQ))
theorem sp_Picture_seen {x y e : Int32} (hp : isPic X h a k w t p) (h1 : 1 ≤ w) (h2 : 1 ≤ t) (hx : -100000 ≤ x.toInt ∧ x.toInt ≤ 100000) (hy : -100000 ≤ y.toInt ∧ y.toInt ≤ 100000) (hQ : Q (some (.int (sn w t p x.toInt y.toInt e))) h) : Gm (kx X) mt_Picture_seen (d + 2) b [.ref a, .int x, .int y, .int e] h Q := by
  have e1 := hp.o
  have ha := hp.area
  have hw := hp.1
  have hh := hp.2.1
  have o1 : fo t e y.toInt * w + fo w e x.toInt < w * t := place_lt (fo_lt h1) (fo_lt h2)
  refine Gm.enter (L := [some (.ref a), some (.int x), some (.int y), some (.int e)]) (by decide) (fun _ => trivial) (Nat.le_of_ble_eq_true rfl) rfl ?_
  refine gk_aload0 dX6_seen_0 (pc' := 1) rfl ?_
  refine gk_iload1 dX6_seen_1 (pc' := 2) rfl ?_
  refine gk_iload2 dX6_seen_2 (pc' := 3) rfl ?_
  refine gk_cV1_2 mv_Picture_has gw_341 dX6_seen_3 (pc' := 6) rfl (Nat.le_of_ble_eq_true rfl) (by assumption) (sp_Picture_has hp (fun i j ei ej hi hj => ?_) (fun c3 => ?_))
  · refine ⟨_, rfl, ?_⟩
    subst ei; subst ej
    have o2 := place_lt hi hj
    have zi : (nI i).toInt = i := nI_toInt (by omega)
    have zj : (nI j).toInt = j := nI_toInt (by omega)
    unfold sn at hQ
    rw [zi, zj, if_pos (by omega), Int.toNat_natCast, Int.toNat_natCast] at hQ
    refine gk_if_eq dX6_seen_6 (tgt := 20) (pc' := 9) (by decide) rfl (fun c => absurd c (by decide)) (fun _ => ?_)
    refine gk_aload0 dX6_seen_9 (pc' := 10) rfl ?_
    refine gk_aload0 dX6_seen_10 (pc' := 11) rfl ?_
    refine gk_iload1 dX6_seen_11 (pc' := 12) rfl ?_
    refine gk_iload2 dX6_seen_12 (pc' := 13) rfl ?_
    refine gk_cV1_2 mv_Picture_place gw_342 dX6_seen_13 (pc' := 16) rfl (Nat.le_of_ble_eq_true rfl) (by assumption) (sp_Picture_placeN hp ?_)
    refine ⟨_, rfl, ?_⟩
    refine gk_cV1_1 mv_Picture_pixel gw_343 dX6_seen_16 (pc' := 19) rfl (Nat.le_of_ble_eq_true rfl) (by assumption) (sp_Picture_pixel hp o2 ?_)
    refine ⟨_, rfl, ?_⟩
    refine gk_iret dX6_seen_19 rfl hQ
  · refine ⟨_, rfl, ?_⟩
    unfold sn at hQ
    rw [if_neg (by omega)] at hQ
    refine gk_if_eq dX6_seen_6 (tgt := 20) (pc' := 9) (by decide) rfl (fun _ => ?_) (fun c => absurd c (by decide))
    refine gk_iload3 dX6_seen_20 (pc' := 21) rfl ?_
    refine gk_iconst (v := 3) dX6_seen_21 (pc' := 22) rfl (by decide) ?_
    refine gk_icmp_ne dX6_seen_22 (tgt := 27) (pc' := 25) (by decide) rfl (fun c22 => ?_) (fun c22 => ?_)
    · rw [if_neg c22] at hQ
      refine gk_aload0 dX6_seen_27 (pc' := 28) rfl ?_
      refine gk_aload0 dX6_seen_28 (pc' := 29) rfl ?_
      refine gk_iload1 dX6_seen_29 (pc' := 30) rfl ?_
      refine gk_aload0 dX6_seen_30 (pc' := 31) rfl ?_
      refine gk_getf (fs := [_, _, _, _]) gF_Picture_15 dX6_seen_31 (pc' := 34) rfl (by assumption) rfl ?_
      refine gk_iload3 dX6_seen_34 (pc' := 35) rfl ?_
      refine gk_cS1_3 mz_Picture_inside gw_344 dX6_seen_35 (pc' := 38) rfl (Nat.le_of_ble_eq_true rfl) (sp_Picture_inside h1 hw hx ?_)
      refine ⟨_, rfl, ?_⟩
      refine gk_iload2 dX6_seen_38 (pc' := 39) rfl ?_
      refine gk_aload0 dX6_seen_39 (pc' := 40) rfl ?_
      refine gk_getf (fs := [_, _, _, _]) gF_Picture_18 dX6_seen_40 (pc' := 43) rfl (by assumption) rfl ?_
      refine gk_iload3 dX6_seen_43 (pc' := 44) rfl ?_
      refine gk_cS1_3 mz_Picture_inside gw_344 dX6_seen_44 (pc' := 47) rfl (Nat.le_of_ble_eq_true rfl) (sp_Picture_inside h2 hh hy ?_)
      refine ⟨_, rfl, ?_⟩
      refine gk_cV1_2 mv_Picture_place gw_342 dX6_seen_47 (pc' := 50) rfl (Nat.le_of_ble_eq_true rfl) (by assumption) (sp_Picture_placeN hp ?_)
      refine ⟨_, rfl, ?_⟩
      refine gk_cV1_1 mv_Picture_pixel gw_343 dX6_seen_50 (pc' := 53) rfl (Nat.le_of_ble_eq_true rfl) (by assumption) (sp_Picture_pixel hp o1 ?_)
      refine ⟨_, rfl, ?_⟩
      refine gk_iret dX6_seen_53 rfl hQ
    · rw [if_pos c22] at hQ
      refine gk_iconst (v := 0) dX6_seen_25 (pc' := 26) rfl (by decide) ?_
      refine gk_iret dX6_seen_26 rfl hQ
theorem lp_Picture_sum (hp : isPic X h a k w t p) (hQ : Q (some (.int (sumP p (w * t)))) h) : ∀ n i, i + n = w * t → G (kx X) mt_Picture_sum (d + 1) b 4 [some (.ref a), some (.int (sumP p i)), some (.int (nI i))] [] h Q := by
  have ha := hp.area
  have e1 := hp.o
  intro n
  induction n with
  | zero =>
    intro i hi
    refine gk_iload2 dX6_sum_4 (pc' := 5) rfl ?_
    refine gk_aload0 dX6_sum_5 (pc' := 6) rfl ?_
    refine gk_cV1_0 mv_Picture_area gw_363 dX6_sum_6 (pc' := 9) rfl (Nat.le_of_ble_eq_true rfl) (by assumption) (sp_Picture_area hp ?_)
    refine ⟨_, rfl, ?_⟩
    refine gk_icmp_ge dX6_sum_9 (tgt := 26) (pc' := 12) (by decide) rfl (fun c9 => ?_) (fun c9 => absurd (nI_le (by omega) (by omega)) c9)
    refine gk_iload1 dX6_sum_26 (pc' := 27) rfl ?_
    refine gk_iret dX6_sum_27 rfl (by rw [show i = w * t by omega]; exact hQ)
  | succ n ih =>
    intro i hi
    refine gk_iload2 dX6_sum_4 (pc' := 5) rfl ?_
    refine gk_aload0 dX6_sum_5 (pc' := 6) rfl ?_
    refine gk_cV1_0 mv_Picture_area gw_363 dX6_sum_6 (pc' := 9) rfl (Nat.le_of_ble_eq_true rfl) (by assumption) (sp_Picture_area hp ?_)
    refine ⟨_, rfl, ?_⟩
    refine gk_icmp_ge dX6_sum_9 (tgt := 26) (pc' := 12) (by decide) rfl (fun c9 => absurd c9 (nI_ge (by omega) (by omega))) (fun c9 => ?_)
    refine gk_iload1 dX6_sum_12 (pc' := 13) rfl ?_
    refine gk_aload0 dX6_sum_13 (pc' := 14) rfl ?_
    refine gk_iload2 dX6_sum_14 (pc' := 15) rfl ?_
    refine gk_cV1_1 mv_Picture_pixel gw_343 dX6_sum_15 (pc' := 18) rfl (Nat.le_of_ble_eq_true rfl) (by assumption) (sp_Picture_pixel hp (by omega) ?_)
    refine ⟨_, rfl, ?_⟩
    refine gk_iadd dX6_sum_18 (pc' := 19) rfl ?_
    refine gk_istore1 dX6_sum_19 (pc' := 20) rfl (by decide) rfl ?_
    refine gk_iinc2 (v := 1) dX6_sum_20 (pc' := 23) rfl (by decide) (by decide) rfl ?_
    refine gk_goto dX6_sum_23 (tgt := 4) (by decide) ?_
    rw [← nI_succ]
    exact ih (i + 1) (by omega)
theorem sp_Picture_sum (hp : isPic X h a k w t p) (hQ : Q (some (.int (sumP p (w * t)))) h) : Gm (kx X) mt_Picture_sum (d + 1) b [.ref a] h Q := by
  refine Gm.enter (L := [some (.ref a), none, none]) (by decide) (fun _ => trivial) (Nat.le_of_ble_eq_true rfl) rfl ?_
  refine gk_iconst (v := 0) dX6_sum_0 (pc' := 1) rfl (by decide) ?_
  refine gk_istore1 dX6_sum_1 (pc' := 2) rfl (by decide) rfl ?_
  refine gk_iconst (v := 0) dX6_sum_2 (pc' := 3) rfl (by decide) ?_
  refine gk_istore2 dX6_sum_3 (pc' := 4) rfl (by decide) rfl ?_
  exact lp_Picture_sum hp hQ (w * t) 0 (by omega)
theorem lp_Picture_leastPixel (hp : isPic X h a k w t p) (hQ : Q (some (.int (minP (hiK k) p (w * t)))) h) : ∀ n i, i + n = w * t → G (kx X) mt_Picture_leastPixel (d + 1) b 7 [some (.ref a), some (.int (minP (hiK k) p i)), some (.int (nI i))] [] h Q := by
  have ha := hp.area
  have e1 := hp.o
  intro n
  induction n with
  | zero =>
    intro i hi
    refine gk_iload2 dX6_leastPixel_7 (pc' := 8) rfl ?_
    refine gk_aload0 dX6_leastPixel_8 (pc' := 9) rfl ?_
    refine gk_cV1_0 mv_Picture_area gw_363 dX6_leastPixel_9 (pc' := 12) rfl (Nat.le_of_ble_eq_true rfl) (by assumption) (sp_Picture_area hp ?_)
    refine ⟨_, rfl, ?_⟩
    refine gk_icmp_ge dX6_leastPixel_12 (tgt := 31) (pc' := 15) (by decide) rfl (fun c12 => ?_) (fun c12 => absurd (nI_le (by omega) (by omega)) c12)
    refine gk_iload1 dX6_leastPixel_31 (pc' := 32) rfl ?_
    refine gk_iret dX6_leastPixel_32 rfl (by rw [show i = w * t by omega]; exact hQ)
  | succ n ih =>
    intro i hi
    refine gk_iload2 dX6_leastPixel_7 (pc' := 8) rfl ?_
    refine gk_aload0 dX6_leastPixel_8 (pc' := 9) rfl ?_
    refine gk_cV1_0 mv_Picture_area gw_363 dX6_leastPixel_9 (pc' := 12) rfl (Nat.le_of_ble_eq_true rfl) (by assumption) (sp_Picture_area hp ?_)
    refine ⟨_, rfl, ?_⟩
    refine gk_icmp_ge dX6_leastPixel_12 (tgt := 31) (pc' := 15) (by decide) rfl (fun c12 => absurd c12 (nI_ge (by omega) (by omega))) (fun c12 => ?_)
    refine gk_iload1 dX6_leastPixel_15 (pc' := 16) rfl ?_
    refine gk_aload0 dX6_leastPixel_16 (pc' := 17) rfl ?_
    refine gk_iload2 dX6_leastPixel_17 (pc' := 18) rfl ?_
    refine gk_cV1_1 mv_Picture_pixel gw_343 dX6_leastPixel_18 (pc' := 21) rfl (Nat.le_of_ble_eq_true rfl) (by assumption) (sp_Picture_pixel hp (by omega) ?_)
    refine ⟨_, rfl, ?_⟩
    refine gk_cS1_2 mz_Math_min gw_348 dX6_leastPixel_21 (pc' := 24) rfl (Nat.le_of_ble_eq_true rfl) (sp_Math_min ?_)
    refine ⟨_, rfl, ?_⟩
    refine gk_istore1 dX6_leastPixel_24 (pc' := 25) rfl (by decide) rfl ?_
    refine gk_iinc2 (v := 1) dX6_leastPixel_25 (pc' := 28) rfl (by decide) (by decide) rfl ?_
    refine gk_goto dX6_leastPixel_28 (tgt := 7) (by decide) ?_
    rw [← nI_succ]
    exact ih (i + 1) (by omega)
theorem sp_Picture_leastPixel (hp : isPic X h a k w t p) (hQ : Q (some (.int (minP (hiK k) p (w * t)))) h) : Gm (kx X) mt_Picture_leastPixel (d + 1) b [.ref a] h Q := by
  have e1 := hp.o
  refine Gm.enter (L := [some (.ref a), none, none]) (by decide) (fun _ => trivial) (Nat.le_of_ble_eq_true rfl) rfl ?_
  refine gk_aload0 dX6_leastPixel_0 (pc' := 1) rfl ?_
  refine gk_cV1_0 mv_Picture_greatest gw_293 dX6_leastPixel_1 (pc' := 4) rfl (Nat.le_of_ble_eq_true rfl) (by assumption) (sp_Picture_greatest hp ?_)
  refine ⟨_, rfl, ?_⟩
  refine gk_istore1 dX6_leastPixel_4 (pc' := 5) rfl (by decide) rfl ?_
  refine gk_iconst (v := 0) dX6_leastPixel_5 (pc' := 6) rfl (by decide) ?_
  refine gk_istore2 dX6_leastPixel_6 (pc' := 7) rfl (by decide) rfl ?_
  exact lp_Picture_leastPixel hp hQ (w * t) 0 (by omega)
theorem lp_Picture_greatestPixel (hp : isPic X h a k w t p) (hQ : Q (some (.int (maxP (loK k) p (w * t)))) h) : ∀ n i, i + n = w * t → G (kx X) mt_Picture_greatestPixel (d + 1) b 7 [some (.ref a), some (.int (maxP (loK k) p i)), some (.int (nI i))] [] h Q := by
  have ha := hp.area
  have e1 := hp.o
  intro n
  induction n with
  | zero =>
    intro i hi
    refine gk_iload2 dX6_greatestPixel_7 (pc' := 8) rfl ?_
    refine gk_aload0 dX6_greatestPixel_8 (pc' := 9) rfl ?_
    refine gk_cV1_0 mv_Picture_area gw_363 dX6_greatestPixel_9 (pc' := 12) rfl (Nat.le_of_ble_eq_true rfl) (by assumption) (sp_Picture_area hp ?_)
    refine ⟨_, rfl, ?_⟩
    refine gk_icmp_ge dX6_greatestPixel_12 (tgt := 31) (pc' := 15) (by decide) rfl (fun c12 => ?_) (fun c12 => absurd (nI_le (by omega) (by omega)) c12)
    refine gk_iload1 dX6_greatestPixel_31 (pc' := 32) rfl ?_
    refine gk_iret dX6_greatestPixel_32 rfl (by rw [show i = w * t by omega]; exact hQ)
  | succ n ih =>
    intro i hi
    refine gk_iload2 dX6_greatestPixel_7 (pc' := 8) rfl ?_
    refine gk_aload0 dX6_greatestPixel_8 (pc' := 9) rfl ?_
    refine gk_cV1_0 mv_Picture_area gw_363 dX6_greatestPixel_9 (pc' := 12) rfl (Nat.le_of_ble_eq_true rfl) (by assumption) (sp_Picture_area hp ?_)
    refine ⟨_, rfl, ?_⟩
    refine gk_icmp_ge dX6_greatestPixel_12 (tgt := 31) (pc' := 15) (by decide) rfl (fun c12 => absurd c12 (nI_ge (by omega) (by omega))) (fun c12 => ?_)
    refine gk_iload1 dX6_greatestPixel_15 (pc' := 16) rfl ?_
    refine gk_aload0 dX6_greatestPixel_16 (pc' := 17) rfl ?_
    refine gk_iload2 dX6_greatestPixel_17 (pc' := 18) rfl ?_
    refine gk_cV1_1 mv_Picture_pixel gw_343 dX6_greatestPixel_18 (pc' := 21) rfl (Nat.le_of_ble_eq_true rfl) (by assumption) (sp_Picture_pixel hp (by omega) ?_)
    refine ⟨_, rfl, ?_⟩
    refine gk_cS1_2 mz_Math_max gw_351 dX6_greatestPixel_21 (pc' := 24) rfl (Nat.le_of_ble_eq_true rfl) (sp_Math_max ?_)
    refine ⟨_, rfl, ?_⟩
    refine gk_istore1 dX6_greatestPixel_24 (pc' := 25) rfl (by decide) rfl ?_
    refine gk_iinc2 (v := 1) dX6_greatestPixel_25 (pc' := 28) rfl (by decide) (by decide) rfl ?_
    refine gk_goto dX6_greatestPixel_28 (tgt := 7) (by decide) ?_
    rw [← nI_succ]
    exact ih (i + 1) (by omega)
theorem sp_Picture_greatestPixel (hp : isPic X h a k w t p) (hQ : Q (some (.int (maxP (loK k) p (w * t)))) h) : Gm (kx X) mt_Picture_greatestPixel (d + 1) b [.ref a] h Q := by
  have e1 := hp.o
  refine Gm.enter (L := [some (.ref a), none, none]) (by decide) (fun _ => trivial) (Nat.le_of_ble_eq_true rfl) rfl ?_
  refine gk_aload0 dX6_greatestPixel_0 (pc' := 1) rfl ?_
  refine gk_cV1_0 mv_Picture_least gw_289 dX6_greatestPixel_1 (pc' := 4) rfl (Nat.le_of_ble_eq_true rfl) (by assumption) (sp_Picture_least hp ?_)
  refine ⟨_, rfl, ?_⟩
  refine gk_istore1 dX6_greatestPixel_4 (pc' := 5) rfl (by decide) rfl ?_
  refine gk_iconst (v := 0) dX6_greatestPixel_5 (pc' := 6) rfl (by decide) ?_
  refine gk_istore2 dX6_greatestPixel_6 (pc' := 7) rfl (by decide) rfl ?_
  exact lp_Picture_greatestPixel hp hQ (w * t) 0 (by omega)
theorem lp_Picture_unlikePixels {a' : Nat} {k' : Int32} {p' : Nat → Int32} (hp : isPic X h a k w t p) (hp' : isPic X h a' k' w t p') (hQ : Q (some (.int (nI (cntP p p' (w * t))))) h) : ∀ n i, i + n = w * t → G (kx X) mt_Picture_unlikePixels (d + 1) b 4 [some (.ref a), some (.ref a'), some (.int (nI (cntP p p' i))), some (.int (nI i))] [] h Q := by
  have ha := hp.area
  have e1 := hp.o
  have e2 := hp'.o
  intro n
  induction n with
  | zero =>
    intro i hi
    refine gk_iload3 dX6_unlikePixels_4 (pc' := 5) rfl ?_
    refine gk_aload0 dX6_unlikePixels_5 (pc' := 6) rfl ?_
    refine gk_cV1_0 mv_Picture_area gw_363 dX6_unlikePixels_6 (pc' := 9) rfl (Nat.le_of_ble_eq_true rfl) (by assumption) (sp_Picture_area hp ?_)
    refine ⟨_, rfl, ?_⟩
    refine gk_icmp_ge dX6_unlikePixels_9 (tgt := 39) (pc' := 12) (by decide) rfl (fun c9 => ?_) (fun c9 => absurd (nI_le (by omega) (by omega)) c9)
    refine gk_iload2 dX6_unlikePixels_39 (pc' := 40) rfl ?_
    refine gk_iret dX6_unlikePixels_40 rfl (by rw [show i = w * t by omega]; exact hQ)
  | succ n ih =>
    intro i hi
    refine gk_iload3 dX6_unlikePixels_4 (pc' := 5) rfl ?_
    refine gk_aload0 dX6_unlikePixels_5 (pc' := 6) rfl ?_
    refine gk_cV1_0 mv_Picture_area gw_363 dX6_unlikePixels_6 (pc' := 9) rfl (Nat.le_of_ble_eq_true rfl) (by assumption) (sp_Picture_area hp ?_)
    refine ⟨_, rfl, ?_⟩
    refine gk_icmp_ge dX6_unlikePixels_9 (tgt := 39) (pc' := 12) (by decide) rfl (fun c9 => absurd c9 (nI_ge (by omega) (by omega))) (fun c9 => ?_)
    refine gk_iload2 dX6_unlikePixels_12 (pc' := 13) rfl ?_
    refine gk_aload0 dX6_unlikePixels_13 (pc' := 14) rfl ?_
    refine gk_iload3 dX6_unlikePixels_14 (pc' := 15) rfl ?_
    refine gk_cV1_1 mv_Picture_pixel gw_343 dX6_unlikePixels_15 (pc' := 18) rfl (Nat.le_of_ble_eq_true rfl) (by assumption) (sp_Picture_pixel hp (by omega) ?_)
    refine ⟨_, rfl, ?_⟩
    refine gk_aload1 dX6_unlikePixels_18 (pc' := 19) rfl ?_
    refine gk_iload3 dX6_unlikePixels_19 (pc' := 20) rfl ?_
    refine gk_cV1_1 mv_Picture_pixel gw_343 dX6_unlikePixels_20 (pc' := 23) rfl (Nat.le_of_ble_eq_true rfl) (by assumption) (sp_Picture_pixel hp' (by omega) ?_)
    refine ⟨_, rfl, ?_⟩
    refine gk_icmp_ne dX6_unlikePixels_23 (tgt := 30) (pc' := 26) (by decide) rfl (fun c23 => ?_) (fun c23 => ?_)
    · have q := ih (i + 1) (by omega)
      rw [cntP, if_neg c23] at q
      refine gk_iconst (v := 1) dX6_unlikePixels_30 (pc' := 31) rfl (by decide) ?_
      refine gk_iadd dX6_unlikePixels_31 (pc' := 32) rfl ?_
      refine gk_istore2 dX6_unlikePixels_32 (pc' := 33) rfl (by decide) rfl ?_
      refine gk_iinc3 (v := 1) dX6_unlikePixels_33 (pc' := 36) rfl (by decide) (by decide) rfl ?_
      refine gk_goto dX6_unlikePixels_36 (tgt := 4) (by decide) ?_
      rw [← nI_succ i]
      rw [← nI_add] at q
      exact q
    · have q := ih (i + 1) (by omega)
      rw [cntP, if_pos c23] at q
      refine gk_iconst (v := 0) dX6_unlikePixels_26 (pc' := 27) rfl (by decide) ?_
      refine gk_goto dX6_unlikePixels_27 (tgt := 31) (by decide) ?_
      refine gk_iadd dX6_unlikePixels_31 (pc' := 32) rfl ?_
      refine gk_istore2 dX6_unlikePixels_32 (pc' := 33) rfl (by decide) rfl ?_
      refine gk_iinc3 (v := 1) dX6_unlikePixels_33 (pc' := 36) rfl (by decide) (by decide) rfl ?_
      refine gk_goto dX6_unlikePixels_36 (tgt := 4) (by decide) ?_
      rw [← nI_succ i]
      rw [← nI_add] at q
      exact q
theorem sp_Picture_unlikePixels {a' : Nat} {k' : Int32} {p' : Nat → Int32} (hp : isPic X h a k w t p) (hp' : isPic X h a' k' w t p') (hQ : Q (some (.int (nI (cntP p p' (w * t))))) h) : Gm (kx X) mt_Picture_unlikePixels (d + 1) b [.ref a, .ref a'] h Q := by
  refine Gm.enter (L := [some (.ref a), some (.ref a'), none, none]) (by decide) (fun _ => trivial) (Nat.le_of_ble_eq_true rfl) rfl ?_
  refine gk_iconst (v := 0) dX6_unlikePixels_0 (pc' := 1) rfl (by decide) ?_
  refine gk_istore2 dX6_unlikePixels_1 (pc' := 2) rfl (by decide) rfl ?_
  refine gk_iconst (v := 0) dX6_unlikePixels_2 (pc' := 3) rfl (by decide) ?_
  refine gk_istore3 dX6_unlikePixels_3 (pc' := 4) rfl (by decide) rfl ?_
  exact lp_Picture_unlikePixels hp hp' hQ (w * t) 0 (by omega)
end PicB
