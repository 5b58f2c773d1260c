/-! ===== Picture: its small methods ===== -/
section PicA
variable {X : gX} {d : Nat} {b : Nat × Nat} {h : gk_H} {Q : Option Value → gk_H → Prop} {a : Nat} {k : Int32} {w t : Nat} {p : Nat → Int32}
theorem sp_Picture_isMissing (hp : isPic X h a k w t p) (ht : k = -1 → Q (some (.int 1)) h) (hf : ¬ k = -1 → Q (some (.int 0)) h) : Gm (kx X) mt_Picture_isMissing d b [.ref a] h Q := by
  obtain ⟨hw, hh, f, e1, e2, e3⟩ := hp
  refine Gm.enter (L := [some (.ref a)]) (by decide) (fun _ => trivial) (Nat.le_of_ble_eq_true rfl) rfl ?_
  refine gk_aload0 dX6_isMissing_0 (pc' := 1) rfl ?_
  refine gk_getf (fs := [_, _, _, _]) gF_Picture_9 dX6_isMissing_1 (pc' := 4) rfl (by assumption) rfl ?_
  refine gk_iconst (v := -1) dX6_isMissing_4 (pc' := 5) rfl (by decide) ?_
  refine gk_icmp_ne dX6_isMissing_5 (tgt := 12) (pc' := 8) (by decide) rfl (fun c5 => ?_) (fun c5 => ?_)
  · refine gk_iconst (v := 0) dX6_isMissing_12 (pc' := 13) rfl (by decide) ?_
    refine gk_zret dX6_isMissing_13 rfl rfl (by first | exact ht (Classical.not_not.mp c5) | exact ht c5 | exact hf c5)
  · refine gk_iconst (v := 1) dX6_isMissing_8 (pc' := 9) rfl (by decide) ?_
    refine gk_goto dX6_isMissing_9 (tgt := 13) (by decide) ?_
    refine gk_zret dX6_isMissing_13 rfl rfl (by first | exact ht (Classical.not_not.mp c5) | exact ht c5 | exact hf c5)
theorem sp_Picture_has {x y : Int32} (hp : isPic X h a k w t p) (ht : ∀ i j : Nat, x = nI i → y = nI j → i < w → j < t → Q (some (.int 1)) h) (hf : ¬ (0 ≤ x.toInt ∧ x.toInt < w ∧ 0 ≤ y.toInt ∧ y.toInt < t) → Q (some (.int 0)) h) : Gm (kx X) mt_Picture_has d b [.ref a, .int x, .int y] h Q := by
  obtain ⟨hw, hh, f, e1, e2, e3⟩ := hp
  have z0 : (0 : Int32).toInt = 0 := rfl
  have zw : (nI w).toInt = w := nI_toInt (by omega)
  have zh : (nI t).toInt = t := nI_toInt (by omega)
  refine Gm.enter (L := [some (.ref a), some (.int x), some (.int y)]) (by decide) (fun _ => trivial) (Nat.le_of_ble_eq_true rfl) rfl ?_
  refine gk_iload1 dX6_has_0 (pc' := 1) rfl ?_
  refine gk_if_lt dX6_has_1 (tgt := 28) (pc' := 4) (by decide) rfl (fun c1 => ?_) (fun c1 => ?_)
  · rw [pu_lt, z0] at c1
    refine gk_iconst (v := 0) dX6_has_28 (pc' := 29) rfl (by decide) ?_
    refine gk_zret dX6_has_29 rfl rfl (by first | exact ht i j rfl rfl hi hj | exact hf (by omega))
  · rw [pu_lt, z0] at c1
    refine gk_iload1 dX6_has_4 (pc' := 5) rfl ?_
    refine gk_aload0 dX6_has_5 (pc' := 6) rfl ?_
    refine gk_getf (fs := [_, _, _, _]) gF_Picture_15 dX6_has_6 (pc' := 9) rfl (by assumption) rfl ?_
    refine gk_icmp_ge dX6_has_9 (tgt := 28) (pc' := 12) (by decide) rfl (fun c9 => ?_) (fun c9 => ?_)
    · rw [pu_le, zw] at c9
      refine gk_iconst (v := 0) dX6_has_28 (pc' := 29) rfl (by decide) ?_
      refine gk_zret dX6_has_29 rfl rfl (by first | exact ht i j rfl rfl hi hj | exact hf (by omega))
    · rw [pu_le, zw] at c9
      refine gk_iload2 dX6_has_12 (pc' := 13) rfl ?_
      refine gk_if_lt dX6_has_13 (tgt := 28) (pc' := 16) (by decide) rfl (fun c13 => ?_) (fun c13 => ?_)
      · rw [pu_lt, z0] at c13
        refine gk_iconst (v := 0) dX6_has_28 (pc' := 29) rfl (by decide) ?_
        refine gk_zret dX6_has_29 rfl rfl (by first | exact ht i j rfl rfl hi hj | exact hf (by omega))
      · rw [pu_lt, z0] at c13
        refine gk_iload2 dX6_has_16 (pc' := 17) rfl ?_
        refine gk_aload0 dX6_has_17 (pc' := 18) rfl ?_
        refine gk_getf (fs := [_, _, _, _]) gF_Picture_18 dX6_has_18 (pc' := 21) rfl (by assumption) rfl ?_
        refine gk_icmp_ge dX6_has_21 (tgt := 28) (pc' := 24) (by decide) rfl (fun c21 => ?_) (fun c21 => ?_)
        · rw [pu_le, zh] at c21
          refine gk_iconst (v := 0) dX6_has_28 (pc' := 29) rfl (by decide) ?_
          refine gk_zret dX6_has_29 rfl rfl (by first | exact ht i j rfl rfl hi hj | exact hf (by omega))
        · rw [pu_le, zh] at c21
          obtain ⟨i, hi, rfl⟩ := pu_of (x := x) (n := w) (by omega) (by omega) (by omega)
          obtain ⟨j, hj, rfl⟩ := pu_of (x := y) (n := t) (by omega) (by omega) (by omega)
          refine gk_iconst (v := 1) dX6_has_24 (pc' := 25) rfl (by decide) ?_
          refine gk_goto dX6_has_25 (tgt := 29) (by decide) ?_
          refine gk_zret dX6_has_29 rfl rfl (by first | exact ht i j rfl rfl hi hj | exact hf (by omega))
theorem sp_Picture_area (hp : isPic X h a k w t p) (hQ : Q (some (.int (nI (w * t)))) h) : Gm (kx X) mt_Picture_area d b [.ref a] h Q := by
  obtain ⟨hw, hh, f, e1, e2, e3⟩ := hp
  refine Gm.enter (L := [some (.ref a)]) (by decide) (fun _ => trivial) (Nat.le_of_ble_eq_true rfl) rfl ?_
  refine gk_aload0 dX6_area_0 (pc' := 1) rfl ?_
  refine gk_getf (fs := [_, _, _, _]) gF_Picture_15 dX6_area_1 (pc' := 4) rfl (by assumption) rfl ?_
  refine gk_aload0 dX6_area_4 (pc' := 5) rfl ?_
  refine gk_getf (fs := [_, _, _, _]) gF_Picture_18 dX6_area_5 (pc' := 8) rfl (by assumption) rfl ?_
  refine gk_imul dX6_area_8 (pc' := 9) rfl ?_
  refine gk_iret dX6_area_9 rfl (by rw [pk_mul]; exact hQ)
theorem sp_Picture_place {x y : Int32} (hp : isPic X h a k w t p) (hQ : Q (some (.int (y * nI w + x))) h) : Gm (kx X) mt_Picture_place d b [.ref a, .int x, .int y] h Q := by
  obtain ⟨hw, hh, f, e1, e2, e3⟩ := hp
  refine Gm.enter (L := [some (.ref a), some (.int x), some (.int y)]) (by decide) (fun _ => trivial) (Nat.le_of_ble_eq_true rfl) rfl ?_
  refine gk_iload2 dX6_place_0 (pc' := 1) rfl ?_
  refine gk_aload0 dX6_place_1 (pc' := 2) rfl ?_
  refine gk_getf (fs := [_, _, _, _]) gF_Picture_15 dX6_place_2 (pc' := 5) rfl (by assumption) rfl ?_
  refine gk_imul dX6_place_5 (pc' := 6) rfl ?_
  refine gk_iload1 dX6_place_6 (pc' := 7) rfl ?_
  refine gk_iadd dX6_place_7 (pc' := 8) rfl ?_
  refine gk_iret dX6_place_8 rfl hQ
theorem sp_Picture_placeN {i j : Nat} (hp : isPic X h a k w t p) (hQ : Q (some (.int (nI (j * w + i)))) h) : Gm (kx X) mt_Picture_place d b [.ref a, .int (nI i), .int (nI j)] h Q := sp_Picture_place hp (by rw [pk_mul, nI_add]; exact hQ)
theorem sp_Picture_pixel {i : Nat} (hp : isPic X h a k w t p) (hi : i < w * t) (hQ : Q (some (.int (p i))) h) : Gm (kx X) mt_Picture_pixel d b [.ref a, .int (nI i)] h Q := by
  obtain ⟨hw, hh, f, e1, e2, e3⟩ := hp
  have ha := area_le hw hh
  have c0 : (nI i).toNatClampNeg = i := nI_clamp (by omega)
  refine Gm.enter (L := [some (.ref a), some (.int (nI i))]) (by decide) (fun _ => trivial) (Nat.le_of_ble_eq_true rfl) rfl ?_
  refine gk_iload1 dX6_pixel_0 (pc' := 1) rfl ?_
  refine gk_if_lt dX6_pixel_1 (tgt := 20) (pc' := 4) (by decide) rfl (fun c1 => absurd c1 (nI_pos (by omega))) (fun c1 => ?_)
  refine gk_iload1 dX6_pixel_4 (pc' := 5) rfl ?_
  refine gk_sipush (v := 256) dX6_pixel_5 (pc' := 8) rfl (by decide) ?_
  refine gk_icmp_ge dX6_pixel_8 (tgt := 20) (pc' := 11) (by decide) rfl (fun c8 => absurd c8 (nI_ge (b := 256) (by omega) (by decide))) (fun c8 => ?_)
  refine gk_aload0 dX6_pixel_11 (pc' := 12) rfl ?_
  refine gk_getf (fs := [_, _, _, _]) gF_Picture_21 dX6_pixel_12 (pc' := 15) rfl (by assumption) rfl ?_
  refine gk_iload1 dX6_pixel_15 (pc' := 16) rfl ?_
  refine gk_iald (t0 := 0) rfl dX6_pixel_16 (pc' := 17) rfl (by assumption) (vp_in_nI (by omega) (by decide)) ?_
  refine gk_goto dX6_pixel_17 (tgt := 21) (by decide) ?_
  refine gk_iret dX6_pixel_21 rfl (by rw [c0, e3 i hi]; exact hQ)
theorem sp_Picture_set {i : Nat} {v : Int32} (hp : isPic X h a k w t p) (hi : i < 256) (hQ : ∀ h', isPic X h' a k w t (upd p i v) → fr (fun c => c = a + 1) h h' → Q none h') : Gm (kx X) mt_Picture_set d b [.ref a, .int (nI i), .int v] h Q := by
  obtain ⟨hw, hh, f, e1, e2, e3⟩ := hp
  have c0 : (nI i).toNatClampNeg = i := nI_clamp (by omega)
  refine Gm.enter (L := [some (.ref a), some (.int (nI i)), some (.int v)]) (by decide) (fun _ => trivial) (Nat.le_of_ble_eq_true rfl) rfl ?_
  refine gk_iload1 dX6_set_0 (pc' := 1) rfl ?_
  refine gk_if_lt dX6_set_1 (tgt := 18) (pc' := 4) (by decide) rfl (fun c1 => absurd c1 (nI_pos (by omega))) (fun c1 => ?_)
  refine gk_iload1 dX6_set_4 (pc' := 5) rfl ?_
  refine gk_sipush (v := 256) dX6_set_5 (pc' := 8) rfl (by decide) ?_
  refine gk_icmp_ge dX6_set_8 (tgt := 18) (pc' := 11) (by decide) rfl (fun c8 => absurd c8 (nI_ge (b := 256) (by omega) (by decide))) (fun c8 => ?_)
  refine gk_aload0 dX6_set_11 (pc' := 12) rfl ?_
  refine gk_getf (fs := [_, _, _, _]) gF_Picture_21 dX6_set_12 (pc' := 15) rfl (by assumption) rfl ?_
  refine gk_iload1 dX6_set_15 (pc' := 16) rfl ?_
  refine gk_iload2 dX6_set_16 (pc' := 17) rfl ?_
  refine gk_iast (t0 := 0) rfl dX6_set_17 (pc' := 18) rfl (by assumption) (vp_in_nI (by omega) (by decide)) ?_
  refine gk_vret dX6_set_18 rfl (hQ _ ⟨hw, hh, _, (gk_set_ne (by omega)).trans e1, gk_set_self, by rw [c0]; exact upd_of e3⟩ fr.set)
theorem sp_Picture_shape {k' : Int32} {w' t' : Nat} (hp : isPic X h a k w t p) (hw' : w' ≤ 16) (ht' : t' ≤ 16) (hQ : ∀ h' g, isPic X h' a k' w' t' g → fr (fun c => c = a) h h' → Q none h') : Gm (kx X) mt_Picture_shape d b [.ref a, .int k', .int (nI w'), .int (nI t')] h Q := by
  obtain ⟨hw, hh, f, e1, e2, e3⟩ := hp
  refine Gm.enter (L := [some (.ref a), some (.int k'), some (.int (nI w')), some (.int (nI t'))]) (by decide) (fun _ => trivial) (Nat.le_of_ble_eq_true rfl) rfl ?_
  refine gk_aload0 dX6_shape_0 (pc' := 1) rfl ?_
  refine gk_iload1 dX6_shape_1 (pc' := 2) rfl ?_
  refine gk_putf (fs := [_, _, _, _]) gP_Picture_9 dX6_shape_2 (pc' := 5) rfl (by assumption) rfl rfl (Nat.le_of_ble_eq_true rfl) ?_
  refine gk_aload0 dX6_shape_5 (pc' := 6) rfl ?_
  refine gk_iload2 dX6_shape_6 (pc' := 7) rfl ?_
  refine gk_putf (fs := [_, _, _, _]) gP_Picture_15 dX6_shape_7 (pc' := 10) rfl (by exact (gk_set_self)) rfl rfl (Nat.le_of_ble_eq_true rfl) ?_
  refine gk_aload0 dX6_shape_10 (pc' := 11) rfl ?_
  refine gk_iload3 dX6_shape_11 (pc' := 12) rfl ?_
  refine gk_putf (fs := [_, _, _, _]) gP_Picture_18 dX6_shape_12 (pc' := 15) rfl (by exact (gk_set_self)) rfl rfl (Nat.le_of_ble_eq_true rfl) ?_
  refine gk_vret dX6_shape_15 rfl (hQ _ f ⟨hw', ht', f, gk_set_self, (gk_set_ne (by omega)).trans ((gk_set_ne (by omega)).trans ((gk_set_ne (by omega)).trans e2)), fun _ _ => rfl⟩ ((fr.set.trans fr.set (fun _ q => q) (fun _ q => q)).trans fr.set (fun _ q => q) (fun _ q => q)))
theorem sp_Picture_vanish (hp : isPic X h a k w t p) (hQ : ∀ h', isPic X h' a (-1) 0 0 p → fr (fun c => c = a) h h' → Q none h') : Gm (kx X) mt_Picture_vanish d b [.ref a] h Q := by
  obtain ⟨hw, hh, f, e1, e2, e3⟩ := hp
  refine Gm.enter (L := [some (.ref a)]) (by decide) (fun _ => trivial) (Nat.le_of_ble_eq_true rfl) rfl ?_
  refine gk_aload0 dX6_vanish_0 (pc' := 1) rfl ?_
  refine gk_iconst (v := -1) dX6_vanish_1 (pc' := 2) rfl (by decide) ?_
  refine gk_putf (fs := [_, _, _, _]) gP_Picture_9 dX6_vanish_2 (pc' := 5) rfl (by assumption) rfl rfl (Nat.le_of_ble_eq_true rfl) ?_
  refine gk_aload0 dX6_vanish_5 (pc' := 6) rfl ?_
  refine gk_iconst (v := 0) dX6_vanish_6 (pc' := 7) rfl (by decide) ?_
  refine gk_putf (fs := [_, _, _, _]) gP_Picture_15 dX6_vanish_7 (pc' := 10) rfl (by exact (gk_set_self)) rfl rfl (Nat.le_of_ble_eq_true rfl) ?_
  refine gk_aload0 dX6_vanish_10 (pc' := 11) rfl ?_
  refine gk_iconst (v := 0) dX6_vanish_11 (pc' := 12) rfl (by decide) ?_
  refine gk_putf (fs := [_, _, _, _]) gP_Picture_18 dX6_vanish_12 (pc' := 15) rfl (by exact (gk_set_self)) rfl rfl (Nat.le_of_ble_eq_true rfl) ?_
  refine gk_vret dX6_vanish_15 rfl (hQ _ ⟨by omega, by omega, f, gk_set_self, (gk_set_ne (by omega)).trans ((gk_set_ne (by omega)).trans ((gk_set_ne (by omega)).trans e2)), fun i hi => absurd hi (by omega)⟩ ((fr.set.trans fr.set (fun _ q => q) (fun _ q => q)).trans fr.set (fun _ q => q) (fun _ q => q)))
theorem sp_Picture_least (hp : isPic X h a k w t p) (hQ : Q (some (.int (loK k))) h) : Gm (kx X) mt_Picture_least d b [.ref a] h Q := by
  obtain ⟨hw, hh, f, e1, e2, e3⟩ := hp
  refine Gm.enter (L := [some (.ref a)]) (by decide) (fun _ => trivial) (Nat.le_of_ble_eq_true rfl) rfl ?_
  refine gk_aload0 dX6_least_0 (pc' := 1) rfl ?_
  refine gk_getf (fs := [_, _, _, _]) gF_Picture_9 dX6_least_1 (pc' := 4) rfl (by assumption) rfl ?_
  refine gk_iconst (v := 1) dX6_least_4 (pc' := 5) rfl (by decide) ?_
  refine gk_icmp_ne dX6_least_5 (tgt := 14) (pc' := 8) (by decide) rfl (fun c5 => ?_) (fun c5 => ?_)
  · rw [loK, if_neg c5] at hQ
    refine gk_iconst (v := 0) dX6_least_14 (pc' := 15) rfl (by decide) ?_
    refine gk_iret dX6_least_15 rfl hQ
  · rw [loK, if_pos c5] at hQ
    refine gk_sipush (v := -32768) dX6_least_8 (pc' := 11) rfl (by decide) ?_
    refine gk_goto dX6_least_11 (tgt := 15) (by decide) ?_
    refine gk_iret dX6_least_15 rfl hQ
theorem sp_Picture_greatest (hp : isPic X h a k w t p) (hQ : Q (some (.int (hiK k))) h) : Gm (kx X) mt_Picture_greatest d b [.ref a] h Q := by
  obtain ⟨hw, hh, f, e1, e2, e3⟩ := hp
  refine Gm.enter (L := [some (.ref a)]) (by decide) (fun _ => trivial) (Nat.le_of_ble_eq_true rfl) rfl ?_
  refine gk_aload0 dX6_greatest_0 (pc' := 1) rfl ?_
  refine gk_getf (fs := [_, _, _, _]) gF_Picture_9 dX6_greatest_1 (pc' := 4) rfl (by assumption) rfl ?_
  refine gk_iconst (v := 1) dX6_greatest_4 (pc' := 5) rfl (by decide) ?_
  refine gk_icmp_ne dX6_greatest_5 (tgt := 14) (pc' := 8) (by decide) rfl (fun c5 => ?_) (fun c5 => ?_)
  · rw [hiK, if_neg c5] at hQ
    refine gk_sipush (v := 255) dX6_greatest_14 (pc' := 17) rfl (by decide) ?_
    refine gk_iret dX6_greatest_17 rfl hQ
  · rw [hiK, if_pos c5] at hQ
    refine gk_sipush (v := 32767) dX6_greatest_8 (pc' := 11) rfl (by decide) ?_
    refine gk_goto dX6_greatest_11 (tgt := 17) (by decide) ?_
    refine gk_iret dX6_greatest_17 rfl hQ
end PicA
section JdkA
variable {X : gX} {d : Nat} {b : Nat × Nat} {h : gk_H} {Q : Option Value → gk_H → Prop}
theorem sp_Math_min {x y : Int32} (hQ : Q (some (.int (if y < x then y else x))) h) : Gm (kx X) mt_Math_min d b [.int x, .int y] h Q := by
  refine Gm.enterJ (L := [some (.int x), some (.int y)]) (by decide +kernel) (fun _ => trivial) (Nat.le_of_ble_eq_true rfl) rfl ?_
  refine gk_iload0 dJ9_min_7cf53_0 (pc' := 1) rfl ?_
  refine gk_iload1 dJ9_min_7cf53_1 (pc' := 2) rfl ?_
  refine gk_icmp_gt dJ9_min_7cf53_2 (tgt := 9) (pc' := 5) (by decide) rfl (fun c2 => ?_) (fun c2 => ?_)
  · rw [if_pos c2] at hQ
    refine gk_iload1 dJ9_min_7cf53_9 (pc' := 10) rfl ?_
    refine gk_iret dJ9_min_7cf53_10 rfl hQ
  · rw [if_neg c2] at hQ
    refine gk_iload0 dJ9_min_7cf53_5 (pc' := 6) rfl ?_
    refine gk_goto dJ9_min_7cf53_6 (tgt := 10) (by decide) ?_
    refine gk_iret dJ9_min_7cf53_10 rfl hQ
theorem sp_Math_max {x y : Int32} (hQ : Q (some (.int (if x < y then y else x))) h) : Gm (kx X) mt_Math_max d b [.int x, .int y] h Q := by
  refine Gm.enterJ (L := [some (.int x), some (.int y)]) (by decide +kernel) (fun _ => trivial) (Nat.le_of_ble_eq_true rfl) rfl ?_
  refine gk_iload0 dJ9_max_7cf53_0 (pc' := 1) rfl ?_
  refine gk_iload1 dJ9_max_7cf53_1 (pc' := 2) rfl ?_
  refine gk_icmp_lt dJ9_max_7cf53_2 (tgt := 9) (pc' := 5) (by decide) rfl (fun c2 => ?_) (fun c2 => ?_)
  · rw [if_pos c2] at hQ
    refine gk_iload1 dJ9_max_7cf53_9 (pc' := 10) rfl ?_
    refine gk_iret dJ9_max_7cf53_10 rfl hQ
  · rw [if_neg c2] at hQ
    refine gk_iload0 dJ9_max_7cf53_5 (pc' := 6) rfl ?_
    refine gk_goto dJ9_max_7cf53_6 (tgt := 10) (by decide) ?_
    refine gk_iret dJ9_max_7cf53_10 rfl hQ
theorem sp_Math_minL {x y : Int64} (hQ : ∀ r : Int64, r.toInt = min x.toInt y.toInt → Q (some (.long r)) h) : Gm (kx X) mt_Math_minL d b [.long x, .long y] h Q := by
  refine Gm.enterJ (L := [some (.long x), none, some (.long y), none]) (by decide +kernel) (fun _ => trivial) (Nat.le_of_ble_eq_true rfl) rfl ?_
  refine gk_lload0 dJ9_min_f86c9_0 (pc' := 1) rfl ?_
  refine gk_lload2 dJ9_min_f86c9_1 (pc' := 2) rfl ?_
  refine gk_lcmp dJ9_min_f86c9_2 (pc' := 3) rfl ?_
  refine gk_if_gt dJ9_min_f86c9_3 (tgt := 10) (pc' := 6) (by decide) rfl (fun c3 => ?_) (fun c3 => ?_)
  · rw [pu_cmp_gt] at c3
    refine gk_lload2 dJ9_min_f86c9_10 (pc' := 11) rfl ?_
    refine gk_lret dJ9_min_f86c9_11 rfl (hQ _ (by omega))
  · rw [pu_cmp_gt] at c3
    refine gk_lload0 dJ9_min_f86c9_6 (pc' := 7) rfl ?_
    refine gk_goto dJ9_min_f86c9_7 (tgt := 11) (by decide) ?_
    refine gk_lret dJ9_min_f86c9_11 rfl (hQ _ (by omega))
theorem sp_Math_maxL {x y : Int64} (hQ : ∀ r : Int64, r.toInt = max x.toInt y.toInt → Q (some (.long r)) h) : Gm (kx X) mt_Math_maxL d b [.long x, .long y] h Q := by
  refine Gm.enterJ (L := [some (.long x), none, some (.long y), none]) (by decide +kernel) (fun _ => trivial) (Nat.le_of_ble_eq_true rfl) rfl ?_
  refine gk_lload0 dJ9_max_f86c9_0 (pc' := 1) rfl ?_
  refine gk_lload2 dJ9_max_f86c9_1 (pc' := 2) rfl ?_
  refine gk_lcmp dJ9_max_f86c9_2 (pc' := 3) rfl ?_
  refine gk_if_lt dJ9_max_f86c9_3 (tgt := 10) (pc' := 6) (by decide) rfl (fun c3 => ?_) (fun c3 => ?_)
  · rw [pu_cmp_lt] at c3
    refine gk_lload2 dJ9_max_f86c9_10 (pc' := 11) rfl ?_
    refine gk_lret dJ9_max_f86c9_11 rfl (hQ _ (by omega))
  · rw [pu_cmp_lt] at c3
    refine gk_lload0 dJ9_max_f86c9_6 (pc' := 7) rfl ?_
    refine gk_goto dJ9_max_f86c9_7 (tgt := 11) (by decide) ?_
    refine gk_lret dJ9_max_f86c9_11 rfl (hQ _ (by omega))
theorem sp_Math_abs {x : Int32} (hQ : Q (some (.int (if x < 0 then -x else x))) h) : Gm (kx X) mt_Math_abs d b [.int x] h Q := by
  refine Gm.enterJ (L := [some (.int x)]) (by decide +kernel) (fun _ => trivial) (Nat.le_of_ble_eq_true rfl) rfl ?_
  refine gk_iload0 dJ9_abs_0f7a4_0 (pc' := 1) rfl ?_
  refine gk_if_ge dJ9_abs_0f7a4_1 (tgt := 9) (pc' := 4) (by decide) rfl (fun c1 => ?_) (fun c1 => ?_)
  · rw [if_neg (fun q => by rw [pu_lt] at q; rw [pu_le] at c1; omega)] at hQ
    refine gk_iload0 dJ9_abs_0f7a4_9 (pc' := 10) rfl ?_
    refine gk_iret dJ9_abs_0f7a4_10 rfl hQ
  · rw [if_pos (by rw [pu_lt]; rw [pu_le] at c1; omega)] at hQ
    refine gk_iload0 dJ9_abs_0f7a4_4 (pc' := 5) rfl ?_
    refine gk_ineg dJ9_abs_0f7a4_5 (pc' := 6) rfl ?_
    refine gk_goto dJ9_abs_0f7a4_6 (tgt := 10) (by decide) ?_
    refine gk_iret dJ9_abs_0f7a4_10 rfl hQ
end JdkA
