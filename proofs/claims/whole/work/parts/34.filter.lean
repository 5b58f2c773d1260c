/-! ===== the call filter ===== -/
abbrev okT (F : Ft) (k a c : Int32) : Prop := ((k = 0 ∨ k = 2) ∧ iR (-100000) 100000 a) ∨ k = 1 ∨ (k = 3 ∧ iR (-100000) 100000 a ∧ iR 1 1000 c) ∨ (k = 4 ∧ iR 1 1000 a) ∨ (k = 5 ∧ iR 0 8 a) ∨ ((k = 6 ∨ k = 8) ∧ isF F a ∧ isF F c) ∨ (k = 7 ∧ iR 0 5 a ∧ isF F c)
def hgO (F : Ft) (k a c : Int32) : Nat := 1 + max (if k = 6 ∨ k = 8 then F.2.2.2.2.1 a.toInt.toNat else 0) (if k = 6 ∨ k = 7 ∨ k = 8 then F.2.2.2.2.1 c.toInt.toNat else 0)
def adF (F : Ft) (k a c : Int32) : Ft := (F.1 + 1, upd F.2.1 F.1 k, upd F.2.2.1 F.1 a, upd F.2.2.2.1 F.1 c, fun i => if i = F.1 then hgO F k a c else F.2.2.2.2.1 i, fun i => if i = F.1 then fun _ => 0 else F.2.2.2.2.2 i)
def oFilter (S : St) (k a c : Int32) : Int32 × St := if okT S.2.1 k a c ∧ hgO S.2.1 k a c ≤ 4 then (if S.2.1.1 = 24 then (-100003, S) else (nI S.2.1.1, (S.1, adF S.2.1 k a c, S.2.2))) else (-100001, S)
section FlI
variable {X : gX} {d : Nat} {b : Nat × Nat} {h h' : gk_H} {Q : Option Value → gk_H → Prop} {r F0 : Nat} {H : Hi} {F : Ft} {S : St} {pc mc : Nat → Nat}
theorem sp_Filter_initA {a hg : Nat} {k a1 b1 : Int32} {x1 : Nat} (ha : h.1 a = some (.inr (2, [.int 0, .int 0, .int 0, .int 0, .null, .null, .null]))) (hs : h.2 = a + 1) (hQ : ∀ h', isFl X h' a k a1 b1 hg (some x1) (none) (fun _ => 0) → (∀ c, c ≠ a → c ≠ a + 1 → h'.1 c = h.1 c) → h'.2 = a + 2 → Q none h') : Gm (kx X) mt_Filter_init (d + 1) (1, 9) [.ref a, .int k, .int a1, .int b1, .int (nI hg), .ref x1, .null] h Q := by
  have fin : ∀ n, n = (if k = 4 then 9 else 0) → ∀ hz : gk_H, hz = gk_set (gk_set (gk_set (gk_set (gk_set (gk_set h a (.inr (2, [.int k, .int 0, .int 0, .int 0, .null, .null, .null]))) a (.inr (2, [.int k, .int a1, .int 0, .int 0, .null, .null, .null]))) a (.inr (2, [.int k, .int a1, .int b1, .int 0, .null, .null, .null]))) a (.inr (2, [.int k, .int a1, .int b1, .int (nI hg), .null, .null, .null]))) a (.inr (2, [.int k, .int a1, .int b1, .int (nI hg), .ref x1, .null, .null]))) a (.inr (2, [.int k, .int a1, .int b1, .int (nI hg), .ref x1, .null, .null])) → Q none (gk_set (gk_new hz (cI X n (fun _ => 0))) a (.inr (2, [.int k, .int a1, .int b1, .int (nI hg), .ref x1, .null, .ref (a + 1)]))) := by
    intro n hn hz ez
    have z2 : hz.2 = a + 1 := by rw [ez]; exact hs
    refine hQ _ ⟨gk_set_self, fun _ => 0, ?_, fun _ _ _ => rfl⟩ (fun c n1 n2 => ?_) ?_
    · rw [gk_set_ne (by omega), ← z2, ← hn]; exact gk_new_self
    · rw [gk_set_ne n1, gk_new_ne (by omega), ez, gk_set_ne n1, gk_set_ne n1, gk_set_ne n1, gk_set_ne n1, gk_set_ne n1, gk_set_ne n1]
    · show hz.2 + 1 = a + 2
      omega
  refine Gm.enter (L := [some (.ref a), some (.int k), some (.int a1), some (.int b1), some (.int (nI hg)), some (.ref x1), some (.null)]) (by decide) (fun _ => trivial) (Nat.le_of_ble_eq_true rfl) rfl ?_
  refine gk_aload0 dX2_init_0 (pc' := 1) rfl ?_
  refine gk_objInit gw_430 gw_23 gw_24 dX2_init_1 (pc' := 4) rfl (Nat.le_of_ble_eq_true rfl) ?_
  refine gk_aload0 dX2_init_4 (pc' := 5) rfl ?_
  refine gk_iload1 dX2_init_5 (pc' := 6) rfl ?_
  refine gk_putF (fs := [_, _, _, _, _, _, _]) gP_Filter_9 rfl dX2_init_6 (pc' := 9) rfl (by assumption) rfl rfl (Nat.le_of_ble_eq_true rfl) ?_
  refine gk_aload0 dX2_init_9 (pc' := 10) rfl ?_
  refine gk_iload2 dX2_init_10 (pc' := 11) rfl ?_
  refine gk_putF (fs := [_, _, _, _, _, _, _]) gP_Filter_15 rfl dX2_init_11 (pc' := 14) rfl (by exact (gk_set_self)) rfl rfl (Nat.le_of_ble_eq_true rfl) ?_
  refine gk_aload0 dX2_init_14 (pc' := 15) rfl ?_
  refine gk_iload3 dX2_init_15 (pc' := 16) rfl ?_
  refine gk_putF (fs := [_, _, _, _, _, _, _]) gP_Filter_18 rfl dX2_init_16 (pc' := 19) rfl (by exact (gk_set_self)) rfl rfl (Nat.le_of_ble_eq_true rfl) ?_
  refine gk_aload0 dX2_init_19 (pc' := 20) rfl ?_
  refine gk_iload4 dX2_init_20 (pc' := 22) rfl ?_
  refine gk_putF (fs := [_, _, _, _, _, _, _]) gP_Filter_21 rfl dX2_init_22 (pc' := 25) rfl (by exact (gk_set_self)) rfl rfl (Nat.le_of_ble_eq_true rfl) ?_
  refine gk_aload0 dX2_init_25 (pc' := 26) rfl ?_
  refine gk_aload5 dX2_init_26 (pc' := 28) rfl ?_
  refine gk_putF (fs := [_, _, _, _, _, _, _]) gP_Filter_24 rfl dX2_init_28 (pc' := 31) rfl (by exact (gk_set_self)) rfl rfl (Nat.le_of_ble_eq_true rfl) ?_
  refine gk_aload0 dX2_init_31 (pc' := 32) rfl ?_
  refine gk_aloadN6 dX2_init_32 (pc' := 34) rfl ?_
  refine gk_putF (fs := [_, _, _, _, _, _, _]) gP_Filter_28 rfl dX2_init_34 (pc' := 37) rfl (by exact (gk_set_self)) rfl rfl (Nat.le_of_ble_eq_true rfl) ?_
  refine gk_aload0 dX2_init_37 (pc' := 38) rfl ?_
  refine gk_iload1 dX2_init_38 (pc' := 39) rfl ?_
  refine gk_iconst (v := 4) dX2_init_39 (pc' := 40) rfl (by decide) ?_
  refine gk_icmp_ne dX2_init_40 (tgt := 48) (pc' := 43) (by decide) rfl (fun c40 => ?_) (fun c40 => ?_)
  · have c40 : ¬ k = 4 := c40
    refine gk_iconst (v := 0) dX2_init_48 (pc' := 49) rfl (by decide) ?_
    refine gk_newi (n := 0) (bc := 0) (bs := 9) (t0 := 0) rfl gw_61 dX2_init_49 (pc' := 51) rfl rfl (by decide) ?_
    refine gk_putF (fs := [_, _, _, _, _, _, _]) gP_Filter_31 rfl dX2_init_51 (pc' := 54) rfl (by exact (gk_new_ne (by show a ≠ h.2; omega)).trans gk_set_self) rfl rfl (Nat.le_of_ble_eq_true rfl) ?_
    refine gk_vret dX2_init_54 rfl ?_
    have := fin 0 (if_neg c40).symm _ rfl
    rw [show (Value.ref (a + 1)) = Value.ref h.2 by rw [hs]] at this
    exact this
  · have c40 : k = 4 := c40
    refine gk_bipush (v := 9) dX2_init_43 (pc' := 45) rfl (by decide) ?_
    refine gk_goto dX2_init_45 (tgt := 49) (by decide) ?_
    refine gk_newi (n := 9) (bc := 0) (bs := 0) (t0 := 0) rfl gw_61 dX2_init_49 (pc' := 51) rfl rfl (by decide) ?_
    refine gk_putF (fs := [_, _, _, _, _, _, _]) gP_Filter_31 rfl dX2_init_51 (pc' := 54) rfl (by exact ((gk_new_ne (by show a ≠ h.2; omega)).trans gk_set_self)) rfl rfl (Nat.le_of_ble_eq_true rfl) ?_
    refine gk_vret dX2_init_54 rfl (by have := fin 9 (if_pos c40).symm _ rfl; rw [show (Value.ref (a + 1)) = Value.ref h.2 by rw [hs]] at this; exact this)
theorem sp_Filter_initB {a hg : Nat} {k a1 b1 : Int32} {x1 x2 : Nat} (ha : h.1 a = some (.inr (2, [.int 0, .int 0, .int 0, .int 0, .null, .null, .null]))) (hs : h.2 = a + 1) (hQ : ∀ h', isFl X h' a k a1 b1 hg (some x1) (some x2) (fun _ => 0) → (∀ c, c ≠ a → c ≠ a + 1 → h'.1 c = h.1 c) → h'.2 = a + 2 → Q none h') : Gm (kx X) mt_Filter_init (d + 1) (1, 9) [.ref a, .int k, .int a1, .int b1, .int (nI hg), .ref x1, .ref x2] h Q := by
  have fin : ∀ n, n = (if k = 4 then 9 else 0) → ∀ hz : gk_H, hz = gk_set (gk_set (gk_set (gk_set (gk_set (gk_set h a (.inr (2, [.int k, .int 0, .int 0, .int 0, .null, .null, .null]))) a (.inr (2, [.int k, .int a1, .int 0, .int 0, .null, .null, .null]))) a (.inr (2, [.int k, .int a1, .int b1, .int 0, .null, .null, .null]))) a (.inr (2, [.int k, .int a1, .int b1, .int (nI hg), .null, .null, .null]))) a (.inr (2, [.int k, .int a1, .int b1, .int (nI hg), .ref x1, .null, .null]))) a (.inr (2, [.int k, .int a1, .int b1, .int (nI hg), .ref x1, .ref x2, .null])) → Q none (gk_set (gk_new hz (cI X n (fun _ => 0))) a (.inr (2, [.int k, .int a1, .int b1, .int (nI hg), .ref x1, .ref x2, .ref (a + 1)]))) := by
    intro n hn hz ez
    have z2 : hz.2 = a + 1 := by rw [ez]; exact hs
    refine hQ _ ⟨gk_set_self, fun _ => 0, ?_, fun _ _ _ => rfl⟩ (fun c n1 n2 => ?_) ?_
    · rw [gk_set_ne (by omega), ← z2, ← hn]; exact gk_new_self
    · rw [gk_set_ne n1, gk_new_ne (by omega), ez, gk_set_ne n1, gk_set_ne n1, gk_set_ne n1, gk_set_ne n1, gk_set_ne n1, gk_set_ne n1]
    · show hz.2 + 1 = a + 2
      omega
  refine Gm.enter (L := [some (.ref a), some (.int k), some (.int a1), some (.int b1), some (.int (nI hg)), some (.ref x1), some (.ref x2)]) (by decide) (fun _ => trivial) (Nat.le_of_ble_eq_true rfl) rfl ?_
  refine gk_aload0 dX2_init_0 (pc' := 1) rfl ?_
  refine gk_objInit gw_430 gw_23 gw_24 dX2_init_1 (pc' := 4) rfl (Nat.le_of_ble_eq_true rfl) ?_
  refine gk_aload0 dX2_init_4 (pc' := 5) rfl ?_
  refine gk_iload1 dX2_init_5 (pc' := 6) rfl ?_
  refine gk_putF (fs := [_, _, _, _, _, _, _]) gP_Filter_9 rfl dX2_init_6 (pc' := 9) rfl (by assumption) rfl rfl (Nat.le_of_ble_eq_true rfl) ?_
  refine gk_aload0 dX2_init_9 (pc' := 10) rfl ?_
  refine gk_iload2 dX2_init_10 (pc' := 11) rfl ?_
  refine gk_putF (fs := [_, _, _, _, _, _, _]) gP_Filter_15 rfl dX2_init_11 (pc' := 14) rfl (by exact (gk_set_self)) rfl rfl (Nat.le_of_ble_eq_true rfl) ?_
  refine gk_aload0 dX2_init_14 (pc' := 15) rfl ?_
  refine gk_iload3 dX2_init_15 (pc' := 16) rfl ?_
  refine gk_putF (fs := [_, _, _, _, _, _, _]) gP_Filter_18 rfl dX2_init_16 (pc' := 19) rfl (by exact (gk_set_self)) rfl rfl (Nat.le_of_ble_eq_true rfl) ?_
  refine gk_aload0 dX2_init_19 (pc' := 20) rfl ?_
  refine gk_iload4 dX2_init_20 (pc' := 22) rfl ?_
  refine gk_putF (fs := [_, _, _, _, _, _, _]) gP_Filter_21 rfl dX2_init_22 (pc' := 25) rfl (by exact (gk_set_self)) rfl rfl (Nat.le_of_ble_eq_true rfl) ?_
  refine gk_aload0 dX2_init_25 (pc' := 26) rfl ?_
  refine gk_aload5 dX2_init_26 (pc' := 28) rfl ?_
  refine gk_putF (fs := [_, _, _, _, _, _, _]) gP_Filter_24 rfl dX2_init_28 (pc' := 31) rfl (by exact (gk_set_self)) rfl rfl (Nat.le_of_ble_eq_true rfl) ?_
  refine gk_aload0 dX2_init_31 (pc' := 32) rfl ?_
  refine gk_aload6 dX2_init_32 (pc' := 34) rfl ?_
  refine gk_putF (fs := [_, _, _, _, _, _, _]) gP_Filter_28 rfl dX2_init_34 (pc' := 37) rfl (by exact (gk_set_self)) rfl rfl (Nat.le_of_ble_eq_true rfl) ?_
  refine gk_aload0 dX2_init_37 (pc' := 38) rfl ?_
  refine gk_iload1 dX2_init_38 (pc' := 39) rfl ?_
  refine gk_iconst (v := 4) dX2_init_39 (pc' := 40) rfl (by decide) ?_
  refine gk_icmp_ne dX2_init_40 (tgt := 48) (pc' := 43) (by decide) rfl (fun c40 => ?_) (fun c40 => ?_)
  · have c40 : ¬ k = 4 := c40
    refine gk_iconst (v := 0) dX2_init_48 (pc' := 49) rfl (by decide) ?_
    refine gk_newi (n := 0) (bc := 0) (bs := 9) (t0 := 0) rfl gw_61 dX2_init_49 (pc' := 51) rfl rfl (by decide) ?_
    refine gk_putF (fs := [_, _, _, _, _, _, _]) gP_Filter_31 rfl dX2_init_51 (pc' := 54) rfl (by exact (gk_new_ne (by show a ≠ h.2; omega)).trans gk_set_self) rfl rfl (Nat.le_of_ble_eq_true rfl) ?_
    refine gk_vret dX2_init_54 rfl ?_
    have := fin 0 (if_neg c40).symm _ rfl
    rw [show (Value.ref (a + 1)) = Value.ref h.2 by rw [hs]] at this
    exact this
  · have c40 : k = 4 := c40
    refine gk_bipush (v := 9) dX2_init_43 (pc' := 45) rfl (by decide) ?_
    refine gk_goto dX2_init_45 (tgt := 49) (by decide) ?_
    refine gk_newi (n := 9) (bc := 0) (bs := 0) (t0 := 0) rfl gw_61 dX2_init_49 (pc' := 51) rfl rfl (by decide) ?_
    refine gk_putF (fs := [_, _, _, _, _, _, _]) gP_Filter_31 rfl dX2_init_51 (pc' := 54) rfl (by exact ((gk_new_ne (by show a ≠ h.2; omega)).trans gk_set_self)) rfl rfl (Nat.le_of_ble_eq_true rfl) ?_
    refine gk_vret dX2_init_54 rfl (by have := fin 9 (if_pos c40).symm _ rfl; rw [show (Value.ref (a + 1)) = Value.ref h.2 by rw [hs]] at this; exact this)
theorem sp_Filter_initC {a hg : Nat} {k a1 b1 : Int32} (ha : h.1 a = some (.inr (2, [.int 0, .int 0, .int 0, .int 0, .null, .null, .null]))) (hs : h.2 = a + 1) (hQ : ∀ h', isFl X h' a k a1 b1 hg (none) (none) (fun _ => 0) → (∀ c, c ≠ a → c ≠ a + 1 → h'.1 c = h.1 c) → h'.2 = a + 2 → Q none h') : Gm (kx X) mt_Filter_init (d + 1) (1, 9) [.ref a, .int k, .int a1, .int b1, .int (nI hg), .null, .null] h Q := by
  have fin : ∀ n, n = (if k = 4 then 9 else 0) → ∀ hz : gk_H, hz = gk_set (gk_set (gk_set (gk_set (gk_set (gk_set h a (.inr (2, [.int k, .int 0, .int 0, .int 0, .null, .null, .null]))) a (.inr (2, [.int k, .int a1, .int 0, .int 0, .null, .null, .null]))) a (.inr (2, [.int k, .int a1, .int b1, .int 0, .null, .null, .null]))) a (.inr (2, [.int k, .int a1, .int b1, .int (nI hg), .null, .null, .null]))) a (.inr (2, [.int k, .int a1, .int b1, .int (nI hg), .null, .null, .null]))) a (.inr (2, [.int k, .int a1, .int b1, .int (nI hg), .null, .null, .null])) → Q none (gk_set (gk_new hz (cI X n (fun _ => 0))) a (.inr (2, [.int k, .int a1, .int b1, .int (nI hg), .null, .null, .ref (a + 1)]))) := by
    intro n hn hz ez
    have z2 : hz.2 = a + 1 := by rw [ez]; exact hs
    refine hQ _ ⟨gk_set_self, fun _ => 0, ?_, fun _ _ _ => rfl⟩ (fun c n1 n2 => ?_) ?_
    · rw [gk_set_ne (by omega), ← z2, ← hn]; exact gk_new_self
    · rw [gk_set_ne n1, gk_new_ne (by omega), ez, gk_set_ne n1, gk_set_ne n1, gk_set_ne n1, gk_set_ne n1, gk_set_ne n1, gk_set_ne n1]
    · show hz.2 + 1 = a + 2
      omega
  refine Gm.enter (L := [some (.ref a), some (.int k), some (.int a1), some (.int b1), some (.int (nI hg)), some (.null), some (.null)]) (by decide) (fun _ => trivial) (Nat.le_of_ble_eq_true rfl) rfl ?_
  refine gk_aload0 dX2_init_0 (pc' := 1) rfl ?_
  refine gk_objInit gw_430 gw_23 gw_24 dX2_init_1 (pc' := 4) rfl (Nat.le_of_ble_eq_true rfl) ?_
  refine gk_aload0 dX2_init_4 (pc' := 5) rfl ?_
  refine gk_iload1 dX2_init_5 (pc' := 6) rfl ?_
  refine gk_putF (fs := [_, _, _, _, _, _, _]) gP_Filter_9 rfl dX2_init_6 (pc' := 9) rfl (by assumption) rfl rfl (Nat.le_of_ble_eq_true rfl) ?_
  refine gk_aload0 dX2_init_9 (pc' := 10) rfl ?_
  refine gk_iload2 dX2_init_10 (pc' := 11) rfl ?_
  refine gk_putF (fs := [_, _, _, _, _, _, _]) gP_Filter_15 rfl dX2_init_11 (pc' := 14) rfl (by exact (gk_set_self)) rfl rfl (Nat.le_of_ble_eq_true rfl) ?_
  refine gk_aload0 dX2_init_14 (pc' := 15) rfl ?_
  refine gk_iload3 dX2_init_15 (pc' := 16) rfl ?_
  refine gk_putF (fs := [_, _, _, _, _, _, _]) gP_Filter_18 rfl dX2_init_16 (pc' := 19) rfl (by exact (gk_set_self)) rfl rfl (Nat.le_of_ble_eq_true rfl) ?_
  refine gk_aload0 dX2_init_19 (pc' := 20) rfl ?_
  refine gk_iload4 dX2_init_20 (pc' := 22) rfl ?_
  refine gk_putF (fs := [_, _, _, _, _, _, _]) gP_Filter_21 rfl dX2_init_22 (pc' := 25) rfl (by exact (gk_set_self)) rfl rfl (Nat.le_of_ble_eq_true rfl) ?_
  refine gk_aload0 dX2_init_25 (pc' := 26) rfl ?_
  refine gk_aloadN5 dX2_init_26 (pc' := 28) rfl ?_
  refine gk_putF (fs := [_, _, _, _, _, _, _]) gP_Filter_24 rfl dX2_init_28 (pc' := 31) rfl (by exact (gk_set_self)) rfl rfl (Nat.le_of_ble_eq_true rfl) ?_
  refine gk_aload0 dX2_init_31 (pc' := 32) rfl ?_
  refine gk_aloadN6 dX2_init_32 (pc' := 34) rfl ?_
  refine gk_putF (fs := [_, _, _, _, _, _, _]) gP_Filter_28 rfl dX2_init_34 (pc' := 37) rfl (by exact (gk_set_self)) rfl rfl (Nat.le_of_ble_eq_true rfl) ?_
  refine gk_aload0 dX2_init_37 (pc' := 38) rfl ?_
  refine gk_iload1 dX2_init_38 (pc' := 39) rfl ?_
  refine gk_iconst (v := 4) dX2_init_39 (pc' := 40) rfl (by decide) ?_
  refine gk_icmp_ne dX2_init_40 (tgt := 48) (pc' := 43) (by decide) rfl (fun c40 => ?_) (fun c40 => ?_)
  · have c40 : ¬ k = 4 := c40
    refine gk_iconst (v := 0) dX2_init_48 (pc' := 49) rfl (by decide) ?_
    refine gk_newi (n := 0) (bc := 0) (bs := 9) (t0 := 0) rfl gw_61 dX2_init_49 (pc' := 51) rfl rfl (by decide) ?_
    refine gk_putF (fs := [_, _, _, _, _, _, _]) gP_Filter_31 rfl dX2_init_51 (pc' := 54) rfl (by exact (gk_new_ne (by show a ≠ h.2; omega)).trans gk_set_self) rfl rfl (Nat.le_of_ble_eq_true rfl) ?_
    refine gk_vret dX2_init_54 rfl ?_
    have := fin 0 (if_neg c40).symm _ rfl
    rw [show (Value.ref (a + 1)) = Value.ref h.2 by rw [hs]] at this
    exact this
  · have c40 : k = 4 := c40
    refine gk_bipush (v := 9) dX2_init_43 (pc' := 45) rfl (by decide) ?_
    refine gk_goto dX2_init_45 (tgt := 49) (by decide) ?_
    refine gk_newi (n := 9) (bc := 0) (bs := 0) (t0 := 0) rfl gw_61 dX2_init_49 (pc' := 51) rfl rfl (by decide) ?_
    refine gk_putF (fs := [_, _, _, _, _, _, _]) gP_Filter_31 rfl dX2_init_51 (pc' := 54) rfl (by exact ((gk_new_ne (by show a ≠ h.2; omega)).trans gk_set_self)) rfl rfl (Nat.le_of_ble_eq_true rfl) ?_
    refine gk_vret dX2_init_54 rfl (by have := fin 9 (if_pos c40).symm _ rfl; rw [show (Value.ref (a + 1)) = Value.ref h.2 by rw [hs]] at this; exact this)
theorem sp_Room_isFilterTold {k a c : Int32} (hR : Rm X h r F0 H F pc mc) (ht : okT F k a c → Q (some (.int 1)) h) (hf : ¬ okT F k a c → Q (some (.int 0)) h) : Gm (kx X) mt_Room_isFilterTold (d + 2) b [.ref r, .int k, .int a, .int c] h Q := by
  have a1 := hR.obj
  have zm : (-100000 : Int32).toInt = -100000 := rfl
  have zk : (100000 : Int32).toInt = 100000 := rfl
  have z0 : (0 : Int32).toInt = 0 := rfl
  have z1 : (1 : Int32).toInt = 1 := rfl
  have z8 : (8 : Int32).toInt = 8 := rfl
  have z1k : (1000 : Int32).toInt = 1000 := rfl
  have e : ∀ m n : Nat, m < 9 → n < 9 → m ≠ n → ¬ nI m = nI n := fun m n hm hn hne q => hne (nI_inj (by omega) (by omega) q)
  by_cases hk : 0 ≤ k.toInt ∧ k.toInt < 9
  · obtain ⟨j, hj, rfl⟩ := pu_of (x := k) (n := 9) hk.1 hk.2 (by omega)
    have e0 : (nI j = 0 ↔ j = 0) := nI_eq (b := 0) (by omega) (by omega)
    have e1 : (nI j = 1 ↔ j = 1) := nI_eq (b := 1) (by omega) (by omega)
    have e2 : (nI j = 2 ↔ j = 2) := nI_eq (b := 2) (by omega) (by omega)
    have e3 : (nI j = 3 ↔ j = 3) := nI_eq (b := 3) (by omega) (by omega)
    have e4 : (nI j = 4 ↔ j = 4) := nI_eq (b := 4) (by omega) (by omega)
    have e5 : (nI j = 5 ↔ j = 5) := nI_eq (b := 5) (by omega) (by omega)
    have e6 : (nI j = 6 ↔ j = 6) := nI_eq (b := 6) (by omega) (by omega)
    have e7 : (nI j = 7 ↔ j = 7) := nI_eq (b := 7) (by omega) (by omega)
    have e8 : (nI j = 8 ↔ j = 8) := nI_eq (b := 8) (by omega) (by omega)
    unfold okT at ht hf
    rw [e0, e1, e2, e3, e4, e5, e6, e7, e8] at ht hf
    refine Gm.enter (L := [some (.ref r), some (.int (nI j)), some (.int a), some (.int c)]) (by decide) (fun _ => trivial) (Nat.le_of_ble_eq_true rfl) rfl ?_
    clear hk
    rcases (show j = 0 ∨ j = 1 ∨ j = 2 ∨ j = 3 ∨ j = 4 ∨ j = 5 ∨ j = 6 ∨ j = 7 ∨ j = 8 by omega) with rfl | rfl | rfl | rfl | rfl | rfl | rfl | rfl | rfl
    · refine gk_iload1 dX10_isFilterTold_0 (pc' := 1) rfl ?_
      refine gk_tableIn dX10_isFilterTold_1 (tgt := 52) (off := 51) (by decide) (by decide) (by decide +kernel) (by decide) ?_
      refine gk_iload2 dX10_isFilterTold_52 (pc' := 53) rfl ?_
      refine gk_ldcw dX10_isFilterTold_53 (pc' := 56) rfl gw_415 ?_
      refine gk_ldcw dX10_isFilterTold_56 (pc' := 59) rfl gw_416 ?_
      refine gk_cS1_3 mz_Room_within gw_240 dX10_isFilterTold_59 (pc' := 62) rfl (Nat.le_of_ble_eq_true rfl) (sp_Room_within (fun u59 v59 => ?_) (fun n59 => ?_))
      · refine ⟨_, rfl, ?_⟩
        refine gk_zret dX10_isFilterTold_62 rfl rfl (by first | exact ht (by omega) | exact hf (by omega))
      · refine ⟨_, rfl, ?_⟩
        refine gk_zret dX10_isFilterTold_62 rfl rfl (by first | exact ht (by omega) | exact hf (by omega))
    · refine gk_iload1 dX10_isFilterTold_0 (pc' := 1) rfl ?_
      refine gk_tableIn dX10_isFilterTold_1 (tgt := 63) (off := 62) (by decide) (by decide) (by decide +kernel) (by decide) ?_
      refine gk_iconst (v := 1) dX10_isFilterTold_63 (pc' := 64) rfl (by decide) ?_
      refine gk_zret dX10_isFilterTold_64 rfl rfl (by first | exact ht (by omega) | exact hf (by omega))
    · refine gk_iload1 dX10_isFilterTold_0 (pc' := 1) rfl ?_
      refine gk_tableIn dX10_isFilterTold_1 (tgt := 52) (off := 51) (by decide) (by decide) (by decide +kernel) (by decide) ?_
      refine gk_iload2 dX10_isFilterTold_52 (pc' := 53) rfl ?_
      refine gk_ldcw dX10_isFilterTold_53 (pc' := 56) rfl gw_415 ?_
      refine gk_ldcw dX10_isFilterTold_56 (pc' := 59) rfl gw_416 ?_
      refine gk_cS1_3 mz_Room_within gw_240 dX10_isFilterTold_59 (pc' := 62) rfl (Nat.le_of_ble_eq_true rfl) (sp_Room_within (fun u59 v59 => ?_) (fun n59 => ?_))
      · refine ⟨_, rfl, ?_⟩
        refine gk_zret dX10_isFilterTold_62 rfl rfl (by first | exact ht (by omega) | exact hf (by omega))
      · refine ⟨_, rfl, ?_⟩
        refine gk_zret dX10_isFilterTold_62 rfl rfl (by first | exact ht (by omega) | exact hf (by omega))
    · refine gk_iload1 dX10_isFilterTold_0 (pc' := 1) rfl ?_
      refine gk_tableIn dX10_isFilterTold_1 (tgt := 65) (off := 64) (by decide) (by decide) (by decide +kernel) (by decide) ?_
      refine gk_iload2 dX10_isFilterTold_65 (pc' := 66) rfl ?_
      refine gk_ldcw dX10_isFilterTold_66 (pc' := 69) rfl gw_415 ?_
      refine gk_ldcw dX10_isFilterTold_69 (pc' := 72) rfl gw_416 ?_
      refine gk_cS1_3 mz_Room_within gw_240 dX10_isFilterTold_72 (pc' := 75) rfl (Nat.le_of_ble_eq_true rfl) (sp_Room_within (fun u72 v72 => ?_) (fun n72 => ?_))
      · refine ⟨_, rfl, ?_⟩
        refine gk_if_eq dX10_isFilterTold_75 (tgt := 93) (pc' := 78) (by decide) rfl (fun c => absurd c (by decide)) (fun _ => ?_)
        refine gk_iload3 dX10_isFilterTold_78 (pc' := 79) rfl ?_
        refine gk_iconst (v := 1) dX10_isFilterTold_79 (pc' := 80) rfl (by decide) ?_
        refine gk_sipush (v := 1000) dX10_isFilterTold_80 (pc' := 83) rfl (by decide) ?_
        refine gk_cS1_3 mz_Room_within gw_240 dX10_isFilterTold_83 (pc' := 86) rfl (Nat.le_of_ble_eq_true rfl) (sp_Room_within (fun u83 v83 => ?_) (fun n83 => ?_))
        · refine ⟨_, rfl, ?_⟩
          refine gk_if_eq dX10_isFilterTold_86 (tgt := 93) (pc' := 89) (by decide) rfl (fun c => absurd c (by decide)) (fun _ => ?_)
          refine gk_iconst (v := 1) dX10_isFilterTold_89 (pc' := 90) rfl (by decide) ?_
          refine gk_goto dX10_isFilterTold_90 (tgt := 94) (by decide) ?_
          refine gk_zret dX10_isFilterTold_94 rfl rfl (by first | exact ht (by omega) | exact hf (by omega))
        · refine ⟨_, rfl, ?_⟩
          refine gk_if_eq dX10_isFilterTold_86 (tgt := 93) (pc' := 89) (by decide) rfl (fun _ => ?_) (fun c => absurd c (by decide))
          refine gk_iconst (v := 0) dX10_isFilterTold_93 (pc' := 94) rfl (by decide) ?_
          refine gk_zret dX10_isFilterTold_94 rfl rfl (by first | exact ht (by omega) | exact hf (by omega))
      · refine ⟨_, rfl, ?_⟩
        refine gk_if_eq dX10_isFilterTold_75 (tgt := 93) (pc' := 78) (by decide) rfl (fun _ => ?_) (fun c => absurd c (by decide))
        refine gk_iconst (v := 0) dX10_isFilterTold_93 (pc' := 94) rfl (by decide) ?_
        refine gk_zret dX10_isFilterTold_94 rfl rfl (by first | exact ht (by omega) | exact hf (by omega))
    · refine gk_iload1 dX10_isFilterTold_0 (pc' := 1) rfl ?_
      refine gk_tableIn dX10_isFilterTold_1 (tgt := 95) (off := 94) (by decide) (by decide) (by decide +kernel) (by decide) ?_
      refine gk_iload2 dX10_isFilterTold_95 (pc' := 96) rfl ?_
      refine gk_iconst (v := 1) dX10_isFilterTold_96 (pc' := 97) rfl (by decide) ?_
      refine gk_sipush (v := 1000) dX10_isFilterTold_97 (pc' := 100) rfl (by decide) ?_
      refine gk_cS1_3 mz_Room_within gw_240 dX10_isFilterTold_100 (pc' := 103) rfl (Nat.le_of_ble_eq_true rfl) (sp_Room_within (fun u100 v100 => ?_) (fun n100 => ?_))
      · refine ⟨_, rfl, ?_⟩
        refine gk_zret dX10_isFilterTold_103 rfl rfl (by first | exact ht (by omega) | exact hf (by omega))
      · refine ⟨_, rfl, ?_⟩
        refine gk_zret dX10_isFilterTold_103 rfl rfl (by first | exact ht (by omega) | exact hf (by omega))
    · refine gk_iload1 dX10_isFilterTold_0 (pc' := 1) rfl ?_
      refine gk_tableIn dX10_isFilterTold_1 (tgt := 104) (off := 103) (by decide) (by decide) (by decide +kernel) (by decide) ?_
      refine gk_iload2 dX10_isFilterTold_104 (pc' := 105) rfl ?_
      refine gk_iconst (v := 0) dX10_isFilterTold_105 (pc' := 106) rfl (by decide) ?_
      refine gk_bipush (v := 8) dX10_isFilterTold_106 (pc' := 108) rfl (by decide) ?_
      refine gk_cS1_3 mz_Room_within gw_240 dX10_isFilterTold_108 (pc' := 111) rfl (Nat.le_of_ble_eq_true rfl) (sp_Room_within (fun u108 v108 => ?_) (fun n108 => ?_))
      · refine ⟨_, rfl, ?_⟩
        refine gk_zret dX10_isFilterTold_111 rfl rfl (by first | exact ht (by omega) | exact hf (by omega))
      · refine ⟨_, rfl, ?_⟩
        refine gk_zret dX10_isFilterTold_111 rfl rfl (by first | exact ht (by omega) | exact hf (by omega))
    · have gT : isF F a → isF F c → Q (some (.int 1)) h := fun q1 q2 => ht (by omega)
      have gF : ¬ (isF F a ∧ isF F c) → Q (some (.int 0)) h := fun q => hf (by omega)
      have g2 : isF F a → G (kx X) mt_Room_isFilterTold (d + 2) b 120 [some (.ref r), some (.int (nI 6)), some (.int a), some (.int c)] [] h Q := by
        intro qa
        refine gk_aload0 dX10_isFilterTold_120 (pc' := 121) rfl ?_
        refine gk_iload3 dX10_isFilterTold_121 (pc' := 122) rfl ?_
        refine gk_cV1_1 mv_Room_partOf gw_417 dX10_isFilterTold_122 (pc' := 125) rfl (Nat.le_of_ble_eq_true rfl) (by assumption) (sp_Room_partOf hR (fun j hj ej => ?_) (fun nf => ?_))
        · refine ⟨_, rfl, ?_⟩
          refine gk_ifnull dX10_isFilterTold_125 (pc' := 128) rfl ?_
          refine gk_iconst (v := 1) dX10_isFilterTold_128 (pc' := 129) rfl (by decide) ?_
          refine gk_goto dX10_isFilterTold_129 (tgt := 133) (by decide) ?_
          refine gk_zret dX10_isFilterTold_133 rfl rfl (gT qa (by subst ej; have := hR.2.2.2.2.2.2.1; have := nI_toInt (n := j) (by omega); omega))
        · refine ⟨_, rfl, ?_⟩
          refine gk_ifnullN dX10_isFilterTold_125 (tgt := 132) (by decide) ?_
          refine gk_iconst (v := 0) dX10_isFilterTold_132 (pc' := 133) rfl (by decide) ?_
          refine gk_zret dX10_isFilterTold_133 rfl rfl (gF (fun z => nf z.2))
        
      refine gk_iload1 dX10_isFilterTold_0 (pc' := 1) rfl ?_
      refine gk_tableIn dX10_isFilterTold_1 (tgt := 112) (off := 111) (by decide) (by decide) (by decide +kernel) (by decide) ?_
      refine gk_aload0 dX10_isFilterTold_112 (pc' := 113) rfl ?_
      refine gk_iload2 dX10_isFilterTold_113 (pc' := 114) rfl ?_
      refine gk_cV1_1 mv_Room_partOf gw_417 dX10_isFilterTold_114 (pc' := 117) rfl (Nat.le_of_ble_eq_true rfl) (by assumption) (sp_Room_partOf hR (fun j hj ej => ?_) (fun nf => ?_))
      · refine ⟨_, rfl, ?_⟩
        refine gk_ifnull dX10_isFilterTold_117 (pc' := 120) rfl ?_
        exact g2 (by subst ej; have := hR.2.2.2.2.2.2.1; have := nI_toInt (n := j) (by omega); omega)
      · refine ⟨_, rfl, ?_⟩
        refine gk_ifnullN dX10_isFilterTold_117 (tgt := 132) (by decide) ?_
        refine gk_iconst (v := 0) dX10_isFilterTold_132 (pc' := 133) rfl (by decide) ?_
        refine gk_zret dX10_isFilterTold_133 rfl rfl (gF (fun z => nf z.1))
      
    · have gT : iR 0 5 a → isF F c → Q (some (.int 1)) h := fun q1 q2 => ht (by omega)
      have gF : ¬ (iR 0 5 a ∧ isF F c) → Q (some (.int 0)) h := fun q => hf (by omega)
      have g2 : iR 0 5 a → G (kx X) mt_Room_isFilterTold (d + 2) b 141 [some (.ref r), some (.int (nI 7)), some (.int a), some (.int c)] [] h Q := by
        intro qa
        refine gk_aload0 dX10_isFilterTold_141 (pc' := 142) rfl ?_
        refine gk_iload3 dX10_isFilterTold_142 (pc' := 143) rfl ?_
        refine gk_cV1_1 mv_Room_partOf gw_417 dX10_isFilterTold_143 (pc' := 146) rfl (Nat.le_of_ble_eq_true rfl) (by assumption) (sp_Room_partOf hR (fun j hj ej => ?_) (fun nf => ?_))
        · refine ⟨_, rfl, ?_⟩
          refine gk_ifnull dX10_isFilterTold_146 (pc' := 149) rfl ?_
          refine gk_iconst (v := 1) dX10_isFilterTold_149 (pc' := 150) rfl (by decide) ?_
          refine gk_goto dX10_isFilterTold_150 (tgt := 154) (by decide) ?_
          refine gk_zret dX10_isFilterTold_154 rfl rfl (gT qa (by subst ej; have := hR.2.2.2.2.2.2.1; have := nI_toInt (n := j) (by omega); omega))
        · refine ⟨_, rfl, ?_⟩
          refine gk_ifnullN dX10_isFilterTold_146 (tgt := 153) (by decide) ?_
          refine gk_iconst (v := 0) dX10_isFilterTold_153 (pc' := 154) rfl (by decide) ?_
          refine gk_zret dX10_isFilterTold_154 rfl rfl (gF (fun z => nf z.2))
        
      refine gk_iload1 dX10_isFilterTold_0 (pc' := 1) rfl ?_
      refine gk_tableIn dX10_isFilterTold_1 (tgt := 134) (off := 133) (by decide) (by decide) (by decide +kernel) (by decide) ?_
      refine gk_iload2 dX10_isFilterTold_134 (pc' := 135) rfl ?_
      refine gk_cS1_1 mz_Room_isMask gw_421 dX10_isFilterTold_135 (pc' := 138) rfl (Nat.le_of_ble_eq_true rfl) (sp_Room_isMask (fun j hj ej => ?_) (fun nf => ?_))
      · refine ⟨_, rfl, ?_⟩
        have q5 : iR 0 5 a := by subst ej; rw [iR, nI_toInt (by omega)]; omega
        refine gk_if_eq dX10_isFilterTold_138 (tgt := 153) (pc' := 141) (by decide) rfl (fun c => absurd c (by decide)) (fun _ => ?_)
        exact g2 q5
      · refine ⟨_, rfl, ?_⟩
        refine gk_if_eq dX10_isFilterTold_138 (tgt := 153) (pc' := 141) (by decide) rfl (fun _ => ?_) (fun c => absurd c (by decide))
        refine gk_iconst (v := 0) dX10_isFilterTold_153 (pc' := 154) rfl (by decide) ?_
        refine gk_zret dX10_isFilterTold_154 rfl rfl (gF (fun z => nf (by have := z.1; omega)))
    · have gT : isF F a → isF F c → Q (some (.int 1)) h := fun q1 q2 => ht (by omega)
      have gF : ¬ (isF F a ∧ isF F c) → Q (some (.int 0)) h := fun q => hf (by omega)
      have g2 : isF F a → G (kx X) mt_Room_isFilterTold (d + 2) b 120 [some (.ref r), some (.int (nI 8)), some (.int a), some (.int c)] [] h Q := by
        intro qa
        refine gk_aload0 dX10_isFilterTold_120 (pc' := 121) rfl ?_
        refine gk_iload3 dX10_isFilterTold_121 (pc' := 122) rfl ?_
        refine gk_cV1_1 mv_Room_partOf gw_417 dX10_isFilterTold_122 (pc' := 125) rfl (Nat.le_of_ble_eq_true rfl) (by assumption) (sp_Room_partOf hR (fun j hj ej => ?_) (fun nf => ?_))
        · refine ⟨_, rfl, ?_⟩
          refine gk_ifnull dX10_isFilterTold_125 (pc' := 128) rfl ?_
          refine gk_iconst (v := 1) dX10_isFilterTold_128 (pc' := 129) rfl (by decide) ?_
          refine gk_goto dX10_isFilterTold_129 (tgt := 133) (by decide) ?_
          refine gk_zret dX10_isFilterTold_133 rfl rfl (gT qa (by subst ej; have := hR.2.2.2.2.2.2.1; have := nI_toInt (n := j) (by omega); omega))
        · refine ⟨_, rfl, ?_⟩
          refine gk_ifnullN dX10_isFilterTold_125 (tgt := 132) (by decide) ?_
          refine gk_iconst (v := 0) dX10_isFilterTold_132 (pc' := 133) rfl (by decide) ?_
          refine gk_zret dX10_isFilterTold_133 rfl rfl (gF (fun z => nf z.2))
        
      refine gk_iload1 dX10_isFilterTold_0 (pc' := 1) rfl ?_
      refine gk_tableIn dX10_isFilterTold_1 (tgt := 112) (off := 111) (by decide) (by decide) (by decide +kernel) (by decide) ?_
      refine gk_aload0 dX10_isFilterTold_112 (pc' := 113) rfl ?_
      refine gk_iload2 dX10_isFilterTold_113 (pc' := 114) rfl ?_
      refine gk_cV1_1 mv_Room_partOf gw_417 dX10_isFilterTold_114 (pc' := 117) rfl (Nat.le_of_ble_eq_true rfl) (by assumption) (sp_Room_partOf hR (fun j hj ej => ?_) (fun nf => ?_))
      · refine ⟨_, rfl, ?_⟩
        refine gk_ifnull dX10_isFilterTold_117 (pc' := 120) rfl ?_
        exact g2 (by subst ej; have := hR.2.2.2.2.2.2.1; have := nI_toInt (n := j) (by omega); omega)
      · refine ⟨_, rfl, ?_⟩
        refine gk_ifnullN dX10_isFilterTold_117 (tgt := 132) (by decide) ?_
        refine gk_iconst (v := 0) dX10_isFilterTold_132 (pc' := 133) rfl (by decide) ?_
        refine gk_zret dX10_isFilterTold_133 rfl rfl (gF (fun z => nf z.1))
      
  · have hn : ¬ okT F k a c := fun z => by
      unfold okT at z
      have : 0 ≤ k.toInt ∧ k.toInt < 9 := by
        rcases z with ⟨z | z, -⟩ | z | ⟨z, -⟩ | ⟨z, -⟩ | ⟨z, -⟩ | ⟨z | z, -⟩ | ⟨z, -⟩ <;> rw [z] <;> decide
      exact hk this
    refine Gm.enter (L := [some (.ref r), some (.int k), some (.int a), some (.int c)]) (by decide) (fun _ => trivial) (Nat.le_of_ble_eq_true rfl) rfl ?_
    refine gk_iload1 dX10_isFilterTold_0 (pc' := 1) rfl ?_
    refine gk_tableOut dX10_isFilterTold_1 (tgt := 155) (by omega) (by decide) ?_
    refine gk_iconst (v := 0) dX10_isFilterTold_155 (pc' := 156) rfl (by decide) ?_
    refine gk_zret dX10_isFilterTold_156 rfl rfl (hf hn)
end FlI
