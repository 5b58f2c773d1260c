/-! ===== Mask: joined rows ===== -/
theorem rowB_in {O : Nat → Nat} {y : Nat} {z : Int32} (hy : y < 16) : rowB O y z = nI (O y) := by
  rw [rowB, if_pos (by omega), Int.toNat_natCast]
theorem rowB_up {O : Nat → Nat} {y : Nat} {z : Int32} (hy : y < 16) : rowB O ((y : Int) - 1) z = if 1 ≤ y then nI (O (y - 1)) else z := by
  unfold rowB
  by_cases q : 1 ≤ y
  · rw [if_pos (by omega), if_pos q, show ((y : Int) - 1).toNat = y - 1 by omega]
  · rw [if_neg (by omega), if_neg q]
theorem rowB_dn {O : Nat → Nat} {y : Nat} {z : Int32} (hy : y < 16) : rowB O ((y : Int) + 1) z = if y < 15 then nI (O (y + 1)) else z := by
  unfold rowB
  by_cases q : y < 15
  · rw [if_pos (by omega), if_pos q, show ((y : Int) + 1).toNat = y + 1 by omega]
  · rw [if_neg (by omega), if_neg q]
theorem b_32768 {n : Nat} (hn : n < 32) : bt 32768 n = decide (n = 15) := (by decide +kernel : ∀ n, n < 32 → bt 32768 n = decide (n = 15)) n hn
theorem b_s1 {r n : Nat} (hr : r < 65536) (hn : n < 16) : bt (nI r >>> (1 &&& 31)) n = (decide (n < 15) && r.testBit (n + 1)) := by
  have e := b_sshr 1 (by decide) (nI r) (i := n) (by omega)
  rw [show (nI 1 &&& 31 : Int32) = (1 &&& 31 : Int32) from rfl] at e
  rw [e, if_pos (by omega), b_row hr (by omega), show 1 + n = n + 1 by omega]
  by_cases q : n < 15
  · simp [q, show n + 1 < 16 by omega]
  · simp [q, show ¬ n + 1 < 16 by omega]
theorem b_l1 {r n : Nat} (hr : r < 65536) (hn : n < 16) : bt (nI r <<< (1 &&& 31)) n = (decide (1 ≤ n) && r.testBit (n - 1)) := by
  have e := b_shl 1 (by decide) (nI r) (i := n) (by omega)
  rw [show (nI 1 &&& 31 : Int32) = (1 &&& 31 : Int32) from rfl] at e
  rw [e, b_row hr (by omega)]
  by_cases q : 1 ≤ n
  · simp [q, show n - 1 < 16 by omega]
  · simp [q]
theorem b_z {n : Nat} : bt 0 n = false := b_0 n
theorem mj_eq {x : Int32} {R O : Nat → Nat} {how y : Nat} (h : ∀ n, n < 16 → bt x n = mj R O how y n) : x &&& 65535 = nI (mjR R O how y) := row_eq fun n hn => by
  rw [b_and, b_65535]
  by_cases q : n < 16
  · rw [h n q]; simp [q]
  · simp [q]
theorem mj_5 {R O : Nat → Nat} {y : Nat} (hy : y < 16) (hO : ∀ y, y < 16 → O y < 65536) : (nI (O y) ||| nI (O y) <<< (1 &&& 31) ||| nI (O y) >>> (1 &&& 31) ||| rowB O ((y : Int) - 1) 0 ||| rowB O ((y : Int) + 1) 0) &&& 65535 = nI (mjR R O 5 y) := mj_eq fun n hn => by
  rw [rowB_up hy, rowB_dn hy, b_or, b_or, b_or, b_or, b_l1 (hO y hy) hn, b_s1 (hO y hy) hn, b_row (hO y hy) (by omega)]
  unfold mj
  by_cases q1 : 1 ≤ y <;> by_cases q2 : y < 15
  · rw [if_pos q1, if_pos q2, b_row (hO _ (by omega)) (by omega), b_row (hO _ (by omega)) (by omega)]; simp [hn, q1, q2]
  · rw [if_pos q1, if_neg q2, b_row (hO _ (by omega)) (by omega), b_z]; simp [hn, q1, q2]
  · rw [if_neg q1, if_pos q2, b_row (hO _ (by omega)) (by omega), b_z]; simp [hn, q1, q2]
  · omega
theorem mj_6 {R O : Nat → Nat} {y : Nat} (hy : y < 16) (hO : ∀ y, y < 16 → O y < 65536) : (nI (O y) &&& (nI (O y) <<< ((1 : Int32) &&& 31) ||| (1 : Int32)) &&& (nI (O y) >>> ((1 : Int32) &&& 31) ||| (32768 : Int32)) &&& rowB O ((y : Int) - 1) 65535 &&& rowB O ((y : Int) + 1) 65535) &&& 65535 = nI (mjR R O 6 y) := mj_eq fun n hn => by
  rw [rowB_up hy, rowB_dn hy, b_and, b_and, b_and, b_and, b_or, b_or, b_l1 (hO y hy) hn, b_s1 (hO y hy) hn, b_row (hO y hy) (by omega), b_one (by omega), b_32768 (by omega)]
  unfold mj
  have hx : (decide (1 ≤ n) && (O y).testBit (n - 1) || decide (n = 0)) = (decide (n = 0) || (O y).testBit (n - 1)) := by
    by_cases q : n = 0
    · simp [q]
    · simp [q, show 1 ≤ n by omega]
  have hz : (decide (n < 15) && (O y).testBit (n + 1) || decide (n = 15)) = (decide (15 ≤ n) || (O y).testBit (n + 1)) := by
    by_cases q : n = 15
    · simp [q]
    · simp [q, show n < 15 by omega, show ¬ 15 ≤ n by omega]
  rw [hx, hz]
  by_cases q1 : 1 ≤ y <;> by_cases q2 : y < 15
  · rw [if_pos q1, if_pos q2, b_row (hO _ (by omega)) (by omega), b_row (hO _ (by omega)) (by omega)]; simp [hn, show ¬ y = 0 by omega, show ¬ 15 ≤ y by omega]
  · rw [if_pos q1, if_neg q2, b_row (hO _ (by omega)) (by omega), b_65535]; simp [hn, show ¬ y = 0 by omega, show 15 ≤ y by omega]
  · rw [if_neg q1, if_pos q2, b_row (hO _ (by omega)) (by omega), b_65535]; simp [hn, show y = 0 by omega]
  · omega
section MkC
variable {X : gX} {d : Nat} {b : Nat × Nat} {h : gk_H} {Q : Option Value → gk_H → Prop} {a : Nat} {R : Nat → Nat}
theorem sp_Mask_joinedRow {o y how : Nat} {O : Nat → Nat} (hp : isMk X h o O) (hy : y < 16) (hR : R y < 65536) (hh : how < 7) (hQ : ∀ r : Int32, r &&& 65535 = nI (mjR R O how y) → Q (some (.int r)) h) : Gm (kx X) mt_Mask_joinedRow (d + 1) b [.int (nI (R y)), .ref o, .int (nI y), .int (nI how)] h Q := by
  have e1 := hp.o
  have hO := hp.1
  have zy : (nI y).toInt = y := nI_toInt (by omega)
  have z1 : (1 : Int32).toInt = 1 := rfl
  have zm : (nI y - 1).toInt = (y : Int) - 1 := by rw [Jvm.Kit.i32_sub (by omega) (by omega), zy, z1]
  have zp : (nI y + 1).toInt = (y : Int) + 1 := by rw [Jvm.Kit.i32_add (by omega) (by omega), zy, z1]
  refine Gm.enter (L := [some (.int (nI (R y))), some (.ref o), some (.int (nI y)), some (.int (nI how)), none]) (by decide) (fun _ => trivial) (Nat.le_of_ble_eq_true rfl) rfl ?_
  refine gk_aload1 dX5_joinedRow_0 (pc' := 1) rfl ?_
  refine gk_iload2 dX5_joinedRow_1 (pc' := 2) rfl ?_
  refine gk_iconst (v := 0) dX5_joinedRow_2 (pc' := 3) rfl (by decide) ?_
  refine gk_cV1_2 mv_Mask_row gw_582 dX5_joinedRow_3 (pc' := 6) rfl (Nat.le_of_ble_eq_true rfl) (by assumption) (sp_Mask_row hp ?_)
  refine ⟨_, rfl, ?_⟩
  rw [zy, rowB_in hy]
  refine gk_istore4 dX5_joinedRow_6 (pc' := 8) rfl (by decide) rfl ?_
  rcases (show how = 0 ∨ how = 1 ∨ how = 2 ∨ how = 3 ∨ how = 4 ∨ how = 5 ∨ how = 6 by omega) with rfl | rfl | rfl | rfl | rfl | rfl | rfl
  · refine gk_iload3 dX5_joinedRow_8 (pc' := 9) rfl ?_
    refine gk_tableIn dX5_joinedRow_9 (tgt := 48) (off := 39) (by decide) (by decide) (by decide +kernel) (by decide) ?_
    refine gk_iload0 dX5_joinedRow_48 (pc' := 49) rfl ?_
    refine gk_iload4 dX5_joinedRow_49 (pc' := 51) rfl ?_
    refine gk_iand dX5_joinedRow_51 (pc' := 52) rfl ?_
    refine gk_iret dX5_joinedRow_52 rfl (hQ _ (mj_eq fun n hn => by rw [b_and, b_row hR (by omega), b_row (hO y hy) (by omega)]; simp [mj, hn]))
  · refine gk_iload3 dX5_joinedRow_8 (pc' := 9) rfl ?_
    refine gk_tableIn dX5_joinedRow_9 (tgt := 53) (off := 44) (by decide) (by decide) (by decide +kernel) (by decide) ?_
    refine gk_iload0 dX5_joinedRow_53 (pc' := 54) rfl ?_
    refine gk_iload4 dX5_joinedRow_54 (pc' := 56) rfl ?_
    refine gk_ior dX5_joinedRow_56 (pc' := 57) rfl ?_
    refine gk_iret dX5_joinedRow_57 rfl (hQ _ (mj_eq fun n hn => by rw [b_or, b_row hR (by omega), b_row (hO y hy) (by omega)]; simp [mj, hn]))
  · refine gk_iload3 dX5_joinedRow_8 (pc' := 9) rfl ?_
    refine gk_tableIn dX5_joinedRow_9 (tgt := 58) (off := 49) (by decide) (by decide) (by decide +kernel) (by decide) ?_
    refine gk_iload0 dX5_joinedRow_58 (pc' := 59) rfl ?_
    refine gk_iload4 dX5_joinedRow_59 (pc' := 61) rfl ?_
    refine gk_ixor dX5_joinedRow_61 (pc' := 62) rfl ?_
    refine gk_iret dX5_joinedRow_62 rfl (hQ _ (mj_eq fun n hn => by rw [b_xor, b_row hR (by omega), b_row (hO y hy) (by omega)]; simp [mj, hn]))
  · refine gk_iload3 dX5_joinedRow_8 (pc' := 9) rfl ?_
    refine gk_tableIn dX5_joinedRow_9 (tgt := 63) (off := 54) (by decide) (by decide) (by decide +kernel) (by decide) ?_
    refine gk_iload4 dX5_joinedRow_63 (pc' := 65) rfl ?_
    refine gk_iconst (v := -1) dX5_joinedRow_65 (pc' := 66) rfl (by decide) ?_
    refine gk_ixor dX5_joinedRow_66 (pc' := 67) rfl ?_
    refine gk_iret dX5_joinedRow_67 rfl (hQ _ (mj_eq fun n hn => by rw [b_xor, b_row (hO y hy) (by omega), b_m1 n (by omega)]; simp [mj, hn]))
  · refine gk_iload3 dX5_joinedRow_8 (pc' := 9) rfl ?_
    refine gk_tableIn dX5_joinedRow_9 (tgt := 68) (off := 59) (by decide) (by decide) (by decide +kernel) (by decide) ?_
    refine gk_iload4 dX5_joinedRow_68 (pc' := 70) rfl ?_
    refine gk_iret dX5_joinedRow_70 rfl (hQ _ (mj_eq fun n hn => by rw [b_row (hO y hy) (by omega)]; simp [mj, hn]))
  · refine gk_iload3 dX5_joinedRow_8 (pc' := 9) rfl ?_
    refine gk_tableIn dX5_joinedRow_9 (tgt := 71) (off := 62) (by decide) (by decide) (by decide +kernel) (by decide) ?_
    refine gk_iload4 dX5_joinedRow_71 (pc' := 73) rfl ?_
    refine gk_iload4 dX5_joinedRow_73 (pc' := 75) rfl ?_
    refine gk_iconst (v := 1) dX5_joinedRow_75 (pc' := 76) rfl (by decide) ?_
    refine gk_ishl dX5_joinedRow_76 (pc' := 77) rfl ?_
    refine gk_ior dX5_joinedRow_77 (pc' := 78) rfl ?_
    refine gk_iload4 dX5_joinedRow_78 (pc' := 80) rfl ?_
    refine gk_iconst (v := 1) dX5_joinedRow_80 (pc' := 81) rfl (by decide) ?_
    refine gk_ishr dX5_joinedRow_81 (pc' := 82) rfl ?_
    refine gk_ior dX5_joinedRow_82 (pc' := 83) rfl ?_
    refine gk_aload1 dX5_joinedRow_83 (pc' := 84) rfl ?_
    refine gk_iload2 dX5_joinedRow_84 (pc' := 85) rfl ?_
    refine gk_iconst (v := 1) dX5_joinedRow_85 (pc' := 86) rfl (by decide) ?_
    refine gk_isub dX5_joinedRow_86 (pc' := 87) rfl ?_
    refine gk_iconst (v := 0) dX5_joinedRow_87 (pc' := 88) rfl (by decide) ?_
    refine gk_cV1_2 mv_Mask_row gw_582 dX5_joinedRow_88 (pc' := 91) rfl (Nat.le_of_ble_eq_true rfl) (by assumption) (sp_Mask_row hp ?_)
    refine ⟨_, rfl, ?_⟩
    rw [zm]
    refine gk_ior dX5_joinedRow_91 (pc' := 92) rfl ?_
    refine gk_aload1 dX5_joinedRow_92 (pc' := 93) rfl ?_
    refine gk_iload2 dX5_joinedRow_93 (pc' := 94) rfl ?_
    refine gk_iconst (v := 1) dX5_joinedRow_94 (pc' := 95) rfl (by decide) ?_
    refine gk_iadd dX5_joinedRow_95 (pc' := 96) rfl ?_
    refine gk_iconst (v := 0) dX5_joinedRow_96 (pc' := 97) rfl (by decide) ?_
    refine gk_cV1_2 mv_Mask_row gw_582 dX5_joinedRow_97 (pc' := 100) rfl (Nat.le_of_ble_eq_true rfl) (by assumption) (sp_Mask_row hp ?_)
    refine ⟨_, rfl, ?_⟩
    rw [zp]
    refine gk_ior dX5_joinedRow_100 (pc' := 101) rfl ?_
    refine gk_iret dX5_joinedRow_101 rfl (hQ _ (mj_5 hy hO))
  · refine gk_iload3 dX5_joinedRow_8 (pc' := 9) rfl ?_
    refine gk_tableOut dX5_joinedRow_9 (tgt := 102) (by decide) (by decide) ?_
    refine gk_iload4 dX5_joinedRow_102 (pc' := 104) rfl ?_
    refine gk_iload4 dX5_joinedRow_104 (pc' := 106) rfl ?_
    refine gk_iconst (v := 1) dX5_joinedRow_106 (pc' := 107) rfl (by decide) ?_
    refine gk_ishl dX5_joinedRow_107 (pc' := 108) rfl ?_
    refine gk_iconst (v := 1) dX5_joinedRow_108 (pc' := 109) rfl (by decide) ?_
    refine gk_ior dX5_joinedRow_109 (pc' := 110) rfl ?_
    refine gk_iand dX5_joinedRow_110 (pc' := 111) rfl ?_
    refine gk_iload4 dX5_joinedRow_111 (pc' := 113) rfl ?_
    refine gk_iconst (v := 1) dX5_joinedRow_113 (pc' := 114) rfl (by decide) ?_
    refine gk_ishr dX5_joinedRow_114 (pc' := 115) rfl ?_
    refine gk_ldc dX5_joinedRow_115 (pc' := 117) rfl gw_586 ?_
    refine gk_ior dX5_joinedRow_117 (pc' := 118) rfl ?_
    refine gk_iand dX5_joinedRow_118 (pc' := 119) rfl ?_
    refine gk_aload1 dX5_joinedRow_119 (pc' := 120) rfl ?_
    refine gk_iload2 dX5_joinedRow_120 (pc' := 121) rfl ?_
    refine gk_iconst (v := 1) dX5_joinedRow_121 (pc' := 122) rfl (by decide) ?_
    refine gk_isub dX5_joinedRow_122 (pc' := 123) rfl ?_
    refine gk_ldc dX5_joinedRow_123 (pc' := 125) rfl gw_587 ?_
    refine gk_cV1_2 mv_Mask_row gw_582 dX5_joinedRow_125 (pc' := 128) rfl (Nat.le_of_ble_eq_true rfl) (by assumption) (sp_Mask_row hp ?_)
    refine ⟨_, rfl, ?_⟩
    rw [zm]
    refine gk_iand dX5_joinedRow_128 (pc' := 129) rfl ?_
    refine gk_aload1 dX5_joinedRow_129 (pc' := 130) rfl ?_
    refine gk_iload2 dX5_joinedRow_130 (pc' := 131) rfl ?_
    refine gk_iconst (v := 1) dX5_joinedRow_131 (pc' := 132) rfl (by decide) ?_
    refine gk_iadd dX5_joinedRow_132 (pc' := 133) rfl ?_
    refine gk_ldc dX5_joinedRow_133 (pc' := 135) rfl gw_587 ?_
    refine gk_cV1_2 mv_Mask_row gw_582 dX5_joinedRow_135 (pc' := 138) rfl (Nat.le_of_ble_eq_true rfl) (by assumption) (sp_Mask_row hp ?_)
    refine ⟨_, rfl, ?_⟩
    rw [zp]
    refine gk_iand dX5_joinedRow_138 (pc' := 139) rfl ?_
    refine gk_iret dX5_joinedRow_139 rfl (hQ _ (mj_6 hy hO))
theorem lp_Mask_joinedFrom {o1 o2 how : Nat} {S O : Nat → Nat} {h0 : gk_H} (n1 : a ≠ o1) (n2 : a ≠ o2) (n3 : o1 ≠ a + 1) (n4 : o2 ≠ a + 1) (n5 : a ≠ o1 + 1) (n6 : a ≠ o2 + 1) (hp1 : isMk X h0 o1 S) (hp2 : isMk X h0 o2 O) (hh : how < 7) (hQ : ∀ h, isMk X h a (mjR S O how) → fr (fun c => c = a + 1) h0 h → Q none h) :
    ∀ f y h T, y + f = 16 → isMk X h a T → (∀ i, i < y → T i = mjR S O how i) → fr (fun c => c = a + 1) h0 h → G (kx X) mt_Mask_joinedFrom (d + 2) b 3 [some (.ref a), some (.ref o1), some (.ref o2), some (.int (nI how)), some (.int (nI y))] [] h Q := by
  intro f
  induction f with
  | zero =>
    intro y h T hy hp hT hf
    have e : y = 16 := by omega
    subst e
    refine gk_iload4 dX5_joinedFrom_3 (pc' := 5) rfl ?_
    refine gk_bipush (v := 16) dX5_joinedFrom_5 (pc' := 7) rfl (by decide) ?_
    refine gk_icmp_ge dX5_joinedFrom_7 (tgt := 40) (pc' := 10) (by decide) rfl (fun c7 => ?_) (fun c7 => absurd (by decide) c7)
    refine gk_vret dX5_joinedFrom_40 rfl (hQ h (hp.congr hT) hf)
  | succ f ih =>
    intro y h T hy hp hT hf
    have q1 := hp1.fr hf (by omega) (by omega)
    have q2 := hp2.fr hf (by omega) (by omega)
    have e2 := q2.o
    obtain ⟨hw, g, g1, g2, g3⟩ := hp
    obtain ⟨hw1, g', k1, k2, k3⟩ := q1
    have cy : (nI y).toNatClampNeg = y := nI_clamp (by omega)
    refine gk_iload4 dX5_joinedFrom_3 (pc' := 5) rfl ?_
    refine gk_bipush (v := 16) dX5_joinedFrom_5 (pc' := 7) rfl (by decide) ?_
    refine gk_icmp_ge dX5_joinedFrom_7 (tgt := 40) (pc' := 10) (by decide) rfl (fun c7 => absurd c7 (nI_ge (b := 16) (by omega) (by omega))) (fun c7 => ?_)
    refine gk_aload0 dX5_joinedFrom_10 (pc' := 11) rfl ?_
    refine gk_getf (fs := [_]) gF_Mask_9 dX5_joinedFrom_11 (pc' := 14) rfl (by exact (g1)) rfl ?_
    refine gk_iload4 dX5_joinedFrom_14 (pc' := 16) rfl ?_
    refine gk_aload1 dX5_joinedFrom_16 (pc' := 17) rfl ?_
    refine gk_getf (fs := [_]) gF_Mask_9 dX5_joinedFrom_17 (pc' := 20) rfl (by exact (k1)) rfl ?_
    refine gk_iload4 dX5_joinedFrom_20 (pc' := 22) rfl ?_
    refine gk_iald (t0 := 0) rfl dX5_joinedFrom_22 (pc' := 23) rfl (by exact (k2)) (vp_in_nI (by omega) (by decide)) ?_
    rw [cy, k3 y (by omega)]
    refine gk_aload2 dX5_joinedFrom_23 (pc' := 24) rfl ?_
    refine gk_iload4 dX5_joinedFrom_24 (pc' := 26) rfl ?_
    refine gk_iload3 dX5_joinedFrom_26 (pc' := 27) rfl ?_
    refine gk_cS1_4 mz_Mask_joinedRow gw_579 dX5_joinedFrom_27 (pc' := 30) rfl (Nat.le_of_ble_eq_true rfl) (sp_Mask_joinedRow q2 (by omega) (hw1 y (by omega)) hh (fun r hr => ?_))
    refine ⟨_, rfl, ?_⟩
    refine gk_ldc dX5_joinedFrom_30 (pc' := 32) rfl gw_587 ?_
    refine gk_iand dX5_joinedFrom_32 (pc' := 33) rfl ?_
    refine gk_iast (t0 := 0) rfl dX5_joinedFrom_33 (pc' := 34) rfl (by exact (g2)) (vp_in_nI (by omega) (by decide)) ?_
    rw [cy]
    refine gk_iinc4 (v := 1) dX5_joinedFrom_34 (pc' := 37) rfl (by decide) (by decide) rfl ?_
    refine gk_goto dX5_joinedFrom_37 (tgt := 3) (by decide) ?_
    rw [← nI_succ]
    refine ih (y + 1) _ (fun i => if i = y then mjR S O how y else T i) (by omega) ⟨fun i hi => ?_, _, (gk_set_ne (by omega)).trans g1, gk_set_self, fun i hi => ?_⟩ (fun i hi => ?_) (hf.trans fr.set (fun _ q => q) (fun _ q => q))
    · show (if i = y then mjR S O how y else T i) < 65536
      split
      · exact mkR_16 _
      · exact hw i hi
    · show _ = nI (if i = y then mjR S O how y else T i)
      by_cases q : i = y
      · subst q; rw [pk_us, if_pos rfl, hr]
      · rw [pk_un q, if_neg q]; exact g3 i hi
    · show (if i = y then mjR S O how y else T i) = _
      by_cases q : i = y
      · rw [if_pos q, q]
      · rw [if_neg q]; exact hT i (by omega)
theorem sp_Mask_joinedFrom {o1 o2 how : Nat} {S O : Nat → Nat} (hp : isMk X h a R) (hp1 : isMk X h o1 S) (hp2 : isMk X h o2 O) (n1 : a ≠ o1) (n2 : a ≠ o2) (n3 : o1 ≠ a + 1) (n4 : o2 ≠ a + 1) (n5 : a ≠ o1 + 1) (n6 : a ≠ o2 + 1) (hh : how < 7) (hQ : ∀ h', isMk X h' a (mjR S O how) → fr (fun c => c = a + 1) h h' → Q none h') : Gm (kx X) mt_Mask_joinedFrom (d + 2) b [.ref a, .ref o1, .ref o2, .int (nI how)] h Q := by
  refine Gm.enter (L := [some (.ref a), some (.ref o1), some (.ref o2), some (.int (nI how)), none]) (by decide) (fun _ => trivial) (Nat.le_of_ble_eq_true rfl) rfl ?_
  refine gk_iconst (v := 0) dX5_joinedFrom_0 (pc' := 1) rfl (by decide) ?_
  refine gk_istore4 dX5_joinedFrom_1 (pc' := 3) rfl (by decide) rfl ?_
  exact lp_Mask_joinedFrom n1 n2 n3 n4 n5 n6 hp1 hp2 hh hQ 16 0 h R (by omega) hp (fun i hi => absurd hi (by omega)) fr.rf
end MkC
/-! ===== Filter ===== -/
/-- a Filter object at a (its weights at a + 1) -/
def isFl (X : gX) (h : gk_H) (a : Nat) (k a1 b1 : Int32) (hg : Nat) (f1 f2 : Option Nat) (wt : Nat → Int32) : Prop := h.1 a = some (.inr (2, [.int k, .int a1, .int b1, .int (nI hg), va_rf f1, va_rf f2, .ref (a + 1)])) ∧ ∃ f : Nat → Int32, h.1 (a + 1) = some (cI X (if k = 4 then 9 else 0) f) ∧ (k = 4 → ∀ i, i < 9 → f i = wt i)
section FlA
variable {X : gX} {d : Nat} {b : Nat × Nat} {h : gk_H} {Q : Option Value → gk_H → Prop} {a : Nat} {k a1 b1 : Int32} {hg : Nat} {f1 f2 : Option Nat} {wt : Nat → Int32}
theorem isFl.kept {h' : gk_H} (hp : isFl X h a k a1 b1 hg f1 f2 wt) (h0 : h'.1 a = h.1 a) (h1 : h'.1 (a + 1) = h.1 (a + 1)) : isFl X h' a k a1 b1 hg f1 f2 wt := ⟨h0.trans hp.1, by obtain ⟨f, e1, e2⟩ := hp.2; exact ⟨f, h1.trans e1, e2⟩⟩
theorem sp_Filter_weightAt {i : Nat} (hp : isFl X h a k a1 b1 hg f1 f2 wt) (hk : k = 4) (hi : i < 9) (hQ : Q (some (.int (wt i))) h) : Gm (kx X) mt_Filter_weightAt d b [.ref a, .int (nI i)] h Q := by
  obtain ⟨e1, f, e2, e3⟩ := hp
  rw [if_pos hk] at e2
  refine Gm.enter (L := [some (.ref a), some (.int (nI i))]) (by decide) (fun _ => trivial) (Nat.le_of_ble_eq_true rfl) rfl ?_
  refine gk_iload1 dX2_weightAt_0 (pc' := 1) rfl ?_
  refine gk_if_lt dX2_weightAt_1 (tgt := 22) (pc' := 4) (by decide) rfl (fun c1 => absurd c1 (nI_pos (by omega))) (fun c1 => ?_)
  refine gk_iload1 dX2_weightAt_4 (pc' := 5) rfl ?_
  refine gk_aload0 dX2_weightAt_5 (pc' := 6) rfl ?_
  refine gk_getf (fs := [_, _, _, _, _, _, _]) gF_Filter_31 dX2_weightAt_6 (pc' := 9) rfl (by assumption) rfl ?_
  refine gk_alen (t0 := 0) rfl dX2_weightAt_9 (pc' := 10) rfl (by exact (e2)) ?_
  refine gk_icmp_ge dX2_weightAt_10 (tgt := 22) (pc' := 13) (by decide) rfl (fun c10 => absurd c10 (nI_ge (b := 9) (by omega) (by decide))) (fun c10 => ?_)
  refine gk_aload0 dX2_weightAt_13 (pc' := 14) rfl ?_
  refine gk_getf (fs := [_, _, _, _, _, _, _]) gF_Filter_31 dX2_weightAt_14 (pc' := 17) rfl (by assumption) rfl ?_
  refine gk_iload1 dX2_weightAt_17 (pc' := 18) rfl ?_
  refine gk_iald (t0 := 0) rfl dX2_weightAt_18 (pc' := 19) rfl (by exact (e2)) (vp_in_nI (by omega) (by decide)) ?_
  rw [nI_clamp (by omega), e3 hk i hi]
  refine gk_goto dX2_weightAt_19 (tgt := 23) (by decide) ?_
  refine gk_iret dX2_weightAt_23 rfl hQ
theorem sp_Filter_weigh {i : Nat} {v : Int32} (hp : isFl X h a k a1 b1 hg f1 f2 wt) (hk : k = 4) (hi : i < 9) (hQ : ∀ h', isFl X h' a k a1 b1 hg f1 f2 (upd wt i v) → fr (fun c => c = a + 1) h h' → Q none h') : Gm (kx X) mt_Filter_weigh d b [.ref a, .int (nI i), .int v] h Q := by
  obtain ⟨e1, f, e2, e3⟩ := hp
  rw [if_pos hk] at e2
  refine Gm.enter (L := [some (.ref a), some (.int (nI i)), some (.int v)]) (by decide) (fun _ => trivial) (Nat.le_of_ble_eq_true rfl) rfl ?_
  refine gk_iload1 dX2_weigh_0 (pc' := 1) rfl ?_
  refine gk_if_lt dX2_weigh_1 (tgt := 20) (pc' := 4) (by decide) rfl (fun c1 => absurd c1 (nI_pos (by omega))) (fun c1 => ?_)
  refine gk_iload1 dX2_weigh_4 (pc' := 5) rfl ?_
  refine gk_aload0 dX2_weigh_5 (pc' := 6) rfl ?_
  refine gk_getf (fs := [_, _, _, _, _, _, _]) gF_Filter_31 dX2_weigh_6 (pc' := 9) rfl (by assumption) rfl ?_
  refine gk_alen (t0 := 0) rfl dX2_weigh_9 (pc' := 10) rfl (by exact (e2)) ?_
  refine gk_icmp_ge dX2_weigh_10 (tgt := 20) (pc' := 13) (by decide) rfl (fun c10 => absurd c10 (nI_ge (b := 9) (by omega) (by decide))) (fun c10 => ?_)
  refine gk_aload0 dX2_weigh_13 (pc' := 14) rfl ?_
  refine gk_getf (fs := [_, _, _, _, _, _, _]) gF_Filter_31 dX2_weigh_14 (pc' := 17) rfl (by assumption) rfl ?_
  refine gk_iload1 dX2_weigh_17 (pc' := 18) rfl ?_
  refine gk_iload2 dX2_weigh_18 (pc' := 19) rfl ?_
  refine gk_iast (t0 := 0) rfl dX2_weigh_19 (pc' := 20) rfl (by exact (e2)) (vp_in_nI (by omega) (by decide)) ?_
  refine gk_vret dX2_weigh_20 rfl (hQ _ ⟨(gk_set_ne (by omega)).trans e1, _, by rw [if_pos hk]; exact gk_set_self, fun _ => by rw [nI_clamp (by omega)]; exact upd_of (e3 hk)⟩ fr.set)
end FlA
