/-! ===== DarkRoom: its static tests; bits ===== -/
def bt (x : Int32) (i : Nat) : Bool := x.toBitVec.getLsbD i
theorem b_ext {x y : Int32} (h : ∀ i, i < 32 → bt x i = bt y i) : x = y := Int32.toBitVec_inj.mp (BitVec.eq_of_getLsbD_eq (fun i hi => h i hi))
theorem b_or (x y : Int32) (i : Nat) : bt (x ||| y) i = (bt x i || bt y i) := by unfold bt; rw [Int32.toBitVec_or, BitVec.getLsbD_or]
theorem b_and (x y : Int32) (i : Nat) : bt (x &&& y) i = (bt x i && bt y i) := by unfold bt; rw [Int32.toBitVec_and, BitVec.getLsbD_and]
theorem b_xor (x y : Int32) (i : Nat) : bt (x ^^^ y) i = (bt x i ^^ bt y i) := by unfold bt; rw [Int32.toBitVec_xor, BitVec.getLsbD_xor]
theorem b_big {x : Int32} {i : Nat} (h : 32 ≤ i) : bt x i = false := BitVec.getLsbD_of_ge _ _ h
theorem b_255 (i : Nat) : bt 255 i = decide (i < 8) := by
  rcases Nat.lt_or_ge i 32 with h | h
  · exact (by decide +kernel : ∀ i, i < 32 → bt 255 i = decide (i < 8)) i h
  · rw [b_big h, decide_eq_false (by omega)]
theorem b_65535 (i : Nat) : bt 65535 i = decide (i < 16) := by
  rcases Nat.lt_or_ge i 32 with h | h
  · exact (by decide +kernel : ∀ i, i < 32 → bt 65535 i = decide (i < 16)) i h
  · rw [b_big h, decide_eq_false (by omega)]
theorem b_m1 : ∀ i, i < 32 → bt (-1) i = true := by decide +kernel
theorem b_0 (i : Nat) : bt 0 i = false := BitVec.getLsbD_zero
theorem s_l : ∀ n, n < 32 → ((nI n &&& 31).toBitVec.smod 32).toNat = n := by decide +kernel
theorem s_u : ∀ n, n < 32 → (((nI n).toUInt32 &&& Int32.toUInt32 31).toBitVec % 32).toNat = n := by decide +kernel
theorem b_shl (n : Nat) (hn : n < 32) (x : Int32) {i : Nat} (hi : i < 32) : bt (x <<< (nI n &&& 31)) i = (decide (n ≤ i) && bt x (i - n)) := by
  unfold bt
  rw [Int32.toBitVec_shiftLeft]
  show (x.toBitVec <<< ((nI n &&& 31).toBitVec.smod 32).toNat).getLsbD i = _
  rw [s_l n hn, BitVec.getLsbD_shiftLeft]
  rcases Nat.lt_or_ge i n with h | h
  · simp [h, Nat.not_le.mpr h]
  · simp [hi, h, Nat.not_lt.mpr h]
theorem b_ushr (n : Nat) (hn : n < 32) (x : Int32) (i : Nat) : bt ((x.toUInt32 >>> ((nI n).toUInt32 &&& Int32.toUInt32 31)).toInt32) i = bt x (n + i) := by
  show (x.toUInt32 >>> ((nI n).toUInt32 &&& Int32.toUInt32 31)).toBitVec.getLsbD i = x.toUInt32.toBitVec.getLsbD (n + i)
  rw [UInt32.toBitVec_shiftRight]
  show (x.toUInt32.toBitVec >>> (((nI n).toUInt32 &&& Int32.toUInt32 31).toBitVec % 32).toNat).getLsbD i = _
  rw [s_u n hn, BitVec.getLsbD_ushiftRight]
theorem b_sshr (n : Nat) (hn : n < 32) (x : Int32) {i : Nat} (hi : i < 32) : bt (x >>> (nI n &&& 31)) i = if n + i < 32 then bt x (n + i) else bt x 31 := by
  unfold bt
  rw [Int32.toBitVec_shiftRight]
  show (x.toBitVec.sshiftRight ((nI n &&& 31).toBitVec.smod 32).toNat).getLsbD i = _
  rw [s_l n hn, BitVec.getLsbD_sshiftRight, BitVec.msb_eq_getLsbD_last]
  simp [hi]
theorem b_shl8 (x : Int32) {i : Nat} (hi : i < 32) : bt (x <<< ((8 : Int32) &&& 31)) i = (decide (8 ≤ i) && bt x (i - 8)) := b_shl 8 (by omega) x hi
theorem b_shl16 (x : Int32) {i : Nat} (hi : i < 32) : bt (x <<< ((16 : Int32) &&& 31)) i = (decide (16 ≤ i) && bt x (i - 16)) := b_shl 16 (by omega) x hi
theorem b_shl24 (x : Int32) {i : Nat} (hi : i < 32) : bt (x <<< ((24 : Int32) &&& 31)) i = (decide (24 ≤ i) && bt x (i - 24)) := b_shl 24 (by omega) x hi
theorem b_sshr8 (x : Int32) {i : Nat} (hi : i < 32) : bt (x >>> ((8 : Int32) &&& 31)) i = if 8 + i < 32 then bt x (8 + i) else bt x 31 := b_sshr 8 (by omega) x hi
/-! ===== nI under and, xor, >>>, one bit, 65535 ===== -/
theorem nx_and (a b : Nat) : nI a &&& nI b = nI (a &&& b) := by
  apply Int32.toBitVec_inj.1
  show BitVec.ofNat 32 a &&& BitVec.ofNat 32 b = BitVec.ofNat 32 (a &&& b)
  apply BitVec.eq_of_getLsbD_eq
  intro i hi
  simp [hi]
theorem nx_xor (a b : Nat) : nI a ^^^ nI b = nI (a ^^^ b) := by
  apply Int32.toBitVec_inj.1
  show BitVec.ofNat 32 a ^^^ BitVec.ofNat 32 b = BitVec.ofNat 32 (a ^^^ b)
  apply BitVec.eq_of_getLsbD_eq
  intro i hi
  simp [hi]
theorem nx_cnt : ∀ j : Fin 32, (UInt32.ofNat j.val &&& Int32.toUInt32 31).toNat % 32 = j.val := by decide +kernel
theorem nx_ush {k j : Nat} (hk : k < 65536) (hj : j < 32) : ((nI k).toUInt32 >>> ((nI j).toUInt32 &&& Int32.toUInt32 31)).toInt32 = nI (k >>> j) := by
  have hs : k >>> j ≤ k := by
    rw [Nat.shiftRight_eq_div_pow]
    exact Nat.div_le_self _ _
  have e2 : UInt32.ofNat k >>> (UInt32.ofNat j &&& Int32.toUInt32 31) = UInt32.ofNat (k >>> j) := by
    apply UInt32.toNat_inj.1
    have h1 : (UInt32.ofNat k).toNat = k := Nat.mod_eq_of_lt (by omega)
    have h2 : (UInt32.ofNat (k >>> j)).toNat = k >>> j := Nat.mod_eq_of_lt (by omega)
    rw [UInt32.toNat_shiftRight, nx_cnt ⟨j, hj⟩, h1, h2]
  show (UInt32.ofNat k >>> (UInt32.ofNat j &&& Int32.toUInt32 31)).toInt32 = _
  rw [e2]
  rfl
theorem nx_bit {k j : Nat} (hk : k < 65536) (hj : j < 16) : (((nI k).toUInt32 >>> ((nI j).toUInt32 &&& Int32.toUInt32 31)).toInt32 &&& 1) = 0 ↔ k.testBit j = false := by
  rw [nx_ush hk (by omega)]
  show nI (k >>> j) &&& nI 1 = 0 ↔ _
  rw [nx_and, Nat.and_one_is_mod, ← nI_0, nI_eq (by omega) (by omega), Nat.testBit_eq_decide_div_mod_eq, Nat.shiftRight_eq_div_pow, decide_eq_false_iff_not]
  generalize k / 2 ^ j = z
  omega
section RmA
variable {X : gX} {d : Nat} {b : Nat × Nat} {h : gk_H} {Q : Option Value → gk_H → Prop}
theorem sp_Room_within {v lo hi : Int32} (ht : lo.toInt ≤ v.toInt → v.toInt ≤ hi.toInt → Q (some (.int 1)) h) (hf : ¬ (lo.toInt ≤ v.toInt ∧ v.toInt ≤ hi.toInt) → Q (some (.int 0)) h) : Gm (kx X) mt_Room_within d b [.int v, .int lo, .int hi] h Q := by
  refine Gm.enter (L := [some (.int v), some (.int lo), some (.int hi)]) (by decide) (fun _ => trivial) (Nat.le_of_ble_eq_true rfl) rfl ?_
  refine gk_iload0 dX10_within_0 (pc' := 1) rfl ?_
  refine gk_iload1 dX10_within_1 (pc' := 2) rfl ?_
  refine gk_icmp_lt dX10_within_2 (tgt := 14) (pc' := 5) (by decide) rfl (fun c2 => ?_) (fun c2 => ?_)
  · rw [pu_lt] at c2
    refine gk_iconst (v := 0) dX10_within_14 (pc' := 15) rfl (by decide) ?_
    refine gk_zret dX10_within_15 rfl rfl (by first | exact ht (by omega) (by omega) | exact hf (by omega))
  · rw [pu_lt] at c2
    refine gk_iload0 dX10_within_5 (pc' := 6) rfl ?_
    refine gk_iload2 dX10_within_6 (pc' := 7) rfl ?_
    refine gk_icmp_gt dX10_within_7 (tgt := 14) (pc' := 10) (by decide) rfl (fun c7 => ?_) (fun c7 => ?_)
    · rw [pu_lt] at c7
      refine gk_iconst (v := 0) dX10_within_14 (pc' := 15) rfl (by decide) ?_
      refine gk_zret dX10_within_15 rfl rfl (by first | exact ht (by omega) (by omega) | exact hf (by omega))
    · rw [pu_lt] at c7
      refine gk_iconst (v := 1) dX10_within_10 (pc' := 11) rfl (by decide) ?_
      refine gk_goto dX10_within_11 (tgt := 15) (by decide) ?_
      refine gk_zret dX10_within_15 rfl rfl (by first | exact ht (by omega) (by omega) | exact hf (by omega))
theorem sp_Room_isPicture {p : Int32} (ht : ∀ j, j < 8 → p = nI j → Q (some (.int 1)) h) (hf : ¬ (0 ≤ p.toInt ∧ p.toInt < 8) → Q (some (.int 0)) h) : Gm (kx X) mt_Room_isPicture (d + 1) b [.int p] h Q := by
  have z0 : (0 : Int32).toInt = 0 := rfl
  have z7 : (7 : Int32).toInt = 7 := rfl
  refine Gm.enter (L := [some (.int p)]) (by decide) (fun _ => trivial) (Nat.le_of_ble_eq_true rfl) rfl ?_
  refine gk_iload0 dX10_isPicture_0 (pc' := 1) rfl ?_
  refine gk_iconst (v := 0) dX10_isPicture_1 (pc' := 2) rfl (by decide) ?_
  refine gk_bipush (v := 7) dX10_isPicture_2 (pc' := 4) rfl (by decide) ?_
  refine gk_cS1_3 mz_Room_within gw_240 dX10_isPicture_4 (pc' := 7) rfl (Nat.le_of_ble_eq_true rfl) (sp_Room_within (fun q1 q2 => ?_) (fun q1 => ?_))
  · refine ⟨_, rfl, ?_⟩
    obtain ⟨j, hj, ej⟩ := pu_of (x := p) (n := 8) (by omega) (by omega) (by omega)
    refine gk_zret dX10_isPicture_7 rfl rfl (by first | exact ht j hj ej | exact hf (by omega))
  · refine ⟨_, rfl, ?_⟩
    refine gk_zret dX10_isPicture_7 rfl rfl (by first | exact ht j hj ej | exact hf (by omega))
theorem sp_Room_isMask {p : Int32} (ht : ∀ j, j < 6 → p = nI j → Q (some (.int 1)) h) (hf : ¬ (0 ≤ p.toInt ∧ p.toInt < 6) → Q (some (.int 0)) h) : Gm (kx X) mt_Room_isMask (d + 1) b [.int p] h Q := by
  have z0 : (0 : Int32).toInt = 0 := rfl
  have z7 : (5 : Int32).toInt = 5 := rfl
  refine Gm.enter (L := [some (.int p)]) (by decide) (fun _ => trivial) (Nat.le_of_ble_eq_true rfl) rfl ?_
  refine gk_iload0 dX10_isMask_0 (pc' := 1) rfl ?_
  refine gk_iconst (v := 0) dX10_isMask_1 (pc' := 2) rfl (by decide) ?_
  refine gk_iconst (v := 5) dX10_isMask_2 (pc' := 3) rfl (by decide) ?_
  refine gk_cS1_3 mz_Room_within gw_240 dX10_isMask_3 (pc' := 6) rfl (Nat.le_of_ble_eq_true rfl) (sp_Room_within (fun q1 q2 => ?_) (fun q1 => ?_))
  · refine ⟨_, rfl, ?_⟩
    obtain ⟨j, hj, ej⟩ := pu_of (x := p) (n := 6) (by omega) (by omega) (by omega)
    refine gk_zret dX10_isMask_6 rfl rfl (by first | exact ht j hj ej | exact hf (by omega))
  · refine ⟨_, rfl, ?_⟩
    refine gk_zret dX10_isMask_6 rfl rfl (by first | exact ht j hj ej | exact hf (by omega))
theorem sp_Room_isSide {p : Int32} (ht : ∀ j, 1 ≤ j → j ≤ 16 → p = nI j → Q (some (.int 1)) h) (hf : ¬ (1 ≤ p.toInt ∧ p.toInt ≤ 16) → Q (some (.int 0)) h) : Gm (kx X) mt_Room_isSide (d + 1) b [.int p] h Q := by
  have z0 : (1 : Int32).toInt = 1 := rfl
  have z7 : (16 : Int32).toInt = 16 := rfl
  refine Gm.enter (L := [some (.int p)]) (by decide) (fun _ => trivial) (Nat.le_of_ble_eq_true rfl) rfl ?_
  refine gk_iload0 dX10_isSide_0 (pc' := 1) rfl ?_
  refine gk_iconst (v := 1) dX10_isSide_1 (pc' := 2) rfl (by decide) ?_
  refine gk_bipush (v := 16) dX10_isSide_2 (pc' := 4) rfl (by decide) ?_
  refine gk_cS1_3 mz_Room_within gw_240 dX10_isSide_4 (pc' := 7) rfl (Nat.le_of_ble_eq_true rfl) (sp_Room_within (fun q1 q2 => ?_) (fun q1 => ?_))
  · refine ⟨_, rfl, ?_⟩
    obtain ⟨j, hj, ej⟩ := pu_of (x := p) (n := 17) (by omega) (by omega) (by omega)
    have zj : (nI j).toInt = j := nI_toInt (by omega)
    refine gk_zret dX10_isSide_7 rfl rfl (by first | exact ht j (by rw [ej] at q1; omega) (by omega) ej | exact hf (by omega))
  · refine ⟨_, rfl, ?_⟩
    refine gk_zret dX10_isSide_7 rfl rfl (by first | exact ht j (by rw [ej] at q1; omega) (by omega) ej | exact hf (by omega))
theorem sp_Room_isEdge {p : Int32} (ht : ∀ j, j < 4 → p = nI j → Q (some (.int 1)) h) (hf : ¬ (0 ≤ p.toInt ∧ p.toInt < 4) → Q (some (.int 0)) h) : Gm (kx X) mt_Room_isEdge (d + 1) b [.int p] h Q := by
  have z0 : (0 : Int32).toInt = 0 := rfl
  have z7 : (3 : Int32).toInt = 3 := rfl
  refine Gm.enter (L := [some (.int p)]) (by decide) (fun _ => trivial) (Nat.le_of_ble_eq_true rfl) rfl ?_
  refine gk_iload0 dX10_isEdge_0 (pc' := 1) rfl ?_
  refine gk_iconst (v := 0) dX10_isEdge_1 (pc' := 2) rfl (by decide) ?_
  refine gk_iconst (v := 3) dX10_isEdge_2 (pc' := 3) rfl (by decide) ?_
  refine gk_cS1_3 mz_Room_within gw_240 dX10_isEdge_3 (pc' := 6) rfl (Nat.le_of_ble_eq_true rfl) (sp_Room_within (fun q1 q2 => ?_) (fun q1 => ?_))
  · refine ⟨_, rfl, ?_⟩
    obtain ⟨j, hj, ej⟩ := pu_of (x := p) (n := 4) (by omega) (by omega) (by omega)
    refine gk_zret dX10_isEdge_6 rfl rfl (by first | exact ht j hj ej | exact hf (by omega))
  · refine ⟨_, rfl, ?_⟩
    refine gk_zret dX10_isEdge_6 rfl rfl (by first | exact ht j hj ej | exact hf (by omega))
theorem sp_Room_isOfMask {x y : Int32} (ht : ∀ i j, i < 16 → j < 16 → x = nI i → y = nI j → Q (some (.int 1)) h) (hf : ¬ (0 ≤ x.toInt ∧ x.toInt < 16 ∧ 0 ≤ y.toInt ∧ y.toInt < 16) → Q (some (.int 0)) h) : Gm (kx X) mt_Room_isOfMask (d + 1) b [.int x, .int y] h Q := by
  have z0 : (0 : Int32).toInt = 0 := rfl
  have z7 : (15 : Int32).toInt = 15 := rfl
  refine Gm.enter (L := [some (.int x), some (.int y)]) (by decide) (fun _ => trivial) (Nat.le_of_ble_eq_true rfl) rfl ?_
  refine gk_iload0 dX10_isOfMask_0 (pc' := 1) rfl ?_
  refine gk_iconst (v := 0) dX10_isOfMask_1 (pc' := 2) rfl (by decide) ?_
  refine gk_bipush (v := 15) dX10_isOfMask_2 (pc' := 4) rfl (by decide) ?_
  refine gk_cS1_3 mz_Room_within gw_240 dX10_isOfMask_4 (pc' := 7) rfl (Nat.le_of_ble_eq_true rfl) (sp_Room_within (fun q1 q2 => ?_) (fun q1 => ?_))
  · refine ⟨_, rfl, ?_⟩
    refine gk_if_eq dX10_isOfMask_7 (tgt := 24) (pc' := 10) (by decide) rfl (fun c => absurd c (by decide)) (fun _ => ?_)
    refine gk_iload1 dX10_isOfMask_10 (pc' := 11) rfl ?_
    refine gk_iconst (v := 0) dX10_isOfMask_11 (pc' := 12) rfl (by decide) ?_
    refine gk_bipush (v := 15) dX10_isOfMask_12 (pc' := 14) rfl (by decide) ?_
    refine gk_cS1_3 mz_Room_within gw_240 dX10_isOfMask_14 (pc' := 17) rfl (Nat.le_of_ble_eq_true rfl) (sp_Room_within (fun q3 q4 => ?_) (fun q3 => ?_))
    · refine ⟨_, rfl, ?_⟩
      obtain ⟨i, hi, ei⟩ := pu_of (x := x) (n := 16) (by omega) (by omega) (by omega)
      obtain ⟨j, hj, ej⟩ := pu_of (x := y) (n := 16) (by omega) (by omega) (by omega)
      refine gk_if_eq dX10_isOfMask_17 (tgt := 24) (pc' := 20) (by decide) rfl (fun c => absurd c (by decide)) (fun _ => ?_)
      refine gk_iconst (v := 1) dX10_isOfMask_20 (pc' := 21) rfl (by decide) ?_
      refine gk_goto dX10_isOfMask_21 (tgt := 25) (by decide) ?_
      refine gk_zret dX10_isOfMask_25 rfl rfl (by first | exact ht i j hi hj ei ej | exact hf (by omega))
    · refine ⟨_, rfl, ?_⟩
      refine gk_if_eq dX10_isOfMask_17 (tgt := 24) (pc' := 20) (by decide) rfl (fun _ => ?_) (fun c => absurd c (by decide))
      refine gk_iconst (v := 0) dX10_isOfMask_24 (pc' := 25) rfl (by decide) ?_
      refine gk_zret dX10_isOfMask_25 rfl rfl (by first | exact ht i j hi hj ei ej | exact hf (by omega))
  · refine ⟨_, rfl, ?_⟩
    refine gk_if_eq dX10_isOfMask_7 (tgt := 24) (pc' := 10) (by decide) rfl (fun _ => ?_) (fun c => absurd c (by decide))
    refine gk_iconst (v := 0) dX10_isOfMask_24 (pc' := 25) rfl (by decide) ?_
    refine gk_zret dX10_isOfMask_25 rfl rfl (by first | exact ht i j hi hj ei ej | exact hf (by omega))
end RmA
/-! a row of sixteen bits -/
def mkR (g : Nat → Bool) : Nat → Nat
  | 0 => 0
  | n + 1 => 2 ^ n * (if g n then 1 else 0) + mkR g n
theorem mkR_lt (g : Nat → Bool) : ∀ n, mkR g n < 2 ^ n
  | 0 => by show 0 < 1; decide
  | n + 1 => by
    have := mkR_lt g n
    unfold mkR
    rw [Nat.pow_succ]
    split <;> omega
theorem mkR_bit (g : Nat → Bool) : ∀ n i, (mkR g n).testBit i = (decide (i < n) && g i)
  | 0, i => by simp [mkR]
  | n + 1, i => by
    have h1 := mkR_lt g n
    have ih := mkR_bit g n i
    unfold mkR
    by_cases hg : g n = true
    · rw [if_pos hg, Nat.mul_one]
      rcases Nat.lt_trichotomy i n with h | h | h
      · rw [Nat.testBit_two_pow_add_gt h, ih]
        simp [h, Nat.lt_succ_of_lt h]
      · subst h
        rw [Nat.testBit_two_pow_add_eq, ih]
        simp [hg]
      · rw [Nat.testBit_lt_two_pow (Nat.lt_of_lt_of_le (show 2 ^ n + mkR g n < 2 ^ (n + 1) by rw [Nat.pow_succ]; omega) (Nat.pow_le_pow_right (by decide) h))]
        simp [show ¬ i < n + 1 by omega]
    · have hg' : g n = false := by simpa using hg
      rw [if_neg hg, Nat.mul_zero, Nat.zero_add, ih]
      rcases Nat.lt_trichotomy i n with h | h | h
      · simp [h, Nat.lt_succ_of_lt h]
      · subst h; simp [hg']
      · simp [show ¬ i < n + 1 by omega, show ¬ i < n by omega]
theorem mkR_16 (g : Nat → Bool) : mkR g 16 < 65536 := mkR_lt g 16
theorem b_nI {r : Nat} (hr : r < 4294967296) {i : Nat} (hi : i < 32) : bt (nI r) i = r.testBit i := by
  unfold bt
  show (BitVec.ofNat 32 r).getLsbD i = _
  rw [BitVec.getLsbD_ofNat]
  simp [hi]
theorem b_hi {r i : Nat} (hr : r < 65536) (hi : 16 ≤ i) : r.testBit i = false := Nat.testBit_lt_two_pow (Nat.lt_of_lt_of_le hr (show 2 ^ 16 ≤ 2 ^ i from Nat.pow_le_pow_right (by decide) hi))
theorem row_eq {x : Int32} {g : Nat → Bool} (h : ∀ i, i < 32 → bt x i = (decide (i < 16) && g i)) : x = nI (mkR g 16) := b_ext fun i hi => by
  rw [b_nI (Nat.lt_trans (mkR_16 g) (by decide)) hi, mkR_bit, h i hi]
theorem mkR_id {r : Nat} (h : r < 65536) : mkR (fun x => r.testBit x) 16 = r := Nat.eq_of_testBit_eq fun i => by
  rw [mkR_bit]
  by_cases q : i < 16
  · simp [q]
  · rw [b_hi h (by omega)]
    simp [q]
theorem mkR_congr {f g : Nat → Bool} : ∀ n, (∀ i, i < n → f i = g i) → mkR f n = mkR g n
  | 0, _ => rfl
  | n + 1, h => by
    unfold mkR
    rw [mkR_congr n (fun i hi => h i (by omega)), h n (by omega)]
