/-! ===== numbers ===== -/
theorem pu_rem (x y : Int32) : (x - x / y * y).toInt = x.toInt.tmod y.toInt := by
  rw [Int32.toInt_sub, Int32.toInt_mul, Int32.toInt_div, Int.bmod_mul_bmod, Int.sub_bmod_bmod, Int.mul_comm, ← Int.tmod_def]
  have h1 := pu_rng x
  have h2 : (x.toInt.tmod y.toInt).natAbs ≤ x.toInt.natAbs := by
    rw [Int.natAbs_tmod]
    exact Nat.mod_le _ _
  by_cases h0 : 0 ≤ x.toInt
  · have := Int.tmod_nonneg y.toInt h0
    exact Int.bmod_eq_of_le (by omega) (by omega)
  · have h3 : x.toInt.tmod y.toInt ≤ 0 := by
      rw [← Int.neg_neg x.toInt, Int.neg_tmod]
      have := Int.tmod_nonneg (a := -x.toInt) y.toInt (by omega)
      omega
    exact Int.bmod_eq_of_le (by omega) (by omega)
theorem pu_neg {x : Int32} : x.toInt < 0 ↔ x.toBitVec.msb = true := by
  rw [BitVec.msb_eq_toInt]
  simp
theorem pu_xor {x y : Int32} (hy : 0 ≤ y.toInt) : (x ^^^ y).toInt < 0 ↔ x.toInt < 0 := by
  rw [pu_neg, pu_neg]
  have h : ¬ y.toBitVec.msb = true := fun q => by
    have := pu_neg.mpr q
    omega
  simp [BitVec.msb_xor, h]
theorem pu_negL {x : Int64} : x.toInt < 0 ↔ x.toBitVec.msb = true := by
  rw [BitVec.msb_eq_toInt]
  simp
theorem pu_xorL {x y : Int64} (hy : 0 ≤ y.toInt) : (x ^^^ y).toInt < 0 ↔ x.toInt < 0 := by
  rw [pu_negL, pu_negL]
  have h : ¬ y.toBitVec.msb = true := fun q => by
    have := pu_negL.mpr q
    omega
  simp [BitVec.msb_xor, h]
theorem pu_nn {x : Int32} (h : 0 ≤ x.toInt) : ∃ j : Nat, (j : Int) = x.toInt ∧ x = nI j := by
  have h1 := (pu_rng x).2
  refine ⟨x.toInt.toNat, by omega, pu_inj ?_⟩
  rw [nI_toInt (by omega)]
  omega
theorem pu_nI {x : Int32} {z : Nat} (h : x.toInt = z) (hz : z < 2 ^ 31) : x = nI z := pu_inj (by rw [h, nI_toInt hz])
theorem pu_tmod {a n : Int} (hn : 0 < n) : (if a.tmod n < 0 then a.tmod n + n else a.tmod n) = a % n := by
  by_cases h : 0 ≤ a
  · have h1 := Int.tmod_nonneg n h
    rw [if_neg (by omega), Int.tmod_eq_emod_of_nonneg h]
  · have h2 : a.tmod n = -((-a) % n) := by
      rw [← Int.neg_neg a, Int.neg_tmod, Int.neg_neg, Int.tmod_eq_emod_of_nonneg (by omega)]
    have h3 := Int.emod_nonneg (-a) (show n ≠ 0 by omega)
    have h4 := Int.emod_lt_of_pos (-a) hn
    have h5 : a % n = if (-a) % n = 0 then 0 else n - (-a) % n := by
      rw [← Int.neg_neg a, Int.neg_emod, Int.neg_neg]
      have : (n.natAbs : Int) = n := by omega
      by_cases hz : (-a) % n = 0
      · rw [if_pos (Int.dvd_of_emod_eq_zero hz), if_pos hz]
      · rw [if_neg (fun q => hz (Int.emod_eq_zero_of_dvd q)), if_neg hz, this]
    rw [h2, h5]
    split <;> split <;> omega
theorem pu_min (x y : Int32) : (if y < x then y else x).toInt = min x.toInt y.toInt := by
  split
  · rename_i c; rw [pu_lt] at c; omega
  · rename_i c; rw [pu_lt] at c; omega
theorem pu_max (x y : Int32) : (if x < y then y else x).toInt = max x.toInt y.toInt := by
  split
  · rename_i c; rw [pu_lt] at c; omega
  · rename_i c; rw [pu_lt] at c; omega
/-! what stands at a place, also beyond: by an edge e -/
def fo (n : Nat) (e : Int32) (z : Int) : Nat := if e = 1 then (if z % (2 * n : Nat) < n then (z % (2 * n : Nat)).toNat else (2 * n - 1 - z % (2 * n : Nat)).toNat) else if e = 2 then (z % n).toNat else if z < 0 then 0 else if z < n then z.toNat else n - 1
def sn (w t : Nat) (p : Nat → Int32) (x y : Int) (e : Int32) : Int32 := if 0 ≤ x ∧ x < w ∧ 0 ≤ y ∧ y < t then p (y.toNat * w + x.toNat) else if e = 3 then 0 else p (fo t e y * w + fo w e x)
theorem fo_lt {n : Nat} {e : Int32} {z : Int} (hn : 1 ≤ n) : fo n e z < n := by
  unfold fo
  have h1 := Int.emod_nonneg z (show ((2 * n : Nat) : Int) ≠ 0 by omega)
  have h2 := Int.emod_lt_of_pos z (show 0 < ((2 * n : Nat) : Int) by omega)
  have h3 := Int.emod_nonneg z (show (n : Int) ≠ 0 by omega)
  have h4 := Int.emod_lt_of_pos z (show 0 < (n : Int) by omega)
  split
  · split <;> omega
  · split
    · omega
    · split
      · omega
      · split <;> omega
theorem fo_in {n : Nat} {e : Int32} {z : Int} (h0 : 0 ≤ z) (h1 : z < n) : fo n e z = z.toNat := by
  unfold fo
  have e1 : z % (2 * n : Nat) = z := Int.emod_eq_of_lt h0 (by omega)
  have e2 : z % n = z := Int.emod_eq_of_lt h0 h1
  rw [e1, e2]
  have h2 : ¬ z < 0 := by omega
  by_cases q1 : e = 1 <;> by_cases q2 : e = 2 <;> simp [q1, q2, h1, h2]
/-- a number kept in a kind's bounds -/
def kpt (k : Int32) (z : Int) : Int32 := if z < (loK k).toInt then loK k else if (hiK k).toInt < z then hiK k else Int32.ofInt z
theorem loK_rng (k : Int32) : -32768 ≤ (loK k).toInt ∧ (loK k).toInt ≤ 0 := by
  unfold loK
  split <;> decide
theorem hiK_rng (k : Int32) : 255 ≤ (hiK k).toInt ∧ (hiK k).toInt ≤ 32767 := by
  unfold hiK
  split <;> decide
theorem kpt_of {k : Int32} {r : Int32} {z : Int} (h : r.toInt = max (loK k).toInt (min (hiK k).toInt z)) : r = kpt k z := by
  have h1 := loK_rng k
  have h2 := hiK_rng k
  apply pu_inj
  unfold kpt
  split
  · omega
  · split
    · omega
    · rw [Int32.toInt_ofInt, Jvm.Kit.bmod32 (by omega) (by omega)]
      omega
def sumP (p : Nat → Int32) : Nat → Int32
  | 0 => 0
  | n + 1 => sumP p n + p n
def minP (m : Int32) (p : Nat → Int32) : Nat → Int32
  | 0 => m
  | n + 1 => if p n < minP m p n then p n else minP m p n
def maxP (m : Int32) (p : Nat → Int32) : Nat → Int32
  | 0 => m
  | n + 1 => if maxP m p n < p n then p n else maxP m p n
def cntP (p q : Nat → Int32) : Nat → Nat
  | 0 => 0
  | n + 1 => cntP p q n + (if p n = q n then 0 else 1)
theorem cntP_le (p q : Nat → Int32) : ∀ n, cntP p q n ≤ n
  | 0 => Nat.le_refl 0
  | n + 1 => by
    have := cntP_le p q n
    unfold cntP
    split <;> omega
section JdkB
variable {X : gX} {d : Nat} {b : Nat × Nat} {h : gk_H} {Q : Option Value → gk_H → Prop}
theorem sp_Math_floorMod {x y : Int32} (hy : 0 < y.toInt) (hy2 : y.toInt < 1000000) (hQ : ∀ r : Int32, r.toInt = x.toInt % y.toInt → Q (some (.int r)) h) : Gm (kx X) mt_Math_floorMod d b [.int x, .int y] h Q := by
  have z0 : (0 : Int32).toInt = 0 := rfl
  have hr := pu_rem x y
  have hm := pu_tmod (a := x.toInt) hy
  have hx := pu_xor (x := x) (y := y) (by omega)
  have hb : -y.toInt < x.toInt.tmod y.toInt ∧ x.toInt.tmod y.toInt < y.toInt := tmod_bounds hy
  have hs : 0 ≤ x.toInt → 0 ≤ x.toInt.tmod y.toInt := Int.tmod_nonneg _
  have hs2 : x.toInt < 0 → x.toInt.tmod y.toInt ≤ 0 := fun q => by
    rw [← Int.neg_neg x.toInt, Int.neg_tmod]
    have := Int.tmod_nonneg (a := -x.toInt) y.toInt (by omega)
    omega
  have hne : ¬ y = 0 := fun q => by rw [q] at hy; exact absurd hy (by decide)
  refine Gm.enterJ (L := [some (.int x), some (.int y), none]) (by decide +kernel) (fun _ => trivial) (Nat.le_of_ble_eq_true rfl) rfl ?_
  refine gk_iload0 dJ9_floorMod_7cf53_0 (pc' := 1) rfl ?_
  refine gk_iload1 dJ9_floorMod_7cf53_1 (pc' := 2) rfl ?_
  refine gk_irem dJ9_floorMod_7cf53_2 (pc' := 3) rfl (hne) ?_
  refine gk_istore2 dJ9_floorMod_7cf53_3 (pc' := 4) rfl (by decide) rfl ?_
  refine gk_iload0 dJ9_floorMod_7cf53_4 (pc' := 5) rfl ?_
  refine gk_iload1 dJ9_floorMod_7cf53_5 (pc' := 6) rfl ?_
  refine gk_ixor dJ9_floorMod_7cf53_6 (pc' := 7) rfl ?_
  refine gk_if_ge dJ9_floorMod_7cf53_7 (tgt := 18) (pc' := 10) (by decide) rfl (fun c7 => ?_) (fun c7 => ?_)
  · rw [pu_le, z0] at c7
    refine gk_iload2 dJ9_floorMod_7cf53_18 (pc' := 19) rfl ?_
    refine gk_iret dJ9_floorMod_7cf53_19 rfl (hQ _ (by rw [hr]; split at hm <;> omega))
  · rw [pu_le, z0] at c7
    refine gk_iload2 dJ9_floorMod_7cf53_10 (pc' := 11) rfl ?_
    refine gk_if_eq dJ9_floorMod_7cf53_11 (tgt := 18) (pc' := 14) (by decide) rfl (fun c11 => ?_) (fun c11 => ?_)
    · have q := congrArg Int32.toInt c11; rw [hr, z0] at q
      refine gk_iload2 dJ9_floorMod_7cf53_18 (pc' := 19) rfl ?_
      refine gk_iret dJ9_floorMod_7cf53_19 rfl (hQ _ (by rw [hr]; split at hm <;> omega))
    · have q : ¬ x.toInt.tmod y.toInt = 0 := fun e => c11 (pu_inj (by rw [hr, e]; rfl))
      refine gk_iload2 dJ9_floorMod_7cf53_14 (pc' := 15) rfl ?_
      refine gk_iload1 dJ9_floorMod_7cf53_15 (pc' := 16) rfl ?_
      refine gk_iadd dJ9_floorMod_7cf53_16 (pc' := 17) rfl ?_
      refine gk_iret dJ9_floorMod_7cf53_17 rfl (hQ _ (by rw [Jvm.Kit.i32_add (by omega) (by omega), hr]; split at hm <;> omega))
end JdkB
