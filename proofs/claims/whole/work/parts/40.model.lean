/-! ===== the reference: its cells, exactly ===== -/
abbrev MoA : Type := Nat → Nat → Int32
abbrev MoZ : Type := Nat → Int32
abbrev moF (m : Nat) (Z : MoZ) : List Value := [.ref (m + 1), .ref (m + 2), .int (Z 0), .int (Z 1), .int (Z 2), .ref (m + 3), .ref (m + 4), .ref (m + 5), .ref (m + 6), .ref (m + 7), .int (Z 3), .ref (m + 8), .ref (m + 9), .int (Z 4), .int (Z 5), .ref (m + 10), .ref (m + 11), .ref (m + 12), .ref (m + 13), .ref (m + 14), .ref (m + 15), .ref (m + 16), .ref (m + 17), .ref (m + 18), .int (Z 6), .ref (m + 19)]
def mlen (i : Nat) : Nat := match i with
  | 1 => 3608
  | 2 => 61336
  | 3 => 24
  | 4 => 24
  | 5 => 24
  | 6 => 24
  | 7 => 216
  | 8 => 800
  | 9 => 256
  | 10 => 4
  | 11 => 4
  | 12 => 1024
  | 13 => 1024
  | 14 => 256
  | 15 => 9
  | 16 => 256
  | 17 => 256
  | 18 => 16
  | 19 => 800
  | _ => 0
def mcl (X : gX) (m : Nat) (A : MoA) (Z : MoZ) (i : Nat) : va_E := if i = 0 then .inr (11, moF m Z) else if i = 16 then cZ X 256 (A i) else cI X (mlen i) (A i)
def mkH (X : gX) (h0 : gk_H) (m : Nat) (A : MoA) (Z : MoZ) : gk_H := (fun c => if m ≤ c ∧ c < m + 20 then some (mcl X m A Z (c - m)) else h0.1 c, h0.2)
def uA (A : MoA) (i : Nat) (g : Nat → Int32) : MoA := fun j => if j = i then g else A j
theorem uA_s {A : MoA} {i : Nat} {g : Nat → Int32} : uA A i g i = g := if_pos rfl
theorem uA_n {A : MoA} {i j : Nat} {g : Nat → Int32} (h : j ≠ i) : uA A i g j = A j := if_neg h
theorem uA_u {A : MoA} {i : Nat} {g g' : Nat → Int32} : uA (uA A i g) i g' = uA A i g' := funext fun j => by
  by_cases e : j = i
  · rw [e, uA_s, uA_s]
  · rw [uA_n e, uA_n e, uA_n e]
theorem uA_i {A : MoA} {i : Nat} : uA A i (A i) = A := funext fun j => by
  by_cases e : j = i
  · rw [e, uA_s]
  · rw [uA_n e]
section MoB
variable {X : gX} {h0 : gk_H} {m : Nat} {A : MoA} {Z : MoZ}
theorem mk_at (i : Nat) (hi : i < 20) : (mkH X h0 m A Z).1 (m + i) = some (mcl X m A Z i) := by
  show (if m ≤ m + i ∧ m + i < m + 20 then some (mcl X m A Z (m + i - m)) else h0.1 (m + i)) = _
  rw [if_pos (by omega), Nat.add_sub_cancel_left]
theorem mkJ : (mkH X h0 m A Z).1 m = some (.inr (11, moF m Z)) := mk_at 0 (by decide)
theorem mk_set {A' : MoA} {Z' : MoZ} {e : va_E} (i : Nat) (hi : i < 20) (he : mcl X m A' Z' i = e) (hn : ∀ j, j < 20 → j ≠ i → mcl X m A' Z' j = mcl X m A Z j) : gk_set (mkH X h0 m A Z) (m + i) e = mkH X h0 m A' Z' := by
  refine Prod.ext (funext fun c => ?_) rfl
  rw [gk_set_at]
  show (if c = m + i then some e else if m ≤ c ∧ c < m + 20 then some (mcl X m A Z (c - m)) else h0.1 c) = (if m ≤ c ∧ c < m + 20 then some (mcl X m A' Z' (c - m)) else h0.1 c)
  by_cases q : c = m + i
  · subst q
    rw [if_pos rfl, if_pos (by omega), Nat.add_sub_cancel_left, he]
  · rw [if_neg q]
    by_cases z : m ≤ c ∧ c < m + 20
    · rw [if_pos z, if_pos z, hn (c - m) (by omega) (by omega)]
    · rw [if_neg z, if_neg z]
theorem mk_setA {i : Nat} {g : Nat → Int32} (hi : 0 < i) : ∀ j, j < 20 → j ≠ i → mcl X m (uA A i g) Z j = mcl X m A Z j := fun j _ hn => by
  unfold mcl
  rw [uA_n hn]
theorem mk_setZ {i : Nat} {v : Int32} : ∀ j, j < 20 → j ≠ 0 → mcl X m A (upd Z i v) j = mcl X m A Z j := fun j _ hn => by
  unfold mcl
  rw [if_neg hn, if_neg hn]
theorem mkA1 : (mkH X h0 m A Z).1 (m + 1) = some (cI X 3608 (A 1)) := mk_at 1 (by decide)
theorem mkS1 {g : Nat → Int32} : gk_set (mkH X h0 m A Z) (m + 1) (cI X 3608 g) = mkH X h0 m (uA A 1 g) Z := mk_set 1 (by decide) rfl (mk_setA (by decide))
theorem mkA2 : (mkH X h0 m A Z).1 (m + 2) = some (cI X 61336 (A 2)) := mk_at 2 (by decide)
theorem mkS2 {g : Nat → Int32} : gk_set (mkH X h0 m A Z) (m + 2) (cI X 61336 g) = mkH X h0 m (uA A 2 g) Z := mk_set 2 (by decide) rfl (mk_setA (by decide))
theorem mkA3 : (mkH X h0 m A Z).1 (m + 3) = some (cI X 24 (A 3)) := mk_at 3 (by decide)
theorem mkS3 {g : Nat → Int32} : gk_set (mkH X h0 m A Z) (m + 3) (cI X 24 g) = mkH X h0 m (uA A 3 g) Z := mk_set 3 (by decide) rfl (mk_setA (by decide))
theorem mkA4 : (mkH X h0 m A Z).1 (m + 4) = some (cI X 24 (A 4)) := mk_at 4 (by decide)
theorem mkS4 {g : Nat → Int32} : gk_set (mkH X h0 m A Z) (m + 4) (cI X 24 g) = mkH X h0 m (uA A 4 g) Z := mk_set 4 (by decide) rfl (mk_setA (by decide))
theorem mkA5 : (mkH X h0 m A Z).1 (m + 5) = some (cI X 24 (A 5)) := mk_at 5 (by decide)
theorem mkS5 {g : Nat → Int32} : gk_set (mkH X h0 m A Z) (m + 5) (cI X 24 g) = mkH X h0 m (uA A 5 g) Z := mk_set 5 (by decide) rfl (mk_setA (by decide))
theorem mkA6 : (mkH X h0 m A Z).1 (m + 6) = some (cI X 24 (A 6)) := mk_at 6 (by decide)
theorem mkS6 {g : Nat → Int32} : gk_set (mkH X h0 m A Z) (m + 6) (cI X 24 g) = mkH X h0 m (uA A 6 g) Z := mk_set 6 (by decide) rfl (mk_setA (by decide))
theorem mkA7 : (mkH X h0 m A Z).1 (m + 7) = some (cI X 216 (A 7)) := mk_at 7 (by decide)
theorem mkS7 {g : Nat → Int32} : gk_set (mkH X h0 m A Z) (m + 7) (cI X 216 g) = mkH X h0 m (uA A 7 g) Z := mk_set 7 (by decide) rfl (mk_setA (by decide))
theorem mkA8 : (mkH X h0 m A Z).1 (m + 8) = some (cI X 800 (A 8)) := mk_at 8 (by decide)
theorem mkS8 {g : Nat → Int32} : gk_set (mkH X h0 m A Z) (m + 8) (cI X 800 g) = mkH X h0 m (uA A 8 g) Z := mk_set 8 (by decide) rfl (mk_setA (by decide))
theorem mkA9 : (mkH X h0 m A Z).1 (m + 9) = some (cI X 256 (A 9)) := mk_at 9 (by decide)
theorem mkS9 {g : Nat → Int32} : gk_set (mkH X h0 m A Z) (m + 9) (cI X 256 g) = mkH X h0 m (uA A 9 g) Z := mk_set 9 (by decide) rfl (mk_setA (by decide))
theorem mkA10 : (mkH X h0 m A Z).1 (m + 10) = some (cI X 4 (A 10)) := mk_at 10 (by decide)
theorem mkS10 {g : Nat → Int32} : gk_set (mkH X h0 m A Z) (m + 10) (cI X 4 g) = mkH X h0 m (uA A 10 g) Z := mk_set 10 (by decide) rfl (mk_setA (by decide))
theorem mkA11 : (mkH X h0 m A Z).1 (m + 11) = some (cI X 4 (A 11)) := mk_at 11 (by decide)
theorem mkS11 {g : Nat → Int32} : gk_set (mkH X h0 m A Z) (m + 11) (cI X 4 g) = mkH X h0 m (uA A 11 g) Z := mk_set 11 (by decide) rfl (mk_setA (by decide))
theorem mkA12 : (mkH X h0 m A Z).1 (m + 12) = some (cI X 1024 (A 12)) := mk_at 12 (by decide)
theorem mkS12 {g : Nat → Int32} : gk_set (mkH X h0 m A Z) (m + 12) (cI X 1024 g) = mkH X h0 m (uA A 12 g) Z := mk_set 12 (by decide) rfl (mk_setA (by decide))
theorem mkA13 : (mkH X h0 m A Z).1 (m + 13) = some (cI X 1024 (A 13)) := mk_at 13 (by decide)
theorem mkS13 {g : Nat → Int32} : gk_set (mkH X h0 m A Z) (m + 13) (cI X 1024 g) = mkH X h0 m (uA A 13 g) Z := mk_set 13 (by decide) rfl (mk_setA (by decide))
theorem mkA14 : (mkH X h0 m A Z).1 (m + 14) = some (cI X 256 (A 14)) := mk_at 14 (by decide)
theorem mkS14 {g : Nat → Int32} : gk_set (mkH X h0 m A Z) (m + 14) (cI X 256 g) = mkH X h0 m (uA A 14 g) Z := mk_set 14 (by decide) rfl (mk_setA (by decide))
theorem mkA15 : (mkH X h0 m A Z).1 (m + 15) = some (cI X 9 (A 15)) := mk_at 15 (by decide)
theorem mkS15 {g : Nat → Int32} : gk_set (mkH X h0 m A Z) (m + 15) (cI X 9 g) = mkH X h0 m (uA A 15 g) Z := mk_set 15 (by decide) rfl (mk_setA (by decide))
theorem mkA16 : (mkH X h0 m A Z).1 (m + 16) = some (cZ X 256 (A 16)) := mk_at 16 (by decide)
theorem mkS16 {g : Nat → Int32} : gk_set (mkH X h0 m A Z) (m + 16) (cZ X 256 g) = mkH X h0 m (uA A 16 g) Z := mk_set 16 (by decide) rfl (mk_setA (by decide))
theorem mkA17 : (mkH X h0 m A Z).1 (m + 17) = some (cI X 256 (A 17)) := mk_at 17 (by decide)
theorem mkS17 {g : Nat → Int32} : gk_set (mkH X h0 m A Z) (m + 17) (cI X 256 g) = mkH X h0 m (uA A 17 g) Z := mk_set 17 (by decide) rfl (mk_setA (by decide))
theorem mkA18 : (mkH X h0 m A Z).1 (m + 18) = some (cI X 16 (A 18)) := mk_at 18 (by decide)
theorem mkS18 {g : Nat → Int32} : gk_set (mkH X h0 m A Z) (m + 18) (cI X 16 g) = mkH X h0 m (uA A 18 g) Z := mk_set 18 (by decide) rfl (mk_setA (by decide))
theorem mkA19 : (mkH X h0 m A Z).1 (m + 19) = some (cI X 800 (A 19)) := mk_at 19 (by decide)
theorem mkS19 {g : Nat → Int32} : gk_set (mkH X h0 m A Z) (m + 19) (cI X 800 g) = mkH X h0 m (uA A 19 g) Z := mk_set 19 (by decide) rfl (mk_setA (by decide))
theorem mkP0 {v : Int32} : gk_set (mkH X h0 m A Z) m (.inr (11, List.set [.ref (m + 1), .ref (m + 2), .int (Z 0), .int (Z 1), .int (Z 2), .ref (m + 3), .ref (m + 4), .ref (m + 5), .ref (m + 6), .ref (m + 7), .int (Z 3), .ref (m + 8), .ref (m + 9), .int (Z 4), .int (Z 5), .ref (m + 10), .ref (m + 11), .ref (m + 12), .ref (m + 13), .ref (m + 14), .ref (m + 15), .ref (m + 16), .ref (m + 17), .ref (m + 18), .int (Z 6), .ref (m + 19)] 2 (.int v))) = mkH X h0 m A (upd Z 0 v) := mk_set 0 (by decide) rfl mk_setZ
theorem mkP1 {v : Int32} : gk_set (mkH X h0 m A Z) m (.inr (11, List.set [.ref (m + 1), .ref (m + 2), .int (Z 0), .int (Z 1), .int (Z 2), .ref (m + 3), .ref (m + 4), .ref (m + 5), .ref (m + 6), .ref (m + 7), .int (Z 3), .ref (m + 8), .ref (m + 9), .int (Z 4), .int (Z 5), .ref (m + 10), .ref (m + 11), .ref (m + 12), .ref (m + 13), .ref (m + 14), .ref (m + 15), .ref (m + 16), .ref (m + 17), .ref (m + 18), .int (Z 6), .ref (m + 19)] 3 (.int v))) = mkH X h0 m A (upd Z 1 v) := mk_set 0 (by decide) rfl mk_setZ
theorem mkP2 {v : Int32} : gk_set (mkH X h0 m A Z) m (.inr (11, List.set [.ref (m + 1), .ref (m + 2), .int (Z 0), .int (Z 1), .int (Z 2), .ref (m + 3), .ref (m + 4), .ref (m + 5), .ref (m + 6), .ref (m + 7), .int (Z 3), .ref (m + 8), .ref (m + 9), .int (Z 4), .int (Z 5), .ref (m + 10), .ref (m + 11), .ref (m + 12), .ref (m + 13), .ref (m + 14), .ref (m + 15), .ref (m + 16), .ref (m + 17), .ref (m + 18), .int (Z 6), .ref (m + 19)] 4 (.int v))) = mkH X h0 m A (upd Z 2 v) := mk_set 0 (by decide) rfl mk_setZ
theorem mkP3 {v : Int32} : gk_set (mkH X h0 m A Z) m (.inr (11, List.set [.ref (m + 1), .ref (m + 2), .int (Z 0), .int (Z 1), .int (Z 2), .ref (m + 3), .ref (m + 4), .ref (m + 5), .ref (m + 6), .ref (m + 7), .int (Z 3), .ref (m + 8), .ref (m + 9), .int (Z 4), .int (Z 5), .ref (m + 10), .ref (m + 11), .ref (m + 12), .ref (m + 13), .ref (m + 14), .ref (m + 15), .ref (m + 16), .ref (m + 17), .ref (m + 18), .int (Z 6), .ref (m + 19)] 10 (.int v))) = mkH X h0 m A (upd Z 3 v) := mk_set 0 (by decide) rfl mk_setZ
theorem mkP4 {v : Int32} : gk_set (mkH X h0 m A Z) m (.inr (11, List.set [.ref (m + 1), .ref (m + 2), .int (Z 0), .int (Z 1), .int (Z 2), .ref (m + 3), .ref (m + 4), .ref (m + 5), .ref (m + 6), .ref (m + 7), .int (Z 3), .ref (m + 8), .ref (m + 9), .int (Z 4), .int (Z 5), .ref (m + 10), .ref (m + 11), .ref (m + 12), .ref (m + 13), .ref (m + 14), .ref (m + 15), .ref (m + 16), .ref (m + 17), .ref (m + 18), .int (Z 6), .ref (m + 19)] 13 (.int v))) = mkH X h0 m A (upd Z 4 v) := mk_set 0 (by decide) rfl mk_setZ
theorem mkP5 {v : Int32} : gk_set (mkH X h0 m A Z) m (.inr (11, List.set [.ref (m + 1), .ref (m + 2), .int (Z 0), .int (Z 1), .int (Z 2), .ref (m + 3), .ref (m + 4), .ref (m + 5), .ref (m + 6), .ref (m + 7), .int (Z 3), .ref (m + 8), .ref (m + 9), .int (Z 4), .int (Z 5), .ref (m + 10), .ref (m + 11), .ref (m + 12), .ref (m + 13), .ref (m + 14), .ref (m + 15), .ref (m + 16), .ref (m + 17), .ref (m + 18), .int (Z 6), .ref (m + 19)] 14 (.int v))) = mkH X h0 m A (upd Z 5 v) := mk_set 0 (by decide) rfl mk_setZ
theorem mkP6 {v : Int32} : gk_set (mkH X h0 m A Z) m (.inr (11, List.set [.ref (m + 1), .ref (m + 2), .int (Z 0), .int (Z 1), .int (Z 2), .ref (m + 3), .ref (m + 4), .ref (m + 5), .ref (m + 6), .ref (m + 7), .int (Z 3), .ref (m + 8), .ref (m + 9), .int (Z 4), .int (Z 5), .ref (m + 10), .ref (m + 11), .ref (m + 12), .ref (m + 13), .ref (m + 14), .ref (m + 15), .ref (m + 16), .ref (m + 17), .ref (m + 18), .int (Z 6), .ref (m + 19)] 24 (.int v))) = mkH X h0 m A (upd Z 6 v) := mk_set 0 (by decide) rfl mk_setZ
end MoB
section MoN
variable {K : gk_K} {M : gk_M} {d : Nat} {b : Nat × Nat} {pc pc' : Nat} {L : List (Option Value)} {st : List Value} {h : gk_H} {Q : Option Value → gk_H → Prop} {x y : Nat}
theorem gk_iaddN (hd : decode M.2.1 pc = .ok (.iadd, 1)) (hp : pc + 1 = pc') (k : G K M d b pc' L (.int (nI (x + y)) :: st) h Q) : G K M d b pc L (.int (nI y) :: .int (nI x) :: st) h Q := gk_iadd hd hp (by rw [nI_add]; exact k)
theorem gk_imulN (hd : decode M.2.1 pc = .ok (.imul, 1)) (hp : pc + 1 = pc') (k : G K M d b pc' L (.int (nI (x * y)) :: st) h Q) : G K M d b pc L (.int (nI y) :: .int (nI x) :: st) h Q := gk_imul hd hp (by rw [pk_mul]; exact k)
theorem gk_isubN (hd : decode M.2.1 pc = .ok (.isub, 1)) (hp : pc + 1 = pc') (hl : y ≤ x) (k : G K M d b pc' L (.int (nI (x - y)) :: st) h Q) : G K M d b pc L (.int (nI y) :: .int (nI x) :: st) h Q := gk_isub hd hp (by rw [pk_sub hl]; exact k)
theorem nI_nz {y : Nat} (h : 0 < y) (h2 : y < 2 ^ 31) : ¬ nI y = 0 := fun e => by
  have := nI_inj (a := y) (c := 0) h2 (by omega) e
  omega
theorem gk_idivN (hd : decode M.2.1 pc = .ok (.idiv, 1)) (hp : pc + 1 = pc') (hx : x < 2 ^ 31) (hy : y < 2 ^ 31) (h0 : 0 < y) (k : G K M d b pc' L (.int (nI (x / y)) :: st) h Q) : G K M d b pc L (.int (nI y) :: .int (nI x) :: st) h Q := gk_idiv hd hp (nI_nz h0 hy) (by rw [nI_div hx hy h0]; exact k)
theorem gk_iremN (hd : decode M.2.1 pc = .ok (.irem, 1)) (hp : pc + 1 = pc') (hx : x < 2 ^ 31) (hy : y < 2 ^ 31) (h0 : 0 < y) (k : G K M d b pc' L (.int (nI (x % y)) :: st) h Q) : G K M d b pc L (.int (nI y) :: .int (nI x) :: st) h Q := gk_irem hd hp (nI_nz h0 hy) (by rw [nI_mod hx hy h0]; exact k)
end MoN
/-! what a row of ints tells: a picture at q, all pictures and masks at o -/
def pRow (f : Nat → Int32) (q : Nat) (c : Pc) : Prop := f q = c.1 ∧ f (q + 1) = nI c.2.1 ∧ f (q + 2) = nI c.2.2.1 ∧ ∀ i, i < c.2.1 * c.2.2.1 → f (q + 3 + i) = c.2.2.2 i
def mRow (f : Nat → Int32) (q : Nat) (R : Nat → Nat) : Prop := ∀ y, y < 16 → ∀ x, x < 16 → f (q + 16 * y + x) = if (R y).testBit x then 1 else 0
def wRow (f : Nat → Int32) (o : Nat) (W : Wd) : Prop := (∀ p, p < 8 → pRow f (o + 259 * p) (W.1 p)) ∧ ∀ q, q < 6 → mRow f (o + 2072 + 256 * q) (W.2 q)
theorem pRow.to {f g : Nat → Int32} {q q' : Nat} {c : Pc} (hc : okP c) (h : pRow f q c) (e : ∀ i, i < 259 → g (q' + i) = f (q + i)) : pRow g q' c := by
  have ha : c.2.1 * c.2.2.1 ≤ 256 := by
    rcases hc with z | z
    · rw [z.2.1, Nat.zero_mul]; omega
    · exact area_le z.2.1.2 z.2.2.1.2
  exact ⟨(e 0 (by omega)).trans h.1, (e 1 (by omega)).trans h.2.1, (e 2 (by omega)).trans h.2.2.1, fun i hi => by
    have := e (3 + i) (by omega)
    rw [← Nat.add_assoc, ← Nat.add_assoc] at this
    exact this.trans (h.2.2.2 i hi)⟩
theorem mRow.to {f g : Nat → Int32} {q q' : Nat} {R : Nat → Nat} (h : mRow f q R) (e : ∀ i, i < 256 → g (q' + i) = f (q + i)) : mRow g q' R := fun y hy x hx => by
  have := e (16 * y + x) (by omega)
  rw [← Nat.add_assoc, ← Nat.add_assoc] at this
  exact this.trans (h y hy x hx)
theorem wRow.to {f g : Nat → Int32} {o o' : Nat} {W : Wd} (hW : okW W) (h : wRow f o W) (e : ∀ i, i < 3608 → g (o' + i) = f (o + i)) : wRow g o' W := by
  refine ⟨fun p hp => (h.1 p hp).to (hW.1 p hp) (fun i hi => ?_), fun q hq => (h.2 q hq).to (fun i hi => ?_)⟩
  · have := e (259 * p + i) (by omega)
    rw [← Nat.add_assoc, ← Nat.add_assoc] at this
    exact this
  · have := e (2072 + 256 * q + i) (by omega)
    simp only [← Nat.add_assoc] at this
    exact this
def MoS (A : MoA) (Z : MoZ) (S : St) : Prop := wRow (A 1) 0 (cuH S.1) ∧ (∀ j, j ≤ S.1.2.2.1 → (j < S.1.2.2.1 ∨ S.1.2.1 < S.1.2.2.1) → wRow (A 2) (3608 * j) (S.1.1 j)) ∧ (Z 0 = nI S.1.2.1 ∧ Z 1 = nI S.1.2.2.1 ∧ Z 2 = nI S.2.1.1 ∧ Z 3 = nI S.2.2.2) ∧ (∀ i, i < S.2.1.1 → A 3 i = S.2.1.2.1 i ∧ A 4 i = S.2.1.2.2.1 i ∧ A 5 i = S.2.1.2.2.2.1 i ∧ A 6 i = nI (S.2.1.2.2.2.2.1 i) ∧ (S.2.1.2.1 i = 4 → ∀ j, j < 9 → A 7 (9 * i + j) = S.2.1.2.2.2.2.2 i j)) ∧ ∀ i, i < S.2.2.2 → A 8 i = S.2.2.1 i
def wfS (S : St) : Prop := wfH S.1 ∧ wfT S.2.1 ∧ S.2.2.2 ≤ 800 ∧ ∀ i, i < S.2.2.2 → 0 ≤ (S.2.2.1 i).toInt ∧ (S.2.2.1 i).toInt ≤ 255
def Mod (X : gX) (h : gk_H) (m : Nat) (S : St) : Prop := ∃ h0 A Z, h = mkH X h0 m A Z ∧ MoS A Z S
def frO (m : Nat) (h h' : gk_H) : Prop := h'.2 = h.2 ∧ ∀ c, (c < m ∨ m + 20 ≤ c) → h'.1 c = h.1 c
theorem mk_fr {X : gX} {h0 : gk_H} {m : Nat} {A A' : MoA} {Z Z' : MoZ} : frO m (mkH X h0 m A Z) (mkH X h0 m A' Z') := ⟨rfl, fun c hc => by
  show (if m ≤ c ∧ c < m + 20 then _ else h0.1 c) = (if m ≤ c ∧ c < m + 20 then _ else h0.1 c)
  rw [if_neg (by omega), if_neg (by omega)]⟩
theorem Mod.kept {X : gX} {h h' : gk_H} {m : Nat} {S : St} (hm : Mod X h m S) (he : ∀ c, m ≤ c → c < m + 20 → h'.1 c = h.1 c) : Mod X h' m S := by
  obtain ⟨h0, A, Z, rfl, hS⟩ := hm
  refine ⟨h', A, Z, Prod.ext (funext fun c => ?_) rfl, hS⟩
  show h'.1 c = if m ≤ c ∧ c < m + 20 then some (mcl X m A Z (c - m)) else h'.1 c
  by_cases z : m ≤ c ∧ c < m + 20
  · rw [if_pos z, he c z.1 z.2]
    show (if m ≤ c ∧ c < m + 20 then some (mcl X m A Z (c - m)) else h0.1 c) = _
    rw [if_pos z]
  · rw [if_neg z]
theorem MoS.pic {A : MoA} {Z : MoZ} {S : St} (h : MoS A Z S) {p : Nat} (hp : p < 8) : pRow (A 1) (259 * p) ((cuH S.1).1 p) := by
  have := h.1.1 p hp
  rw [Nat.zero_add] at this
  exact this
theorem MoS.picS {A : MoA} {Z : MoZ} {S : St} (h : MoS A Z S) {p : Nat} (hp : p < 8) : pRow (A 1) (259 * p) (pcS S (nI p)) := by
  have := h.pic hp
  rw [show pcS S (nI p) = (cuH S.1).1 p by show (cuH S.1).1 (nI p).toInt.toNat = _; rw [nI_nat (by omega)]]
  exact this
theorem MoS.msk {A : MoA} {Z : MoZ} {S : St} (h : MoS A Z S) {p : Nat} (hp : p < 6) : mRow (A 1) (2072 + 256 * p) (mkS S (nI p)) := by
  have := h.1.2 p hp
  rw [Nat.zero_add] at this
  rw [show mkS S (nI p) = (cuH S.1).2 p by show (cuH S.1).2 (nI p).toInt.toNat = _; rw [nI_nat (by omega)]]
  exact this
theorem wfS.okp {S : St} (h : wfS S) {p : Nat} (hp : p < 8) : okP (pcS S (nI p)) := by
  show okP ((cuH S.1).1 (nI p).toInt.toNat)
  rw [nI_nat (by omega)]
  exact h.1.cu.1 p hp
theorem okP.wt {c : Pc} (h : okP c) : c.2.1 ≤ 16 ∧ c.2.2.1 ≤ 16 := by
  rcases h with z | z
  · omega
  · omega
theorem okP.ar {c : Pc} (h : okP c) : c.2.1 * c.2.2.1 ≤ 256 := area_le h.wt.1 h.wt.2
