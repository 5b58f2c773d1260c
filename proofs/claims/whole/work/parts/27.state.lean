/-! ===== the state: pictures, masks, acts, filters, the tape ===== -/
abbrev Pc : Type := Int32 × Nat × Nat × (Nat → Int32)
abbrev Wd : Type := (Nat → Pc) × (Nat → Nat → Nat)
/-- the states one after another, where we are, where they end, what act j changes (a mask?), which one -/
abbrev Hi : Type := (Nat → Wd) × Nat × Nat × (Nat → Bool) × (Nat → Nat)
abbrev Ft : Type := Nat × (Nat → Int32) × (Nat → Int32) × (Nat → Int32) × (Nat → Nat) × (Nat → Nat → Int32)
abbrev Tt : Type := (Nat → Int32) × Nat
abbrev St : Type := Hi × Ft × Tt
abbrev cuH (H : Hi) : Wd := H.1 H.2.1
abbrev isPc (X : gX) (h : gk_H) (a : Nat) (c : Pc) : Prop := isPic X h a c.1 c.2.1 c.2.2.1 c.2.2.2
def okP (c : Pc) : Prop := (c.1 = -1 ∧ c.2.1 = 0 ∧ c.2.2.1 = 0) ∨ ((c.1 = 0 ∨ c.1 = 1) ∧ (1 ≤ c.2.1 ∧ c.2.1 ≤ 16) ∧ (1 ≤ c.2.2.1 ∧ c.2.2.1 ≤ 16) ∧ ∀ i, i < c.2.1 * c.2.2.1 → inK c.1 (c.2.2.2 i))
def okW (W : Wd) : Prop := (∀ p, p < 8 → okP (W.1 p)) ∧ ∀ m, m < 6 → ∀ y, y < 16 → W.2 m y < 65536
def wfH (H : Hi) : Prop := H.2.1 ≤ H.2.2.1 ∧ H.2.2.1 ≤ 16 ∧ (∀ j, j < H.2.2.1 → (H.2.2.2.1 j = true → H.2.2.2.2 j < 6) ∧ (H.2.2.2.1 j = false → H.2.2.2.2 j < 8)) ∧ (∀ j, j < H.2.2.1 → (H.2.2.2.1 j = true → (H.1 (j + 1)).1 = (H.1 j).1 ∧ ∀ m, m ≠ H.2.2.2.2 j → (H.1 (j + 1)).2 m = (H.1 j).2 m) ∧ (H.2.2.2.1 j = false → (H.1 (j + 1)).2 = (H.1 j).2 ∧ ∀ p, p ≠ H.2.2.2.2 j → (H.1 (j + 1)).1 p = (H.1 j).1 p)) ∧ ∀ j, j ≤ H.2.2.1 → okW (H.1 j)
def wfT (F : Ft) : Prop := F.1 ≤ 24 ∧ (∀ i, i < F.1 → wfF F.2.1 F.2.2.1 F.2.2.2.1 F.2.2.2.2.1 F.2.2.2.2.2 i) ∧ ∀ i, F.2.1 i = 5 → (F.2.2.1 i).toInt.toNat < 9
/-- an act: b says whether of a mask, s which one, W what all is after it -/
def psh (H : Hi) (b : Bool) (s : Nat) (W : Wd) : Hi := if H.2.1 < 16 then (fun j => if j = H.2.1 + 1 then W else H.1 j, H.2.1 + 1, H.2.1 + 1, fun j => if j = H.2.1 then b else H.2.2.2.1 j, fun j => if j = H.2.1 then s else H.2.2.2.2 j) else (fun j => if j = 16 then W else H.1 (j + 1), 16, 16, fun j => if j = 15 then b else H.2.2.2.1 (j + 1), fun j => if j = 15 then s else H.2.2.2.2 (j + 1))
def setP (W : Wd) (p : Nat) (c : Pc) : Wd := (fun q => if q = p then c else W.1 q, W.2)
def setM (W : Wd) (m : Nat) (R : Nat → Nat) : Wd := (W.1, fun q => if q = m then R else W.2 q)
def pshP (H : Hi) (p : Nat) (c : Pc) : Hi := psh H false p (setP (cuH H) p c)
def pshM (H : Hi) (m : Nat) (R : Nat → Nat) : Hi := psh H true m (setM (cuH H) m R)
theorem psh_lt {H : Hi} {b : Bool} {s : Nat} {W : Wd} (h : H.2.1 < 16) : psh H b s W = (fun j => if j = H.2.1 + 1 then W else H.1 j, H.2.1 + 1, H.2.1 + 1, fun j => if j = H.2.1 then b else H.2.2.2.1 j, fun j => if j = H.2.1 then s else H.2.2.2.2 j) := if_pos h
theorem psh_ge {H : Hi} {b : Bool} {s : Nat} {W : Wd} (h : ¬ H.2.1 < 16) : psh H b s W = (fun j => if j = 16 then W else H.1 (j + 1), 16, 16, fun j => if j = 15 then b else H.2.2.2.1 (j + 1), fun j => if j = 15 then s else H.2.2.2.2 (j + 1)) := if_neg h
theorem psh_cu {H : Hi} {b : Bool} {s : Nat} {W : Wd} : cuH (psh H b s W) = W := by
  by_cases h : H.2.1 < 16
  · rw [psh_lt h]; simp [cuH]
  · rw [psh_ge h]; simp [cuH]
theorem wf_psh {H : Hi} {b : Bool} {s : Nat} {W : Wd} (hw : wfH H) (hs : (b = true → s < 6) ∧ (b = false → s < 8)) (hd : (b = true → W.1 = (cuH H).1 ∧ ∀ m, m ≠ s → W.2 m = (cuH H).2 m) ∧ (b = false → W.2 = (cuH H).2 ∧ ∀ p, p ≠ s → W.1 p = (cuH H).1 p)) (ho : okW W) : wfH (psh H b s W) := by
  obtain ⟨w1, w2, w3, w4, w5⟩ := hw
  by_cases h : H.2.1 < 16
  · rw [psh_lt h]
    refine ⟨Nat.le_refl _, by show H.2.1 + 1 ≤ 16; omega, fun j hj => ?_, fun j hj => ?_, fun j hj => ?_⟩
    · have hj : j < H.2.1 + 1 := hj
      show ((if j = H.2.1 then b else H.2.2.2.1 j) = true → (if j = H.2.1 then s else H.2.2.2.2 j) < 6) ∧ ((if j = H.2.1 then b else H.2.2.2.1 j) = false → (if j = H.2.1 then s else H.2.2.2.2 j) < 8)
      by_cases e : j = H.2.1
      · rw [if_pos e, if_pos e]; exact hs
      · rw [if_neg e, if_neg e]; exact w3 j (by omega)
    · have hj : j < H.2.1 + 1 := hj
      show ((if j = H.2.1 then b else H.2.2.2.1 j) = true → (if j + 1 = H.2.1 + 1 then W else H.1 (j + 1)).1 = (if j = H.2.1 + 1 then W else H.1 j).1 ∧ ∀ m, m ≠ (if j = H.2.1 then s else H.2.2.2.2 j) → (if j + 1 = H.2.1 + 1 then W else H.1 (j + 1)).2 m = (if j = H.2.1 + 1 then W else H.1 j).2 m) ∧ ((if j = H.2.1 then b else H.2.2.2.1 j) = false → (if j + 1 = H.2.1 + 1 then W else H.1 (j + 1)).2 = (if j = H.2.1 + 1 then W else H.1 j).2 ∧ ∀ m, m ≠ (if j = H.2.1 then s else H.2.2.2.2 j) → (if j + 1 = H.2.1 + 1 then W else H.1 (j + 1)).1 m = (if j = H.2.1 + 1 then W else H.1 j).1 m)
      rw [if_neg (show ¬ j = H.2.1 + 1 by omega)]
      by_cases e : j = H.2.1
      · subst e; rw [if_pos rfl, if_pos rfl, if_pos rfl]; exact hd
      · rw [if_neg e, if_neg e, if_neg (show ¬ j + 1 = H.2.1 + 1 by omega)]; exact w4 j (by omega)
    · have hj : j ≤ H.2.1 + 1 := hj
      show okW (if j = H.2.1 + 1 then W else H.1 j)
      by_cases e : j = H.2.1 + 1
      · rw [if_pos e]; exact ho
      · rw [if_neg e]; exact w5 j (by omega)
  · rw [psh_ge h]
    have h16 : H.2.1 = 16 := by omega
    refine ⟨Nat.le_refl _, Nat.le_refl _, fun j hj => ?_, fun j hj => ?_, fun j hj => ?_⟩
    · have hj : j < 16 := hj
      show ((if j = 15 then b else H.2.2.2.1 (j + 1)) = true → (if j = 15 then s else H.2.2.2.2 (j + 1)) < 6) ∧ ((if j = 15 then b else H.2.2.2.1 (j + 1)) = false → (if j = 15 then s else H.2.2.2.2 (j + 1)) < 8)
      by_cases e : j = 15
      · rw [if_pos e, if_pos e]; exact hs
      · rw [if_neg e, if_neg e]; exact w3 (j + 1) (by omega)
    · have hj : j < 16 := hj
      show ((if j = 15 then b else H.2.2.2.1 (j + 1)) = true → (if j + 1 = 16 then W else H.1 (j + 1 + 1)).1 = (if j = 16 then W else H.1 (j + 1)).1 ∧ ∀ m, m ≠ (if j = 15 then s else H.2.2.2.2 (j + 1)) → (if j + 1 = 16 then W else H.1 (j + 1 + 1)).2 m = (if j = 16 then W else H.1 (j + 1)).2 m) ∧ ((if j = 15 then b else H.2.2.2.1 (j + 1)) = false → (if j + 1 = 16 then W else H.1 (j + 1 + 1)).2 = (if j = 16 then W else H.1 (j + 1)).2 ∧ ∀ m, m ≠ (if j = 15 then s else H.2.2.2.2 (j + 1)) → (if j + 1 = 16 then W else H.1 (j + 1 + 1)).1 m = (if j = 16 then W else H.1 (j + 1)).1 m)
      rw [if_neg (show ¬ j = 16 by omega)]
      by_cases e : j = 15
      · rw [if_pos e, if_pos e, if_pos (show j + 1 = 16 by omega), show j + 1 = H.2.1 by omega]; exact hd
      · rw [if_neg e, if_neg e, if_neg (show ¬ j + 1 = 16 by omega)]; exact w4 (j + 1) (by omega)
    · have hj : j ≤ 16 := hj
      show okW (if j = 16 then W else H.1 (j + 1))
      by_cases e : j = 16
      · rw [if_pos e]; exact ho
      · rw [if_neg e]; exact w5 (j + 1) (by omega)
theorem wfH.cu {H : Hi} (hw : wfH H) : okW (cuH H) := hw.2.2.2.2 _ hw.1
theorem wf_pshP {H : Hi} {p : Nat} {c : Pc} (hw : wfH H) (hp : p < 8) (hc : okP c) : wfH (pshP H p c) := by
  refine wf_psh hw ⟨fun q => (by cases q), fun _ => hp⟩ ⟨fun q => (by cases q), fun _ => ⟨rfl, fun q hq => if_neg hq⟩⟩ ⟨fun q hq => ?_, hw.cu.2⟩
  show okP (if q = p then c else (cuH H).1 q)
  by_cases e : q = p
  · rw [if_pos e]; exact hc
  · rw [if_neg e]; exact hw.cu.1 q hq
theorem wf_pshM {H : Hi} {p : Nat} {R : Nat → Nat} (hw : wfH H) (hp : p < 6) (hc : ∀ y, y < 16 → R y < 65536) : wfH (pshM H p R) := by
  refine wf_psh hw ⟨fun _ => hp, fun q => (by cases q)⟩ ⟨fun _ => ⟨rfl, fun q hq => if_neg hq⟩, fun q => (by cases q)⟩ ⟨hw.cu.1, fun q hq => ?_⟩
  show ∀ y, y < 16 → (if q = p then R else (cuH H).2 q) y < 65536
  by_cases e : q = p
  · rw [if_pos e]; exact hc
  · rw [if_neg e]; exact hw.cu.2 q hq
/-! where pictures and masks may stand -/
def PH (r c : Nat) : Prop := c = r + 4 ∨ (r + 11 ≤ c ∧ c ≤ r + 86 ∧ (c - r) % 5 = 1) ∨ (r + 112 ≤ c ∧ c ≤ r + 126 ∧ (c - r) % 2 = 0)
def MH (r c : Nat) : Prop := c = r + 6 ∨ (r + 13 ≤ c ∧ c ≤ r + 88 ∧ (c - r) % 5 = 3) ∨ (r + 128 ≤ c ∧ c ≤ r + 138 ∧ (c - r) % 2 = 0)
theorem PH.ap {r a c : Nat} (h1 : PH r a) (h2 : PH r c) (n : a ≠ c) : a ≠ c + 1 ∧ c ≠ a + 1 := by unfold PH at h1 h2; omega
theorem MH.ap {r a c : Nat} (h1 : MH r a) (h2 : MH r c) (n : a ≠ c) : a ≠ c + 1 ∧ c ≠ a + 1 := by unfold MH at h1 h2; omega
theorem PH.am {r a c : Nat} (h1 : PH r a) (h2 : MH r c) : a ≠ c ∧ a ≠ c + 1 ∧ c ≠ a + 1 := by unfold PH at h1; unfold MH at h2; omega
theorem PH.fx {r c : Nat} (h1 : PH r c) : r + 4 ≤ c ∧ c + 1 < r + 128 ∧ c ≠ r + 8 ∧ c ≠ r + 9 ∧ (c + 1 < r + 90 ∨ r + 112 ≤ c) ∧ c + 1 ≠ r + 8 ∧ c + 1 ≠ r + 9 := by unfold PH at h1; omega
theorem MH.fx {r c : Nat} (h1 : MH r c) : r + 6 ≤ c ∧ c + 1 < r + 140 ∧ c ≠ r + 8 ∧ c ≠ r + 9 ∧ (c + 1 < r + 90 ∨ r + 128 ≤ c) ∧ c + 1 ≠ r + 8 ∧ c + 1 ≠ r + 9 := by unfold MH at h1; omega
theorem PH.act {r c i : Nat} (h1 : PH r c) (hi : i < 16) : c ≠ r + 10 + 5 * i ∧ c + 1 ≠ r + 10 + 5 * i := by unfold PH at h1; omega
theorem MH.act {r c i : Nat} (h1 : MH r c) (hi : i < 16) : c ≠ r + 10 + 5 * i ∧ c + 1 ≠ r + 10 + 5 * i := by unfold MH at h1; omega
abbrev rmO (r N a c : Nat) : va_E := .inr (10, [.ref (r + 1), .ref (r + 2), .ref (r + 3), .int (nI N), .ref a, .ref c, .ref (r + 8), .ref (r + 90), .ref (r + 101), .ref (r + 104), .ref (r + 107), .ref (r + 110)])
def RmA (X : gX) (h : gk_H) (r F0 N nw un fst : Nat) (pc mc : Nat → Nat) (om sl : Nat → Int32) : Prop := h.1 r = some (rmO r N (pc 8) (mc 6)) ∧ (∃ f : Nat → Option Nat, h.1 (r + 1) = some (cR X 2 8 f) ∧ ∀ p, p < 8 → f p = some (pc p)) ∧ (∃ f : Nat → Option Nat, h.1 (r + 2) = some (cR X 3 6 f) ∧ ∀ p, p < 6 → f p = some (mc p)) ∧ (∃ f : Nat → Option Nat, h.1 (r + 3) = some (cR X 4 24 f) ∧ ∀ p, p < N → f p = some (F0 + 2 * p)) ∧ isHy X h (r + 8) fst nw un ∧ fst < 16 ∧ ∀ i, i < 16 → h.1 (r + 10 + 5 * i) = some (.inr (0, [.int (om i), .int (sl i), .ref (pc (9 + i)), .ref (mc (7 + i))]))
def RmI (r : Nat) (pc mc : Nat → Nat) : Prop := (∀ j, j < 25 → PH r (pc j)) ∧ (∀ i j, i < 25 → j < 25 → pc i = pc j → i = j) ∧ (∀ j, j < 23 → MH r (mc j)) ∧ ∀ i j, i < 23 → j < 23 → mc i = mc j → i = j
def RmC (X : gX) (h : gk_H) (pc mc : Nat → Nat) (cn : Nat → Pc) (mn : Nat → Nat → Nat) : Prop := (∀ j, j < 25 → j ≠ 8 → isPc X h (pc j) (cn j)) ∧ ∀ j, j < 23 → j ≠ 6 → isMk X h (mc j) (mn j)
def RmL (H : Hi) (fst : Nat) (cn : Nat → Pc) (mn : Nat → Nat → Nat) (om sl : Nat → Int32) : Prop := (∀ p, p < 8 → cn p = (cuH H).1 p) ∧ (∀ m, m < 6 → mn m = (cuH H).2 m) ∧ ∀ j, j < H.2.2.1 → om ((fst + j) % 16) = (if H.2.2.2.1 j then 1 else 0) ∧ sl ((fst + j) % 16) = nI (H.2.2.2.2 j) ∧ (H.2.2.2.1 j = false → cn (9 + (fst + j) % 16) = (H.1 (if j < H.2.1 then j else j + 1)).1 (H.2.2.2.2 j)) ∧ (H.2.2.2.1 j = true → mn (7 + (fst + j) % 16) = (H.1 (if j < H.2.1 then j else j + 1)).2 (H.2.2.2.2 j))
abbrev isFTF (X : gX) (h : gk_H) (F0 : Nat) (F : Ft) : Prop := isFT X h F0 F.1 F.2.1 F.2.2.1 F.2.2.2.1 F.2.2.2.2.1 F.2.2.2.2.2
def Rm (X : gX) (h : gk_H) (r F0 : Nat) (H : Hi) (F : Ft) (pc mc : Nat → Nat) : Prop := (∃ fst cn mn om sl, RmA X h r F0 F.1 H.2.1 (H.2.2.1 - H.2.1) fst pc mc om sl ∧ RmC X h pc mc cn mn ∧ RmL H fst cn mn om sl) ∧ RmI r pc mc ∧ isFTF X h F0 F ∧ h.2 = F0 + 2 * F.1 ∧ r + 140 ≤ F0 ∧ wfH H ∧ wfT F
/-- the places that do not count for Rm -/
def rmK (r : Nat) (pc mc : Nat → Nat) (c : Nat) : Prop := c = pc 8 ∨ c = pc 8 + 1 ∨ c = mc 6 ∨ c = mc 6 + 1 ∨ (r + 90 ≤ c ∧ c < r + 112) ∨ (r + 140 ≤ c ∧ c < r + 160)
theorem isHy.kept {X : gX} {h h' : gk_H} {a fst dn un : Nat} (hy : isHy X h a fst dn un) (h0 : h'.1 a = h.1 a) (h1 : h'.1 (a + 1) = h.1 (a + 1)) : isHy X h' a fst dn un := by
  obtain ⟨e1, f, e2, e3⟩ := hy
  exact ⟨h0.trans e1, f, h1.trans e2, e3⟩
section RmB
variable {X : gX} {h h' : gk_H} {r F0 : Nat} {H : Hi} {F : Ft} {pc mc : Nat → Nat}
theorem RmI.nk (hI : RmI r pc mc) {c : Nat} (h1 : c < r + 90 ∨ (r + 112 ≤ c ∧ c < r + 140) ∨ r + 160 ≤ c) (h2 : c ≠ pc 8 ∧ c ≠ pc 8 + 1) (h3 : c ≠ mc 6 ∧ c ≠ mc 6 + 1) : ¬ rmK r pc mc c := by
  unfold rmK
  omega
theorem RmI.nkP (hI : RmI r pc mc) {j : Nat} (hj : j < 25) (n : j ≠ 8) : ¬ rmK r pc mc (pc j) ∧ ¬ rmK r pc mc (pc j + 1) := by
  have h1 := hI.1 j hj
  have h8 := hI.1 8 (by decide)
  have m6 := hI.2.2.1 6 (by decide)
  have n8 : pc j ≠ pc 8 := fun e => n (hI.2.1 j 8 hj (by decide) e)
  have a8 := h1.ap h8 n8
  have a6 := h1.am m6
  have f1 := h1.fx
  constructor <;> exact hI.nk (by omega) (by omega) (by omega)
theorem RmI.nkM (hI : RmI r pc mc) {j : Nat} (hj : j < 23) (n : j ≠ 6) : ¬ rmK r pc mc (mc j) ∧ ¬ rmK r pc mc (mc j + 1) := by
  have h1 := hI.2.2.1 j hj
  have h8 := hI.1 8 (by decide)
  have m6 := hI.2.2.1 6 (by decide)
  have n8 : mc j ≠ mc 6 := fun e => n (hI.2.2.2 j 6 hj (by decide) e)
  have a8 := h1.ap m6 n8
  have a6 := h8.am h1
  have f1 := h1.fx
  constructor <;> exact hI.nk (by omega) (by omega) (by omega)
theorem RmI.nkF (hI : RmI r pc mc) {c : Nat} (h1 : (r ≤ c ∧ c < r + 4) ∨ c = r + 8 ∨ c = r + 9 ∨ r + 160 ≤ c) : ¬ rmK r pc mc c := by
  have h8 := (hI.1 8 (by decide)).fx
  have m6 := (hI.2.2.1 6 (by decide)).fx
  exact hI.nk (by omega) (by omega) (by omega)
theorem RmI.nkA (hI : RmI r pc mc) {i : Nat} (hi : i < 16) : ¬ rmK r pc mc (r + 10 + 5 * i) := by
  have h8 := (hI.1 8 (by decide)).act hi
  have m6 := (hI.2.2.1 6 (by decide)).act hi
  exact hI.nk (by omega) (by omega) (by omega)
theorem Rm.keep (hR : Rm X h r F0 H F pc mc) (hF : r + 160 ≤ F0) (h2 : h'.2 = h.2) (he : ∀ c, ¬ rmK r pc mc c → h'.1 c = h.1 c) : Rm X h' r F0 H F pc mc := by
  obtain ⟨⟨fst, cn, mn, om, sl, ⟨a1, ⟨f1, a2, a3⟩, ⟨f2, a4, a5⟩, ⟨f3, a6, a7⟩, a8, a9, a10⟩, ⟨c1, c2⟩, L⟩, I, t1, t2, t3, w1, w2⟩ := hR
  refine ⟨⟨fst, cn, mn, om, sl, ⟨(he _ (I.nkF (by omega))).trans a1, ⟨f1, (he _ (I.nkF (by omega))).trans a2, a3⟩, ⟨f2, (he _ (I.nkF (by omega))).trans a4, a5⟩, ⟨f3, (he _ (I.nkF (by omega))).trans a6, a7⟩, a8.kept (he _ (I.nkF (by omega))) (he _ (I.nkF (by omega))), a9, fun i hi => (he _ (I.nkA hi)).trans (a10 i hi)⟩, ⟨fun j hj n => ?_, fun j hj n => ?_⟩, L⟩, I, t1.kept (fun c hc => he _ (I.nkF (by omega))), h2.trans t2, t3, w1, w2⟩
  · exact (c1 j hj n).kept (he _ (I.nkP hj n).1) (he _ (I.nkP hj n).2)
  · exact (c2 j hj n).kept (he _ (I.nkM hj n).1) (he _ (I.nkM hj n).2)
theorem Rm.fr (hR : Rm X h r F0 H F pc mc) (hF : r + 160 ≤ F0) {A : Nat → Prop} (hf : fr A h h') (hA : ∀ c, A c → rmK r pc mc c) : Rm X h' r F0 H F pc mc := hR.keep hF hf.1 (fun c n => hf.2 c (fun z => n (hA c z)))
theorem Rm.obj (hR : Rm X h r F0 H F pc mc) : h.1 r = some (rmO r F.1 (pc 8) (mc 6)) := by
  obtain ⟨⟨fst, cn, mn, om, sl, A, -⟩, -⟩ := hR
  exact A.1
theorem Rm.prow (hR : Rm X h r F0 H F pc mc) : ∃ f : Nat → Option Nat, h.1 (r + 1) = some (cR X 2 8 f) ∧ ∀ p, p < 8 → f p = some (pc p) := by
  obtain ⟨⟨fst, cn, mn, om, sl, A, -⟩, -⟩ := hR
  exact A.2.1
theorem Rm.mrow (hR : Rm X h r F0 H F pc mc) : ∃ f : Nat → Option Nat, h.1 (r + 2) = some (cR X 3 6 f) ∧ ∀ p, p < 6 → f p = some (mc p) := by
  obtain ⟨⟨fst, cn, mn, om, sl, A, -⟩, -⟩ := hR
  exact A.2.2.1
theorem Rm.frow (hR : Rm X h r F0 H F pc mc) : ∃ f : Nat → Option Nat, h.1 (r + 3) = some (cR X 4 24 f) ∧ ∀ p, p < F.1 → f p = some (F0 + 2 * p) := by
  obtain ⟨⟨fst, cn, mn, om, sl, A, -⟩, -⟩ := hR
  exact A.2.2.2.1
theorem Rm.pic (hR : Rm X h r F0 H F pc mc) {p : Nat} (hp : p < 8) : isPc X h (pc p) ((cuH H).1 p) := by
  obtain ⟨⟨fst, cn, mn, om, sl, A, C, L⟩, -⟩ := hR
  rw [← L.1 p hp]
  exact C.1 p (by omega) (by omega)
theorem Rm.msk (hR : Rm X h r F0 H F pc mc) {p : Nat} (hp : p < 6) : isMk X h (mc p) ((cuH H).2 p) := by
  obtain ⟨⟨fst, cn, mn, om, sl, A, C, L⟩, -⟩ := hR
  rw [← L.2.1 p hp]
  exact C.2 p (by omega) (by omega)
theorem Rm.okp (hR : Rm X h r F0 H F pc mc) {p : Nat} (hp : p < 8) : okP ((cuH H).1 p) := hR.2.2.2.2.2.1.cu.1 p hp
theorem Rm.I (hR : Rm X h r F0 H F pc mc) : RmI r pc mc := hR.2.1
/-- a slot's picture does not lie on the tray, nor in the way -/
theorem Rm.ap (hR : Rm X h r F0 H F pc mc) {p : Nat} (hp : p < 8) : pc p ≠ pc 8 ∧ pc p ≠ pc 8 + 1 ∧ pc 8 ≠ pc p + 1 := by
  have I := hR.2.1
  have n : pc p ≠ pc 8 := fun e => by have := I.2.1 p 8 (by omega) (by decide) e; omega
  have := (I.1 p (by omega)).ap (I.1 8 (by decide)) n
  omega
theorem Rm.am (hR : Rm X h r F0 H F pc mc) {p : Nat} (hp : p < 6) : mc p ≠ mc 6 ∧ mc p ≠ mc 6 + 1 ∧ mc 6 ≠ mc p + 1 := by
  have I := hR.2.1
  have n : mc p ≠ mc 6 := fun e => by have := I.2.2.2 p 6 (by omega) (by decide) e; omega
  have := (I.2.2.1 p (by omega)).ap (I.2.2.1 6 (by decide)) n
  omega
end RmB
/-- the scratch things of the room -/
def Sc (X : gX) (h : gk_H) (r : Nat) : Prop := (∃ g, isBn X h (r + 90) g) ∧ isBt X h (r + 90) ∧ (∃ pl wt n, isFd X h (r + 101) pl wt n) ∧ (∃ cr am, isTn X h (r + 104) cr am) ∧ ∃ cs cl tot, isSm X h (r + 107) cs cl tot
def Room (X : gX) (h : gk_H) (r F0 : Nat) (S : St) : Prop := r + 160 ≤ F0 ∧ ∃ pc mc, Rm X h r F0 S.1 S.2.1 pc mc ∧ (∃ c, isPc X h (pc 8) c) ∧ (∃ R, isMk X h (mc 6) R) ∧ Sc X h r ∧ isTp X h (r + 110) S.2.2.1 S.2.2.2
theorem Sc.kept {X : gX} {h h' : gk_H} {r : Nat} (hs : Sc X h r) (he : ∀ c, r + 90 ≤ c → c < r + 110 → h'.1 c = h.1 c) : Sc X h' r := by
  obtain ⟨⟨g, b1⟩, b2, ⟨pl, wt, n, b3⟩, ⟨cr, am, b4⟩, cs, cl, tot, b5⟩ := hs
  refine ⟨⟨g, b1.kept (he _ (by omega) (by omega)) (he _ (by omega) (by omega)) (he _ (by omega) (by omega))⟩, fun j hj => ?_, ⟨pl, wt, n, (he _ (by omega) (by omega)).trans b3.1, (he _ (by omega) (by omega)).trans b3.2.1, (he _ (by omega) (by omega)).trans b3.2.2⟩, ⟨cr, am, (he _ (by omega) (by omega)).trans b4.1, (he _ (by omega) (by omega)).trans b4.2.1, (he _ (by omega) (by omega)).trans b4.2.2⟩, cs, cl, tot, (he _ (by omega) (by omega)).trans b5.1, (he _ (by omega) (by omega)).trans b5.2.1, (he _ (by omega) (by omega)).trans b5.2.2⟩
  obtain ⟨k, w, t, p, hb⟩ := b2 j hj
  exact ⟨k, w, t, p, hb.kept (he _ (by omega) (by omega)) (he _ (by omega) (by omega))⟩
theorem nI_nat {j : Nat} (hj : j < 2 ^ 31) : (nI j).toInt.toNat = j := by rw [nI_toInt hj]; omega
