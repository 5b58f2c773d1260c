/-! ===== Room: keepPicture, keepMask, exchange, partOf, standingPictures ===== -/
/-- what keeping changes -/
def kpK (r c : Nat) : Prop := c = r ∨ c = r + 1 ∨ c = r + 2 ∨ c = r + 8 ∨ (r + 10 ≤ c ∧ c < r + 90 ∧ (c - r) % 5 = 0)
theorem kpK.act {r i : Nat} (hi : i < 16) : kpK r (r + 10 + 5 * i) := by unfold kpK; omega
theorem kpK.np {r c : Nat} (h : PH r c) : ¬ kpK r c ∧ ¬ kpK r (c + 1) := by unfold PH at h; unfold kpK; omega
theorem kpK.nm {r c : Nat} (h : MH r c) : ¬ kpK r c ∧ ¬ kpK r (c + 1) := by unfold MH at h; unfold kpK; omega
/-- the tray becomes picture p, that goes to act i, whose picture becomes the tray -/
def rotP (pc : Nat → Nat) (p i : Nat) : Nat → Nat := fun j => if j = p then pc 8 else if j = 8 then pc (9 + i) else if j = 9 + i then pc p else pc j
def rotM (mc : Nat → Nat) (p i : Nat) : Nat → Nat := fun j => if j = p then mc 6 else if j = 6 then mc (7 + i) else if j = 7 + i then mc p else mc j
def swpP (pc : Nat → Nat) (p i : Nat) : Nat → Nat := fun j => if j = p then pc (9 + i) else if j = 9 + i then pc p else pc j
def swpM (mc : Nat → Nat) (p i : Nat) : Nat → Nat := fun j => if j = p then mc (7 + i) else if j = 7 + i then mc p else mc j
section KpA
variable {X : gX} {h h' : gk_H} {r F0 : Nat} {H : Hi} {F : Ft} {pc mc : Nat → Nat}
theorem RmI.rP (hI : RmI r pc mc) {p i : Nat} (hp : p < 8) (hi : i < 16) : RmI r (rotP pc p i) mc := by
  obtain ⟨i1, i2, i3⟩ := hI
  refine ⟨fun j hj => ?_, fun a c ha hc e => ?_, i3⟩
  · unfold rotP
    split
    · exact i1 8 (by decide)
    · split
      · exact i1 _ (by omega)
      · split
        · exact i1 _ (by omega)
        · exact i1 j hj
  · have key : ∀ j, j < 25 → ∃ j', j' < 25 ∧ rotP pc p i j = pc j' ∧ j' = (if j = p then 8 else if j = 8 then 9 + i else if j = 9 + i then p else j) := fun j hj => by
      unfold rotP
      split
      · exact ⟨8, by decide, rfl, rfl⟩
      · split
        · exact ⟨_, by omega, rfl, rfl⟩
        · split
          · exact ⟨_, by omega, rfl, rfl⟩
          · exact ⟨_, hj, rfl, rfl⟩
    obtain ⟨a', ha', ea, qa⟩ := key a ha
    obtain ⟨c', hc', ec, qc⟩ := key c hc
    rw [ea, ec] at e
    have := i2 a' c' ha' hc' e
    rw [qa, qc] at this
    split at this <;> split at this <;> (try split at this) <;> (try split at this) <;> (try split at this) <;> (try split at this) <;> omega
theorem RmI.rM (hI : RmI r pc mc) {p i : Nat} (hp : p < 6) (hi : i < 16) : RmI r pc (rotM mc p i) := by
  obtain ⟨i1', i2', i1, i2⟩ := hI
  refine ⟨i1', i2', fun j hj => ?_, fun a c ha hc e => ?_⟩
  · unfold rotM
    split
    · exact i1 6 (by decide)
    · split
      · exact i1 _ (by omega)
      · split
        · exact i1 _ (by omega)
        · exact i1 j hj
  · have key : ∀ j, j < 23 → ∃ j', j' < 23 ∧ rotM mc p i j = mc j' ∧ j' = (if j = p then 6 else if j = 6 then 7 + i else if j = 7 + i then p else j) := fun j hj => by
      unfold rotM
      split
      · exact ⟨6, by decide, rfl, rfl⟩
      · split
        · exact ⟨_, by omega, rfl, rfl⟩
        · split
          · exact ⟨_, by omega, rfl, rfl⟩
          · exact ⟨_, hj, rfl, rfl⟩
    obtain ⟨a', ha', ea, qa⟩ := key a ha
    obtain ⟨c', hc', ec, qc⟩ := key c hc
    rw [ea, ec] at e
    have := i2 a' c' ha' hc' e
    rw [qa, qc] at this
    split at this <;> split at this <;> (try split at this) <;> (try split at this) <;> (try split at this) <;> (try split at this) <;> omega
theorem RmI.sP (hI : RmI r pc mc) {p i : Nat} (hp : p < 8) (hi : i < 16) : RmI r (swpP pc p i) mc := by
  obtain ⟨i1, i2, i3⟩ := hI
  refine ⟨fun j hj => ?_, fun a c ha hc e => ?_, i3⟩
  · unfold swpP
    split
    · exact i1 _ (by omega)
    · split
      · exact i1 _ (by omega)
      · exact i1 j hj
  · have key : ∀ j, j < 25 → ∃ j', j' < 25 ∧ swpP pc p i j = pc j' ∧ j' = (if j = p then 9 + i else if j = 9 + i then p else j) := fun j hj => by
      unfold swpP
      split
      · exact ⟨_, by omega, rfl, rfl⟩
      · split
        · exact ⟨_, by omega, rfl, rfl⟩
        · exact ⟨_, hj, rfl, rfl⟩
    obtain ⟨a', ha', ea, qa⟩ := key a ha
    obtain ⟨c', hc', ec, qc⟩ := key c hc
    rw [ea, ec] at e
    have := i2 a' c' ha' hc' e
    rw [qa, qc] at this
    split at this <;> split at this <;> (try split at this) <;> (try split at this) <;> omega
theorem RmI.sM (hI : RmI r pc mc) {p i : Nat} (hp : p < 6) (hi : i < 16) : RmI r pc (swpM mc p i) := by
  obtain ⟨i1', i2', i1, i2⟩ := hI
  refine ⟨i1', i2', fun j hj => ?_, fun a c ha hc e => ?_⟩
  · unfold swpM
    split
    · exact i1 _ (by omega)
    · split
      · exact i1 _ (by omega)
      · exact i1 j hj
  · have key : ∀ j, j < 23 → ∃ j', j' < 23 ∧ swpM mc p i j = mc j' ∧ j' = (if j = p then 7 + i else if j = 7 + i then p else j) := fun j hj => by
      unfold swpM
      split
      · exact ⟨_, by omega, rfl, rfl⟩
      · split
        · exact ⟨_, by omega, rfl, rfl⟩
        · exact ⟨_, hj, rfl, rfl⟩
    obtain ⟨a', ha', ea, qa⟩ := key a ha
    obtain ⟨c', hc', ec, qc⟩ := key c hc
    rw [ea, ec] at e
    have := i2 a' c' ha' hc' e
    rw [qa, qc] at this
    split at this <;> split at this <;> (try split at this) <;> (try split at this) <;> omega
/-- the link after an act of a picture at place i of the ring -/
theorem RmL.pP {fst : Nat} {cn : Nat → Pc} {mn : Nat → Nat → Nat} {om sl : Nat → Int32} (hL : RmL H fst cn mn om sl) (hw : wfH H) (h1 : fst < 16) {p : Nat} {c : Pc} (hp : p < 8) {fst' i : Nat} (hi : (H.2.1 < 16 ∧ fst' = fst ∧ i = (fst + H.2.1) % 16) ∨ (H.2.1 = 16 ∧ fst' = (fst + 1) % 16 ∧ i = fst)) :
    RmL (pshP H p c) fst' (fun j => if j = p then c else if j = 9 + i then cn p else cn j) mn (fun j => if j = i then 0 else om j) (fun j => if j = i then nI p else sl j) := by
  obtain ⟨l1, l2, l3⟩ := hL
  obtain ⟨w1, w2, w3, w4, w5⟩ := hw
  have cu : cuH (pshP H p c) = setP (cuH H) p c := psh_cu
  refine ⟨fun q hq => ?_, fun q hq => ?_, fun j hj => ?_⟩
  · rw [cu]
    show (if q = p then c else if q = 9 + i then cn p else cn q) = (if q = p then c else (cuH H).1 q)
    by_cases e : q = p
    · rw [if_pos e, if_pos e]
    · rw [if_neg e, if_neg e, if_neg (by omega)]; exact l1 q hq
  · rw [cu]; exact l2 q hq
  · show (if (fst' + j) % 16 = i then 0 else om ((fst' + j) % 16)) = _ ∧ (if (fst' + j) % 16 = i then nI p else sl ((fst' + j) % 16)) = _ ∧ (_ → (if 9 + (fst' + j) % 16 = p then c else if 9 + (fst' + j) % 16 = 9 + i then cn p else cn (9 + (fst' + j) % 16)) = _) ∧ _
    rw [if_neg (show ¬ 9 + (fst' + j) % 16 = p by omega)]
    rcases hi with ⟨hn, rfl, hi⟩ | ⟨hn, rfl, hi⟩
    · unfold pshP at hj ⊢
      rw [psh_lt hn] at hj ⊢
      have hj : j < H.2.1 + 1 := hj
      show _ = (if (if j = H.2.1 then false else H.2.2.2.1 j) = true then (1 : Int32) else 0) ∧ _ = nI (if j = H.2.1 then p else H.2.2.2.2 j) ∧ ((if j = H.2.1 then false else H.2.2.2.1 j) = false → _ = (if (if j < H.2.1 + 1 then j else j + 1) = H.2.1 + 1 then setP (cuH H) p c else H.1 (if j < H.2.1 + 1 then j else j + 1)).1 (if j = H.2.1 then p else H.2.2.2.2 j)) ∧ ((if j = H.2.1 then false else H.2.2.2.1 j) = true → _ = (if (if j < H.2.1 + 1 then j else j + 1) = H.2.1 + 1 then setP (cuH H) p c else H.1 (if j < H.2.1 + 1 then j else j + 1)).2 (if j = H.2.1 then p else H.2.2.2.2 j))
      rw [if_pos (show j < H.2.1 + 1 from hj), if_neg (show ¬ j = H.2.1 + 1 by omega)]
      by_cases e : j = H.2.1
      · subst e
        have z9 : 9 + (fst' + H.2.1) % 16 = 9 + i := by omega
        simp only [if_pos hi.symm, if_pos z9, if_true]
        refine ⟨by simp, by simp, fun _ => l1 p hp, fun q => (by cases q)⟩
      · have ne : ¬ (fst' + j) % 16 = i := by omega
        have ne9 : ¬ 9 + (fst' + j) % 16 = 9 + i := fun z => ne (by omega)
        simp only [if_neg ne, if_neg ne9, if_neg e]
        have := l3 j (by omega)
        rw [if_pos (show j < H.2.1 by omega)] at this
        exact this
    · unfold pshP at hj ⊢
      rw [psh_ge (by omega)] at hj ⊢
      have hj : j < 16 := hj
      show _ = (if (if j = 15 then false else H.2.2.2.1 (j + 1)) = true then (1 : Int32) else 0) ∧ _ = nI (if j = 15 then p else H.2.2.2.2 (j + 1)) ∧ ((if j = 15 then false else H.2.2.2.1 (j + 1)) = false → _ = (if (if j < 16 then j else j + 1) = 16 then setP (cuH H) p c else H.1 ((if j < 16 then j else j + 1) + 1)).1 (if j = 15 then p else H.2.2.2.2 (j + 1))) ∧ ((if j = 15 then false else H.2.2.2.1 (j + 1)) = true → _ = (if (if j < 16 then j else j + 1) = 16 then setP (cuH H) p c else H.1 ((if j < 16 then j else j + 1) + 1)).2 (if j = 15 then p else H.2.2.2.2 (j + 1)))
      rw [if_pos (show j < 16 from hj), if_neg (show ¬ j = 16 by omega)]
      by_cases e : j = 15
      · subst e
        have z : ((fst + 1) % 16 + 15) % 16 = i := by omega
        have z9 : 9 + ((fst + 1) % 16 + 15) % 16 = 9 + i := by omega
        simp only [if_pos z, if_pos z9, if_true]
        refine ⟨by simp, by simp, fun _ => (l1 p hp).trans ?_, fun q => (by cases q)⟩
        show (H.1 H.2.1).1 p = _
        rw [hn]
      · have ne : ¬ ((fst + 1) % 16 + j) % 16 = i := by omega
        have ne9 : ¬ 9 + ((fst + 1) % 16 + j) % 16 = 9 + i := fun z => ne (by omega)
        simp only [if_neg ne, if_neg ne9, if_neg e]
        have := l3 (j + 1) (by omega)
        rw [if_pos (show j + 1 < H.2.1 by omega), show (fst + (j + 1)) % 16 = ((fst + 1) % 16 + j) % 16 by omega] at this
        exact this
theorem RmL.pM {fst : Nat} {cn : Nat → Pc} {mn : Nat → Nat → Nat} {om sl : Nat → Int32} (hL : RmL H fst cn mn om sl) (hw : wfH H) (h1 : fst < 16) {p : Nat} {c : Nat → Nat} (hp : p < 6) {fst' i : Nat} (hi : (H.2.1 < 16 ∧ fst' = fst ∧ i = (fst + H.2.1) % 16) ∨ (H.2.1 = 16 ∧ fst' = (fst + 1) % 16 ∧ i = fst)) :
    RmL (pshM H p c) fst' cn (fun j => if j = p then c else if j = 7 + i then mn p else mn j) (fun j => if j = i then 1 else om j) (fun j => if j = i then nI p else sl j) := by
  obtain ⟨l1, l2, l3⟩ := hL
  obtain ⟨w1, w2, w3, w4, w5⟩ := hw
  have cu : cuH (pshM H p c) = setM (cuH H) p c := psh_cu
  refine ⟨fun q hq => ?_, fun q hq => ?_, fun j hj => ?_⟩
  · rw [cu]; exact l1 q hq
  · rw [cu]
    show (if q = p then c else if q = 7 + i then mn p else mn q) = (if q = p then c else (cuH H).2 q)
    by_cases e : q = p
    · rw [if_pos e, if_pos e]
    · rw [if_neg e, if_neg e, if_neg (by omega)]; exact l2 q hq
  · show (if (fst' + j) % 16 = i then 1 else om ((fst' + j) % 16)) = _ ∧ (if (fst' + j) % 16 = i then nI p else sl ((fst' + j) % 16)) = _ ∧ _ ∧ (_ → (if 7 + (fst' + j) % 16 = p then c else if 7 + (fst' + j) % 16 = 7 + i then mn p else mn (7 + (fst' + j) % 16)) = _)
    rw [if_neg (show ¬ 7 + (fst' + j) % 16 = p by omega)]
    rcases hi with ⟨hn, rfl, hi⟩ | ⟨hn, rfl, hi⟩
    · unfold pshM at hj ⊢
      rw [psh_lt hn] at hj ⊢
      have hj : j < H.2.1 + 1 := hj
      show _ = (if (if j = H.2.1 then true else H.2.2.2.1 j) = true then (1 : Int32) else 0) ∧ _ = nI (if j = H.2.1 then p else H.2.2.2.2 j) ∧ ((if j = H.2.1 then true else H.2.2.2.1 j) = false → _ = (if (if j < H.2.1 + 1 then j else j + 1) = H.2.1 + 1 then setM (cuH H) p c else H.1 (if j < H.2.1 + 1 then j else j + 1)).1 (if j = H.2.1 then p else H.2.2.2.2 j)) ∧ ((if j = H.2.1 then true else H.2.2.2.1 j) = true → _ = (if (if j < H.2.1 + 1 then j else j + 1) = H.2.1 + 1 then setM (cuH H) p c else H.1 (if j < H.2.1 + 1 then j else j + 1)).2 (if j = H.2.1 then p else H.2.2.2.2 j))
      rw [if_pos (show j < H.2.1 + 1 from hj), if_neg (show ¬ j = H.2.1 + 1 by omega)]
      by_cases e : j = H.2.1
      · subst e
        have z9 : 7 + (fst' + H.2.1) % 16 = 7 + i := by omega
        simp only [if_pos hi.symm, if_pos z9, if_true]
        refine ⟨by simp, by simp, fun q => (by cases q), fun _ => l2 p hp⟩
      · have ne : ¬ (fst' + j) % 16 = i := by omega
        have ne9 : ¬ 7 + (fst' + j) % 16 = 7 + i := fun z => ne (by omega)
        simp only [if_neg ne, if_neg ne9, if_neg e]
        have := l3 j (by omega)
        rw [if_pos (show j < H.2.1 by omega)] at this
        exact this
    · unfold pshM at hj ⊢
      rw [psh_ge (by omega)] at hj ⊢
      have hj : j < 16 := hj
      show _ = (if (if j = 15 then true else H.2.2.2.1 (j + 1)) = true then (1 : Int32) else 0) ∧ _ = nI (if j = 15 then p else H.2.2.2.2 (j + 1)) ∧ ((if j = 15 then true else H.2.2.2.1 (j + 1)) = false → _ = (if (if j < 16 then j else j + 1) = 16 then setM (cuH H) p c else H.1 ((if j < 16 then j else j + 1) + 1)).1 (if j = 15 then p else H.2.2.2.2 (j + 1))) ∧ ((if j = 15 then true else H.2.2.2.1 (j + 1)) = true → _ = (if (if j < 16 then j else j + 1) = 16 then setM (cuH H) p c else H.1 ((if j < 16 then j else j + 1) + 1)).2 (if j = 15 then p else H.2.2.2.2 (j + 1)))
      rw [if_pos (show j < 16 from hj), if_neg (show ¬ j = 16 by omega)]
      by_cases e : j = 15
      · subst e
        have z : ((fst + 1) % 16 + 15) % 16 = i := by omega
        have z9 : 7 + ((fst + 1) % 16 + 15) % 16 = 7 + i := by omega
        simp only [if_pos z, if_pos z9, if_true]
        refine ⟨by simp, by simp, fun q => (by cases q), fun _ => (l2 p hp).trans ?_⟩
        show (H.1 H.2.1).2 p = _
        rw [hn]
      · have ne : ¬ ((fst + 1) % 16 + j) % 16 = i := by omega
        have ne9 : ¬ 7 + ((fst + 1) % 16 + j) % 16 = 7 + i := fun z => ne (by omega)
        simp only [if_neg ne, if_neg ne9, if_neg e]
        have := l3 (j + 1) (by omega)
        rw [if_pos (show j + 1 < H.2.1 by omega), show (fst + (j + 1)) % 16 = ((fst + 1) % 16 + j) % 16 by omega] at this
        exact this
end KpA
section KpB
variable {X : gX} {d : Nat} {b : Nat × Nat} {h : gk_H} {Q : Option Value → gk_H → Prop} {r F0 : Nat} {H : Hi} {F : Ft} {pc mc : Nat → Nat}
theorem psh_un {H : Hi} {b : Bool} {s : Nat} {W : Wd} : (psh H b s W).2.2.1 - (psh H b s W).2.1 = 0 := by
  by_cases z : H.2.1 < 16
  · rw [psh_lt z]; exact Nat.sub_self _
  · rw [psh_ge z]; exact Nat.sub_self _
theorem psh_nw {H : Hi} {b : Bool} {s : Nat} {W : Wd} : (psh H b s W).2.1 = if H.2.1 < 16 then H.2.1 + 1 else 16 := by
  by_cases z : H.2.1 < 16
  · rw [psh_lt z, if_pos z]
  · rw [psh_ge z, if_neg z]
theorem sp_Room_keepPicture {p : Nat} {c : Pc} (hR : Rm X h r F0 H F pc mc) (ht : isPc X h (pc 8) c) (hc : okP c) (hp : p < 8) (hQ : ∀ h' pc', Rm X h' r F0 (pshP H p c) F pc' mc → (∃ c, isPc X h' (pc' 8) c) → fr (kpK r) h h' → Q none h') : Gm (kx X) mt_Room_keepPicture (d + 3) b [.ref r, .int (nI p)] h Q := by
  obtain ⟨⟨fst, cn, mn, om, sl, ⟨a1, ⟨f1, a2, a3⟩, ⟨f2, a4, a5⟩, ⟨f3, a6, a7⟩, a8, a9, a10⟩, ⟨c1, c2⟩, L⟩, I, t1, t2, t3, w1, w2⟩ := hR
  have tail : ∀ (h1 : gk_H) (i fst' : Nat), i < 16 → fst' < 16 → fr (fun c => c = r + 8) h h1 → ((H.2.1 < 16 ∧ fst' = fst ∧ i = (fst + H.2.1) % 16) ∨ (H.2.1 = 16 ∧ fst' = (fst + 1) % 16 ∧ i = fst)) → isHy X h1 (r + 8) fst' (pshP H p c).2.1 0 → G (kx X) mt_Room_keepPicture (d + 3) b 15 [some (.ref r), some (.int (nI p)), none, none] [.ref (r + 8 + 2 + 5 * i)] h1 Q := by
    intro h1 i fst' hi hfst hf hc1 hy
    rw [show r + 8 + 2 + 5 * i = r + 10 + 5 * i by omega]
    have e1 := (hf.2 r (by omega)).trans a1
    have e2 := (hf.2 (r + 1) (by omega)).trans a2
    have e10 := (hf.2 (r + 10 + 5 * i) (by omega)).trans (a10 i hi)
    have hn8 := (I.1 8 (by decide)).fx
    have hn8a := (I.1 8 (by decide)).act hi
    refine gk_astore2 dX10_keepPicture_15 (pc' := 16) rfl (by decide) rfl ?_
    refine gk_aload2 dX10_keepPicture_16 (pc' := 17) rfl ?_
    refine gk_iconst (v := 0) dX10_keepPicture_17 (pc' := 18) rfl (by decide) ?_
    refine gk_putf (fs := [_, _, _, _]) gP_Room_308 dX10_keepPicture_18 (pc' := 21) rfl (by exact (e10)) rfl rfl (Nat.le_of_ble_eq_true rfl) ?_
    refine gk_aload2 dX10_keepPicture_21 (pc' := 22) rfl ?_
    refine gk_iload1 dX10_keepPicture_22 (pc' := 23) rfl ?_
    refine gk_putf (fs := [_, _, _, _]) gP_Room_314 dX10_keepPicture_23 (pc' := 26) rfl (by exact (gk_set_self)) rfl rfl (Nat.le_of_ble_eq_true rfl) ?_
    refine gk_aload2 dX10_keepPicture_26 (pc' := 27) rfl ?_
    refine gk_getf (fs := [_, _, _, _]) gF_Room_317 dX10_keepPicture_27 (pc' := 30) rfl (by exact (gk_set_self)) rfl ?_
    refine gk_astore3 dX10_keepPicture_30 (pc' := 31) rfl (by decide) rfl ?_
    refine gk_aload2 dX10_keepPicture_31 (pc' := 32) rfl ?_
    refine gk_aload0 dX10_keepPicture_32 (pc' := 33) rfl ?_
    refine gk_getf (fs := [_, _, _, _, _, _, _, _, _, _, _, _]) gF_Room_11 dX10_keepPicture_33 (pc' := 36) rfl (by exact ((gk_set_ne (by omega)).trans ((gk_set_ne (by omega)).trans e1))) rfl ?_
    refine gk_iload1 dX10_keepPicture_36 (pc' := 37) rfl ?_
    refine gk_aald (t0 := 2) rfl dX10_keepPicture_37 (pc' := 38) rfl (by exact ((gk_set_ne (by omega)).trans ((gk_set_ne (by omega)).trans e2))) (vp_in_nI hp (by decide)) ?_
    rw [nI_clamp (by omega), a3 p hp, show va_rf (some (pc p)) = Value.ref (pc p) from rfl]
    refine gk_putf (fs := [_, _, _, _]) gP_Room_317 dX10_keepPicture_38 (pc' := 41) rfl (by exact (gk_set_self)) rfl rfl (Nat.le_of_ble_eq_true rfl) ?_
    refine gk_aload0 dX10_keepPicture_41 (pc' := 42) rfl ?_
    refine gk_getf (fs := [_, _, _, _, _, _, _, _, _, _, _, _]) gF_Room_11 dX10_keepPicture_42 (pc' := 45) rfl (by exact ((gk_set_ne (by omega)).trans ((gk_set_ne (by omega)).trans ((gk_set_ne (by omega)).trans e1)))) rfl ?_
    refine gk_iload1 dX10_keepPicture_45 (pc' := 46) rfl ?_
    refine gk_aload0 dX10_keepPicture_46 (pc' := 47) rfl ?_
    refine gk_getf (fs := [_, _, _, _, _, _, _, _, _, _, _, _]) gF_Room_32 dX10_keepPicture_47 (pc' := 50) rfl (by exact ((gk_set_ne (by omega)).trans ((gk_set_ne (by omega)).trans ((gk_set_ne (by omega)).trans e1)))) rfl ?_
    refine gk_aast (t0 := 2) rfl (r := (RX6, TX6, 4)) rfl dX10_keepPicture_50 (pc' := 51) rfl (by exact ((gk_set_ne (by omega)).trans ((gk_set_ne (by omega)).trans ((gk_set_ne (by omega)).trans e2)))) (by exact ((gk_set_ne (by omega)).trans ((gk_set_ne (by omega)).trans ((gk_set_ne (by omega)).trans ((hf.2 _ (by omega)).trans ht.o))))) (vp_in_nI hp (by decide)) ?_
    rw [nI_clamp (by omega)]
    refine gk_aload0 dX10_keepPicture_51 (pc' := 52) rfl ?_
    refine gk_aload3 dX10_keepPicture_52 (pc' := 53) rfl ?_
    refine gk_putf (fs := [_, _, _, _, _, _, _, _, _, _, _, _]) gP_Room_32 dX10_keepPicture_53 (pc' := 56) rfl (by exact ((gk_set_ne (by omega)).trans ((gk_set_ne (by omega)).trans ((gk_set_ne (by omega)).trans ((gk_set_ne (by omega)).trans e1))))) rfl rfl (Nat.le_of_ble_eq_true rfl) ?_
    refine gk_vret dX10_keepPicture_56 rfl ?_
    refine (fun (h5 : gk_H) (g0 : h5.1 r = some (rmO r F.1 (pc (9 + i)) (mc 6))) (g1 : h5.1 (r + 1) = some (cR X 2 8 (va_up f1 p (some (pc 8))))) (g10 : h5.1 (r + 10 + 5 * i) = some (.inr (0, [.int 0, .int (nI p), .ref (pc p), .ref (mc (7 + i))]))) (gx : ∀ c, c ≠ r → c ≠ r + 1 → c ≠ r + 10 + 5 * i → h5.1 c = h1.1 c) (gs : h5.2 = h1.2) => (?_ : Q none h5)) _ gk_set_self ((gk_set_ne (by omega)).trans gk_set_self) ((gk_set_ne (by omega)).trans ((gk_set_ne (by omega)).trans gk_set_self)) (fun c n1 n2 n3 => (gk_set_ne n1).trans ((gk_set_ne n2).trans ((gk_set_ne n3).trans ((gk_set_ne n3).trans (gk_set_ne n3))))) rfl
    have gy : ∀ c, c ≠ r → c ≠ r + 1 → c ≠ r + 8 → c ≠ r + 10 + 5 * i → h5.1 c = h.1 c := fun c n1 n2 n3 n4 => (gx c n1 n2 n4).trans (hf.2 c n3)
    have gp : ∀ j, j < 25 → h5.1 (pc j) = h.1 (pc j) ∧ h5.1 (pc j + 1) = h.1 (pc j + 1) := fun j hj => by
      have z1 := (I.1 j hj).fx
      have z2 := (I.1 j hj).act hi
      exact ⟨gy _ (by omega) (by omega) (by omega) (by omega), gy _ (by omega) (by omega) (by omega) (by omega)⟩
    have gm : ∀ j, j < 23 → h5.1 (mc j) = h.1 (mc j) ∧ h5.1 (mc j + 1) = h.1 (mc j + 1) := fun j hj => by
      have z1 := (I.2.2.1 j hj).fx
      have z2 := (I.2.2.1 j hj).act hi
      exact ⟨gy _ (by omega) (by omega) (by omega) (by omega), gy _ (by omega) (by omega) (by omega) (by omega)⟩
    have q8 : rotP pc p i 8 = pc (9 + i) := by unfold rotP; rw [if_neg (by omega), if_pos rfl]
    refine hQ h5 (rotP pc p i) ⟨⟨fst', fun j => if j = p then c else if j = 9 + i then cn p else cn j, mn, fun j => if j = i then 0 else om j, fun j => if j = i then nI p else sl j, ⟨by rw [q8]; exact g0, ⟨_, g1, fun q hq => ?_⟩, ⟨f2, (gy _ (by omega) (by omega) (by omega) (by omega)).trans a4, a5⟩, ⟨f3, (gy _ (by omega) (by omega) (by omega) (by omega)).trans a6, a7⟩, ?_, hfst, fun j hj => ?_⟩, ⟨fun j hj n => ?_, fun j hj n => ?_⟩, L.pP w1 a9 hp hc1⟩, I.rP hp hi, t1.kept (fun c hc => gy _ (by omega) (by omega) (by omega) (by omega)), gs.trans (hf.1.trans t2), t3, wf_pshP w1 hp hc, w2⟩ ⟨cn (9 + i), ?_⟩ ?_
    · show (if q = p then some (pc 8) else f1 q) = some (rotP pc p i q)
      unfold rotP
      by_cases e : q = p
      · rw [if_pos e, if_pos e]
      · rw [if_neg e, if_neg e, if_neg (by omega), if_neg (by omega)]; exact a3 q hq
    · rw [show (pshP H p c).2.2.1 - (pshP H p c).2.1 = 0 from psh_un]
      exact hy.kept (gx _ (by omega) (by omega) (by omega)) (gx _ (by omega) (by omega) (by omega))
    · show _ = some (Sum.inr (_, [Value.int (if j = i then 0 else om j), Value.int (if j = i then nI p else sl j), Value.ref (rotP pc p i (9 + j)), _]))
      unfold rotP
      rw [if_neg (show ¬ 9 + j = p by omega), if_neg (show ¬ 9 + j = 8 by omega)]
      by_cases e : j = i
      · subst e
        rw [if_pos rfl, if_pos rfl, if_pos rfl]; exact g10
      · rw [if_neg e, if_neg e, if_neg (show ¬ 9 + j = 9 + i by omega)]
        exact (gy _ (by omega) (by omega) (by omega) (by omega)).trans (a10 j hj)
    · show isPc X h5 (rotP pc p i j) (if j = p then c else if j = 9 + i then cn p else cn j)
      unfold rotP
      by_cases e : j = p
      · rw [if_pos e, if_pos e]; exact ht.kept (gp 8 (by decide)).1 (gp 8 (by decide)).2
      · rw [if_neg e, if_neg e, if_neg n]
        by_cases e2 : j = 9 + i
        · rw [if_pos e2, if_pos e2]; exact (c1 p (by omega) (by omega)).kept (gp p (by omega)).1 (gp p (by omega)).2
        · rw [if_neg e2, if_neg e2]; exact (c1 j hj n).kept (gp j hj).1 (gp j hj).2
    · exact (c2 j hj n).kept (gm j hj).1 (gm j hj).2
    · rw [q8]; exact (c1 (9 + i) (by omega) (by omega)).kept (gp _ (by omega)).1 (gp _ (by omega)).2
    · refine ⟨gs.trans hf.1, fun c n => ?_⟩
      unfold kpK at n
      exact gy _ (by omega) (by omega) (by omega) (by omega)
  have w11 := w1.1
  have w12 := w1.2.1
  refine Gm.enter (L := [some (.ref r), some (.int (nI p)), none, none]) (by decide) (fun _ => trivial) (Nat.le_of_ble_eq_true rfl) rfl ?_
  refine gk_iload1 dX10_keepPicture_0 (pc' := 1) rfl ?_
  refine gk_cS1_1 mz_Room_isPicture gw_237 dX10_keepPicture_1 (pc' := 4) rfl (Nat.le_of_ble_eq_true rfl) (sp_Room_isPicture (fun j _ _ => ?_) (fun z => absurd (by rw [nI_toInt (by omega)]; omega) z))
  refine ⟨_, rfl, ?_⟩
  refine gk_if_ne dX10_keepPicture_4 (tgt := 8) (pc' := 7) (by decide) rfl (fun _ => ?_) (fun c => absurd c (by decide))
  refine gk_aload0 dX10_keepPicture_8 (pc' := 9) rfl ?_
  refine gk_getf (fs := [_, _, _, _, _, _, _, _, _, _, _, _]) gF_Room_44 dX10_keepPicture_9 (pc' := 12) rfl (by exact (a1)) rfl ?_
  refine gk_cV1_0 mv_History_next gw_266 dX10_keepPicture_12 (pc' := 15) rfl (Nat.le_of_ble_eq_true rfl) (by exact (a8.1)) (sp_History_next a8 a9 (by omega) (fun z h1 y1 y2 => ?_) (fun z h1 y1 y2 => ?_))
  · refine ⟨_, rfl, ?_⟩
    exact tail h1 _ fst (by omega) a9 y2 (Or.inl ⟨z, rfl, rfl⟩) (by rw [show (pshP H p c).2.1 = _ from psh_nw, if_pos z]; exact y1)
  · refine ⟨_, rfl, ?_⟩
    exact tail h1 _ _ (by omega) (by omega) y2 (Or.inr ⟨z, rfl, rfl⟩) (by rw [show (pshP H p c).2.1 = _ from psh_nw, if_neg (by omega)]; exact y1)
  
theorem sp_Room_keepMask {p : Nat} {c : Nat → Nat} (hR : Rm X h r F0 H F pc mc) (ht : isMk X h (mc 6) c) (hp : p < 6) (hQ : ∀ h' mc', Rm X h' r F0 (pshM H p c) F pc mc' → (∃ c, isMk X h' (mc' 6) c) → fr (kpK r) h h' → Q none h') : Gm (kx X) mt_Room_keepMask (d + 3) b [.ref r, .int (nI p)] h Q := by
  obtain ⟨⟨fst, cn, mn, om, sl, ⟨a1, ⟨f1, a2, a3⟩, ⟨f2, a4, a5⟩, ⟨f3, a6, a7⟩, a8, a9, a10⟩, ⟨c1, c2⟩, L⟩, I, t1, t2, t3, w1, w2⟩ := hR
  have tail : ∀ (h1 : gk_H) (i fst' : Nat), i < 16 → fst' < 16 → fr (fun c => c = r + 8) h h1 → ((H.2.1 < 16 ∧ fst' = fst ∧ i = (fst + H.2.1) % 16) ∨ (H.2.1 = 16 ∧ fst' = (fst + 1) % 16 ∧ i = fst)) → isHy X h1 (r + 8) fst' (pshM H p c).2.1 0 → G (kx X) mt_Room_keepMask (d + 3) b 15 [some (.ref r), some (.int (nI p)), none, none] [.ref (r + 8 + 2 + 5 * i)] h1 Q := by
    intro h1 i fst' hi hfst hf hc1 hy
    rw [show r + 8 + 2 + 5 * i = r + 10 + 5 * i by omega]
    have e1 := (hf.2 r (by omega)).trans a1
    have e2 := (hf.2 (r + 2) (by omega)).trans a4
    have e10 := (hf.2 (r + 10 + 5 * i) (by omega)).trans (a10 i hi)
    have hn8 := (I.2.2.1 6 (by decide)).fx
    have hn8a := (I.2.2.1 6 (by decide)).act hi
    refine gk_astore2 dX10_keepMask_15 (pc' := 16) rfl (by decide) rfl ?_
    refine gk_aload2 dX10_keepMask_16 (pc' := 17) rfl ?_
    refine gk_iconst (v := 1) dX10_keepMask_17 (pc' := 18) rfl (by decide) ?_
    refine gk_putf (fs := [_, _, _, _]) gP_Room_308 dX10_keepMask_18 (pc' := 21) rfl (by exact (e10)) rfl rfl (Nat.le_of_ble_eq_true rfl) ?_
    refine gk_aload2 dX10_keepMask_21 (pc' := 22) rfl ?_
    refine gk_iload1 dX10_keepMask_22 (pc' := 23) rfl ?_
    refine gk_putf (fs := [_, _, _, _]) gP_Room_314 dX10_keepMask_23 (pc' := 26) rfl (by exact (gk_set_self)) rfl rfl (Nat.le_of_ble_eq_true rfl) ?_
    refine gk_aload2 dX10_keepMask_26 (pc' := 27) rfl ?_
    refine gk_getf (fs := [_, _, _, _]) gF_Room_320 dX10_keepMask_27 (pc' := 30) rfl (by exact (gk_set_self)) rfl ?_
    refine gk_astore3 dX10_keepMask_30 (pc' := 31) rfl (by decide) rfl ?_
    refine gk_aload2 dX10_keepMask_31 (pc' := 32) rfl ?_
    refine gk_aload0 dX10_keepMask_32 (pc' := 33) rfl ?_
    refine gk_getf (fs := [_, _, _, _, _, _, _, _, _, _, _, _]) gF_Room_17 dX10_keepMask_33 (pc' := 36) rfl (by exact ((gk_set_ne (by omega)).trans ((gk_set_ne (by omega)).trans e1))) rfl ?_
    refine gk_iload1 dX10_keepMask_36 (pc' := 37) rfl ?_
    refine gk_aald (t0 := 3) rfl dX10_keepMask_37 (pc' := 38) rfl (by exact ((gk_set_ne (by omega)).trans ((gk_set_ne (by omega)).trans e2))) (vp_in_nI hp (by decide)) ?_
    rw [nI_clamp (by omega), a5 p hp, show va_rf (some (mc p)) = Value.ref (mc p) from rfl]
    refine gk_putf (fs := [_, _, _, _]) gP_Room_320 dX10_keepMask_38 (pc' := 41) rfl (by exact (gk_set_self)) rfl rfl (Nat.le_of_ble_eq_true rfl) ?_
    refine gk_aload0 dX10_keepMask_41 (pc' := 42) rfl ?_
    refine gk_getf (fs := [_, _, _, _, _, _, _, _, _, _, _, _]) gF_Room_17 dX10_keepMask_42 (pc' := 45) rfl (by exact ((gk_set_ne (by omega)).trans ((gk_set_ne (by omega)).trans ((gk_set_ne (by omega)).trans e1)))) rfl ?_
    refine gk_iload1 dX10_keepMask_45 (pc' := 46) rfl ?_
    refine gk_aload0 dX10_keepMask_46 (pc' := 47) rfl ?_
    refine gk_getf (fs := [_, _, _, _, _, _, _, _, _, _, _, _]) gF_Room_37 dX10_keepMask_47 (pc' := 50) rfl (by exact ((gk_set_ne (by omega)).trans ((gk_set_ne (by omega)).trans ((gk_set_ne (by omega)).trans e1)))) rfl ?_
    refine gk_aast (t0 := 3) rfl (r := (RX5, TX5, 1)) rfl dX10_keepMask_50 (pc' := 51) rfl (by exact ((gk_set_ne (by omega)).trans ((gk_set_ne (by omega)).trans ((gk_set_ne (by omega)).trans e2)))) (by exact ((gk_set_ne (by omega)).trans ((gk_set_ne (by omega)).trans ((gk_set_ne (by omega)).trans ((hf.2 _ (by omega)).trans ht.o))))) (vp_in_nI hp (by decide)) ?_
    rw [nI_clamp (by omega)]
    refine gk_aload0 dX10_keepMask_51 (pc' := 52) rfl ?_
    refine gk_aload3 dX10_keepMask_52 (pc' := 53) rfl ?_
    refine gk_putf (fs := [_, _, _, _, _, _, _, _, _, _, _, _]) gP_Room_37 dX10_keepMask_53 (pc' := 56) rfl (by exact ((gk_set_ne (by omega)).trans ((gk_set_ne (by omega)).trans ((gk_set_ne (by omega)).trans ((gk_set_ne (by omega)).trans e1))))) rfl rfl (Nat.le_of_ble_eq_true rfl) ?_
    refine gk_vret dX10_keepMask_56 rfl ?_
    refine (fun (h5 : gk_H) (g0 : h5.1 r = some (rmO r F.1 (pc 8) (mc (7 + i)))) (g1 : h5.1 (r + 2) = some (cR X 3 6 (va_up f2 p (some (mc 6))))) (g10 : h5.1 (r + 10 + 5 * i) = some (.inr (0, [.int 1, .int (nI p), .ref (pc (9 + i)), .ref (mc p)]))) (gx : ∀ c, c ≠ r → c ≠ r + 2 → c ≠ r + 10 + 5 * i → h5.1 c = h1.1 c) (gs : h5.2 = h1.2) => (?_ : Q none h5)) _ gk_set_self ((gk_set_ne (by omega)).trans gk_set_self) ((gk_set_ne (by omega)).trans ((gk_set_ne (by omega)).trans gk_set_self)) (fun c n1 n2 n3 => (gk_set_ne n1).trans ((gk_set_ne n2).trans ((gk_set_ne n3).trans ((gk_set_ne n3).trans (gk_set_ne n3))))) rfl
    have gy : ∀ c, c ≠ r → c ≠ r + 2 → c ≠ r + 8 → c ≠ r + 10 + 5 * i → h5.1 c = h.1 c := fun c n1 n2 n3 n4 => (gx c n1 n2 n4).trans (hf.2 c n3)
    have gp : ∀ j, j < 25 → h5.1 (pc j) = h.1 (pc j) ∧ h5.1 (pc j + 1) = h.1 (pc j + 1) := fun j hj => by
      have z1 := (I.1 j hj).fx
      have z2 := (I.1 j hj).act hi
      exact ⟨gy _ (by omega) (by omega) (by omega) (by omega), gy _ (by omega) (by omega) (by omega) (by omega)⟩
    have gm : ∀ j, j < 23 → h5.1 (mc j) = h.1 (mc j) ∧ h5.1 (mc j + 1) = h.1 (mc j + 1) := fun j hj => by
      have z1 := (I.2.2.1 j hj).fx
      have z2 := (I.2.2.1 j hj).act hi
      exact ⟨gy _ (by omega) (by omega) (by omega) (by omega), gy _ (by omega) (by omega) (by omega) (by omega)⟩
    have q8 : rotM mc p i 6 = mc (7 + i) := by unfold rotM; rw [if_neg (by omega), if_pos rfl]
    refine hQ h5 (rotM mc p i) ⟨⟨fst', cn, fun j => if j = p then c else if j = 7 + i then mn p else mn j, fun j => if j = i then 1 else om j, fun j => if j = i then nI p else sl j, ⟨by rw [q8]; exact g0, ⟨f1, (gy _ (by omega) (by omega) (by omega) (by omega)).trans a2, a3⟩, ⟨_, g1, fun q hq => ?_⟩, ⟨f3, (gy _ (by omega) (by omega) (by omega) (by omega)).trans a6, a7⟩, ?_, hfst, fun j hj => ?_⟩, ⟨fun j hj n => ?_, fun j hj n => ?_⟩, L.pM w1 a9 hp hc1⟩, I.rM hp hi, t1.kept (fun c hc => gy _ (by omega) (by omega) (by omega) (by omega)), gs.trans (hf.1.trans t2), t3, wf_pshM w1 hp ht.1, w2⟩ ⟨mn (7 + i), ?_⟩ ?_
    · show (if q = p then some (mc 6) else f2 q) = some (rotM mc p i q)
      unfold rotM
      by_cases e : q = p
      · rw [if_pos e, if_pos e]
      · rw [if_neg e, if_neg e, if_neg (by omega), if_neg (by omega)]; exact a5 q hq
    · rw [show (pshM H p c).2.2.1 - (pshM H p c).2.1 = 0 from psh_un]
      exact hy.kept (gx _ (by omega) (by omega) (by omega)) (gx _ (by omega) (by omega) (by omega))
    · show _ = some (Sum.inr (_, [Value.int (if j = i then 1 else om j), Value.int (if j = i then nI p else sl j), _, Value.ref (rotM mc p i (7 + j))]))
      unfold rotM
      rw [if_neg (show ¬ 7 + j = p by omega), if_neg (show ¬ 7 + j = 6 by omega)]
      by_cases e : j = i
      · subst e
        rw [if_pos rfl, if_pos rfl, if_pos rfl]; exact g10
      · rw [if_neg e, if_neg e, if_neg (show ¬ 7 + j = 7 + i by omega)]
        exact (gy _ (by omega) (by omega) (by omega) (by omega)).trans (a10 j hj)
    · exact (c1 j hj n).kept (gp j hj).1 (gp j hj).2
    · show isMk X h5 (rotM mc p i j) (if j = p then c else if j = 7 + i then mn p else mn j)
      unfold rotM
      by_cases e : j = p
      · rw [if_pos e, if_pos e]; exact ht.kept (gm 6 (by decide)).1 (gm 6 (by decide)).2
      · rw [if_neg e, if_neg e, if_neg n]
        by_cases e2 : j = 7 + i
        · rw [if_pos e2, if_pos e2]; exact (c2 p (by omega) (by omega)).kept (gm p (by omega)).1 (gm p (by omega)).2
        · rw [if_neg e2, if_neg e2]; exact (c2 j hj n).kept (gm j hj).1 (gm j hj).2
    · rw [q8]; exact (c2 (7 + i) (by omega) (by omega)).kept (gm _ (by omega)).1 (gm _ (by omega)).2
    · refine ⟨gs.trans hf.1, fun c n => ?_⟩
      unfold kpK at n
      exact gy _ (by omega) (by omega) (by omega) (by omega)
  have w11 := w1.1
  have w12 := w1.2.1
  refine Gm.enter (L := [some (.ref r), some (.int (nI p)), none, none]) (by decide) (fun _ => trivial) (Nat.le_of_ble_eq_true rfl) rfl ?_
  refine gk_iload1 dX10_keepMask_0 (pc' := 1) rfl ?_
  refine gk_cS1_1 mz_Room_isMask gw_421 dX10_keepMask_1 (pc' := 4) rfl (Nat.le_of_ble_eq_true rfl) (sp_Room_isMask (fun j _ _ => ?_) (fun z => absurd (by rw [nI_toInt (by omega)]; omega) z))
  refine ⟨_, rfl, ?_⟩
  refine gk_if_ne dX10_keepMask_4 (tgt := 8) (pc' := 7) (by decide) rfl (fun _ => ?_) (fun c => absurd c (by decide))
  refine gk_aload0 dX10_keepMask_8 (pc' := 9) rfl ?_
  refine gk_getf (fs := [_, _, _, _, _, _, _, _, _, _, _, _]) gF_Room_44 dX10_keepMask_9 (pc' := 12) rfl (by exact (a1)) rfl ?_
  refine gk_cV1_0 mv_History_next gw_266 dX10_keepMask_12 (pc' := 15) rfl (Nat.le_of_ble_eq_true rfl) (by exact (a8.1)) (sp_History_next a8 a9 (by omega) (fun z h1 y1 y2 => ?_) (fun z h1 y1 y2 => ?_))
  · refine ⟨_, rfl, ?_⟩
    exact tail h1 _ fst (by omega) a9 y2 (Or.inl ⟨z, rfl, rfl⟩) (by rw [show (pshM H p c).2.1 = _ from psh_nw, if_pos z]; exact y1)
  · refine ⟨_, rfl, ?_⟩
    exact tail h1 _ _ (by omega) (by omega) y2 (Or.inr ⟨z, rfl, rfl⟩) (by rw [show (pshM H p c).2.1 = _ from psh_nw, if_neg (by omega)]; exact y1)
  
theorem sp_Room_partOf {f : Int32} (hR : Rm X h r F0 H F pc mc) (ht : ∀ j, j < F.1 → f = nI j → Q (some (.ref (F0 + 2 * j))) h) (hf : ¬ (0 ≤ f.toInt ∧ f.toInt < F.1) → Q (some .null) h) : Gm (kx X) mt_Room_partOf d b [.ref r, .int f] h Q := by
  have a1 := hR.obj
  obtain ⟨fr, a2, a3⟩ := hR.frow
  have hN := hR.2.2.2.2.2.2.1
  have z0 : (0 : Int32).toInt = 0 := rfl
  have z24 : (24 : Int32).toInt = 24 := rfl
  have zN : (nI F.1).toInt = F.1 := nI_toInt (by omega)
  refine Gm.enter (L := [some (.ref r), some (.int f)]) (by decide) (fun _ => trivial) (Nat.le_of_ble_eq_true rfl) rfl ?_
  refine gk_iload1 dX10_partOf_0 (pc' := 1) rfl ?_
  refine gk_if_lt dX10_partOf_1 (tgt := 27) (pc' := 4) (by decide) rfl (fun c1 => ?_) (fun c1 => ?_)
  · rw [pu_lt, z0] at c1
    refine gk_null dX10_partOf_27 (pc' := 28) rfl ?_
    exact gk_aretN dX10_partOf_28 rfl (hf (by omega))
  · rw [pu_lt, z0] at c1
    refine gk_iload1 dX10_partOf_4 (pc' := 5) rfl ?_
    refine gk_aload0 dX10_partOf_5 (pc' := 6) rfl ?_
    refine gk_getf (fs := [_, _, _, _, _, _, _, _, _, _, _, _]) gF_Room_27 dX10_partOf_6 (pc' := 9) rfl (by exact (a1)) rfl ?_
    refine gk_icmp_ge dX10_partOf_9 (tgt := 27) (pc' := 12) (by decide) rfl (fun c9 => ?_) (fun c9 => ?_)
    · rw [pu_le, zN] at c9
      refine gk_null dX10_partOf_27 (pc' := 28) rfl ?_
      exact gk_aretN dX10_partOf_28 rfl (hf (by omega))
    · rw [pu_le, zN] at c9
      refine gk_iload1 dX10_partOf_12 (pc' := 13) rfl ?_
      refine gk_bipush (v := 24) dX10_partOf_13 (pc' := 15) rfl (by decide) ?_
      refine gk_icmp_ge dX10_partOf_15 (tgt := 27) (pc' := 18) (by decide) rfl (fun c15 => absurd (pu_le.mp c15) (by omega)) (fun c15 => ?_)
      obtain ⟨j, hj, rfl⟩ := pu_of (x := f) (n := F.1) (by omega) (by omega) (by omega)
      refine gk_aload0 dX10_partOf_18 (pc' := 19) rfl ?_
      refine gk_getf (fs := [_, _, _, _, _, _, _, _, _, _, _, _]) gF_Room_23 dX10_partOf_19 (pc' := 22) rfl (by exact (a1)) rfl ?_
      refine gk_iload1 dX10_partOf_22 (pc' := 23) rfl ?_
      refine gk_aald (t0 := 4) rfl dX10_partOf_23 (pc' := 24) rfl (by exact (a2)) (vp_in_nI (show j < 24 by omega) (by decide)) ?_
      rw [nI_clamp (by omega), a3 j hj, show va_rf (some (F0 + 2 * j)) = Value.ref (F0 + 2 * j) from rfl]
      refine gk_goto dX10_partOf_24 (tgt := 28) (by decide) ?_
      refine gk_aret dX10_partOf_28 rfl (ht j hj rfl)
end KpB
