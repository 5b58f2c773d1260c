/-! ===== my words for the system's things, and small facts of numbers ===== -/
abbrev gX : Type := Launch × va_G × (Nat → ClassId) × Nat
abbrev kx (X : gX) : gk_K := (X.1, X.2.1, [(X.2.2.1 0, .int), (X.2.2.1 1, .boolean), (X.2.2.1 2, .object "DarkRoom$Picture"), (X.2.2.1 3, .object "DarkRoom$Mask"), (X.2.2.1 4, .object "DarkRoom$Filter"), (X.2.2.1 5, .object "DarkRoom$Act")], X.2.2.2)
abbrev cI (X : gX) (n : Nat) (f : Nat → Int32) : va_E := .inl (X.2.2.1 0, n, .inl f)
abbrev cZ (X : gX) (n : Nat) (f : Nat → Int32) : va_E := .inl (X.2.2.1 1, n, .inl f)
abbrev cR (X : gX) (k n : Nat) (f : Nat → Option Nat) : va_E := .inl (X.2.2.1 k, n, .inr (.inr (.inr (.inr f))))
theorem Gm.enter {K : gk_K} {M : gk_M} {d : Nat} {b : Nat × Nat} {L : List (Option Value)} {h : gk_H} {Q : Option Value → gk_H → Prop} {av : List Value} (hy : plainName M.1.cls = true) (hX : ∀ U, M.2.2.2.2 U) (hn : (lg_sl av).length ≤ M.2.2.1) (hL : gk_as L = lv_args 0 av) (k : G K M d b 0 L [] h Q) : Gm K M d b av h Q := Gm.intro hy hX hn (fun i v h => by rw [← hL]; exact gk_as_mem.mpr h) k
theorem Gm.enterJ {K : gk_K} {M : gk_M} {d : Nat} {b : Nat × Nat} {L : List (Option Value)} {h : gk_H} {Q : Option Value → gk_H → Prop} {av : List Value} (hy : plainFor M.1 = true) (hX : ∀ U, M.2.2.2.2 U) (hn : (lg_sl av).length ≤ M.2.2.1) (hL : gk_as L = lv_args 0 av) (k : G K M d b 0 L [] h Q) : Gm K M d b av h Q := by
  refine va_MetF (cc := M.2.1) (maxL := M.2.2.1) (ret := M.2.2.2.1) hy rfl ?_
  intro p e s m args below meth c s₁ B hml hv
  obtain ⟨rfl, hR, hK, hN, hb⟩ := hv
  have hts := atoms_spec (ws := .code M.1 M.2.1 M.2.2.1 M.2.2.2.1 :: gk_good) B.pre
  have hl := lv_entry av (n := M.2.2.1) hn
  rw [lg_entry_eq]
  refine k p e s m _ below meth c s.heap [] 0 0 b.1 b.2 _ ⟨B.exec, B.bytes, B.returns, hml, findClass_of_methodNamed B.named, fun w hw => hts w (List.mem_cons_of_mem _ hw), B.notSynchronized, (name_of_methodNamed B.named B.method).1, hK, hN, hb, hX s⟩ hR va_S.rf (gk_L.of hl (fun i v h => by rw [← hL]; exact gk_as_mem.mpr h)) (by omega) (by omega)
/-- from h to h' only the addresses in A have changed, nothing was made -/
def fr (A : Nat → Prop) (h h' : gk_H) : Prop := h'.2 = h.2 ∧ ∀ c, ¬ A c → h'.1 c = h.1 c
theorem fr.rf {A : Nat → Prop} {h : gk_H} : fr A h h := ⟨rfl, fun _ _ => rfl⟩
theorem fr.trans {A B C : Nat → Prop} {h h' h'' : gk_H} (a : fr A h h') (b : fr B h' h'') (ha : ∀ c, A c → C c) (hb : ∀ c, B c → C c) : fr C h h'' := ⟨b.1.trans a.1, fun c n => (b.2 c (fun z => n (hb c z))).trans (a.2 c (fun z => n (ha c z)))⟩
theorem fr.mono {A C : Nat → Prop} {h h' : gk_H} (a : fr A h h') (ha : ∀ c, A c → C c) : fr C h h' := ⟨a.1, fun c n => a.2 c (fun z => n (ha c z))⟩
theorem fr.set {h : gk_H} {a : Nat} {e : va_E} : fr (fun c => c = a) h (gk_set h a e) := ⟨rfl, fun _ n => gk_set_ne n⟩
theorem pu_lt {a b : Int32} : a < b ↔ a.toInt < b.toInt := Int32.lt_iff_toInt_lt
theorem pu_le {a b : Int32} : a ≤ b ↔ a.toInt ≤ b.toInt := Int32.le_iff_toInt_le
theorem pu_llt {a b : Int64} : a < b ↔ a.toInt < b.toInt := Int64.lt_iff_toInt_lt
theorem pu_lle {a b : Int64} : a ≤ b ↔ a.toInt ≤ b.toInt := Int64.le_iff_toInt_le
theorem pu_of {x : Int32} {n : Nat} (h0 : 0 ≤ x.toInt) (h1 : x.toInt < n) (hn : n < 2 ^ 31) : ∃ j : Nat, j < n ∧ x = nI j := vp_in_of (vp_in_iff.mpr ⟨h0, h1⟩) hn
theorem pu_in {x : Int32} {n : Nat} (h0 : 0 ≤ x.toInt) (h1 : x.toInt < n) : vp_in x n := vp_in_iff.mpr ⟨h0, h1⟩
theorem pu_rng (x : Int32) : -2147483648 ≤ x.toInt ∧ x.toInt < 2147483648 := ⟨Int32.le_toInt x, Int32.toInt_lt x⟩
theorem pu_rngL (x : Int64) : -9223372036854775808 ≤ x.toInt ∧ x.toInt < 9223372036854775808 := ⟨Int64.le_toInt x, Int64.toInt_lt x⟩
theorem pu_inj {x y : Int32} (h : x.toInt = y.toInt) : x = y := Int32.toInt_inj.mp h
theorem pu_cmp {x y : Int64} : (y.toInt < x.toInt ∧ lg_cmp x y = 1) ∨ (x = y ∧ lg_cmp x y = 0) ∨ (x.toInt < y.toInt ∧ lg_cmp x y = -1) := by
  unfold lg_cmp
  by_cases h1 : x > y
  · exact Or.inl ⟨pu_llt.mp h1, if_pos h1⟩
  · by_cases h2 : x = y
    · exact Or.inr (Or.inl ⟨h2, by rw [if_neg h1, if_pos h2]⟩)
    · refine Or.inr (Or.inr ⟨?_, by rw [if_neg h1, if_neg h2]⟩)
      have h3 : ¬ y.toInt < x.toInt := fun q => h1 (pu_llt.mpr q)
      have h4 : ¬ x.toInt = y.toInt := fun q => h2 (Int64.toInt_inj.mp q)
      omega
theorem pu_cmp_lt {x y : Int64} : lg_cmp x y < 0 ↔ x.toInt < y.toInt := by
  rcases pu_cmp (x := x) (y := y) with ⟨h, e⟩ | ⟨h, e⟩ | ⟨h, e⟩
  · rw [e]; exact ⟨fun q => absurd q (by decide), fun q => by omega⟩
  · rw [e, h]; exact ⟨fun q => absurd q (by decide), fun q => by omega⟩
  · rw [e]; exact ⟨fun _ => h, fun _ => by decide⟩
theorem pu_cmp_gt {x y : Int64} : 0 < lg_cmp x y ↔ y.toInt < x.toInt := by
  rcases pu_cmp (x := x) (y := y) with ⟨h, e⟩ | ⟨h, e⟩ | ⟨h, e⟩
  · rw [e]; exact ⟨fun _ => h, fun _ => by decide⟩
  · rw [e, h]; exact ⟨fun q => absurd q (by decide), fun q => by omega⟩
  · rw [e]; exact ⟨fun q => absurd q (by decide), fun q => by omega⟩
theorem pu_cmp_eq {x y : Int64} : lg_cmp x y = 0 ↔ x = y := by
  rcases pu_cmp (x := x) (y := y) with ⟨h, e⟩ | ⟨h, e⟩ | ⟨h, e⟩
  · rw [e]; exact ⟨fun q => absurd q (by decide), fun q => by rw [q] at h; omega⟩
  · rw [e]; exact ⟨fun _ => h, fun _ => rfl⟩
  · rw [e]; exact ⟨fun q => absurd q (by decide), fun q => by rw [q] at h; omega⟩
/-! pictures: of a kind k, w wide, t tall, with the pixels x -/
def loK (k : Int32) : Int32 := if k = 1 then -32768 else 0
def hiK (k : Int32) : Int32 := if k = 1 then 32767 else 255
/-- a Picture object at a (its row at a + 1) that shows x within w times t -/
def isPic (X : gX) (h : gk_H) (a : Nat) (k : Int32) (w t : Nat) (x : Nat → Int32) : Prop := w ≤ 16 ∧ t ≤ 16 ∧ ∃ f : Nat → Int32, h.1 a = some (.inr (6, [.int k, .int (nI w), .int (nI t), .ref (a + 1)])) ∧ h.1 (a + 1) = some (cI X 256 f) ∧ ∀ i, i < w * t → f i = x i
theorem isPic.kept {X : gX} {h h' : gk_H} {a : Nat} {k : Int32} {w t : Nat} {x : Nat → Int32} (hp : isPic X h a k w t x) (h0 : h'.1 a = h.1 a) (h1 : h'.1 (a + 1) = h.1 (a + 1)) : isPic X h' a k w t x := by
  obtain ⟨hw, ht, f, e1, e2, e3⟩ := hp
  exact ⟨hw, ht, f, h0.trans e1, h1.trans e2, e3⟩
theorem isPic.fr {X : gX} {h h' : gk_H} {a : Nat} {k : Int32} {w t : Nat} {x : Nat → Int32} {A : Nat → Prop} (hp : isPic X h a k w t x) (hf : fr A h h') (h0 : ¬ A a) (h1 : ¬ A (a + 1)) : isPic X h' a k w t x := hp.kept (hf.2 _ h0) (hf.2 _ h1)
theorem isPic.congr {X : gX} {h : gk_H} {a : Nat} {k : Int32} {w t : Nat} {x y : Nat → Int32} (hp : isPic X h a k w t x) (e : ∀ i, i < w * t → x i = y i) : isPic X h a k w t y := by
  obtain ⟨hw, ht, f, e1, e2, e3⟩ := hp
  exact ⟨hw, ht, f, e1, e2, fun i hi => (e3 i hi).trans (e i hi)⟩
theorem isPic.o {X : gX} {h : gk_H} {a : Nat} {k : Int32} {w t : Nat} {x : Nat → Int32} (hp : isPic X h a k w t x) : h.1 a = some (.inr (6, [.int k, .int (nI w), .int (nI t), .ref (a + 1)])) := by
  obtain ⟨hw, ht, f, e1, e2, e3⟩ := hp
  exact e1
theorem area_le {w t : Nat} (hw : w ≤ 16) (ht : t ≤ 16) : w * t ≤ 256 := Nat.mul_le_mul hw ht
theorem place_lt {w t i j : Nat} (hi : i < w) (hj : j < t) : j * w + i < w * t := by
  have : (j + 1) * w ≤ t * w := Nat.mul_le_mul_right w hj
  rw [Nat.add_mul, Nat.one_mul] at this
  rw [Nat.mul_comm w t]
  omega
theorem isPic.area {X : gX} {h : gk_H} {a : Nat} {k : Int32} {w t : Nat} {x : Nat → Int32} (hp : isPic X h a k w t x) : w * t ≤ 256 := area_le hp.1 hp.2.1
theorem nI_div {i w : Nat} (hi : i < 2 ^ 31) (hw : w < 2 ^ 31) (h0 : 0 < w) : nI i / nI w = nI (i / w) := pk_div hi h0 hw
theorem nI_mod {i w : Nat} (hi : i < 2 ^ 31) (hw : w < 2 ^ 31) (h0 : 0 < w) : nI i - nI i / nI w * nI w = nI (i % w) := pk_rem hi h0 hw
theorem upd_of {f x : Nat → Int32} {n i : Nat} {v : Int32} (e : ∀ j, j < n → f j = x j) : ∀ j, j < n → upd f i v j = upd x i v j := fun j hj => by
  by_cases q : j = i
  · subst q; rw [pk_us, pk_us]
  · rw [pk_un q, pk_un q]; exact e j hj
