/-! ===== Bench: what single filters make ===== -/
/-- what a filter of kind fk (0 to 3) with a, b makes of v, in a picture of kind k -/
def mdF (fk fa fb k v : Int32) : Int32 := if fk = 0 then kpt k (v.toInt + fa.toInt) else if fk = 1 then loK k + hiK k - v else if fk = 2 then (if v < fa then loK k else hiK k) else kpt k (rnd (v.toInt * fa.toInt) fb.toInt)
/-- the nine around x, y -/
def nin (w t : Nat) (p : Nat → Int32) (x y : Int) (e : Int32) (i : Nat) : Int32 := sn w t p (x + (i % 3 : Nat) - 1) (y + (i / 3 : Nat) - 1) e
/-- their sum, each times its weight -/
def wsm (g wt : Nat → Int32) : Nat → Int
  | 0 => 0
  | n + 1 => wsm g wt n + (g n).toInt * (wt n).toInt
/-- v goes down from place i to where it stands rising; the first m + 1 sorted -/
def ins (v : Int32) : Nat → (Nat → Int32) → (Nat → Int32)
  | 0, g => upd g 0 v
  | i + 1, g => if v < g i then ins v i (upd g (i + 1) (g i)) else upd g (i + 1) v
def srt (g : Nat → Int32) : Nat → (Nat → Int32)
  | 0 => g
  | m + 1 => ins (srt g m (m + 1)) (m + 1) (srt g m)
/-- a Bench object at a: its nine; between's pictures stand at a + 3, a + 5, a + 7, a + 9 -/
def isBn (X : gX) (h : gk_H) (a : Nat) (g : Nat → Int32) : Prop := h.1 a = some (.inr (1, [.ref (a + 1), .ref (a + 2)])) ∧ (∃ f : Nat → Option Nat, h.1 (a + 1) = some (cR X 2 4 f) ∧ ∀ i, i < 4 → f i = some (a + 3 + 2 * i)) ∧ ∃ f : Nat → Int32, h.1 (a + 2) = some (cI X 9 f) ∧ ∀ i, i < 9 → f i = g i
theorem isBn.kept {X : gX} {h h' : gk_H} {a : Nat} {g : Nat → Int32} (hs : isBn X h a g) (h0 : h'.1 a = h.1 a) (h1 : h'.1 (a + 1) = h.1 (a + 1)) (h2 : h'.1 (a + 2) = h.1 (a + 2)) : isBn X h' a g := by
  obtain ⟨e1, ⟨f, e2, e3⟩, f', e4, e5⟩ := hs
  exact ⟨h0.trans e1, ⟨f, h1.trans e2, e3⟩, f', h2.trans e4, e5⟩
theorem ins_congr {v : Int32} : ∀ i (f g : Nat → Int32) n, i < n → (∀ j, j < n → f j = g j) → ∀ j, j < n → ins v i f j = ins v i g j
  | 0, f, g, n, hi, h => upd_of h
  | i + 1, f, g, n, hi, h => by
    unfold ins
    rw [h i (by omega)]
    split
    · exact ins_congr i _ _ n (by omega) (upd_of h)
    · exact upd_of h
theorem mulAbs {x y : Int} {m n : Nat} (hx : x.natAbs ≤ m) (hy : y.natAbs ≤ n) : (x * y).natAbs ≤ m * n := by
  rw [Int.natAbs_mul]
  exact Nat.mul_le_mul hx hy
theorem mulB4 {x y : Int} (hx : -40000 ≤ x ∧ x ≤ 40000) (hy : -1000 ≤ y ∧ y ≤ 1000) : -40000000 ≤ x * y ∧ x * y ≤ 40000000 := by
  have := mulAbs (x := x) (y := y) (m := 40000) (n := 1000) (by omega) (by omega)
  omega
theorem mulB5 {x y : Int} (hx : -32768 ≤ x ∧ x ≤ 32767) (hy : -100000 ≤ y ∧ y ≤ 100000) : -4000000000 ≤ x * y ∧ x * y ≤ 4000000000 := by
  have := mulAbs (x := x) (y := y) (m := 32768) (n := 100000) (by omega) (by omega)
  omega
section BnA
variable {X : gX} {d : Nat} {b : Nat × Nat} {h : gk_H} {Q : Option Value → gk_H → Prop} {a o o' : Nat} {k : Int32} {w t : Nat} {p g : Nat → Int32} {fa : Nat} {fk a1 b1 : Int32} {hg : Nat} {f1 f2 : Option Nat} {wt : Nat → Int32}
theorem lp_Bench_gather {h0 : gk_H} {x y e : Int32} (n1 : o ≠ a + 2 ∧ o + 1 ≠ a + 2) (hp0 : isPic X h0 o k w t p) (h1 : 1 ≤ w) (h2 : 1 ≤ t) (hx : 0 ≤ x.toInt ∧ x.toInt < 100) (hy : 0 ≤ y.toInt ∧ y.toInt < 100) (hQ : ∀ h, isBn X h a (nin w t p x.toInt y.toInt e) → fr (fun c => c = a + 2) h0 h → Q none h) :
    ∀ f i h g, i + f = 9 → isBn X h a g → (∀ j, j < i → g j = nin w t p x.toInt y.toInt e j) → fr (fun c => c = a + 2) h0 h → G (kx X) mt_Bench_gather (d + 3) b 3 [some (.ref a), some (.ref o), some (.int x), some (.int y), some (.int e), some (.int (nI i))] [] h Q := by
  intro f
  induction f with
  | zero =>
    intro i h g hi hs hgo hf
    have e : i = 9 := by omega
    subst e
    obtain ⟨e1, e2, f', e4, e5⟩ := hs
    refine gk_iload5 dX1_gather_3 (pc' := 5) rfl ?_
    refine gk_bipush (v := 9) dX1_gather_5 (pc' := 7) rfl (by decide) ?_
    refine gk_icmp_ge dX1_gather_7 (tgt := 45) (pc' := 10) (by decide) rfl (fun c7 => ?_) (fun c7 => absurd (by decide) c7)
    refine gk_vret dX1_gather_45 rfl (hQ h ⟨e1, e2, f', e4, fun j hj => (e5 j hj).trans (hgo j hj)⟩ hf)
  | succ f ih =>
    intro i h g hi hs hgo hf
    have hp := hp0.fr hf (by omega) (by omega)
    have q1 := hp.o
    obtain ⟨e1, e2, f', e4, e5⟩ := hs
    have z1 : (1 : Int32).toInt = 1 := rfl
    have zr : (nI (i % 3)).toInt = (i % 3 : Nat) := nI_toInt (by omega)
    have zq : (nI (i / 3)).toInt = (i / 3 : Nat) := nI_toInt (by omega)
    have xa : (x + nI (i % 3)).toInt = x.toInt + (i % 3 : Nat) := by rw [Jvm.Kit.i32_add (by omega) (by omega), zr]
    have xb : (x + nI (i % 3) - 1).toInt = x.toInt + (i % 3 : Nat) - 1 := by rw [Jvm.Kit.i32_sub (by omega) (by omega), xa, z1]
    have ya : (y + nI (i / 3)).toInt = y.toInt + (i / 3 : Nat) := by rw [Jvm.Kit.i32_add (by omega) (by omega), zq]
    have yb : (y + nI (i / 3) - 1).toInt = y.toInt + (i / 3 : Nat) - 1 := by rw [Jvm.Kit.i32_sub (by omega) (by omega), ya, z1]
    refine gk_iload5 dX1_gather_3 (pc' := 5) rfl ?_
    refine gk_bipush (v := 9) dX1_gather_5 (pc' := 7) rfl (by decide) ?_
    refine gk_icmp_ge dX1_gather_7 (tgt := 45) (pc' := 10) (by decide) rfl (fun c7 => absurd c7 (nI_ge (b := 9) (by omega) (by decide))) (fun c7 => ?_)
    refine gk_aload0 dX1_gather_10 (pc' := 11) rfl ?_
    refine gk_getf (fs := [_, _]) gF_Bench_17 dX1_gather_11 (pc' := 14) rfl (by exact (e1)) rfl ?_
    refine gk_iload5 dX1_gather_14 (pc' := 16) rfl ?_
    refine gk_aload1 dX1_gather_16 (pc' := 17) rfl ?_
    refine gk_iload2 dX1_gather_17 (pc' := 18) rfl ?_
    refine gk_iload5 dX1_gather_18 (pc' := 20) rfl ?_
    refine gk_iconst (v := 3) dX1_gather_20 (pc' := 21) rfl (by decide) ?_
    refine gk_irem dX1_gather_21 (pc' := 22) rfl (by decide) ?_
    rw [show nI i - nI i / 3 * 3 = nI (i % 3) from nI_mod (w := 3) (by omega) (by omega) (by omega)]
    refine gk_iadd dX1_gather_22 (pc' := 23) rfl ?_
    refine gk_iconst (v := 1) dX1_gather_23 (pc' := 24) rfl (by decide) ?_
    refine gk_isub dX1_gather_24 (pc' := 25) rfl ?_
    refine gk_iload3 dX1_gather_25 (pc' := 26) rfl ?_
    refine gk_iload5 dX1_gather_26 (pc' := 28) rfl ?_
    refine gk_iconst (v := 3) dX1_gather_28 (pc' := 29) rfl (by decide) ?_
    refine gk_idiv dX1_gather_29 (pc' := 30) rfl (by decide) ?_
    rw [show nI i / 3 = nI (i / 3) from nI_div (w := 3) (by omega) (by omega) (by omega)]
    refine gk_iadd dX1_gather_30 (pc' := 31) rfl ?_
    refine gk_iconst (v := 1) dX1_gather_31 (pc' := 32) rfl (by decide) ?_
    refine gk_isub dX1_gather_32 (pc' := 33) rfl ?_
    refine gk_iload4 dX1_gather_33 (pc' := 35) rfl ?_
    refine gk_cV1_3 mv_Picture_seen gw_488 dX1_gather_35 (pc' := 38) rfl (Nat.le_of_ble_eq_true rfl) (by exact (q1)) (sp_Picture_seen hp h1 h2 (by omega) (by omega) ?_)
    refine ⟨_, rfl, ?_⟩
    rw [xb, yb]
    refine gk_iast (t0 := 0) rfl dX1_gather_38 (pc' := 39) rfl (by exact (e4)) (vp_in_nI (by omega) (by decide)) ?_
    rw [nI_clamp (by omega)]
    refine gk_iinc5 (v := 1) dX1_gather_39 (pc' := 42) rfl (by decide) (by decide) rfl ?_
    refine gk_goto dX1_gather_42 (tgt := 3) (by decide) ?_
    rw [← nI_succ]
    refine ih (i + 1) _ (upd g i (nin w t p x.toInt y.toInt e i)) (by omega) ⟨(gk_set_ne (by omega)).trans e1, by obtain ⟨f, k1, k2⟩ := e2; exact ⟨f, (gk_set_ne (by omega)).trans k1, k2⟩, _, gk_set_self, upd_of e5⟩ (upd_lt hgo rfl) (hf.trans fr.set (fun _ z => z) (fun _ z => z))
theorem sp_Bench_gather {x y e : Int32} (hs : isBn X h a g) (n1 : o ≠ a + 2 ∧ o + 1 ≠ a + 2) (hp : isPic X h o k w t p) (h1 : 1 ≤ w) (h2 : 1 ≤ t) (hx : 0 ≤ x.toInt ∧ x.toInt < 100) (hy : 0 ≤ y.toInt ∧ y.toInt < 100) (hQ : ∀ h', isBn X h' a (nin w t p x.toInt y.toInt e) → fr (fun c => c = a + 2) h h' → Q none h') : Gm (kx X) mt_Bench_gather (d + 3) b [.ref a, .ref o, .int x, .int y, .int e] h Q := by
  refine Gm.enter (L := [some (.ref a), some (.ref o), some (.int x), some (.int y), some (.int e), none]) (by decide) (fun _ => trivial) (Nat.le_of_ble_eq_true rfl) rfl ?_
  refine gk_iconst (v := 0) dX1_gather_0 (pc' := 1) rfl (by decide) ?_
  refine gk_istore5 dX1_gather_1 (pc' := 3) rfl (by decide) rfl ?_
  exact lp_Bench_gather n1 hp h1 h2 hx hy hQ 9 0 h g (by omega) hs (fun j hj => absurd hj (by omega)) fr.rf
theorem lp_Bench_weighed (hs : isBn X h a g) (hf : isFl X h fa fk a1 b1 hg f1 f2 wt) (hk : fk = 4) (hg9 : ∀ i, i < 9 → -40000 ≤ (g i).toInt ∧ (g i).toInt ≤ 40000) (hw9 : ∀ i, i < 9 → -1000 ≤ (wt i).toInt ∧ (wt i).toInt ≤ 1000) (hQ : ∀ r : Int64, r.toInt = wsm g wt 9 → Q (some (.long r)) h) :
    ∀ f i r, i + f = 9 → r.toInt = wsm g wt i → -(40000000 * i : Int) ≤ wsm g wt i ∧ wsm g wt i ≤ 40000000 * i → G (kx X) mt_Bench_weighed (d + 1) b 5 [some (.ref a), some (.ref fa), some (.long r), none, some (.int (nI i))] [] h Q := by
  obtain ⟨e1, e2, f', e4, e5⟩ := hs
  have g1 := hf.1
  intro f
  induction f with
  | zero =>
    intro i r hi hr hb
    have e : i = 9 := by omega
    subst e
    refine gk_iload4 dX1_weighed_5 (pc' := 7) rfl ?_
    refine gk_bipush (v := 9) dX1_weighed_7 (pc' := 9) rfl (by decide) ?_
    refine gk_icmp_ge dX1_weighed_9 (tgt := 37) (pc' := 12) (by decide) rfl (fun c9 => ?_) (fun c9 => absurd (by decide) c9)
    refine gk_lload2 dX1_weighed_37 (pc' := 38) rfl ?_
    refine gk_lret dX1_weighed_38 rfl (hQ r hr)
  | succ f ih =>
    intro i r hi hr hb
    have k1 := hg9 i (by omega)
    have k2 := hw9 i (by omega)
    have mb : -40000000 ≤ (g i).toInt * (wt i).toInt ∧ (g i).toInt * (wt i).toInt ≤ 40000000 := mulB4 k1 k2
    have zm : ((g i).toInt64 * (wt i).toInt64).toInt = (g i).toInt * (wt i).toInt := by rw [Jvm.Kit.i64_mul (by rw [Jvm.Kit.i64_of_i32, Jvm.Kit.i64_of_i32]; omega) (by rw [Jvm.Kit.i64_of_i32, Jvm.Kit.i64_of_i32]; omega), Jvm.Kit.i64_of_i32, Jvm.Kit.i64_of_i32]
    refine gk_iload4 dX1_weighed_5 (pc' := 7) rfl ?_
    refine gk_bipush (v := 9) dX1_weighed_7 (pc' := 9) rfl (by decide) ?_
    refine gk_icmp_ge dX1_weighed_9 (tgt := 37) (pc' := 12) (by decide) rfl (fun c9 => absurd c9 (nI_ge (b := 9) (by omega) (by decide))) (fun c9 => ?_)
    refine gk_lload2 dX1_weighed_12 (pc' := 13) rfl ?_
    refine gk_aload0 dX1_weighed_13 (pc' := 14) rfl ?_
    refine gk_getf (fs := [_, _]) gF_Bench_17 dX1_weighed_14 (pc' := 17) rfl (by exact (e1)) rfl ?_
    refine gk_iload4 dX1_weighed_17 (pc' := 19) rfl ?_
    refine gk_iald (t0 := 0) rfl dX1_weighed_19 (pc' := 20) rfl (by exact (e4)) (vp_in_nI (by omega) (by decide)) ?_
    rw [nI_clamp (by omega), e5 i (by omega)]
    refine gk_i2l dX1_weighed_20 (pc' := 21) rfl ?_
    refine gk_aload1 dX1_weighed_21 (pc' := 22) rfl ?_
    refine gk_iload4 dX1_weighed_22 (pc' := 24) rfl ?_
    refine gk_cV1_1 mv_Filter_weightAt gw_493 dX1_weighed_24 (pc' := 27) rfl (Nat.le_of_ble_eq_true rfl) (by exact (g1)) (sp_Filter_weightAt hf hk (by omega) ?_)
    refine ⟨_, rfl, ?_⟩
    refine gk_i2l dX1_weighed_27 (pc' := 28) rfl ?_
    refine gk_lmul dX1_weighed_28 (pc' := 29) rfl ?_
    refine gk_ladd dX1_weighed_29 (pc' := 30) rfl ?_
    refine gk_lstore2 dX1_weighed_30 (pc' := 31) rfl (by decide) rfl ?_
    refine gk_iinc4 (v := 1) dX1_weighed_31 (pc' := 34) rfl (by decide) (by decide) rfl ?_
    refine gk_goto dX1_weighed_34 (tgt := 5) (by decide) ?_
    rw [← nI_succ]
    exact ih (i + 1) _ (by omega) (by rw [Jvm.Kit.i64_add (by rw [zm]; omega) (by rw [zm]; omega), zm, hr]; rfl) (by unfold wsm; omega)
theorem sp_Bench_weighed (hs : isBn X h a g) (hf : isFl X h fa fk a1 b1 hg f1 f2 wt) (hk : fk = 4) (hg9 : ∀ i, i < 9 → -40000 ≤ (g i).toInt ∧ (g i).toInt ≤ 40000) (hw9 : ∀ i, i < 9 → -1000 ≤ (wt i).toInt ∧ (wt i).toInt ≤ 1000) (hQ : ∀ r : Int64, r.toInt = wsm g wt 9 → Q (some (.long r)) h) : Gm (kx X) mt_Bench_weighed (d + 1) b [.ref a, .ref fa] h Q := by
  refine Gm.enter (L := [some (.ref a), some (.ref fa), none, none, none]) (by decide) (fun _ => trivial) (Nat.le_of_ble_eq_true rfl) rfl ?_
  refine gk_lconst (v := 0) dX1_weighed_0 (pc' := 1) rfl (by decide) ?_
  refine gk_lstore2 dX1_weighed_1 (pc' := 2) rfl (by decide) rfl ?_
  refine gk_iconst (v := 0) dX1_weighed_2 (pc' := 3) rfl (by decide) ?_
  refine gk_istore4 dX1_weighed_3 (pc' := 5) rfl (by decide) rfl ?_
  exact lp_Bench_weighed hs hf hk hg9 hw9 hQ 9 0 0 (by omega) rfl (by unfold wsm; omega)
theorem lp_Bench_insert {h0 : gk_H} {k1 v : Int32} {i : Nat} {gz : Nat → Int32} (hi9 : i < 9) (hQ : ∀ h, isBn X h a gz → fr (fun c => c = a + 2) h0 h → ∀ l4, G (kx X) mt_Bench_ranked d b 66 [some (.ref a), some (.int k1), some (.int (nI i)), some (.int v), l4] [] h Q) :
    ∀ at' h g, at' ≤ i → isBn X h a g → (∀ j, j < 9 → ins v at' g j = gz j) → fr (fun c => c = a + 2) h0 h → G (kx X) mt_Bench_ranked d b 18 [some (.ref a), some (.int k1), some (.int (nI i)), some (.int v), some (.int (nI at'))] [] h Q := by
  intro at'
  induction at' with
  | zero =>
    intro h g hle hs hz hf
    obtain ⟨e1, ⟨fb, e2, e3⟩, f', e4, e5⟩ := hs
    refine gk_iload4 dX1_ranked_18 (pc' := 20) rfl ?_
    refine gk_if_le dX1_ranked_20 (tgt := 58) (pc' := 23) (by decide) rfl (fun c20 => ?_) (fun c20 => absurd (by decide) c20)
    refine gk_aload0 dX1_ranked_58 (pc' := 59) rfl ?_
    refine gk_getf (fs := [_, _]) gF_Bench_17 dX1_ranked_59 (pc' := 62) rfl (by exact (e1)) rfl ?_
    refine gk_iload4 dX1_ranked_62 (pc' := 64) rfl ?_
    refine gk_iload3 dX1_ranked_64 (pc' := 65) rfl ?_
    refine gk_iast (t0 := 0) rfl dX1_ranked_65 (pc' := 66) rfl (by exact (e4)) (vp_in_nI (by omega) (by decide)) ?_
    exact hQ _ ⟨(gk_set_ne (by omega)).trans e1, ⟨fb, (gk_set_ne (by omega)).trans e2, e3⟩, _, gk_set_self, fun j hj => (upd_of e5 j hj).trans (hz j hj)⟩ (hf.trans fr.set (fun _ z => z) (fun _ z => z)) _
  | succ at' ih =>
    intro h g hle hs hz hf
    obtain ⟨e1, ⟨fb, e2, e3⟩, f', e4, e5⟩ := hs
    refine gk_iload4 dX1_ranked_18 (pc' := 20) rfl ?_
    refine gk_if_le dX1_ranked_20 (tgt := 58) (pc' := 23) (by decide) rfl (fun c20 => absurd c20 (nI_nle (by omega) (by omega))) (fun c20 => ?_)
    refine gk_aload0 dX1_ranked_23 (pc' := 24) rfl ?_
    refine gk_getf (fs := [_, _]) gF_Bench_17 dX1_ranked_24 (pc' := 27) rfl (by exact (e1)) rfl ?_
    refine gk_iload4 dX1_ranked_27 (pc' := 29) rfl ?_
    refine gk_iconst (v := 1) dX1_ranked_29 (pc' := 30) rfl (by decide) ?_
    refine gk_isub dX1_ranked_30 (pc' := 31) rfl ?_
    rw [nI_pred]
    refine gk_iald (t0 := 0) rfl dX1_ranked_31 (pc' := 32) rfl (by exact (e4)) (vp_in_nI (by omega) (by decide)) ?_
    rw [nI_clamp (by omega), e5 at' (by omega)]
    refine gk_iload3 dX1_ranked_32 (pc' := 33) rfl ?_
    refine gk_icmp_le dX1_ranked_33 (tgt := 58) (pc' := 36) (by decide) rfl (fun c33 => ?_) (fun c33 => ?_)
    · unfold ins at hz
      rw [if_neg (Int32.not_lt.mpr c33)] at hz
      refine gk_aload0 dX1_ranked_58 (pc' := 59) rfl ?_
      refine gk_getf (fs := [_, _]) gF_Bench_17 dX1_ranked_59 (pc' := 62) rfl (by exact (e1)) rfl ?_
      refine gk_iload4 dX1_ranked_62 (pc' := 64) rfl ?_
      refine gk_iload3 dX1_ranked_64 (pc' := 65) rfl ?_
      refine gk_iast (t0 := 0) rfl dX1_ranked_65 (pc' := 66) rfl (by exact (e4)) (vp_in_nI (by omega) (by decide)) ?_
      rw [nI_clamp (by omega)]
      exact hQ _ ⟨(gk_set_ne (by omega)).trans e1, ⟨fb, (gk_set_ne (by omega)).trans e2, e3⟩, _, gk_set_self, fun j hj => (upd_of e5 j hj).trans (hz j hj)⟩ (hf.trans fr.set (fun _ z => z) (fun _ z => z)) _
    · unfold ins at hz
      rw [if_pos (Int32.not_le.mp c33)] at hz
      refine gk_aload0 dX1_ranked_36 (pc' := 37) rfl ?_
      refine gk_getf (fs := [_, _]) gF_Bench_17 dX1_ranked_37 (pc' := 40) rfl (by exact (e1)) rfl ?_
      refine gk_iload4 dX1_ranked_40 (pc' := 42) rfl ?_
      refine gk_aload0 dX1_ranked_42 (pc' := 43) rfl ?_
      refine gk_getf (fs := [_, _]) gF_Bench_17 dX1_ranked_43 (pc' := 46) rfl (by exact (e1)) rfl ?_
      refine gk_iload4 dX1_ranked_46 (pc' := 48) rfl ?_
      refine gk_iconst (v := 1) dX1_ranked_48 (pc' := 49) rfl (by decide) ?_
      refine gk_isub dX1_ranked_49 (pc' := 50) rfl ?_
      rw [nI_pred]
      refine gk_iald (t0 := 0) rfl dX1_ranked_50 (pc' := 51) rfl (by exact (e4)) (vp_in_nI (by omega) (by decide)) ?_
      rw [nI_clamp (by omega), e5 at' (by omega)]
      refine gk_iast (t0 := 0) rfl dX1_ranked_51 (pc' := 52) rfl (by exact (e4)) (vp_in_nI (by omega) (by decide)) ?_
      rw [nI_clamp (by omega)]
      refine gk_iinc4 (v := -1) dX1_ranked_52 (pc' := 55) rfl (by decide) (by decide) rfl ?_
      refine gk_goto dX1_ranked_55 (tgt := 18) (by decide) ?_
      rw [pk_m1]
      exact ih _ (upd g (at' + 1) (g at')) (by omega) ⟨(gk_set_ne (by omega)).trans e1, ⟨fb, (gk_set_ne (by omega)).trans e2, e3⟩, _, gk_set_self, upd_of e5⟩ hz (hf.trans fr.set (fun _ z => z) (fun _ z => z))
theorem lp_Bench_ranked {h0 : gk_H} {kn : Nat} {g0 : Nat → Int32} (hk : kn < 9) (hQ : ∀ h g, isBn X h a g → fr (fun c => c = a + 2) h0 h → Q (some (.int (srt g0 8 kn))) h) :
    ∀ f m h g l3 l4, m + f = 8 → isBn X h a g → (∀ j, j < 9 → g j = srt g0 m j) → fr (fun c => c = a + 2) h0 h → G (kx X) mt_Bench_ranked d b 2 [some (.ref a), some (.int (nI kn)), some (.int (nI (m + 1))), l3, l4] [] h Q := by
  intro f
  induction f with
  | zero =>
    intro m h g l3 l4 hm hs hz hf
    have e : m = 8 := by omega
    subst e
    have hs0 := hs
    obtain ⟨e1, e2, f', e4, e5⟩ := hs
    refine gk_iload2 dX1_ranked_2 (pc' := 3) rfl ?_
    refine gk_bipush (v := 9) dX1_ranked_3 (pc' := 5) rfl (by decide) ?_
    refine gk_icmp_ge dX1_ranked_5 (tgt := 72) (pc' := 8) (by decide) rfl (fun c5 => ?_) (fun c5 => absurd (by decide) c5)
    refine gk_iload1 dX1_ranked_72 (pc' := 73) rfl ?_
    refine gk_if_lt dX1_ranked_73 (tgt := 91) (pc' := 76) (by decide) rfl (fun c73 => absurd c73 (nI_pos (by omega))) (fun c73 => ?_)
    refine gk_iload1 dX1_ranked_76 (pc' := 77) rfl ?_
    refine gk_bipush (v := 9) dX1_ranked_77 (pc' := 79) rfl (by decide) ?_
    refine gk_icmp_ge dX1_ranked_79 (tgt := 91) (pc' := 82) (by decide) rfl (fun c79 => absurd c79 (nI_ge (b := 9) (by omega) (by decide))) (fun c79 => ?_)
    refine gk_aload0 dX1_ranked_82 (pc' := 83) rfl ?_
    refine gk_getf (fs := [_, _]) gF_Bench_17 dX1_ranked_83 (pc' := 86) rfl (by exact (e1)) rfl ?_
    refine gk_iload1 dX1_ranked_86 (pc' := 87) rfl ?_
    refine gk_iald (t0 := 0) rfl dX1_ranked_87 (pc' := 88) rfl (by exact (e4)) (vp_in_nI (by omega) (by decide)) ?_
    rw [nI_clamp (by omega), e5 kn hk, hz kn hk]
    refine gk_goto dX1_ranked_88 (tgt := 92) (by decide) ?_
    refine gk_iret dX1_ranked_92 rfl (hQ h g hs0 hf)
  | succ f ih =>
    intro m h g l3 l4 hm hs hz hf
    have hs0 := hs
    obtain ⟨e1, e2, f', e4, e5⟩ := hs
    refine gk_iload2 dX1_ranked_2 (pc' := 3) rfl ?_
    refine gk_bipush (v := 9) dX1_ranked_3 (pc' := 5) rfl (by decide) ?_
    refine gk_icmp_ge dX1_ranked_5 (tgt := 72) (pc' := 8) (by decide) rfl (fun c5 => absurd c5 (nI_ge (b := 9) (by omega) (by decide))) (fun c5 => ?_)
    refine gk_aload0 dX1_ranked_8 (pc' := 9) rfl ?_
    refine gk_getf (fs := [_, _]) gF_Bench_17 dX1_ranked_9 (pc' := 12) rfl (by exact (e1)) rfl ?_
    refine gk_iload2 dX1_ranked_12 (pc' := 13) rfl ?_
    refine gk_iald (t0 := 0) rfl dX1_ranked_13 (pc' := 14) rfl (by exact (e4)) (vp_in_nI (by omega) (by decide)) ?_
    rw [nI_clamp (by omega), e5 (m + 1) (by omega), hz (m + 1) (by omega)]
    refine gk_istore3 dX1_ranked_14 (pc' := 15) rfl (by decide) rfl ?_
    refine gk_iload2 dX1_ranked_15 (pc' := 16) rfl ?_
    refine gk_istore4 dX1_ranked_16 (pc' := 18) rfl (by decide) rfl ?_
    refine lp_Bench_insert (gz := srt g0 (m + 1)) (by omega) (fun h2 s2 f2 l4 => ?_) (m + 1) h g (by omega) hs0 (fun j hj => ins_congr (m + 1) _ _ 9 (by omega) hz j hj) hf
    refine gk_iinc2 (v := 1) dX1_ranked_66 (pc' := 69) rfl (by decide) (by decide) rfl ?_
    refine gk_goto dX1_ranked_69 (tgt := 2) (by decide) ?_
    rw [← nI_succ]
    exact ih (m + 1) h2 _ _ _ (by omega) s2 (fun _ _ => rfl) f2
theorem sp_Bench_ranked {kn : Nat} (hs : isBn X h a g) (hk : kn < 9) (hQ : ∀ h' g', isBn X h' a g' → fr (fun c => c = a + 2) h h' → Q (some (.int (srt g 8 kn))) h') : Gm (kx X) mt_Bench_ranked d b [.ref a, .int (nI kn)] h Q := by
  refine Gm.enter (L := [some (.ref a), some (.int (nI kn)), none, none, none]) (by decide) (fun _ => trivial) (Nat.le_of_ble_eq_true rfl) rfl ?_
  refine gk_iconst (v := 1) dX1_ranked_0 (pc' := 1) rfl (by decide) ?_
  refine gk_istore2 dX1_ranked_1 (pc' := 2) rfl (by decide) rfl ?_
  exact lp_Bench_ranked hk hQ 8 0 h g _ _ (by omega) hs (fun _ _ => rfl) fr.rf
theorem sp_Bench_madeOf {v : Int32} (hp : isPic X h o k w t p) (hf : isFl X h fa fk a1 b1 hg f1 f2 wt) (hk : fk = 0 ∨ fk = 1 ∨ fk = 2 ∨ fk = 3) (hv : -32768 ≤ v.toInt ∧ v.toInt ≤ 32767) (ha1 : fk = 3 → -100000 ≤ a1.toInt ∧ a1.toInt ≤ 100000) (hb1 : fk = 3 → 1 ≤ b1.toInt ∧ b1.toInt ≤ 1000) (hQ : Q (some (.int (mdF fk a1 b1 k v))) h) : Gm (kx X) mt_Bench_madeOf (d + 2) b [.ref fa, .ref o, .int v] h Q := by
  have q1 := hp.o
  have g1 := hf.1
  refine Gm.enter (L := [some (.ref fa), some (.ref o), some (.int v)]) (by decide) (fun _ => trivial) (Nat.le_of_ble_eq_true rfl) rfl ?_
  refine gk_aload0 dX1_madeOf_0 (pc' := 1) rfl ?_
  refine gk_getf (fs := [_, _, _, _, _, _, _]) gF_Bench_36 dX1_madeOf_1 (pc' := 4) rfl (by exact (g1)) rfl ?_
  rcases hk with rfl | rfl | rfl | rfl
  · refine gk_tableIn dX1_madeOf_4 (tgt := 36) (off := 32) (by decide) (by decide) (by decide +kernel) (by decide) ?_
    refine gk_aload1 dX1_madeOf_36 (pc' := 37) rfl ?_
    refine gk_iload2 dX1_madeOf_37 (pc' := 38) rfl ?_
    refine gk_i2l dX1_madeOf_38 (pc' := 39) rfl ?_
    refine gk_aload0 dX1_madeOf_39 (pc' := 40) rfl ?_
    refine gk_getf (fs := [_, _, _, _, _, _, _]) gF_Bench_54 dX1_madeOf_40 (pc' := 43) rfl (by exact (g1)) rfl ?_
    refine gk_i2l dX1_madeOf_43 (pc' := 44) rfl ?_
    refine gk_ladd dX1_madeOf_44 (pc' := 45) rfl ?_
    refine gk_cV1_1 mv_Picture_kept gw_501 dX1_madeOf_45 (pc' := 48) rfl (Nat.le_of_ble_eq_true rfl) (by exact (q1)) (sp_Picture_kept hp ?_)
    refine ⟨_, rfl, ?_⟩
    refine gk_iret dX1_madeOf_48 rfl (by have r1 := pu_rng v; have r2 := pu_rng a1; rw [Jvm.Kit.i64_add (by rw [Jvm.Kit.i64_of_i32, Jvm.Kit.i64_of_i32]; omega) (by rw [Jvm.Kit.i64_of_i32, Jvm.Kit.i64_of_i32]; omega), Jvm.Kit.i64_of_i32, Jvm.Kit.i64_of_i32]; exact hQ)
  · refine gk_tableIn dX1_madeOf_4 (tgt := 49) (off := 45) (by decide) (by decide) (by decide +kernel) (by decide) ?_
    refine gk_aload1 dX1_madeOf_49 (pc' := 50) rfl ?_
    refine gk_cV1_0 mv_Picture_least gw_531 dX1_madeOf_50 (pc' := 53) rfl (Nat.le_of_ble_eq_true rfl) (by exact (q1)) (sp_Picture_least hp ?_)
    refine ⟨_, rfl, ?_⟩
    refine gk_aload1 dX1_madeOf_53 (pc' := 54) rfl ?_
    refine gk_cV1_0 mv_Picture_greatest gw_532 dX1_madeOf_54 (pc' := 57) rfl (Nat.le_of_ble_eq_true rfl) (by exact (q1)) (sp_Picture_greatest hp ?_)
    refine ⟨_, rfl, ?_⟩
    refine gk_iadd dX1_madeOf_57 (pc' := 58) rfl ?_
    refine gk_iload2 dX1_madeOf_58 (pc' := 59) rfl ?_
    refine gk_isub dX1_madeOf_59 (pc' := 60) rfl ?_
    refine gk_iret dX1_madeOf_60 rfl hQ
  · refine gk_tableIn dX1_madeOf_4 (tgt := 61) (off := 57) (by decide) (by decide) (by decide +kernel) (by decide) ?_
    refine gk_iload2 dX1_madeOf_61 (pc' := 62) rfl ?_
    refine gk_aload0 dX1_madeOf_62 (pc' := 63) rfl ?_
    refine gk_getf (fs := [_, _, _, _, _, _, _]) gF_Bench_54 dX1_madeOf_63 (pc' := 66) rfl (by exact (g1)) rfl ?_
    refine gk_icmp_lt dX1_madeOf_66 (tgt := 76) (pc' := 69) (by decide) rfl (fun c66 => ?_) (fun c66 => ?_)
    · have e : mdF 2 a1 b1 k v = loK k := by unfold mdF; rw [if_neg (by decide), if_neg (by decide), if_pos rfl, if_pos c66]
      rw [e] at hQ
      refine gk_aload1 dX1_madeOf_76 (pc' := 77) rfl ?_
      refine gk_cV1_0 mv_Picture_least gw_531 dX1_madeOf_77 (pc' := 80) rfl (Nat.le_of_ble_eq_true rfl) (by exact (q1)) (sp_Picture_least hp ?_)
      refine ⟨_, rfl, ?_⟩
      refine gk_iret dX1_madeOf_80 rfl hQ
    · have e : mdF 2 a1 b1 k v = hiK k := by unfold mdF; rw [if_neg (by decide), if_neg (by decide), if_pos rfl, if_neg c66]
      rw [e] at hQ
      refine gk_aload1 dX1_madeOf_69 (pc' := 70) rfl ?_
      refine gk_cV1_0 mv_Picture_greatest gw_532 dX1_madeOf_70 (pc' := 73) rfl (Nat.le_of_ble_eq_true rfl) (by exact (q1)) (sp_Picture_greatest hp ?_)
      refine ⟨_, rfl, ?_⟩
      refine gk_goto dX1_madeOf_73 (tgt := 80) (by decide) ?_
      refine gk_iret dX1_madeOf_80 rfl hQ
  · have mb : -4000000000 ≤ v.toInt * a1.toInt ∧ v.toInt * a1.toInt ≤ 4000000000 := mulB5 hv (ha1 rfl)
    have hb := hb1 rfl
    have zm : (v.toInt64 * a1.toInt64).toInt = v.toInt * a1.toInt := by rw [Jvm.Kit.i64_mul (by rw [Jvm.Kit.i64_of_i32, Jvm.Kit.i64_of_i32]; omega) (by rw [Jvm.Kit.i64_of_i32, Jvm.Kit.i64_of_i32]; omega), Jvm.Kit.i64_of_i32, Jvm.Kit.i64_of_i32]
    refine gk_tableIn dX1_madeOf_4 (tgt := 81) (off := 77) (by decide) (by decide) (by decide +kernel) (by decide) ?_
    refine gk_aload1 dX1_madeOf_81 (pc' := 82) rfl ?_
    refine gk_iload2 dX1_madeOf_82 (pc' := 83) rfl ?_
    refine gk_i2l dX1_madeOf_83 (pc' := 84) rfl ?_
    refine gk_aload0 dX1_madeOf_84 (pc' := 85) rfl ?_
    refine gk_getf (fs := [_, _, _, _, _, _, _]) gF_Bench_54 dX1_madeOf_85 (pc' := 88) rfl (by exact (g1)) rfl ?_
    refine gk_i2l dX1_madeOf_88 (pc' := 89) rfl ?_
    refine gk_lmul dX1_madeOf_89 (pc' := 90) rfl ?_
    refine gk_aload0 dX1_madeOf_90 (pc' := 91) rfl ?_
    refine gk_getf (fs := [_, _, _, _, _, _, _]) gF_Bench_99 dX1_madeOf_91 (pc' := 94) rfl (by exact (g1)) rfl ?_
    refine gk_i2l dX1_madeOf_94 (pc' := 95) rfl ?_
    refine gk_cSN1_2 mz_Room_nearest (host := "DarkRoom") (by decide +kernel) dX1_madeOf_95 (pc' := 98) rfl (Nat.le_of_ble_eq_true rfl) (sp_Room_nearest (by rw [Jvm.Kit.i64_of_i32]; omega) (by rw [Jvm.Kit.i64_of_i32]; omega) (by rw [zm]; omega) (by rw [zm]; omega) (fun r hr => ?_))
    refine ⟨_, rfl, ?_⟩
    refine gk_cV1_1 mv_Picture_kept gw_501 dX1_madeOf_98 (pc' := 101) rfl (Nat.le_of_ble_eq_true rfl) (by exact (q1)) (sp_Picture_kept hp ?_)
    refine ⟨_, rfl, ?_⟩
    rw [hr, zm, Jvm.Kit.i64_of_i32]
    refine gk_iret dX1_madeOf_101 rfl hQ
end BnA
