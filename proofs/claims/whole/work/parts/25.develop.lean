/-! ===== Bench: develop ===== -/
def ff1 (F0 : Nat) (fk fa fb : Nat → Int32) (i : Nat) : Option Nat := if fk i = 7 then some (F0 + 2 * (fb i).toInt.toNat) else if fk i = 6 ∨ fk i = 8 then some (F0 + 2 * (fa i).toInt.toNat) else none
def ff2 (F0 : Nat) (fk fb : Nat → Int32) (i : Nat) : Option Nat := if fk i = 6 ∨ fk i = 8 then some (F0 + 2 * (fb i).toInt.toNat) else none
/-- N Filter objects from F0 on -/
def isFT (X : gX) (h : gk_H) (F0 N : Nat) (fk fa fb : Nat → Int32) (fh : Nat → Nat) (fw : Nat → Nat → Int32) : Prop := ∀ i, i < N → isFl X h (F0 + 2 * i) (fk i) (fa i) (fb i) (fh i) (ff1 F0 fk fa fb i) (ff2 F0 fk fb i) (fw i)
/-- a FILTER as it may be told -/
def wfF (fk fa fb : Nat → Int32) (fh : Nat → Nat) (fw : Nat → Nat → Int32) (i : Nat) : Prop := 1 ≤ fh i ∧ fh i ≤ 4 ∧ ((fk i = 0 ∨ fk i = 1 ∨ fk i = 2) ∨ (fk i = 3 ∧ (-100000 ≤ (fa i).toInt ∧ (fa i).toInt ≤ 100000) ∧ 1 ≤ (fb i).toInt ∧ (fb i).toInt ≤ 1000) ∨ (fk i = 4 ∧ 1 ≤ (fa i).toInt ∧ (fa i).toInt ≤ 1000 ∧ ∀ j, j < 9 → -1000 ≤ (fw i j).toInt ∧ (fw i j).toInt ≤ 1000) ∨ (fk i = 5 ∧ 0 ≤ (fa i).toInt ∧ (fa i).toInt ≤ 8) ∨ ((fk i = 6 ∨ fk i = 8) ∧ (fa i).toInt.toNat < i ∧ (fb i).toInt.toNat < i ∧ fh (fa i).toInt.toNat < fh i ∧ fh (fb i).toInt.toNat < fh i) ∨ (fk i = 7 ∧ (0 ≤ (fa i).toInt ∧ (fa i).toInt < 6) ∧ (fb i).toInt.toNat < i ∧ fh (fb i).toInt.toNat < fh i))
/-- what develop may change -/
def dvM (a dp o' c : Nat) : Prop := c = o' ∨ c = o' + 1 ∨ c = a + 2 ∨ (a + 3 + 2 * dp ≤ c ∧ c < a + 11)
def isBt (X : gX) (h : gk_H) (a : Nat) : Prop := ∀ j, j < 4 → ∃ k w t p, isPic X h (a + 3 + 2 * j) k w t p
/-- the masks' row at ma, and the masks -/
def isMs (X : gX) (h : gk_H) (ma : Nat) (md : Nat → Nat) (R : Nat → Nat → Nat) : Prop := (∃ f : Nat → Option Nat, h.1 ma = some (cR X 3 6 f) ∧ ∀ m, m < 6 → f m = some (md m)) ∧ ∀ m, m < 6 → isMk X h (md m) (R m)
theorem isMs.kept {X : gX} {h h' : gk_H} {ma : Nat} {md : Nat → Nat} {R : Nat → Nat → Nat} (hm : isMs X h ma md R) (h0 : h'.1 ma = h.1 ma) (h1 : ∀ m, m < 6 → h'.1 (md m) = h.1 (md m) ∧ h'.1 (md m + 1) = h.1 (md m + 1)) : isMs X h' ma md R := by
  obtain ⟨⟨f, e1, e2⟩, e3⟩ := hm
  exact ⟨⟨f, h0.trans e1, e2⟩, fun m hmm => (e3 m hmm).kept (h1 m hmm).1 (h1 m hmm).2⟩
theorem isFT.kept {X : gX} {h h' : gk_H} {F0 N : Nat} {fk fa fb : Nat → Int32} {fh : Nat → Nat} {fw : Nat → Nat → Int32} (hT : isFT X h F0 N fk fa fb fh fw) (h0 : ∀ c, F0 ≤ c → h'.1 c = h.1 c) : isFT X h' F0 N fk fa fb fh fw := fun i hi => (hT i hi).kept (h0 _ (by omega)) (h0 _ (by omega))
theorem isBt.upd {X : gX} {h h' : gk_H} {a : Nat} {A : Nat → Prop} (hb : isBt X h a) (hf : fr A h h') (hx : ∀ j, j < 4 → (¬ A (a + 3 + 2 * j) ∧ ¬ A (a + 3 + 2 * j + 1)) ∨ ∃ k w t p, isPic X h' (a + 3 + 2 * j) k w t p) : isBt X h' a := fun j hj => by
  rcases hx j hj with ⟨z1, z2⟩ | z
  · obtain ⟨k', w', t', p', hb'⟩ := hb j hj
    exact ⟨k', w', t', p', hb'.fr hf z1 z2⟩
  · exact z
section DvA
variable {X : gX} {d : Nat} {a : Nat} {k : Int32} {w t : Nat} {F0 N ma : Nat} {fk fa fb : Nat → Int32} {fh : Nat → Nat} {fw : Nat → Nat → Int32} {md : Nat → Nat} {R : Nat → Nat → Nat} {e : Int32}
set_option maxHeartbeats 4000000 in
theorem sp_Bench_develop (hwf : ∀ i, i < N → wfF fk fa fb fh fw i) (hwfR : ∀ i, fk i = 5 → (fa i).toInt.toNat < 9) (hF0 : a + 11 ≤ F0) (h1 : 1 ≤ w) (h2 : 1 ≤ t) : ∀ (n L f o o' dp : Nat) (p : Nat → Int32) (h : gk_H) (Q : Option Value → gk_H → Prop) (gn : Nat → Int32) (k0 : Int32) (w0 t0 : Nat) (p0 : Nat → Int32), n ≤ L → f < N → fh f ≤ n → dp + n ≤ 4 →
    (∀ c, (c = o ∨ c = o + 1) → ¬ dvM a dp o' c ∧ c < F0) → (o' + 1 < a ∨ a + 11 ≤ o' ∨ (a + 3 ≤ o' ∧ o' + 1 < a + 3 + 2 * dp ∧ (o' - a) % 2 = 1)) → o' + 1 < F0 → (o + 1 < a ∨ a + 11 ≤ o ∨ (a + 3 ≤ o ∧ o + 1 < a + 3 + 2 * dp ∧ (o - a) % 2 = 1)) → ¬ dvM a dp o' ma → (∀ m, m < 6 → ¬ dvM a dp o' (md m) ∧ ¬ dvM a dp o' (md m + 1)) →
    isBn X h a gn → isBt X h a → isPic X h o k w t p → isPic X h o' k0 w0 t0 p0 → isFT X h F0 N fk fa fb fh fw → isMs X h ma md R → (∀ i, i < w * t → inK k (p i)) →
    (∀ h' gn', isBn X h' a gn' → isBt X h' a → isPic X h' o' k w t (dv fk fa fb fw R k w t e n f p) → fr (dvM a dp o') h h' → Q none h') → Gm (kx X) mt_Bench_develop (L + 5) (0, 0) [.ref a, .ref (F0 + 2 * f), .ref o, .ref o', .ref ma, .int e, .int (nI dp)] h Q := by
  intro n
  induction n with
  | zero =>
    intro L f o o' dp p h Q gn k0 w0 t0 p0 hL hf hfh
    have := (hwf f hf).1
    omega
  | succ n ih =>
    intro L f o o' dp p h Q gn k0 w0 t0 p0 hL hf hfh hdp ho ho2 ho3 ho4 hma hms hs hbt hp hg hT hM hr hQ
    obtain ⟨L, rfl⟩ : ∃ L', L = L' + 1 := ⟨L - 1, by omega⟩
    have hoo := (ho o (Or.inl rfl)).1
    have hoo1 := (ho (o + 1) (Or.inr rfl)).1
    have hoF := (ho o (Or.inl rfl)).2
    have w1 := hwf f hf
    have q1 := hp.o
    have q2 := hg.o
    have s1 := hs.1
    have t1 := (hT f hf).1
    have n1 : o ≠ o' ∧ o ≠ o' + 1 ∧ o' ≠ o + 1 := by unfold dvM at hoo hoo1; omega
    obtain ⟨fbt, bt1, bt2⟩ := hs.2.1
    refine Gm.enter (L := [some (.ref a), some (.ref (F0 + 2 * f)), some (.ref o), some (.ref o'), some (.ref ma), some (.int e), some (.int (nI dp)), none]) (by decide) (fun _ => trivial) (Nat.le_of_ble_eq_true rfl) rfl ?_
    refine gk_aload1 dX1_develop_0 (pc' := 1) rfl ?_
    refine gk_ifnull dX1_develop_1 (pc' := 4) rfl ?_
    refine gk_iload6 dX1_develop_4 (pc' := 6) rfl ?_
    refine gk_if_lt dX1_develop_6 (tgt := 15) (pc' := 9) (by decide) rfl (fun c6 => absurd c6 (nI_pos (by omega))) (fun c6 => ?_)
    refine gk_iload6 dX1_develop_9 (pc' := 11) rfl ?_
    refine gk_iconst (v := 4) dX1_develop_11 (pc' := 12) rfl (by decide) ?_
    refine gk_icmp_lt dX1_develop_12 (tgt := 16) (pc' := 15) (by decide) rfl (fun c12 => ?_) (fun c12 => absurd (nI_lt (b := 4) (by omega) (by decide)) c12)
    refine gk_aload0 dX1_develop_16 (pc' := 17) rfl ?_
    refine gk_getf (fs := [_, _]) gF_Bench_11 dX1_develop_17 (pc' := 20) rfl (by exact (s1)) rfl ?_
    refine gk_iload6 dX1_develop_20 (pc' := 22) rfl ?_
    refine gk_aald (t0 := 2) rfl dX1_develop_22 (pc' := 23) rfl (by exact (bt1)) (vp_in_nI (show dp < 4 by omega) (by decide)) ?_
    rw [nI_clamp (by omega), bt2 dp (by omega), show va_rf (some (a + 3 + 2 * dp)) = Value.ref (a + 3 + 2 * dp) from rfl]
    refine gk_astore7 dX1_develop_23 (pc' := 25) rfl (by decide) rfl ?_
    refine gk_aload3 dX1_develop_25 (pc' := 26) rfl ?_
    refine gk_aload2 dX1_develop_26 (pc' := 27) rfl ?_
    refine gk_getf (fs := [_, _, _, _]) gF_Bench_22 dX1_develop_27 (pc' := 30) rfl (by exact (q1)) rfl ?_
    refine gk_aload2 dX1_develop_30 (pc' := 31) rfl ?_
    refine gk_getf (fs := [_, _, _, _]) gF_Bench_26 dX1_develop_31 (pc' := 34) rfl (by exact (q1)) rfl ?_
    refine gk_aload2 dX1_develop_34 (pc' := 35) rfl ?_
    refine gk_getf (fs := [_, _, _, _]) gF_Bench_29 dX1_develop_35 (pc' := 38) rfl (by exact (q1)) rfl ?_
    refine gk_cV0_3 mv_Picture_shape gw_479 dX1_develop_38 (pc' := 41) rfl (Nat.le_of_ble_eq_true rfl) (by exact (q2)) (sp_Picture_shape hg hp.1 hp.2.1 (fun h2' g2 r1 r2 => ?_))
    refine ⟨rfl, ?_⟩
    have hp2 := hp.fr r2 (by omega) (by omega)
    have hs2 := hs.kept (r2.2 _ (by omega)) (r2.2 _ (by omega)) (r2.2 _ (by omega))
    have hT2 := hT.kept (fun c hc => r2.2 c (by omega))
    have hM2 := hM.kept (r2.2 _ (fun z => hma (Or.inl z))) (fun m hm => ⟨r2.2 _ (fun z => (hms m hm).1 (Or.inl z)), r2.2 _ (fun z => (hms m hm).2 (Or.inl z))⟩)
    have hbt2 : isBt X h2' a := fun j hj => by
      obtain ⟨k', w', t', p', hb⟩ := hbt j hj
      by_cases z : o' = a + 3 + 2 * j
      · exact ⟨k, w, t, g2, by rw [← z]; exact r1⟩
      · exact ⟨k', w', t', p', hb.fr r2 (by omega) (by omega)⟩
    have t2 := (hT2 f hf).1
    have fl2 := hT2 f hf
    clear hs hT hM hbt hg q2 s1 t1
    refine gk_aload1 dX1_develop_41 (pc' := 42) rfl ?_
    refine gk_getf (fs := [_, _, _, _, _, _, _]) gF_Bench_36 dX1_develop_42 (pc' := 45) rfl (by exact (t2)) rfl ?_
    obtain ⟨-, -, hk⟩ := w1
    have oF : ∀ c, F0 ≤ c → ¬ dvM a dp o' c := fun c hc => by unfold dvM; omega
    have oa : ¬ dvM a dp o' a ∧ ¬ dvM a dp o' (a + 1) := by unfold dvM; omega
    have sub1 : ∀ c, dvM a (dp + 1) o' c → dvM a dp o' c := fun c hc => by unfold dvM at *; omega
    have sub2 : ∀ c, dvM a (dp + 1) (a + 3 + 2 * dp) c → dvM a dp o' c := fun c hc => by unfold dvM at *; omega
    have fin1 : ∀ h3 q, isPic X h3 o' k w t q → fr (fun c => c = o' + 1 ∨ c = a + 2) h2' h3 → isBt X h3 a := fun h3 q z1 z2 => hbt2.upd z2 (fun j hj => by
      by_cases z : o' = a + 3 + 2 * j
      · exact Or.inr ⟨k, w, t, q, by rw [← z]; exact z1⟩
      · exact Or.inl ⟨by omega, by omega⟩)
    have each : (fk f = 0 ∨ fk f = 1 ∨ fk f = 2 ∨ fk f = 3) → (fk f = 3 → -100000 ≤ (fa f).toInt ∧ (fa f).toInt ≤ 100000) → (fk f = 3 → 1 ≤ (fb f).toInt ∧ (fb f).toInt ≤ 1000) → G (kx X) mt_Bench_develop (L + 1 + 5) (0, 0) 45 [some (.ref a), some (.ref (F0 + 2 * f)), some (.ref o), some (.ref o'), some (.ref ma), some (.int e), some (.int (nI dp)), some (.ref (a + 3 + 2 * dp))] [.int (fk f)] h2' Q := by
      intro hk0 hk1 hk2
      have hlt : (fk f).toInt < 4 := by rcases hk0 with z | z | z | z <;> rw [z] <;> decide
      have edv : dv fk fa fb fw R k w t e (n + 1) f p = fun i => mdF (fk f) (fa f) (fb f) k (p i) := by
        have z4 : ¬ (fk f = 4 ∨ fk f = 5) := by rcases hk0 with z | z | z | z <;> rw [z] <;> decide
        have z6 : ¬ fk f = 6 := by rcases hk0 with z | z | z | z <;> rw [z] <;> decide
        have z7 : ¬ fk f = 7 := by rcases hk0 with z | z | z | z <;> rw [z] <;> decide
        have z8 : ¬ fk f = 8 := by rcases hk0 with z | z | z | z <;> rw [z] <;> decide
        rw [dv, if_neg z4, if_neg z6, if_neg z7, if_neg z8]
      rw [edv] at hQ
      refine gk_tableOut dX1_develop_45 (tgt := 222) (Or.inl hlt) (by decide) ?_
      refine gk_aload1 dX1_develop_222 (pc' := 223) rfl ?_
      refine gk_aload2 dX1_develop_223 (pc' := 224) rfl ?_
      refine gk_aload3 dX1_develop_224 (pc' := 225) rfl ?_
      refine gk_cS0_3 mz_Bench_developEach gw_525 dX1_develop_225 (pc' := 228) rfl (Nat.le_of_ble_eq_true rfl) (sp_Bench_developEach n1 (by omega) hp2 r1 fl2 hk0 (fun i hi => inK_r (hr i hi)) hk1 hk2 (fun h3 g1 g2 => ?_))
      refine ⟨rfl, ?_⟩
      refine gk_vret dX1_develop_228 rfl (hQ h3 gn (hs2.kept (g2.2 _ (by omega)) (g2.2 _ (by omega)) (g2.2 _ (by omega))) (fin1 h3 _ g1 (g2.mono (fun _ z => Or.inl z))) g1 (r2.trans g2 (fun _ z => Or.inl z) (fun _ z => Or.inr (Or.inl z))))
    have around : ((fk f = 4 ∧ 1 ≤ (fa f).toInt ∧ (fa f).toInt ≤ 1000 ∧ ∀ i, i < 9 → -1000 ≤ (fw f i).toInt ∧ (fw f i).toInt ≤ 1000) ∨ (fk f = 5 ∧ 0 ≤ (fa f).toInt ∧ (fa f).toInt ≤ 8)) → G (kx X) mt_Bench_develop (L + 1 + 5) (0, 0) 80 [some (.ref a), some (.ref (F0 + 2 * f)), some (.ref o), some (.ref o'), some (.ref ma), some (.int e), some (.int (nI dp)), some (.ref (a + 3 + 2 * dp))] [] h2' Q := by
      intro hka
      have edv : dv fk fa fb fw R k w t e (n + 1) f p = arF (fk f) (fa f) (fw f) k w t p e := by
        rw [dv, if_pos (hka.elim (fun z => Or.inl z.1) (fun z => Or.inr z.1))]
      rw [edv] at hQ
      have sa := hs2.1
      refine gk_aload0 dX1_develop_80 (pc' := 81) rfl ?_
      refine gk_aload1 dX1_develop_81 (pc' := 82) rfl ?_
      refine gk_aload2 dX1_develop_82 (pc' := 83) rfl ?_
      refine gk_aload3 dX1_develop_83 (pc' := 84) rfl ?_
      refine gk_iload5 dX1_develop_84 (pc' := 86) rfl ?_
      refine gk_cV0_4 mv_Bench_developAround gw_480 dX1_develop_86 (pc' := 89) rfl (Nat.le_of_ble_eq_true rfl) (by exact (sa)) (sp_Bench_developAround hs2 n1 (by omega) (by unfold dvM at hoo hoo1; omega) hp2 r1 fl2 hka h1 hr (fun h3 gn3 s3 g1 g2 => ?_))
      refine ⟨rfl, ?_⟩
      refine gk_goto dX1_develop_89 (tgt := 228) (by decide) ?_
      refine gk_vret dX1_develop_228 rfl (hQ h3 gn3 s3 (fin1 h3 _ g1 g2) g1 (r2.trans g2 (fun _ z => Or.inl z) (fun _ z => z.elim (fun z => Or.inr (Or.inl z)) (fun z => Or.inr (Or.inr (Or.inl z))))))
    rcases hk with hk | hk | hk | hk | hk | hk
    · exact each (by rcases hk with z | z | z <;> simp [z]) (fun z => by rcases hk with y | y | y <;> rw [y] at z <;> exact absurd z (by decide)) (fun z => by rcases hk with y | y | y <;> rw [y] at z <;> exact absurd z (by decide))
    · exact each (by simp [hk.1]) (fun _ => hk.2.1) (fun _ => hk.2.2)
    · rw [hk.1]
      refine gk_tableIn dX1_develop_45 (tgt := 80) (off := 35) (by decide) (by decide) (by decide +kernel) (by decide) ?_
      exact around (Or.inl hk)
    · rw [hk.1]
      refine gk_tableIn dX1_develop_45 (tgt := 80) (off := 35) (by decide) (by decide) (by decide +kernel) (by decide) ?_
      exact around (Or.inr hk)
    · obtain ⟨hk68, hA, hB, hhA, hhB⟩ := hk
      obtain ⟨A, eA⟩ : ∃ A, (fa f).toInt.toNat = A := ⟨_, rfl⟩
      obtain ⟨B, eB⟩ : ∃ B, (fb f).toInt.toNat = B := ⟨_, rfl⟩
      rw [eA] at hA hhA
      rw [eB] at hB hhB
      have n7 : ¬ fk f = 7 := by rcases hk68 with z | z <;> rw [z] <;> decide
      have n45 : ¬ (fk f = 4 ∨ fk f = 5) := by rcases hk68 with z | z <;> rw [z] <;> decide
      have e1 : ff1 F0 fk fa fb f = some (F0 + 2 * A) := by unfold ff1; rw [if_neg n7, if_pos hk68, eA]
      have e2 : ff2 F0 fk fb f = some (F0 + 2 * B) := by unfold ff2; rw [if_pos hk68, eB]
      have fref : ∀ h', isFT X h' F0 N fk fa fb fh fw → h'.1 (F0 + 2 * f) = some (.inr (2, [.int (fk f), .int (fa f), .int (fb f), .int (nI (fh f)), .ref (F0 + 2 * A), .ref (F0 + 2 * B), .ref (F0 + 2 * f + 1)])) := fun h' hz => by
        have := (hz f hf).1
        rw [e1, e2] at this
        exact this
      have t3 := fref _ hT2
      have sa := hs2.1
      obtain ⟨fbt, bt1, bt2⟩ := hs2.2.1
      obtain ⟨kb, wb, tb, pb, hpb⟩ := hbt2 dp (by omega)
      have rfb : ∀ x, va_rf (some x) = Value.ref x := fun _ => rfl
      rcases hk68 with hk6 | hk8
      · have edv : dv fk fa fb fw R k w t e (n + 1) f p = dv fk fa fb fw R k w t e n B (dv fk fa fb fw R k w t e n A p) := by rw [dv, if_neg n45, if_pos hk6, eA, eB]
        rw [edv] at hQ
        rw [hk6]
        refine gk_tableIn dX1_develop_45 (tgt := 92) (off := 47) (by decide) (by decide) (by decide +kernel) (by decide) ?_
        refine gk_aload0 dX1_develop_92 (pc' := 93) rfl ?_
        refine gk_aload1 dX1_develop_93 (pc' := 94) rfl ?_
        refine gk_getf (fs := [_, _, _, _, _, _, _]) gF_Bench_43 dX1_develop_94 (pc' := 97) rfl (by exact (t3)) rfl ?_
        refine gk_aload2 dX1_develop_97 (pc' := 98) rfl ?_
        refine gk_aload7 dX1_develop_98 (pc' := 100) rfl ?_
        refine gk_aload4 dX1_develop_100 (pc' := 102) rfl ?_
        refine gk_iload5 dX1_develop_102 (pc' := 104) rfl ?_
        refine gk_iload6 dX1_develop_104 (pc' := 106) rfl ?_
        refine gk_iconst (v := 1) dX1_develop_106 (pc' := 107) rfl (by decide) ?_
        refine gk_iadd dX1_develop_107 (pc' := 108) rfl ?_
        rw [nI_1]
        refine gk_cS0_7 mz_Bench_develop gw_508 dX1_develop_108 (pc' := 111) rfl (Nat.le_of_ble_eq_true rfl) (ih L A o (a + 3 + 2 * dp) (dp + 1) p h2' _ gn kb wb tb pb (by omega) (by omega) (by omega) (by omega) (fun c hc => ⟨fun z => (ho c hc).1 (sub2 c z), (ho c hc).2⟩) (by omega) (by omega) (by omega) (fun z => hma (sub2 _ z)) (fun m hm => ⟨fun z => (hms m hm).1 (sub2 _ z), fun z => (hms m hm).2 (sub2 _ z)⟩) hs2 hbt2 hp2 hpb hT2 hM2 hr (fun h3 gn3 s3 b3 g3 f3 => ?_))
        refine ⟨rfl, ?_⟩
        have hT3 := hT2.kept (fun c hc => f3.2 c (fun z => oF c hc (sub2 c z)))
        have hM3 := hM2.kept (f3.2 _ (fun z => hma (sub2 _ z))) (fun m hm => ⟨f3.2 _ (fun z => (hms m hm).1 (sub2 _ z)), f3.2 _ (fun z => (hms m hm).2 (sub2 _ z))⟩)
        have t4 := fref _ hT3
        have sa3 := s3.1
        obtain ⟨fbt3, bt31, bt32⟩ := s3.2.1
        have r3 := r1.fr f3 (by unfold dvM; omega) (by unfold dvM; omega)
        refine gk_aload0 dX1_develop_111 (pc' := 112) rfl ?_
        refine gk_aload1 dX1_develop_112 (pc' := 113) rfl ?_
        refine gk_getf (fs := [_, _, _, _, _, _, _]) gF_Bench_51 dX1_develop_113 (pc' := 116) rfl (by exact (t4)) rfl ?_
        refine gk_aload7 dX1_develop_116 (pc' := 118) rfl ?_
        refine gk_aload3 dX1_develop_118 (pc' := 119) rfl ?_
        refine gk_aload4 dX1_develop_119 (pc' := 121) rfl ?_
        refine gk_iload5 dX1_develop_121 (pc' := 123) rfl ?_
        refine gk_iload6 dX1_develop_123 (pc' := 125) rfl ?_
        refine gk_iconst (v := 1) dX1_develop_125 (pc' := 126) rfl (by decide) ?_
        refine gk_iadd dX1_develop_126 (pc' := 127) rfl ?_
        rw [nI_1]
        refine gk_cS0_7 mz_Bench_develop gw_508 dX1_develop_127 (pc' := 130) rfl (Nat.le_of_ble_eq_true rfl) (ih L B (a + 3 + 2 * dp) o' (dp + 1) _ h3 _ gn3 k w t g2 (by omega) (by omega) (by omega) (by omega) (fun c hc => ⟨by unfold dvM; omega, by omega⟩) (by omega) (by omega) (by omega) (fun z => hma (sub1 _ z)) (fun m hm => ⟨fun z => (hms m hm).1 (sub1 _ z), fun z => (hms m hm).2 (sub1 _ z)⟩) s3 b3 g3 r3 hT3 hM3 (inK_dv h1 h2 hwfR n A p hr) (fun h4 gn4 s4 b4 g4 f4 => ?_))
        refine ⟨rfl, ?_⟩
        refine gk_goto dX1_develop_130 (tgt := 228) (by decide) ?_
        refine gk_vret dX1_develop_228 rfl (hQ h4 gn4 s4 b4 g4 ((r2.trans f3 (C := dvM a dp o') (fun _ z => Or.inl z) sub2).trans f4 (fun _ z => z) sub1))
      · have n6 : ¬ fk f = 6 := by rw [hk8]; decide
        have edv : dv fk fa fb fw R k w t e (n + 1) f p = haF (dv fk fa fb fw R k w t e n A p) (dv fk fa fb fw R k w t e n B p) := by rw [dv, if_neg n45, if_neg n6, if_neg n7, if_pos hk8, eA, eB]
        rw [edv] at hQ
        rw [hk8]
        refine gk_tableIn dX1_develop_45 (tgt := 176) (off := 131) (by decide) (by decide) (by decide +kernel) (by decide) ?_
        refine gk_aload0 dX1_develop_176 (pc' := 177) rfl ?_
        refine gk_aload1 dX1_develop_177 (pc' := 178) rfl ?_
        refine gk_getf (fs := [_, _, _, _, _, _, _]) gF_Bench_43 dX1_develop_178 (pc' := 181) rfl (by exact (t3)) rfl ?_
        refine gk_aload2 dX1_develop_181 (pc' := 182) rfl ?_
        refine gk_aload3 dX1_develop_182 (pc' := 183) rfl ?_
        refine gk_aload4 dX1_develop_183 (pc' := 185) rfl ?_
        refine gk_iload5 dX1_develop_185 (pc' := 187) rfl ?_
        refine gk_iload6 dX1_develop_187 (pc' := 189) rfl ?_
        refine gk_iconst (v := 1) dX1_develop_189 (pc' := 190) rfl (by decide) ?_
        refine gk_iadd dX1_develop_190 (pc' := 191) rfl ?_
        rw [nI_1]
        refine gk_cS0_7 mz_Bench_develop gw_508 dX1_develop_191 (pc' := 194) rfl (Nat.le_of_ble_eq_true rfl) (ih L A o o' (dp + 1) p h2' _ gn k w t g2 (by omega) (by omega) (by omega) (by omega) (fun c hc => ⟨fun z => (ho c hc).1 (sub1 c z), (ho c hc).2⟩) (by omega) (by omega) (by omega) (fun z => hma (sub1 _ z)) (fun m hm => ⟨fun z => (hms m hm).1 (sub1 _ z), fun z => (hms m hm).2 (sub1 _ z)⟩) hs2 hbt2 hp2 r1 hT2 hM2 hr (fun h3 gn3 s3 b3 g3 f3 => ?_))
        refine ⟨rfl, ?_⟩
        have hT3 := hT2.kept (fun c hc => f3.2 c (fun z => oF c hc (sub1 c z)))
        have hM3 := hM2.kept (f3.2 _ (fun z => hma (sub1 _ z))) (fun m hm => ⟨f3.2 _ (fun z => (hms m hm).1 (sub1 _ z)), f3.2 _ (fun z => (hms m hm).2 (sub1 _ z))⟩)
        have t4 := fref _ hT3
        have sa3 := s3.1
        obtain ⟨fbt3, bt31, bt32⟩ := s3.2.1
        obtain ⟨kc, wc, tc, pc3, hpc⟩ := b3 dp (by omega)
        have hp3 := hp2.fr f3 (fun z => hoo (sub1 _ z)) (fun z => hoo1 (sub1 _ z))
        refine gk_aload0 dX1_develop_194 (pc' := 195) rfl ?_
        refine gk_aload1 dX1_develop_195 (pc' := 196) rfl ?_
        refine gk_getf (fs := [_, _, _, _, _, _, _]) gF_Bench_51 dX1_develop_196 (pc' := 199) rfl (by exact (t4)) rfl ?_
        refine gk_aload2 dX1_develop_199 (pc' := 200) rfl ?_
        refine gk_aload7 dX1_develop_200 (pc' := 202) rfl ?_
        refine gk_aload4 dX1_develop_202 (pc' := 204) rfl ?_
        refine gk_iload5 dX1_develop_204 (pc' := 206) rfl ?_
        refine gk_iload6 dX1_develop_206 (pc' := 208) rfl ?_
        refine gk_iconst (v := 1) dX1_develop_208 (pc' := 209) rfl (by decide) ?_
        refine gk_iadd dX1_develop_209 (pc' := 210) rfl ?_
        rw [nI_1]
        refine gk_cS0_7 mz_Bench_develop gw_508 dX1_develop_210 (pc' := 213) rfl (Nat.le_of_ble_eq_true rfl) (ih L B o (a + 3 + 2 * dp) (dp + 1) p h3 _ gn3 kc wc tc pc3 (by omega) (by omega) (by omega) (by omega) (fun c hc => ⟨fun z => (ho c hc).1 (sub2 c z), (ho c hc).2⟩) (by omega) (by omega) (by omega) (fun z => hma (sub2 _ z)) (fun m hm => ⟨fun z => (hms m hm).1 (sub2 _ z), fun z => (hms m hm).2 (sub2 _ z)⟩) s3 b3 hp3 hpc hT3 hM3 hr (fun h4 gn4 s4 b4 g4 f4 => ?_))
        refine ⟨rfl, ?_⟩
        have sa4 := s4.1
        obtain ⟨fbt4, bt41, bt42⟩ := s4.2.1
        have g5 := g3.fr f4 (by unfold dvM; omega) (by unfold dvM; omega)
        refine gk_aload7 dX1_develop_213 (pc' := 215) rfl ?_
        refine gk_aload3 dX1_develop_215 (pc' := 216) rfl ?_
        refine gk_cS0_2 mz_Bench_halve gw_521 dX1_develop_216 (pc' := 219) rfl (Nat.le_of_ble_eq_true rfl) (sp_Bench_halve (by omega) g4 g5 (fun h5 g6 f5 => ?_))
        refine ⟨rfl, ?_⟩
        refine gk_goto dX1_develop_219 (tgt := 228) (by decide) ?_
        refine gk_vret dX1_develop_228 rfl (hQ h5 gn4 (s4.kept (f5.2 _ (by omega)) (f5.2 _ (by omega)) (f5.2 _ (by omega))) (b4.upd f5 (fun j hj => ?_)) g6 (((r2.trans f3 (C := dvM a dp o') (fun _ z => Or.inl z) sub1).trans f4 (C := dvM a dp o') (fun _ z => z) sub2).trans f5 (fun _ z => z) (fun _ z => Or.inr (Or.inl z))))
        by_cases z : o' = a + 3 + 2 * j
        · exact Or.inr ⟨k, w, t, _, by rw [← z]; exact g6⟩
        · exact Or.inl ⟨by omega, by omega⟩
    · obtain ⟨hk7, hm6, hB, hhB⟩ := hk
      obtain ⟨B, eB⟩ : ∃ B, (fb f).toInt.toNat = B := ⟨_, rfl⟩
      rw [eB] at hB hhB
      obtain ⟨m, em, rm⟩ := pu_nn hm6.1
      have zm : (fa f).toInt.toNat = m := by omega
      have n6 : ¬ fk f = 6 := by rw [hk7]; decide
      have n45 : ¬ (fk f = 4 ∨ fk f = 5) := by rw [hk7]; decide
      have e1 : ff1 F0 fk fa fb f = some (F0 + 2 * B) := by unfold ff1; rw [if_pos hk7, eB]
      have e2 : ff2 F0 fk fb f = none := by unfold ff2; rw [if_neg (by rw [hk7]; decide)]
      have fref : ∀ h', isFT X h' F0 N fk fa fb fh fw → h'.1 (F0 + 2 * f) = some (.inr (2, [.int (fk f), .int (nI m), .int (fb f), .int (nI (fh f)), .ref (F0 + 2 * B), .null, .ref (F0 + 2 * f + 1)])) := fun h' hz => by
        have := (hz f hf).1
        rw [e1, e2, rm] at this
        exact this
      have t3 := fref _ hT2
      have sa := hs2.1
      have rfb : ∀ x, va_rf (some x) = Value.ref x := fun _ => rfl
      have edv : dv fk fa fb fw R k w t e (n + 1) f p = whF (R m) w (dv fk fa fb fw R k w t e n B p) p := by rw [dv, if_neg n45, if_neg n6, if_pos hk7, eB, zm]
      rw [edv] at hQ
      rw [hk7]
      refine gk_tableIn dX1_develop_45 (tgt := 133) (off := 88) (by decide) (by decide) (by decide +kernel) (by decide) ?_
      refine gk_aload0 dX1_develop_133 (pc' := 134) rfl ?_
      refine gk_aload1 dX1_develop_134 (pc' := 135) rfl ?_
      refine gk_getf (fs := [_, _, _, _, _, _, _]) gF_Bench_43 dX1_develop_135 (pc' := 138) rfl (by exact (t3)) rfl ?_
      refine gk_aload2 dX1_develop_138 (pc' := 139) rfl ?_
      refine gk_aload3 dX1_develop_139 (pc' := 140) rfl ?_
      refine gk_aload4 dX1_develop_140 (pc' := 142) rfl ?_
      refine gk_iload5 dX1_develop_142 (pc' := 144) rfl ?_
      refine gk_iload6 dX1_develop_144 (pc' := 146) rfl ?_
      refine gk_iconst (v := 1) dX1_develop_146 (pc' := 147) rfl (by decide) ?_
      refine gk_iadd dX1_develop_147 (pc' := 148) rfl ?_
      rw [nI_1]
      refine gk_cS0_7 mz_Bench_develop gw_508 dX1_develop_148 (pc' := 151) rfl (Nat.le_of_ble_eq_true rfl) (ih L B o o' (dp + 1) p h2' _ gn k w t g2 (by omega) (by omega) (by omega) (by omega) (fun c hc => ⟨fun z => (ho c hc).1 (sub1 c z), (ho c hc).2⟩) (by omega) (by omega) (by omega) (fun z => hma (sub1 _ z)) (fun m hm => ⟨fun z => (hms m hm).1 (sub1 _ z), fun z => (hms m hm).2 (sub1 _ z)⟩) hs2 hbt2 hp2 r1 hT2 hM2 hr (fun h3 gn3 s3 b3 g3 f3 => ?_))
      refine ⟨rfl, ?_⟩
      have hT3 := hT2.kept (fun c hc => f3.2 c (fun z => oF c hc (sub1 c z)))
      have hM3 := hM2.kept (f3.2 _ (fun z => hma (sub1 _ z))) (fun m hm => ⟨f3.2 _ (fun z => (hms m hm).1 (sub1 _ z)), f3.2 _ (fun z => (hms m hm).2 (sub1 _ z))⟩)
      have t4 := fref _ hT3
      obtain ⟨⟨fm, m1, m2⟩, m3⟩ := hM3
      have hp3 := hp2.fr f3 (fun z => hoo (sub1 _ z)) (fun z => hoo1 (sub1 _ z))
      refine gk_aload1 dX1_develop_151 (pc' := 152) rfl ?_
      refine gk_getf (fs := [_, _, _, _, _, _, _]) gF_Bench_54 dX1_develop_152 (pc' := 155) rfl (by exact (t4)) rfl ?_
      refine gk_cSN1_1 mz_Room_isMask (host := "DarkRoom") (by decide +kernel) dX1_develop_155 (pc' := 158) rfl (Nat.le_of_ble_eq_true rfl) (sp_Room_isMask (fun j _ _ => ?_) (fun z => absurd (by rw [nI_toInt (by omega)]; omega) z))
      refine ⟨_, rfl, ?_⟩
      refine gk_if_eq dX1_develop_158 (tgt := 228) (pc' := 161) (by decide) rfl (fun c => absurd c (by decide)) (fun _ => ?_)
      refine gk_aload4 dX1_develop_161 (pc' := 163) rfl ?_
      refine gk_aload1 dX1_develop_163 (pc' := 164) rfl ?_
      refine gk_getf (fs := [_, _, _, _, _, _, _]) gF_Bench_54 dX1_develop_164 (pc' := 167) rfl (by exact (t4)) rfl ?_
      refine gk_aald (t0 := 3) rfl dX1_develop_167 (pc' := 168) rfl (by exact (m1)) (vp_in_nI (by omega) (by decide)) ?_
      rw [nI_clamp (by omega), m2 m (by omega), rfb]
      refine gk_aload2 dX1_develop_168 (pc' := 169) rfl ?_
      refine gk_aload3 dX1_develop_169 (pc' := 170) rfl ?_
      refine gk_cS0_3 mz_Bench_restoreUnlit gw_510 dX1_develop_170 (pc' := 173) rfl (Nat.le_of_ble_eq_true rfl) (sp_Bench_restoreUnlit n1 (by have := hms m (by omega); unfold dvM at this; omega) hp3 g3 (m3 m (by omega)) (fun h5 g6 f5 => ?_))
      refine ⟨rfl, ?_⟩
      refine gk_goto dX1_develop_173 (tgt := 228) (by decide) ?_
      refine gk_vret dX1_develop_228 rfl (hQ h5 gn3 (s3.kept (f5.2 _ (by omega)) (f5.2 _ (by omega)) (f5.2 _ (by omega))) (b3.upd f5 (fun j hj => ?_)) g6 ((r2.trans f3 (C := dvM a dp o') (fun _ z => Or.inl z) sub1).trans f5 (fun _ z => z) (fun _ z => Or.inr (Or.inl z))))
      by_cases z : o' = a + 3 + 2 * j
      · exact Or.inr ⟨k, w, t, _, by rw [← z]; exact g6⟩
      · exact Or.inl ⟨by omega, by omega⟩
end DvA
