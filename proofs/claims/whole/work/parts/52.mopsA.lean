/-! ===== the reference: takes, fill ===== -/
def bes (w t : Nat) (B : Nat → Bool) (i : Nat) : Prop := (0 < i % w ∧ B (i - 1) = true) ∨ (i % w < w - 1 ∧ B (i + 1) = true) ∨ (w ≤ i ∧ B (i - w) = true) ∨ (i + w < w * t ∧ B (i + w) = true)
theorem dmE {w i : Nat} (h1 : 1 ≤ w) : ∃ x y, x < w ∧ i = y * w + x ∧ i % w = x ∧ i / w = y := by
  refine ⟨i % w, i / w, Nat.mod_lt _ (by omega), ?_, rfl, rfl⟩
  rw [Nat.mul_comm]
  exact (Nat.div_add_mod _ _).symm
theorem bes_adj {w t : Nat} {B : Nat → Bool} {i : Nat} (h1 : 1 ≤ w) (hi : i < w * t) (h : bes w t B i) : ∃ j, B j = true ∧ adjF w t j i ∧ j < w * t := by
  obtain ⟨x, y, hx, ei, em, ed⟩ := dmE (i := i) h1
  unfold bes at h
  unfold adjF
  rw [em, ed]
  rw [em] at h
  rcases h with ⟨g, hB⟩ | ⟨g, hB⟩ | ⟨g, hB⟩ | ⟨g, hB⟩
  · have d := dm (w := w) (x := x - 1) (y := y) (by omega)
    have e : i - 1 = y * w + (x - 1) := by omega
    refine ⟨i - 1, hB, ⟨hi, ?_⟩, by omega⟩
    rw [e, d.1, d.2]
    exact Or.inr ⟨rfl, Or.inr (by omega)⟩
  · have d := dm (w := w) (x := x + 1) (y := y) (by omega)
    have e : i + 1 = y * w + (x + 1) := by omega
    have hy : y < t := by rw [← ed]; exact (Nat.div_lt_iff_lt_mul h1).mpr (by rw [Nat.mul_comm]; exact hi)
    have pl := place_lt (w := w) (t := t) (i := x + 1) (j := y) (by omega) hy
    refine ⟨i + 1, hB, ⟨hi, ?_⟩, by omega⟩
    rw [e, d.1, d.2]
    exact Or.inr ⟨rfl, Or.inl rfl⟩
  · obtain ⟨y', rfl⟩ : ∃ y', y = y' + 1 := by
      rcases Nat.eq_zero_or_pos y with z | z
      · rw [z, Nat.zero_mul] at ei; omega
      · exact ⟨y - 1, by omega⟩
    have yw : (y' + 1) * w = y' * w + w := by rw [Nat.add_mul, Nat.one_mul]
    have d := dm (w := w) (x := x) (y := y') hx
    have e : i - w = y' * w + x := by omega
    refine ⟨i - w, hB, ⟨hi, ?_⟩, by omega⟩
    rw [e, d.1, d.2]
    exact Or.inl ⟨rfl, Or.inr rfl⟩
  · have yw : (y + 1) * w = y * w + w := by rw [Nat.add_mul, Nat.one_mul]
    have d := dm (w := w) (x := x) (y := y + 1) hx
    have e : i + w = (y + 1) * w + x := by omega
    refine ⟨i + w, hB, ⟨hi, ?_⟩, g⟩
    rw [e, d.1, d.2]
    exact Or.inl ⟨rfl, Or.inl rfl⟩
theorem adj_bes {w t : Nat} {B : Nat → Bool} {i j : Nat} (h1 : 1 ≤ w) (hj : j < w * t) (hB : B j = true) (h : adjF w t j i) : bes w t B i := by
  obtain ⟨x, y, hx, ei, em, ed⟩ := dmE (i := i) h1
  obtain ⟨a, c, ha, ej, jm, jd⟩ := dmE (i := j) h1
  unfold adjF at h
  rw [em, ed, jm, jd] at h
  unfold bes
  rw [em]
  rcases h.2 with ⟨g, g2 | g2⟩ | ⟨g, g2 | g2⟩
  · right; right; right
    have yw : (y + 1) * w = y * w + w := by rw [Nat.add_mul, Nat.one_mul]
    have e : j = i + w := by rw [ej, ← g2, ← g]; omega
    exact ⟨by omega, by rw [← e]; exact hB⟩
  · right; right; left
    have yw : (c + 1) * w = c * w + w := by rw [Nat.add_mul, Nat.one_mul]
    have e : i = j + w := by rw [ei, g2, g]; omega
    exact ⟨by omega, by rw [show i - w = j by omega]; exact hB⟩
  · right; left
    have e : j = i + 1 := by rw [ej, ← g]; omega
    exact ⟨by omega, by rw [← e]; exact hB⟩
  · left
    have e : i = j + 1 := by rw [ei, g]; omega
    exact ⟨by omega, by rw [show i - 1 = j by omega]; exact hB⟩
/-- what is found filled is reached -/
def fOk (w t : Nat) (p : Nat → Int32) (s : Nat) (tol : Int) (B : Nat → Bool) : Prop := B s = true ∧ ∀ j, B j = true → j < w * t ∧ Rch w t p s tol j
theorem fOk.add {w t : Nat} {p : Nat → Int32} {s : Nat} {tol : Int} {B : Nat → Bool} (h : fOk w t p s tol B) (h1 : 1 ≤ w) {i : Nat} (hi : i < w * t) (ho : okF p s tol i) (hb : bes w t B i) : fOk w t p s tol (fun j => if j = i then true else B j) := by
  refine ⟨?_, fun j hj => ?_⟩
  · show (if s = i then true else B s) = true
    split
    · rfl
    · exact h.1
  · have hj : (if j = i then true else B j) = true := hj
    by_cases e : j = i
    · subst e
      obtain ⟨q, q1, q2, q3⟩ := bes_adj h1 hi hb
      exact ⟨hi, (h.2 q q1).2.step q2 ho⟩
    · rw [if_neg e] at hj
      exact h.2 j hj
theorem fOk.done {w t : Nat} {p : Nat → Int32} {s : Nat} {tol : Int} {B : Nat → Bool} (h : fOk w t p s tol B) (h1 : 1 ≤ w) (hs : s < w * t) (hc : ∀ i, i < w * t → ¬ (B i = false ∧ okF p s tol i ∧ bes w t B i)) : ∀ j, B j = rB w t p s tol j := fun j => by
  have key : Rch w t p s tol j → B j = true := fun hr => (hr (fun j => j < w * t ∧ B j = true) ⟨hs, h.1⟩ (fun i j hi ha ho => ⟨ha.1, by
    cases hb : B j with
    | true => rfl
    | false => exact absurd ⟨hb, ho, adj_bes h1 hi.1 hi.2 ha⟩ (hc j ha.1)⟩)).2
  cases hb : B j with
  | true => exact (rB_iff.mpr (h.2 j hb).2).symm
  | false =>
    cases hr : rB w t p s tol j with
    | false => rfl
    | true => rw [key (rB_iff.mp hr)] at hb; cases hb
theorem cntB_add1 {B : Nat → Bool} {i n : Nat} (hB : B i = false) (hi : i < n) : cntB (fun j => if j = i then true else B j) n = cntB B n + 1 := cntB_add hB (if_pos rfl) (fun j hj => if_neg hj) n hi
/-- all filled places become v, as far as n -/
def flI (f : Nat → Int32) (s n : Nat) (B : Nat → Bool) (v : Int32) : Nat → Int32 := fun q => if s ≤ q ∧ q < s + n ∧ B (q - s) = true then v else f q
theorem flI_0 {f : Nat → Int32} {s : Nat} {B : Nat → Bool} {v : Int32} : flI f s 0 B v = f := funext fun q => if_neg (by omega)
theorem flI_t {f : Nat → Int32} {s n : Nat} {B : Nat → Bool} {v : Int32} (h : B n = true) : upd (flI f s n B v) (s + n) v = flI f s (n + 1) B v := funext fun q => by
  by_cases e : q = s + n
  · subst e; rw [pk_us]; unfold flI; rw [if_pos ⟨by omega, by omega, by rw [Nat.add_sub_cancel_left]; exact h⟩]
  · rw [pk_un e]
    unfold flI
    by_cases z : s ≤ q ∧ q < s + n ∧ B (q - s) = true
    · rw [if_pos z, if_pos ⟨z.1, by omega, z.2.2⟩]
    · rw [if_neg z, if_neg (fun y => z ⟨y.1, by omega, y.2.2⟩)]
theorem flI_f {f : Nat → Int32} {s n : Nat} {B : Nat → Bool} {v : Int32} (h : B n = false) : flI f s n B v = flI f s (n + 1) B v := funext fun q => by
  unfold flI
  by_cases z : s ≤ q ∧ q < s + n ∧ B (q - s) = true
  · rw [if_pos z, if_pos ⟨z.1, by omega, z.2.2⟩]
  · rw [if_neg z, if_neg (fun y => z ⟨y.1, by
      have : q - s ≠ n := fun e => by rw [e, h] at y; exact absurd y.2.2 (by decide)
      omega, y.2.2⟩)]
theorem Rch_congr {w t : Nat} {p q : Nat → Int32} {s : Nat} {tol : Int} (hs : s < w * t) (he : ∀ i, i < w * t → p i = q i) {i : Nat} (h : Rch w t p s tol i) : Rch w t q s tol i := fun S h0 hc => h S h0 (fun a c ha hadj ho => hc a c ha hadj (by unfold okF at ho ⊢; rw [← he c hadj.1, ← he s hs]; exact ho))
theorem rB_congr {w t : Nat} {p q : Nat → Int32} {s : Nat} {tol : Int} (hs : s < w * t) (he : ∀ i, i < w * t → p i = q i) : rB w t p s tol = rB w t q s tol := funext fun j => by
  cases h1 : rB w t p s tol j with
  | true => exact (rB_iff.mpr (Rch_congr hs he (rB_iff.mp h1))).symm
  | false =>
    cases h2 : rB w t q s tol j with
    | false => rfl
    | true => rw [rB_iff.mpr (Rch_congr hs (fun i hi => (he i hi).symm) (rB_iff.mp h2))] at h1; cases h1
section MoP
variable {X : gX} {d : Nat} {b : Nat × Nat} {h h0 : gk_H} {m : Nat} {A : MoA} {Z : MoZ} {Q : Option Value → gk_H → Prop} {S : St}
theorem lp_Mo_takes {j : Nat} {c : Pc} (hp : pRow (A 1) (259 * j) c) (hj : j < 8) (ar : c.2.1 * c.2.2.1 ≤ 256) (hQ : Q (some (.int (nI (cntP (A 14) c.2.2.2 (c.2.1 * c.2.2.1))))) (mkH X h0 m (uA A 1 (fdF (A 1) (259 * j + 3) (c.2.1 * c.2.2.1) (A 14))) Z)) : ∀ f i l4, i + f = c.2.1 * c.2.2.1 → G (kx X) mt_Mo_takes (d + 2) b 4 [some (.ref m), some (.int (nI j)), some (.int (nI (cntP (A 14) c.2.2.2 i))), some (.int (nI i)), l4] [] (mkH X h0 m (uA A 1 (fdF (A 1) (259 * j + 3) i (A 14))) Z) Q := by
  have pr : ∀ i, ∃ cP : Pc, cP.2.1 = c.2.1 ∧ cP.2.2.1 = c.2.2.1 ∧ pRow (uA A 1 (fdF (A 1) (259 * j + 3) i (A 14)) 1) (259 * j) cP := fun i => ⟨(c.1, c.2.1, c.2.2.1, fdF c.2.2.2 0 i (A 14)), rfl, rfl, by rw [uA_s]; exact fd_row2 (s := 0) hp⟩
  intro f
  induction f with
  | zero =>
    intro i l4 hi
    obtain ⟨cP, e1, e2, prP⟩ := pr i
    have e : i = c.2.1 * c.2.2.1 := by omega
    refine gk_iload3 dX11_takes_4 (pc' := 5) rfl ?_
    refine gk_aload0 dX11_takes_5 (pc' := 6) rfl ?_
    refine gk_iload1 dX11_takes_6 (pc' := 7) rfl ?_
    refine gk_cV1_1 mv_Mo_pixels gw_940 dX11_takes_7 (pc' := 10) rfl (Nat.le_of_ble_eq_true rfl) (by exact (mkJ)) (sp_Mo_pixels prP hj ?_)
    refine ⟨_, rfl, ?_⟩
    rw [e1, e2]
    refine gk_icmp_ge dX11_takes_10 (tgt := 67) (pc' := 13) (by decide) rfl (fun c10 => ?_) (fun c10 => absurd (nI_le (by omega) (by omega)) c10)
    refine gk_iload2 dX11_takes_67 (pc' := 68) rfl ?_
    refine gk_iret dX11_takes_68 rfl (by rw [e]; exact hQ)
  | succ f ih =>
    intro i l4 hi
    obtain ⟨cP, e1, e2, prP⟩ := pr i
    have q := fun l4 => ih (i + 1) l4 (by omega)
    have ep : uA A 1 (fdF (A 1) (259 * j + 3) i (A 14)) 1 (259 * j + 3 + i) = c.2.2.2 i := by
      rw [uA_s]
      unfold fdF
      rw [if_neg (by omega)]
      exact hp.2.2.2 i (by omega)
    refine gk_iload3 dX11_takes_4 (pc' := 5) rfl ?_
    refine gk_aload0 dX11_takes_5 (pc' := 6) rfl ?_
    refine gk_iload1 dX11_takes_6 (pc' := 7) rfl ?_
    refine gk_cV1_1 mv_Mo_pixels gw_940 dX11_takes_7 (pc' := 10) rfl (Nat.le_of_ble_eq_true rfl) (by exact (mkJ)) (sp_Mo_pixels prP hj ?_)
    refine ⟨_, rfl, ?_⟩
    rw [e1, e2]
    refine gk_icmp_ge dX11_takes_10 (tgt := 67) (pc' := 13) (by decide) rfl (fun c10 => absurd c10 (nI_ge (by omega) (by omega))) (fun c10 => ?_)
    refine gk_sipush (v := nI 259) dX11_takes_13 (pc' := 16) rfl (by decide) ?_
    refine gk_iload1 dX11_takes_16 (pc' := 17) rfl ?_
    refine gk_imulN dX11_takes_17 (pc' := 18) rfl ?_
    refine gk_iconst (v := nI 3) dX11_takes_18 (pc' := 19) rfl (by decide) ?_
    refine gk_iaddN dX11_takes_19 (pc' := 20) rfl ?_
    refine gk_iload3 dX11_takes_20 (pc' := 21) rfl ?_
    refine gk_iaddN dX11_takes_21 (pc' := 22) rfl ?_
    refine gk_istore4 dX11_takes_22 (pc' := 24) rfl (by decide) rfl ?_
    refine gk_iload2 dX11_takes_24 (pc' := 25) rfl ?_
    refine gk_aload0 dX11_takes_25 (pc' := 26) rfl ?_
    refine gk_getf (fs := [_, _, _, _, _, _, _, _, _, _, _, _, _, _, _, _, _, _, _, _, _, _, _, _, _, _]) gF_Mo_7 dX11_takes_26 (pc' := 29) rfl (by exact (mkJ)) rfl ?_
    refine gk_iload4 dX11_takes_29 (pc' := 31) rfl ?_
    refine gk_iald (t0 := 0) rfl dX11_takes_31 (pc' := 32) rfl (by exact (mkA1)) (vp_in_nI (by omega) (by decide)) ?_
    rw [nI_clamp (by omega)]
    rw [ep]
    refine gk_aload0 dX11_takes_32 (pc' := 33) rfl ?_
    refine gk_getf (fs := [_, _, _, _, _, _, _, _, _, _, _, _, _, _, _, _, _, _, _, _, _, _, _, _, _, _]) gF_Mo_50 dX11_takes_33 (pc' := 36) rfl (by exact (mkJ)) rfl ?_
    refine gk_iload3 dX11_takes_36 (pc' := 37) rfl ?_
    refine gk_iald (t0 := 0) rfl dX11_takes_37 (pc' := 38) rfl (by exact (mkA14)) (vp_in_nI (by omega) (by decide)) ?_
    rw [nI_clamp (by omega)]
    rw [uA_n (show 14 ≠ 1 by decide)]
    refine gk_icmp_eq dX11_takes_38 (tgt := 45) (pc' := 41) (by decide) rfl (fun c38 => ?_) (fun c38 => ?_)
    · refine gk_iconst (v := nI 0) dX11_takes_45 (pc' := 46) rfl (by decide) ?_
      refine gk_iaddN dX11_takes_46 (pc' := 47) rfl ?_
      refine gk_istore2 dX11_takes_47 (pc' := 48) rfl (by decide) rfl ?_
      refine gk_aload0 dX11_takes_48 (pc' := 49) rfl ?_
      refine gk_getf (fs := [_, _, _, _, _, _, _, _, _, _, _, _, _, _, _, _, _, _, _, _, _, _, _, _, _, _]) gF_Mo_7 dX11_takes_49 (pc' := 52) rfl (by exact (mkJ)) rfl ?_
      refine gk_iload4 dX11_takes_52 (pc' := 54) rfl ?_
      refine gk_aload0 dX11_takes_54 (pc' := 55) rfl ?_
      refine gk_getf (fs := [_, _, _, _, _, _, _, _, _, _, _, _, _, _, _, _, _, _, _, _, _, _, _, _, _, _]) gF_Mo_50 dX11_takes_55 (pc' := 58) rfl (by exact (mkJ)) rfl ?_
      refine gk_iload3 dX11_takes_58 (pc' := 59) rfl ?_
      refine gk_iald (t0 := 0) rfl dX11_takes_59 (pc' := 60) rfl (by exact (mkA14)) (vp_in_nI (by omega) (by decide)) ?_
      rw [nI_clamp (by omega)]
      rw [uA_n (show 14 ≠ 1 by decide)]
      refine gk_iast (t0 := 0) rfl dX11_takes_60 (pc' := 61) rfl (by exact (mkA1)) (vp_in_nI (by omega) (by decide)) ?_
      rw [nI_clamp (by omega), mkS1]
      rw [uA_s, uA_u, fdF_s (V := A 14) rfl]
      refine gk_iinc3 (v := 1) dX11_takes_61 (pc' := 64) rfl (by decide) (by decide) rfl ?_
      refine gk_goto dX11_takes_64 (tgt := 4) (by decide) ?_
      rw [← nI_succ i]
      first | (rw [cntP, if_pos c38.symm] at q; exact q _) | (rw [cntP, if_neg (fun e => c38 e.symm)] at q; exact q _)
    · refine gk_iconst (v := nI 1) dX11_takes_41 (pc' := 42) rfl (by decide) ?_
      refine gk_goto dX11_takes_42 (tgt := 46) (by decide) ?_
      refine gk_iaddN dX11_takes_46 (pc' := 47) rfl ?_
      refine gk_istore2 dX11_takes_47 (pc' := 48) rfl (by decide) rfl ?_
      refine gk_aload0 dX11_takes_48 (pc' := 49) rfl ?_
      refine gk_getf (fs := [_, _, _, _, _, _, _, _, _, _, _, _, _, _, _, _, _, _, _, _, _, _, _, _, _, _]) gF_Mo_7 dX11_takes_49 (pc' := 52) rfl (by exact (mkJ)) rfl ?_
      refine gk_iload4 dX11_takes_52 (pc' := 54) rfl ?_
      refine gk_aload0 dX11_takes_54 (pc' := 55) rfl ?_
      refine gk_getf (fs := [_, _, _, _, _, _, _, _, _, _, _, _, _, _, _, _, _, _, _, _, _, _, _, _, _, _]) gF_Mo_50 dX11_takes_55 (pc' := 58) rfl (by exact (mkJ)) rfl ?_
      refine gk_iload3 dX11_takes_58 (pc' := 59) rfl ?_
      refine gk_iald (t0 := 0) rfl dX11_takes_59 (pc' := 60) rfl (by exact (mkA14)) (vp_in_nI (by omega) (by decide)) ?_
      rw [nI_clamp (by omega)]
      rw [uA_n (show 14 ≠ 1 by decide)]
      refine gk_iast (t0 := 0) rfl dX11_takes_60 (pc' := 61) rfl (by exact (mkA1)) (vp_in_nI (by omega) (by decide)) ?_
      rw [nI_clamp (by omega), mkS1]
      rw [uA_s, uA_u, fdF_s (V := A 14) rfl]
      refine gk_iinc3 (v := 1) dX11_takes_61 (pc' := 64) rfl (by decide) (by decide) rfl ?_
      refine gk_goto dX11_takes_64 (tgt := 4) (by decide) ?_
      rw [← nI_succ i]
      first | (rw [cntP, if_pos c38.symm] at q; exact q _) | (rw [cntP, if_neg (fun e => c38 e.symm)] at q; exact q _)
theorem sp_Mo_takes {j : Nat} {c : Pc} (hp : pRow (A 1) (259 * j) c) (hj : j < 8) (ar : c.2.1 * c.2.2.1 ≤ 256) (hQ : Q (some (.int (nI (cntP (A 14) c.2.2.2 (c.2.1 * c.2.2.1))))) (mkH X h0 m (uA A 1 (fdF (A 1) (259 * j + 3) (c.2.1 * c.2.2.1) (A 14))) Z)) : Gm (kx X) mt_Mo_takes (d + 2) b [.ref m, .int (nI j)] (mkH X h0 m A Z) Q := by
  have q := lp_Mo_takes (d := d) (b := b) hp hj ar hQ (c.2.1 * c.2.2.1) 0 none (by omega)
  rw [fdF_0, uA_i] at q
  refine Gm.enter (L := [some (.ref m), some (.int (nI j)), none, none, none]) (by decide) (fun _ => trivial) (Nat.le_of_ble_eq_true rfl) rfl ?_
  refine gk_iconst (v := 0) dX11_takes_0 (pc' := 1) rfl (by decide) ?_
  refine gk_istore2 dX11_takes_1 (pc' := 2) rfl (by decide) rfl ?_
  refine gk_iconst (v := 0) dX11_takes_2 (pc' := 3) rfl (by decide) ?_
  refine gk_istore3 dX11_takes_3 (pc' := 4) rfl (by decide) rfl ?_
  exact q
theorem sp_Mo_isBeside {w t i : Nat} {f : Nat → Int32} {B : Nat → Bool} (hZ : Z 4 = nI w ∧ Z 5 = nI t) (hw : 1 ≤ w ∧ w ≤ 16) (htt : t ≤ 16) (hi : i < w * t) (hf : ∀ j, j < w * t → f j = if B j then 1 else 0) (ht : bes w t B i → Q (some (.int 1)) (mkH X h0 m (uA A 16 f) Z)) (hn : ¬ bes w t B i → Q (some (.int 0)) (mkH X h0 m (uA A 16 f) Z)) : Gm (kx X) mt_Mo_isBeside d b [.ref m, .int (nI i)] (mkH X h0 m (uA A 16 f) Z) Q := by
  have ar := area_le hw.2 htt
  have im : i % w < w := Nat.mod_lt _ (by omega)
  have il : i % w ≤ i := Nat.mod_le i w
  have bv : ∀ k, k < w * t → (uA A 16 f 16 k = 0 ↔ B k = false) := fun k hk => by
    rw [uA_s, hf k hk]
    cases B k <;> decide
  unfold bes at ht hn
  have rgt : i % w < w - 1 → i + 1 < w * t := fun q => by
    obtain ⟨x, y, hx, ei, em, ed⟩ := dmE (i := i) hw.1
    have hy : y < t := by rw [← ed]; exact (Nat.div_lt_iff_lt_mul hw.1).mpr (by rw [Nat.mul_comm]; exact hi)
    have := place_lt (w := w) (t := t) (i := x + 1) (j := y) (by omega) hy
    omega
  generalize hM : i % w = x at *
  refine Gm.enter (L := [some (.ref m), some (.int (nI i)), none, none]) (by decide) (fun _ => trivial) (Nat.le_of_ble_eq_true rfl) rfl ?_
  refine gk_iload1 dX11_isBeside_0 (pc' := 1) rfl ?_
  refine gk_aload0 dX11_isBeside_1 (pc' := 2) rfl ?_
  refine gk_getf (fs := [_, _, _, _, _, _, _, _, _, _, _, _, _, _, _, _, _, _, _, _, _, _, _, _, _, _]) gF_Mo_138 dX11_isBeside_2 (pc' := 5) rfl (by exact (mkJ)) rfl ?_
  rw [hZ.1]
  refine gk_iremN dX11_isBeside_5 (pc' := 6) rfl (by omega) (by omega) (by omega) ?_
  rw [hM]
  refine gk_istore2 dX11_isBeside_6 (pc' := 7) rfl (by decide) rfl ?_
  refine gk_aload0 dX11_isBeside_7 (pc' := 8) rfl ?_
  refine gk_getf (fs := [_, _, _, _, _, _, _, _, _, _, _, _, _, _, _, _, _, _, _, _, _, _, _, _, _, _]) gF_Mo_138 dX11_isBeside_8 (pc' := 11) rfl (by exact (mkJ)) rfl ?_
  rw [hZ.1]
  refine gk_aload0 dX11_isBeside_11 (pc' := 12) rfl ?_
  refine gk_getf (fs := [_, _, _, _, _, _, _, _, _, _, _, _, _, _, _, _, _, _, _, _, _, _, _, _, _, _]) gF_Mo_141 dX11_isBeside_12 (pc' := 15) rfl (by exact (mkJ)) rfl ?_
  rw [hZ.2]
  refine gk_imulN dX11_isBeside_15 (pc' := 16) rfl ?_
  refine gk_istore3 dX11_isBeside_16 (pc' := 17) rfl (by decide) rfl ?_
  refine gk_iload2 dX11_isBeside_17 (pc' := 18) rfl ?_
  refine gk_if_le dX11_isBeside_18 (tgt := 32) (pc' := 21) (by decide) rfl (fun c18 => ?_) (fun c18 => ?_)
  · have q1 : ¬ 0 < x := by have := (nI_leI (b := 0) (by omega) (by omega)).mp c18; omega
    refine gk_iload2 dX11_isBeside_32 (pc' := 33) rfl ?_
    refine gk_aload0 dX11_isBeside_33 (pc' := 34) rfl ?_
    refine gk_getf (fs := [_, _, _, _, _, _, _, _, _, _, _, _, _, _, _, _, _, _, _, _, _, _, _, _, _, _]) gF_Mo_138 dX11_isBeside_34 (pc' := 37) rfl (by exact (mkJ)) rfl ?_
    rw [hZ.1]
    refine gk_iconst (v := nI 1) dX11_isBeside_37 (pc' := 38) rfl (by decide) ?_
    refine gk_isubN dX11_isBeside_38 (pc' := 39) rfl (by omega) ?_
    refine gk_icmp_ge dX11_isBeside_39 (tgt := 53) (pc' := 42) (by decide) rfl (fun c39 => ?_) (fun c39 => ?_)
    · have q3 : ¬ x < w - 1 := by have := (nI_leI (by omega) (by omega)).mp c39; omega
      refine gk_iload1 dX11_isBeside_53 (pc' := 54) rfl ?_
      refine gk_aload0 dX11_isBeside_54 (pc' := 55) rfl ?_
      refine gk_getf (fs := [_, _, _, _, _, _, _, _, _, _, _, _, _, _, _, _, _, _, _, _, _, _, _, _, _, _]) gF_Mo_138 dX11_isBeside_55 (pc' := 58) rfl (by exact (mkJ)) rfl ?_
      rw [hZ.1]
      refine gk_icmp_lt dX11_isBeside_58 (tgt := 75) (pc' := 61) (by decide) rfl (fun c58 => ?_) (fun c58 => ?_)
      · have q5 : ¬ w ≤ i := by have := (nI_ltI (by omega) (by omega)).mp c58; omega
        refine gk_iload1 dX11_isBeside_75 (pc' := 76) rfl ?_
        refine gk_aload0 dX11_isBeside_76 (pc' := 77) rfl ?_
        refine gk_getf (fs := [_, _, _, _, _, _, _, _, _, _, _, _, _, _, _, _, _, _, _, _, _, _, _, _, _, _]) gF_Mo_138 dX11_isBeside_77 (pc' := 80) rfl (by exact (mkJ)) rfl ?_
        rw [hZ.1]
        refine gk_iaddN dX11_isBeside_80 (pc' := 81) rfl ?_
        refine gk_iload3 dX11_isBeside_81 (pc' := 82) rfl ?_
        refine gk_icmp_ge dX11_isBeside_82 (tgt := 103) (pc' := 85) (by decide) rfl (fun c82 => ?_) (fun c82 => ?_)
        · have q7 : ¬ i + w < w * t := by have := (nI_leI (by omega) (by omega)).mp c82; omega
          refine gk_iconst (v := 0) dX11_isBeside_103 (pc' := 104) rfl (by decide) ?_
          refine gk_zret dX11_isBeside_104 rfl rfl (by first | exact ht (Or.inl ⟨q1, q2⟩) | exact ht (Or.inr (Or.inl ⟨q3, q4⟩)) | exact ht (Or.inr (Or.inr (Or.inl ⟨q5, q6⟩))) | exact ht (Or.inr (Or.inr (Or.inr ⟨q7, q8⟩))) | exact hn (fun z => by rcases z with ⟨z, y⟩ | ⟨z, y⟩ | ⟨z, y⟩ | ⟨z, y⟩ <;> first | omega | (rw [y] at q2; cases q2) | (rw [y] at q4; cases q4) | (rw [y] at q6; cases q6) | (rw [y] at q8; cases q8)))
        · have q7 : i + w < w * t := by have : ¬ w * t ≤ i + w := (fun z => c82 (nI_le z (by omega))); omega
          refine gk_aload0 dX11_isBeside_85 (pc' := 86) rfl ?_
          refine gk_getf (fs := [_, _, _, _, _, _, _, _, _, _, _, _, _, _, _, _, _, _, _, _, _, _, _, _, _, _]) gF_Mo_56 dX11_isBeside_86 (pc' := 89) rfl (by exact (mkJ)) rfl ?_
          refine gk_iload1 dX11_isBeside_89 (pc' := 90) rfl ?_
          refine gk_aload0 dX11_isBeside_90 (pc' := 91) rfl ?_
          refine gk_getf (fs := [_, _, _, _, _, _, _, _, _, _, _, _, _, _, _, _, _, _, _, _, _, _, _, _, _, _]) gF_Mo_138 dX11_isBeside_91 (pc' := 94) rfl (by exact (mkJ)) rfl ?_
          rw [hZ.1]
          refine gk_iaddN dX11_isBeside_94 (pc' := 95) rfl ?_
          refine gk_zald (t0 := 1) rfl dX11_isBeside_95 (pc' := 96) rfl (by exact (mkA16)) (vp_in_nI (by omega) (by decide)) ?_
          rw [nI_clamp (by omega)]
          refine gk_if_eq dX11_isBeside_96 (tgt := 103) (pc' := 99) (by decide) rfl (fun c96 => ?_) (fun c96 => ?_)
          · have q8 : B (i + w) = false := (bv _ (by omega)).mp c96
            refine gk_iconst (v := 0) dX11_isBeside_103 (pc' := 104) rfl (by decide) ?_
            refine gk_zret dX11_isBeside_104 rfl rfl (by first | exact ht (Or.inl ⟨q1, q2⟩) | exact ht (Or.inr (Or.inl ⟨q3, q4⟩)) | exact ht (Or.inr (Or.inr (Or.inl ⟨q5, q6⟩))) | exact ht (Or.inr (Or.inr (Or.inr ⟨q7, q8⟩))) | exact hn (fun z => by rcases z with ⟨z, y⟩ | ⟨z, y⟩ | ⟨z, y⟩ | ⟨z, y⟩ <;> first | omega | (rw [y] at q2; cases q2) | (rw [y] at q4; cases q4) | (rw [y] at q6; cases q6) | (rw [y] at q8; cases q8)))
          · have q8 : B (i + w) = true := by cases h : B (i + w); exact absurd ((bv _ (by omega)).mpr h) c96; rfl
            refine gk_iconst (v := 1) dX11_isBeside_99 (pc' := 100) rfl (by decide) ?_
            refine gk_goto dX11_isBeside_100 (tgt := 104) (by decide) ?_
            refine gk_zret dX11_isBeside_104 rfl rfl (by first | exact ht (Or.inl ⟨q1, q2⟩) | exact ht (Or.inr (Or.inl ⟨q3, q4⟩)) | exact ht (Or.inr (Or.inr (Or.inl ⟨q5, q6⟩))) | exact ht (Or.inr (Or.inr (Or.inr ⟨q7, q8⟩))) | exact hn (fun z => by rcases z with ⟨z, y⟩ | ⟨z, y⟩ | ⟨z, y⟩ | ⟨z, y⟩ <;> first | omega | (rw [y] at q2; cases q2) | (rw [y] at q4; cases q4) | (rw [y] at q6; cases q6) | (rw [y] at q8; cases q8)))
      · have q5 : w ≤ i := by have : ¬ i < w := (fun z => c58 (nI_lt z (by omega))); omega
        refine gk_aload0 dX11_isBeside_61 (pc' := 62) rfl ?_
        refine gk_getf (fs := [_, _, _, _, _, _, _, _, _, _, _, _, _, _, _, _, _, _, _, _, _, _, _, _, _, _]) gF_Mo_56 dX11_isBeside_62 (pc' := 65) rfl (by exact (mkJ)) rfl ?_
        refine gk_iload1 dX11_isBeside_65 (pc' := 66) rfl ?_
        refine gk_aload0 dX11_isBeside_66 (pc' := 67) rfl ?_
        refine gk_getf (fs := [_, _, _, _, _, _, _, _, _, _, _, _, _, _, _, _, _, _, _, _, _, _, _, _, _, _]) gF_Mo_138 dX11_isBeside_67 (pc' := 70) rfl (by exact (mkJ)) rfl ?_
        rw [hZ.1]
        refine gk_isubN dX11_isBeside_70 (pc' := 71) rfl (by omega) ?_
        refine gk_zald (t0 := 1) rfl dX11_isBeside_71 (pc' := 72) rfl (by exact (mkA16)) (vp_in_nI (by omega) (by decide)) ?_
        rw [nI_clamp (by omega)]
        refine gk_if_ne dX11_isBeside_72 (tgt := 99) (pc' := 75) (by decide) rfl (fun c72 => ?_) (fun c72 => ?_)
        · have q6 : B (i - w) = true := by cases h : B (i - w); exact absurd ((bv _ (by omega)).mpr h) c72; rfl
          refine gk_iconst (v := 1) dX11_isBeside_99 (pc' := 100) rfl (by decide) ?_
          refine gk_goto dX11_isBeside_100 (tgt := 104) (by decide) ?_
          refine gk_zret dX11_isBeside_104 rfl rfl (by first | exact ht (Or.inl ⟨q1, q2⟩) | exact ht (Or.inr (Or.inl ⟨q3, q4⟩)) | exact ht (Or.inr (Or.inr (Or.inl ⟨q5, q6⟩))) | exact ht (Or.inr (Or.inr (Or.inr ⟨q7, q8⟩))) | exact hn (fun z => by rcases z with ⟨z, y⟩ | ⟨z, y⟩ | ⟨z, y⟩ | ⟨z, y⟩ <;> first | omega | (rw [y] at q2; cases q2) | (rw [y] at q4; cases q4) | (rw [y] at q6; cases q6) | (rw [y] at q8; cases q8)))
        · have q6 : B (i - w) = false := (bv _ (by omega)).mp c72
          refine gk_iload1 dX11_isBeside_75 (pc' := 76) rfl ?_
          refine gk_aload0 dX11_isBeside_76 (pc' := 77) rfl ?_
          refine gk_getf (fs := [_, _, _, _, _, _, _, _, _, _, _, _, _, _, _, _, _, _, _, _, _, _, _, _, _, _]) gF_Mo_138 dX11_isBeside_77 (pc' := 80) rfl (by exact (mkJ)) rfl ?_
          rw [hZ.1]
          refine gk_iaddN dX11_isBeside_80 (pc' := 81) rfl ?_
          refine gk_iload3 dX11_isBeside_81 (pc' := 82) rfl ?_
          refine gk_icmp_ge dX11_isBeside_82 (tgt := 103) (pc' := 85) (by decide) rfl (fun c82 => ?_) (fun c82 => ?_)
          · have q7 : ¬ i + w < w * t := by have := (nI_leI (by omega) (by omega)).mp c82; omega
            refine gk_iconst (v := 0) dX11_isBeside_103 (pc' := 104) rfl (by decide) ?_
            refine gk_zret dX11_isBeside_104 rfl rfl (by first | exact ht (Or.inl ⟨q1, q2⟩) | exact ht (Or.inr (Or.inl ⟨q3, q4⟩)) | exact ht (Or.inr (Or.inr (Or.inl ⟨q5, q6⟩))) | exact ht (Or.inr (Or.inr (Or.inr ⟨q7, q8⟩))) | exact hn (fun z => by rcases z with ⟨z, y⟩ | ⟨z, y⟩ | ⟨z, y⟩ | ⟨z, y⟩ <;> first | omega | (rw [y] at q2; cases q2) | (rw [y] at q4; cases q4) | (rw [y] at q6; cases q6) | (rw [y] at q8; cases q8)))
          · have q7 : i + w < w * t := by have : ¬ w * t ≤ i + w := (fun z => c82 (nI_le z (by omega))); omega
            refine gk_aload0 dX11_isBeside_85 (pc' := 86) rfl ?_
            refine gk_getf (fs := [_, _, _, _, _, _, _, _, _, _, _, _, _, _, _, _, _, _, _, _, _, _, _, _, _, _]) gF_Mo_56 dX11_isBeside_86 (pc' := 89) rfl (by exact (mkJ)) rfl ?_
            refine gk_iload1 dX11_isBeside_89 (pc' := 90) rfl ?_
            refine gk_aload0 dX11_isBeside_90 (pc' := 91) rfl ?_
            refine gk_getf (fs := [_, _, _, _, _, _, _, _, _, _, _, _, _, _, _, _, _, _, _, _, _, _, _, _, _, _]) gF_Mo_138 dX11_isBeside_91 (pc' := 94) rfl (by exact (mkJ)) rfl ?_
            rw [hZ.1]
            refine gk_iaddN dX11_isBeside_94 (pc' := 95) rfl ?_
            refine gk_zald (t0 := 1) rfl dX11_isBeside_95 (pc' := 96) rfl (by exact (mkA16)) (vp_in_nI (by omega) (by decide)) ?_
            rw [nI_clamp (by omega)]
            refine gk_if_eq dX11_isBeside_96 (tgt := 103) (pc' := 99) (by decide) rfl (fun c96 => ?_) (fun c96 => ?_)
            · have q8 : B (i + w) = false := (bv _ (by omega)).mp c96
              refine gk_iconst (v := 0) dX11_isBeside_103 (pc' := 104) rfl (by decide) ?_
              refine gk_zret dX11_isBeside_104 rfl rfl (by first | exact ht (Or.inl ⟨q1, q2⟩) | exact ht (Or.inr (Or.inl ⟨q3, q4⟩)) | exact ht (Or.inr (Or.inr (Or.inl ⟨q5, q6⟩))) | exact ht (Or.inr (Or.inr (Or.inr ⟨q7, q8⟩))) | exact hn (fun z => by rcases z with ⟨z, y⟩ | ⟨z, y⟩ | ⟨z, y⟩ | ⟨z, y⟩ <;> first | omega | (rw [y] at q2; cases q2) | (rw [y] at q4; cases q4) | (rw [y] at q6; cases q6) | (rw [y] at q8; cases q8)))
            · have q8 : B (i + w) = true := by cases h : B (i + w); exact absurd ((bv _ (by omega)).mpr h) c96; rfl
              refine gk_iconst (v := 1) dX11_isBeside_99 (pc' := 100) rfl (by decide) ?_
              refine gk_goto dX11_isBeside_100 (tgt := 104) (by decide) ?_
              refine gk_zret dX11_isBeside_104 rfl rfl (by first | exact ht (Or.inl ⟨q1, q2⟩) | exact ht (Or.inr (Or.inl ⟨q3, q4⟩)) | exact ht (Or.inr (Or.inr (Or.inl ⟨q5, q6⟩))) | exact ht (Or.inr (Or.inr (Or.inr ⟨q7, q8⟩))) | exact hn (fun z => by rcases z with ⟨z, y⟩ | ⟨z, y⟩ | ⟨z, y⟩ | ⟨z, y⟩ <;> first | omega | (rw [y] at q2; cases q2) | (rw [y] at q4; cases q4) | (rw [y] at q6; cases q6) | (rw [y] at q8; cases q8)))
    · have q3 : x < w - 1 := by have : ¬ w - 1 ≤ x := (fun z => c39 (nI_le z (by omega))); omega
      have r1 := rgt q3
      refine gk_aload0 dX11_isBeside_42 (pc' := 43) rfl ?_
      refine gk_getf (fs := [_, _, _, _, _, _, _, _, _, _, _, _, _, _, _, _, _, _, _, _, _, _, _, _, _, _]) gF_Mo_56 dX11_isBeside_43 (pc' := 46) rfl (by exact (mkJ)) rfl ?_
      refine gk_iload1 dX11_isBeside_46 (pc' := 47) rfl ?_
      refine gk_iconst (v := nI 1) dX11_isBeside_47 (pc' := 48) rfl (by decide) ?_
      refine gk_iaddN dX11_isBeside_48 (pc' := 49) rfl ?_
      refine gk_zald (t0 := 1) rfl dX11_isBeside_49 (pc' := 50) rfl (by exact (mkA16)) (vp_in_nI (by omega) (by decide)) ?_
      rw [nI_clamp (by omega)]
      refine gk_if_ne dX11_isBeside_50 (tgt := 99) (pc' := 53) (by decide) rfl (fun c50 => ?_) (fun c50 => ?_)
      · have q4 : B (i + 1) = true := by cases h : B (i + 1); exact absurd ((bv _ (by omega)).mpr h) c50; rfl
        refine gk_iconst (v := 1) dX11_isBeside_99 (pc' := 100) rfl (by decide) ?_
        refine gk_goto dX11_isBeside_100 (tgt := 104) (by decide) ?_
        refine gk_zret dX11_isBeside_104 rfl rfl (by first | exact ht (Or.inl ⟨q1, q2⟩) | exact ht (Or.inr (Or.inl ⟨q3, q4⟩)) | exact ht (Or.inr (Or.inr (Or.inl ⟨q5, q6⟩))) | exact ht (Or.inr (Or.inr (Or.inr ⟨q7, q8⟩))) | exact hn (fun z => by rcases z with ⟨z, y⟩ | ⟨z, y⟩ | ⟨z, y⟩ | ⟨z, y⟩ <;> first | omega | (rw [y] at q2; cases q2) | (rw [y] at q4; cases q4) | (rw [y] at q6; cases q6) | (rw [y] at q8; cases q8)))
      · have q4 : B (i + 1) = false := (bv _ (by omega)).mp c50
        refine gk_iload1 dX11_isBeside_53 (pc' := 54) rfl ?_
        refine gk_aload0 dX11_isBeside_54 (pc' := 55) rfl ?_
        refine gk_getf (fs := [_, _, _, _, _, _, _, _, _, _, _, _, _, _, _, _, _, _, _, _, _, _, _, _, _, _]) gF_Mo_138 dX11_isBeside_55 (pc' := 58) rfl (by exact (mkJ)) rfl ?_
        rw [hZ.1]
        refine gk_icmp_lt dX11_isBeside_58 (tgt := 75) (pc' := 61) (by decide) rfl (fun c58 => ?_) (fun c58 => ?_)
        · have q5 : ¬ w ≤ i := by have := (nI_ltI (by omega) (by omega)).mp c58; omega
          refine gk_iload1 dX11_isBeside_75 (pc' := 76) rfl ?_
          refine gk_aload0 dX11_isBeside_76 (pc' := 77) rfl ?_
          refine gk_getf (fs := [_, _, _, _, _, _, _, _, _, _, _, _, _, _, _, _, _, _, _, _, _, _, _, _, _, _]) gF_Mo_138 dX11_isBeside_77 (pc' := 80) rfl (by exact (mkJ)) rfl ?_
          rw [hZ.1]
          refine gk_iaddN dX11_isBeside_80 (pc' := 81) rfl ?_
          refine gk_iload3 dX11_isBeside_81 (pc' := 82) rfl ?_
          refine gk_icmp_ge dX11_isBeside_82 (tgt := 103) (pc' := 85) (by decide) rfl (fun c82 => ?_) (fun c82 => ?_)
          · have q7 : ¬ i + w < w * t := by have := (nI_leI (by omega) (by omega)).mp c82; omega
            refine gk_iconst (v := 0) dX11_isBeside_103 (pc' := 104) rfl (by decide) ?_
            refine gk_zret dX11_isBeside_104 rfl rfl (by first | exact ht (Or.inl ⟨q1, q2⟩) | exact ht (Or.inr (Or.inl ⟨q3, q4⟩)) | exact ht (Or.inr (Or.inr (Or.inl ⟨q5, q6⟩))) | exact ht (Or.inr (Or.inr (Or.inr ⟨q7, q8⟩))) | exact hn (fun z => by rcases z with ⟨z, y⟩ | ⟨z, y⟩ | ⟨z, y⟩ | ⟨z, y⟩ <;> first | omega | (rw [y] at q2; cases q2) | (rw [y] at q4; cases q4) | (rw [y] at q6; cases q6) | (rw [y] at q8; cases q8)))
          · have q7 : i + w < w * t := by have : ¬ w * t ≤ i + w := (fun z => c82 (nI_le z (by omega))); omega
            refine gk_aload0 dX11_isBeside_85 (pc' := 86) rfl ?_
            refine gk_getf (fs := [_, _, _, _, _, _, _, _, _, _, _, _, _, _, _, _, _, _, _, _, _, _, _, _, _, _]) gF_Mo_56 dX11_isBeside_86 (pc' := 89) rfl (by exact (mkJ)) rfl ?_
            refine gk_iload1 dX11_isBeside_89 (pc' := 90) rfl ?_
            refine gk_aload0 dX11_isBeside_90 (pc' := 91) rfl ?_
            refine gk_getf (fs := [_, _, _, _, _, _, _, _, _, _, _, _, _, _, _, _, _, _, _, _, _, _, _, _, _, _]) gF_Mo_138 dX11_isBeside_91 (pc' := 94) rfl (by exact (mkJ)) rfl ?_
            rw [hZ.1]
            refine gk_iaddN dX11_isBeside_94 (pc' := 95) rfl ?_
            refine gk_zald (t0 := 1) rfl dX11_isBeside_95 (pc' := 96) rfl (by exact (mkA16)) (vp_in_nI (by omega) (by decide)) ?_
            rw [nI_clamp (by omega)]
            refine gk_if_eq dX11_isBeside_96 (tgt := 103) (pc' := 99) (by decide) rfl (fun c96 => ?_) (fun c96 => ?_)
            · have q8 : B (i + w) = false := (bv _ (by omega)).mp c96
              refine gk_iconst (v := 0) dX11_isBeside_103 (pc' := 104) rfl (by decide) ?_
              refine gk_zret dX11_isBeside_104 rfl rfl (by first | exact ht (Or.inl ⟨q1, q2⟩) | exact ht (Or.inr (Or.inl ⟨q3, q4⟩)) | exact ht (Or.inr (Or.inr (Or.inl ⟨q5, q6⟩))) | exact ht (Or.inr (Or.inr (Or.inr ⟨q7, q8⟩))) | exact hn (fun z => by rcases z with ⟨z, y⟩ | ⟨z, y⟩ | ⟨z, y⟩ | ⟨z, y⟩ <;> first | omega | (rw [y] at q2; cases q2) | (rw [y] at q4; cases q4) | (rw [y] at q6; cases q6) | (rw [y] at q8; cases q8)))
            · have q8 : B (i + w) = true := by cases h : B (i + w); exact absurd ((bv _ (by omega)).mpr h) c96; rfl
              refine gk_iconst (v := 1) dX11_isBeside_99 (pc' := 100) rfl (by decide) ?_
              refine gk_goto dX11_isBeside_100 (tgt := 104) (by decide) ?_
              refine gk_zret dX11_isBeside_104 rfl rfl (by first | exact ht (Or.inl ⟨q1, q2⟩) | exact ht (Or.inr (Or.inl ⟨q3, q4⟩)) | exact ht (Or.inr (Or.inr (Or.inl ⟨q5, q6⟩))) | exact ht (Or.inr (Or.inr (Or.inr ⟨q7, q8⟩))) | exact hn (fun z => by rcases z with ⟨z, y⟩ | ⟨z, y⟩ | ⟨z, y⟩ | ⟨z, y⟩ <;> first | omega | (rw [y] at q2; cases q2) | (rw [y] at q4; cases q4) | (rw [y] at q6; cases q6) | (rw [y] at q8; cases q8)))
        · have q5 : w ≤ i := by have : ¬ i < w := (fun z => c58 (nI_lt z (by omega))); omega
          refine gk_aload0 dX11_isBeside_61 (pc' := 62) rfl ?_
          refine gk_getf (fs := [_, _, _, _, _, _, _, _, _, _, _, _, _, _, _, _, _, _, _, _, _, _, _, _, _, _]) gF_Mo_56 dX11_isBeside_62 (pc' := 65) rfl (by exact (mkJ)) rfl ?_
          refine gk_iload1 dX11_isBeside_65 (pc' := 66) rfl ?_
          refine gk_aload0 dX11_isBeside_66 (pc' := 67) rfl ?_
          refine gk_getf (fs := [_, _, _, _, _, _, _, _, _, _, _, _, _, _, _, _, _, _, _, _, _, _, _, _, _, _]) gF_Mo_138 dX11_isBeside_67 (pc' := 70) rfl (by exact (mkJ)) rfl ?_
          rw [hZ.1]
          refine gk_isubN dX11_isBeside_70 (pc' := 71) rfl (by omega) ?_
          refine gk_zald (t0 := 1) rfl dX11_isBeside_71 (pc' := 72) rfl (by exact (mkA16)) (vp_in_nI (by omega) (by decide)) ?_
          rw [nI_clamp (by omega)]
          refine gk_if_ne dX11_isBeside_72 (tgt := 99) (pc' := 75) (by decide) rfl (fun c72 => ?_) (fun c72 => ?_)
          · have q6 : B (i - w) = true := by cases h : B (i - w); exact absurd ((bv _ (by omega)).mpr h) c72; rfl
            refine gk_iconst (v := 1) dX11_isBeside_99 (pc' := 100) rfl (by decide) ?_
            refine gk_goto dX11_isBeside_100 (tgt := 104) (by decide) ?_
            refine gk_zret dX11_isBeside_104 rfl rfl (by first | exact ht (Or.inl ⟨q1, q2⟩) | exact ht (Or.inr (Or.inl ⟨q3, q4⟩)) | exact ht (Or.inr (Or.inr (Or.inl ⟨q5, q6⟩))) | exact ht (Or.inr (Or.inr (Or.inr ⟨q7, q8⟩))) | exact hn (fun z => by rcases z with ⟨z, y⟩ | ⟨z, y⟩ | ⟨z, y⟩ | ⟨z, y⟩ <;> first | omega | (rw [y] at q2; cases q2) | (rw [y] at q4; cases q4) | (rw [y] at q6; cases q6) | (rw [y] at q8; cases q8)))
          · have q6 : B (i - w) = false := (bv _ (by omega)).mp c72
            refine gk_iload1 dX11_isBeside_75 (pc' := 76) rfl ?_
            refine gk_aload0 dX11_isBeside_76 (pc' := 77) rfl ?_
            refine gk_getf (fs := [_, _, _, _, _, _, _, _, _, _, _, _, _, _, _, _, _, _, _, _, _, _, _, _, _, _]) gF_Mo_138 dX11_isBeside_77 (pc' := 80) rfl (by exact (mkJ)) rfl ?_
            rw [hZ.1]
            refine gk_iaddN dX11_isBeside_80 (pc' := 81) rfl ?_
            refine gk_iload3 dX11_isBeside_81 (pc' := 82) rfl ?_
            refine gk_icmp_ge dX11_isBeside_82 (tgt := 103) (pc' := 85) (by decide) rfl (fun c82 => ?_) (fun c82 => ?_)
            · have q7 : ¬ i + w < w * t := by have := (nI_leI (by omega) (by omega)).mp c82; omega
              refine gk_iconst (v := 0) dX11_isBeside_103 (pc' := 104) rfl (by decide) ?_
              refine gk_zret dX11_isBeside_104 rfl rfl (by first | exact ht (Or.inl ⟨q1, q2⟩) | exact ht (Or.inr (Or.inl ⟨q3, q4⟩)) | exact ht (Or.inr (Or.inr (Or.inl ⟨q5, q6⟩))) | exact ht (Or.inr (Or.inr (Or.inr ⟨q7, q8⟩))) | exact hn (fun z => by rcases z with ⟨z, y⟩ | ⟨z, y⟩ | ⟨z, y⟩ | ⟨z, y⟩ <;> first | omega | (rw [y] at q2; cases q2) | (rw [y] at q4; cases q4) | (rw [y] at q6; cases q6) | (rw [y] at q8; cases q8)))
            · have q7 : i + w < w * t := by have : ¬ w * t ≤ i + w := (fun z => c82 (nI_le z (by omega))); omega
              refine gk_aload0 dX11_isBeside_85 (pc' := 86) rfl ?_
              refine gk_getf (fs := [_, _, _, _, _, _, _, _, _, _, _, _, _, _, _, _, _, _, _, _, _, _, _, _, _, _]) gF_Mo_56 dX11_isBeside_86 (pc' := 89) rfl (by exact (mkJ)) rfl ?_
              refine gk_iload1 dX11_isBeside_89 (pc' := 90) rfl ?_
              refine gk_aload0 dX11_isBeside_90 (pc' := 91) rfl ?_
              refine gk_getf (fs := [_, _, _, _, _, _, _, _, _, _, _, _, _, _, _, _, _, _, _, _, _, _, _, _, _, _]) gF_Mo_138 dX11_isBeside_91 (pc' := 94) rfl (by exact (mkJ)) rfl ?_
              rw [hZ.1]
              refine gk_iaddN dX11_isBeside_94 (pc' := 95) rfl ?_
              refine gk_zald (t0 := 1) rfl dX11_isBeside_95 (pc' := 96) rfl (by exact (mkA16)) (vp_in_nI (by omega) (by decide)) ?_
              rw [nI_clamp (by omega)]
              refine gk_if_eq dX11_isBeside_96 (tgt := 103) (pc' := 99) (by decide) rfl (fun c96 => ?_) (fun c96 => ?_)
              · have q8 : B (i + w) = false := (bv _ (by omega)).mp c96
                refine gk_iconst (v := 0) dX11_isBeside_103 (pc' := 104) rfl (by decide) ?_
                refine gk_zret dX11_isBeside_104 rfl rfl (by first | exact ht (Or.inl ⟨q1, q2⟩) | exact ht (Or.inr (Or.inl ⟨q3, q4⟩)) | exact ht (Or.inr (Or.inr (Or.inl ⟨q5, q6⟩))) | exact ht (Or.inr (Or.inr (Or.inr ⟨q7, q8⟩))) | exact hn (fun z => by rcases z with ⟨z, y⟩ | ⟨z, y⟩ | ⟨z, y⟩ | ⟨z, y⟩ <;> first | omega | (rw [y] at q2; cases q2) | (rw [y] at q4; cases q4) | (rw [y] at q6; cases q6) | (rw [y] at q8; cases q8)))
              · have q8 : B (i + w) = true := by cases h : B (i + w); exact absurd ((bv _ (by omega)).mpr h) c96; rfl
                refine gk_iconst (v := 1) dX11_isBeside_99 (pc' := 100) rfl (by decide) ?_
                refine gk_goto dX11_isBeside_100 (tgt := 104) (by decide) ?_
                refine gk_zret dX11_isBeside_104 rfl rfl (by first | exact ht (Or.inl ⟨q1, q2⟩) | exact ht (Or.inr (Or.inl ⟨q3, q4⟩)) | exact ht (Or.inr (Or.inr (Or.inl ⟨q5, q6⟩))) | exact ht (Or.inr (Or.inr (Or.inr ⟨q7, q8⟩))) | exact hn (fun z => by rcases z with ⟨z, y⟩ | ⟨z, y⟩ | ⟨z, y⟩ | ⟨z, y⟩ <;> first | omega | (rw [y] at q2; cases q2) | (rw [y] at q4; cases q4) | (rw [y] at q6; cases q6) | (rw [y] at q8; cases q8)))
  · have q1 : 0 < x := by rcases Nat.eq_zero_or_pos x with z | z; rw [z] at c18; exact absurd (by decide) c18; exact z
    refine gk_aload0 dX11_isBeside_21 (pc' := 22) rfl ?_
    refine gk_getf (fs := [_, _, _, _, _, _, _, _, _, _, _, _, _, _, _, _, _, _, _, _, _, _, _, _, _, _]) gF_Mo_56 dX11_isBeside_22 (pc' := 25) rfl (by exact (mkJ)) rfl ?_
    refine gk_iload1 dX11_isBeside_25 (pc' := 26) rfl ?_
    refine gk_iconst (v := nI 1) dX11_isBeside_26 (pc' := 27) rfl (by decide) ?_
    refine gk_isubN dX11_isBeside_27 (pc' := 28) rfl (by omega) ?_
    refine gk_zald (t0 := 1) rfl dX11_isBeside_28 (pc' := 29) rfl (by exact (mkA16)) (vp_in_nI (by omega) (by decide)) ?_
    rw [nI_clamp (by omega)]
    refine gk_if_ne dX11_isBeside_29 (tgt := 99) (pc' := 32) (by decide) rfl (fun c29 => ?_) (fun c29 => ?_)
    · have q2 : B (i - 1) = true := by cases h : B (i - 1); exact absurd ((bv _ (by omega)).mpr h) c29; rfl
      refine gk_iconst (v := 1) dX11_isBeside_99 (pc' := 100) rfl (by decide) ?_
      refine gk_goto dX11_isBeside_100 (tgt := 104) (by decide) ?_
      refine gk_zret dX11_isBeside_104 rfl rfl (by first | exact ht (Or.inl ⟨q1, q2⟩) | exact ht (Or.inr (Or.inl ⟨q3, q4⟩)) | exact ht (Or.inr (Or.inr (Or.inl ⟨q5, q6⟩))) | exact ht (Or.inr (Or.inr (Or.inr ⟨q7, q8⟩))) | exact hn (fun z => by rcases z with ⟨z, y⟩ | ⟨z, y⟩ | ⟨z, y⟩ | ⟨z, y⟩ <;> first | omega | (rw [y] at q2; cases q2) | (rw [y] at q4; cases q4) | (rw [y] at q6; cases q6) | (rw [y] at q8; cases q8)))
    · have q2 : B (i - 1) = false := (bv _ (by omega)).mp c29
      refine gk_iload2 dX11_isBeside_32 (pc' := 33) rfl ?_
      refine gk_aload0 dX11_isBeside_33 (pc' := 34) rfl ?_
      refine gk_getf (fs := [_, _, _, _, _, _, _, _, _, _, _, _, _, _, _, _, _, _, _, _, _, _, _, _, _, _]) gF_Mo_138 dX11_isBeside_34 (pc' := 37) rfl (by exact (mkJ)) rfl ?_
      rw [hZ.1]
      refine gk_iconst (v := nI 1) dX11_isBeside_37 (pc' := 38) rfl (by decide) ?_
      refine gk_isubN dX11_isBeside_38 (pc' := 39) rfl (by omega) ?_
      refine gk_icmp_ge dX11_isBeside_39 (tgt := 53) (pc' := 42) (by decide) rfl (fun c39 => ?_) (fun c39 => ?_)
      · have q3 : ¬ x < w - 1 := by have := (nI_leI (by omega) (by omega)).mp c39; omega
        refine gk_iload1 dX11_isBeside_53 (pc' := 54) rfl ?_
        refine gk_aload0 dX11_isBeside_54 (pc' := 55) rfl ?_
        refine gk_getf (fs := [_, _, _, _, _, _, _, _, _, _, _, _, _, _, _, _, _, _, _, _, _, _, _, _, _, _]) gF_Mo_138 dX11_isBeside_55 (pc' := 58) rfl (by exact (mkJ)) rfl ?_
        rw [hZ.1]
        refine gk_icmp_lt dX11_isBeside_58 (tgt := 75) (pc' := 61) (by decide) rfl (fun c58 => ?_) (fun c58 => ?_)
        · have q5 : ¬ w ≤ i := by have := (nI_ltI (by omega) (by omega)).mp c58; omega
          refine gk_iload1 dX11_isBeside_75 (pc' := 76) rfl ?_
          refine gk_aload0 dX11_isBeside_76 (pc' := 77) rfl ?_
          refine gk_getf (fs := [_, _, _, _, _, _, _, _, _, _, _, _, _, _, _, _, _, _, _, _, _, _, _, _, _, _]) gF_Mo_138 dX11_isBeside_77 (pc' := 80) rfl (by exact (mkJ)) rfl ?_
          rw [hZ.1]
          refine gk_iaddN dX11_isBeside_80 (pc' := 81) rfl ?_
          refine gk_iload3 dX11_isBeside_81 (pc' := 82) rfl ?_
          refine gk_icmp_ge dX11_isBeside_82 (tgt := 103) (pc' := 85) (by decide) rfl (fun c82 => ?_) (fun c82 => ?_)
          · have q7 : ¬ i + w < w * t := by have := (nI_leI (by omega) (by omega)).mp c82; omega
            refine gk_iconst (v := 0) dX11_isBeside_103 (pc' := 104) rfl (by decide) ?_
            refine gk_zret dX11_isBeside_104 rfl rfl (by first | exact ht (Or.inl ⟨q1, q2⟩) | exact ht (Or.inr (Or.inl ⟨q3, q4⟩)) | exact ht (Or.inr (Or.inr (Or.inl ⟨q5, q6⟩))) | exact ht (Or.inr (Or.inr (Or.inr ⟨q7, q8⟩))) | exact hn (fun z => by rcases z with ⟨z, y⟩ | ⟨z, y⟩ | ⟨z, y⟩ | ⟨z, y⟩ <;> first | omega | (rw [y] at q2; cases q2) | (rw [y] at q4; cases q4) | (rw [y] at q6; cases q6) | (rw [y] at q8; cases q8)))
          · have q7 : i + w < w * t := by have : ¬ w * t ≤ i + w := (fun z => c82 (nI_le z (by omega))); omega
            refine gk_aload0 dX11_isBeside_85 (pc' := 86) rfl ?_
            refine gk_getf (fs := [_, _, _, _, _, _, _, _, _, _, _, _, _, _, _, _, _, _, _, _, _, _, _, _, _, _]) gF_Mo_56 dX11_isBeside_86 (pc' := 89) rfl (by exact (mkJ)) rfl ?_
            refine gk_iload1 dX11_isBeside_89 (pc' := 90) rfl ?_
            refine gk_aload0 dX11_isBeside_90 (pc' := 91) rfl ?_
            refine gk_getf (fs := [_, _, _, _, _, _, _, _, _, _, _, _, _, _, _, _, _, _, _, _, _, _, _, _, _, _]) gF_Mo_138 dX11_isBeside_91 (pc' := 94) rfl (by exact (mkJ)) rfl ?_
            rw [hZ.1]
            refine gk_iaddN dX11_isBeside_94 (pc' := 95) rfl ?_
            refine gk_zald (t0 := 1) rfl dX11_isBeside_95 (pc' := 96) rfl (by exact (mkA16)) (vp_in_nI (by omega) (by decide)) ?_
            rw [nI_clamp (by omega)]
            refine gk_if_eq dX11_isBeside_96 (tgt := 103) (pc' := 99) (by decide) rfl (fun c96 => ?_) (fun c96 => ?_)
            · have q8 : B (i + w) = false := (bv _ (by omega)).mp c96
              refine gk_iconst (v := 0) dX11_isBeside_103 (pc' := 104) rfl (by decide) ?_
              refine gk_zret dX11_isBeside_104 rfl rfl (by first | exact ht (Or.inl ⟨q1, q2⟩) | exact ht (Or.inr (Or.inl ⟨q3, q4⟩)) | exact ht (Or.inr (Or.inr (Or.inl ⟨q5, q6⟩))) | exact ht (Or.inr (Or.inr (Or.inr ⟨q7, q8⟩))) | exact hn (fun z => by rcases z with ⟨z, y⟩ | ⟨z, y⟩ | ⟨z, y⟩ | ⟨z, y⟩ <;> first | omega | (rw [y] at q2; cases q2) | (rw [y] at q4; cases q4) | (rw [y] at q6; cases q6) | (rw [y] at q8; cases q8)))
            · have q8 : B (i + w) = true := by cases h : B (i + w); exact absurd ((bv _ (by omega)).mpr h) c96; rfl
              refine gk_iconst (v := 1) dX11_isBeside_99 (pc' := 100) rfl (by decide) ?_
              refine gk_goto dX11_isBeside_100 (tgt := 104) (by decide) ?_
              refine gk_zret dX11_isBeside_104 rfl rfl (by first | exact ht (Or.inl ⟨q1, q2⟩) | exact ht (Or.inr (Or.inl ⟨q3, q4⟩)) | exact ht (Or.inr (Or.inr (Or.inl ⟨q5, q6⟩))) | exact ht (Or.inr (Or.inr (Or.inr ⟨q7, q8⟩))) | exact hn (fun z => by rcases z with ⟨z, y⟩ | ⟨z, y⟩ | ⟨z, y⟩ | ⟨z, y⟩ <;> first | omega | (rw [y] at q2; cases q2) | (rw [y] at q4; cases q4) | (rw [y] at q6; cases q6) | (rw [y] at q8; cases q8)))
        · have q5 : w ≤ i := by have : ¬ i < w := (fun z => c58 (nI_lt z (by omega))); omega
          refine gk_aload0 dX11_isBeside_61 (pc' := 62) rfl ?_
          refine gk_getf (fs := [_, _, _, _, _, _, _, _, _, _, _, _, _, _, _, _, _, _, _, _, _, _, _, _, _, _]) gF_Mo_56 dX11_isBeside_62 (pc' := 65) rfl (by exact (mkJ)) rfl ?_
          refine gk_iload1 dX11_isBeside_65 (pc' := 66) rfl ?_
          refine gk_aload0 dX11_isBeside_66 (pc' := 67) rfl ?_
          refine gk_getf (fs := [_, _, _, _, _, _, _, _, _, _, _, _, _, _, _, _, _, _, _, _, _, _, _, _, _, _]) gF_Mo_138 dX11_isBeside_67 (pc' := 70) rfl (by exact (mkJ)) rfl ?_
          rw [hZ.1]
          refine gk_isubN dX11_isBeside_70 (pc' := 71) rfl (by omega) ?_
          refine gk_zald (t0 := 1) rfl dX11_isBeside_71 (pc' := 72) rfl (by exact (mkA16)) (vp_in_nI (by omega) (by decide)) ?_
          rw [nI_clamp (by omega)]
          refine gk_if_ne dX11_isBeside_72 (tgt := 99) (pc' := 75) (by decide) rfl (fun c72 => ?_) (fun c72 => ?_)
          · have q6 : B (i - w) = true := by cases h : B (i - w); exact absurd ((bv _ (by omega)).mpr h) c72; rfl
            refine gk_iconst (v := 1) dX11_isBeside_99 (pc' := 100) rfl (by decide) ?_
            refine gk_goto dX11_isBeside_100 (tgt := 104) (by decide) ?_
            refine gk_zret dX11_isBeside_104 rfl rfl (by first | exact ht (Or.inl ⟨q1, q2⟩) | exact ht (Or.inr (Or.inl ⟨q3, q4⟩)) | exact ht (Or.inr (Or.inr (Or.inl ⟨q5, q6⟩))) | exact ht (Or.inr (Or.inr (Or.inr ⟨q7, q8⟩))) | exact hn (fun z => by rcases z with ⟨z, y⟩ | ⟨z, y⟩ | ⟨z, y⟩ | ⟨z, y⟩ <;> first | omega | (rw [y] at q2; cases q2) | (rw [y] at q4; cases q4) | (rw [y] at q6; cases q6) | (rw [y] at q8; cases q8)))
          · have q6 : B (i - w) = false := (bv _ (by omega)).mp c72
            refine gk_iload1 dX11_isBeside_75 (pc' := 76) rfl ?_
            refine gk_aload0 dX11_isBeside_76 (pc' := 77) rfl ?_
            refine gk_getf (fs := [_, _, _, _, _, _, _, _, _, _, _, _, _, _, _, _, _, _, _, _, _, _, _, _, _, _]) gF_Mo_138 dX11_isBeside_77 (pc' := 80) rfl (by exact (mkJ)) rfl ?_
            rw [hZ.1]
            refine gk_iaddN dX11_isBeside_80 (pc' := 81) rfl ?_
            refine gk_iload3 dX11_isBeside_81 (pc' := 82) rfl ?_
            refine gk_icmp_ge dX11_isBeside_82 (tgt := 103) (pc' := 85) (by decide) rfl (fun c82 => ?_) (fun c82 => ?_)
            · have q7 : ¬ i + w < w * t := by have := (nI_leI (by omega) (by omega)).mp c82; omega
              refine gk_iconst (v := 0) dX11_isBeside_103 (pc' := 104) rfl (by decide) ?_
              refine gk_zret dX11_isBeside_104 rfl rfl (by first | exact ht (Or.inl ⟨q1, q2⟩) | exact ht (Or.inr (Or.inl ⟨q3, q4⟩)) | exact ht (Or.inr (Or.inr (Or.inl ⟨q5, q6⟩))) | exact ht (Or.inr (Or.inr (Or.inr ⟨q7, q8⟩))) | exact hn (fun z => by rcases z with ⟨z, y⟩ | ⟨z, y⟩ | ⟨z, y⟩ | ⟨z, y⟩ <;> first | omega | (rw [y] at q2; cases q2) | (rw [y] at q4; cases q4) | (rw [y] at q6; cases q6) | (rw [y] at q8; cases q8)))
            · have q7 : i + w < w * t := by have : ¬ w * t ≤ i + w := (fun z => c82 (nI_le z (by omega))); omega
              refine gk_aload0 dX11_isBeside_85 (pc' := 86) rfl ?_
              refine gk_getf (fs := [_, _, _, _, _, _, _, _, _, _, _, _, _, _, _, _, _, _, _, _, _, _, _, _, _, _]) gF_Mo_56 dX11_isBeside_86 (pc' := 89) rfl (by exact (mkJ)) rfl ?_
              refine gk_iload1 dX11_isBeside_89 (pc' := 90) rfl ?_
              refine gk_aload0 dX11_isBeside_90 (pc' := 91) rfl ?_
              refine gk_getf (fs := [_, _, _, _, _, _, _, _, _, _, _, _, _, _, _, _, _, _, _, _, _, _, _, _, _, _]) gF_Mo_138 dX11_isBeside_91 (pc' := 94) rfl (by exact (mkJ)) rfl ?_
              rw [hZ.1]
              refine gk_iaddN dX11_isBeside_94 (pc' := 95) rfl ?_
              refine gk_zald (t0 := 1) rfl dX11_isBeside_95 (pc' := 96) rfl (by exact (mkA16)) (vp_in_nI (by omega) (by decide)) ?_
              rw [nI_clamp (by omega)]
              refine gk_if_eq dX11_isBeside_96 (tgt := 103) (pc' := 99) (by decide) rfl (fun c96 => ?_) (fun c96 => ?_)
              · have q8 : B (i + w) = false := (bv _ (by omega)).mp c96
                refine gk_iconst (v := 0) dX11_isBeside_103 (pc' := 104) rfl (by decide) ?_
                refine gk_zret dX11_isBeside_104 rfl rfl (by first | exact ht (Or.inl ⟨q1, q2⟩) | exact ht (Or.inr (Or.inl ⟨q3, q4⟩)) | exact ht (Or.inr (Or.inr (Or.inl ⟨q5, q6⟩))) | exact ht (Or.inr (Or.inr (Or.inr ⟨q7, q8⟩))) | exact hn (fun z => by rcases z with ⟨z, y⟩ | ⟨z, y⟩ | ⟨z, y⟩ | ⟨z, y⟩ <;> first | omega | (rw [y] at q2; cases q2) | (rw [y] at q4; cases q4) | (rw [y] at q6; cases q6) | (rw [y] at q8; cases q8)))
              · have q8 : B (i + w) = true := by cases h : B (i + w); exact absurd ((bv _ (by omega)).mpr h) c96; rfl
                refine gk_iconst (v := 1) dX11_isBeside_99 (pc' := 100) rfl (by decide) ?_
                refine gk_goto dX11_isBeside_100 (tgt := 104) (by decide) ?_
                refine gk_zret dX11_isBeside_104 rfl rfl (by first | exact ht (Or.inl ⟨q1, q2⟩) | exact ht (Or.inr (Or.inl ⟨q3, q4⟩)) | exact ht (Or.inr (Or.inr (Or.inl ⟨q5, q6⟩))) | exact ht (Or.inr (Or.inr (Or.inr ⟨q7, q8⟩))) | exact hn (fun z => by rcases z with ⟨z, y⟩ | ⟨z, y⟩ | ⟨z, y⟩ | ⟨z, y⟩ <;> first | omega | (rw [y] at q2; cases q2) | (rw [y] at q4; cases q4) | (rw [y] at q6; cases q6) | (rw [y] at q8; cases q8)))
      · have q3 : x < w - 1 := by have : ¬ w - 1 ≤ x := (fun z => c39 (nI_le z (by omega))); omega
        have r1 := rgt q3
        refine gk_aload0 dX11_isBeside_42 (pc' := 43) rfl ?_
        refine gk_getf (fs := [_, _, _, _, _, _, _, _, _, _, _, _, _, _, _, _, _, _, _, _, _, _, _, _, _, _]) gF_Mo_56 dX11_isBeside_43 (pc' := 46) rfl (by exact (mkJ)) rfl ?_
        refine gk_iload1 dX11_isBeside_46 (pc' := 47) rfl ?_
        refine gk_iconst (v := nI 1) dX11_isBeside_47 (pc' := 48) rfl (by decide) ?_
        refine gk_iaddN dX11_isBeside_48 (pc' := 49) rfl ?_
        refine gk_zald (t0 := 1) rfl dX11_isBeside_49 (pc' := 50) rfl (by exact (mkA16)) (vp_in_nI (by omega) (by decide)) ?_
        rw [nI_clamp (by omega)]
        refine gk_if_ne dX11_isBeside_50 (tgt := 99) (pc' := 53) (by decide) rfl (fun c50 => ?_) (fun c50 => ?_)
        · have q4 : B (i + 1) = true := by cases h : B (i + 1); exact absurd ((bv _ (by omega)).mpr h) c50; rfl
          refine gk_iconst (v := 1) dX11_isBeside_99 (pc' := 100) rfl (by decide) ?_
          refine gk_goto dX11_isBeside_100 (tgt := 104) (by decide) ?_
          refine gk_zret dX11_isBeside_104 rfl rfl (by first | exact ht (Or.inl ⟨q1, q2⟩) | exact ht (Or.inr (Or.inl ⟨q3, q4⟩)) | exact ht (Or.inr (Or.inr (Or.inl ⟨q5, q6⟩))) | exact ht (Or.inr (Or.inr (Or.inr ⟨q7, q8⟩))) | exact hn (fun z => by rcases z with ⟨z, y⟩ | ⟨z, y⟩ | ⟨z, y⟩ | ⟨z, y⟩ <;> first | omega | (rw [y] at q2; cases q2) | (rw [y] at q4; cases q4) | (rw [y] at q6; cases q6) | (rw [y] at q8; cases q8)))
        · have q4 : B (i + 1) = false := (bv _ (by omega)).mp c50
          refine gk_iload1 dX11_isBeside_53 (pc' := 54) rfl ?_
          refine gk_aload0 dX11_isBeside_54 (pc' := 55) rfl ?_
          refine gk_getf (fs := [_, _, _, _, _, _, _, _, _, _, _, _, _, _, _, _, _, _, _, _, _, _, _, _, _, _]) gF_Mo_138 dX11_isBeside_55 (pc' := 58) rfl (by exact (mkJ)) rfl ?_
          rw [hZ.1]
          refine gk_icmp_lt dX11_isBeside_58 (tgt := 75) (pc' := 61) (by decide) rfl (fun c58 => ?_) (fun c58 => ?_)
          · have q5 : ¬ w ≤ i := by have := (nI_ltI (by omega) (by omega)).mp c58; omega
            refine gk_iload1 dX11_isBeside_75 (pc' := 76) rfl ?_
            refine gk_aload0 dX11_isBeside_76 (pc' := 77) rfl ?_
            refine gk_getf (fs := [_, _, _, _, _, _, _, _, _, _, _, _, _, _, _, _, _, _, _, _, _, _, _, _, _, _]) gF_Mo_138 dX11_isBeside_77 (pc' := 80) rfl (by exact (mkJ)) rfl ?_
            rw [hZ.1]
            refine gk_iaddN dX11_isBeside_80 (pc' := 81) rfl ?_
            refine gk_iload3 dX11_isBeside_81 (pc' := 82) rfl ?_
            refine gk_icmp_ge dX11_isBeside_82 (tgt := 103) (pc' := 85) (by decide) rfl (fun c82 => ?_) (fun c82 => ?_)
            · have q7 : ¬ i + w < w * t := by have := (nI_leI (by omega) (by omega)).mp c82; omega
              refine gk_iconst (v := 0) dX11_isBeside_103 (pc' := 104) rfl (by decide) ?_
              refine gk_zret dX11_isBeside_104 rfl rfl (by first | exact ht (Or.inl ⟨q1, q2⟩) | exact ht (Or.inr (Or.inl ⟨q3, q4⟩)) | exact ht (Or.inr (Or.inr (Or.inl ⟨q5, q6⟩))) | exact ht (Or.inr (Or.inr (Or.inr ⟨q7, q8⟩))) | exact hn (fun z => by rcases z with ⟨z, y⟩ | ⟨z, y⟩ | ⟨z, y⟩ | ⟨z, y⟩ <;> first | omega | (rw [y] at q2; cases q2) | (rw [y] at q4; cases q4) | (rw [y] at q6; cases q6) | (rw [y] at q8; cases q8)))
            · have q7 : i + w < w * t := by have : ¬ w * t ≤ i + w := (fun z => c82 (nI_le z (by omega))); omega
              refine gk_aload0 dX11_isBeside_85 (pc' := 86) rfl ?_
              refine gk_getf (fs := [_, _, _, _, _, _, _, _, _, _, _, _, _, _, _, _, _, _, _, _, _, _, _, _, _, _]) gF_Mo_56 dX11_isBeside_86 (pc' := 89) rfl (by exact (mkJ)) rfl ?_
              refine gk_iload1 dX11_isBeside_89 (pc' := 90) rfl ?_
              refine gk_aload0 dX11_isBeside_90 (pc' := 91) rfl ?_
              refine gk_getf (fs := [_, _, _, _, _, _, _, _, _, _, _, _, _, _, _, _, _, _, _, _, _, _, _, _, _, _]) gF_Mo_138 dX11_isBeside_91 (pc' := 94) rfl (by exact (mkJ)) rfl ?_
              rw [hZ.1]
              refine gk_iaddN dX11_isBeside_94 (pc' := 95) rfl ?_
              refine gk_zald (t0 := 1) rfl dX11_isBeside_95 (pc' := 96) rfl (by exact (mkA16)) (vp_in_nI (by omega) (by decide)) ?_
              rw [nI_clamp (by omega)]
              refine gk_if_eq dX11_isBeside_96 (tgt := 103) (pc' := 99) (by decide) rfl (fun c96 => ?_) (fun c96 => ?_)
              · have q8 : B (i + w) = false := (bv _ (by omega)).mp c96
                refine gk_iconst (v := 0) dX11_isBeside_103 (pc' := 104) rfl (by decide) ?_
                refine gk_zret dX11_isBeside_104 rfl rfl (by first | exact ht (Or.inl ⟨q1, q2⟩) | exact ht (Or.inr (Or.inl ⟨q3, q4⟩)) | exact ht (Or.inr (Or.inr (Or.inl ⟨q5, q6⟩))) | exact ht (Or.inr (Or.inr (Or.inr ⟨q7, q8⟩))) | exact hn (fun z => by rcases z with ⟨z, y⟩ | ⟨z, y⟩ | ⟨z, y⟩ | ⟨z, y⟩ <;> first | omega | (rw [y] at q2; cases q2) | (rw [y] at q4; cases q4) | (rw [y] at q6; cases q6) | (rw [y] at q8; cases q8)))
              · have q8 : B (i + w) = true := by cases h : B (i + w); exact absurd ((bv _ (by omega)).mpr h) c96; rfl
                refine gk_iconst (v := 1) dX11_isBeside_99 (pc' := 100) rfl (by decide) ?_
                refine gk_goto dX11_isBeside_100 (tgt := 104) (by decide) ?_
                refine gk_zret dX11_isBeside_104 rfl rfl (by first | exact ht (Or.inl ⟨q1, q2⟩) | exact ht (Or.inr (Or.inl ⟨q3, q4⟩)) | exact ht (Or.inr (Or.inr (Or.inl ⟨q5, q6⟩))) | exact ht (Or.inr (Or.inr (Or.inr ⟨q7, q8⟩))) | exact hn (fun z => by rcases z with ⟨z, y⟩ | ⟨z, y⟩ | ⟨z, y⟩ | ⟨z, y⟩ <;> first | omega | (rw [y] at q2; cases q2) | (rw [y] at q4; cases q4) | (rw [y] at q6; cases q6) | (rw [y] at q8; cases q8)))
          · have q5 : w ≤ i := by have : ¬ i < w := (fun z => c58 (nI_lt z (by omega))); omega
            refine gk_aload0 dX11_isBeside_61 (pc' := 62) rfl ?_
            refine gk_getf (fs := [_, _, _, _, _, _, _, _, _, _, _, _, _, _, _, _, _, _, _, _, _, _, _, _, _, _]) gF_Mo_56 dX11_isBeside_62 (pc' := 65) rfl (by exact (mkJ)) rfl ?_
            refine gk_iload1 dX11_isBeside_65 (pc' := 66) rfl ?_
            refine gk_aload0 dX11_isBeside_66 (pc' := 67) rfl ?_
            refine gk_getf (fs := [_, _, _, _, _, _, _, _, _, _, _, _, _, _, _, _, _, _, _, _, _, _, _, _, _, _]) gF_Mo_138 dX11_isBeside_67 (pc' := 70) rfl (by exact (mkJ)) rfl ?_
            rw [hZ.1]
            refine gk_isubN dX11_isBeside_70 (pc' := 71) rfl (by omega) ?_
            refine gk_zald (t0 := 1) rfl dX11_isBeside_71 (pc' := 72) rfl (by exact (mkA16)) (vp_in_nI (by omega) (by decide)) ?_
            rw [nI_clamp (by omega)]
            refine gk_if_ne dX11_isBeside_72 (tgt := 99) (pc' := 75) (by decide) rfl (fun c72 => ?_) (fun c72 => ?_)
            · have q6 : B (i - w) = true := by cases h : B (i - w); exact absurd ((bv _ (by omega)).mpr h) c72; rfl
              refine gk_iconst (v := 1) dX11_isBeside_99 (pc' := 100) rfl (by decide) ?_
              refine gk_goto dX11_isBeside_100 (tgt := 104) (by decide) ?_
              refine gk_zret dX11_isBeside_104 rfl rfl (by first | exact ht (Or.inl ⟨q1, q2⟩) | exact ht (Or.inr (Or.inl ⟨q3, q4⟩)) | exact ht (Or.inr (Or.inr (Or.inl ⟨q5, q6⟩))) | exact ht (Or.inr (Or.inr (Or.inr ⟨q7, q8⟩))) | exact hn (fun z => by rcases z with ⟨z, y⟩ | ⟨z, y⟩ | ⟨z, y⟩ | ⟨z, y⟩ <;> first | omega | (rw [y] at q2; cases q2) | (rw [y] at q4; cases q4) | (rw [y] at q6; cases q6) | (rw [y] at q8; cases q8)))
            · have q6 : B (i - w) = false := (bv _ (by omega)).mp c72
              refine gk_iload1 dX11_isBeside_75 (pc' := 76) rfl ?_
              refine gk_aload0 dX11_isBeside_76 (pc' := 77) rfl ?_
              refine gk_getf (fs := [_, _, _, _, _, _, _, _, _, _, _, _, _, _, _, _, _, _, _, _, _, _, _, _, _, _]) gF_Mo_138 dX11_isBeside_77 (pc' := 80) rfl (by exact (mkJ)) rfl ?_
              rw [hZ.1]
              refine gk_iaddN dX11_isBeside_80 (pc' := 81) rfl ?_
              refine gk_iload3 dX11_isBeside_81 (pc' := 82) rfl ?_
              refine gk_icmp_ge dX11_isBeside_82 (tgt := 103) (pc' := 85) (by decide) rfl (fun c82 => ?_) (fun c82 => ?_)
              · have q7 : ¬ i + w < w * t := by have := (nI_leI (by omega) (by omega)).mp c82; omega
                refine gk_iconst (v := 0) dX11_isBeside_103 (pc' := 104) rfl (by decide) ?_
                refine gk_zret dX11_isBeside_104 rfl rfl (by first | exact ht (Or.inl ⟨q1, q2⟩) | exact ht (Or.inr (Or.inl ⟨q3, q4⟩)) | exact ht (Or.inr (Or.inr (Or.inl ⟨q5, q6⟩))) | exact ht (Or.inr (Or.inr (Or.inr ⟨q7, q8⟩))) | exact hn (fun z => by rcases z with ⟨z, y⟩ | ⟨z, y⟩ | ⟨z, y⟩ | ⟨z, y⟩ <;> first | omega | (rw [y] at q2; cases q2) | (rw [y] at q4; cases q4) | (rw [y] at q6; cases q6) | (rw [y] at q8; cases q8)))
              · have q7 : i + w < w * t := by have : ¬ w * t ≤ i + w := (fun z => c82 (nI_le z (by omega))); omega
                refine gk_aload0 dX11_isBeside_85 (pc' := 86) rfl ?_
                refine gk_getf (fs := [_, _, _, _, _, _, _, _, _, _, _, _, _, _, _, _, _, _, _, _, _, _, _, _, _, _]) gF_Mo_56 dX11_isBeside_86 (pc' := 89) rfl (by exact (mkJ)) rfl ?_
                refine gk_iload1 dX11_isBeside_89 (pc' := 90) rfl ?_
                refine gk_aload0 dX11_isBeside_90 (pc' := 91) rfl ?_
                refine gk_getf (fs := [_, _, _, _, _, _, _, _, _, _, _, _, _, _, _, _, _, _, _, _, _, _, _, _, _, _]) gF_Mo_138 dX11_isBeside_91 (pc' := 94) rfl (by exact (mkJ)) rfl ?_
                rw [hZ.1]
                refine gk_iaddN dX11_isBeside_94 (pc' := 95) rfl ?_
                refine gk_zald (t0 := 1) rfl dX11_isBeside_95 (pc' := 96) rfl (by exact (mkA16)) (vp_in_nI (by omega) (by decide)) ?_
                rw [nI_clamp (by omega)]
                refine gk_if_eq dX11_isBeside_96 (tgt := 103) (pc' := 99) (by decide) rfl (fun c96 => ?_) (fun c96 => ?_)
                · have q8 : B (i + w) = false := (bv _ (by omega)).mp c96
                  refine gk_iconst (v := 0) dX11_isBeside_103 (pc' := 104) rfl (by decide) ?_
                  refine gk_zret dX11_isBeside_104 rfl rfl (by first | exact ht (Or.inl ⟨q1, q2⟩) | exact ht (Or.inr (Or.inl ⟨q3, q4⟩)) | exact ht (Or.inr (Or.inr (Or.inl ⟨q5, q6⟩))) | exact ht (Or.inr (Or.inr (Or.inr ⟨q7, q8⟩))) | exact hn (fun z => by rcases z with ⟨z, y⟩ | ⟨z, y⟩ | ⟨z, y⟩ | ⟨z, y⟩ <;> first | omega | (rw [y] at q2; cases q2) | (rw [y] at q4; cases q4) | (rw [y] at q6; cases q6) | (rw [y] at q8; cases q8)))
                · have q8 : B (i + w) = true := by cases h : B (i + w); exact absurd ((bv _ (by omega)).mpr h) c96; rfl
                  refine gk_iconst (v := 1) dX11_isBeside_99 (pc' := 100) rfl (by decide) ?_
                  refine gk_goto dX11_isBeside_100 (tgt := 104) (by decide) ?_
                  refine gk_zret dX11_isBeside_104 rfl rfl (by first | exact ht (Or.inl ⟨q1, q2⟩) | exact ht (Or.inr (Or.inl ⟨q3, q4⟩)) | exact ht (Or.inr (Or.inr (Or.inl ⟨q5, q6⟩))) | exact ht (Or.inr (Or.inr (Or.inr ⟨q7, q8⟩))) | exact hn (fun z => by rcases z with ⟨z, y⟩ | ⟨z, y⟩ | ⟨z, y⟩ | ⟨z, y⟩ <;> first | omega | (rw [y] at q2; cases q2) | (rw [y] at q4; cases q4) | (rw [y] at q6; cases q6) | (rw [y] at q8; cases q8)))
theorem lp_Mo_fill0 {j x y w t : Nat} {tl v : Int32} (hZ : Z 4 = nI w) (ar : w * t ≤ 256) (hs : y * w + x < w * t) (hQ : ∀ f, (∀ q, q < w * t → f q = if decide (q = y * w + x) then 1 else 0) → ∀ l7, G (kx X) mt_Mo_fill (d + 10) b 124 [some (.ref m), some (.int (nI j)), some (.int (nI x)), some (.int (nI y)), some (.int tl), some (.int v), some (.int (nI (w * t))), some (.int l7), none, none, none] [] (mkH X h0 m (uA A 16 f) Z) Q) : ∀ n i f, i + n = w * t → (∀ q, q < i → f q = if decide (q = y * w + x) then 1 else 0) → G (kx X) mt_Mo_fill (d + 10) b 86 [some (.ref m), some (.int (nI j)), some (.int (nI x)), some (.int (nI y)), some (.int tl), some (.int v), some (.int (nI (w * t))), some (.int (nI i)), none, none, none] [] (mkH X h0 m (uA A 16 f) Z) Q := by
  intro n
  induction n with
  | zero =>
    intro i f hi hf
    refine gk_iload7 dX11_fill_86 (pc' := 88) rfl ?_
    refine gk_iload6 dX11_fill_88 (pc' := 90) rfl ?_
    refine gk_icmp_ge dX11_fill_90 (tgt := 124) (pc' := 93) (by decide) rfl (fun c90 => ?_) (fun c90 => absurd (nI_le (by omega) (by omega)) c90)
    exact hQ f (fun q hq => hf q (by omega)) _
  | succ n ih =>
    intro i f hi hf
    refine gk_iload7 dX11_fill_86 (pc' := 88) rfl ?_
    refine gk_iload6 dX11_fill_88 (pc' := 90) rfl ?_
    refine gk_icmp_ge dX11_fill_90 (tgt := 124) (pc' := 93) (by decide) rfl (fun c90 => absurd c90 (nI_ge (by omega) (by omega))) (fun c90 => ?_)
    refine gk_aload0 dX11_fill_93 (pc' := 94) rfl ?_
    refine gk_getf (fs := [_, _, _, _, _, _, _, _, _, _, _, _, _, _, _, _, _, _, _, _, _, _, _, _, _, _]) gF_Mo_56 dX11_fill_94 (pc' := 97) rfl (by exact (mkJ)) rfl ?_
    refine gk_iload7 dX11_fill_97 (pc' := 99) rfl ?_
    refine gk_iload7 dX11_fill_99 (pc' := 101) rfl ?_
    refine gk_iload3 dX11_fill_101 (pc' := 102) rfl ?_
    refine gk_aload0 dX11_fill_102 (pc' := 103) rfl ?_
    refine gk_getf (fs := [_, _, _, _, _, _, _, _, _, _, _, _, _, _, _, _, _, _, _, _, _, _, _, _, _, _]) gF_Mo_138 dX11_fill_103 (pc' := 106) rfl (by exact (mkJ)) rfl ?_
    rw [hZ]
    refine gk_imulN dX11_fill_106 (pc' := 107) rfl ?_
    refine gk_iload2 dX11_fill_107 (pc' := 108) rfl ?_
    refine gk_iaddN dX11_fill_108 (pc' := 109) rfl ?_
    refine gk_icmp_ne dX11_fill_109 (tgt := 116) (pc' := 112) (by decide) rfl (fun c109 => ?_) (fun c109 => ?_)
    · have c109 : ¬ i = y * w + x := fun e => c109 (by rw [e])
      refine gk_iconst (v := 0) dX11_fill_116 (pc' := 117) rfl (by decide) ?_
      refine gk_zast (t0 := 1) rfl dX11_fill_117 (pc' := 118) rfl (by exact (mkA16)) (vp_in_nI (by omega) (by decide)) ?_
      rw [nI_clamp (by omega), mkS16]
      rw [uA_s, uA_u]
      refine gk_iinc7 (v := 1) dX11_fill_118 (pc' := 121) rfl (by decide) (by decide) rfl ?_
      refine gk_goto dX11_fill_121 (tgt := 86) (by decide) ?_
      rw [← nI_succ]
      refine ih (i + 1) _ (by omega) (upd_lt hf ?_)
      first | (rw [decide_eq_false c109]; rfl) | (rw [decide_eq_true c109]; rfl)
    · have c109 : i = y * w + x := nI_inj (by omega) (by omega) c109
      refine gk_iconst (v := 1) dX11_fill_112 (pc' := 113) rfl (by decide) ?_
      refine gk_goto dX11_fill_113 (tgt := 117) (by decide) ?_
      refine gk_zast (t0 := 1) rfl dX11_fill_117 (pc' := 118) rfl (by exact (mkA16)) (vp_in_nI (by omega) (by decide)) ?_
      rw [nI_clamp (by omega), mkS16]
      rw [uA_s, uA_u]
      refine gk_iinc7 (v := 1) dX11_fill_118 (pc' := 121) rfl (by decide) (by decide) rfl ?_
      refine gk_goto dX11_fill_121 (tgt := 86) (by decide) ?_
      rw [← nI_succ]
      refine ih (i + 1) _ (by omega) (upd_lt hf ?_)
      first | (rw [decide_eq_false c109]; rfl) | (rw [decide_eq_true c109]; rfl)
theorem lp_Mo_fillS {j x y w t s : Nat} {tl v : Int32} (hZ : Z 4 = nI w ∧ Z 5 = nI t) (hw : 1 ≤ w ∧ w ≤ 16) (htt : t ≤ 16) (hs : s < w * t) (hr : ∀ i, i < w * t → -32768 ≤ (A 9 i).toInt ∧ (A 9 i).toInt ≤ 32767) {B0 : Nat → Bool} (hQ : ∀ (mr : Int32) f B (l9 l10 : Option Value), (∀ q, q < w * t → f q = if B q then 1 else 0) → fOk w t (A 9) s tl.toInt B → ((mr = 0 ∧ B = B0 ∧ ∀ i, i < w * t → ¬ (B0 i = false ∧ okF (A 9) s tl.toInt i ∧ bes w t B0 i)) ∨ (mr = 1 ∧ cntB B0 (w * t) < cntB B (w * t))) → G (kx X) mt_Mo_fill (d + 10) b 240 [some (.ref m), some (.int (nI j)), some (.int (nI x)), some (.int (nI y)), some (.int tl), some (.int v), some (.int (nI (w * t))), some (.int (A 9 s)), some (.int mr), l9, l10] [] (mkH X h0 m (uA A 16 f) Z) Q) :
    ∀ n i (mr : Int32) f B (l10 : Option Value), i + n = w * t → (∀ q, q < w * t → f q = if B q then 1 else 0) → fOk w t (A 9) s tl.toInt B → ((mr = 0 ∧ B = B0 ∧ ∀ q, q < i → ¬ (B0 q = false ∧ okF (A 9) s tl.toInt q ∧ bes w t B0 q)) ∨ (mr = 1 ∧ cntB B0 (w * t) < cntB B (w * t))) → G (kx X) mt_Mo_fill (d + 10) b 153 [some (.ref m), some (.int (nI j)), some (.int (nI x)), some (.int (nI y)), some (.int tl), some (.int v), some (.int (nI (w * t))), some (.int (A 9 s)), some (.int mr), some (.int (nI i)), l10] [] (mkH X h0 m (uA A 16 f) Z) Q := by
  have ar := area_le hw.2 htt
  intro n
  induction n with
  | zero =>
    intro i mr f B l10 hi hf ho hc
    have e : i = w * t := by omega
    subst e
    refine gk_iload9 dX11_fill_153 (pc' := 155) rfl ?_
    refine gk_iload6 dX11_fill_155 (pc' := 157) rfl ?_
    refine gk_icmp_ge dX11_fill_157 (tgt := 240) (pc' := 160) (by decide) rfl (fun c157 => ?_) (fun c157 => absurd (nI_le (Nat.le_refl _) (by omega)) c157)
    exact hQ mr f B _ _ hf ho hc
  | succ n ih =>
    intro i mr f B l10 hi hf ho hc
    have hiw : i < w * t := by omega
    have r1 := hr i hiw
    have r2 := hr s hs
    have sk : ¬ (B i = false ∧ okF (A 9) s tl.toInt i ∧ bes w t B i) → ∀ l10 : Option Value, G (kx X) mt_Mo_fill (d + 10) b 234 [some (.ref m), some (.int (nI j)), some (.int (nI x)), some (.int (nI y)), some (.int tl), some (.int v), some (.int (nI (w * t))), some (.int (A 9 s)), some (.int mr), some (.int (nI i)), l10] [] (mkH X h0 m (uA A 16 f) Z) Q := by
      intro hn l10
      refine gk_iinc9 (v := 1) dX11_fill_234 (pc' := 237) rfl (by decide) (by decide) rfl ?_
      refine gk_goto dX11_fill_237 (tgt := 153) (by decide) ?_
      rw [← nI_succ]
      refine ih (i + 1) mr f B _ (by omega) hf ho ?_
      rcases hc with ⟨c1, c2, c3⟩ | c
      · refine Or.inl ⟨c1, c2, fun q hq => ?_⟩
        by_cases e : q = i
        · rw [e, ← c2]; exact hn
        · exact c3 q (by omega)
      · exact Or.inr c
    have gr : B i = false → okF (A 9) s tl.toInt i → bes w t B i → ∀ l10 : Option Value, G (kx X) mt_Mo_fill (d + 10) b 234 [some (.ref m), some (.int (nI j)), some (.int (nI x)), some (.int (nI y)), some (.int tl), some (.int v), some (.int (nI (w * t))), some (.int (A 9 s)), some (.int 1), some (.int (nI i)), l10] [] (mkH X h0 m (uA A 16 (upd f i (vp_nar .boolean 1))) Z) Q := by
      intro b1 b2 b3 l10
      refine gk_iinc9 (v := 1) dX11_fill_234 (pc' := 237) rfl (by decide) (by decide) rfl ?_
      refine gk_goto dX11_fill_237 (tgt := 153) (by decide) ?_
      rw [← nI_succ]
      have ca := cntB_add1 b1 hiw
      refine ih (i + 1) 1 _ (fun q => if q = i then true else B q) _ (by omega) (fun q hq => ?_) (ho.add hw.1 hiw b2 b3) (Or.inr ⟨rfl, ?_⟩)
      · by_cases e : q = i
        · subst e; rw [pk_us, if_pos rfl]; rfl
        · rw [pk_un e, if_neg e]; exact hf q hq
      · rw [ca]
        rcases hc with ⟨c1, c2, c3⟩ | c
        · rw [c2]; omega
        · omega
    have key : ∀ of : Int32, (of.toInt ≤ tl.toInt ↔ okF (A 9) s tl.toInt i) → G (kx X) mt_Mo_fill (d + 10) b 197 [some (.ref m), some (.int (nI j)), some (.int (nI x)), some (.int (nI y)), some (.int tl), some (.int v), some (.int (nI (w * t))), some (.int (A 9 s)), some (.int mr), some (.int (nI i)), some (.int of)] [] (mkH X h0 m (uA A 16 f) Z) Q := by
      intro of hof
      have e16 : uA A 16 f 16 i = if B i then 1 else 0 := by rw [uA_s]; exact hf i hiw
      refine gk_aload0 dX11_fill_197 (pc' := 198) rfl ?_
      refine gk_getf (fs := [_, _, _, _, _, _, _, _, _, _, _, _, _, _, _, _, _, _, _, _, _, _, _, _, _, _]) gF_Mo_56 dX11_fill_198 (pc' := 201) rfl (by exact (mkJ)) rfl ?_
      refine gk_iload9 dX11_fill_201 (pc' := 203) rfl ?_
      refine gk_zald (t0 := 1) rfl dX11_fill_203 (pc' := 204) rfl (by exact (mkA16)) (vp_in_nI (by omega) (by decide)) ?_
      rw [nI_clamp (by omega)]
      rw [e16]
      refine gk_if_ne dX11_fill_204 (tgt := 234) (pc' := 207) (by decide) rfl (fun c204 => ?_) (fun c204 => ?_)
      · have b1 : B i = true := by cases h : B i; rw [h] at c204; exact absurd rfl c204; rfl
        first | exact sk (fun z => by rw [b1] at z; exact absurd z.1 (by decide)) _ | exact sk (fun z => b2 z.2.1) _ | exact sk (fun z => b3 z.2.2) _ | exact gr b1 b2 b3 _
      · have b1 : B i = false := by cases h : B i; rfl; rw [h] at c204; exact absurd c204 (by decide)
        refine gk_iload10 dX11_fill_207 (pc' := 209) rfl ?_
        refine gk_iload4 dX11_fill_209 (pc' := 211) rfl ?_
        refine gk_icmp_gt dX11_fill_211 (tgt := 234) (pc' := 214) (by decide) rfl (fun c211 => ?_) (fun c211 => ?_)
        · rw [pu_lt] at c211
          have b2 : ¬ okF (A 9) s tl.toInt i := fun z => by have := hof.mpr z; omega
          first | exact sk (fun z => by rw [b1] at z; exact absurd z.1 (by decide)) _ | exact sk (fun z => b2 z.2.1) _ | exact sk (fun z => b3 z.2.2) _ | exact gr b1 b2 b3 _
        · rw [pu_lt] at c211
          have b2 : okF (A 9) s tl.toInt i := hof.mp (by omega)
          refine gk_aload0 dX11_fill_214 (pc' := 215) rfl ?_
          refine gk_iload9 dX11_fill_215 (pc' := 217) rfl ?_
          refine gk_cV1_1 mv_Mo_isBeside gw_1079 dX11_fill_217 (pc' := 220) rfl (Nat.le_of_ble_eq_true rfl) (by exact (mkJ)) (sp_Mo_isBeside hZ hw htt hiw hf (fun b3 => ?_) (fun b3 => ?_))
          · refine ⟨_, rfl, ?_⟩
            refine gk_if_eq dX11_fill_220 (tgt := 234) (pc' := 223) (by decide) rfl (fun c => absurd c (by decide)) (fun _ => ?_)
            refine gk_aload0 dX11_fill_223 (pc' := 224) rfl ?_
            refine gk_getf (fs := [_, _, _, _, _, _, _, _, _, _, _, _, _, _, _, _, _, _, _, _, _, _, _, _, _, _]) gF_Mo_56 dX11_fill_224 (pc' := 227) rfl (by exact (mkJ)) rfl ?_
            refine gk_iload9 dX11_fill_227 (pc' := 229) rfl ?_
            refine gk_iconst (v := 1) dX11_fill_229 (pc' := 230) rfl (by decide) ?_
            refine gk_zast (t0 := 1) rfl dX11_fill_230 (pc' := 231) rfl (by exact (mkA16)) (vp_in_nI (by omega) (by decide)) ?_
            rw [nI_clamp (by omega), mkS16]
            rw [uA_s, uA_u]
            refine gk_iconst (v := 1) dX11_fill_231 (pc' := 232) rfl (by decide) ?_
            refine gk_istore8 dX11_fill_232 (pc' := 234) rfl (by decide) rfl ?_
            first | exact sk (fun z => by rw [b1] at z; exact absurd z.1 (by decide)) _ | exact sk (fun z => b2 z.2.1) _ | exact sk (fun z => b3 z.2.2) _ | exact gr b1 b2 b3 _
          · refine ⟨_, rfl, ?_⟩
            refine gk_if_eq dX11_fill_220 (tgt := 234) (pc' := 223) (by decide) rfl (fun _ => ?_) (fun c => absurd c (by decide))
            first | exact sk (fun z => by rw [b1] at z; exact absurd z.1 (by decide)) _ | exact sk (fun z => b2 z.2.1) _ | exact sk (fun z => b3 z.2.2) _ | exact gr b1 b2 b3 _
    have s1 : (A 9 s - A 9 i).toInt = (A 9 s).toInt - (A 9 i).toInt := Jvm.Kit.i32_sub (by omega) (by omega)
    have s2 : (A 9 i - A 9 s).toInt = (A 9 i).toInt - (A 9 s).toInt := Jvm.Kit.i32_sub (by omega) (by omega)
    refine gk_iload9 dX11_fill_153 (pc' := 155) rfl ?_
    refine gk_iload6 dX11_fill_155 (pc' := 157) rfl ?_
    refine gk_icmp_ge dX11_fill_157 (tgt := 240) (pc' := 160) (by decide) rfl (fun c157 => absurd c157 (nI_ge (by omega) (by omega))) (fun c157 => ?_)
    refine gk_aload0 dX11_fill_160 (pc' := 161) rfl ?_
    refine gk_getf (fs := [_, _, _, _, _, _, _, _, _, _, _, _, _, _, _, _, _, _, _, _, _, _, _, _, _, _]) gF_Mo_35 dX11_fill_161 (pc' := 164) rfl (by exact (mkJ)) rfl ?_
    refine gk_iload9 dX11_fill_164 (pc' := 166) rfl ?_
    refine gk_iald (t0 := 0) rfl dX11_fill_166 (pc' := 167) rfl (by exact (mkA9)) (vp_in_nI (by omega) (by decide)) ?_
    rw [nI_clamp (by omega)]
    rw [uA_n (show 9 ≠ 16 by decide)]
    refine gk_iload7 dX11_fill_167 (pc' := 169) rfl ?_
    refine gk_icmp_ge dX11_fill_169 (tgt := 185) (pc' := 172) (by decide) rfl (fun c169 => ?_) (fun c169 => ?_)
    · rw [pu_le] at c169
      refine gk_aload0 dX11_fill_185 (pc' := 186) rfl ?_
      refine gk_getf (fs := [_, _, _, _, _, _, _, _, _, _, _, _, _, _, _, _, _, _, _, _, _, _, _, _, _, _]) gF_Mo_35 dX11_fill_186 (pc' := 189) rfl (by exact (mkJ)) rfl ?_
      refine gk_iload9 dX11_fill_189 (pc' := 191) rfl ?_
      refine gk_iald (t0 := 0) rfl dX11_fill_191 (pc' := 192) rfl (by exact (mkA9)) (vp_in_nI (by omega) (by decide)) ?_
      rw [nI_clamp (by omega)]
      rw [uA_n (show 9 ≠ 16 by decide)]
      refine gk_iload7 dX11_fill_192 (pc' := 194) rfl ?_
      refine gk_isub dX11_fill_194 (pc' := 195) rfl ?_
      refine gk_istore10 dX11_fill_195 (pc' := 197) rfl (by decide) rfl ?_
      exact key _ (by unfold okF; first | (rw [s1]; omega) | (rw [s2]; omega))
    · rw [pu_le] at c169
      refine gk_iload7 dX11_fill_172 (pc' := 174) rfl ?_
      refine gk_aload0 dX11_fill_174 (pc' := 175) rfl ?_
      refine gk_getf (fs := [_, _, _, _, _, _, _, _, _, _, _, _, _, _, _, _, _, _, _, _, _, _, _, _, _, _]) gF_Mo_35 dX11_fill_175 (pc' := 178) rfl (by exact (mkJ)) rfl ?_
      refine gk_iload9 dX11_fill_178 (pc' := 180) rfl ?_
      refine gk_iald (t0 := 0) rfl dX11_fill_180 (pc' := 181) rfl (by exact (mkA9)) (vp_in_nI (by omega) (by decide)) ?_
      rw [nI_clamp (by omega)]
      rw [uA_n (show 9 ≠ 16 by decide)]
      refine gk_isub dX11_fill_181 (pc' := 182) rfl ?_
      refine gk_goto dX11_fill_182 (tgt := 195) (by decide) ?_
      refine gk_istore10 dX11_fill_195 (pc' := 197) rfl (by decide) rfl ?_
      exact key _ (by unfold okF; first | (rw [s1]; omega) | (rw [s2]; omega))
theorem lp_Mo_fillW {j x y w t s : Nat} {tl v : Int32} (hZ : Z 4 = nI w ∧ Z 5 = nI t) (hw : 1 ≤ w ∧ w ≤ 16) (htt : t ≤ 16) (hs : s < w * t) (hr : ∀ i, i < w * t → -32768 ≤ (A 9 i).toInt ∧ (A 9 i).toInt ≤ 32767) (hQ : ∀ f (l9 l10 : Option Value), (∀ q, q < w * t → f q = if rB w t (A 9) s tl.toInt q then 1 else 0) → G (kx X) mt_Mo_fill (d + 10) b 243 [some (.ref m), some (.int (nI j)), some (.int (nI x)), some (.int (nI y)), some (.int tl), some (.int v), some (.int (nI (w * t))), some (.int (A 9 s)), some (.int 0), l9, l10] [] (mkH X h0 m (uA A 16 f) Z) Q) :
    ∀ n f B (l9 l10 : Option Value), w * t ≤ cntB B (w * t) + n → (∀ q, q < w * t → f q = if B q then 1 else 0) → fOk w t (A 9) s tl.toInt B → G (kx X) mt_Mo_fill (d + 10) b 142 [some (.ref m), some (.int (nI j)), some (.int (nI x)), some (.int (nI y)), some (.int tl), some (.int v), some (.int (nI (w * t))), some (.int (A 9 s)), some (.int 1), l9, l10] [] (mkH X h0 m (uA A 16 f) Z) Q := by
  intro n
  induction n with
  | zero =>
    intro f B l9 l10 hn hf ho
    have all : ∀ i, i < w * t → B i = true := fun i hi => by
      cases hb : B i with
      | true => rfl
      | false => have := cntB_lt hb (w * t) hi; omega
    have fin : ∀ f (l9 l10 : Option Value), (∀ q, q < w * t → f q = if B q then 1 else 0) → G (kx X) mt_Mo_fill (d + 10) b 142 [some (.ref m), some (.int (nI j)), some (.int (nI x)), some (.int (nI y)), some (.int tl), some (.int v), some (.int (nI (w * t))), some (.int (A 9 s)), some (.int 0), l9, l10] [] (mkH X h0 m (uA A 16 f) Z) Q := by
      intro f l9 l10 hf
      refine gk_iload8 dX11_fill_142 (pc' := 144) rfl ?_
      refine gk_if_eq dX11_fill_144 (tgt := 243) (pc' := 147) (by decide) rfl (fun c144 => ?_) (fun c144 => absurd rfl c144)
      exact hQ f _ _ (fun q hq => by rw [hf q hq, ho.done hw.1 hs (fun i hi z => by rw [all i hi] at z; exact absurd z.1 (by decide)) q])
    refine gk_iload8 dX11_fill_142 (pc' := 144) rfl ?_
    refine gk_if_eq dX11_fill_144 (tgt := 243) (pc' := 147) (by decide) rfl (fun c144 => absurd c144 (by decide)) (fun c144 => ?_)
    refine gk_iconst (v := 0) dX11_fill_147 (pc' := 148) rfl (by decide) ?_
    refine gk_istore8 dX11_fill_148 (pc' := 150) rfl (by decide) rfl ?_
    refine gk_iconst (v := 0) dX11_fill_150 (pc' := 151) rfl (by decide) ?_
    refine gk_istore9 dX11_fill_151 (pc' := 153) rfl (by decide) rfl ?_
    refine lp_Mo_fillS hZ hw htt hs hr (B0 := B) (fun mr f' B' l9 l10 hf' ho' hc => ?_) (w * t) 0 0 f B _ (by omega) hf ho (Or.inl ⟨rfl, rfl, fun q hq => absurd hq (by omega)⟩)
    refine gk_goto dX11_fill_240 (tgt := 142) (by decide) ?_
    rcases hc with ⟨c1, c2, c3⟩ | ⟨c1, c2⟩
    · subst c1 c2; exact fin f' _ _ hf'
    · have := cntB_le B' (w * t); omega
  | succ n ih =>
    intro f B l9 l10 hn hf ho
    have fin : ∀ f (l9 l10 : Option Value), (∀ q, q < w * t → f q = if B q then 1 else 0) → (∀ i, i < w * t → ¬ (B i = false ∧ okF (A 9) s tl.toInt i ∧ bes w t B i)) → G (kx X) mt_Mo_fill (d + 10) b 142 [some (.ref m), some (.int (nI j)), some (.int (nI x)), some (.int (nI y)), some (.int tl), some (.int v), some (.int (nI (w * t))), some (.int (A 9 s)), some (.int 0), l9, l10] [] (mkH X h0 m (uA A 16 f) Z) Q := by
      intro f l9 l10 hf hc
      refine gk_iload8 dX11_fill_142 (pc' := 144) rfl ?_
      refine gk_if_eq dX11_fill_144 (tgt := 243) (pc' := 147) (by decide) rfl (fun c144 => ?_) (fun c144 => absurd rfl c144)
      exact hQ f _ _ (fun q hq => by rw [hf q hq, ho.done hw.1 hs hc q])
    refine gk_iload8 dX11_fill_142 (pc' := 144) rfl ?_
    refine gk_if_eq dX11_fill_144 (tgt := 243) (pc' := 147) (by decide) rfl (fun c144 => absurd c144 (by decide)) (fun c144 => ?_)
    refine gk_iconst (v := 0) dX11_fill_147 (pc' := 148) rfl (by decide) ?_
    refine gk_istore8 dX11_fill_148 (pc' := 150) rfl (by decide) rfl ?_
    refine gk_iconst (v := 0) dX11_fill_150 (pc' := 151) rfl (by decide) ?_
    refine gk_istore9 dX11_fill_151 (pc' := 153) rfl (by decide) rfl ?_
    refine lp_Mo_fillS hZ hw htt hs hr (B0 := B) (fun mr f' B' l9 l10 hf' ho' hc => ?_) (w * t) 0 0 f B _ (by omega) hf ho (Or.inl ⟨rfl, rfl, fun q hq => absurd hq (by omega)⟩)
    refine gk_goto dX11_fill_240 (tgt := 142) (by decide) ?_
    rcases hc with ⟨c1, c2, c3⟩ | ⟨c1, c2⟩
    · subst c1 c2; exact fin f' _ _ hf' c3
    · subst c1; exact ih f' B' _ _ (by omega) hf' ho'
theorem lp_Mo_fillE {j n : Nat} {v : Int32} {B : Nat → Bool} {l2 l3 l4 : Option Value} {l7 l8 : Int32} (hj : j < 8) (hn : n ≤ 256) (h16 : ∀ q, q < n → A 16 q = if B q then 1 else 0) (hQ : Q (some (.int (nI (cntB B n)))) (mkH X h0 m (uA A 1 (flI (A 1) (259 * j + 3) n B v)) Z)) : ∀ f i, i + f = n → G (kx X) mt_Mo_fill (d + 10) b 249 [some (.ref m), some (.int (nI j)), l2, l3, l4, some (.int v), some (.int (nI n)), some (.int l7), some (.int l8), some (.int (nI (cntB B i))), some (.int (nI i))] [] (mkH X h0 m (uA A 1 (flI (A 1) (259 * j + 3) i B v)) Z) Q := by
  intro f
  induction f with
  | zero =>
    intro i hi
    have e : i = n := by omega
    subst e
    refine gk_iload10 dX11_fill_249 (pc' := 251) rfl ?_
    refine gk_iload6 dX11_fill_251 (pc' := 253) rfl ?_
    refine gk_icmp_ge dX11_fill_253 (tgt := 292) (pc' := 256) (by decide) rfl (fun c253 => ?_) (fun c253 => absurd (nI_le (Nat.le_refl _) (by omega)) c253)
    refine gk_iload9 dX11_fill_292 (pc' := 294) rfl ?_
    refine gk_iret dX11_fill_294 rfl hQ
  | succ f ih =>
    intro i hi
    have q := ih (i + 1) (by omega)
    have e16 : uA A 1 (flI (A 1) (259 * j + 3) i B v) 16 i = if B i then 1 else 0 := by rw [uA_n (by decide)]; exact h16 i (by omega)
    refine gk_iload10 dX11_fill_249 (pc' := 251) rfl ?_
    refine gk_iload6 dX11_fill_251 (pc' := 253) rfl ?_
    refine gk_icmp_ge dX11_fill_253 (tgt := 292) (pc' := 256) (by decide) rfl (fun c253 => absurd c253 (nI_ge (by omega) (by omega))) (fun c253 => ?_)
    refine gk_aload0 dX11_fill_256 (pc' := 257) rfl ?_
    refine gk_getf (fs := [_, _, _, _, _, _, _, _, _, _, _, _, _, _, _, _, _, _, _, _, _, _, _, _, _, _]) gF_Mo_56 dX11_fill_257 (pc' := 260) rfl (by exact (mkJ)) rfl ?_
    refine gk_iload10 dX11_fill_260 (pc' := 262) rfl ?_
    refine gk_zald (t0 := 1) rfl dX11_fill_262 (pc' := 263) rfl (by exact (mkA16)) (vp_in_nI (by omega) (by decide)) ?_
    rw [nI_clamp (by omega)]
    rw [e16]
    refine gk_if_eq dX11_fill_263 (tgt := 286) (pc' := 266) (by decide) rfl (fun c263 => ?_) (fun c263 => ?_)
    · have b1 : B i = false := by cases h : B i; rfl; rw [h] at c263; exact absurd c263 (by decide)
      refine gk_iinc10 (v := 1) dX11_fill_286 (pc' := 289) rfl (by decide) (by decide) rfl ?_
      refine gk_goto dX11_fill_289 (tgt := 249) (by decide) ?_
      rw [← nI_succ i]
      first | (rw [← nI_succ]; rw [cntB, b1, if_pos rfl] at q; exact q) | (rw [cntB, b1, if_neg (by decide), Nat.add_zero, ← flI_f b1] at q; exact q)
    · have b1 : B i = true := by cases h : B i; rw [h] at c263; exact absurd rfl c263; rfl
      refine gk_aload0 dX11_fill_266 (pc' := 267) rfl ?_
      refine gk_getf (fs := [_, _, _, _, _, _, _, _, _, _, _, _, _, _, _, _, _, _, _, _, _, _, _, _, _, _]) gF_Mo_7 dX11_fill_267 (pc' := 270) rfl (by exact (mkJ)) rfl ?_
      refine gk_sipush (v := nI 259) dX11_fill_270 (pc' := 273) rfl (by decide) ?_
      refine gk_iload1 dX11_fill_273 (pc' := 274) rfl ?_
      refine gk_imulN dX11_fill_274 (pc' := 275) rfl ?_
      refine gk_iconst (v := nI 3) dX11_fill_275 (pc' := 276) rfl (by decide) ?_
      refine gk_iaddN dX11_fill_276 (pc' := 277) rfl ?_
      refine gk_iload10 dX11_fill_277 (pc' := 279) rfl ?_
      refine gk_iaddN dX11_fill_279 (pc' := 280) rfl ?_
      refine gk_iload5 dX11_fill_280 (pc' := 282) rfl ?_
      refine gk_iast (t0 := 0) rfl dX11_fill_282 (pc' := 283) rfl (by exact (mkA1)) (vp_in_nI (by omega) (by decide)) ?_
      rw [nI_clamp (by omega), mkS1]
      rw [uA_s, uA_u, flI_t b1]
      refine gk_iinc9 (v := 1) dX11_fill_283 (pc' := 286) rfl (by decide) (by decide) rfl ?_
      refine gk_iinc10 (v := 1) dX11_fill_286 (pc' := 289) rfl (by decide) (by decide) rfl ?_
      refine gk_goto dX11_fill_289 (tgt := 249) (by decide) ?_
      rw [← nI_succ i]
      first | (rw [← nI_succ]; rw [cntB, b1, if_pos rfl] at q; exact q) | (rw [cntB, b1, if_neg (by decide), Nat.add_zero, ← flI_f b1] at q; exact q)
theorem mo_fill {p x y t v : Int32} (hM : Mod X h m S) (hw : wfS S) (hQ : ∀ h', Mod X h' m (oFill S p x y t v).2 → frO m h h' → Q (some (.int (oFill S p x y t v).1)) h') : Gm (kx X) mt_Mo_fill (d + 10) b [.ref m, .int p, .int x, .int y, .int t, .int v] h Q := by
  obtain ⟨h0, A, Z, rfl, hS⟩ := hM
  have hE : ∀ a0 S' A' Z', oFill S p x y t v = (a0, S') → MoS A' Z' S' → Q (some (.int a0)) (mkH X h0 m A' Z') := fun a0 S' A' Z' e0 h1 => by
    have q := hQ (mkH X h0 m A' Z')
    rw [e0] at q
    exact q ⟨h0, A', Z', rfl, h1⟩ mk_fr
  have hB : ∀ a0, oFill S p x y t v = (a0, S) → Q (some (.int a0)) (mkH X h0 m A Z) := fun a0 e0 => hE a0 S A Z e0 hS
  have zv := i2l_i v
  have z0 : (0 : Int32).toInt = 0 := rfl
  have fin : ∀ j1 i j (A1 : MoA) (Z1 : MoZ), j1 < 8 → p = nI j1 → x = nI i → y = nI j → i < (pcS S p).2.1 → j < (pcS S p).2.2.1 → inK (pcS S p).1 v → 0 ≤ t.toInt → (∀ i, i ≠ 2 → A1 i = A i) → Bg A1 Z1 S → G (kx X) mt_Mo_fill (d + 10) b 72 [some (.ref m), some (.int p), some (.int x), some (.int y), some (.int t), some (.int v), none, none, none, none, none] [] (mkH X h0 m (lkA A1 j1) (lkZ Z1 (pcS S p).2.1 (pcS S p).2.2.1)) Q := by
    intro j1 i j A1 Z1 hj1 ep ex ey hi hj hv htt a1 hBg
    subst ep ex ey
    have ok1 := hw.okp hj1
    have okk := ok1.has (by omega)
    have ar := ok1.ar
    have zj1 : (nI j1).toInt = j1 := nI_toInt (by omega)
    have zi : (nI i).toInt = i := nI_toInt (by omega)
    have zj : (nI j).toInt = j := nI_toInt (by omega)
    have pl := place_lt hi hj
    have pr2 : pRow (A1 1) (259 * j1) (pcS S (nI j1)) := by rw [a1 1 (by decide)]; exact hS.picS hj1
    have l9 : ∀ q, q < (pcS S (nI j1)).2.1 * (pcS S (nI j1)).2.2.1 → lkA A1 j1 9 q = (pcS S (nI j1)).2.2.2 q := fun q hq => lk_px pr2 ar hq
    have hr : ∀ q, q < (pcS S (nI j1)).2.1 * (pcS S (nI j1)).2.2.1 → -32768 ≤ (lkA A1 j1 9 q).toInt ∧ (lkA A1 j1 9 q).toInt ≤ 32767 := fun q hq => by rw [l9 q hq]; exact inK_r (okk.2.2.2 q hq)
    have eR : rB (pcS S (nI j1)).2.1 (pcS S (nI j1)).2.2.1 (lkA A1 j1 9) (j * (pcS S (nI j1)).2.1 + i) t.toInt = rB (pcS S (nI j1)).2.1 (pcS S (nI j1)).2.2.1 (pcS S (nI j1)).2.2.2 (j * (pcS S (nI j1)).2.1 + i) t.toInt := rB_congr pl l9
    generalize hB' : rB (pcS S (nI j1)).2.1 (pcS S (nI j1)).2.2.1 (pcS S (nI j1)).2.2.2 (j * (pcS S (nI j1)).2.1 + i) t.toInt = B at *
    have hoE : oFill S (nI j1) (nI i) (nI j) t v = (nI (cntB B ((pcS S (nI j1)).2.1 * (pcS S (nI j1)).2.2.1)), kP S j1 ((pcS S (nI j1)).1, (pcS S (nI j1)).2.1, (pcS S (nI j1)).2.2.1, flF B (pcS S (nI j1)).2.2.2 v)) := (if_pos ⟨by omega, htt⟩).trans ((if_pos ⟨by omega, hv⟩).trans (by rw [nI_nat (j := i) (by omega), nI_nat (j := j) (by omega), nI_nat (j := j1) (by omega), hB']))
    generalize hs : j * (pcS S (nI j1)).2.1 + i = s at *
    have wt := ok1.wt
    have e9 : ∀ f, uA (lkA A1 j1) 16 f 9 = lkA A1 j1 9 := fun f => uA_n (by decide)
    have last : ∀ f (l8 l9' l10 : Option Value), (∀ q, q < (pcS S (nI j1)).2.1 * (pcS S (nI j1)).2.2.1 → f q = if B q then 1 else 0) → (∃ z : Int32, l8 = some (.int z)) → G (kx X) mt_Mo_fill (d + 10) b 243 [some (.ref m), some (.int (nI j1)), some (.int (nI i)), some (.int (nI j)), some (.int t), some (.int v), some (.int (nI ((pcS S (nI j1)).2.1 * (pcS S (nI j1)).2.2.1))), some (.int (lkA A1 j1 9 s)), l8, l9', l10] [] (mkH X h0 m (uA (lkA A1 j1) 16 f) (lkZ Z1 (pcS S (nI j1)).2.1 (pcS S (nI j1)).2.2.1)) Q := by
      intro f l8 l9' l10 hf hl8
      obtain ⟨z8, rfl⟩ := hl8
      have q := lp_Mo_fillE (X := X) (h0 := h0) (m := m) (A := uA (lkA A1 j1) 16 f) (Z := lkZ Z1 (pcS S (nI j1)).2.1 (pcS S (nI j1)).2.2.1) (d := d) (b := b) (Q := Q) (j := j1) (n := (pcS S (nI j1)).2.1 * (pcS S (nI j1)).2.2.1) (v := v) (B := B) (l2 := some (.int (nI i))) (l3 := some (.int (nI j))) (l4 := some (.int t)) (l7 := lkA A1 j1 9 s) (l8 := z8) hj1 ar (fun q hq => by rw [uA_s]; exact hf q hq) (hE _ _ _ _ hoE (hBg.actP hw.1 (by rw [a1 1 (by decide)]; exact hS.1) (fun i h1 h2 => by rw [uA_n (by omega), uA_n (by omega)]; exact uA_n (by omega)) (fun i hi => lkZ_n hi) hj1 (by
        rw [uA_s]
        show pRow (flI (A1 1) (259 * j1 + 3) ((pcS S (nI j1)).2.1 * (pcS S (nI j1)).2.2.1) B v) (259 * j1) _
        refine ⟨?_, ?_, ?_, fun n hn => ?_⟩
        · unfold flI; rw [if_neg (by omega)]; exact pr2.1
        · unfold flI; rw [if_neg (by omega)]; exact pr2.2.1
        · unfold flI; rw [if_neg (by omega)]; exact pr2.2.2.1
        · have hn : n < (pcS S (nI j1)).2.1 * (pcS S (nI j1)).2.2.1 := hn
          show flI (A1 1) (259 * j1 + 3) ((pcS S (nI j1)).2.1 * (pcS S (nI j1)).2.2.1) B v (259 * j1 + 3 + n) = (if B n = true then v else (pcS S (nI j1)).2.2.2 n)
          unfold flI
          rw [Nat.add_sub_cancel_left]
          by_cases e : B n = true
          · rw [if_pos ⟨by omega, by omega, e⟩, if_pos e]
          · rw [if_neg (fun z => e z.2.2), if_neg e]; exact pr2.2.2.2 n hn) (fun q hq => by
        rw [uA_s]
        show flI (A1 1) (259 * j1 + 3) ((pcS S (nI j1)).2.1 * (pcS S (nI j1)).2.2.1) B v q = A1 1 q
        unfold flI
        rw [if_neg (by omega)]))) ((pcS S (nI j1)).2.1 * (pcS S (nI j1)).2.2.1) 0 (by omega)
      rw [flI_0, uA_i] at q
      refine gk_iconst (v := 0) dX11_fill_243 (pc' := 244) rfl (by decide) ?_
      refine gk_istore9 dX11_fill_244 (pc' := 246) rfl (by decide) rfl ?_
      refine gk_iconst (v := 0) dX11_fill_246 (pc' := 247) rfl (by decide) ?_
      refine gk_istore10 dX11_fill_247 (pc' := 249) rfl (by decide) rfl ?_
      exact q
    have g124 : ∀ f, (∀ q, q < (pcS S (nI j1)).2.1 * (pcS S (nI j1)).2.2.1 → f q = if decide (q = s) then 1 else 0) → ∀ l7, G (kx X) mt_Mo_fill (d + 10) b 124 [some (.ref m), some (.int (nI j1)), some (.int (nI i)), some (.int (nI j)), some (.int t), some (.int v), some (.int (nI ((pcS S (nI j1)).2.1 * (pcS S (nI j1)).2.2.1))), some (.int l7), none, none, none] [] (mkH X h0 m (uA (lkA A1 j1) 16 f) (lkZ Z1 (pcS S (nI j1)).2.1 (pcS S (nI j1)).2.2.1)) Q := by
      intro f hf l7
      refine gk_aload0 dX11_fill_124 (pc' := 125) rfl ?_
      refine gk_getf (fs := [_, _, _, _, _, _, _, _, _, _, _, _, _, _, _, _, _, _, _, _, _, _, _, _, _, _]) gF_Mo_35 dX11_fill_125 (pc' := 128) rfl (by exact (mkJ)) rfl ?_
      refine gk_iload3 dX11_fill_128 (pc' := 129) rfl ?_
      refine gk_aload0 dX11_fill_129 (pc' := 130) rfl ?_
      refine gk_getf (fs := [_, _, _, _, _, _, _, _, _, _, _, _, _, _, _, _, _, _, _, _, _, _, _, _, _, _]) gF_Mo_138 dX11_fill_130 (pc' := 133) rfl (by exact (mkJ)) rfl ?_
      rw [show lkZ Z1 (pcS S (nI j1)).2.1 (pcS S (nI j1)).2.2.1 4 = nI (pcS S (nI j1)).2.1 from rfl]
      refine gk_imulN dX11_fill_133 (pc' := 134) rfl ?_
      refine gk_iload2 dX11_fill_134 (pc' := 135) rfl ?_
      refine gk_iaddN dX11_fill_135 (pc' := 136) rfl ?_
      refine gk_iald (t0 := 0) rfl dX11_fill_136 (pc' := 137) rfl (by exact (mkA9)) (vp_in_nI (by omega) (by decide)) ?_
      rw [nI_clamp (by omega)]
      rw [e9 f, hs]
      refine gk_istore7 dX11_fill_137 (pc' := 139) rfl (by decide) rfl ?_
      refine gk_iconst (v := 1) dX11_fill_139 (pc' := 140) rfl (by decide) ?_
      refine gk_istore8 dX11_fill_140 (pc' := 142) rfl (by decide) rfl ?_
      exact lp_Mo_fillW (A := lkA A1 j1) (s := s) (w := (pcS S (nI j1)).2.1) (t := (pcS S (nI j1)).2.2.1) (tl := t) ⟨rfl, rfl⟩ okk.2.1 wt.2 pl hr (fun f' l9' l10 hf' => last f' _ _ _ (fun q hq => by rw [hf' q hq, eR]) ⟨0, rfl⟩) ((pcS S (nI j1)).2.1 * (pcS S (nI j1)).2.2.1) f (fun q => decide (q = s)) _ _ (by omega) hf ⟨decide_eq_true rfl, fun q hq => by have := of_decide_eq_true hq; rw [this]; exact ⟨pl, Rch.start⟩⟩
    refine gk_aload0 dX11_fill_72 (pc' := 73) rfl ?_
    refine gk_getf (fs := [_, _, _, _, _, _, _, _, _, _, _, _, _, _, _, _, _, _, _, _, _, _, _, _, _, _]) gF_Mo_138 dX11_fill_73 (pc' := 76) rfl (by exact (mkJ)) rfl ?_
    rw [show lkZ Z1 (pcS S (nI j1)).2.1 (pcS S (nI j1)).2.2.1 4 = nI (pcS S (nI j1)).2.1 from rfl]
    refine gk_aload0 dX11_fill_76 (pc' := 77) rfl ?_
    refine gk_getf (fs := [_, _, _, _, _, _, _, _, _, _, _, _, _, _, _, _, _, _, _, _, _, _, _, _, _, _]) gF_Mo_141 dX11_fill_77 (pc' := 80) rfl (by exact (mkJ)) rfl ?_
    rw [show lkZ Z1 (pcS S (nI j1)).2.1 (pcS S (nI j1)).2.2.1 5 = nI (pcS S (nI j1)).2.2.1 from rfl]
    refine gk_imulN dX11_fill_80 (pc' := 81) rfl ?_
    refine gk_istore6 dX11_fill_81 (pc' := 83) rfl (by decide) rfl ?_
    refine gk_iconst (v := 0) dX11_fill_83 (pc' := 84) rfl (by decide) ?_
    refine gk_istore7 dX11_fill_84 (pc' := 86) rfl (by decide) rfl ?_
    have q := lp_Mo_fill0 (X := X) (h0 := h0) (m := m) (A := lkA A1 j1) (Z := lkZ Z1 (pcS S (nI j1)).2.1 (pcS S (nI j1)).2.2.1) (d := d) (b := b) (Q := Q) (j := j1) (x := i) (y := j) (w := (pcS S (nI j1)).2.1) (t := (pcS S (nI j1)).2.2.1) (tl := t) (v := v) rfl ar (by rw [hs]; exact pl) (fun f hf l7 => g124 f (fun q hq => by rw [hf q hq, hs]) l7) ((pcS S (nI j1)).2.1 * (pcS S (nI j1)).2.2.1) 0 (lkA A1 j1 16) (by omega) (fun q hq => absurd hq (by omega))
    rw [uA_i] at q
    exact q
  refine Gm.enter (L := [some (.ref m), some (.int p), some (.int x), some (.int y), some (.int t), some (.int v), none, none, none, none, none]) (by decide) (fun _ => trivial) (Nat.le_of_ble_eq_true rfl) rfl ?_
  refine gk_iload1 dX11_fill_0 (pc' := 1) rfl ?_
  refine gk_cS1_1 mz_Mo_isPicture gw_882 dX11_fill_1 (pc' := 4) rfl (Nat.le_of_ble_eq_true rfl) (sp_Mo_isPicture (fun j1 hj1 ej1 => ?_) (fun n1 => ?_))
  · refine ⟨_, rfl, ?_⟩
    subst ej1
    have zj1 : (nI j1).toInt = j1 := nI_toInt (by omega)
    have yj1 : (nI j1).toInt.toNat = j1 := by omega
    have pr1 := hS.picS hj1
    have ok1 := hw.okp hj1
    have wt1 := ok1.wt
    have ar1 := ok1.ar
    refine gk_if_eq dX11_fill_4 (tgt := 12) (pc' := 7) (by decide) rfl (fun c => absurd c (by decide)) (fun _ => ?_)
    refine gk_iload4 dX11_fill_7 (pc' := 9) rfl ?_
    refine gk_if_ge dX11_fill_9 (tgt := 15) (pc' := 12) (by decide) rfl (fun c9 => ?_) (fun c9 => ?_)
    · rw [pu_le, z0] at c9
      refine gk_aload0 dX11_fill_15 (pc' := 16) rfl ?_
      refine gk_iload1 dX11_fill_16 (pc' := 17) rfl ?_
      refine gk_cV1_1 mv_Mo_isThere gw_905 dX11_fill_17 (pc' := 20) rfl (Nat.le_of_ble_eq_true rfl) (by exact (mkJ)) (sp_Mo_isThere pr1 hj1 ok1 (fun k17 => ?_) (fun k17 => ?_))
      · refine ⟨_, rfl, ?_⟩
        have okk := ok1.kind k17
        refine gk_if_eq dX11_fill_20 (tgt := 60) (pc' := 23) (by decide) rfl (fun c => absurd c (by decide)) (fun _ => ?_)
        refine gk_aload0 dX11_fill_23 (pc' := 24) rfl ?_
        refine gk_iload1 dX11_fill_24 (pc' := 25) rfl ?_
        refine gk_iload2 dX11_fill_25 (pc' := 26) rfl ?_
        refine gk_iload3 dX11_fill_26 (pc' := 27) rfl ?_
        refine gk_cV1_3 mv_Mo_isWithin gw_909 dX11_fill_27 (pc' := 30) rfl (Nat.le_of_ble_eq_true rfl) (by exact (mkJ)) (sp_Mo_isWithin pr1 hj1 wt1 (fun i j ei ej hi hj => ?_) (fun n27 => ?_))
        · refine ⟨_, rfl, ?_⟩
          have zl := i2l_i (loK (pcS S (nI j1)).1)
          have zh := i2l_i (hiK (pcS S (nI j1)).1)
          refine gk_if_eq dX11_fill_30 (tgt := 60) (pc' := 33) (by decide) rfl (fun c => absurd c (by decide)) (fun _ => ?_)
          refine gk_iload5 dX11_fill_33 (pc' := 35) rfl ?_
          refine gk_i2l dX11_fill_35 (pc' := 36) rfl ?_
          refine gk_aload0 dX11_fill_36 (pc' := 37) rfl ?_
          refine gk_iload1 dX11_fill_37 (pc' := 38) rfl ?_
          refine gk_cV1_1 mv_Mo_kindOf gw_921 dX11_fill_38 (pc' := 41) rfl (Nat.le_of_ble_eq_true rfl) (by exact (mkJ)) (sp_Mo_kindOf pr1 hj1 ?_)
          refine ⟨_, rfl, ?_⟩
          refine gk_cS1_1 mz_Mo_least gw_925 dX11_fill_41 (pc' := 44) rfl (Nat.le_of_ble_eq_true rfl) (sp_Mo_least okk.1 ?_)
          refine ⟨_, rfl, ?_⟩
          refine gk_i2l dX11_fill_44 (pc' := 45) rfl ?_
          refine gk_aload0 dX11_fill_45 (pc' := 46) rfl ?_
          refine gk_iload1 dX11_fill_46 (pc' := 47) rfl ?_
          refine gk_cV1_1 mv_Mo_kindOf gw_921 dX11_fill_47 (pc' := 50) rfl (Nat.le_of_ble_eq_true rfl) (by exact (mkJ)) (sp_Mo_kindOf pr1 hj1 ?_)
          refine ⟨_, rfl, ?_⟩
          refine gk_cS1_1 mz_Mo_greatest gw_928 dX11_fill_50 (pc' := 53) rfl (Nat.le_of_ble_eq_true rfl) (sp_Mo_greatest okk.1 ?_)
          refine ⟨_, rfl, ?_⟩
          refine gk_i2l dX11_fill_53 (pc' := 54) rfl ?_
          refine gk_cS1_3 mz_Mo_in gw_886 dX11_fill_54 (pc' := 57) rfl (Nat.le_of_ble_eq_true rfl) (sp_Mo_in (fun u54 v54 => ?_) (fun n54 => ?_))
          · refine ⟨_, rfl, ?_⟩
            refine gk_if_ne dX11_fill_57 (tgt := 63) (pc' := 60) (by decide) rfl (fun _ => ?_) (fun c => absurd c (by decide))
            refine gk_aload0 dX11_fill_63 (pc' := 64) rfl ?_
            refine gk_cV0_0 mv_Mo_begin gw_892 dX11_fill_64 (pc' := 67) rfl (Nat.le_of_ble_eq_true rfl) (by exact (mkJ)) (sp_Mo_begin hS hw.1 (fun A1 Z1 a1 a2 hBg => ?_))
            refine ⟨rfl, ?_⟩
            have pr2 : pRow (A1 1) (259 * j1) (pcS S (nI j1)) := by rw [a1 1 (by decide)]; exact pr1
            refine gk_aload0 dX11_fill_67 (pc' := 68) rfl ?_
            refine gk_iload1 dX11_fill_68 (pc' := 69) rfl ?_
            refine gk_cV0_1 mv_Mo_look gw_952 dX11_fill_69 (pc' := 72) rfl (Nat.le_of_ble_eq_true rfl) (by exact (mkJ)) (sp_Mo_look pr2 hj1 ?_)
            refine ⟨rfl, ?_⟩
            exact fin j1 i j A1 Z1 hj1 rfl ei ej hi hj ⟨by omega, by omega⟩ c9 a1 hBg
          · refine ⟨_, rfl, ?_⟩
            refine gk_if_ne dX11_fill_57 (tgt := 63) (pc' := 60) (by decide) rfl (fun c => absurd c (by decide)) (fun _ => ?_)
            refine gk_ldc dX11_fill_60 (pc' := 62) rfl gw_869 ?_
            refine gk_iret dX11_fill_62 rfl (hB _ ((if_pos ⟨by omega, c9⟩).trans (if_neg (fun z => by have := z.1; have := z.2; omega))))
        · refine ⟨_, rfl, ?_⟩
          refine gk_if_eq dX11_fill_30 (tgt := 60) (pc' := 33) (by decide) rfl (fun _ => ?_) (fun c => absurd c (by decide))
          refine gk_ldc dX11_fill_60 (pc' := 62) rfl gw_869 ?_
          refine gk_iret dX11_fill_62 rfl (hB _ ((if_pos ⟨by omega, c9⟩).trans (if_neg (fun z => by have := z.1; have := z.2; omega))))
      · refine ⟨_, rfl, ?_⟩
        have okm : (pcS S (nI j1)).2.1 = 0 := ok1.elim (fun z => z.2.1) (fun z => absurd k17 (by rcases z.1 with y | y <;> rw [y] <;> decide))
        refine gk_if_eq dX11_fill_20 (tgt := 60) (pc' := 23) (by decide) rfl (fun _ => ?_) (fun c => absurd c (by decide))
        refine gk_ldc dX11_fill_60 (pc' := 62) rfl gw_869 ?_
        refine gk_iret dX11_fill_62 rfl (hB _ ((if_pos ⟨by omega, c9⟩).trans (if_neg (fun z => by have := z.1; have := z.2; omega))))
    · rw [pu_le, z0] at c9
      refine gk_ldc dX11_fill_12 (pc' := 14) rfl gw_891 ?_
      refine gk_iret dX11_fill_14 rfl (hB _ (if_neg (by omega)))
  · refine ⟨_, rfl, ?_⟩
    refine gk_if_eq dX11_fill_4 (tgt := 12) (pc' := 7) (by decide) rfl (fun _ => ?_) (fun c => absurd c (by decide))
    refine gk_ldc dX11_fill_12 (pc' := 14) rfl gw_891 ?_
    refine gk_iret dX11_fill_14 rfl (hB _ (if_neg (by omega)))
end MoP
