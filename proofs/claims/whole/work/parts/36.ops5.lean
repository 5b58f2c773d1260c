/-! ===== the calls: fill, dither, even, seam, byteTo, read, undo, redo, count ===== -/
/-- all reached places become v -/
def flF (B : Nat → Bool) (p : Nat → Int32) (v : Int32) : Nat → Int32 := fun z => if B z then v else p z
noncomputable def oFill (S : St) (p x y t v : Int32) : Int32 × St := if iR 0 7 p ∧ 0 ≤ t.toInt then (if hasP (pcS S p) x y ∧ ((loK (pcS S p).1).toInt ≤ v.toInt ∧ v.toInt ≤ (hiK (pcS S p).1).toInt) then (nI (cntB (rB (pcS S p).2.1 (pcS S p).2.2.1 (pcS S p).2.2.2 (y.toInt.toNat * (pcS S p).2.1 + x.toInt.toNat) t.toInt) ((pcS S p).2.1 * (pcS S p).2.2.1)), kP S p.toInt.toNat ((pcS S p).1, (pcS S p).2.1, (pcS S p).2.2.1, flF (rB (pcS S p).2.1 (pcS S p).2.2.1 (pcS S p).2.2.2 (y.toInt.toNat * (pcS S p).2.1 + x.toInt.toNat) t.toInt) (pcS S p).2.2.2 v)) else (-100002, S)) else (-100001, S)
def oDither (S : St) (p n : Int32) : Int32 × St := if iR 0 7 p ∧ iR 2 16 n then (if (pcS S p).1 = 0 then (nI (cntP (dS (pcS S p).2.1 (pcS S p).2.2.1 (n.toInt.toNat - 1) (pcS S p).2.2.2 ((pcS S p).2.2.1 * (pcS S p).2.1)).2 (pcS S p).2.2.2 ((pcS S p).2.1 * (pcS S p).2.2.1)), kP S p.toInt.toNat ((pcS S p).1, (pcS S p).2.1, (pcS S p).2.2.1, (dS (pcS S p).2.1 (pcS S p).2.2.1 (n.toInt.toNat - 1) (pcS S p).2.2.2 ((pcS S p).2.2.1 * (pcS S p).2.1)).2)) else (-100002, S)) else (-100001, S)
def oEven (S : St) (p : Int32) : Int32 × St := if iR 0 7 p then (if (pcS S p).1 = 0 then (nI (cntP (evn (pcS S p).2.2.2 ((pcS S p).2.1 * (pcS S p).2.2.1)) (pcS S p).2.2.2 ((pcS S p).2.1 * (pcS S p).2.2.1)), kP S p.toInt.toNat ((pcS S p).1, (pcS S p).2.1, (pcS S p).2.2.1, evn (pcS S p).2.2.2 ((pcS S p).2.1 * (pcS S p).2.2.1))) else (-100002, S)) else (-100001, S)
def oSeam (S : St) (p y : Int32) : Int32 × St := if iR 0 7 p ∧ -1 ≤ y.toInt then (if ¬ (pcS S p).1 = -1 ∧ y.toInt < (pcS S p).2.2.1 then (if y = -1 then seamTot (pcS S p).2.1 (pcS S p).2.2.1 (pcS S p).2.2.2 else nI (seamCol (pcS S p).2.1 (pcS S p).2.2.1 (pcS S p).2.2.2 y.toInt.toNat), S) else (-100002, S)) else (-100001, S)
def oByteTo (S : St) (v : Int32) : Int32 × St := if iR 0 255 v then (if S.2.2.2 = 800 then (-100003, S) else (nI (S.2.2.2 + 1), (S.1, S.2.1, (upd S.2.2.1 S.2.2.2 v, S.2.2.2 + 1)))) else (-100001, S)
def oRead (S : St) (q : Int32) : Int32 × St := if iR 0 7 q then (match (rdS S.2.2.1 S.2.2.2).1 with | none => (nI (rdW S.2.2.1 * rdT S.2.2.1), (pshP S.1 q.toInt.toNat (S.2.2.1 0, rdW S.2.2.1, rdT S.2.2.1, (rdS S.2.2.1 S.2.2.2).2), S.2.1, (S.2.2.1, 0))) | some e => (-1 - nI e, (S.1, S.2.1, (S.2.2.1, 0)))) else (-100001, S)
def oUndo (S : St) : Int32 × St := if S.1.2.1 = 0 then (-100002, S) else (1, (gotoH S.1 (S.1.2.1 - 1), S.2))
def oRedo (S : St) : Int32 × St := if S.1.2.1 = S.1.2.2.1 then (-100002, S) else (1, (gotoH S.1 (S.1.2.1 + 1), S.2))
def stdN (W : Wd) : Nat → Nat
  | 0 => 0
  | n + 1 => stdN W n + (if (W.1 n).1 = -1 then 0 else 1)
def oCount (S : St) (w : Int32) : Int32 × St := (if w = 0 then nI S.2.1.1 else if w = 1 then nI (stdN (cuH S.1) 8) else if w = 2 then nI S.1.2.1 else if w = 3 then nI (S.1.2.2.1 - S.1.2.1) else if w = 4 then nI S.2.2.2 else -100001, S)
theorem inK_dS {w t top : Nat} {p : Nat → Int32} (h2 : 1 ≤ top) : ∀ n i, inK 0 ((dS w t top p n).2 i)
  | 0, i => inK_b (by show 0 ≤ (0 : Int32).toInt ∧ (0 : Int32).toInt ≤ 255; decide)
  | n + 1, i => by
    have ih := inK_dS (w := w) (t := t) (p := p) h2 n
    have d1 : ∀ v, inK 0 (dmd top v) := fun v => by
      have q := dlv_rng top v
      have z : 255 * (dlv top v).toNat / top ≤ 255 := by
        rw [Nat.div_le_iff_le_mul_add_pred (by omega)]
        have : 255 * (dlv top v).toNat ≤ 255 * top := Nat.mul_le_mul_left _ (by omega)
        rw [Nat.mul_comm top 255]
        omega
      unfold dmd
      generalize 255 * (dlv top v).toNat / top = y at *
      exact inK_b (by rw [nI_toInt (by omega)]; omega)
    show inK 0 ((dst w t top p n (dS w t top p n)).2 i)
    unfold dst
    by_cases e : i = n
    · subst e
      show inK 0 (upd _ _ _ _)
      rw [pk_us]; exact d1 _
    · show inK 0 (upd _ _ _ _)
      rw [pk_un e]; exact ih i
theorem cN_mono {p : Nat → Int32} {u v : Int} (h : u ≤ v) : ∀ n, cN p n u ≤ cN p n v
  | 0 => Nat.le_refl 0
  | n + 1 => by
    have := cN_mono (p := p) h n
    unfold cN
    split <;> split <;> omega
theorem minP_le {m : Int32} {p : Nat → Int32} : ∀ n i, i < n → (minP m p n).toInt ≤ (p i).toInt
  | 0, i, h => absurd h (by omega)
  | n + 1, i, h => by
    have : i < n → (minP m p n).toInt ≤ (p i).toInt := fun q => minP_le n i q
    unfold minP
    by_cases e : i = n
    · subst e
      split
      · exact Int.le_refl _
      · rename_i c; rw [pu_lt] at c; omega
    · have := this (by omega)
      split
      · rename_i c; rw [pu_lt] at c; omega
      · exact this
theorem inK_evn {p : Nat → Int32} {n : Nat} (hb : ∀ i, i < n → inK 0 (p i)) (i : Nat) (hi : i < n) : inK 0 (evn p n i) := by
  unfold evn
  split
  · exact hb i hi
  · rename_i c
    have h1 := cN_le p (p i).toInt n
    have h2 : cN p n (minP 255 p n).toInt ≤ cN p n (p i).toInt := cN_mono (minP_le n i hi) n
    generalize cN p n (p i).toInt = a at *
    generalize cN p n (minP 255 p n).toInt = c0 at *
    have hd : (0 : Int) < 2 * ((n : Int) - c0) := by omega
    have e : 0 ≤ rnd (255 * ((a : Int) - c0)) (n - c0) ∧ rnd (255 * ((a : Int) - c0)) (n - c0) ≤ 255 := by
      unfold rnd
      constructor
      · exact Int.ediv_nonneg (by omega) (by omega)
      · refine Int.le_of_lt_add_one (Int.ediv_lt_of_lt_mul hd ?_)
        omega
    exact inK_b (by rw [Int32.toInt_ofInt, Jvm.Kit.bmod32 (by omega) (by omega)]; exact e)
theorem rdF_all {P : Int32 → Prop} {bs : Nat → Int32} {len all ea : Nat} (hp : ∀ pl, pl + ea < len → P (tpV bs ea pl)) : ∀ f pl fi x, (∀ j, P (x j)) → ∀ j, P ((rdF bs len all ea f pl fi x).2 j)
  | 0, pl, fi, x, h => h
  | f + 1, pl, fi, x, h => by
    unfold rdF
    split
    · exact h
    · split
      · exact h
      · split
        · exact h
        · split
          · exact h
          · rename_i c
            refine rdF_all hp f _ _ _ (fun j => ?_)
            show P (if fi ≤ j ∧ j < fi + (bs pl).toInt.toNat then tpV bs ea pl else x j)
            split
            · exact hp pl (by omega)
            · exact h j
theorem rdF_le {bs : Nat → Int32} {len all ea : Nat} : ∀ f pl fi x e, (rdF bs len all ea f pl fi x).1 = some e → e ≤ len
  | 0, pl, fi, x, e, h => by cases h; exact Nat.le_refl _
  | f + 1, pl, fi, x, e, h => by
    unfold rdF at h
    split at h
    · split at h
      · cases h; omega
      · cases h
    · split at h
      · cases h; exact Nat.le_refl _
      · split at h
        · rename_i c _; cases h; omega
        · split at h
          · cases h; exact Nat.le_refl _
          · exact rdF_le f _ _ _ e h
theorem rdS_le {bs : Nat → Int32} {len e : Nat} (hl : len ≤ 800) (h : (rdS bs len).1 = some e) : e ≤ 802 := by
  unfold rdS at h
  split at h
  · rename_i c
    cases h
    omega
  · have := rdF_le _ _ _ _ e h
    omega
theorem rdS_ok {bs : Nat → Int32} {len : Nat} (hb : ∀ i, i < len → 0 ≤ (bs i).toInt ∧ (bs i).toInt ≤ 255) (h : (rdS bs len).1 = none) : okP (bs 0, rdW bs, rdT bs, (rdS bs len).2) := by
  have hh : ¬ hdN bs len < 3 := fun q => by
    unfold rdS at h
    rw [if_pos q] at h
    cases h
  have h3 : (0 ≤ (bs 0).toInt ∧ (bs 0).toInt ≤ 1) ∧ (1 ≤ (bs 1).toInt ∧ (bs 1).toInt ≤ 16) ∧ (1 ≤ (bs 2).toInt ∧ (bs 2).toInt ≤ 16) := by
    unfold hdN at hh
    split at hh
    · omega
    · split at hh
      · omega
      · split at hh
        · omega
        · omega
  have hk : bs 0 = 0 ∨ bs 0 = 1 := k_in (by omega) (by omega) (fun e => by rw [e] at h3; exact absurd h3.1.1 (by decide))
  refine Or.inr ⟨hk, by show 1 ≤ (bs 1).toInt.toNat ∧ (bs 1).toInt.toNat ≤ 16; omega, by show 1 ≤ (bs 2).toInt.toNat ∧ (bs 2).toInt.toNat ≤ 16; omega, fun i _ => ?_⟩
  show inK (bs 0) ((rdS bs len).2 i)
  unfold rdS
  rw [if_neg hh]
  refine rdF_all (P := inK (bs 0)) (fun pl hpl => ?_) _ _ _ _ (fun j => inK0) i
  unfold tpV
  rcases hk with e | e
  · rw [e]
    have : rdE bs = 1 := by unfold rdE; rw [e]; decide
    rw [if_pos this]
    rw [this] at hpl
    exact inK_b (hb _ hpl)
  · rw [e]
    have : rdE bs = 2 := by unfold rdE; rw [e]; decide
    rw [if_neg (by omega)]
    exact inK_1 (i16r _)
section OpG
variable {X : gX} {d : Nat} {b : Nat × Nat} {h h' : gk_H} {Q : Option Value → gk_H → Prop} {r F0 : Nat} {S : St} {pc mc : Nat → Nat}
theorem Sc.fd (hs : Sc X h r) (hf : fr (fun c => c = r + 101 ∨ c = r + 101 + 1 ∨ c = r + 101 + 2) h h') (hn : ∃ pl wt n, isFd X h' (r + 101) pl wt n) : Sc X h' r := by
  obtain ⟨⟨g, b1⟩, b2, -, ⟨cr, am, b4⟩, cs, cl, tot, b5⟩ := hs
  have he : ∀ c, r + 90 ≤ c → c < r + 110 → c ≠ r + 101 → c ≠ r + 102 → c ≠ r + 103 → h'.1 c = h.1 c := fun c _ _ n1 n2 n3 => hf.2 c (by omega)
  refine ⟨⟨g, b1.kept (he _ (by omega) (by omega) (by omega) (by omega) (by omega)) (he _ (by omega) (by omega) (by omega) (by omega) (by omega)) (he _ (by omega) (by omega) (by omega) (by omega) (by omega))⟩, fun j hj => ?_, hn, ⟨cr, am, (he _ (by omega) (by omega) (by omega) (by omega) (by omega)).trans b4.1, (he _ (by omega) (by omega) (by omega) (by omega) (by omega)).trans b4.2.1, (he _ (by omega) (by omega) (by omega) (by omega) (by omega)).trans b4.2.2⟩, cs, cl, tot, (he _ (by omega) (by omega) (by omega) (by omega) (by omega)).trans b5.1, (he _ (by omega) (by omega) (by omega) (by omega) (by omega)).trans b5.2.1, (he _ (by omega) (by omega) (by omega) (by omega) (by omega)).trans b5.2.2⟩
  obtain ⟨k, w, t, p, hb⟩ := b2 j hj
  exact ⟨k, w, t, p, hb.kept (he _ (by omega) (by omega) (by omega) (by omega) (by omega)) (he _ (by omega) (by omega) (by omega) (by omega) (by omega))⟩
theorem Sc.tn (hs : Sc X h r) (he : ∀ c, r + 90 ≤ c → c < r + 110 → c ≠ r + 104 → c ≠ r + 105 → c ≠ r + 106 → h'.1 c = h.1 c) (hn : ∃ cr am, isTn X h' (r + 104) cr am) : Sc X h' r := by
  obtain ⟨⟨g, b1⟩, b2, ⟨pl, wt, n, b3⟩, -, cs, cl, tot, b5⟩ := hs
  refine ⟨⟨g, b1.kept (he _ (by omega) (by omega) (by omega) (by omega) (by omega)) (he _ (by omega) (by omega) (by omega) (by omega) (by omega)) (he _ (by omega) (by omega) (by omega) (by omega) (by omega))⟩, fun j hj => ?_, ⟨pl, wt, n, (he _ (by omega) (by omega) (by omega) (by omega) (by omega)).trans b3.1, (he _ (by omega) (by omega) (by omega) (by omega) (by omega)).trans b3.2.1, (he _ (by omega) (by omega) (by omega) (by omega) (by omega)).trans b3.2.2⟩, hn, cs, cl, tot, (he _ (by omega) (by omega) (by omega) (by omega) (by omega)).trans b5.1, (he _ (by omega) (by omega) (by omega) (by omega) (by omega)).trans b5.2.1, (he _ (by omega) (by omega) (by omega) (by omega) (by omega)).trans b5.2.2⟩
  obtain ⟨k, w, t, p, hb⟩ := b2 j hj
  exact ⟨k, w, t, p, hb.kept (he _ (by omega) (by omega) (by omega) (by omega) (by omega)) (he _ (by omega) (by omega) (by omega) (by omega) (by omega))⟩
theorem Sc.sm (hs : Sc X h r) (hf : fr (fun c => c = r + 107 ∨ c = r + 107 + 1 ∨ c = r + 107 + 2) h h') (hn : ∃ cs cl tot, isSm X h' (r + 107) cs cl tot) : Sc X h' r := by
  obtain ⟨⟨g, b1⟩, b2, ⟨pl, wt, n, b3⟩, ⟨cr, am, b4⟩, -⟩ := hs
  have he : ∀ c, r + 90 ≤ c → c < r + 107 → h'.1 c = h.1 c := fun c _ _ => hf.2 c (by omega)
  refine ⟨⟨g, b1.kept (he _ (by omega) (by omega)) (he _ (by omega) (by omega)) (he _ (by omega) (by omega))⟩, fun j hj => ?_, ⟨pl, wt, n, (he _ (by omega) (by omega)).trans b3.1, (he _ (by omega) (by omega)).trans b3.2.1, (he _ (by omega) (by omega)).trans b3.2.2⟩, ⟨cr, am, (he _ (by omega) (by omega)).trans b4.1, (he _ (by omega) (by omega)).trans b4.2.1, (he _ (by omega) (by omega)).trans b4.2.2⟩, hn⟩
  obtain ⟨k, w, t, p, hb⟩ := b2 j hj
  exact ⟨k, w, t, p, hb.kept (he _ (by omega) (by omega)) (he _ (by omega) (by omega))⟩
theorem fin_fill {h0 : gk_H} {p : Nat} {c : Pc} {v : Int32} {l2 l3 l4 l5 l6 l8 : Option Value} (hs : Rs X h0 r F0 S pc mc) (ht : isPc X h (pc 8) c) (hf : fr (trA pc) h0 h) (hok : okP c) (hp : p < 8) (hQ : ∀ h', Room X h' r F0 (kP S p c) → frC r F0 h0 h' → Q (some (.int v)) h') : G (kx X) mt_Room_fill (d + 10) b 104 [some (.ref r), some (.int (nI p)), l2, l3, l4, l5, l6, some (.int v), l8] [] h Q := by
  have hs1 := hs.tray hf (fun c z => z)
  have a1 := hs1.2.1.obj
  refine gk_aload0 dX10_fill_104 (pc' := 105) rfl ?_
  refine gk_iload1 dX10_fill_105 (pc' := 106) rfl ?_
  refine gk_cV0_1 mv_Room_keepPicture gw_262 dX10_fill_106 (pc' := 109) rfl (Nat.le_of_ble_eq_true rfl) (by assumption) (sp_keepP hs1 ht hok hp (fun h3 z3 z4 => ?_))
  refine ⟨rfl, ?_⟩
  refine gk_iload7 dX10_fill_109 (pc' := 111) rfl ?_
  refine gk_iret dX10_fill_111 rfl (hQ h3 z3 ((hs.trayC hf (fun c z => z)).trans z4))
theorem lp_fill {h0 : gk_H} {lp l2 l3 l4 l6 : Option Value} {k v : Int32} {w t n : Nat} {p0 pl : Nat → Int32} {wt : Nat → Bool} {q : Nat → Nat} (hs : Rs X h0 r F0 S pc mc) (hfd : isFd X h0 (r + 101) pl wt n) (hq : ∀ m, m < n → pl m = nI (q m) ∧ q m < w * t) (hn : n ≤ 256) (hQ : ∀ h g, isPic X h (pc 8) k w t g → (∀ z, z < w * t → g z = if (∃ m, m < n ∧ q m = z) then v else p0 z) → fr (trA pc) h0 h → ∀ l8, G (kx X) mt_Room_fill (d + 10) b 104 [some (.ref r), lp, l2, l3, l4, some (.int v), l6, some (.int (nI n)), l8] [] h Q) :
    ∀ f i h g, i + f = n → isPic X h (pc 8) k w t g → (∀ z, z < w * t → g z = if (∃ m, m < i ∧ q m = z) then v else p0 z) → fr (trA pc) h0 h → G (kx X) mt_Room_fill (d + 10) b 73 [some (.ref r), lp, l2, l3, l4, some (.int v), l6, some (.int (nI n)), some (.int (nI i))] [] h Q := by
  have x8 := (hs.2.1.I.1 8 (by decide)).fx
  intro f
  induction f with
  | zero =>
    intro i h g hi hg hgF hf
    refine gk_iload8 dX10_fill_73 (pc' := 75) rfl ?_
    refine gk_iload7 dX10_fill_75 (pc' := 77) rfl ?_
    refine gk_icmp_ge dX10_fill_77 (tgt := 104) (pc' := 80) (by decide) rfl (fun c77 => ?_) (fun c77 => absurd (nI_le (by omega) (by omega)) c77)
    rw [show i = n by omega] at hgF
    exact hQ h g hg hgF hf _
  | succ f ih =>
    intro i h g hi hg hgF hf
    have a1 := (hs.tray hf (fun c z => z)).2.1.obj
    have fd : isFd X h (r + 101) pl wt n := ⟨(hf.2 _ (by unfold trA; omega)).trans hfd.1, (hf.2 _ (by unfold trA; omega)).trans hfd.2.1, (hf.2 _ (by unfold trA; omega)).trans hfd.2.2⟩
    have hqi := hq i (by omega)
    have ar := hg.area
    refine gk_iload8 dX10_fill_73 (pc' := 75) rfl ?_
    refine gk_iload7 dX10_fill_75 (pc' := 77) rfl ?_
    refine gk_icmp_ge dX10_fill_77 (tgt := 104) (pc' := 80) (by decide) rfl (fun c77 => absurd c77 (nI_ge (by omega) (by omega))) (fun c77 => ?_)
    refine gk_aload0 dX10_fill_80 (pc' := 81) rfl ?_
    refine gk_getf (fs := [_, _, _, _, _, _, _, _, _, _, _, _]) gF_Room_32 dX10_fill_81 (pc' := 84) rfl (by assumption) rfl ?_
    refine gk_aload0 dX10_fill_84 (pc' := 85) rfl ?_
    refine gk_getf (fs := [_, _, _, _, _, _, _, _, _, _, _, _]) gF_Room_58 dX10_fill_85 (pc' := 88) rfl (by assumption) rfl ?_
    refine gk_iload8 dX10_fill_88 (pc' := 90) rfl ?_
    refine gk_cV1_1 mv_Flood_placeAt gw_610 dX10_fill_90 (pc' := 93) rfl (Nat.le_of_ble_eq_true rfl) (by exact (fd.1)) (sp_Flood_placeAt fd (by omega) ?_)
    refine ⟨_, rfl, ?_⟩
    rw [hqi.1]
    refine gk_iload5 dX10_fill_93 (pc' := 95) rfl ?_
    refine gk_cV0_2 mv_Picture_set gw_314 dX10_fill_95 (pc' := 98) rfl (Nat.le_of_ble_eq_true rfl) (by exact (hg.o)) (sp_Picture_set hg (by omega) (fun h' q1 q2 => ?_))
    refine ⟨rfl, ?_⟩
    refine gk_iinc8 (v := 1) dX10_fill_98 (pc' := 101) rfl (by decide) (by decide) rfl ?_
    refine gk_goto dX10_fill_101 (tgt := 73) (by decide) ?_
    rw [← nI_succ]
    refine ih (i + 1) h' _ (by omega) q1 (fun z hz => ?_) (hf.trans q2 (fun _ z => z) (fun _ z => Or.inr z))
    by_cases e : z = q i
    · subst e
      rw [pk_us, if_pos ⟨i, by omega, rfl⟩]
    · rw [pk_un e, hgF z hz]
      by_cases c : ∃ m, m < i ∧ q m = z
      · obtain ⟨m, hm, em⟩ := c
        rw [if_pos ⟨m, hm, em⟩, if_pos ⟨m, by omega, em⟩]
      · rw [if_neg c, if_neg (fun c2 => c (by obtain ⟨m, hm, em⟩ := c2; exact ⟨m, by rcases (show m < i ∨ m = i by omega) with y | y; exact y; rw [y] at em; exact absurd em.symm e, em⟩))]
theorem cl_fill {p x y t v : Int32} (hR : Room X h r F0 S) (hQ : ∀ h', Room X h' r F0 (oFill S p x y t v).2 → frC r F0 h h' → Q (some (.int (oFill S p x y t v).1)) h') : Gm (kx X) mt_Room_fill (d + 10) b [.ref r, .int p, .int x, .int y, .int t, .int v] h Q := by
  have hB : ∀ a, oFill S p x y t v = (a, S) → Q (some (.int a)) h := fun a e => by
    have q := hQ h
    rw [e] at q
    exact q hR frC.rf
  obtain ⟨hF, pc, mc, hm, ⟨c8, ht⟩, hrest⟩ := hR
  have hs : Rs X h r F0 S pc mc := ⟨hF, hm, hrest⟩
  have a1 := hm.obj
  obtain ⟨f1, a2, a3⟩ := hm.prow
  have z0 : (0 : Int32).toInt = 0 := rfl
  have x8 := (hm.I.1 8 (by decide)).fx
  obtain ⟨pl0, wt0, n0, fd0⟩ := hrest.2.1.2.2.1
  have fin : ∀ j1 i j, j1 < 8 → p = nI j1 → x = nI i → y = nI j → i < (pcS S p).2.1 → j < (pcS S p).2.2.1 → inK (pcS S p).1 v → 0 ≤ t.toInt → G (kx X) mt_Room_fill (d + 10) b 46 [some (.ref r), some (.int p), some (.int x), some (.int y), some (.int t), some (.int v), some (.ref (pc j1)), none, none] [] h Q := by
    intro j1 i j hj1 ep ex ey hi hj hv htt
    subst ep ex ey
    have hp1 := picS hm hj1
    have ok1 := (okpS hm hj1).has (by omega)
    have ap1 := hm.ap hj1
    have xj := (hm.I.1 j1 (by omega)).fx
    have u1 := hp1.1
    have u2 := hp1.2.1
    have zj1 : (nI j1).toInt = j1 := nI_toInt (by omega)
    have yj1 : (nI j1).toInt.toNat = j1 := by omega
    have zi : (nI i).toInt = i := nI_toInt (by omega)
    have zj : (nI j).toInt = j := nI_toInt (by omega)
    have yi : (nI i).toInt.toNat = i := by omega
    have yj : (nI j).toInt.toNat = j := by omega
    refine gk_aload0 dX10_fill_46 (pc' := 47) rfl ?_
    refine gk_getf (fs := [_, _, _, _, _, _, _, _, _, _, _, _]) gF_Room_58 dX10_fill_47 (pc' := 50) rfl (by assumption) rfl ?_
    refine gk_aload6 dX10_fill_50 (pc' := 52) rfl ?_
    refine gk_iload2 dX10_fill_52 (pc' := 53) rfl ?_
    refine gk_iload3 dX10_fill_53 (pc' := 54) rfl ?_
    refine gk_iload4 dX10_fill_54 (pc' := 56) rfl ?_
    refine gk_cV1_4 mv_Flood_pour gw_596 dX10_fill_56 (pc' := 59) rfl (Nat.le_of_ble_eq_true rfl) (by exact (fd0.1)) (sp_Flood_pour fd0 hp1 (by omega) (by omega) (fun i hi => inK_r (ok1.2.2.2 i hi)) hi hj htt (fun h1 pl wt n q y1 y2 y3 y4 y5 => ?_))
    refine ⟨_, rfl, ?_⟩
    have hz := hs.scr y5 (fun c z => Or.inr (by omega)) (hrest.2.1.fd y5 ⟨pl, wt, n, y1⟩)
    have hs1 := hz.1
    have fc1 := hz.2
    have a1 := hs1.2.1.obj
    have hp2 := picS hs1.2.1 hj1
    have ht1 := ht.fr y5 (by omega) (by omega)
    refine gk_istore7 dX10_fill_59 (pc' := 61) rfl (by decide) rfl ?_
    refine gk_aload0 dX10_fill_61 (pc' := 62) rfl ?_
    refine gk_getf (fs := [_, _, _, _, _, _, _, _, _, _, _, _]) gF_Room_32 dX10_fill_62 (pc' := 65) rfl (by assumption) rfl ?_
    refine gk_aload6 dX10_fill_65 (pc' := 67) rfl ?_
    refine gk_cV0_1 mv_Picture_copyFrom gw_306 dX10_fill_67 (pc' := 70) rfl (Nat.le_of_ble_eq_true rfl) (by exact (ht1.o)) (sp_Picture_copyFrom ht1 hp2 (by omega) (by omega) (by omega) (fun h2 y6 y7 => ?_))
    refine ⟨rfl, ?_⟩
    refine gk_iconst (v := 0) dX10_fill_70 (pc' := 71) rfl (by decide) ?_
    refine gk_istore8 dX10_fill_71 (pc' := 73) rfl (by decide) rfl ?_
    have hn : n ≤ 256 := by rw [y2]; have := cntB_le (rB (pcS S (nI j1)).2.1 (pcS S (nI j1)).2.2.1 (pcS S (nI j1)).2.2.2 (j * (pcS S (nI j1)).2.1 + i) t.toInt) ((pcS S (nI j1)).2.1 * (pcS S (nI j1)).2.2.1); have := area_le u1 u2; omega
    refine lp_fill hs1 y1 y3 hn (fun h3 g g1 g2 g3 l8 => ?_) n 0 h2 _ (by omega) y6 (fun z hz => by rw [if_neg (fun c => by obtain ⟨m, hm, -⟩ := c; omega)]) y7
    have g4 : isPc X h3 (pc 8) ((pcS S (nI j1)).1, (pcS S (nI j1)).2.1, (pcS S (nI j1)).2.2.1, flF (rB (pcS S (nI j1)).2.1 (pcS S (nI j1)).2.2.1 (pcS S (nI j1)).2.2.2 (j * (pcS S (nI j1)).2.1 + i) t.toInt) (pcS S (nI j1)).2.2.2 v) := g1.congr (fun z hz => by
      rw [g2 z hz]
      show _ = if rB (pcS S (nI j1)).2.1 (pcS S (nI j1)).2.2.1 (pcS S (nI j1)).2.2.2 (j * (pcS S (nI j1)).2.1 + i) t.toInt z = true then v else _
      by_cases c : rB (pcS S (nI j1)).2.1 (pcS S (nI j1)).2.2.1 (pcS S (nI j1)).2.2.2 (j * (pcS S (nI j1)).2.1 + i) t.toInt z = true
      · rw [if_pos ((y4 z hz).mp c), if_pos c]
      · rw [if_neg (fun q => c ((y4 z hz).mpr q)), if_neg c])
    refine fin_fill hs1 g4 g3 (Or.inr ⟨ok1.1, ok1.2.1, ok1.2.2.1, fun z hz => ?_⟩) hj1 (fun h4 z3 z4 => by have q := hQ h4; rw [show oFill S (nI j1) (nI i) (nI j) t v = _ from (if_pos ⟨by omega, htt⟩).trans (if_pos ⟨by omega, hv⟩), yj1, yi, yj, ← y2] at q; exact q z3 (fc1.trans z4))
    show inK _ (if rB (pcS S (nI j1)).2.1 (pcS S (nI j1)).2.2.1 (pcS S (nI j1)).2.2.2 (j * (pcS S (nI j1)).2.1 + i) t.toInt z = true then v else _)
    split
    · exact hv
    · exact ok1.2.2.2 z hz
  refine Gm.enter (L := [some (.ref r), some (.int p), some (.int x), some (.int y), some (.int t), some (.int v), none, none, none]) (by decide) (fun _ => trivial) (Nat.le_of_ble_eq_true rfl) rfl ?_
  refine gk_iload1 dX10_fill_0 (pc' := 1) rfl ?_
  refine gk_cS1_1 mz_Room_isPicture gw_237 dX10_fill_1 (pc' := 4) rfl (Nat.le_of_ble_eq_true rfl) (sp_Room_isPicture (fun j1 hj1 ej1 => ?_) (fun n1 => ?_))
  · refine ⟨_, rfl, ?_⟩
    subst ej1
    have zj1 : (nI j1).toInt = j1 := nI_toInt (by omega)
    have yj1 : (nI j1).toInt.toNat = j1 := by omega
    have hp1 := picS hm hj1
    have ok1 := okpS hm hj1
    have ap1 := hm.ap hj1
    refine gk_if_eq dX10_fill_4 (tgt := 12) (pc' := 7) (by decide) rfl (fun c => absurd c (by decide)) (fun _ => ?_)
    refine gk_iload4 dX10_fill_7 (pc' := 9) rfl ?_
    refine gk_if_ge dX10_fill_9 (tgt := 15) (pc' := 12) (by decide) rfl (fun c9 => ?_) (fun c9 => ?_)
    · rw [pu_le, z0] at c9
      refine gk_aload0 dX10_fill_15 (pc' := 16) rfl ?_
      refine gk_getf (fs := [_, _, _, _, _, _, _, _, _, _, _, _]) gF_Room_11 dX10_fill_16 (pc' := 19) rfl (by assumption) rfl ?_
      refine gk_iload1 dX10_fill_19 (pc' := 20) rfl ?_
      refine gk_aald (t0 := 2) rfl dX10_fill_20 (pc' := 21) rfl (by exact (a2)) (vp_in_nI hj1 (by decide)) ?_
      rw [nI_clamp (by omega), a3 j1 hj1, show va_rf (some (pc j1)) = Value.ref (pc j1) from rfl]
      refine gk_astore6 dX10_fill_21 (pc' := 23) rfl (by decide) rfl ?_
      refine gk_aload6 dX10_fill_23 (pc' := 25) rfl ?_
      refine gk_iload2 dX10_fill_25 (pc' := 26) rfl ?_
      refine gk_iload3 dX10_fill_26 (pc' := 27) rfl ?_
      refine gk_cV1_2 mv_Picture_has gw_281 dX10_fill_27 (pc' := 30) rfl (Nat.le_of_ble_eq_true rfl) (by exact (hp1.o)) (sp_Picture_has hp1 (fun i j ei ej hi hj => ?_) (fun n15 => ?_))
      · refine ⟨_, rfl, ?_⟩
        refine gk_if_eq dX10_fill_30 (tgt := 43) (pc' := 33) (by decide) rfl (fun c => absurd c (by decide)) (fun _ => ?_)
        refine gk_aload6 dX10_fill_33 (pc' := 35) rfl ?_
        refine gk_iload5 dX10_fill_35 (pc' := 37) rfl ?_
        refine gk_cV1_1 mv_Picture_holds gw_285 dX10_fill_37 (pc' := 40) rfl (Nat.le_of_ble_eq_true rfl) (by exact (hp1.o)) (sp_Picture_holds hp1 (fun u36 v36 => ?_) (fun n36 => ?_))
        · refine ⟨_, rfl, ?_⟩
          refine gk_if_ne dX10_fill_40 (tgt := 46) (pc' := 43) (by decide) rfl (fun _ => ?_) (fun c => absurd c (by decide))
          exact fin j1 i j hj1 rfl ei ej hi hj ⟨u36, v36⟩ c9
        · refine ⟨_, rfl, ?_⟩
          refine gk_if_ne dX10_fill_40 (tgt := 46) (pc' := 43) (by decide) rfl (fun c => absurd c (by decide)) (fun _ => ?_)
          refine gk_ldc dX10_fill_43 (pc' := 45) rfl gw_297 ?_
          refine gk_iret dX10_fill_45 rfl (hB _ ((if_pos ⟨by omega, c9⟩).trans (if_neg (fun z => by first | exact n15 z.1 | exact n36 z.2))))
      · refine ⟨_, rfl, ?_⟩
        refine gk_if_eq dX10_fill_30 (tgt := 43) (pc' := 33) (by decide) rfl (fun _ => ?_) (fun c => absurd c (by decide))
        refine gk_ldc dX10_fill_43 (pc' := 45) rfl gw_297 ?_
        refine gk_iret dX10_fill_45 rfl (hB _ ((if_pos ⟨by omega, c9⟩).trans (if_neg (fun z => by first | exact n15 z.1 | exact n36 z.2))))
    · rw [pu_le, z0] at c9
      refine gk_ldc dX10_fill_12 (pc' := 14) rfl gw_243 ?_
      refine gk_iret dX10_fill_14 rfl (hB _ (if_neg (by omega)))
  · refine ⟨_, rfl, ?_⟩
    refine gk_if_eq dX10_fill_4 (tgt := 12) (pc' := 7) (by decide) rfl (fun _ => ?_) (fun c => absurd c (by decide))
    refine gk_ldc dX10_fill_12 (pc' := 14) rfl gw_243 ?_
    refine gk_iret dX10_fill_14 rfl (hB _ (if_neg (by omega)))
theorem cl_dither {p n : Int32} (hR : Room X h r F0 S) (hQ : ∀ h', Room X h' r F0 (oDither S p n).2 → frC r F0 h h' → Q (some (.int (oDither S p n).1)) h') : Gm (kx X) mt_Room_dither (d + 10) b [.ref r, .int p, .int n] h Q := by
  have hB : ∀ a, oDither S p n = (a, S) → Q (some (.int a)) h := fun a e => by
    have q := hQ h
    rw [e] at q
    exact q hR frC.rf
  obtain ⟨hF, pc, mc, hm, ⟨c8, ht⟩, hrest⟩ := hR
  have hs : Rs X h r F0 S pc mc := ⟨hF, hm, hrest⟩
  have a1 := hm.obj
  obtain ⟨f1, a2, a3⟩ := hm.prow
  have z2 : (2 : Int32).toInt = 2 := rfl
  have z16 : (16 : Int32).toInt = 16 := rfl
  have x8 := (hm.I.1 8 (by decide)).fx
  obtain ⟨cr0, am0, tn0⟩ := hrest.2.1.2.2.2.1
  refine Gm.enter (L := [some (.ref r), some (.int p), some (.int n), none, none]) (by decide) (fun _ => trivial) (Nat.le_of_ble_eq_true rfl) rfl ?_
  refine gk_iload1 dX10_dither_0 (pc' := 1) rfl ?_
  refine gk_cS1_1 mz_Room_isPicture gw_237 dX10_dither_1 (pc' := 4) rfl (Nat.le_of_ble_eq_true rfl) (sp_Room_isPicture (fun j1 hj1 ej1 => ?_) (fun n1 => ?_))
  · refine ⟨_, rfl, ?_⟩
    subst ej1
    have zj1 : (nI j1).toInt = j1 := nI_toInt (by omega)
    have yj1 : (nI j1).toInt.toNat = j1 := by omega
    have hp1 := picS hm hj1
    have ok1 := okpS hm hj1
    have ap1 := hm.ap hj1
    refine gk_if_eq dX10_dither_4 (tgt := 17) (pc' := 7) (by decide) rfl (fun c => absurd c (by decide)) (fun _ => ?_)
    refine gk_iload2 dX10_dither_7 (pc' := 8) rfl ?_
    refine gk_iconst (v := 2) dX10_dither_8 (pc' := 9) rfl (by decide) ?_
    refine gk_bipush (v := 16) dX10_dither_9 (pc' := 11) rfl (by decide) ?_
    refine gk_cS1_3 mz_Room_within gw_240 dX10_dither_11 (pc' := 14) rfl (Nat.le_of_ble_eq_true rfl) (sp_Room_within (fun u11 v11 => ?_) (fun n11 => ?_))
    · refine ⟨_, rfl, ?_⟩
      obtain ⟨jn, hn, rfl⟩ := pu_of (x := n) (n := 17) (by omega) (by omega) (by omega)
      have zn : (nI jn).toInt = jn := nI_toInt (by omega)
      have yn : (nI jn).toInt.toNat = jn := by omega
      obtain ⟨top, rfl⟩ : ∃ top, jn = top + 1 := ⟨jn - 1, by omega⟩
      refine gk_if_ne dX10_dither_14 (tgt := 20) (pc' := 17) (by decide) rfl (fun _ => ?_) (fun c => absurd c (by decide))
      refine gk_aload0 dX10_dither_20 (pc' := 21) rfl ?_
      refine gk_getf (fs := [_, _, _, _, _, _, _, _, _, _, _, _]) gF_Room_11 dX10_dither_21 (pc' := 24) rfl (by assumption) rfl ?_
      refine gk_iload1 dX10_dither_24 (pc' := 25) rfl ?_
      refine gk_aald (t0 := 2) rfl dX10_dither_25 (pc' := 26) rfl (by exact (a2)) (vp_in_nI hj1 (by decide)) ?_
      rw [nI_clamp (by omega), a3 j1 hj1, show va_rf (some (pc j1)) = Value.ref (pc j1) from rfl]
      refine gk_astore3 dX10_dither_26 (pc' := 27) rfl (by decide) rfl ?_
      refine gk_aload3 dX10_dither_27 (pc' := 28) rfl ?_
      refine gk_getf (fs := [_, _, _, _]) gF_Room_133 dX10_dither_28 (pc' := 31) rfl (by exact (hp1.o)) rfl ?_
      refine gk_if_eq dX10_dither_31 (tgt := 37) (pc' := 34) (by decide) rfl (fun c31 => ?_) (fun c31 => ?_)
      · have c31' : (pcS S (nI j1)).1 = 0 := c31
        have okk := ok1.kind (by rw [c31']; decide)
        have xj := (hm.I.1 j1 (by omega)).fx
        refine gk_aload0 dX10_dither_37 (pc' := 38) rfl ?_
        refine gk_getf (fs := [_, _, _, _, _, _, _, _, _, _, _, _]) gF_Room_65 dX10_dither_38 (pc' := 41) rfl (by assumption) rfl ?_
        refine gk_aload3 dX10_dither_41 (pc' := 42) rfl ?_
        refine gk_aload0 dX10_dither_42 (pc' := 43) rfl ?_
        refine gk_getf (fs := [_, _, _, _, _, _, _, _, _, _, _, _]) gF_Room_32 dX10_dither_43 (pc' := 46) rfl (by assumption) rfl ?_
        refine gk_iload2 dX10_dither_46 (pc' := 47) rfl ?_
        refine gk_cV0_3 mv_Tones_spread gw_618 dX10_dither_47 (pc' := 50) rfl (Nat.le_of_ble_eq_true rfl) (by exact (tn0.1)) (sp_Tones_spread tn0 hp1 ht (by omega) (by omega) (by omega) (by omega) (by omega) (fun h1 cr1 y1 y2 y3 => ?_))
        refine ⟨rfl, ?_⟩
        have hz := hs.scr y3 (fun c z => by unfold trA; omega) (hrest.2.1.tn (fun c z1 z2 n1 n2 n3 => y3.2 c (by omega)) ⟨cr1, am0, y1⟩)
        have hs1 := hz.1
        have a1 := hs1.2.1.obj
        have hp2 := picS hs1.2.1 hj1
        refine gk_aload0 dX10_dither_50 (pc' := 51) rfl ?_
        refine gk_getf (fs := [_, _, _, _, _, _, _, _, _, _, _, _]) gF_Room_32 dX10_dither_51 (pc' := 54) rfl (by assumption) rfl ?_
        refine gk_aload3 dX10_dither_54 (pc' := 55) rfl ?_
        refine gk_cV1_1 mv_Picture_unlikePixels gw_386 dX10_dither_55 (pc' := 58) rfl (Nat.le_of_ble_eq_true rfl) (by exact (y2.o)) (sp_Picture_unlikePixels y2 hp2 ?_)
        refine ⟨_, rfl, ?_⟩
        refine gk_istore4 dX10_dither_58 (pc' := 60) rfl (by decide) rfl ?_
        refine gk_aload0 dX10_dither_60 (pc' := 61) rfl ?_
        refine gk_iload1 dX10_dither_61 (pc' := 62) rfl ?_
        refine gk_cV0_1 mv_Room_keepPicture gw_262 dX10_dither_62 (pc' := 65) rfl (Nat.le_of_ble_eq_true rfl) (by assumption) (sp_keepP (c := ((pcS S (nI j1)).1, (pcS S (nI j1)).2.1, (pcS S (nI j1)).2.2.1, (dS (pcS S (nI j1)).2.1 (pcS S (nI j1)).2.2.1 top (pcS S (nI j1)).2.2.2 ((pcS S (nI j1)).2.2.1 * (pcS S (nI j1)).2.1)).2)) hs1 y2 (Or.inr ⟨okk.1, okk.2.1, okk.2.2.1, fun i _ => by show inK (pcS S (nI j1)).1 _; rw [c31']; exact inK_dS (w := (pcS S (nI j1)).2.1) (t := (pcS S (nI j1)).2.2.1) (top := top) (p := (pcS S (nI j1)).2.2.2) (by omega) ((pcS S (nI j1)).2.2.1 * (pcS S (nI j1)).2.1) i⟩) hj1 (fun h3 z3 z4 => ?_))
        refine ⟨rfl, ?_⟩
        refine gk_iload4 dX10_dither_65 (pc' := 67) rfl ?_
        refine gk_iret dX10_dither_67 rfl (by have q := hQ h3; rw [show oDither S (nI j1) (nI (top + 1)) = _ from (if_pos (by omega)).trans (if_pos c31'), yj1, yn, Nat.add_sub_cancel] at q; exact q z3 (hz.2.trans z4))
      · have c31' : ¬ (pcS S (nI j1)).1 = 0 := c31
        refine gk_ldc dX10_dither_34 (pc' := 36) rfl gw_297 ?_
        refine gk_iret dX10_dither_36 rfl (hB _ ((if_pos (by omega)).trans (if_neg c31')))
    · refine ⟨_, rfl, ?_⟩
      refine gk_if_ne dX10_dither_14 (tgt := 20) (pc' := 17) (by decide) rfl (fun c => absurd c (by decide)) (fun _ => ?_)
      refine gk_ldc dX10_dither_17 (pc' := 19) rfl gw_243 ?_
      refine gk_iret dX10_dither_19 rfl (hB _ (if_neg (by omega)))
  · refine ⟨_, rfl, ?_⟩
    refine gk_if_eq dX10_dither_4 (tgt := 17) (pc' := 7) (by decide) rfl (fun _ => ?_) (fun c => absurd c (by decide))
    refine gk_ldc dX10_dither_17 (pc' := 19) rfl gw_243 ?_
    refine gk_iret dX10_dither_19 rfl (hB _ (if_neg (by omega)))
theorem cl_even {p : Int32} (hR : Room X h r F0 S) (hQ : ∀ h', Room X h' r F0 (oEven S p).2 → frC r F0 h h' → Q (some (.int (oEven S p).1)) h') : Gm (kx X) mt_Room_even (d + 10) b [.ref r, .int p] h Q := by
  have hB : ∀ a, oEven S p = (a, S) → Q (some (.int a)) h := fun a e => by
    have q := hQ h
    rw [e] at q
    exact q hR frC.rf
  obtain ⟨hF, pc, mc, hm, ⟨c8, ht⟩, hrest⟩ := hR
  have hs : Rs X h r F0 S pc mc := ⟨hF, hm, hrest⟩
  have a1 := hm.obj
  obtain ⟨f1, a2, a3⟩ := hm.prow
  have x8 := (hm.I.1 8 (by decide)).fx
  obtain ⟨cr0, am0, tn0⟩ := hrest.2.1.2.2.2.1
  refine Gm.enter (L := [some (.ref r), some (.int p), none, none]) (by decide) (fun _ => trivial) (Nat.le_of_ble_eq_true rfl) rfl ?_
  refine gk_iload1 dX10_even_0 (pc' := 1) rfl ?_
  refine gk_cS1_1 mz_Room_isPicture gw_237 dX10_even_1 (pc' := 4) rfl (Nat.le_of_ble_eq_true rfl) (sp_Room_isPicture (fun j1 hj1 ej1 => ?_) (fun n1 => ?_))
  · refine ⟨_, rfl, ?_⟩
    subst ej1
    have zj1 : (nI j1).toInt = j1 := nI_toInt (by omega)
    have yj1 : (nI j1).toInt.toNat = j1 := by omega
    have hp1 := picS hm hj1
    have ok1 := okpS hm hj1
    have ap1 := hm.ap hj1
    refine gk_if_ne dX10_even_4 (tgt := 10) (pc' := 7) (by decide) rfl (fun _ => ?_) (fun c => absurd c (by decide))
    refine gk_aload0 dX10_even_10 (pc' := 11) rfl ?_
    refine gk_getf (fs := [_, _, _, _, _, _, _, _, _, _, _, _]) gF_Room_11 dX10_even_11 (pc' := 14) rfl (by assumption) rfl ?_
    refine gk_iload1 dX10_even_14 (pc' := 15) rfl ?_
    refine gk_aald (t0 := 2) rfl dX10_even_15 (pc' := 16) rfl (by exact (a2)) (vp_in_nI hj1 (by decide)) ?_
    rw [nI_clamp (by omega), a3 j1 hj1, show va_rf (some (pc j1)) = Value.ref (pc j1) from rfl]
    refine gk_astore2 dX10_even_16 (pc' := 17) rfl (by decide) rfl ?_
    refine gk_aload2 dX10_even_17 (pc' := 18) rfl ?_
    refine gk_getf (fs := [_, _, _, _]) gF_Room_133 dX10_even_18 (pc' := 21) rfl (by exact (hp1.o)) rfl ?_
    refine gk_if_eq dX10_even_21 (tgt := 27) (pc' := 24) (by decide) rfl (fun c21 => ?_) (fun c21 => ?_)
    · have c21' : (pcS S (nI j1)).1 = 0 := c21
      have okk := ok1.kind (by rw [c21']; decide)
      have okb := okk.2.2.2
      rw [c21'] at okb
      have xj := (hm.I.1 j1 (by omega)).fx
      refine gk_aload0 dX10_even_27 (pc' := 28) rfl ?_
      refine gk_getf (fs := [_, _, _, _, _, _, _, _, _, _, _, _]) gF_Room_65 dX10_even_28 (pc' := 31) rfl (by assumption) rfl ?_
      refine gk_aload2 dX10_even_31 (pc' := 32) rfl ?_
      refine gk_aload0 dX10_even_32 (pc' := 33) rfl ?_
      refine gk_getf (fs := [_, _, _, _, _, _, _, _, _, _, _, _]) gF_Room_32 dX10_even_33 (pc' := 36) rfl (by assumption) rfl ?_
      refine gk_cV0_2 mv_Tones_flatten gw_644 dX10_even_36 (pc' := 39) rfl (Nat.le_of_ble_eq_true rfl) (by exact (tn0.1)) (sp_Tones_flatten tn0 hp1 ht c21' (by omega) (by omega) (by omega) (fun i hi => okb i hi) (fun h1 am1 y1 y2 y3 => ?_))
      refine ⟨rfl, ?_⟩
      have hz := hs.scr y3 (fun c z => by unfold trA; omega) (hrest.2.1.tn (fun c z1 z2 n1 n2 n3 => y3.2 c (by omega)) ⟨cr0, am1, y1⟩)
      have hs1 := hz.1
      have a1 := hs1.2.1.obj
      have hp2 := picS hs1.2.1 hj1
      refine gk_aload0 dX10_even_39 (pc' := 40) rfl ?_
      refine gk_getf (fs := [_, _, _, _, _, _, _, _, _, _, _, _]) gF_Room_32 dX10_even_40 (pc' := 43) rfl (by assumption) rfl ?_
      refine gk_aload2 dX10_even_43 (pc' := 44) rfl ?_
      refine gk_cV1_1 mv_Picture_unlikePixels gw_386 dX10_even_44 (pc' := 47) rfl (Nat.le_of_ble_eq_true rfl) (by exact (y2.o)) (sp_Picture_unlikePixels y2 hp2 ?_)
      refine ⟨_, rfl, ?_⟩
      refine gk_istore3 dX10_even_47 (pc' := 48) rfl (by decide) rfl ?_
      refine gk_aload0 dX10_even_48 (pc' := 49) rfl ?_
      refine gk_iload1 dX10_even_49 (pc' := 50) rfl ?_
      refine gk_cV0_1 mv_Room_keepPicture gw_262 dX10_even_50 (pc' := 53) rfl (Nat.le_of_ble_eq_true rfl) (by assumption) (sp_keepP (c := ((pcS S (nI j1)).1, (pcS S (nI j1)).2.1, (pcS S (nI j1)).2.2.1, evn (pcS S (nI j1)).2.2.2 ((pcS S (nI j1)).2.1 * (pcS S (nI j1)).2.2.1))) hs1 y2 (Or.inr ⟨okk.1, okk.2.1, okk.2.2.1, fun i hi => by show inK (pcS S (nI j1)).1 _; rw [c21']; exact inK_evn okb i hi⟩) hj1 (fun h3 z3 z4 => ?_))
      refine ⟨rfl, ?_⟩
      refine gk_iload3 dX10_even_53 (pc' := 54) rfl ?_
      refine gk_iret dX10_even_54 rfl (by have q := hQ h3; rw [show oEven S (nI j1) = _ from (if_pos (by omega)).trans (if_pos c21'), yj1] at q; exact q z3 (hz.2.trans z4))
    · have c21' : ¬ (pcS S (nI j1)).1 = 0 := c21
      refine gk_ldc dX10_even_24 (pc' := 26) rfl gw_297 ?_
      refine gk_iret dX10_even_26 rfl (hB _ ((if_pos (by omega)).trans (if_neg c21')))
  · refine ⟨_, rfl, ?_⟩
    refine gk_if_ne dX10_even_4 (tgt := 10) (pc' := 7) (by decide) rfl (fun c => absurd c (by decide)) (fun _ => ?_)
    refine gk_ldc dX10_even_7 (pc' := 9) rfl gw_243 ?_
    refine gk_iret dX10_even_9 rfl (hB _ (if_neg (by omega)))
theorem cl_seam {p y : Int32} (hR : Room X h r F0 S) (hQ : ∀ h', Room X h' r F0 (oSeam S p y).2 → frC r F0 h h' → Q (some (.int (oSeam S p y).1)) h') : Gm (kx X) mt_Room_seam (d + 10) b [.ref r, .int p, .int y] h Q := by
  have hB : ∀ a, oSeam S p y = (a, S) → Q (some (.int a)) h := fun a e => by
    have q := hQ h
    rw [e] at q
    exact q hR frC.rf
  obtain ⟨hF, pc, mc, hm, ⟨c8, ht⟩, hrest⟩ := hR
  have hs : Rs X h r F0 S pc mc := ⟨hF, hm, hrest⟩
  have a1 := hm.obj
  obtain ⟨f1, a2, a3⟩ := hm.prow
  have zm : (-1 : Int32).toInt = -1 := rfl
  have x8 := (hm.I.1 8 (by decide)).fx
  obtain ⟨cs0, cl0, tot0, sm0⟩ := hrest.2.1.2.2.2.2
  refine Gm.enter (L := [some (.ref r), some (.int p), some (.int y), none]) (by decide) (fun _ => trivial) (Nat.le_of_ble_eq_true rfl) rfl ?_
  refine gk_iload1 dX10_seam_0 (pc' := 1) rfl ?_
  refine gk_cS1_1 mz_Room_isPicture gw_237 dX10_seam_1 (pc' := 4) rfl (Nat.le_of_ble_eq_true rfl) (sp_Room_isPicture (fun j1 hj1 ej1 => ?_) (fun n1 => ?_))
  · refine ⟨_, rfl, ?_⟩
    subst ej1
    have zj1 : (nI j1).toInt = j1 := nI_toInt (by omega)
    have yj1 : (nI j1).toInt.toNat = j1 := by omega
    have hp1 := picS hm hj1
    have ok1 := okpS hm hj1
    have ap1 := hm.ap hj1
    refine gk_if_eq dX10_seam_4 (tgt := 12) (pc' := 7) (by decide) rfl (fun c => absurd c (by decide)) (fun _ => ?_)
    refine gk_iload2 dX10_seam_7 (pc' := 8) rfl ?_
    refine gk_iconst (v := -1) dX10_seam_8 (pc' := 9) rfl (by decide) ?_
    refine gk_icmp_ge dX10_seam_9 (tgt := 15) (pc' := 12) (by decide) rfl (fun c9 => ?_) (fun c9 => ?_)
    · rw [pu_le, zm] at c9
      refine gk_aload0 dX10_seam_15 (pc' := 16) rfl ?_
      refine gk_getf (fs := [_, _, _, _, _, _, _, _, _, _, _, _]) gF_Room_11 dX10_seam_16 (pc' := 19) rfl (by assumption) rfl ?_
      refine gk_iload1 dX10_seam_19 (pc' := 20) rfl ?_
      refine gk_aald (t0 := 2) rfl dX10_seam_20 (pc' := 21) rfl (by exact (a2)) (vp_in_nI hj1 (by decide)) ?_
      rw [nI_clamp (by omega), a3 j1 hj1, show va_rf (some (pc j1)) = Value.ref (pc j1) from rfl]
      refine gk_astore3 dX10_seam_21 (pc' := 22) rfl (by decide) rfl ?_
      refine gk_aload3 dX10_seam_22 (pc' := 23) rfl ?_
      refine gk_cV1_0 mv_Picture_isMissing gw_330 dX10_seam_23 (pc' := 26) rfl (Nat.le_of_ble_eq_true rfl) (by exact (hp1.o)) (sp_Picture_isMissing hp1 (fun k23 => ?_) (fun k23 => ?_))
      · refine ⟨_, rfl, ?_⟩
        refine gk_if_ne dX10_seam_26 (tgt := 37) (pc' := 29) (by decide) rfl (fun _ => ?_) (fun c => absurd c (by decide))
        refine gk_ldc dX10_seam_37 (pc' := 39) rfl gw_297 ?_
        refine gk_iret dX10_seam_39 rfl (hB _ ((if_pos (by omega)).trans (if_neg (fun z => by first | exact z.1 k23 | exact c34 z.2))))
      · refine ⟨_, rfl, ?_⟩
        have okk := ok1.kind k23
        have xj := (hm.I.1 j1 (by omega)).fx
        refine gk_if_ne dX10_seam_26 (tgt := 37) (pc' := 29) (by decide) rfl (fun c => absurd c (by decide)) (fun _ => ?_)
        refine gk_iload2 dX10_seam_29 (pc' := 30) rfl ?_
        refine gk_aload3 dX10_seam_30 (pc' := 31) rfl ?_
        refine gk_getf (fs := [_, _, _, _]) gF_Room_155 dX10_seam_31 (pc' := 34) rfl (by exact (hp1.o)) rfl ?_
        refine gk_icmp_lt dX10_seam_34 (tgt := 40) (pc' := 37) (by decide) rfl (fun c34 => ?_) (fun c34 => ?_)
        · rw [pu_lt, nI_toInt (by omega)] at c34
          refine gk_aload0 dX10_seam_40 (pc' := 41) rfl ?_
          refine gk_getf (fs := [_, _, _, _, _, _, _, _, _, _, _, _]) gF_Room_72 dX10_seam_41 (pc' := 44) rfl (by assumption) rfl ?_
          refine gk_aload3 dX10_seam_44 (pc' := 45) rfl ?_
          refine gk_cV0_1 mv_Seam_trace gw_673 dX10_seam_45 (pc' := 48) rfl (Nat.le_of_ble_eq_true rfl) (by exact (sm0.1)) (sp_Seam_trace sm0 hp1 (by omega) (by omega) okk.2.1.1 okk.2.2.1.1 (fun h1 cs1 cl1 y1 y2 y3 => ?_))
          refine ⟨rfl, ?_⟩
          have hz := hs.scr y3 (fun c z => Or.inr (by omega)) (hrest.2.1.sm y3 ⟨cs1, cl1, _, y1⟩)
          have a1 := hz.1.2.1.obj
          have ht1 := ht.fr y3 (by omega) (by omega)
          refine gk_iload2 dX10_seam_48 (pc' := 49) rfl ?_
          refine gk_iconst (v := -1) dX10_seam_49 (pc' := 50) rfl (by decide) ?_
          refine gk_icmp_ne dX10_seam_50 (tgt := 63) (pc' := 53) (by decide) rfl (fun c50 => ?_) (fun c50 => ?_)
          · have c50' : ¬ y = -1 := c50
            have yn : 0 ≤ y.toInt := by rcases (show y.toInt = -1 ∨ 0 ≤ y.toInt by omega) with z | z; exact absurd (pu_inj (z.trans rfl)) c50'; exact z
            obtain ⟨jy, hjy, rfl⟩ := pu_of (x := y) (n := 16) yn (by omega) (by omega)
            have zy : (nI jy).toInt = jy := nI_toInt (by omega)
            have ec := y2 jy (by omega)
            refine gk_aload0 dX10_seam_63 (pc' := 64) rfl ?_
            refine gk_getf (fs := [_, _, _, _, _, _, _, _, _, _, _, _]) gF_Room_72 dX10_seam_64 (pc' := 67) rfl (by assumption) rfl ?_
            refine gk_iload2 dX10_seam_67 (pc' := 68) rfl ?_
            refine gk_cV1_1 mv_Seam_column gw_692 dX10_seam_68 (pc' := 71) rfl (Nat.le_of_ble_eq_true rfl) (by exact (y1.1)) (sp_Seam_column y1 (by omega) ?_)
            refine ⟨_, rfl, ?_⟩
            refine gk_iret dX10_seam_71 rfl (by first | (have q := hQ h1; rw [show oSeam S (nI j1) y = _ from (if_pos (by omega)).trans ((if_pos ⟨k23, c34⟩).trans (by rw [if_pos c50']))] at q; exact q (hz.1.room ht1) hz.2) | (have q := hQ h1; rw [show oSeam S (nI j1) (nI jy) = _ from (if_pos (by omega)).trans ((if_pos ⟨k23, c34⟩).trans (by rw [if_neg c50', nI_nat (j := jy) (by omega)]))] at q; rw [ec]; exact q (hz.1.room ht1) hz.2))
          · have c50' : y = -1 := c50
            refine gk_aload0 dX10_seam_53 (pc' := 54) rfl ?_
            refine gk_getf (fs := [_, _, _, _, _, _, _, _, _, _, _, _]) gF_Room_72 dX10_seam_54 (pc' := 57) rfl (by assumption) rfl ?_
            refine gk_getf (fs := [_, _, _]) gF_Room_259 dX10_seam_57 (pc' := 60) rfl (by exact (y1.1)) rfl ?_
            refine gk_goto dX10_seam_60 (tgt := 71) (by decide) ?_
            refine gk_iret dX10_seam_71 rfl (by first | (have q := hQ h1; rw [show oSeam S (nI j1) y = _ from (if_pos (by omega)).trans ((if_pos ⟨k23, c34⟩).trans (by rw [if_pos c50']))] at q; exact q (hz.1.room ht1) hz.2) | (have q := hQ h1; rw [show oSeam S (nI j1) (nI jy) = _ from (if_pos (by omega)).trans ((if_pos ⟨k23, c34⟩).trans (by rw [if_neg c50', nI_nat (j := jy) (by omega)]))] at q; rw [ec]; exact q (hz.1.room ht1) hz.2))
        · rw [pu_lt, nI_toInt (by omega)] at c34
          refine gk_ldc dX10_seam_37 (pc' := 39) rfl gw_297 ?_
          refine gk_iret dX10_seam_39 rfl (hB _ ((if_pos (by omega)).trans (if_neg (fun z => by first | exact z.1 k23 | exact c34 z.2))))
    · rw [pu_le, zm] at c9
      refine gk_ldc dX10_seam_12 (pc' := 14) rfl gw_243 ?_
      refine gk_iret dX10_seam_14 rfl (hB _ (if_neg (by omega)))
  · refine ⟨_, rfl, ?_⟩
    refine gk_if_eq dX10_seam_4 (tgt := 12) (pc' := 7) (by decide) rfl (fun _ => ?_) (fun c => absurd c (by decide))
    refine gk_ldc dX10_seam_12 (pc' := 14) rfl gw_243 ?_
    refine gk_iret dX10_seam_14 rfl (hB _ (if_neg (by omega)))
end OpG
