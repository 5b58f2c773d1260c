/-! ===== Picture: copies, runs, energy, making ===== -/
theorem nfw : nativeFrameWords "java/lang/System" "arraycopy" 5 + 11 ≤ 64 := by decide +kernel
/-- how long the run is that begins at s, when m of it are known -/
def rlF (p : Nat → Int32) (s : Nat) : Nat → Nat → Nat
  | 0, m => m
  | f + 1, m => if m = 255 ∨ ¬ p (s + m) = p s then m else rlF p s f (m + 1)
theorem rlF_ge (p : Nat → Int32) (s : Nat) : ∀ f m, m ≤ rlF p s f m ∧ rlF p s f m ≤ m + f
  | 0, m => ⟨Nat.le_refl m, Nat.le_refl m⟩
  | f + 1, m => by
    unfold rlF
    split
    · omega
    · have := rlF_ge p s f (m + 1)
      omega
theorem rlF_255 (p : Nat → Int32) (s : Nat) : ∀ f m, m ≤ 255 → rlF p s f m ≤ 255
  | 0, m, h => h
  | f + 1, m, h => by
    unfold rlF
    split
    · exact h
    · rename_i c
      exact rlF_255 p s f (m + 1) (by have : ¬ m = 255 := fun q => c (Or.inl q); omega)
def rl (p : Nat → Int32) (n s : Nat) : Nat := rlF p s (n - (s + 1)) 1
theorem rl_pos (p : Nat → Int32) (n s : Nat) : 1 ≤ rl p n s := (rlF_ge p s _ 1).1
theorem rl_le {p : Nat → Int32} {n s : Nat} (h : s < n) : s + rl p n s ≤ n := by
  have := (rlF_ge p s (n - (s + 1)) 1).2
  unfold rl
  omega
theorem rl_255 (p : Nat → Int32) (n s : Nat) : rl p n s ≤ 255 := rlF_255 p s _ 1 (by decide)
/-- byte nth of a pixel v (nth 1: the first) of a kind k -/
def pB (k v nth : Int32) : Int32 := if k = 1 ∧ nth = 1 then (v >>> (8 &&& 31)) &&& 255 else v &&& 255
def segB (k : Int32) (v : Int32) (m : Nat) : List Int32 := if k = 1 then [nI m, pB k v 1, pB k v 2] else [nI m, pB k v 1]
def rb (k : Int32) (p : Nat → Int32) (n s : Nat) : List Int32 := if h : s < n then segB k (p s) (rl p n s) ++ rb k p n (s + rl p n s) else []
termination_by n - s
decreasing_by
  have := rl_pos p n s
  omega
theorem rb_step {k : Int32} {p : Nat → Int32} {n s : Nat} (h : s < n) : rb k p n s = segB k (p s) (rl p n s) ++ rb k p n (s + rl p n s) := by
  rw [rb, dif_pos h]
theorem rb_end {k : Int32} {p : Nat → Int32} {n s : Nat} (h : n ≤ s) : rb k p n s = [] := by
  rw [rb, dif_neg (by omega)]
theorem segB_len (k v : Int32) (m : Nat) : (segB k v m).length = if k = 1 then 3 else 2 := by
  unfold segB
  split <;> rfl
theorem rb_len (k : Int32) (p : Nat → Int32) (n : Nat) : ∀ f s, n - s ≤ f → (rb k p n s).length ≤ 3 * (n - s) := by
  intro f
  induction f with
  | zero => intro s h; rw [rb_end (by omega)]; exact Nat.zero_le _
  | succ f ih =>
    intro s h
    by_cases hs : s < n
    · have h1 := rl_pos p n s
      have h2 := rl_le (p := p) hs
      have h3 := ih (s + rl p n s) (by omega)
      rw [rb_step hs, List.length_append, segB_len]
      split <;> omega
    · rw [rb_end (by omega)]; exact Nat.zero_le _
section PicC
variable {X : gX} {d : Nat} {b : Nat × Nat} {h : gk_H} {Q : Option Value → gk_H → Prop} {a : Nat} {k : Int32} {w t : Nat} {p : Nat → Int32}
theorem sp_Picture_bytesEach (hp : isPic X h a k w t p) (hQ : Q (some (.int (if k = 1 then 2 else 1))) h) : Gm (kx X) mt_Picture_bytesEach d b [.ref a] h Q := by
  have e1 := hp.o
  refine Gm.enter (L := [some (.ref a)]) (by decide) (fun _ => trivial) (Nat.le_of_ble_eq_true rfl) rfl ?_
  refine gk_aload0 dX6_bytesEach_0 (pc' := 1) rfl ?_
  refine gk_getf (fs := [_, _, _, _]) gF_Picture_9 dX6_bytesEach_1 (pc' := 4) rfl (by assumption) rfl ?_
  refine gk_iconst (v := 1) dX6_bytesEach_4 (pc' := 5) rfl (by decide) ?_
  refine gk_icmp_ne dX6_bytesEach_5 (tgt := 12) (pc' := 8) (by decide) rfl (fun c5 => ?_) (fun c5 => ?_)
  · rw [if_neg c5] at hQ
    refine gk_iconst (v := 1) dX6_bytesEach_12 (pc' := 13) rfl (by decide) ?_
    refine gk_iret dX6_bytesEach_13 rfl hQ
  · rw [if_pos c5] at hQ
    refine gk_iconst (v := 2) dX6_bytesEach_8 (pc' := 9) rfl (by decide) ?_
    refine gk_goto dX6_bytesEach_9 (tgt := 13) (by decide) ?_
    refine gk_iret dX6_bytesEach_13 rfl hQ
theorem sp_Picture_pixelByte {v n : Int32} (hp : isPic X h a k w t p) (hQ : Q (some (.int (pB k v n))) h) : Gm (kx X) mt_Picture_pixelByte d b [.ref a, .int v, .int n] h Q := by
  have e1 := hp.o
  refine Gm.enter (L := [some (.ref a), some (.int v), some (.int n)]) (by decide) (fun _ => trivial) (Nat.le_of_ble_eq_true rfl) rfl ?_
  refine gk_aload0 dX6_pixelByte_0 (pc' := 1) rfl ?_
  refine gk_getf (fs := [_, _, _, _]) gF_Picture_9 dX6_pixelByte_1 (pc' := 4) rfl (by assumption) rfl ?_
  refine gk_iconst (v := 1) dX6_pixelByte_4 (pc' := 5) rfl (by decide) ?_
  refine gk_icmp_ne dX6_pixelByte_5 (tgt := 20) (pc' := 8) (by decide) rfl (fun c5 => ?_) (fun c5 => ?_)
  · rw [pB, if_neg (fun q => c5 q.1)] at hQ
    refine gk_iload1 dX6_pixelByte_20 (pc' := 21) rfl ?_
    refine gk_sipush (v := 255) dX6_pixelByte_21 (pc' := 24) rfl (by decide) ?_
    refine gk_iand dX6_pixelByte_24 (pc' := 25) rfl ?_
    refine gk_iret dX6_pixelByte_25 rfl hQ
  · refine gk_iload2 dX6_pixelByte_8 (pc' := 9) rfl ?_
    refine gk_iconst (v := 1) dX6_pixelByte_9 (pc' := 10) rfl (by decide) ?_
    refine gk_icmp_ne dX6_pixelByte_10 (tgt := 20) (pc' := 13) (by decide) rfl (fun c10 => ?_) (fun c10 => ?_)
    · rw [pB, if_neg (fun q => c10 q.2)] at hQ
      refine gk_iload1 dX6_pixelByte_20 (pc' := 21) rfl ?_
      refine gk_sipush (v := 255) dX6_pixelByte_21 (pc' := 24) rfl (by decide) ?_
      refine gk_iand dX6_pixelByte_24 (pc' := 25) rfl ?_
      refine gk_iret dX6_pixelByte_25 rfl hQ
    · rw [pB, if_pos ⟨c5, c10⟩] at hQ
      refine gk_iload1 dX6_pixelByte_13 (pc' := 14) rfl ?_
      refine gk_bipush (v := 8) dX6_pixelByte_14 (pc' := 16) rfl (by decide) ?_
      refine gk_ishr dX6_pixelByte_16 (pc' := 17) rfl ?_
      refine gk_goto dX6_pixelByte_17 (tgt := 21) (by decide) ?_
      refine gk_sipush (v := 255) dX6_pixelByte_21 (pc' := 24) rfl (by decide) ?_
      refine gk_iand dX6_pixelByte_24 (pc' := 25) rfl ?_
      refine gk_iret dX6_pixelByte_25 rfl hQ
theorem sp_Picture_isRun {s m : Nat} (hp : isPic X h a k w t p) (hm : s + m ≤ w * t) (hm1 : 1 ≤ m) (ht : (s + m = w * t ∨ m = 255 ∨ ¬ p (s + m) = p s) → Q (some (.int 1)) h) (hf : ¬ (s + m = w * t ∨ m = 255 ∨ ¬ p (s + m) = p s) → Q (some (.int 0)) h) : Gm (kx X) mt_Picture_isRun (d + 1) b [.ref a, .int (nI s), .int (nI (s + m))] h Q := by
  have e1 := hp.o
  have ha := hp.area
  have z : nI (s + m) - nI s = nI m := by rw [pk_sub (by omega), Nat.add_sub_cancel_left]
  refine Gm.enter (L := [some (.ref a), some (.int (nI s)), some (.int (nI (s + m)))]) (by decide) (fun _ => trivial) (Nat.le_of_ble_eq_true rfl) rfl ?_
  refine gk_iload2 dX6_isRun_0 (pc' := 1) rfl ?_
  refine gk_aload0 dX6_isRun_1 (pc' := 2) rfl ?_
  refine gk_cV1_0 mv_Picture_area gw_363 dX6_isRun_2 (pc' := 5) rfl (Nat.le_of_ble_eq_true rfl) (by assumption) (sp_Picture_area hp ?_)
  refine ⟨_, rfl, ?_⟩
  refine gk_icmp_eq dX6_isRun_5 (tgt := 30) (pc' := 8) (by decide) rfl (fun c5 => ?_) (fun c5 => ?_)
  · have q := (nI_eq (by omega) (by omega)).mp c5
    refine gk_iconst (v := 1) dX6_isRun_30 (pc' := 31) rfl (by decide) ?_
    refine gk_goto dX6_isRun_31 (tgt := 35) (by decide) ?_
    refine gk_zret dX6_isRun_35 rfl rfl (by first | exact ht (Or.inl q) | exact ht (Or.inr (Or.inl q2)) | exact ht (Or.inr (Or.inr c27)) | exact hf (fun z => z.elim q (fun z => z.elim q2 (fun z => z c27))))
  · have q : ¬ s + m = w * t := fun e => c5 (by rw [e])
    refine gk_iload2 dX6_isRun_8 (pc' := 9) rfl ?_
    refine gk_iload1 dX6_isRun_9 (pc' := 10) rfl ?_
    refine gk_isub dX6_isRun_10 (pc' := 11) rfl ?_
    rw [z]
    refine gk_sipush (v := 255) dX6_isRun_11 (pc' := 14) rfl (by decide) ?_
    refine gk_icmp_eq dX6_isRun_14 (tgt := 30) (pc' := 17) (by decide) rfl (fun c14 => ?_) (fun c14 => ?_)
    · have q2 := (nI_eq (a := m) (b := 255) (by omega) (by omega)).mp c14
      refine gk_iconst (v := 1) dX6_isRun_30 (pc' := 31) rfl (by decide) ?_
      refine gk_goto dX6_isRun_31 (tgt := 35) (by decide) ?_
      refine gk_zret dX6_isRun_35 rfl rfl (by first | exact ht (Or.inl q) | exact ht (Or.inr (Or.inl q2)) | exact ht (Or.inr (Or.inr c27)) | exact hf (fun z => z.elim q (fun z => z.elim q2 (fun z => z c27))))
    · have q2 : ¬ m = 255 := fun e => c14 (by rw [e]; rfl)
      refine gk_aload0 dX6_isRun_17 (pc' := 18) rfl ?_
      refine gk_iload2 dX6_isRun_18 (pc' := 19) rfl ?_
      refine gk_cV1_1 mv_Picture_pixel gw_343 dX6_isRun_19 (pc' := 22) rfl (Nat.le_of_ble_eq_true rfl) (by assumption) (sp_Picture_pixel hp (by omega) ?_)
      refine ⟨_, rfl, ?_⟩
      refine gk_aload0 dX6_isRun_22 (pc' := 23) rfl ?_
      refine gk_iload1 dX6_isRun_23 (pc' := 24) rfl ?_
      refine gk_cV1_1 mv_Picture_pixel gw_343 dX6_isRun_24 (pc' := 27) rfl (Nat.le_of_ble_eq_true rfl) (by assumption) (sp_Picture_pixel hp (by omega) ?_)
      refine ⟨_, rfl, ?_⟩
      refine gk_icmp_eq dX6_isRun_27 (tgt := 34) (pc' := 30) (by decide) rfl (fun c27 => ?_) (fun c27 => ?_)
      · refine gk_iconst (v := 0) dX6_isRun_34 (pc' := 35) rfl (by decide) ?_
        refine gk_zret dX6_isRun_35 rfl rfl (by first | exact ht (Or.inl q) | exact ht (Or.inr (Or.inl q2)) | exact ht (Or.inr (Or.inr c27)) | exact hf (fun z => z.elim q (fun z => z.elim q2 (fun z => z c27))))
      · refine gk_iconst (v := 1) dX6_isRun_30 (pc' := 31) rfl (by decide) ?_
        refine gk_goto dX6_isRun_31 (tgt := 35) (by decide) ?_
        refine gk_zret dX6_isRun_35 rfl rfl (by first | exact ht (Or.inl q) | exact ht (Or.inr (Or.inl q2)) | exact ht (Or.inr (Or.inr c27)) | exact hf (fun z => z.elim q (fun z => z.elim q2 (fun z => z c27))))
theorem rolBy {i r v : Int32} {pl m : Nat} {R : List Int32} (zp : (nI pl).toInt = pl) (hb1 : (if k = 1 then 2 else 1 : Nat) ≤ 2) (h7 : r = ((segB k v m ++ R)[(i.toInt - pl).toNat]?).getD (-100004)) (hQ : Q (some (.int r)) h) (h1 : (pl : Int) < i.toInt) (h2 : i.toInt ≤ pl + (if k = 1 then 2 else 1 : Nat)) : Q (some (.int (pB k v (i - nI pl)))) h := by
  have zi := pu_rng i
  by_cases hk : k = 1
  · simp only [hk, if_true] at h2
    rcases (show i.toInt - pl = 1 ∨ i.toInt - pl = 2 by omega) with q | q
    · have e : i - nI pl = 1 := pu_inj (by rw [Jvm.Kit.i32_sub (by omega) (by omega), zp, q]; rfl)
      rw [e]
      have : r = pB k v 1 := by rw [h7, q]; unfold segB; rw [if_pos hk]; rfl
      rw [← this]; exact hQ
    · have e : i - nI pl = 2 := pu_inj (by rw [Jvm.Kit.i32_sub (by omega) (by omega), zp, q]; rfl)
      rw [e]
      have : r = pB k v 2 := by rw [h7, q]; unfold segB; rw [if_pos hk]; rfl
      rw [← this]; exact hQ
  · simp only [hk, if_false] at h2
    have q : i.toInt - pl = 1 := by omega
    have e : i - nI pl = 1 := pu_inj (by rw [Jvm.Kit.i32_sub (by omega) (by omega), zp, q]; rfl)
    rw [e]
    have : r = pB k v 1 := by rw [h7, q]; unfold segB; rw [if_neg hk]; rfl
    rw [← this]; exact hQ
/-- what rolled(i) answers -/
def rolS (k : Int32) (w t : Nat) (p : Nat → Int32) (i : Int) : Int32 := if i = 0 then k else if i = 1 then nI w else if i = 2 then nI t else if i = -1 then nI (3 + (rb k p (w * t) 0).length) else ((rb k p (w * t) 0)[(i - 3).toNat]?).getD (-100004)
theorem lp_Picture_rolled {i : Int32} (hp : isPic X h a k w t p) (hi : i.toInt = -1 ∨ 3 ≤ i.toInt) {r : Int32} (hQ : Q (some (.int r)) h) : ∀ f s m pl, s + m + f = w * t + 1 → 1 ≤ m → pl ≤ 3 + 3 * s → 3 ≤ pl → (s < w * t → rl p (w * t) s = rlF p s (w * t - (s + m)) m) → (i.toInt = -1 ∨ (pl : Int) ≤ i.toInt) →
    r = (if i.toInt = -1 then nI (pl + (rb k p (w * t) s).length) else ((rb k p (w * t) s)[(i.toInt - pl).toNat]?).getD (-100004)) → ((s < w * t ∧ s + m ≤ w * t) ∨ (s = w * t ∧ m = 1)) → G (kx X) mt_Picture_rolled (d + 2) b 44 [some (.ref a), some (.int i), some (.int (nI pl)), some (.int (nI s)), some (.int (nI (s + m)))] [] h Q := by
  have ha := hp.area
  have e1 := hp.o
  have zi := pu_rng i
  have zm : (-1 : Int32).toInt = -1 := rfl
  intro f
  induction f with
  | zero =>
    intro s m pl h1 h2 h3 h4 h5 h6 h7 h8
    have hs : s = w * t := by omega
    refine gk_iload4 dX6_rolled_44 (pc' := 46) rfl ?_
    refine gk_aload0 dX6_rolled_46 (pc' := 47) rfl ?_
    refine gk_cV1_0 mv_Picture_area gw_363 dX6_rolled_47 (pc' := 50) rfl (Nat.le_of_ble_eq_true rfl) (by assumption) (sp_Picture_area hp ?_)
    refine ⟨_, rfl, ?_⟩
    refine gk_icmp_gt dX6_rolled_50 (tgt := 121) (pc' := 53) (by decide) rfl (fun c50 => ?_) (fun c50 => absurd (nI_lt (a := w * t) (b := s + m) (by omega) (by omega)) c50)
    refine gk_iload1 dX6_rolled_121 (pc' := 122) rfl ?_
    refine gk_iconst (v := -1) dX6_rolled_122 (pc' := 123) rfl (by decide) ?_
    refine gk_icmp_ne dX6_rolled_123 (tgt := 130) (pc' := 126) (by decide) rfl (fun c123 => ?_) (fun c123 => ?_)
    · rw [if_neg (fun q => c123 (pu_inj (by rw [q]; rfl))), rb_end (by omega)] at h7
      refine gk_ldc dX6_rolled_130 (pc' := 132) rfl gw_720 ?_
      refine gk_iret dX6_rolled_132 rfl (by subst h7; exact hQ)
    · rw [if_pos (by rw [c123]; rfl), rb_end (by omega)] at h7
      refine gk_iload2 dX6_rolled_126 (pc' := 127) rfl ?_
      refine gk_goto dX6_rolled_127 (tgt := 132) (by decide) ?_
      refine gk_iret dX6_rolled_132 rfl (by subst h7; exact hQ)
  | succ f ih =>
    intro s m pl h1 h2 h3 h4 h5 h6 h7 h8
    have hs : s < w * t := by omega
    have zp : (nI pl).toInt = pl := nI_toInt (by omega)
    have hb : (if k = 1 then (2 : Int32) else 1) = nI (if k = 1 then 2 else 1) := by split <;> rfl
    have hb1 : (if k = 1 then 2 else 1 : Nat) ≤ 2 := by split <;> omega
    have zb : (nI (pl + (if k = 1 then 2 else 1))).toInt = pl + (if k = 1 then 2 else 1 : Nat) := nI_toInt (by omega)
    have h5' := h5 hs
    refine gk_iload4 dX6_rolled_44 (pc' := 46) rfl ?_
    refine gk_aload0 dX6_rolled_46 (pc' := 47) rfl ?_
    refine gk_cV1_0 mv_Picture_area gw_363 dX6_rolled_47 (pc' := 50) rfl (Nat.le_of_ble_eq_true rfl) (by assumption) (sp_Picture_area hp ?_)
    refine ⟨_, rfl, ?_⟩
    refine gk_icmp_gt dX6_rolled_50 (tgt := 121) (pc' := 53) (by decide) rfl (fun c50 => absurd c50 (fun q => by rw [pu_lt, nI_toInt (by omega), nI_toInt (by omega)] at q; omega)) (fun c50 => ?_)
    refine gk_aload0 dX6_rolled_53 (pc' := 54) rfl ?_
    refine gk_iload3 dX6_rolled_54 (pc' := 55) rfl ?_
    refine gk_iload4 dX6_rolled_55 (pc' := 57) rfl ?_
    refine gk_cV1_2 mv_Picture_isRun gw_708 dX6_rolled_57 (pc' := 60) rfl (Nat.le_of_ble_eq_true rfl) (by assumption) (sp_Picture_isRun hp (by omega) h2 (fun c57 => ?_) (fun c57 => ?_))
    · refine ⟨_, rfl, ?_⟩
      have hrl : rl p (w * t) s = m := by
        rw [h5']
        by_cases q : s + m = w * t
        · rw [q, Nat.sub_self]; rfl
        · obtain ⟨g, hg⟩ : ∃ g, w * t - (s + m) = g + 1 := ⟨w * t - (s + m) - 1, by omega⟩
          rw [hg, rlF, if_pos (c57.resolve_left q)]
      rw [rb_step hs, hrl] at h7
      have hnext : ∀ pl', pl' = pl + (1 + (if k = 1 then 2 else 1)) → (i.toInt = -1 ∨ (pl' : Int) ≤ i.toInt) → G (kx X) mt_Picture_rolled (d + 2) b 44 [some (.ref a), some (.int i), some (.int (nI pl')), some (.int (nI (s + m))), some (.int (nI (s + m + 1)))] [] h Q := by
        intro pl' hpl hc
        refine ih (s + m) 1 pl' (by omega) (by omega) (by omega) (by omega) (fun _ => rfl) hc ?_ (by omega)
        rw [h7]
        by_cases q : i.toInt = -1
        · rw [if_pos q, if_pos q, List.length_append, segB_len, hpl]
          congr 1
          split <;> omega
        · rw [if_neg q, if_neg q, List.getElem?_append_right (by rw [segB_len]; split <;> rename_i z <;> simp [z] at hpl <;> omega), segB_len]
          congr 2
          split <;> rename_i z <;> simp [z] at hpl <;> omega
      refine gk_if_eq dX6_rolled_60 (tgt := 115) (pc' := 63) (by decide) rfl (fun c => absurd c (by decide)) (fun _ => ?_)
      refine gk_iload1 dX6_rolled_63 (pc' := 64) rfl ?_
      refine gk_iload2 dX6_rolled_64 (pc' := 65) rfl ?_
      refine gk_icmp_lt dX6_rolled_65 (tgt := 103) (pc' := 68) (by decide) rfl (fun c65 => ?_) (fun c65 => ?_)
      · rw [pu_lt, zp] at c65
        refine gk_iload2 dX6_rolled_103 (pc' := 104) rfl ?_
        refine gk_iconst (v := 1) dX6_rolled_104 (pc' := 105) rfl (by decide) ?_
        refine gk_aload0 dX6_rolled_105 (pc' := 106) rfl ?_
        refine gk_cV1_0 mv_Picture_bytesEach gw_712 dX6_rolled_106 (pc' := 109) rfl (Nat.le_of_ble_eq_true rfl) (by assumption) (sp_Picture_bytesEach hp ?_)
        refine ⟨_, rfl, ?_⟩
        rw [hb]
        refine gk_iadd dX6_rolled_109 (pc' := 110) rfl ?_
        rw [show (1 : Int32) + nI (if k = 1 then 2 else 1) = nI (1 + (if k = 1 then 2 else 1)) from nI_add 1 _]
        refine gk_iadd dX6_rolled_110 (pc' := 111) rfl ?_
        rw [nI_add]
        refine gk_istore2 dX6_rolled_111 (pc' := 112) rfl (by decide) rfl ?_
        refine gk_iload4 dX6_rolled_112 (pc' := 114) rfl ?_
        refine gk_istore3 dX6_rolled_114 (pc' := 115) rfl (by decide) rfl ?_
        refine gk_iinc4 (v := 1) dX6_rolled_115 (pc' := 118) rfl (by decide) (by decide) rfl ?_
        refine gk_goto dX6_rolled_118 (tgt := 44) (by decide) ?_
        rw [← nI_succ]
        first | exact hnext _ rfl (by first | omega | (exact Or.inl (h6.resolve_right (by omega)))) | exact ih s (m + 1) pl (by omega) (by omega) h3 h4 (fun _ => h5') h6 h7 (by omega)
      · rw [pu_lt, zp] at c65
        have q : ¬ i.toInt = -1 := by omega
        rw [if_neg q] at h7
        refine gk_iload1 dX6_rolled_68 (pc' := 69) rfl ?_
        refine gk_iload2 dX6_rolled_69 (pc' := 70) rfl ?_
        refine gk_aload0 dX6_rolled_70 (pc' := 71) rfl ?_
        refine gk_cV1_0 mv_Picture_bytesEach gw_712 dX6_rolled_71 (pc' := 74) rfl (Nat.le_of_ble_eq_true rfl) (by assumption) (sp_Picture_bytesEach hp ?_)
        refine ⟨_, rfl, ?_⟩
        rw [hb]
        refine gk_iadd dX6_rolled_74 (pc' := 75) rfl ?_
        rw [nI_add]
        refine gk_icmp_gt dX6_rolled_75 (tgt := 103) (pc' := 78) (by decide) rfl (fun c75 => ?_) (fun c75 => ?_)
        · rw [pu_lt, zb] at c75
          refine gk_iload2 dX6_rolled_103 (pc' := 104) rfl ?_
          refine gk_iconst (v := 1) dX6_rolled_104 (pc' := 105) rfl (by decide) ?_
          refine gk_aload0 dX6_rolled_105 (pc' := 106) rfl ?_
          refine gk_cV1_0 mv_Picture_bytesEach gw_712 dX6_rolled_106 (pc' := 109) rfl (Nat.le_of_ble_eq_true rfl) (by assumption) (sp_Picture_bytesEach hp ?_)
          refine ⟨_, rfl, ?_⟩
          rw [hb]
          refine gk_iadd dX6_rolled_109 (pc' := 110) rfl ?_
          rw [show (1 : Int32) + nI (if k = 1 then 2 else 1) = nI (1 + (if k = 1 then 2 else 1)) from nI_add 1 _]
          refine gk_iadd dX6_rolled_110 (pc' := 111) rfl ?_
          rw [nI_add]
          refine gk_istore2 dX6_rolled_111 (pc' := 112) rfl (by decide) rfl ?_
          refine gk_iload4 dX6_rolled_112 (pc' := 114) rfl ?_
          refine gk_istore3 dX6_rolled_114 (pc' := 115) rfl (by decide) rfl ?_
          refine gk_iinc4 (v := 1) dX6_rolled_115 (pc' := 118) rfl (by decide) (by decide) rfl ?_
          refine gk_goto dX6_rolled_118 (tgt := 44) (by decide) ?_
          rw [← nI_succ]
          first | exact hnext _ rfl (by first | omega | (exact Or.inl (h6.resolve_right (by omega)))) | exact ih s (m + 1) pl (by omega) (by omega) h3 h4 (fun _ => h5') h6 h7 (by omega)
        · rw [pu_lt, zb] at c75
          refine gk_iload1 dX6_rolled_78 (pc' := 79) rfl ?_
          refine gk_iload2 dX6_rolled_79 (pc' := 80) rfl ?_
          refine gk_icmp_ne dX6_rolled_80 (tgt := 90) (pc' := 83) (by decide) rfl (fun c80 => ?_) (fun c80 => ?_)
          · have q3 : ¬ i.toInt = pl := fun e => c80 (pu_inj (by rw [zp]; exact e))
            refine gk_aload0 dX6_rolled_90 (pc' := 91) rfl ?_
            refine gk_aload0 dX6_rolled_91 (pc' := 92) rfl ?_
            refine gk_iload3 dX6_rolled_92 (pc' := 93) rfl ?_
            refine gk_cV1_1 mv_Picture_pixel gw_343 dX6_rolled_93 (pc' := 96) rfl (Nat.le_of_ble_eq_true rfl) (by assumption) (sp_Picture_pixel hp hs ?_)
            refine ⟨_, rfl, ?_⟩
            refine gk_iload1 dX6_rolled_96 (pc' := 97) rfl ?_
            refine gk_iload2 dX6_rolled_97 (pc' := 98) rfl ?_
            refine gk_isub dX6_rolled_98 (pc' := 99) rfl ?_
            refine gk_cV1_2 mv_Picture_pixelByte gw_716 dX6_rolled_99 (pc' := 102) rfl (Nat.le_of_ble_eq_true rfl) (by assumption) (sp_Picture_pixelByte hp ?_)
            refine ⟨_, rfl, ?_⟩
            refine gk_iret dX6_rolled_102 rfl (by first | (have : r = nI m := (by rw [h7, q3, Int.sub_self]; unfold segB; split <;> rfl); rw [this] at hQ; exact hQ) | (exact rolBy zp hb1 h7 hQ (by omega) (by omega)))
          · have q3 : i.toInt = pl := by rw [c80]; exact zp
            refine gk_iload4 dX6_rolled_83 (pc' := 85) rfl ?_
            refine gk_iload3 dX6_rolled_85 (pc' := 86) rfl ?_
            refine gk_isub dX6_rolled_86 (pc' := 87) rfl ?_
            rw [show nI (s + m) - nI s = nI m by rw [pk_sub (by omega), Nat.add_sub_cancel_left]]
            refine gk_goto dX6_rolled_87 (tgt := 102) (by decide) ?_
            refine gk_iret dX6_rolled_102 rfl (by first | (have : r = nI m := (by rw [h7, q3, Int.sub_self]; unfold segB; split <;> rfl); rw [this] at hQ; exact hQ) | (exact rolBy zp hb1 h7 hQ (by omega) (by omega)))
    · refine ⟨_, rfl, ?_⟩
      have h5' : rl p (w * t) s = rlF p s (w * t - (s + (m + 1))) (m + 1) := by
        rw [h5']
        obtain ⟨g, hg⟩ : ∃ g, w * t - (s + m) = g + 1 := ⟨w * t - (s + m) - 1, by omega⟩
        rw [hg, rlF, if_neg (fun z => c57 (Or.inr z)), show w * t - (s + (m + 1)) = g by omega]
      refine gk_if_eq dX6_rolled_60 (tgt := 115) (pc' := 63) (by decide) rfl (fun _ => ?_) (fun c => absurd c (by decide))
      refine gk_iinc4 (v := 1) dX6_rolled_115 (pc' := 118) rfl (by decide) (by decide) rfl ?_
      refine gk_goto dX6_rolled_118 (tgt := 44) (by decide) ?_
      rw [← nI_succ]
      first | exact hnext _ rfl (by first | omega | (exact Or.inl (h6.resolve_right (by omega)))) | exact ih s (m + 1) pl (by omega) (by omega) h3 h4 (fun _ => h5') h6 h7 (by omega)
theorem sp_Picture_rolled {i : Int32} (hp : isPic X h a k w t p) (hi : -1 ≤ i.toInt) (hk : k = 0 ∨ k = 1) (h1 : 1 ≤ w) (h2 : 1 ≤ t) (hQ : Q (some (.int (rolS k w t p i.toInt))) h) : Gm (kx X) mt_Picture_rolled (d + 2) b [.ref a, .int i] h Q := by
  have e1 := hp.o
  have z0 : (0 : Int32).toInt = 0 := rfl
  have z3 : (3 : Int32).toInt = 3 := rfl
  have ha : 1 ≤ w * t := Nat.mul_le_mul h1 h2
  refine Gm.enter (L := [some (.ref a), some (.int i), none, none, none]) (by decide) (fun _ => trivial) (Nat.le_of_ble_eq_true rfl) rfl ?_
  refine gk_iload1 dX6_rolled_0 (pc' := 1) rfl ?_
  refine gk_if_lt dX6_rolled_1 (tgt := 37) (pc' := 4) (by decide) rfl (fun c1 => ?_) (fun c1 => ?_)
  · rw [pu_lt, z0] at c1
    refine gk_iconst (v := 3) dX6_rolled_37 (pc' := 38) rfl (by decide) ?_
    refine gk_istore2 dX6_rolled_38 (pc' := 39) rfl (by decide) rfl ?_
    refine gk_iconst (v := 0) dX6_rolled_39 (pc' := 40) rfl (by decide) ?_
    refine gk_istore3 dX6_rolled_40 (pc' := 41) rfl (by decide) rfl ?_
    refine gk_iconst (v := 1) dX6_rolled_41 (pc' := 42) rfl (by decide) ?_
    refine gk_istore4 dX6_rolled_42 (pc' := 44) rfl (by decide) rfl ?_
    refine lp_Picture_rolled hp (by omega) hQ (w * t) 0 1 3 (by omega) (by omega) (by omega) (by omega) (fun _ => rfl) (by omega) ?_ (by omega)
    rw [rolS, if_neg (by omega), if_neg (by omega), if_neg (by omega)]
    rfl
  · rw [pu_lt, z0] at c1
    refine gk_iload1 dX6_rolled_4 (pc' := 5) rfl ?_
    refine gk_iconst (v := 3) dX6_rolled_5 (pc' := 6) rfl (by decide) ?_
    refine gk_icmp_ge dX6_rolled_6 (tgt := 37) (pc' := 9) (by decide) rfl (fun c6 => ?_) (fun c6 => ?_)
    · rw [pu_le, z3] at c6
      refine gk_iconst (v := 3) dX6_rolled_37 (pc' := 38) rfl (by decide) ?_
      refine gk_istore2 dX6_rolled_38 (pc' := 39) rfl (by decide) rfl ?_
      refine gk_iconst (v := 0) dX6_rolled_39 (pc' := 40) rfl (by decide) ?_
      refine gk_istore3 dX6_rolled_40 (pc' := 41) rfl (by decide) rfl ?_
      refine gk_iconst (v := 1) dX6_rolled_41 (pc' := 42) rfl (by decide) ?_
      refine gk_istore4 dX6_rolled_42 (pc' := 44) rfl (by decide) rfl ?_
      refine lp_Picture_rolled hp (by omega) hQ (w * t) 0 1 3 (by omega) (by omega) (by omega) (by omega) (fun _ => rfl) (by omega) ?_ (by omega)
      rw [rolS, if_neg (by omega), if_neg (by omega), if_neg (by omega)]
      rfl
    · rw [pu_le, z3] at c6
      refine gk_iload1 dX6_rolled_9 (pc' := 10) rfl ?_
      refine gk_if_ne dX6_rolled_10 (tgt := 20) (pc' := 13) (by decide) rfl (fun c10 => ?_) (fun c10 => ?_)
      · have q : ¬ i.toInt = 0 := fun e => c10 (pu_inj e)
        refine gk_iload1 dX6_rolled_20 (pc' := 21) rfl ?_
        refine gk_iconst (v := 1) dX6_rolled_21 (pc' := 22) rfl (by decide) ?_
        refine gk_icmp_ne dX6_rolled_22 (tgt := 32) (pc' := 25) (by decide) rfl (fun c22 => ?_) (fun c22 => ?_)
        · have q2 : ¬ i.toInt = 1 := fun e => c22 (pu_inj e)
          rw [rolS, if_neg q, if_neg q2, if_pos (by omega)] at hQ
          refine gk_aload0 dX6_rolled_32 (pc' := 33) rfl ?_
          refine gk_getf (fs := [_, _, _, _]) gF_Picture_18 dX6_rolled_33 (pc' := 36) rfl (by assumption) rfl ?_
          refine gk_iret dX6_rolled_36 rfl hQ
        · rw [rolS, if_neg q, if_pos (by rw [c22]; rfl)] at hQ
          refine gk_aload0 dX6_rolled_25 (pc' := 26) rfl ?_
          refine gk_getf (fs := [_, _, _, _]) gF_Picture_15 dX6_rolled_26 (pc' := 29) rfl (by assumption) rfl ?_
          refine gk_goto dX6_rolled_29 (tgt := 36) (by decide) ?_
          refine gk_iret dX6_rolled_36 rfl hQ
      · rw [rolS, if_pos (by rw [c10]; rfl)] at hQ
        refine gk_aload0 dX6_rolled_13 (pc' := 14) rfl ?_
        refine gk_getf (fs := [_, _, _, _]) gF_Picture_9 dX6_rolled_14 (pc' := 17) rfl (by assumption) rfl ?_
        refine gk_goto dX6_rolled_17 (tgt := 36) (by decide) ?_
        refine gk_iret dX6_rolled_36 rfl hQ
theorem lp_Arrays_fill {c n : Nat} {v : Int32} {h0 : gk_H} (hn : n < 100000) (hQ : ∀ h' g, h'.1 c = some (cI X n g) → (∀ j, j < n → g j = v) → fr (fun z => z = c) h0 h' → Q none h') : ∀ f i (h : gk_H) (g : Nat → Int32), i + f = n → h.1 c = some (cI X n g) → (∀ j, j < i → g j = v) → fr (fun z => z = c) h0 h → G (kx X) mt_Arrays_fill d b 5 [some (.ref c), some (.int v), some (.int (nI i)), some (.int (nI n))] [] h Q := by
  intro f
  induction f with
  | zero =>
    intro i h g hi e1 e2 e3
    refine gk_iload2 dJ7_fill_53178_5 (pc' := 6) rfl ?_
    refine gk_iload3 dJ7_fill_53178_6 (pc' := 7) rfl ?_
    refine gk_icmp_ge dJ7_fill_53178_7 (tgt := 20) (pc' := 10) (by decide) rfl (fun c7 => ?_) (fun c7 => absurd (nI_le (by omega) (by omega)) c7)
    refine gk_vret dJ7_fill_53178_20 rfl (hQ h g e1 (fun j hj => e2 j (by omega)) e3)
  | succ f ih =>
    intro i h g hi e1 e2 e3
    have z : (nI i).toNatClampNeg = i := nI_clamp (by omega)
    refine gk_iload2 dJ7_fill_53178_5 (pc' := 6) rfl ?_
    refine gk_iload3 dJ7_fill_53178_6 (pc' := 7) rfl ?_
    refine gk_icmp_ge dJ7_fill_53178_7 (tgt := 20) (pc' := 10) (by decide) rfl (fun c7 => absurd c7 (nI_ge (by omega) (by omega))) (fun c7 => ?_)
    refine gk_aload0 dJ7_fill_53178_10 (pc' := 11) rfl ?_
    refine gk_iload2 dJ7_fill_53178_11 (pc' := 12) rfl ?_
    refine gk_iload1 dJ7_fill_53178_12 (pc' := 13) rfl ?_
    refine gk_iast (t0 := 0) rfl dJ7_fill_53178_13 (pc' := 14) rfl (by assumption) (vp_in_nI (by omega) (by omega)) ?_
    refine gk_iinc2 (v := 1) dJ7_fill_53178_14 (pc' := 17) rfl (by decide) (by decide) rfl ?_
    refine gk_goto dJ7_fill_53178_17 (tgt := 5) (by decide) ?_
    rw [← nI_succ]
    refine ih (i + 1) _ _ (by omega) gk_set_self (fun j hj => ?_) (e3.trans fr.set (fun _ q => q) (fun _ q => q))
    rw [z]
    by_cases q : j = i
    · subst q; exact pk_us
    · rw [pk_un q]; exact e2 j (by omega)
theorem sp_Arrays_fill {c n : Nat} {v : Int32} {f : Nat → Int32} (hc : h.1 c = some (cI X n f)) (hn : n < 100000) (hQ : ∀ h' g, h'.1 c = some (cI X n g) → (∀ j, j < n → g j = v) → fr (fun z => z = c) h h' → Q none h') : Gm (kx X) mt_Arrays_fill d b [.ref c, .int v] h Q := by
  refine Gm.enterJ (L := [some (.ref c), some (.int v), none, none]) (by decide +kernel) (fun _ => trivial) (Nat.le_of_ble_eq_true rfl) rfl ?_
  refine gk_iconst (v := 0) dJ7_fill_53178_0 (pc' := 1) rfl (by decide) ?_
  refine gk_istore2 dJ7_fill_53178_1 (pc' := 2) rfl (by decide) rfl ?_
  refine gk_aload0 dJ7_fill_53178_2 (pc' := 3) rfl ?_
  refine gk_alen (t0 := 0) rfl dJ7_fill_53178_3 (pc' := 4) rfl (by assumption) ?_
  refine gk_istore3 dJ7_fill_53178_4 (pc' := 5) rfl (by decide) rfl ?_
  exact lp_Arrays_fill hn hQ n 0 h f (by omega) hc (fun j hj => absurd hj (by omega)) fr.rf
theorem sp_Picture_blank (hp : isPic X h a k w t p) (hQ : ∀ h', isPic X h' a k w t (fun _ => 0) → fr (fun c => c = a + 1) h h' → Q none h') : Gm (kx X) mt_Picture_blank (d + 1) b [.ref a] h Q := by
  have ha := hp.area
  obtain ⟨hw, hh, f, e1, e2, e3⟩ := hp
  refine Gm.enter (L := [some (.ref a)]) (by decide) (fun _ => trivial) (Nat.le_of_ble_eq_true rfl) rfl ?_
  refine gk_aload0 dX6_blank_0 (pc' := 1) rfl ?_
  refine gk_getf (fs := [_, _, _, _]) gF_Picture_21 dX6_blank_1 (pc' := 4) rfl (by assumption) rfl ?_
  refine gk_iconst (v := 0) dX6_blank_4 (pc' := 5) rfl (by decide) ?_
  refine gk_cS0_2 mz_Arrays_fill gw_259 dX6_blank_5 (pc' := 8) rfl (Nat.le_of_ble_eq_true rfl) (sp_Arrays_fill e2 (by omega) (fun h' g q1 q2 q3 => ?_))
  refine ⟨rfl, ?_⟩
  refine gk_vret dX6_blank_8 rfl (hQ h' ⟨hw, hh, g, (q3.2 _ (by omega)).trans e1, q1, fun i hi => q2 i (by omega)⟩ q3)
theorem sp_Picture_copyFrom {a' : Nat} {k' : Int32} {w' t' : Nat} {p' : Nat → Int32} (hp : isPic X h a k w t p) (hp' : isPic X h a' k' w' t' p') (n1 : a ≠ a') (n2 : a ≠ a' + 1) (n3 : a' ≠ a + 1) (hQ : ∀ h', isPic X h' a k' w' t' p' → fr (fun c => c = a ∨ c = a + 1) h h' → Q none h') : Gm (kx X) mt_Picture_copyFrom (d + 1) b [.ref a, .ref a'] h Q := by
  have hp0 := hp
  obtain ⟨hw, hh, f, e1, e2, e3⟩ := hp
  have hp1 := hp'
  have ha := hp'.area
  obtain ⟨hw', hh', f', e1', e2', e3'⟩ := hp'
  refine Gm.enter (L := [some (.ref a), some (.ref a')]) (by decide) (fun _ => trivial) (Nat.le_of_ble_eq_true rfl) rfl ?_
  refine gk_aload0 dX6_copyFrom_0 (pc' := 1) rfl ?_
  refine gk_aload1 dX6_copyFrom_1 (pc' := 2) rfl ?_
  refine gk_getf (fs := [_, _, _, _]) gF_Picture_9 dX6_copyFrom_2 (pc' := 5) rfl (by exact (e1')) rfl ?_
  refine gk_aload1 dX6_copyFrom_5 (pc' := 6) rfl ?_
  refine gk_getf (fs := [_, _, _, _]) gF_Picture_15 dX6_copyFrom_6 (pc' := 9) rfl (by exact (e1')) rfl ?_
  refine gk_aload1 dX6_copyFrom_9 (pc' := 10) rfl ?_
  refine gk_getf (fs := [_, _, _, _]) gF_Picture_18 dX6_copyFrom_10 (pc' := 13) rfl (by exact (e1')) rfl ?_
  refine gk_cV0_3 mv_Picture_shape gw_310 dX6_copyFrom_13 (pc' := 16) rfl (Nat.le_of_ble_eq_true rfl) (by exact (e1)) (sp_Picture_shape hp0 hw' hh' (fun h1 g q1 q2 => ?_))
  refine ⟨rfl, ?_⟩
  have g1 := (q2.2 a' (Ne.symm n1)).trans e1'
  have g2 := (q2.2 (a' + 1) (Ne.symm n2)).trans e2'
  have g3 := (q2.2 (a + 1) (by omega)).trans e2
  have g4 := q1.o
  refine gk_aload1 dX6_copyFrom_16 (pc' := 17) rfl ?_
  refine gk_getf (fs := [_, _, _, _]) gF_Picture_21 dX6_copyFrom_17 (pc' := 20) rfl (by exact (g1)) rfl ?_
  refine gk_iconst (v := 0) dX6_copyFrom_20 (pc' := 21) rfl (by decide) ?_
  refine gk_aload0 dX6_copyFrom_21 (pc' := 22) rfl ?_
  refine gk_getf (fs := [_, _, _, _]) gF_Picture_21 dX6_copyFrom_22 (pc' := 25) rfl (by exact (g4)) rfl ?_
  refine gk_iconst (v := 0) dX6_copyFrom_25 (pc' := 26) rfl (by decide) ?_
  refine gk_sipush (v := 256) dX6_copyFrom_26 (pc' := 29) rfl (by decide) ?_
  refine gk_copy (n' := 256) (sp' := 0) (dp' := 0) (t0 := 0) rfl gw_311 gw_313 gw_312 gw_14 dX6_copyFrom_29 (pc' := 32) rfl g2 g3 rfl rfl rfl (by decide) (by decide) (by decide) (by decide) (by have := nfw; simp; omega) ?_
  refine gk_vret dX6_copyFrom_32 rfl (hQ _ ⟨hw', hh', _, (gk_set_ne (by omega)).trans g4, gk_set_self, fun i hi => ?_⟩ (q2.trans fr.set (fun _ q => Or.inl q) (fun _ q => Or.inr q)))
  rw [pk_cpy_in (by omega) (by omega), Nat.zero_add, Nat.sub_zero]
  exact e3' i hi
theorem sp_Picture_init (ha : h.1 a = some (.inr (6, [.int 0, .int 0, .int 0, .null]))) (hs : h.2 = a + 1) (hQ : ∀ h', isPic X h' a (-1) 0 0 (fun _ => 0) → (∀ c, c ≠ a → c ≠ a + 1 → h'.1 c = h.1 c) → h'.2 = a + 2 → Q none h') : Gm (kx X) mt_Picture_init (d + 1) (1, 256) [.ref a] h Q := by
  refine Gm.enter (L := [some (.ref a)]) (by decide) (fun _ => trivial) (Nat.le_of_ble_eq_true rfl) rfl ?_
  refine gk_aload0 dX6_init_0 (pc' := 1) rfl ?_
  refine gk_objInit gw_35 gw_23 gw_24 dX6_init_1 (pc' := 4) rfl (Nat.le_of_ble_eq_true rfl) ?_
  refine gk_aload0 dX6_init_4 (pc' := 5) rfl ?_
  refine gk_iconst (v := -1) dX6_init_5 (pc' := 6) rfl (by decide) ?_
  refine gk_putf (fs := [_, _, _, _]) gP_Picture_9 dX6_init_6 (pc' := 9) rfl (by assumption) rfl rfl (Nat.le_of_ble_eq_true rfl) ?_
  refine gk_aload0 dX6_init_9 (pc' := 10) rfl ?_
  refine gk_iconst (v := 0) dX6_init_10 (pc' := 11) rfl (by decide) ?_
  refine gk_putf (fs := [_, _, _, _]) gP_Picture_15 dX6_init_11 (pc' := 14) rfl (by exact (gk_set_self)) rfl rfl (Nat.le_of_ble_eq_true rfl) ?_
  refine gk_aload0 dX6_init_14 (pc' := 15) rfl ?_
  refine gk_iconst (v := 0) dX6_init_15 (pc' := 16) rfl (by decide) ?_
  refine gk_putf (fs := [_, _, _, _]) gP_Picture_18 dX6_init_16 (pc' := 19) rfl (by exact (gk_set_self)) rfl rfl (Nat.le_of_ble_eq_true rfl) ?_
  refine gk_aload0 dX6_init_19 (pc' := 20) rfl ?_
  refine gk_sipush (v := 256) dX6_init_20 (pc' := 23) rfl (by decide) ?_
  refine gk_newi (n := 256) (bc := 0) (bs := 0) (t0 := 0) rfl gw_61 dX6_init_23 (pc' := 25) rfl rfl (by decide) ?_
  refine gk_putF (fs := [_, _, _, _]) gP_Picture_21 rfl dX6_init_25 (pc' := 28) rfl (by exact ((gk_new_ne (by show a ≠ h.2; omega)).trans gk_set_self)) rfl rfl (Nat.le_of_ble_eq_true rfl) ?_
  refine gk_vret dX6_init_28 rfl (hQ _ ⟨by decide, by decide, fun _ => 0, ?_, ?_, fun i hi => absurd hi (by omega)⟩ (fun c n1 n2 => ?_) ?_)
  · rw [gk_set_self]; rw [show (gk_set (gk_set (gk_set h a _) a _) a _).2 = a + 1 from hs]; rfl
  · rw [gk_set_ne (by omega), ← hs]; exact gk_new_self
  · rw [gk_set_ne n1, gk_new_ne (by show c ≠ h.2; omega), gk_set_ne n1, gk_set_ne n1, gk_set_ne n1]
  · show h.2 + 1 = a + 2; omega
end PicC
