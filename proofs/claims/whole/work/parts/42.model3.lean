/-! ===== the reference: begin, load, undo, redo, become ===== -/
/-- row n0 of w becomes f -/
def bgW (f : Nat → Int32) (n0 : Nat) (w : Nat → Int32) : Nat → Int32 := fun q => if 3608 * n0 ≤ q ∧ q < 3608 * n0 + 3608 then f (q - 3608 * n0) else w q
/-- .. as far as i -/
def bgI (f : Nat → Int32) (n0 : Nat) (w : Nat → Int32) (i : Nat) : Nat → Int32 := fun q => if 3608 * n0 ≤ q ∧ q < 3608 * n0 + i then f (q - 3608 * n0) else w q
theorem bgI_0 {f w : Nat → Int32} {n0 : Nat} : bgI f n0 w 0 = w := funext fun q => if_neg (by omega)
theorem bgI_s {f w : Nat → Int32} {n0 i : Nat} : upd (bgI f n0 w i) (3608 * n0 + i) (f i) = bgI f n0 w (i + 1) := funext fun q => by
  by_cases e : q = 3608 * n0 + i
  · subst e
    rw [pk_us]
    unfold bgI
    rw [if_pos (by omega), Nat.add_sub_cancel_left]
  · rw [pk_un e]
    unfold bgI
    by_cases z : 3608 * n0 ≤ q ∧ q < 3608 * n0 + i
    · rw [if_pos z, if_pos (by omega)]
    · rw [if_neg z, if_neg (by omega)]
/-- the rows move down by one, as far as i -/
def shI (w : Nat → Int32) (i : Nat) : Nat → Int32 := fun q => if q < i then w (q + 3608) else w q
theorem shI_0 {w : Nat → Int32} : shI w 0 = w := funext fun q => if_neg (by omega)
theorem shI_s {w : Nat → Int32} {i : Nat} : upd (shI w i) i (shI w i (i + 3608)) = shI w (i + 1) := funext fun q => by
  by_cases e : q = i
  · subst e
    rw [pk_us]
    unfold shI
    rw [if_neg (by omega), if_pos (by omega)]
  · rw [pk_un e]
    unfold shI
    by_cases z : q < i
    · rw [if_pos z, if_pos (by omega)]
    · rw [if_neg z, if_neg (by omega)]
/-- st becomes row a of w, as far as i -/
def ldI (f w : Nat → Int32) (a i : Nat) : Nat → Int32 := fun q => if q < i then w (3608 * a + q) else f q
theorem ldI_0 {f w : Nat → Int32} {a : Nat} : ldI f w a 0 = f := funext fun q => if_neg (by omega)
theorem ldI_s {f w : Nat → Int32} {a i : Nat} : upd (ldI f w a i) i (w (3608 * a + i)) = ldI f w a (i + 1) := funext fun q => by
  by_cases e : q = i
  · subst e
    rw [pk_us]
    unfold ldI
    rw [if_pos (by omega)]
  · rw [pk_un e]
    unfold ldI
    by_cases z : q < i
    · rw [if_pos z, if_pos (by omega)]
    · rw [if_neg z, if_neg (by omega)]
/-- a picture of zeros, as far as i -/
def bcI (f : Nat → Int32) (j : Nat) (k : Int32) (w t : Int32) (i : Nat) : Nat → Int32 := fun q => if q = 259 * j then k else if q = 259 * j + 1 then w else if q = 259 * j + 2 then t else if 259 * j + 3 ≤ q ∧ q < 259 * j + 3 + i then 0 else f q
theorem bcI_0 {f : Nat → Int32} {j : Nat} {k w t : Int32} : upd (upd (upd f (259 * j) k) (259 * j + 1) w) (259 * j + 2) t = bcI f j k w t 0 := funext fun q => by
  unfold bcI
  by_cases e2 : q = 259 * j + 2
  · subst e2; rw [pk_us, if_neg (by omega), if_neg (by omega), if_pos rfl]
  · rw [pk_un e2]
    by_cases e1 : q = 259 * j + 1
    · subst e1; rw [pk_us, if_neg (by omega), if_pos rfl]
    · rw [pk_un e1]
      by_cases e0 : q = 259 * j
      · subst e0; rw [pk_us, if_pos rfl]
      · rw [pk_un e0, if_neg e0, if_neg e1, if_neg e2, if_neg (by omega)]
theorem bcI_s {f : Nat → Int32} {j i : Nat} {k w t : Int32} : upd (bcI f j k w t i) (259 * j + 3 + i) 0 = bcI f j k w t (i + 1) := funext fun q => by
  by_cases e : q = 259 * j + 3 + i
  · subst e
    rw [pk_us]
    unfold bcI
    rw [if_neg (by omega), if_neg (by omega), if_neg (by omega), if_pos (by omega)]
  · rw [pk_un e]
    unfold bcI
    by_cases e0 : q = 259 * j
    · rw [if_pos e0, if_pos e0]
    · by_cases e1 : q = 259 * j + 1
      · rw [if_neg e0, if_neg e0, if_pos e1, if_pos e1]
      · by_cases e2 : q = 259 * j + 2
        · rw [if_neg e0, if_neg e0, if_neg e1, if_neg e1, if_pos e2, if_pos e2]
        · rw [if_neg e0, if_neg e0, if_neg e1, if_neg e1, if_neg e2, if_neg e2]
          by_cases z : 259 * j + 3 ≤ q ∧ q < 259 * j + 3 + i
          · rw [if_pos z, if_pos (by omega)]
          · rw [if_neg z, if_neg (by omega)]
abbrev bcF (f : Nat → Int32) (j : Nat) (k w t : Int32) : Nat → Int32 := bcI f j k w t 256
theorem bcF_row {f : Nat → Int32} {j : Nat} {k : Int32} {w t : Nat} (ha : w * t ≤ 256) : pRow (bcF f j k (nI w) (nI t)) (259 * j) (k, w, t, fun _ => 0) := by
  refine ⟨?_, ?_, ?_, fun i hi => ?_⟩
  · show bcI f j k (nI w) (nI t) 256 (259 * j) = k; unfold bcI; rw [if_pos rfl]
  · show bcI f j k (nI w) (nI t) 256 (259 * j + 1) = nI w; unfold bcI; rw [if_neg (by omega), if_pos rfl]
  · show bcI f j k (nI w) (nI t) 256 (259 * j + 2) = nI t; unfold bcI; rw [if_neg (by omega), if_neg (by omega), if_pos rfl]
  · have hi : i < w * t := hi
    show bcI f j k (nI w) (nI t) 256 (259 * j + 3 + i) = 0; unfold bcI; rw [if_neg (by omega), if_neg (by omega), if_neg (by omega), if_pos (by omega)]
theorem bcF_out {f : Nat → Int32} {j : Nat} {k w t : Int32} : ∀ q, (q < 259 * j ∨ 259 * j + 259 ≤ q) → bcF f j k w t q = f q := fun q hq => by
  show bcI f j k w t 256 q = f q
  unfold bcI
  rw [if_neg (by omega), if_neg (by omega), if_neg (by omega), if_neg (by omega)]
/-- begun: whatever st shows at the end is the newest state -/
def Bg (A : MoA) (Z : MoZ) (S : St) : Prop := ∀ (A' : MoA) (Z' : MoZ) b s W, (∀ i, 2 ≤ i → i ≤ 8 → A' i = A i) → (∀ i, i ≤ 3 → Z' i = Z i) → wRow (A' 1) 0 W → MoS A' Z' (psh S.1 b s W, S.2)
theorem MoS.kept {A A' : MoA} {Z Z' : MoZ} {S : St} (h : MoS A Z S) (hA : ∀ i, 1 ≤ i → i ≤ 8 → A' i = A i) (hZ : ∀ i, i ≤ 3 → Z' i = Z i) : MoS A' Z' S := by
  unfold MoS at h ⊢
  rw [hA 1 (by omega) (by omega), hA 2 (by omega) (by omega), hA 3 (by omega) (by omega), hA 4 (by omega) (by omega), hA 5 (by omega) (by omega), hA 6 (by omega) (by omega), hA 7 (by omega) (by omega), hA 8 (by omega) (by omega), hZ 0 (by omega), hZ 1 (by omega), hZ 2 (by omega), hZ 3 (by omega)]
  exact h
theorem wRow.setP {f g : Nat → Int32} {W : Wd} (hW : okW W) (h : wRow f 0 W) {p : Nat} (hp : p < 8) {c : Pc} (hc : pRow g (259 * p) c) (ho : ∀ q, (q < 259 * p ∨ 259 * p + 259 ≤ q) → g q = f q) : wRow g 0 (setP W p c) := by
  refine ⟨fun q hq => ?_, fun q hq => (h.2 q hq).to (fun i hi => ho _ (by omega))⟩
  show pRow g (0 + 259 * q) (if q = p then c else W.1 q)
  by_cases e : q = p
  · rw [if_pos e, e, Nat.zero_add]; exact hc
  · rw [if_neg e]; exact (h.1 q hq).to (hW.1 q hq) (fun i hi => ho _ (by omega))
theorem wRow.setM {f g : Nat → Int32} {W : Wd} (hW : okW W) (h : wRow f 0 W) {p : Nat} (hp : p < 6) {R : Nat → Nat} (hc : mRow g (2072 + 256 * p) R) (ho : ∀ q, (q < 2072 + 256 * p ∨ 2072 + 256 * p + 256 ≤ q) → g q = f q) : wRow g 0 (setM W p R) := by
  refine ⟨fun q hq => (h.1 q hq).to (hW.1 q hq) (fun i hi => ho _ (by omega)), fun q hq => ?_⟩
  show mRow g (0 + 2072 + 256 * q) (if q = p then R else W.2 q)
  by_cases e : q = p
  · rw [if_pos e, e, Nat.zero_add]; exact hc
  · rw [if_neg e]; exact (h.2 q hq).to (fun i hi => ho _ (by omega))
theorem Bg.actP {A A' : MoA} {Z Z' : MoZ} {S : St} (hB : Bg A Z S) (hw : wfH S.1) (h1 : wRow (A 1) 0 (cuH S.1)) (hA : ∀ i, 2 ≤ i → i ≤ 8 → A' i = A i) (hZ : ∀ i, i ≤ 3 → Z' i = Z i) {p : Nat} (hp : p < 8) {c : Pc} (hc : pRow (A' 1) (259 * p) c) (ho : ∀ q, (q < 259 * p ∨ 259 * p + 259 ≤ q) → A' 1 q = A 1 q) : MoS A' Z' (kP S p c) := hB A' Z' false p _ hA hZ (h1.setP hw.cu hp hc ho)
theorem Bg.actM {A A' : MoA} {Z Z' : MoZ} {S : St} (hB : Bg A Z S) (hw : wfH S.1) (h1 : wRow (A 1) 0 (cuH S.1)) (hA : ∀ i, 2 ≤ i → i ≤ 8 → A' i = A i) (hZ : ∀ i, i ≤ 3 → Z' i = Z i) {p : Nat} (hp : p < 6) {R : Nat → Nat} (hc : mRow (A' 1) (2072 + 256 * p) R) (ho : ∀ q, (q < 2072 + 256 * p ∨ 2072 + 256 * p + 256 ≤ q) → A' 1 q = A 1 q) : MoS A' Z' (kM S p R) := hB A' Z' true p _ hA hZ (h1.setM hw.cu hp hc ho)
section MoD
variable {X : gX} {d : Nat} {b : Nat × Nat} {h h0 : gk_H} {m : Nat} {A : MoA} {Z : MoZ} {Q : Option Value → gk_H → Prop} {S : St}
theorem lp_Mo_begin1 (hQ : ∀ l1, G (kx X) mt_Mo_begin d b 39 [some (.ref m), l1] [] (mkH X h0 m (uA A 2 (shI (A 2) 57728)) Z) Q) : ∀ n i, i + n = 57728 → G (kx X) mt_Mo_begin d b 11 [some (.ref m), some (.int (nI i))] [] (mkH X h0 m (uA A 2 (shI (A 2) i)) Z) Q := by
  have zc : (57728 : Int32) = nI 57728 := rfl
  intro n
  induction n with
  | zero =>
    intro i hi
    have e : i = 57728 := by omega
    subst e
    refine gk_iload1 dX11_begin_11 (pc' := 12) rfl ?_
    refine gk_ldc dX11_begin_12 (pc' := 14) rfl gw_896 ?_
    refine gk_icmp_ge dX11_begin_14 (tgt := 39) (pc' := 17) (by decide) rfl (fun c14 => ?_) (fun c14 => absurd (by rw [zc]; exact nI_le (Nat.le_refl _) (by omega)) c14)
    exact hQ _
  | succ n ih =>
    intro i hi
    refine gk_iload1 dX11_begin_11 (pc' := 12) rfl ?_
    refine gk_ldc dX11_begin_12 (pc' := 14) rfl gw_896 ?_
    refine gk_icmp_ge dX11_begin_14 (tgt := 39) (pc' := 17) (by decide) rfl (fun c14 => absurd c14 (by rw [zc]; exact nI_ge (by omega) (by omega))) (fun c14 => ?_)
    refine gk_aload0 dX11_begin_17 (pc' := 18) rfl ?_
    refine gk_getf (fs := [_, _, _, _, _, _, _, _, _, _, _, _, _, _, _, _, _, _, _, _, _, _, _, _, _, _]) gF_Mo_14 dX11_begin_18 (pc' := 21) rfl (by exact (mkJ)) rfl ?_
    refine gk_iload1 dX11_begin_21 (pc' := 22) rfl ?_
    refine gk_aload0 dX11_begin_22 (pc' := 23) rfl ?_
    refine gk_getf (fs := [_, _, _, _, _, _, _, _, _, _, _, _, _, _, _, _, _, _, _, _, _, _, _, _, _, _]) gF_Mo_14 dX11_begin_23 (pc' := 26) rfl (by exact (mkJ)) rfl ?_
    refine gk_iload1 dX11_begin_26 (pc' := 27) rfl ?_
    refine gk_sipush (v := nI 3608) dX11_begin_27 (pc' := 30) rfl (by decide) ?_
    refine gk_iaddN dX11_begin_30 (pc' := 31) rfl ?_
    refine gk_iald (t0 := 0) rfl dX11_begin_31 (pc' := 32) rfl (by exact (mkA2)) (vp_in_nI (by omega) (by decide)) ?_
    rw [nI_clamp (by omega)]
    refine gk_iast (t0 := 0) rfl dX11_begin_32 (pc' := 33) rfl (by exact (mkA2)) (vp_in_nI (by omega) (by decide)) ?_
    rw [nI_clamp (by omega), mkS2]
    refine gk_iinc1 (v := 1) dX11_begin_33 (pc' := 36) rfl (by decide) (by decide) rfl ?_
    refine gk_goto dX11_begin_36 (tgt := 11) (by decide) ?_
    rw [← nI_succ, uA_s, uA_u, shI_s]
    exact ih (i + 1) (by omega)
theorem lp_Mo_begin2 {n0 : Nat} (hn : n0 ≤ 16) (hz : Z 0 = nI n0) (hQ : ∀ l1, G (kx X) mt_Mo_begin d b 85 [some (.ref m), l1] [] (mkH X h0 m (uA A 2 (bgI (A 1) n0 (A 2) 3608)) Z) Q) : ∀ n i, i + n = 3608 → G (kx X) mt_Mo_begin d b 51 [some (.ref m), some (.int (nI i))] [] (mkH X h0 m (uA A 2 (bgI (A 1) n0 (A 2) i)) Z) Q := by
  intro n
  induction n with
  | zero =>
    intro i hi
    have e : i = 3608 := by omega
    subst e
    refine gk_iload1 dX11_begin_51 (pc' := 52) rfl ?_
    refine gk_sipush (v := 3608) dX11_begin_52 (pc' := 55) rfl (by decide) ?_
    refine gk_icmp_ge dX11_begin_55 (tgt := 85) (pc' := 58) (by decide) rfl (fun c55 => ?_) (fun c55 => absurd (by decide) c55)
    exact hQ _
  | succ n ih =>
    intro i hi
    refine gk_iload1 dX11_begin_51 (pc' := 52) rfl ?_
    refine gk_sipush (v := 3608) dX11_begin_52 (pc' := 55) rfl (by decide) ?_
    refine gk_icmp_ge dX11_begin_55 (tgt := 85) (pc' := 58) (by decide) rfl (fun c55 => absurd c55 (nI_ge (b := 3608) (by omega) (by omega))) (fun c55 => ?_)
    refine gk_aload0 dX11_begin_58 (pc' := 59) rfl ?_
    refine gk_getf (fs := [_, _, _, _, _, _, _, _, _, _, _, _, _, _, _, _, _, _, _, _, _, _, _, _, _, _]) gF_Mo_14 dX11_begin_59 (pc' := 62) rfl (by exact (mkJ)) rfl ?_
    refine gk_sipush (v := nI 3608) dX11_begin_62 (pc' := 65) rfl (by decide) ?_
    refine gk_aload0 dX11_begin_65 (pc' := 66) rfl ?_
    refine gk_getf (fs := [_, _, _, _, _, _, _, _, _, _, _, _, _, _, _, _, _, _, _, _, _, _, _, _, _, _]) gF_Mo_88 dX11_begin_66 (pc' := 69) rfl (by exact (mkJ)) rfl ?_
    rw [hz]
    refine gk_imulN dX11_begin_69 (pc' := 70) rfl ?_
    refine gk_iload1 dX11_begin_70 (pc' := 71) rfl ?_
    refine gk_iaddN dX11_begin_71 (pc' := 72) rfl ?_
    refine gk_aload0 dX11_begin_72 (pc' := 73) rfl ?_
    refine gk_getf (fs := [_, _, _, _, _, _, _, _, _, _, _, _, _, _, _, _, _, _, _, _, _, _, _, _, _, _]) gF_Mo_7 dX11_begin_73 (pc' := 76) rfl (by exact (mkJ)) rfl ?_
    refine gk_iload1 dX11_begin_76 (pc' := 77) rfl ?_
    refine gk_iald (t0 := 0) rfl dX11_begin_77 (pc' := 78) rfl (by exact (mkA1)) (vp_in_nI (by omega) (by decide)) ?_
    rw [nI_clamp (by omega)]
    refine gk_iast (t0 := 0) rfl dX11_begin_78 (pc' := 79) rfl (by exact (mkA2)) (vp_in_nI (by omega) (by decide)) ?_
    rw [nI_clamp (by omega), mkS2]
    refine gk_iinc1 (v := 1) dX11_begin_79 (pc' := 82) rfl (by decide) (by decide) rfl ?_
    refine gk_goto dX11_begin_82 (tgt := 51) (by decide) ?_
    rw [← nI_succ, uA_s, uA_n (show 1 ≠ 2 by decide), uA_u, bgI_s]
    exact ih (i + 1) (by omega)
theorem bg_lt (hS : MoS A Z S) (hw : wfH S.1) (hn : S.1.2.1 < 16) {A1 : MoA} {Z1 : MoZ} (hA : ∀ i, i ≠ 2 → A1 i = A i) (hA2 : A1 2 = bgI (A 1) S.1.2.1 (A 2) 3608) (hZ : ∀ i, 2 ≤ i → Z1 i = Z i) (hZ0 : Z1 0 = nI (S.1.2.1 + 1)) (hZ1 : Z1 1 = nI (S.1.2.1 + 1)) : Bg A1 Z1 S := by
  intro A' Z' b s W hA' hZ' hW
  obtain ⟨s1, s2, ⟨s3, s4, s5, s6⟩, s7, s8⟩ := hS
  refine ⟨?_, fun j hj hc => ?_, ⟨?_, ?_, ?_, ?_⟩, fun i hi => ?_, fun i hi => ?_⟩
  · show wRow (A' 1) 0 (cuH (psh S.1 b s W)); rw [psh_cu]; exact hW
  · show wRow (A' 2) (3608 * j) ((psh S.1 b s W).1 j)
    have hj : j ≤ (psh S.1 b s W).2.2.1 := hj
    have hc : j < (psh S.1 b s W).2.2.1 ∨ (psh S.1 b s W).2.1 < (psh S.1 b s W).2.2.1 := hc
    rw [psh_lt hn] at hj hc ⊢
    have hc : j < S.1.2.1 + 1 ∨ S.1.2.1 + 1 < S.1.2.1 + 1 := hc
    show wRow (A' 2) (3608 * j) (if j = S.1.2.1 + 1 then W else S.1.1 j)
    rw [if_neg (by omega), hA' 2 (by omega) (by omega), hA2]
    by_cases e : j = S.1.2.1
    · subst e
      refine s1.to hw.cu (fun i hi => ?_)
      unfold bgI
      rw [if_pos (by omega), Nat.zero_add, Nat.add_sub_cancel_left]
    · refine (s2 j (by have := hw.1; omega) (by have := hw.1; omega)).to (hw.2.2.2.2 j (by have := hw.1; omega)) (fun i hi => ?_)
      unfold bgI
      rw [if_neg (by omega)]
  · show Z' 0 = nI (psh S.1 b s W).2.1; rw [psh_lt hn, hZ' 0 (by omega)]; exact hZ0
  · show Z' 1 = nI (psh S.1 b s W).2.2.1; rw [psh_lt hn, hZ' 1 (by omega)]; exact hZ1
  · rw [hZ' 2 (by omega), hZ 2 (by omega)]; exact s5
  · rw [hZ' 3 (by omega), hZ 3 (by omega)]; exact s6
  · rw [hA' 3 (by omega) (by omega), hA' 4 (by omega) (by omega), hA' 5 (by omega) (by omega), hA' 6 (by omega) (by omega), hA' 7 (by omega) (by omega), hA 3 (by omega), hA 4 (by omega), hA 5 (by omega), hA 6 (by omega), hA 7 (by omega)]; exact s7 i hi
  · rw [hA' 8 (by omega) (by omega), hA 8 (by omega)]; exact s8 i hi
theorem bg_ge (hS : MoS A Z S) (hw : wfH S.1) (hn : S.1.2.1 = 16) {A1 : MoA} {Z1 : MoZ} (hA : ∀ i, i ≠ 2 → A1 i = A i) (hA2 : A1 2 = bgI (A 1) 15 (shI (A 2) 57728) 3608) (hZ : ∀ i, 2 ≤ i → Z1 i = Z i) (hZ0 : Z1 0 = nI 16) (hZ1 : Z1 1 = nI 16) : Bg A1 Z1 S := by
  intro A' Z' b s W hA' hZ' hW
  obtain ⟨s1, s2, ⟨s3, s4, s5, s6⟩, s7, s8⟩ := hS
  have w1 := hw.1
  have w2 := hw.2.1
  have nn : ¬ S.1.2.1 < 16 := by omega
  refine ⟨?_, fun j hj hc => ?_, ⟨?_, ?_, ?_, ?_⟩, fun i hi => ?_, fun i hi => ?_⟩
  · show wRow (A' 1) 0 (cuH (psh S.1 b s W)); rw [psh_cu]; exact hW
  · show wRow (A' 2) (3608 * j) ((psh S.1 b s W).1 j)
    have hc : j < (psh S.1 b s W).2.2.1 ∨ (psh S.1 b s W).2.1 < (psh S.1 b s W).2.2.1 := hc
    rw [psh_ge nn] at hc ⊢
    have hc : j < 16 ∨ 16 < 16 := hc
    show wRow (A' 2) (3608 * j) (if j = 16 then W else S.1.1 (j + 1))
    rw [if_neg (by omega), hA' 2 (by omega) (by omega), hA2]
    by_cases e : j = 15
    · subst e
      have := s1.to (g := bgI (A 1) 15 (shI (A 2) 57728) 3608) (o' := 3608 * 15) hw.cu (fun i hi => by
        unfold bgI
        rw [if_pos (by omega), Nat.zero_add, Nat.add_sub_cancel_left])
      rw [show cuH S.1 = S.1.1 (15 + 1) by show S.1.1 S.1.2.1 = _; rw [hn]] at this
      exact this
    · refine (s2 (j + 1) (by omega) (by omega)).to (hw.2.2.2.2 (j + 1) (by omega)) (fun i hi => ?_)
      unfold bgI shI
      rw [if_neg (by omega), if_pos (by omega)]
      congr 1
      omega
  · show Z' 0 = nI (psh S.1 b s W).2.1; rw [psh_ge nn, hZ' 0 (by omega)]; exact hZ0
  · show Z' 1 = nI (psh S.1 b s W).2.2.1; rw [psh_ge nn, hZ' 1 (by omega)]; exact hZ1
  · rw [hZ' 2 (by omega), hZ 2 (by omega)]; exact s5
  · rw [hZ' 3 (by omega), hZ 3 (by omega)]; exact s6
  · rw [hA' 3 (by omega) (by omega), hA' 4 (by omega) (by omega), hA' 5 (by omega) (by omega), hA' 6 (by omega) (by omega), hA' 7 (by omega) (by omega), hA 3 (by omega), hA 4 (by omega), hA 5 (by omega), hA 6 (by omega), hA 7 (by omega)]; exact s7 i hi
  · rw [hA' 8 (by omega) (by omega), hA 8 (by omega)]; exact s8 i hi
theorem sp_Mo_begin (hS : MoS A Z S) (hw : wfH S.1) (hQ : ∀ (A' : MoA) (Z' : MoZ), (∀ i, i ≠ 2 → A' i = A i) → (∀ i, 2 ≤ i → Z' i = Z i) → Bg A' Z' S → Q none (mkH X h0 m A' Z')) : Gm (kx X) mt_Mo_begin d b [.ref m] (mkH X h0 m A Z) Q := by
  have w1 := hw.1
  have w2 := hw.2.1
  have s3 := hS.2.2.1.1
  have z16 : (16 : Int32) = nI 16 := rfl
  refine Gm.enter (L := [some (.ref m), none]) (by decide) (fun _ => trivial) (Nat.le_of_ble_eq_true rfl) rfl ?_
  by_cases hn : S.1.2.1 < 16
  · have g51 : G (kx X) mt_Mo_begin d b 49 [some (.ref m), none] [] (mkH X h0 m A Z) Q := by
      have q := lp_Mo_begin2 (X := X) (h0 := h0) (m := m) (A := A) (Z := Z) (d := d) (b := b) (Q := Q) (n0 := S.1.2.1) (by omega) s3 (fun l1 => by
        refine gk_aload0 dX11_begin_85 (pc' := 86) rfl ?_
        refine gk_dup dX11_begin_86 (pc' := 87) rfl rfl ?_
        refine gk_getf (fs := [_, _, _, _, _, _, _, _, _, _, _, _, _, _, _, _, _, _, _, _, _, _, _, _, _, _]) gF_Mo_88 dX11_begin_87 (pc' := 90) rfl (by exact (mkJ)) rfl ?_
        rw [s3]
        refine gk_iconst (v := nI 1) dX11_begin_90 (pc' := 91) rfl (by decide) ?_
        refine gk_iaddN dX11_begin_91 (pc' := 92) rfl ?_
        refine gk_putf (fs := [_, _, _, _, _, _, _, _, _, _, _, _, _, _, _, _, _, _, _, _, _, _, _, _, _, _]) gP_Mo_88 dX11_begin_92 (pc' := 95) rfl (by exact (mkJ)) rfl rfl (Nat.le_of_ble_eq_true rfl) ?_
        rw [mkP0]
        refine gk_aload0 dX11_begin_95 (pc' := 96) rfl ?_
        refine gk_aload0 dX11_begin_96 (pc' := 97) rfl ?_
        refine gk_getf (fs := [_, _, _, _, _, _, _, _, _, _, _, _, _, _, _, _, _, _, _, _, _, _, _, _, _, _]) gF_Mo_88 dX11_begin_97 (pc' := 100) rfl (by exact (mkJ)) rfl ?_
        rw [pk_us]
        refine gk_putf (fs := [_, _, _, _, _, _, _, _, _, _, _, _, _, _, _, _, _, _, _, _, _, _, _, _, _, _]) gP_Mo_93 dX11_begin_100 (pc' := 103) rfl (by exact (mkJ)) rfl rfl (Nat.le_of_ble_eq_true rfl) ?_
        rw [mkP1]
        refine gk_vret dX11_begin_103 rfl (hQ _ _ (fun i hi => uA_n hi) (fun i hi => by rw [pk_un (by omega), pk_un (by omega)]) (bg_lt hS hw hn (fun i hi => uA_n hi) uA_s (fun i hi => by rw [pk_un (by omega), pk_un (by omega)]) (by rw [pk_un (by decide), pk_us]) (by rw [pk_us])))
        ) 3608 0 (by omega)
      rw [bgI_0, uA_i] at q
      refine gk_iconst (v := 0) dX11_begin_49 (pc' := 50) rfl (by decide) ?_
      refine gk_istore1 dX11_begin_50 (pc' := 51) rfl (by decide) rfl ?_
      exact q
    refine gk_aload0 dX11_begin_0 (pc' := 1) rfl ?_
    refine gk_getf (fs := [_, _, _, _, _, _, _, _, _, _, _, _, _, _, _, _, _, _, _, _, _, _, _, _, _, _]) gF_Mo_88 dX11_begin_1 (pc' := 4) rfl (by exact (mkJ)) rfl ?_
    rw [s3]
    refine gk_bipush (v := 16) dX11_begin_4 (pc' := 6) rfl (by decide) ?_
    refine gk_icmp_ne dX11_begin_6 (tgt := 49) (pc' := 9) (by decide) rfl (fun c6 => ?_) (fun c6 => absurd ((nI_eq (by omega) (by omega)).mp (c6.trans z16)) (by omega))
    exact g51
  · have hn : S.1.2.1 = 16 := by omega
    have q := lp_Mo_begin1 (X := X) (h0 := h0) (m := m) (A := A) (Z := Z) (d := d) (b := b) (Q := Q) (fun l1 => by
      have q := lp_Mo_begin2 (X := X) (h0 := h0) (m := m) (A := uA A 2 (shI (A 2) 57728)) (Z := upd Z 0 (nI 15)) (d := d) (b := b) (Q := Q) (n0 := 15) (by omega) pk_us (fun l1 => by
        refine gk_aload0 dX11_begin_85 (pc' := 86) rfl ?_
        refine gk_dup dX11_begin_86 (pc' := 87) rfl rfl ?_
        refine gk_getf (fs := [_, _, _, _, _, _, _, _, _, _, _, _, _, _, _, _, _, _, _, _, _, _, _, _, _, _]) gF_Mo_88 dX11_begin_87 (pc' := 90) rfl (by exact (mkJ)) rfl ?_
        rw [pk_us]
        refine gk_iconst (v := nI 1) dX11_begin_90 (pc' := 91) rfl (by decide) ?_
        refine gk_iaddN dX11_begin_91 (pc' := 92) rfl ?_
        refine gk_putf (fs := [_, _, _, _, _, _, _, _, _, _, _, _, _, _, _, _, _, _, _, _, _, _, _, _, _, _]) gP_Mo_88 dX11_begin_92 (pc' := 95) rfl (by exact (mkJ)) rfl rfl (Nat.le_of_ble_eq_true rfl) ?_
        rw [mkP0]
        refine gk_aload0 dX11_begin_95 (pc' := 96) rfl ?_
        refine gk_aload0 dX11_begin_96 (pc' := 97) rfl ?_
        refine gk_getf (fs := [_, _, _, _, _, _, _, _, _, _, _, _, _, _, _, _, _, _, _, _, _, _, _, _, _, _]) gF_Mo_88 dX11_begin_97 (pc' := 100) rfl (by exact (mkJ)) rfl ?_
        rw [pk_us]
        refine gk_putf (fs := [_, _, _, _, _, _, _, _, _, _, _, _, _, _, _, _, _, _, _, _, _, _, _, _, _, _]) gP_Mo_93 dX11_begin_100 (pc' := 103) rfl (by exact (mkJ)) rfl rfl (Nat.le_of_ble_eq_true rfl) ?_
        rw [mkP1]
        refine gk_vret dX11_begin_103 rfl (hQ _ _ (fun i hi => by rw [uA_u]; exact uA_n hi) (fun i hi => by rw [pk_un (by omega), pk_un (by omega), pk_un (by omega)]) (bg_ge hS hw hn (fun i hi => by rw [uA_u]; exact uA_n hi) (by rw [uA_u, uA_s, uA_n (by decide), uA_s]) (fun i hi => by rw [pk_un (by omega), pk_un (by omega), pk_un (by omega)]) (by rw [pk_un (by decide), pk_us]) (by rw [pk_us])))
        ) 3608 0 (by omega)
      rw [bgI_0, uA_i] at q
      refine gk_aload0 dX11_begin_39 (pc' := 40) rfl ?_
      refine gk_dup dX11_begin_40 (pc' := 41) rfl rfl ?_
      refine gk_getf (fs := [_, _, _, _, _, _, _, _, _, _, _, _, _, _, _, _, _, _, _, _, _, _, _, _, _, _]) gF_Mo_88 dX11_begin_41 (pc' := 44) rfl (by exact (mkJ)) rfl ?_
      rw [s3, hn]
      refine gk_iconst (v := nI 1) dX11_begin_44 (pc' := 45) rfl (by decide) ?_
      refine gk_isubN dX11_begin_45 (pc' := 46) rfl (by omega) ?_
      refine gk_putf (fs := [_, _, _, _, _, _, _, _, _, _, _, _, _, _, _, _, _, _, _, _, _, _, _, _, _, _]) gP_Mo_88 dX11_begin_46 (pc' := 49) rfl (by exact (mkJ)) rfl rfl (Nat.le_of_ble_eq_true rfl) ?_
      rw [mkP0]
      refine gk_iconst (v := 0) dX11_begin_49 (pc' := 50) rfl (by decide) ?_
      refine gk_istore1 dX11_begin_50 (pc' := 51) rfl (by decide) rfl ?_
      exact q
      ) 57728 0 (by omega)
    rw [shI_0, uA_i] at q
    refine gk_aload0 dX11_begin_0 (pc' := 1) rfl ?_
    refine gk_getf (fs := [_, _, _, _, _, _, _, _, _, _, _, _, _, _, _, _, _, _, _, _, _, _, _, _, _, _]) gF_Mo_88 dX11_begin_1 (pc' := 4) rfl (by exact (mkJ)) rfl ?_
    rw [s3, hn]
    refine gk_bipush (v := 16) dX11_begin_4 (pc' := 6) rfl (by decide) ?_
    refine gk_icmp_ne dX11_begin_6 (tgt := 49) (pc' := 9) (by decide) rfl (fun c6 => absurd z16.symm c6) (fun c6 => ?_)
    refine gk_iconst (v := 0) dX11_begin_9 (pc' := 10) rfl (by decide) ?_
    refine gk_istore1 dX11_begin_10 (pc' := 11) rfl (by decide) rfl ?_
    exact q
theorem lp_Mo_load {a : Nat} (ha : a ≤ 16) (hQ : Q none (mkH X h0 m (uA A 1 (ldI (A 1) (A 2) a 3608)) Z)) : ∀ n i, i + n = 3608 → G (kx X) mt_Mo_load d b 2 [some (.ref m), some (.int (nI a)), some (.int (nI i))] [] (mkH X h0 m (uA A 1 (ldI (A 1) (A 2) a i)) Z) Q := by
  intro n
  induction n with
  | zero =>
    intro i hi
    have e : i = 3608 := by omega
    subst e
    refine gk_iload2 dX11_load_2 (pc' := 3) rfl ?_
    refine gk_sipush (v := 3608) dX11_load_3 (pc' := 6) rfl (by decide) ?_
    refine gk_icmp_ge dX11_load_6 (tgt := 33) (pc' := 9) (by decide) rfl (fun c6 => ?_) (fun c6 => absurd (by decide) c6)
    refine gk_vret dX11_load_33 rfl hQ
  | succ n ih =>
    intro i hi
    refine gk_iload2 dX11_load_2 (pc' := 3) rfl ?_
    refine gk_sipush (v := 3608) dX11_load_3 (pc' := 6) rfl (by decide) ?_
    refine gk_icmp_ge dX11_load_6 (tgt := 33) (pc' := 9) (by decide) rfl (fun c6 => absurd c6 (nI_ge (b := 3608) (by omega) (by omega))) (fun c6 => ?_)
    refine gk_aload0 dX11_load_9 (pc' := 10) rfl ?_
    refine gk_getf (fs := [_, _, _, _, _, _, _, _, _, _, _, _, _, _, _, _, _, _, _, _, _, _, _, _, _, _]) gF_Mo_7 dX11_load_10 (pc' := 13) rfl (by exact (mkJ)) rfl ?_
    refine gk_iload2 dX11_load_13 (pc' := 14) rfl ?_
    refine gk_aload0 dX11_load_14 (pc' := 15) rfl ?_
    refine gk_getf (fs := [_, _, _, _, _, _, _, _, _, _, _, _, _, _, _, _, _, _, _, _, _, _, _, _, _, _]) gF_Mo_14 dX11_load_15 (pc' := 18) rfl (by exact (mkJ)) rfl ?_
    refine gk_sipush (v := nI 3608) dX11_load_18 (pc' := 21) rfl (by decide) ?_
    refine gk_iload1 dX11_load_21 (pc' := 22) rfl ?_
    refine gk_imulN dX11_load_22 (pc' := 23) rfl ?_
    refine gk_iload2 dX11_load_23 (pc' := 24) rfl ?_
    refine gk_iaddN dX11_load_24 (pc' := 25) rfl ?_
    refine gk_iald (t0 := 0) rfl dX11_load_25 (pc' := 26) rfl (by exact (mkA2)) (vp_in_nI (by omega) (by decide)) ?_
    rw [nI_clamp (by omega)]
    refine gk_iast (t0 := 0) rfl dX11_load_26 (pc' := 27) rfl (by exact (mkA1)) (vp_in_nI (by omega) (by decide)) ?_
    rw [nI_clamp (by omega), mkS1]
    refine gk_iinc2 (v := 1) dX11_load_27 (pc' := 30) rfl (by decide) (by decide) rfl ?_
    refine gk_goto dX11_load_30 (tgt := 2) (by decide) ?_
    rw [← nI_succ, uA_s, uA_n (show 2 ≠ 1 by decide), uA_u, ldI_s]
    exact ih (i + 1) (by omega)
theorem sp_Mo_load {a : Nat} (ha : a ≤ 16) (hQ : Q none (mkH X h0 m (uA A 1 (ldI (A 1) (A 2) a 3608)) Z)) : Gm (kx X) mt_Mo_load d b [.ref m, .int (nI a)] (mkH X h0 m A Z) Q := by
  have q := lp_Mo_load (d := d) (b := b) ha hQ 3608 0 (by omega)
  rw [ldI_0, uA_i] at q
  refine Gm.enter (L := [some (.ref m), some (.int (nI a)), none]) (by decide) (fun _ => trivial) (Nat.le_of_ble_eq_true rfl) rfl ?_
  refine gk_iconst (v := 0) dX11_load_0 (pc' := 1) rfl (by decide) ?_
  refine gk_istore2 dX11_load_1 (pc' := 2) rfl (by decide) rfl ?_
  exact q
theorem lp_Mo_become {j : Nat} {k w t : Int32} (hj : j < 8) (hQ : Q none (mkH X h0 m (uA A 1 (bcF (A 1) j k w t)) Z)) : ∀ n i, i + n = 256 → G (kx X) mt_Mo_become d b 41 [some (.ref m), some (.int (nI j)), some (.int k), some (.int w), some (.int t), some (.int (nI i))] [] (mkH X h0 m (uA A 1 (bcI (A 1) j k w t i)) Z) Q := by
  intro n
  induction n with
  | zero =>
    intro i hi
    have e : i = 256 := by omega
    subst e
    refine gk_iload5 dX11_become_41 (pc' := 43) rfl ?_
    refine gk_sipush (v := 256) dX11_become_43 (pc' := 46) rfl (by decide) ?_
    refine gk_icmp_ge dX11_become_46 (tgt := 71) (pc' := 49) (by decide) rfl (fun c46 => ?_) (fun c46 => absurd (by decide) c46)
    refine gk_vret dX11_become_71 rfl hQ
  | succ n ih =>
    intro i hi
    refine gk_iload5 dX11_become_41 (pc' := 43) rfl ?_
    refine gk_sipush (v := 256) dX11_become_43 (pc' := 46) rfl (by decide) ?_
    refine gk_icmp_ge dX11_become_46 (tgt := 71) (pc' := 49) (by decide) rfl (fun c46 => absurd c46 (nI_ge (b := 256) (by omega) (by omega))) (fun c46 => ?_)
    refine gk_aload0 dX11_become_49 (pc' := 50) rfl ?_
    refine gk_getf (fs := [_, _, _, _, _, _, _, _, _, _, _, _, _, _, _, _, _, _, _, _, _, _, _, _, _, _]) gF_Mo_7 dX11_become_50 (pc' := 53) rfl (by exact (mkJ)) rfl ?_
    refine gk_sipush (v := nI 259) dX11_become_53 (pc' := 56) rfl (by decide) ?_
    refine gk_iload1 dX11_become_56 (pc' := 57) rfl ?_
    refine gk_imulN dX11_become_57 (pc' := 58) rfl ?_
    refine gk_iconst (v := nI 3) dX11_become_58 (pc' := 59) rfl (by decide) ?_
    refine gk_iaddN dX11_become_59 (pc' := 60) rfl ?_
    refine gk_iload5 dX11_become_60 (pc' := 62) rfl ?_
    refine gk_iaddN dX11_become_62 (pc' := 63) rfl ?_
    refine gk_iconst (v := 0) dX11_become_63 (pc' := 64) rfl (by decide) ?_
    refine gk_iast (t0 := 0) rfl dX11_become_64 (pc' := 65) rfl (by exact (mkA1)) (vp_in_nI (by omega) (by decide)) ?_
    rw [nI_clamp (by omega), mkS1]
    refine gk_iinc5 (v := 1) dX11_become_65 (pc' := 68) rfl (by decide) (by decide) rfl ?_
    refine gk_goto dX11_become_68 (tgt := 41) (by decide) ?_
    rw [← nI_succ, uA_s, uA_u, bcI_s]
    exact ih (i + 1) (by omega)
theorem sp_Mo_become {j : Nat} {k w t : Int32} (hj : j < 8) (hQ : Q none (mkH X h0 m (uA A 1 (bcF (A 1) j k w t)) Z)) : Gm (kx X) mt_Mo_become d b [.ref m, .int (nI j), .int k, .int w, .int t] (mkH X h0 m A Z) Q := by
  have q := lp_Mo_become (d := d) (b := b) hj hQ 256 0 (by omega)
  refine Gm.enter (L := [some (.ref m), some (.int (nI j)), some (.int k), some (.int w), some (.int t), none]) (by decide) (fun _ => trivial) (Nat.le_of_ble_eq_true rfl) rfl ?_
  refine gk_aload0 dX11_become_0 (pc' := 1) rfl ?_
  refine gk_getf (fs := [_, _, _, _, _, _, _, _, _, _, _, _, _, _, _, _, _, _, _, _, _, _, _, _, _, _]) gF_Mo_7 dX11_become_1 (pc' := 4) rfl (by exact (mkJ)) rfl ?_
  refine gk_sipush (v := nI 259) dX11_become_4 (pc' := 7) rfl (by decide) ?_
  refine gk_iload1 dX11_become_7 (pc' := 8) rfl ?_
  refine gk_imulN dX11_become_8 (pc' := 9) rfl ?_
  refine gk_iload2 dX11_become_9 (pc' := 10) rfl ?_
  refine gk_iast (t0 := 0) rfl dX11_become_10 (pc' := 11) rfl (by exact (mkA1)) (vp_in_nI (by omega) (by decide)) ?_
  rw [nI_clamp (by omega), mkS1]
  refine gk_aload0 dX11_become_11 (pc' := 12) rfl ?_
  refine gk_getf (fs := [_, _, _, _, _, _, _, _, _, _, _, _, _, _, _, _, _, _, _, _, _, _, _, _, _, _]) gF_Mo_7 dX11_become_12 (pc' := 15) rfl (by exact (mkJ)) rfl ?_
  refine gk_sipush (v := nI 259) dX11_become_15 (pc' := 18) rfl (by decide) ?_
  refine gk_iload1 dX11_become_18 (pc' := 19) rfl ?_
  refine gk_imulN dX11_become_19 (pc' := 20) rfl ?_
  refine gk_iconst (v := nI 1) dX11_become_20 (pc' := 21) rfl (by decide) ?_
  refine gk_iaddN dX11_become_21 (pc' := 22) rfl ?_
  refine gk_iload3 dX11_become_22 (pc' := 23) rfl ?_
  refine gk_iast (t0 := 0) rfl dX11_become_23 (pc' := 24) rfl (by exact (mkA1)) (vp_in_nI (by omega) (by decide)) ?_
  rw [nI_clamp (by omega), mkS1]
  refine gk_aload0 dX11_become_24 (pc' := 25) rfl ?_
  refine gk_getf (fs := [_, _, _, _, _, _, _, _, _, _, _, _, _, _, _, _, _, _, _, _, _, _, _, _, _, _]) gF_Mo_7 dX11_become_25 (pc' := 28) rfl (by exact (mkJ)) rfl ?_
  refine gk_sipush (v := nI 259) dX11_become_28 (pc' := 31) rfl (by decide) ?_
  refine gk_iload1 dX11_become_31 (pc' := 32) rfl ?_
  refine gk_imulN dX11_become_32 (pc' := 33) rfl ?_
  refine gk_iconst (v := nI 2) dX11_become_33 (pc' := 34) rfl (by decide) ?_
  refine gk_iaddN dX11_become_34 (pc' := 35) rfl ?_
  refine gk_iload4 dX11_become_35 (pc' := 37) rfl ?_
  refine gk_iast (t0 := 0) rfl dX11_become_37 (pc' := 38) rfl (by exact (mkA1)) (vp_in_nI (by omega) (by decide)) ?_
  rw [nI_clamp (by omega), mkS1]
  refine gk_iconst (v := 0) dX11_become_38 (pc' := 39) rfl (by decide) ?_
  refine gk_istore5 dX11_become_39 (pc' := 41) rfl (by decide) rfl ?_
  rw [uA_s, uA_u, uA_s, uA_u, bcI_0]
  exact q
theorem lp_Mo_undo {n0 : Nat} (hn : n0 ≤ 16) (hz : Z 0 = nI n0) (hQ : ∀ l1, G (kx X) mt_Mo_undo (d + 1) b 46 [some (.ref m), l1] [] (mkH X h0 m (uA A 2 (bgI (A 1) n0 (A 2) 3608)) Z) Q) : ∀ n i, i + n = 3608 → G (kx X) mt_Mo_undo (d + 1) b 12 [some (.ref m), some (.int (nI i))] [] (mkH X h0 m (uA A 2 (bgI (A 1) n0 (A 2) i)) Z) Q := by
  intro n
  induction n with
  | zero =>
    intro i hi
    have e : i = 3608 := by omega
    subst e
    refine gk_iload1 dX11_undo_12 (pc' := 13) rfl ?_
    refine gk_sipush (v := 3608) dX11_undo_13 (pc' := 16) rfl (by decide) ?_
    refine gk_icmp_ge dX11_undo_16 (tgt := 46) (pc' := 19) (by decide) rfl (fun c16 => ?_) (fun c16 => absurd (by decide) c16)
    exact hQ _
  | succ n ih =>
    intro i hi
    refine gk_iload1 dX11_undo_12 (pc' := 13) rfl ?_
    refine gk_sipush (v := 3608) dX11_undo_13 (pc' := 16) rfl (by decide) ?_
    refine gk_icmp_ge dX11_undo_16 (tgt := 46) (pc' := 19) (by decide) rfl (fun c16 => absurd c16 (nI_ge (b := 3608) (by omega) (by omega))) (fun c16 => ?_)
    refine gk_aload0 dX11_undo_19 (pc' := 20) rfl ?_
    refine gk_getf (fs := [_, _, _, _, _, _, _, _, _, _, _, _, _, _, _, _, _, _, _, _, _, _, _, _, _, _]) gF_Mo_14 dX11_undo_20 (pc' := 23) rfl (by exact (mkJ)) rfl ?_
    refine gk_sipush (v := nI 3608) dX11_undo_23 (pc' := 26) rfl (by decide) ?_
    refine gk_aload0 dX11_undo_26 (pc' := 27) rfl ?_
    refine gk_getf (fs := [_, _, _, _, _, _, _, _, _, _, _, _, _, _, _, _, _, _, _, _, _, _, _, _, _, _]) gF_Mo_88 dX11_undo_27 (pc' := 30) rfl (by exact (mkJ)) rfl ?_
    rw [hz]
    refine gk_imulN dX11_undo_30 (pc' := 31) rfl ?_
    refine gk_iload1 dX11_undo_31 (pc' := 32) rfl ?_
    refine gk_iaddN dX11_undo_32 (pc' := 33) rfl ?_
    refine gk_aload0 dX11_undo_33 (pc' := 34) rfl ?_
    refine gk_getf (fs := [_, _, _, _, _, _, _, _, _, _, _, _, _, _, _, _, _, _, _, _, _, _, _, _, _, _]) gF_Mo_7 dX11_undo_34 (pc' := 37) rfl (by exact (mkJ)) rfl ?_
    refine gk_iload1 dX11_undo_37 (pc' := 38) rfl ?_
    refine gk_iald (t0 := 0) rfl dX11_undo_38 (pc' := 39) rfl (by exact (mkA1)) (vp_in_nI (by omega) (by decide)) ?_
    rw [nI_clamp (by omega)]
    refine gk_iast (t0 := 0) rfl dX11_undo_39 (pc' := 40) rfl (by exact (mkA2)) (vp_in_nI (by omega) (by decide)) ?_
    rw [nI_clamp (by omega), mkS2]
    refine gk_iinc1 (v := 1) dX11_undo_40 (pc' := 43) rfl (by decide) (by decide) rfl ?_
    refine gk_goto dX11_undo_43 (tgt := 12) (by decide) ?_
    rw [← nI_succ, uA_s, uA_n (show 1 ≠ 2 by decide), uA_u, bgI_s]
    exact ih (i + 1) (by omega)
theorem mo_undo (hM : Mod X h m S) (hw : wfS S) (hQ : ∀ h', Mod X h' m (oUndo S).2 → frO m h h' → Q (some (.int (oUndo S).1)) h') : Gm (kx X) mt_Mo_undo (d + 10) b [.ref m] h Q := by
  obtain ⟨h0, A, Z, rfl, hS⟩ := hM
  have hE : ∀ a S' A' Z', oUndo S = (a, S') → MoS A' Z' S' → Q (some (.int a)) (mkH X h0 m A' Z') := fun a S' A' Z' e h1 => by
    have q := hQ (mkH X h0 m A' Z')
    rw [e] at q
    exact q ⟨h0, A', Z', rfl, h1⟩ mk_fr
  have w1 := hw.1.1
  have w2 := hw.1.2.1
  have hS0 := hS
  obtain ⟨s1, s2, ⟨s3, s4, s5, s6⟩, s7, s8⟩ := hS
  refine Gm.enter (L := [some (.ref m), none]) (by decide) (fun _ => trivial) (Nat.le_of_ble_eq_true rfl) rfl ?_
  by_cases hn : S.1.2.1 = 0
  · refine gk_aload0 dX11_undo_0 (pc' := 1) rfl ?_
    refine gk_getf (fs := [_, _, _, _, _, _, _, _, _, _, _, _, _, _, _, _, _, _, _, _, _, _, _, _, _, _]) gF_Mo_88 dX11_undo_1 (pc' := 4) rfl (by exact (mkJ)) rfl ?_
    rw [s3, hn]
    refine gk_if_ne dX11_undo_4 (tgt := 10) (pc' := 7) (by decide) rfl (fun c4 => absurd rfl c4) (fun c4 => ?_)
    refine gk_ldc dX11_undo_7 (pc' := 9) rfl gw_869 ?_
    refine gk_iret dX11_undo_9 rfl (hE _ S A Z (if_pos hn) hS0)
  · have q := lp_Mo_undo (X := X) (h0 := h0) (m := m) (A := A) (Z := Z) (d := d + 9) (b := b) (Q := Q) (n0 := S.1.2.1) (by omega) s3 (fun l1 => by
      refine gk_aload0 dX11_undo_46 (pc' := 47) rfl ?_
      refine gk_dup dX11_undo_47 (pc' := 48) rfl rfl ?_
      refine gk_getf (fs := [_, _, _, _, _, _, _, _, _, _, _, _, _, _, _, _, _, _, _, _, _, _, _, _, _, _]) gF_Mo_88 dX11_undo_48 (pc' := 51) rfl (by exact (mkJ)) rfl ?_
      rw [s3]
      refine gk_iconst (v := nI 1) dX11_undo_51 (pc' := 52) rfl (by decide) ?_
      refine gk_isubN dX11_undo_52 (pc' := 53) rfl (by omega) ?_
      refine gk_putf (fs := [_, _, _, _, _, _, _, _, _, _, _, _, _, _, _, _, _, _, _, _, _, _, _, _, _, _]) gP_Mo_88 dX11_undo_53 (pc' := 56) rfl (by exact (mkJ)) rfl rfl (Nat.le_of_ble_eq_true rfl) ?_
      rw [mkP0]
      refine gk_aload0 dX11_undo_56 (pc' := 57) rfl ?_
      refine gk_aload0 dX11_undo_57 (pc' := 58) rfl ?_
      refine gk_getf (fs := [_, _, _, _, _, _, _, _, _, _, _, _, _, _, _, _, _, _, _, _, _, _, _, _, _, _]) gF_Mo_88 dX11_undo_58 (pc' := 61) rfl (by exact (mkJ)) rfl ?_
      rw [pk_us]
      refine gk_cV0_1 mv_Mo_load gw_870 dX11_undo_61 (pc' := 64) rfl (Nat.le_of_ble_eq_true rfl) (by exact (mkJ)) (sp_Mo_load (by omega) ?_)
      refine ⟨rfl, ?_⟩
      refine gk_iconst (v := 1) dX11_undo_64 (pc' := 65) rfl (by decide) ?_
      refine gk_iret dX11_undo_65 rfl (hE _ (gotoH S.1 (S.1.2.1 - 1), S.2) _ _ (if_neg hn) ?_)
      refine ⟨?_, fun j hj hc => ?_, ⟨?_, ?_, ?_, ?_⟩, fun i hi => ?_, fun i hi => ?_⟩
      · show wRow (uA _ 1 _ 1) 0 (S.1.1 (S.1.2.1 - 1))
        rw [uA_s]
        refine (s2 (S.1.2.1 - 1) (by omega) (by omega)).to (hw.1.2.2.2.2 _ (by omega)) (fun i hi => ?_)
        unfold ldI
        rw [Nat.zero_add, if_pos (by omega), uA_s]
        unfold bgI
        rw [if_neg (by omega)]
      · show wRow (uA _ 1 _ 2) (3608 * j) (S.1.1 j)
        rw [uA_n (by decide), uA_s]
        have hj : j ≤ S.1.2.2.1 := hj
        by_cases e : j = S.1.2.1
        · subst e
          refine s1.to hw.1.cu (fun i hi => ?_)
          unfold bgI
          rw [if_pos (by omega), Nat.zero_add, Nat.add_sub_cancel_left]
        · refine (s2 j hj (by omega)).to (hw.1.2.2.2.2 j hj) (fun i hi => ?_)
          unfold bgI
          rw [if_neg (by omega)]
      · exact pk_us
      · rw [pk_un (by decide)]; exact s4
      · rw [pk_un (by decide)]; exact s5
      · rw [pk_un (by decide)]; exact s6
      · exact s7 i hi
      · exact s8 i hi
      ) 3608 0 (by omega)
    rw [bgI_0, uA_i] at q
    refine gk_aload0 dX11_undo_0 (pc' := 1) rfl ?_
    refine gk_getf (fs := [_, _, _, _, _, _, _, _, _, _, _, _, _, _, _, _, _, _, _, _, _, _, _, _, _, _]) gF_Mo_88 dX11_undo_1 (pc' := 4) rfl (by exact (mkJ)) rfl ?_
    rw [s3]
    refine gk_if_ne dX11_undo_4 (tgt := 10) (pc' := 7) (by decide) rfl (fun c4 => ?_) (fun c4 => absurd ((nI_eq (b := 0) (by omega) (by omega)).mp c4) hn)
    refine gk_iconst (v := 0) dX11_undo_10 (pc' := 11) rfl (by decide) ?_
    refine gk_istore1 dX11_undo_11 (pc' := 12) rfl (by decide) rfl ?_
    exact q
theorem mo_redo (hM : Mod X h m S) (hw : wfS S) (hQ : ∀ h', Mod X h' m (oRedo S).2 → frO m h h' → Q (some (.int (oRedo S).1)) h') : Gm (kx X) mt_Mo_redo (d + 10) b [.ref m] h Q := by
  obtain ⟨h0, A, Z, rfl, hS⟩ := hM
  have hE : ∀ a S' A' Z', oRedo S = (a, S') → MoS A' Z' S' → Q (some (.int a)) (mkH X h0 m A' Z') := fun a S' A' Z' e h1 => by
    have q := hQ (mkH X h0 m A' Z')
    rw [e] at q
    exact q ⟨h0, A', Z', rfl, h1⟩ mk_fr
  have w1 := hw.1.1
  have w2 := hw.1.2.1
  have hS0 := hS
  obtain ⟨s1, s2, ⟨s3, s4, s5, s6⟩, s7, s8⟩ := hS
  refine Gm.enter (L := [some (.ref m)]) (by decide) (fun _ => trivial) (Nat.le_of_ble_eq_true rfl) rfl ?_
  refine gk_aload0 dX11_redo_0 (pc' := 1) rfl ?_
  refine gk_getf (fs := [_, _, _, _, _, _, _, _, _, _, _, _, _, _, _, _, _, _, _, _, _, _, _, _, _, _]) gF_Mo_88 dX11_redo_1 (pc' := 4) rfl (by exact (mkJ)) rfl ?_
  rw [s3]
  refine gk_aload0 dX11_redo_4 (pc' := 5) rfl ?_
  refine gk_getf (fs := [_, _, _, _, _, _, _, _, _, _, _, _, _, _, _, _, _, _, _, _, _, _, _, _, _, _]) gF_Mo_93 dX11_redo_5 (pc' := 8) rfl (by exact (mkJ)) rfl ?_
  rw [s4]
  refine gk_icmp_ne dX11_redo_8 (tgt := 14) (pc' := 11) (by decide) rfl (fun c8 => ?_) (fun c8 => ?_)
  · have hn : ¬ S.1.2.1 = S.1.2.2.1 := fun e => c8 (by rw [e])
    refine gk_aload0 dX11_redo_14 (pc' := 15) rfl ?_
    refine gk_dup dX11_redo_15 (pc' := 16) rfl rfl ?_
    refine gk_getf (fs := [_, _, _, _, _, _, _, _, _, _, _, _, _, _, _, _, _, _, _, _, _, _, _, _, _, _]) gF_Mo_88 dX11_redo_16 (pc' := 19) rfl (by exact (mkJ)) rfl ?_
    rw [s3]
    refine gk_iconst (v := nI 1) dX11_redo_19 (pc' := 20) rfl (by decide) ?_
    refine gk_iaddN dX11_redo_20 (pc' := 21) rfl ?_
    refine gk_putf (fs := [_, _, _, _, _, _, _, _, _, _, _, _, _, _, _, _, _, _, _, _, _, _, _, _, _, _]) gP_Mo_88 dX11_redo_21 (pc' := 24) rfl (by exact (mkJ)) rfl rfl (Nat.le_of_ble_eq_true rfl) ?_
    rw [mkP0]
    refine gk_aload0 dX11_redo_24 (pc' := 25) rfl ?_
    refine gk_aload0 dX11_redo_25 (pc' := 26) rfl ?_
    refine gk_getf (fs := [_, _, _, _, _, _, _, _, _, _, _, _, _, _, _, _, _, _, _, _, _, _, _, _, _, _]) gF_Mo_88 dX11_redo_26 (pc' := 29) rfl (by exact (mkJ)) rfl ?_
    rw [pk_us]
    refine gk_cV0_1 mv_Mo_load gw_870 dX11_redo_29 (pc' := 32) rfl (Nat.le_of_ble_eq_true rfl) (by exact (mkJ)) (sp_Mo_load (by omega) ?_)
    refine ⟨rfl, ?_⟩
    refine gk_iconst (v := 1) dX11_redo_32 (pc' := 33) rfl (by decide) ?_
    refine gk_iret dX11_redo_33 rfl (hE _ (gotoH S.1 (S.1.2.1 + 1), S.2) _ _ (if_neg hn) ?_)
    refine ⟨?_, fun j hj hc => ?_, ⟨?_, ?_, ?_, ?_⟩, fun i hi => ?_, fun i hi => ?_⟩
    · show wRow (uA _ 1 _ 1) 0 (S.1.1 (S.1.2.1 + 1))
      rw [uA_s]
      refine (s2 (S.1.2.1 + 1) (by omega) (by omega)).to (hw.1.2.2.2.2 _ (by omega)) (fun i hi => ?_)
      unfold ldI
      rw [Nat.zero_add, if_pos (by omega)]
    · show wRow (uA _ 1 _ 2) (3608 * j) (S.1.1 j)
      rw [uA_n (by decide)]
      have hj : j ≤ S.1.2.2.1 := hj
      exact s2 j hj (by omega)
    · exact pk_us
    · rw [pk_un (by decide)]; exact s4
    · rw [pk_un (by decide)]; exact s5
    · rw [pk_un (by decide)]; exact s6
    · exact s7 i hi
    · exact s8 i hi
  · have hn : S.1.2.1 = S.1.2.2.1 := nI_inj (by omega) (by omega) c8
    refine gk_ldc dX11_redo_11 (pc' := 13) rfl gw_869 ?_
    refine gk_iret dX11_redo_13 rfl (hE _ S A Z (if_pos hn) hS0)
end MoD
