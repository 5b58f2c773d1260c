/-! ===== the calls: feed, about, convert, cut, turn ===== -/
/-- the m places from s on become V 0, V 1 .. -/
def fdF (p : Nat → Int32) (s m : Nat) (V : Nat → Int32) : Nat → Int32 := fun j => if s ≤ j ∧ j < s + m then V (j - s) else p j
theorem fdF_0 {p V : Nat → Int32} {s : Nat} : fdF p s 0 V = p := funext fun j => if_neg (by omega)
theorem fdF_s {p V : Nat → Int32} {s i : Nat} {v : Int32} (hv : v = V i) : upd (fdF p s i V) (s + i) v = fdF p s (i + 1) V := funext fun j => by
  by_cases e : j = s + i
  · subst e
    rw [pk_us, hv]
    unfold fdF
    rw [if_pos (by omega), show s + i - s = i by omega]
  · rw [pk_un e]
    unfold fdF
    by_cases q : s ≤ j ∧ j < s + i
    · rw [if_pos q, if_pos (by omega)]
    · rw [if_neg q, if_neg (by omega)]
def fdV (k : Int32) (lw : Int64) (i : Nat) : Int32 := if k = 1 then (lw >>> ((16 * nI i).toInt64 &&& 63)).toInt32.toInt16.toInt32 else (lw >>> ((8 * nI i).toInt64 &&& 63)).toInt32 &&& 255
theorem and255 (x : Int32) : 0 ≤ (x &&& 255).toInt ∧ (x &&& 255).toInt ≤ 255 := by
  have e : (x &&& 255).toBitVec.toNat ≤ 255 := by
    show (x.toBitVec &&& 255#32).toNat ≤ 255
    rw [BitVec.toNat_and]
    exact Nat.and_le_right
  have e2 : (x &&& 255).toInt = ((x &&& 255).toBitVec.toNat : Int) := by
    show (x &&& 255).toBitVec.toInt = _
    rw [BitVec.toInt_eq_toNat_cond, if_pos (by omega)]
  omega
theorem i16r (x : Int16) : -32768 ≤ x.toInt32.toInt ∧ x.toInt32.toInt ≤ 32767 := by
  have e : x.toInt32.toInt = x.toInt := Int16.toInt_toInt32 x
  have h1 := Int16.le_toInt x
  have h2 := Int16.toInt_lt x
  omega
theorem inK_1 {v : Int32} (h : -32768 ≤ v.toInt ∧ v.toInt ≤ 32767) : inK 1 v := h
theorem inK_b {v : Int32} (h : 0 ≤ v.toInt ∧ v.toInt ≤ 255) : inK 0 v := h
theorem fdV_in {k : Int32} {lw : Int64} {i : Nat} (hk : k = 0 ∨ k = 1) : inK k (fdV k lw i) := by
  rcases hk with rfl | rfl
  · exact inK_b (and255 _)
  · exact inK_1 (i16r _)
def fdM (k n : Int32) : Nat := if k = 1 then n.toInt.toNat / 2 else n.toInt.toNat
def oFeed (S : St) (p x y : Int32) (lw : Int64) (n : Int32) : Int32 × St := if iR 0 7 p ∧ hasP (pcS S p) x y ∧ iR 1 8 n ∧ ¬ ((pcS S p).1 = 1 ∧ n.toInt.toNat % 2 = 1) then (if y.toInt.toNat * (pcS S p).2.1 + x.toInt.toNat + fdM (pcS S p).1 n ≤ (pcS S p).2.1 * (pcS S p).2.2.1 then (nI (fdM (pcS S p).1 n), kP S p.toInt.toNat ((pcS S p).1, (pcS S p).2.1, (pcS S p).2.2.1, fdF (pcS S p).2.2.2 (y.toInt.toNat * (pcS S p).2.1 + x.toInt.toNat) (fdM (pcS S p).1 n) (fdV (pcS S p).1 lw))) else (-100002, S)) else (-100001, S)
abbrev trA (pc : Nat → Nat) (c : Nat) : Prop := c = pc 8 ∨ c = pc 8 + 1
section OpC
variable {X : gX} {d : Nat} {b : Nat × Nat} {h : gk_H} {Q : Option Value → gk_H → Prop} {r F0 : Nat} {S : St} {pc mc : Nat → Nat}
theorem lp_feed {h0 : gk_H} {lp l2 l3 l6 l7 : Option Value} {lw : Int64} {sh k : Int32} {m s w t : Nat} {p0 : Nat → Int32} (hs : Rs X h0 r F0 S pc mc) (e1 : sh = 0 → ¬ k = 1) (e2 : ¬ sh = 0 → k = 1) (hm : s + m ≤ 256) (hQ : ∀ h, isPic X h (pc 8) k w t (fdF p0 s m (fdV k lw)) → fr (trA pc) h0 h → ∀ l11, G (kx X) mt_Room_feed (d + 4) b 183 [some (.ref r), lp, l2, l3, some (.long lw), none, l6, l7, some (.int sh), some (.int (nI m)), some (.int (nI s)), l11] [] h Q) :
    ∀ f i h, i + f = m → isPic X h (pc 8) k w t (fdF p0 s i (fdV k lw)) → fr (trA pc) h0 h → G (kx X) mt_Room_feed (d + 4) b 127 [some (.ref r), lp, l2, l3, some (.long lw), none, l6, l7, some (.int sh), some (.int (nI m)), some (.int (nI s)), some (.int (nI i))] [] h Q := by
  intro f
  induction f with
  | zero =>
    intro i h hi hp hf
    refine gk_iload11 dX10_feed_127 (pc' := 129) rfl ?_
    refine gk_iload9 dX10_feed_129 (pc' := 131) rfl ?_
    refine gk_icmp_ge dX10_feed_131 (tgt := 183) (pc' := 134) (by decide) rfl (fun c131 => ?_) (fun c131 => absurd (nI_le (by omega) (by omega)) c131)
    rw [show i = m by omega] at hp
    exact hQ h hp hf _
  | succ f ih =>
    intro i h hi hp hf
    have a1 := (hs.tray hf (fun c z => z)).2.1.obj
    refine gk_iload11 dX10_feed_127 (pc' := 129) rfl ?_
    refine gk_iload9 dX10_feed_129 (pc' := 131) rfl ?_
    refine gk_icmp_ge dX10_feed_131 (tgt := 183) (pc' := 134) (by decide) rfl (fun c131 => absurd c131 (nI_ge (by omega) (by omega))) (fun c131 => ?_)
    refine gk_aload0 dX10_feed_134 (pc' := 135) rfl ?_
    refine gk_getf (fs := [_, _, _, _, _, _, _, _, _, _, _, _]) gF_Room_32 dX10_feed_135 (pc' := 138) rfl (by assumption) rfl ?_
    refine gk_iload10 dX10_feed_138 (pc' := 140) rfl ?_
    refine gk_iload11 dX10_feed_140 (pc' := 142) rfl ?_
    refine gk_iadd dX10_feed_142 (pc' := 143) rfl ?_
    rw [nI_add]
    refine gk_iload8 dX10_feed_143 (pc' := 145) rfl ?_
    refine gk_if_eq dX10_feed_145 (tgt := 161) (pc' := 148) (by decide) rfl (fun c145 => ?_) (fun c145 => ?_)
    · refine gk_lload4 dX10_feed_161 (pc' := 163) rfl ?_
      refine gk_bipush (v := 8) dX10_feed_163 (pc' := 165) rfl (by decide) ?_
      refine gk_iload11 dX10_feed_165 (pc' := 167) rfl ?_
      refine gk_imul dX10_feed_167 (pc' := 168) rfl ?_
      refine gk_lshr dX10_feed_168 (pc' := 169) rfl ?_
      refine gk_l2i dX10_feed_169 (pc' := 170) rfl ?_
      refine gk_sipush (v := 255) dX10_feed_170 (pc' := 173) rfl (by decide) ?_
      refine gk_iand dX10_feed_173 (pc' := 174) rfl ?_
      refine gk_cV0_2 mv_Picture_set gw_314 dX10_feed_174 (pc' := 177) rfl (Nat.le_of_ble_eq_true rfl) (by exact (hp.o)) (sp_Picture_set hp (by omega) (fun h' q1 q2 => ?_))
      refine ⟨rfl, ?_⟩
      refine gk_iinc11 (v := 1) dX10_feed_177 (pc' := 180) rfl (by decide) (by decide) rfl ?_
      refine gk_goto dX10_feed_180 (tgt := 127) (by decide) ?_
      rw [← nI_succ]
      refine ih (i + 1) h' (by omega) ?_ (hf.trans q2 (fun _ z => z) (fun _ z => Or.inr z))
      first | (rw [fdF_s (by unfold fdV; rw [if_neg (e1 c145)])] at q1; exact q1) | (rw [fdF_s (by unfold fdV; rw [if_pos (e2 c145)])] at q1; exact q1)
    · refine gk_lload4 dX10_feed_148 (pc' := 150) rfl ?_
      refine gk_bipush (v := 16) dX10_feed_150 (pc' := 152) rfl (by decide) ?_
      refine gk_iload11 dX10_feed_152 (pc' := 154) rfl ?_
      refine gk_imul dX10_feed_154 (pc' := 155) rfl ?_
      refine gk_lshr dX10_feed_155 (pc' := 156) rfl ?_
      refine gk_l2i dX10_feed_156 (pc' := 157) rfl ?_
      refine gk_i2s dX10_feed_157 (pc' := 158) rfl ?_
      refine gk_goto dX10_feed_158 (tgt := 174) (by decide) ?_
      refine gk_cV0_2 mv_Picture_set gw_314 dX10_feed_174 (pc' := 177) rfl (Nat.le_of_ble_eq_true rfl) (by exact (hp.o)) (sp_Picture_set hp (by omega) (fun h' q1 q2 => ?_))
      refine ⟨rfl, ?_⟩
      refine gk_iinc11 (v := 1) dX10_feed_177 (pc' := 180) rfl (by decide) (by decide) rfl ?_
      refine gk_goto dX10_feed_180 (tgt := 127) (by decide) ?_
      rw [← nI_succ]
      refine ih (i + 1) h' (by omega) ?_ (hf.trans q2 (fun _ z => z) (fun _ z => Or.inr z))
      first | (rw [fdF_s (by unfold fdV; rw [if_neg (e1 c145)])] at q1; exact q1) | (rw [fdF_s (by unfold fdV; rw [if_pos (e2 c145)])] at q1; exact q1)
theorem fin_feed {h0 : gk_H} {p : Nat} {c : Pc} {v : Int32} {l2 l3 l4 l5 l6 l7 l8 l10 l11 : Option Value} (hs : Rs X h0 r F0 S pc mc) (ht : isPc X h (pc 8) c) (hf : fr (trA pc) h0 h) (hok : okP c) (hp : p < 8) (hQ : ∀ h', Room X h' r F0 (kP S p c) → frC r F0 h0 h' → Q (some (.int v)) h') : G (kx X) mt_Room_feed (d + 4) b 183 [some (.ref r), some (.int (nI p)), l2, l3, l4, l5, l6, l7, l8, some (.int v), l10, l11] [] h Q := by
  have hs1 := hs.tray hf (fun c z => z)
  have a1 := hs1.2.1.obj
  refine gk_aload0 dX10_feed_183 (pc' := 184) rfl ?_
  refine gk_iload1 dX10_feed_184 (pc' := 185) rfl ?_
  refine gk_cV0_1 mv_Room_keepPicture gw_262 dX10_feed_185 (pc' := 188) rfl (Nat.le_of_ble_eq_true rfl) (by assumption) (sp_keepP hs1 ht hok hp (fun h3 z3 z4 => ?_))
  refine ⟨rfl, ?_⟩
  refine gk_iload9 dX10_feed_188 (pc' := 190) rfl ?_
  refine gk_iret dX10_feed_190 rfl (hQ h3 z3 ((hs.trayC hf (fun c z => z)).trans z4))
theorem cl_feed {p x y n : Int32} {lw : Int64} (hR : Room X h r F0 S) (hQ : ∀ h', Room X h' r F0 (oFeed S p x y lw n).2 → frC r F0 h h' → Q (some (.int (oFeed S p x y lw n).1)) h') : Gm (kx X) mt_Room_feed (d + 4) b [.ref r, .int p, .int x, .int y, .long lw, .int n] h Q := by
  have hB : ∀ a, oFeed S p x y lw n = (a, S) → Q (some (.int a)) h := fun a e => by
    have q := hQ h
    rw [e] at q
    exact q hR frC.rf
  obtain ⟨hF, pc, mc, hm, ⟨c8, ht⟩, hrest⟩ := hR
  have hs : Rs X h r F0 S pc mc := ⟨hF, hm, hrest⟩
  have a1 := hm.obj
  obtain ⟨f1, a2, a3⟩ := hm.prow
  have z1 : (1 : Int32).toInt = 1 := rfl
  have z8 : (8 : Int32).toInt = 8 := rfl
  have tail : ∀ j1 i j jn m sh, j1 < 8 → p = nI j1 → x = nI i → y = nI j → n = nI jn → i < (pcS S p).2.1 → j < (pcS S p).2.2.1 → 1 ≤ jn → jn ≤ 8 → (sh = 0 → ¬ (pcS S p).1 = 1) → (¬ sh = 0 → (pcS S p).1 = 1) → ¬ ((pcS S p).1 = 1 ∧ jn % 2 = 1) → m = fdM (pcS S p).1 n → G (kx X) mt_Room_feed (d + 4) b 90 [some (.ref r), some (.int p), some (.int x), some (.int y), some (.long lw), none, some (.int n), some (.ref (pc j1)), some (.int sh), some (.int (nI m)), none, none] [] h Q := by
    intro j1 i j jn m sh hj1 ep ex ey en hi hj g1 g2 g3 g4 g5 em
    subst ep ex ey en
    have hp1 := picS hm hj1
    have ok1 := okpS hm hj1
    have ap1 := hm.ap hj1
    have u1 := hp1.1
    have u2 := hp1.2.1
    have zj1 : (nI j1).toInt = j1 := nI_toInt (by omega)
    have yj1 : (nI j1).toInt.toNat = j1 := by omega
    have zi : (nI i).toInt = i := nI_toInt (by omega)
    have zj : (nI j).toInt = j := nI_toInt (by omega)
    have zn : (nI jn).toInt = jn := nI_toInt (by omega)
    have yi : (nI i).toInt.toNat = i := by omega
    have yj : (nI j).toInt.toNat = j := by omega
    have yn : (nI jn).toInt.toNat = jn := by omega
    have ho := ok1.has (by omega)
    have pl := place_lt hi hj
    have ar := area_le u1 u2
    have hm8 : m ≤ 8 := by rw [em]; unfold fdM; split <;> omega
    have c0 : iR 0 7 (nI j1) ∧ hasP (pcS S (nI j1)) (nI i) (nI j) ∧ iR 1 8 (nI jn) ∧ ¬ ((pcS S (nI j1)).1 = 1 ∧ (nI jn).toInt.toNat % 2 = 1) := ⟨by omega, by omega, by omega, by rw [yn]; exact g5⟩
    refine gk_aload7 dX10_feed_90 (pc' := 92) rfl ?_
    refine gk_iload2 dX10_feed_92 (pc' := 93) rfl ?_
    refine gk_iload3 dX10_feed_93 (pc' := 94) rfl ?_
    refine gk_cV1_2 mv_Picture_place gw_298 dX10_feed_94 (pc' := 97) rfl (Nat.le_of_ble_eq_true rfl) (by exact (hp1.o)) (sp_Picture_placeN hp1 ?_)
    refine ⟨_, rfl, ?_⟩
    refine gk_istore10 dX10_feed_97 (pc' := 99) rfl (by decide) rfl ?_
    refine gk_iload10 dX10_feed_99 (pc' := 101) rfl ?_
    refine gk_iload9 dX10_feed_101 (pc' := 103) rfl ?_
    refine gk_iadd dX10_feed_103 (pc' := 104) rfl ?_
    rw [nI_add]
    refine gk_aload7 dX10_feed_104 (pc' := 106) rfl ?_
    refine gk_cV1_0 mv_Picture_area gw_322 dX10_feed_106 (pc' := 109) rfl (Nat.le_of_ble_eq_true rfl) (by exact (hp1.o)) (sp_Picture_area hp1 ?_)
    refine ⟨_, rfl, ?_⟩
    refine gk_icmp_le dX10_feed_109 (tgt := 115) (pc' := 112) (by decide) rfl (fun c109 => ?_) (fun c109 => ?_)
    · have q9 : j * (pcS S (nI j1)).2.1 + i + m ≤ (pcS S (nI j1)).2.1 * (pcS S (nI j1)).2.2.1 := by rw [pu_le, nI_toInt (by omega), nI_toInt (by omega)] at c109; omega
      refine gk_aload0 dX10_feed_115 (pc' := 116) rfl ?_
      refine gk_getf (fs := [_, _, _, _, _, _, _, _, _, _, _, _]) gF_Room_32 dX10_feed_116 (pc' := 119) rfl (by assumption) rfl ?_
      refine gk_aload7 dX10_feed_119 (pc' := 121) rfl ?_
      refine gk_cV0_1 mv_Picture_copyFrom gw_306 dX10_feed_121 (pc' := 124) rfl (Nat.le_of_ble_eq_true rfl) (by exact (ht.o)) (sp_Picture_copyFrom ht hp1 (by omega) (by omega) (by omega) (fun h1 y1 y2 => ?_))
      refine ⟨rfl, ?_⟩
      refine gk_iconst (v := 0) dX10_feed_124 (pc' := 125) rfl (by decide) ?_
      refine gk_istore11 dX10_feed_125 (pc' := 127) rfl (by decide) rfl ?_
      refine lp_feed hs g3 g4 (by omega) (fun h2 y3 y4 l11 => ?_) m 0 h1 (by omega) (by rw [fdF_0]; exact y1) y2
      have hok : okP ((pcS S (nI j1)).1, (pcS S (nI j1)).2.1, (pcS S (nI j1)).2.2.1, fdF (pcS S (nI j1)).2.2.2 (j * (pcS S (nI j1)).2.1 + i) m (fdV (pcS S (nI j1)).1 lw)) := Or.inr ⟨ho.1, ho.2.1, ho.2.2.1, fun q hq => by
        show inK _ (fdF (pcS S (nI j1)).2.2.2 (j * (pcS S (nI j1)).2.1 + i) m (fdV (pcS S (nI j1)).1 lw) q)
        unfold fdF
        split
        · exact fdV_in ho.1
        · exact ho.2.2.2 q hq⟩
      have he : oFeed S (nI j1) (nI i) (nI j) lw (nI jn) = (nI m, kP S j1 ((pcS S (nI j1)).1, (pcS S (nI j1)).2.1, (pcS S (nI j1)).2.2.1, fdF (pcS S (nI j1)).2.2.2 (j * (pcS S (nI j1)).2.1 + i) m (fdV (pcS S (nI j1)).1 lw))) := (if_pos c0).trans ((if_pos (by rw [yi, yj, ← em]; exact q9)).trans (by rw [yi, yj, yj1, ← em]))
      exact fin_feed hs y3 y4 hok hj1 (fun h3 z3 z4 => by have q := hQ h3; rw [he] at q; exact q z3 z4)
    · have q9 : ¬ j * (pcS S (nI j1)).2.1 + i + m ≤ (pcS S (nI j1)).2.1 * (pcS S (nI j1)).2.2.1 := fun q => c109 (pu_le.mpr (by rw [nI_toInt (by omega), nI_toInt (by omega)]; omega))
      refine gk_ldc dX10_feed_112 (pc' := 114) rfl gw_297 ?_
      refine gk_iret dX10_feed_114 rfl (hB _ ((if_pos c0).trans (if_neg (by rw [yi, yj, ← em]; exact q9))))
  refine Gm.enter (L := [some (.ref r), some (.int p), some (.int x), some (.int y), some (.long lw), none, some (.int n), none, none, none, none, none]) (by decide) (fun _ => trivial) (Nat.le_of_ble_eq_true rfl) rfl ?_
  refine gk_iload1 dX10_feed_0 (pc' := 1) rfl ?_
  refine gk_cS1_1 mz_Room_isPicture gw_237 dX10_feed_1 (pc' := 4) rfl (Nat.le_of_ble_eq_true rfl) (sp_Room_isPicture (fun j1 hj1 ej1 => ?_) (fun n1 => ?_))
  · refine ⟨_, rfl, ?_⟩
    subst ej1
    have zj1 : (nI j1).toInt = j1 := nI_toInt (by omega)
    have yj1 : (nI j1).toInt.toNat = j1 := by omega
    have hp1 := picS hm hj1
    have ok1 := okpS hm hj1
    have ap1 := hm.ap hj1
    refine gk_if_eq dX10_feed_4 (tgt := 32) (pc' := 7) (by decide) rfl (fun c => absurd c (by decide)) (fun _ => ?_)
    refine gk_aload0 dX10_feed_7 (pc' := 8) rfl ?_
    refine gk_getf (fs := [_, _, _, _, _, _, _, _, _, _, _, _]) gF_Room_11 dX10_feed_8 (pc' := 11) rfl (by assumption) rfl ?_
    refine gk_iload1 dX10_feed_11 (pc' := 12) rfl ?_
    refine gk_aald (t0 := 2) rfl dX10_feed_12 (pc' := 13) rfl (by exact (a2)) (vp_in_nI hj1 (by decide)) ?_
    rw [nI_clamp (by omega), a3 j1 hj1, show va_rf (some (pc j1)) = Value.ref (pc j1) from rfl]
    refine gk_iload2 dX10_feed_13 (pc' := 14) rfl ?_
    refine gk_iload3 dX10_feed_14 (pc' := 15) rfl ?_
    refine gk_cV1_2 mv_Picture_has gw_281 dX10_feed_15 (pc' := 18) rfl (Nat.le_of_ble_eq_true rfl) (by exact (hp1.o)) (sp_Picture_has hp1 (fun i j ei ej hi hj => ?_) (fun n15 => ?_))
    · refine ⟨_, rfl, ?_⟩
      subst ei ej
      have u1 := hp1.1
      have u2 := hp1.2.1
      have zi : (nI i).toInt = i := nI_toInt (by omega)
      have zj : (nI j).toInt = j := nI_toInt (by omega)
      refine gk_if_eq dX10_feed_18 (tgt := 32) (pc' := 21) (by decide) rfl (fun c => absurd c (by decide)) (fun _ => ?_)
      refine gk_iload6 dX10_feed_21 (pc' := 23) rfl ?_
      refine gk_iconst (v := 1) dX10_feed_23 (pc' := 24) rfl (by decide) ?_
      refine gk_bipush (v := 8) dX10_feed_24 (pc' := 26) rfl (by decide) ?_
      refine gk_cS1_3 mz_Room_within gw_240 dX10_feed_26 (pc' := 29) rfl (Nat.le_of_ble_eq_true rfl) (sp_Room_within (fun u26 v26 => ?_) (fun n26 => ?_))
      · refine ⟨_, rfl, ?_⟩
        obtain ⟨jn, hn9, rfl⟩ := pu_of (x := n) (n := 9) (by omega) (by omega) (by omega)
        have zn : (nI jn).toInt = jn := nI_toInt (by omega)
        have yn : (nI jn).toInt.toNat = jn := by omega
        refine gk_if_ne dX10_feed_29 (tgt := 35) (pc' := 32) (by decide) rfl (fun _ => ?_) (fun c => absurd c (by decide))
        refine gk_aload0 dX10_feed_35 (pc' := 36) rfl ?_
        refine gk_getf (fs := [_, _, _, _, _, _, _, _, _, _, _, _]) gF_Room_11 dX10_feed_36 (pc' := 39) rfl (by assumption) rfl ?_
        refine gk_iload1 dX10_feed_39 (pc' := 40) rfl ?_
        refine gk_aald (t0 := 2) rfl dX10_feed_40 (pc' := 41) rfl (by exact (a2)) (vp_in_nI hj1 (by decide)) ?_
        rw [nI_clamp (by omega), a3 j1 hj1, show va_rf (some (pc j1)) = Value.ref (pc j1) from rfl]
        refine gk_astore7 dX10_feed_41 (pc' := 43) rfl (by decide) rfl ?_
        refine gk_aload7 dX10_feed_43 (pc' := 45) rfl ?_
        refine gk_getf (fs := [_, _, _, _]) gF_Room_133 dX10_feed_45 (pc' := 48) rfl (by exact (hp1.o)) rfl ?_
        refine gk_iconst (v := 1) dX10_feed_48 (pc' := 49) rfl (by decide) ?_
        refine gk_icmp_ne dX10_feed_49 (tgt := 56) (pc' := 52) (by decide) rfl (fun c49 => ?_) (fun c49 => ?_)
        · have c49' : ¬ (pcS S (nI j1)).1 = 1 := c49
          refine gk_iconst (v := 0) dX10_feed_56 (pc' := 57) rfl (by decide) ?_
          refine gk_istore8 dX10_feed_57 (pc' := 59) rfl (by decide) rfl ?_
          refine gk_iload8 dX10_feed_59 (pc' := 61) rfl ?_
          refine gk_if_eq dX10_feed_61 (tgt := 74) (pc' := 64) (by decide) rfl (fun _ => ?_) (fun c => absurd c (by decide))
          refine gk_iload8 dX10_feed_74 (pc' := 76) rfl ?_
          refine gk_if_eq dX10_feed_76 (tgt := 86) (pc' := 79) (by decide) rfl (fun _ => ?_) (fun c => absurd c (by decide))
          refine gk_iload6 dX10_feed_86 (pc' := 88) rfl ?_
          refine gk_istore9 dX10_feed_88 (pc' := 90) rfl (by decide) rfl ?_
          exact tail j1 i j jn _ _ hj1 rfl rfl rfl rfl hi hj (by omega) (by omega) (by first | (intro z; exact c49') | (intro z; exact absurd z (by decide))) (by first | (intro z; exact c49') | (intro z; exact absurd rfl z)) (by first | exact fun z => q z.2 | exact fun z => c49' z.1) (by unfold fdM; rw [yn]; first | rw [if_pos c49'] | rw [if_neg c49'])
        · have c49' : (pcS S (nI j1)).1 = 1 := c49
          refine gk_iconst (v := 1) dX10_feed_52 (pc' := 53) rfl (by decide) ?_
          refine gk_goto dX10_feed_53 (tgt := 57) (by decide) ?_
          refine gk_istore8 dX10_feed_57 (pc' := 59) rfl (by decide) rfl ?_
          refine gk_iload8 dX10_feed_59 (pc' := 61) rfl ?_
          refine gk_if_eq dX10_feed_61 (tgt := 74) (pc' := 64) (by decide) rfl (fun c => absurd c (by decide)) (fun _ => ?_)
          refine gk_iload6 dX10_feed_64 (pc' := 66) rfl ?_
          refine gk_iconst (v := 2) dX10_feed_66 (pc' := 67) rfl (by decide) ?_
          refine gk_irem dX10_feed_67 (pc' := 68) rfl (by decide) ?_
          rw [show nI jn - nI jn / 2 * 2 = nI (jn % 2) from nI_mod (w := 2) (by omega) (by omega) (by omega)]
          refine gk_if_eq dX10_feed_68 (tgt := 74) (pc' := 71) (by decide) rfl (fun c68 => ?_) (fun c68 => ?_)
          · have q : ¬ jn % 2 = 1 := fun e => by rw [e] at c68; exact absurd c68 (by decide)
            refine gk_iload8 dX10_feed_74 (pc' := 76) rfl ?_
            refine gk_if_eq dX10_feed_76 (tgt := 86) (pc' := 79) (by decide) rfl (fun c => absurd c (by decide)) (fun _ => ?_)
            refine gk_iload6 dX10_feed_79 (pc' := 81) rfl ?_
            refine gk_iconst (v := 2) dX10_feed_81 (pc' := 82) rfl (by decide) ?_
            refine gk_idiv dX10_feed_82 (pc' := 83) rfl (by decide) ?_
            rw [show nI jn / 2 = nI (jn / 2) from nI_div (w := 2) (by omega) (by omega) (by omega)]
            refine gk_goto dX10_feed_83 (tgt := 88) (by decide) ?_
            refine gk_istore9 dX10_feed_88 (pc' := 90) rfl (by decide) rfl ?_
            exact tail j1 i j jn _ _ hj1 rfl rfl rfl rfl hi hj (by omega) (by omega) (by first | (intro z; exact c49') | (intro z; exact absurd z (by decide))) (by first | (intro z; exact c49') | (intro z; exact absurd rfl z)) (by first | exact fun z => q z.2 | exact fun z => c49' z.1) (by unfold fdM; rw [yn]; first | rw [if_pos c49'] | rw [if_neg c49'])
          · have q : jn % 2 = 1 := by rcases (show jn % 2 = 0 ∨ jn % 2 = 1 by omega) with e | e; rw [e] at c68; exact absurd rfl c68; exact e
            refine gk_ldc dX10_feed_71 (pc' := 73) rfl gw_243 ?_
            refine gk_iret dX10_feed_73 rfl (hB _ (if_neg (fun z => z.2.2.2 ⟨c49', by rw [yn]; exact q⟩)))
      · refine ⟨_, rfl, ?_⟩
        refine gk_if_ne dX10_feed_29 (tgt := 35) (pc' := 32) (by decide) rfl (fun c => absurd c (by decide)) (fun _ => ?_)
        refine gk_ldc dX10_feed_32 (pc' := 34) rfl gw_243 ?_
        refine gk_iret dX10_feed_34 rfl (hB _ (if_neg (fun z => by have := z.1; have := z.2.1; have := z.2.2.1; omega)))
    · refine ⟨_, rfl, ?_⟩
      refine gk_if_eq dX10_feed_18 (tgt := 32) (pc' := 21) (by decide) rfl (fun _ => ?_) (fun c => absurd c (by decide))
      refine gk_ldc dX10_feed_32 (pc' := 34) rfl gw_243 ?_
      refine gk_iret dX10_feed_34 rfl (hB _ (if_neg (fun z => by have := z.1; have := z.2.1; have := z.2.2.1; omega)))
  · refine ⟨_, rfl, ?_⟩
    refine gk_if_eq dX10_feed_4 (tgt := 32) (pc' := 7) (by decide) rfl (fun _ => ?_) (fun c => absurd c (by decide))
    refine gk_ldc dX10_feed_32 (pc' := 34) rfl gw_243 ?_
    refine gk_iret dX10_feed_34 rfl (hB _ (if_neg (fun z => by have := z.1; have := z.2.1; have := z.2.2.1; omega)))
theorem cl_about {p w : Int32} (hR : Room X h r F0 S) (hQ : ∀ h', Room X h' r F0 (oAbout S p w).2 → frC r F0 h h' → Q (some (.int (oAbout S p w).1)) h') : Gm (kx X) mt_Room_about (d + 4) b [.ref r, .int p, .int w] h Q := by
  have hB : ∀ a, oAbout S p w = (a, S) → Q (some (.int a)) h := fun a e => by
    have q := hQ h
    rw [e] at q
    exact q hR frC.rf
  obtain ⟨hF, pc, mc, hm, ⟨c8, ht⟩, hrest⟩ := hR
  have a1 := hm.obj
  obtain ⟨f1, a2, a3⟩ := hm.prow
  have z0 : (0 : Int32).toInt = 0 := rfl
  have z5 : (5 : Int32).toInt = 5 := rfl
  have tail : ∀ j1 j, j1 < 8 → p = nI j1 → w = nI j → j < 6 → ¬ (pcS S p).1 = -1 → G (kx X) mt_Room_about (d + 4) b 36 [some (.ref r), some (.int p), some (.int w), some (.ref (pc j1))] [] h Q := by
    intro j1 j hj1 ep ew hj hk
    subst ep ew
    have hp1 := picS hm hj1
    have zj1 : (nI j1).toInt = j1 := nI_toInt (by omega)
    have zj : (nI j).toInt = j := nI_toInt (by omega)
    have e0 : ∀ a, (if nI j = 0 then (pcS S (nI j1)).1 else if nI j = 1 then nI (pcS S (nI j1)).2.1 else if nI j = 2 then nI (pcS S (nI j1)).2.2.1 else if nI j = 3 then minP (hiK (pcS S (nI j1)).1) (pcS S (nI j1)).2.2.2 ((pcS S (nI j1)).2.1 * (pcS S (nI j1)).2.2.1) else if nI j = 4 then maxP (loK (pcS S (nI j1)).1) (pcS S (nI j1)).2.2.2 ((pcS S (nI j1)).2.1 * (pcS S (nI j1)).2.2.1) else sumP (pcS S (nI j1)).2.2.2 ((pcS S (nI j1)).2.1 * (pcS S (nI j1)).2.2.1)) = a → oAbout S (nI j1) (nI j) = (a, S) := fun a e => (if_pos (by omega)).trans ((if_neg hk).trans (by rw [e]))
    rcases (show j = 0 ∨ j = 1 ∨ j = 2 ∨ j = 3 ∨ j = 4 ∨ j = 5 by omega) with rfl | rfl | rfl | rfl | rfl | rfl
    · refine gk_iload2 dX10_about_36 (pc' := 37) rfl ?_
      refine gk_tableIn dX10_about_37 (tgt := 72) (off := 35) (by decide) (by decide) (by decide +kernel) (by decide) ?_
      refine gk_aload3 dX10_about_72 (pc' := 73) rfl ?_
      refine gk_getf (fs := [_, _, _, _]) gF_Room_133 dX10_about_73 (pc' := 76) rfl (by exact (hp1.o)) rfl ?_
      refine gk_iret dX10_about_76 rfl (hB _ (e0 _ rfl))
    · refine gk_iload2 dX10_about_36 (pc' := 37) rfl ?_
      refine gk_tableIn dX10_about_37 (tgt := 77) (off := 40) (by decide) (by decide) (by decide +kernel) (by decide) ?_
      refine gk_aload3 dX10_about_77 (pc' := 78) rfl ?_
      refine gk_getf (fs := [_, _, _, _]) gF_Room_152 dX10_about_78 (pc' := 81) rfl (by exact (hp1.o)) rfl ?_
      refine gk_iret dX10_about_81 rfl (hB _ (e0 _ rfl))
    · refine gk_iload2 dX10_about_36 (pc' := 37) rfl ?_
      refine gk_tableIn dX10_about_37 (tgt := 82) (off := 45) (by decide) (by decide) (by decide +kernel) (by decide) ?_
      refine gk_aload3 dX10_about_82 (pc' := 83) rfl ?_
      refine gk_getf (fs := [_, _, _, _]) gF_Room_155 dX10_about_83 (pc' := 86) rfl (by exact (hp1.o)) rfl ?_
      refine gk_iret dX10_about_86 rfl (hB _ (e0 _ rfl))
    · refine gk_iload2 dX10_about_36 (pc' := 37) rfl ?_
      refine gk_tableIn dX10_about_37 (tgt := 87) (off := 50) (by decide) (by decide) (by decide +kernel) (by decide) ?_
      refine gk_aload3 dX10_about_87 (pc' := 88) rfl ?_
      refine gk_cV1_0 mv_Picture_leastPixel gw_359 dX10_about_88 (pc' := 91) rfl (Nat.le_of_ble_eq_true rfl) (by exact (hp1.o)) (sp_Picture_leastPixel hp1 ?_)
      refine ⟨_, rfl, ?_⟩
      refine gk_iret dX10_about_91 rfl (hB _ (e0 _ rfl))
    · refine gk_iload2 dX10_about_36 (pc' := 37) rfl ?_
      refine gk_tableIn dX10_about_37 (tgt := 92) (off := 55) (by decide) (by decide) (by decide +kernel) (by decide) ?_
      refine gk_aload3 dX10_about_92 (pc' := 93) rfl ?_
      refine gk_cV1_0 mv_Picture_greatestPixel gw_364 dX10_about_93 (pc' := 96) rfl (Nat.le_of_ble_eq_true rfl) (by exact (hp1.o)) (sp_Picture_greatestPixel hp1 ?_)
      refine ⟨_, rfl, ?_⟩
      refine gk_iret dX10_about_96 rfl (hB _ (e0 _ rfl))
    · refine gk_iload2 dX10_about_36 (pc' := 37) rfl ?_
      refine gk_tableOut dX10_about_37 (tgt := 97) (by decide) (by decide) ?_
      refine gk_aload3 dX10_about_97 (pc' := 98) rfl ?_
      refine gk_cV1_0 mv_Picture_sum gw_368 dX10_about_98 (pc' := 101) rfl (Nat.le_of_ble_eq_true rfl) (by exact (hp1.o)) (sp_Picture_sum hp1 ?_)
      refine ⟨_, rfl, ?_⟩
      refine gk_iret dX10_about_101 rfl (hB _ (e0 _ rfl))
  refine Gm.enter (L := [some (.ref r), some (.int p), some (.int w), none]) (by decide) (fun _ => trivial) (Nat.le_of_ble_eq_true rfl) rfl ?_
  refine gk_iload1 dX10_about_0 (pc' := 1) rfl ?_
  refine gk_cS1_1 mz_Room_isPicture gw_237 dX10_about_1 (pc' := 4) rfl (Nat.le_of_ble_eq_true rfl) (sp_Room_isPicture (fun j1 hj1 ej1 => ?_) (fun n1 => ?_))
  · refine ⟨_, rfl, ?_⟩
    subst ej1
    have zj1 : (nI j1).toInt = j1 := nI_toInt (by omega)
    have yj1 : (nI j1).toInt.toNat = j1 := by omega
    have hp1 := picS hm hj1
    have ok1 := okpS hm hj1
    have ap1 := hm.ap hj1
    refine gk_if_eq dX10_about_4 (tgt := 16) (pc' := 7) (by decide) rfl (fun c => absurd c (by decide)) (fun _ => ?_)
    refine gk_iload2 dX10_about_7 (pc' := 8) rfl ?_
    refine gk_iconst (v := 0) dX10_about_8 (pc' := 9) rfl (by decide) ?_
    refine gk_iconst (v := 5) dX10_about_9 (pc' := 10) rfl (by decide) ?_
    refine gk_cS1_3 mz_Room_within gw_240 dX10_about_10 (pc' := 13) rfl (Nat.le_of_ble_eq_true rfl) (sp_Room_within (fun u10 v10 => ?_) (fun n10 => ?_))
    · refine ⟨_, rfl, ?_⟩
      refine gk_if_ne dX10_about_13 (tgt := 19) (pc' := 16) (by decide) rfl (fun _ => ?_) (fun c => absurd c (by decide))
      refine gk_aload0 dX10_about_19 (pc' := 20) rfl ?_
      refine gk_getf (fs := [_, _, _, _, _, _, _, _, _, _, _, _]) gF_Room_11 dX10_about_20 (pc' := 23) rfl (by assumption) rfl ?_
      refine gk_iload1 dX10_about_23 (pc' := 24) rfl ?_
      refine gk_aald (t0 := 2) rfl dX10_about_24 (pc' := 25) rfl (by exact (a2)) (vp_in_nI hj1 (by decide)) ?_
      rw [nI_clamp (by omega), a3 j1 hj1, show va_rf (some (pc j1)) = Value.ref (pc j1) from rfl]
      refine gk_astore3 dX10_about_25 (pc' := 26) rfl (by decide) rfl ?_
      refine gk_aload3 dX10_about_26 (pc' := 27) rfl ?_
      refine gk_cV1_0 mv_Picture_isMissing gw_330 dX10_about_27 (pc' := 30) rfl (Nat.le_of_ble_eq_true rfl) (by exact (hp1.o)) (sp_Picture_isMissing hp1 (fun k27 => ?_) (fun k27 => ?_))
      · refine ⟨_, rfl, ?_⟩
        refine gk_if_eq dX10_about_30 (tgt := 36) (pc' := 33) (by decide) rfl (fun c => absurd c (by decide)) (fun _ => ?_)
        refine gk_ldc dX10_about_33 (pc' := 35) rfl gw_358 ?_
        refine gk_iret dX10_about_35 rfl (hB _ ((if_pos (by omega)).trans (if_pos k27)))
      · refine ⟨_, rfl, ?_⟩
        refine gk_if_eq dX10_about_30 (tgt := 36) (pc' := 33) (by decide) rfl (fun _ => ?_) (fun c => absurd c (by decide))
        obtain ⟨jw, hw, rfl⟩ := pu_of (x := w) (n := 6) (by omega) (by omega) (by omega)
        exact tail j1 jw hj1 rfl rfl hw k27
    · refine ⟨_, rfl, ?_⟩
      refine gk_if_ne dX10_about_13 (tgt := 19) (pc' := 16) (by decide) rfl (fun c => absurd c (by decide)) (fun _ => ?_)
      refine gk_ldc dX10_about_16 (pc' := 18) rfl gw_243 ?_
      refine gk_iret dX10_about_18 rfl (hB _ (if_neg (by omega)))
  · refine ⟨_, rfl, ?_⟩
    refine gk_if_eq dX10_about_4 (tgt := 16) (pc' := 7) (by decide) rfl (fun _ => ?_) (fun c => absurd c (by decide))
    refine gk_ldc dX10_about_16 (pc' := 18) rfl gw_243 ?_
    refine gk_iret dX10_about_18 rfl (hB _ (if_neg (by omega)))
end OpC
def cvV (k rule v : Int32) : Int32 := if rule = 0 then kpt k v.toInt else if k = 0 then v &&& 255 else v
theorem cvV_in {k rule v : Int32} (hk : k = 0 ∨ k = 1) (hv : -32768 ≤ v.toInt ∧ v.toInt ≤ 32767) : inK k (cvV k rule v) := by
  unfold cvV
  split
  · exact inK_kpt _ _
  · rcases hk with rfl | rfl
    · exact inK_b (and255 _)
    · exact inK_1 hv
def oConvert (S : St) (p q k rule : Int32) : Int32 × St := if iR 0 7 p ∧ iR 0 7 q ∧ iR 0 1 k ∧ iR 0 1 rule then (if (pcS S p).1 = -1 then (-100002, S) else (nI (cntP (fun i => cvV k rule ((pcS S p).2.2.2 i)) (pcS S p).2.2.2 ((pcS S p).2.1 * (pcS S p).2.2.1)), kP S q.toInt.toNat (k, (pcS S p).2.1, (pcS S p).2.2.1, fun i => cvV k rule ((pcS S p).2.2.2 i)))) else (-100001, S)
def oCut (S : St) (p q x y w t e : Int32) : Int32 × St := if (iR 0 7 p ∧ iR 0 7 q ∧ iR 0 3 e ∧ iR 1 16 w ∧ iR 1 16 t) ∧ iR (-100) 100 x ∧ iR (-100) 100 y then (if (pcS S p).1 = -1 then (-100002, S) else (0, kP S q.toInt.toNat ((pcS S p).1, w.toInt.toNat, t.toInt.toNat, fun i => sn (pcS S p).2.1 (pcS S p).2.2.1 (pcS S p).2.2.2 (x.toInt + (i % w.toInt.toNat : Nat)) (y.toInt + (i / w.toInt.toNat : Nat)) e))) else (-100001, S)
def oTurn (S : St) (p q how : Int32) : Int32 × St := if iR 0 7 p ∧ iR 0 7 q ∧ iR 0 7 how then (if (pcS S p).1 = -1 then (-100002, S) else (0, kP S q.toInt.toNat ((pcS S p).1, trW (pcS S p).2.1 (pcS S p).2.2.1 (how.toInt.toNat % 4), trW (pcS S p).2.2.1 (pcS S p).2.1 (how.toInt.toNat % 4), trn (pcS S p).2.1 (pcS S p).2.2.1 (pcS S p).2.2.2 (how.toInt.toNat % 4) (decide (4 ≤ how.toInt.toNat))))) else (-100001, S)
theorem trF_lt {w t q : Nat} {m : Bool} {x y : Nat} (hq : q < 4) (hx : x < trW w t q) (hy : y < trW t w q) : trF w t q m x y < w * t := by
  unfold trF
  unfold trW at hx hy
  rcases (show q = 0 ∨ q = 1 ∨ q = 2 ∨ q = 3 by omega) with rfl | rfl | rfl | rfl <;> simp at hx hy ⊢ <;> cases m <;> simp <;> exact place_lt (by omega) (by omega)
section OpD
variable {X : gX} {d : Nat} {b : Nat × Nat} {h : gk_H} {Q : Option Value → gk_H → Prop} {r F0 : Nat} {S : St} {pc mc : Nat → Nat}
theorem fin_convert {h0 : gk_H} {j1 p : Nat} {k rule : Int32} {l1 l6 l7 : Option Value} (hs : Rs X h0 r F0 S pc mc) (hj1 : j1 < 8) (ht : isPic X h (pc 8) k (pcS S (nI j1)).2.1 (pcS S (nI j1)).2.2.1 (fun i => cvV k rule ((pcS S (nI j1)).2.2.2 i))) (hf : fr (trA pc) h0 h) (hok : okP (k, (pcS S (nI j1)).2.1, (pcS S (nI j1)).2.2.1, fun i => cvV k rule ((pcS S (nI j1)).2.2.2 i))) (hp : p < 8) (hQ : ∀ h', Room X h' r F0 (kP S p (k, (pcS S (nI j1)).2.1, (pcS S (nI j1)).2.2.1, fun i => cvV k rule ((pcS S (nI j1)).2.2.2 i))) → frC r F0 h0 h' → Q (some (.int (nI (cntP (fun i => cvV k rule ((pcS S (nI j1)).2.2.2 i)) (pcS S (nI j1)).2.2.2 ((pcS S (nI j1)).2.1 * (pcS S (nI j1)).2.2.1))))) h') : G (kx X) mt_Room_convert (d + 4) b 143 [some (.ref r), l1, some (.int (nI p)), some (.int k), some (.int rule), some (.ref (pc j1)), l6, l7] [] h Q := by
  have hs1 := hs.tray hf (fun c z => z)
  have a1 := hs1.2.1.obj
  have hp1 := picS hs1.2.1 hj1
  refine gk_aload0 dX10_convert_143 (pc' := 144) rfl ?_
  refine gk_getf (fs := [_, _, _, _, _, _, _, _, _, _, _, _]) gF_Room_32 dX10_convert_144 (pc' := 147) rfl (by assumption) rfl ?_
  refine gk_aload5 dX10_convert_147 (pc' := 149) rfl ?_
  refine gk_cV1_1 mv_Picture_unlikePixels gw_386 dX10_convert_149 (pc' := 152) rfl (Nat.le_of_ble_eq_true rfl) (by exact (ht.o)) (sp_Picture_unlikePixels ht hp1 ?_)
  refine ⟨_, rfl, ?_⟩
  refine gk_istore6 dX10_convert_152 (pc' := 154) rfl (by decide) rfl ?_
  refine gk_aload0 dX10_convert_154 (pc' := 155) rfl ?_
  refine gk_iload2 dX10_convert_155 (pc' := 156) rfl ?_
  refine gk_cV0_1 mv_Room_keepPicture gw_262 dX10_convert_156 (pc' := 159) rfl (Nat.le_of_ble_eq_true rfl) (by assumption) (sp_keepP hs1 ht hok hp (fun h3 z3 z4 => ?_))
  refine ⟨rfl, ?_⟩
  refine gk_iload6 dX10_convert_159 (pc' := 161) rfl ?_
  refine gk_iret dX10_convert_161 rfl (hQ h3 z3 ((hs.trayC hf (fun c z => z)).trans z4))
theorem lp_convert {h0 : gk_H} {j1 p : Nat} {k rule : Int32} {l1 : Option Value} (hs : Rs X h0 r F0 S pc mc) (hj1 : j1 < 8) (hk : k = 0 ∨ k = 1) (ho : okP (k, (pcS S (nI j1)).2.1, (pcS S (nI j1)).2.2.1, fun i => cvV k rule ((pcS S (nI j1)).2.2.2 i))) (hp : p < 8) (hQ : ∀ h', Room X h' r F0 (kP S p (k, (pcS S (nI j1)).2.1, (pcS S (nI j1)).2.2.1, fun i => cvV k rule ((pcS S (nI j1)).2.2.2 i))) → frC r F0 h0 h' → Q (some (.int (nI (cntP (fun i => cvV k rule ((pcS S (nI j1)).2.2.2 i)) (pcS S (nI j1)).2.2.2 ((pcS S (nI j1)).2.1 * (pcS S (nI j1)).2.2.1))))) h') :
    ∀ f i h g l7, i + f = (pcS S (nI j1)).2.1 * (pcS S (nI j1)).2.2.1 → isPic X h (pc 8) k (pcS S (nI j1)).2.1 (pcS S (nI j1)).2.2.1 g → (∀ n, n < i → g n = cvV k rule ((pcS S (nI j1)).2.2.2 n)) → fr (trA pc) h0 h → G (kx X) mt_Room_convert (d + 4) b 76 [some (.ref r), l1, some (.int (nI p)), some (.int k), some (.int rule), some (.ref (pc j1)), some (.int (nI i)), l7] [] h Q := by
  intro f
  induction f with
  | zero =>
    intro i h g l7 hi hg hgF hf
    have hs1 := hs.tray hf (fun c z => z)
    have hp1 := picS hs1.2.1 hj1
    have ar := hp1.area
    refine gk_iload6 dX10_convert_76 (pc' := 78) rfl ?_
    refine gk_aload5 dX10_convert_78 (pc' := 80) rfl ?_
    refine gk_cV1_0 mv_Picture_area gw_322 dX10_convert_80 (pc' := 83) rfl (Nat.le_of_ble_eq_true rfl) (by exact (hp1.o)) (sp_Picture_area hp1 ?_)
    refine ⟨_, rfl, ?_⟩
    refine gk_icmp_ge dX10_convert_83 (tgt := 143) (pc' := 86) (by decide) rfl (fun c83 => ?_) (fun c83 => absurd (nI_le (by omega) (by omega)) c83)
    exact fin_convert hs hj1 (hg.congr (fun n hn => hgF n (by omega))) hf ho hp hQ
  | succ f ih =>
    intro i h g l7 hi hg hgF hf
    have hs1 := hs.tray hf (fun c z => z)
    have a1 := hs1.2.1.obj
    have hp1 := picS hs1.2.1 hj1
    have ar := hp1.area
    refine gk_iload6 dX10_convert_76 (pc' := 78) rfl ?_
    refine gk_aload5 dX10_convert_78 (pc' := 80) rfl ?_
    refine gk_cV1_0 mv_Picture_area gw_322 dX10_convert_80 (pc' := 83) rfl (Nat.le_of_ble_eq_true rfl) (by exact (hp1.o)) (sp_Picture_area hp1 ?_)
    refine ⟨_, rfl, ?_⟩
    refine gk_icmp_ge dX10_convert_83 (tgt := 143) (pc' := 86) (by decide) rfl (fun c83 => absurd c83 (nI_ge (by omega) (by omega))) (fun c83 => ?_)
    refine gk_aload5 dX10_convert_86 (pc' := 88) rfl ?_
    refine gk_iload6 dX10_convert_88 (pc' := 90) rfl ?_
    refine gk_cV1_1 mv_Picture_pixel gw_302 dX10_convert_90 (pc' := 93) rfl (Nat.le_of_ble_eq_true rfl) (by exact (hp1.o)) (sp_Picture_pixel hp1 (by omega) ?_)
    refine ⟨_, rfl, ?_⟩
    refine gk_istore7 dX10_convert_93 (pc' := 95) rfl (by decide) rfl ?_
    refine gk_aload0 dX10_convert_95 (pc' := 96) rfl ?_
    refine gk_getf (fs := [_, _, _, _, _, _, _, _, _, _, _, _]) gF_Room_32 dX10_convert_96 (pc' := 99) rfl (by assumption) rfl ?_
    refine gk_iload6 dX10_convert_99 (pc' := 101) rfl ?_
    refine gk_iload4 dX10_convert_101 (pc' := 103) rfl ?_
    refine gk_if_ne dX10_convert_103 (tgt := 119) (pc' := 106) (by decide) rfl (fun c103 => ?_) (fun c103 => ?_)
    · have c103 : ¬ rule = 0 := c103
      refine gk_iload3 dX10_convert_119 (pc' := 120) rfl ?_
      refine gk_if_ne dX10_convert_120 (tgt := 132) (pc' := 123) (by decide) rfl (fun c120 => ?_) (fun c120 => ?_)
      · refine gk_iload7 dX10_convert_132 (pc' := 134) rfl ?_
        refine gk_cV0_2 mv_Picture_set gw_314 dX10_convert_134 (pc' := 137) rfl (Nat.le_of_ble_eq_true rfl) (by exact (hg.o)) (sp_Picture_set hg (by omega) (fun h' q1 q2 => ?_))
        refine ⟨rfl, ?_⟩
        refine gk_iinc6 (v := 1) dX10_convert_137 (pc' := 140) rfl (by decide) (by decide) rfl ?_
        refine gk_goto dX10_convert_140 (tgt := 76) (by decide) ?_
        rw [← nI_succ]
        refine ih (i + 1) h' _ _ (by omega) q1 (upd_lt hgF ?_) (hf.trans q2 (fun _ z => z) (fun _ z => Or.inr z))
        unfold cvV
        first | (rw [if_pos c103, Jvm.Kit.i64_of_i32]; done) | (rw [if_neg c103, if_pos c120]; done) | (rw [if_neg c103, if_neg c120]; done)
      · refine gk_iload7 dX10_convert_123 (pc' := 125) rfl ?_
        refine gk_sipush (v := 255) dX10_convert_125 (pc' := 128) rfl (by decide) ?_
        refine gk_iand dX10_convert_128 (pc' := 129) rfl ?_
        refine gk_goto dX10_convert_129 (tgt := 134) (by decide) ?_
        refine gk_cV0_2 mv_Picture_set gw_314 dX10_convert_134 (pc' := 137) rfl (Nat.le_of_ble_eq_true rfl) (by exact (hg.o)) (sp_Picture_set hg (by omega) (fun h' q1 q2 => ?_))
        refine ⟨rfl, ?_⟩
        refine gk_iinc6 (v := 1) dX10_convert_137 (pc' := 140) rfl (by decide) (by decide) rfl ?_
        refine gk_goto dX10_convert_140 (tgt := 76) (by decide) ?_
        rw [← nI_succ]
        refine ih (i + 1) h' _ _ (by omega) q1 (upd_lt hgF ?_) (hf.trans q2 (fun _ z => z) (fun _ z => Or.inr z))
        unfold cvV
        first | (rw [if_pos c103, Jvm.Kit.i64_of_i32]; done) | (rw [if_neg c103, if_pos c120]; done) | (rw [if_neg c103, if_neg c120]; done)
    · have c103 : rule = 0 := c103
      refine gk_aload0 dX10_convert_106 (pc' := 107) rfl ?_
      refine gk_getf (fs := [_, _, _, _, _, _, _, _, _, _, _, _]) gF_Room_32 dX10_convert_107 (pc' := 110) rfl (by assumption) rfl ?_
      refine gk_iload7 dX10_convert_110 (pc' := 112) rfl ?_
      refine gk_i2l dX10_convert_112 (pc' := 113) rfl ?_
      refine gk_cV1_1 mv_Picture_kept gw_376 dX10_convert_113 (pc' := 116) rfl (Nat.le_of_ble_eq_true rfl) (by exact (hg.o)) (sp_Picture_kept hg ?_)
      refine ⟨_, rfl, ?_⟩
      refine gk_goto dX10_convert_116 (tgt := 134) (by decide) ?_
      refine gk_cV0_2 mv_Picture_set gw_314 dX10_convert_134 (pc' := 137) rfl (Nat.le_of_ble_eq_true rfl) (by exact (hg.o)) (sp_Picture_set hg (by omega) (fun h' q1 q2 => ?_))
      refine ⟨rfl, ?_⟩
      refine gk_iinc6 (v := 1) dX10_convert_137 (pc' := 140) rfl (by decide) (by decide) rfl ?_
      refine gk_goto dX10_convert_140 (tgt := 76) (by decide) ?_
      rw [← nI_succ]
      refine ih (i + 1) h' _ _ (by omega) q1 (upd_lt hgF ?_) (hf.trans q2 (fun _ z => z) (fun _ z => Or.inr z))
      unfold cvV
      first | (rw [if_pos c103, Jvm.Kit.i64_of_i32]; done) | (rw [if_neg c103, if_pos c120]; done) | (rw [if_neg c103, if_neg c120]; done)
theorem cl_convert {p q k rule : Int32} (hR : Room X h r F0 S) (hQ : ∀ h', Room X h' r F0 (oConvert S p q k rule).2 → frC r F0 h h' → Q (some (.int (oConvert S p q k rule).1)) h') : Gm (kx X) mt_Room_convert (d + 4) b [.ref r, .int p, .int q, .int k, .int rule] h Q := by
  have hB : ∀ a, oConvert S p q k rule = (a, S) → Q (some (.int a)) h := fun a e => by
    have q := hQ h
    rw [e] at q
    exact q hR frC.rf
  obtain ⟨hF, pc, mc, hm, ⟨c8, ht⟩, hrest⟩ := hR
  have hs : Rs X h r F0 S pc mc := ⟨hF, hm, hrest⟩
  have a1 := hm.obj
  obtain ⟨f1, a2, a3⟩ := hm.prow
  have z0 : (0 : Int32).toInt = 0 := rfl
  have z1 : (1 : Int32).toInt = 1 := rfl
  refine Gm.enter (L := [some (.ref r), some (.int p), some (.int q), some (.int k), some (.int rule), none, none, none]) (by decide) (fun _ => trivial) (Nat.le_of_ble_eq_true rfl) rfl ?_
  refine gk_iload1 dX10_convert_0 (pc' := 1) rfl ?_
  refine gk_cS1_1 mz_Room_isPicture gw_237 dX10_convert_1 (pc' := 4) rfl (Nat.le_of_ble_eq_true rfl) (sp_Room_isPicture (fun j1 hj1 ej1 => ?_) (fun n1 => ?_))
  · refine ⟨_, rfl, ?_⟩
    subst ej1
    have zj1 : (nI j1).toInt = j1 := nI_toInt (by omega)
    have yj1 : (nI j1).toInt.toNat = j1 := by omega
    have hp1 := picS hm hj1
    have ok1 := okpS hm hj1
    have ap1 := hm.ap hj1
    refine gk_if_eq dX10_convert_4 (tgt := 33) (pc' := 7) (by decide) rfl (fun c => absurd c (by decide)) (fun _ => ?_)
    refine gk_iload2 dX10_convert_7 (pc' := 8) rfl ?_
    refine gk_cS1_1 mz_Room_isPicture gw_237 dX10_convert_8 (pc' := 11) rfl (Nat.le_of_ble_eq_true rfl) (sp_Room_isPicture (fun j8 hj8 ej8 => ?_) (fun n8 => ?_))
    · refine ⟨_, rfl, ?_⟩
      subst ej8
      have zj8 : (nI j8).toInt = j8 := nI_toInt (by omega)
      have yj8 : (nI j8).toInt.toNat = j8 := by omega
      have hp8 := picS hm hj8
      have ok8 := okpS hm hj8
      have ap8 := hm.ap hj8
      refine gk_if_eq dX10_convert_11 (tgt := 33) (pc' := 14) (by decide) rfl (fun c => absurd c (by decide)) (fun _ => ?_)
      refine gk_iload3 dX10_convert_14 (pc' := 15) rfl ?_
      refine gk_iconst (v := 0) dX10_convert_15 (pc' := 16) rfl (by decide) ?_
      refine gk_iconst (v := 1) dX10_convert_16 (pc' := 17) rfl (by decide) ?_
      refine gk_cS1_3 mz_Room_within gw_240 dX10_convert_17 (pc' := 20) rfl (Nat.le_of_ble_eq_true rfl) (sp_Room_within (fun u17 v17 => ?_) (fun n17 => ?_))
      · refine ⟨_, rfl, ?_⟩
        refine gk_if_eq dX10_convert_20 (tgt := 33) (pc' := 23) (by decide) rfl (fun c => absurd c (by decide)) (fun _ => ?_)
        refine gk_iload4 dX10_convert_23 (pc' := 25) rfl ?_
        refine gk_iconst (v := 0) dX10_convert_25 (pc' := 26) rfl (by decide) ?_
        refine gk_iconst (v := 1) dX10_convert_26 (pc' := 27) rfl (by decide) ?_
        refine gk_cS1_3 mz_Room_within gw_240 dX10_convert_27 (pc' := 30) rfl (Nat.le_of_ble_eq_true rfl) (sp_Room_within (fun u27 v27 => ?_) (fun n27 => ?_))
        · refine ⟨_, rfl, ?_⟩
          refine gk_if_ne dX10_convert_30 (tgt := 36) (pc' := 33) (by decide) rfl (fun _ => ?_) (fun c => absurd c (by decide))
          refine gk_aload0 dX10_convert_36 (pc' := 37) rfl ?_
          refine gk_getf (fs := [_, _, _, _, _, _, _, _, _, _, _, _]) gF_Room_11 dX10_convert_37 (pc' := 40) rfl (by assumption) rfl ?_
          refine gk_iload1 dX10_convert_40 (pc' := 41) rfl ?_
          refine gk_aald (t0 := 2) rfl dX10_convert_41 (pc' := 42) rfl (by exact (a2)) (vp_in_nI hj1 (by decide)) ?_
          rw [nI_clamp (by omega), a3 j1 hj1, show va_rf (some (pc j1)) = Value.ref (pc j1) from rfl]
          refine gk_astore5 dX10_convert_42 (pc' := 44) rfl (by decide) rfl ?_
          refine gk_aload5 dX10_convert_44 (pc' := 46) rfl ?_
          refine gk_cV1_0 mv_Picture_isMissing gw_330 dX10_convert_46 (pc' := 49) rfl (Nat.le_of_ble_eq_true rfl) (by exact (hp1.o)) (sp_Picture_isMissing hp1 (fun k46 => ?_) (fun k46 => ?_))
          · refine ⟨_, rfl, ?_⟩
            refine gk_if_eq dX10_convert_49 (tgt := 55) (pc' := 52) (by decide) rfl (fun c => absurd c (by decide)) (fun _ => ?_)
            refine gk_ldc dX10_convert_52 (pc' := 54) rfl gw_297 ?_
            refine gk_iret dX10_convert_54 rfl (hB _ ((if_pos (by omega)).trans (if_pos k46)))
          · refine ⟨_, rfl, ?_⟩
            refine gk_if_eq dX10_convert_49 (tgt := 55) (pc' := 52) (by decide) rfl (fun _ => ?_) (fun c => absurd c (by decide))
            refine gk_aload0 dX10_convert_55 (pc' := 56) rfl ?_
            refine gk_getf (fs := [_, _, _, _, _, _, _, _, _, _, _, _]) gF_Room_32 dX10_convert_56 (pc' := 59) rfl (by assumption) rfl ?_
            refine gk_iload3 dX10_convert_59 (pc' := 60) rfl ?_
            refine gk_aload5 dX10_convert_60 (pc' := 62) rfl ?_
            refine gk_getf (fs := [_, _, _, _]) gF_Room_152 dX10_convert_62 (pc' := 65) rfl (by exact (hp1.o)) rfl ?_
            refine gk_aload5 dX10_convert_65 (pc' := 67) rfl ?_
            refine gk_getf (fs := [_, _, _, _]) gF_Room_155 dX10_convert_67 (pc' := 70) rfl (by exact (hp1.o)) rfl ?_
            refine gk_cV0_3 mv_Picture_shape gw_251 dX10_convert_70 (pc' := 73) rfl (Nat.le_of_ble_eq_true rfl) (by exact (ht.o)) (sp_Picture_shape ht hp1.1 hp1.2.1 (fun h1 g y1 y2 => ?_))
            refine ⟨rfl, ?_⟩
            refine gk_iconst (v := 0) dX10_convert_73 (pc' := 74) rfl (by decide) ?_
            refine gk_istore6 dX10_convert_74 (pc' := 76) rfl (by decide) rfl ?_
            have hk : k = 0 ∨ k = 1 := k_in (by omega) (by omega) (fun e => by rw [e] at u17; exact absurd u17 (by decide))
            have ho := ok1.kind k46
            exact lp_convert hs hj1 hk (Or.inr ⟨hk, ho.2.1, ho.2.2.1, fun n hn => cvV_in hk (inK_r (ho.2.2.2 n hn))⟩) hj8 (fun h' z3 z4 => by have q := hQ h'; rw [show oConvert S (nI j1) (nI j8) k rule = _ from (if_pos (by omega)).trans (if_neg k46), yj8] at q; exact q z3 z4) ((pcS S (nI j1)).2.1 * (pcS S (nI j1)).2.2.1) 0 h1 g _ (by omega) y1 (fun n hn => absurd hn (by omega)) (y2.mono (fun _ z => Or.inl z))
        · refine ⟨_, rfl, ?_⟩
          refine gk_if_ne dX10_convert_30 (tgt := 36) (pc' := 33) (by decide) rfl (fun c => absurd c (by decide)) (fun _ => ?_)
          refine gk_ldc dX10_convert_33 (pc' := 35) rfl gw_243 ?_
          refine gk_iret dX10_convert_35 rfl (hB _ (if_neg (by omega)))
      · refine ⟨_, rfl, ?_⟩
        refine gk_if_eq dX10_convert_20 (tgt := 33) (pc' := 23) (by decide) rfl (fun _ => ?_) (fun c => absurd c (by decide))
        refine gk_ldc dX10_convert_33 (pc' := 35) rfl gw_243 ?_
        refine gk_iret dX10_convert_35 rfl (hB _ (if_neg (by omega)))
    · refine ⟨_, rfl, ?_⟩
      refine gk_if_eq dX10_convert_11 (tgt := 33) (pc' := 14) (by decide) rfl (fun _ => ?_) (fun c => absurd c (by decide))
      refine gk_ldc dX10_convert_33 (pc' := 35) rfl gw_243 ?_
      refine gk_iret dX10_convert_35 rfl (hB _ (if_neg (by omega)))
  · refine ⟨_, rfl, ?_⟩
    refine gk_if_eq dX10_convert_4 (tgt := 33) (pc' := 7) (by decide) rfl (fun _ => ?_) (fun c => absurd c (by decide))
    refine gk_ldc dX10_convert_33 (pc' := 35) rfl gw_243 ?_
    refine gk_iret dX10_convert_35 rfl (hB _ (if_neg (by omega)))
theorem fin_cut {h0 : gk_H} {p : Nat} {c : Pc} {l1 l3 l4 l5 l6 l7 l8 l9 : Option Value} (hs : Rs X h0 r F0 S pc mc) (ht : isPc X h (pc 8) c) (hf : fr (trA pc) h0 h) (hok : okP c) (hp : p < 8) (hQ : ∀ h', Room X h' r F0 (kP S p c) → frC r F0 h0 h' → Q (some (.int 0)) h') : G (kx X) mt_Room_cut (d + 4) b 152 [some (.ref r), l1, some (.int (nI p)), l3, l4, l5, l6, l7, l8, l9] [] h Q := by
  have hs1 := hs.tray hf (fun c z => z)
  have a1 := hs1.2.1.obj
  refine gk_aload0 dX10_cut_152 (pc' := 153) rfl ?_
  refine gk_iload2 dX10_cut_153 (pc' := 154) rfl ?_
  refine gk_cV0_1 mv_Room_keepPicture gw_262 dX10_cut_154 (pc' := 157) rfl (Nat.le_of_ble_eq_true rfl) (by assumption) (sp_keepP hs1 ht hok hp (fun h3 z3 z4 => ?_))
  refine ⟨rfl, ?_⟩
  refine gk_iconst (v := 0) dX10_cut_157 (pc' := 158) rfl (by decide) ?_
  refine gk_iret dX10_cut_158 rfl (hQ h3 z3 ((hs.trayC hf (fun c z => z)).trans z4))
theorem lp_cut {h0 : gk_H} {j1 p w t : Nat} {x y e : Int32} {l1 : Option Value} (hs : Rs X h0 r F0 S pc mc) (hj1 : j1 < 8) (hk : ¬ (pcS S (nI j1)).1 = -1) (hw : 1 ≤ w ∧ w ≤ 16) (htt : 1 ≤ t ∧ t ≤ 16) (hx : -100 ≤ x.toInt ∧ x.toInt ≤ 100) (hy : -100 ≤ y.toInt ∧ y.toInt ≤ 100) (hp : p < 8) (hQ : ∀ h', Room X h' r F0 (kP S p ((pcS S (nI j1)).1, w, t, fun i => sn (pcS S (nI j1)).2.1 (pcS S (nI j1)).2.2.1 (pcS S (nI j1)).2.2.2 (x.toInt + (i % w : Nat)) (y.toInt + (i / w : Nat)) e)) → frC r F0 h0 h' → Q (some (.int 0)) h') :
    ∀ f i h g, i + f = w * t → isPic X h (pc 8) (pcS S (nI j1)).1 w t g → (∀ n, n < i → g n = sn (pcS S (nI j1)).2.1 (pcS S (nI j1)).2.2.1 (pcS S (nI j1)).2.2.2 (x.toInt + (n % w : Nat)) (y.toInt + (n / w : Nat)) e) → fr (trA pc) h0 h → G (kx X) mt_Room_cut (d + 4) b 105 [some (.ref r), l1, some (.int (nI p)), some (.int x), some (.int y), some (.int (nI w)), some (.int (nI t)), some (.int e), some (.ref (pc j1)), some (.int (nI i))] [] h Q := by
  have ar := area_le hw.2 htt.2
  have ok1 := (okpS hs.2.1 hj1).kind hk
  intro f
  induction f with
  | zero =>
    intro i h g hi hg hgF hf
    refine gk_iload9 dX10_cut_105 (pc' := 107) rfl ?_
    refine gk_iload5 dX10_cut_107 (pc' := 109) rfl ?_
    refine gk_iload6 dX10_cut_109 (pc' := 111) rfl ?_
    refine gk_imul dX10_cut_111 (pc' := 112) rfl ?_
    rw [pk_mul]
    refine gk_icmp_ge dX10_cut_112 (tgt := 152) (pc' := 115) (by decide) rfl (fun c112 => ?_) (fun c112 => absurd (nI_le (by omega) (by omega)) c112)
    exact fin_cut (c := ((pcS S (nI j1)).1, w, t, fun i => sn (pcS S (nI j1)).2.1 (pcS S (nI j1)).2.2.1 (pcS S (nI j1)).2.2.2 (x.toInt + (i % w : Nat)) (y.toInt + (i / w : Nat)) e)) hs (hg.congr (fun n hn => hgF n (by omega))) hf (Or.inr ⟨ok1.1, hw, htt, fun n hn => inK_sn ok1.2.1.1 ok1.2.2.1.1 ok1.2.2.2⟩) hp hQ
  | succ f ih =>
    intro i h g hi hg hgF hf
    have hs1 := hs.tray hf (fun c z => z)
    have a1 := hs1.2.1.obj
    have hp1 := picS hs1.2.1 hj1
    have im : i % w < w := Nat.mod_lt _ (by omega)
    have id : i / w ≤ i := Nat.div_le_self i w
    have id0 : (0 : Int) ≤ ((i / w : Nat) : Int) := Int.natCast_nonneg _
    have ex : (x + nI (i % w)).toInt = x.toInt + (i % w : Nat) := by rw [Jvm.Kit.i32_add (by rw [nI_toInt (by omega)]; omega) (by rw [nI_toInt (by omega)]; omega), nI_toInt (by omega)]
    have ey : (y + nI (i / w)).toInt = y.toInt + (i / w : Nat) := by rw [Jvm.Kit.i32_add (by rw [nI_toInt (by omega)]; omega) (by rw [nI_toInt (by omega)]; omega), nI_toInt (by omega)]
    have nz : ¬ nI w = 0 := fun q => by have := nI_inj (a := w) (c := 0) (by omega) (by omega) q; omega
    refine gk_iload9 dX10_cut_105 (pc' := 107) rfl ?_
    refine gk_iload5 dX10_cut_107 (pc' := 109) rfl ?_
    refine gk_iload6 dX10_cut_109 (pc' := 111) rfl ?_
    refine gk_imul dX10_cut_111 (pc' := 112) rfl ?_
    rw [pk_mul]
    refine gk_icmp_ge dX10_cut_112 (tgt := 152) (pc' := 115) (by decide) rfl (fun c112 => absurd c112 (nI_ge (by omega) (by omega))) (fun c112 => ?_)
    refine gk_aload0 dX10_cut_115 (pc' := 116) rfl ?_
    refine gk_getf (fs := [_, _, _, _, _, _, _, _, _, _, _, _]) gF_Room_32 dX10_cut_116 (pc' := 119) rfl (by assumption) rfl ?_
    refine gk_iload9 dX10_cut_119 (pc' := 121) rfl ?_
    refine gk_aload8 dX10_cut_121 (pc' := 123) rfl ?_
    refine gk_iload3 dX10_cut_123 (pc' := 124) rfl ?_
    refine gk_iload9 dX10_cut_124 (pc' := 126) rfl ?_
    refine gk_iload5 dX10_cut_126 (pc' := 128) rfl ?_
    refine gk_irem dX10_cut_128 (pc' := 129) rfl (nz) ?_
    rw [nI_mod (by omega) (by omega) (by omega)]
    refine gk_iadd dX10_cut_129 (pc' := 130) rfl ?_
    refine gk_iload4 dX10_cut_130 (pc' := 132) rfl ?_
    refine gk_iload9 dX10_cut_132 (pc' := 134) rfl ?_
    refine gk_iload5 dX10_cut_134 (pc' := 136) rfl ?_
    refine gk_idiv dX10_cut_136 (pc' := 137) rfl (nz) ?_
    rw [nI_div (by omega) (by omega) (by omega)]
    refine gk_iadd dX10_cut_137 (pc' := 138) rfl ?_
    refine gk_iload7 dX10_cut_138 (pc' := 140) rfl ?_
    refine gk_cV1_3 mv_Picture_seen gw_337 dX10_cut_140 (pc' := 143) rfl (Nat.le_of_ble_eq_true rfl) (by exact (hp1.o)) (sp_Picture_seen hp1 ok1.2.1.1 ok1.2.2.1.1 (by omega) (by omega) ?_)
    refine ⟨_, rfl, ?_⟩
    refine gk_cV0_2 mv_Picture_set gw_314 dX10_cut_143 (pc' := 146) rfl (Nat.le_of_ble_eq_true rfl) (by exact (hg.o)) (sp_Picture_set hg (by omega) (fun h' q1 q2 => ?_))
    refine ⟨rfl, ?_⟩
    refine gk_iinc9 (v := 1) dX10_cut_146 (pc' := 149) rfl (by decide) (by decide) rfl ?_
    refine gk_goto dX10_cut_149 (tgt := 105) (by decide) ?_
    rw [← nI_succ]
    refine ih (i + 1) h' _ (by omega) q1 (upd_lt hgF ?_) (hf.trans q2 (fun _ z => z) (fun _ z => Or.inr z))
    rw [ex, ey]
theorem cl_cut {p q x y w t e : Int32} (hR : Room X h r F0 S) (hQ : ∀ h', Room X h' r F0 (oCut S p q x y w t e).2 → frC r F0 h h' → Q (some (.int (oCut S p q x y w t e).1)) h') : Gm (kx X) mt_Room_cut (d + 4) b [.ref r, .int p, .int q, .int x, .int y, .int w, .int t, .int e] h Q := by
  have hB : ∀ a, oCut S p q x y w t e = (a, S) → Q (some (.int a)) h := fun a e => by
    have q := hQ h
    rw [e] at q
    exact q hR frC.rf
  obtain ⟨hF, pc, mc, hm, ⟨c8, ht⟩, hrest⟩ := hR
  have hs : Rs X h r F0 S pc mc := ⟨hF, hm, hrest⟩
  have a1 := hm.obj
  obtain ⟨f1, a2, a3⟩ := hm.prow
  have z0 : (-100 : Int32).toInt = -100 := rfl
  have z1 : (100 : Int32).toInt = 100 := rfl
  refine Gm.enter (L := [some (.ref r), some (.int p), some (.int q), some (.int x), some (.int y), some (.int w), some (.int t), some (.int e), none, none]) (by decide) (fun _ => trivial) (Nat.le_of_ble_eq_true rfl) rfl ?_
  refine gk_iload1 dX10_cut_0 (pc' := 1) rfl ?_
  refine gk_cS1_1 mz_Room_isPicture gw_237 dX10_cut_1 (pc' := 4) rfl (Nat.le_of_ble_eq_true rfl) (sp_Room_isPicture (fun j1 hj1 ej1 => ?_) (fun n1 => ?_))
  · refine ⟨_, rfl, ?_⟩
    subst ej1
    have zj1 : (nI j1).toInt = j1 := nI_toInt (by omega)
    have yj1 : (nI j1).toInt.toNat = j1 := by omega
    have hp1 := picS hm hj1
    have ok1 := okpS hm hj1
    have ap1 := hm.ap hj1
    refine gk_if_eq dX10_cut_4 (tgt := 38) (pc' := 7) (by decide) rfl (fun c => absurd c (by decide)) (fun _ => ?_)
    refine gk_iload2 dX10_cut_7 (pc' := 8) rfl ?_
    refine gk_cS1_1 mz_Room_isPicture gw_237 dX10_cut_8 (pc' := 11) rfl (Nat.le_of_ble_eq_true rfl) (sp_Room_isPicture (fun j8 hj8 ej8 => ?_) (fun n8 => ?_))
    · refine ⟨_, rfl, ?_⟩
      subst ej8
      have zj8 : (nI j8).toInt = j8 := nI_toInt (by omega)
      have yj8 : (nI j8).toInt.toNat = j8 := by omega
      have hp8 := picS hm hj8
      have ok8 := okpS hm hj8
      have ap8 := hm.ap hj8
      refine gk_if_eq dX10_cut_11 (tgt := 38) (pc' := 14) (by decide) rfl (fun c => absurd c (by decide)) (fun _ => ?_)
      refine gk_iload7 dX10_cut_14 (pc' := 16) rfl ?_
      refine gk_cS1_1 mz_Room_isEdge gw_334 dX10_cut_16 (pc' := 19) rfl (Nat.le_of_ble_eq_true rfl) (sp_Room_isEdge (fun j16 hj16 ej16 => ?_) (fun n16 => ?_))
      · refine ⟨_, rfl, ?_⟩
        subst ej16
        have zj16 : (nI j16).toInt = j16 := nI_toInt (by omega)
        have yj16 : (nI j16).toInt.toNat = j16 := by omega
        refine gk_if_eq dX10_cut_19 (tgt := 38) (pc' := 22) (by decide) rfl (fun c => absurd c (by decide)) (fun _ => ?_)
        refine gk_iload5 dX10_cut_22 (pc' := 24) rfl ?_
        refine gk_cS1_1 mz_Room_isSide gw_248 dX10_cut_24 (pc' := 27) rfl (Nat.le_of_ble_eq_true rfl) (sp_Room_isSide (fun j24 hj24 hk24 ej24 => ?_) (fun n24 => ?_))
        · refine ⟨_, rfl, ?_⟩
          subst ej24
          have zj24 : (nI j24).toInt = j24 := nI_toInt (by omega)
          have yj24 : (nI j24).toInt.toNat = j24 := by omega
          refine gk_if_eq dX10_cut_27 (tgt := 38) (pc' := 30) (by decide) rfl (fun c => absurd c (by decide)) (fun _ => ?_)
          refine gk_iload6 dX10_cut_30 (pc' := 32) rfl ?_
          refine gk_cS1_1 mz_Room_isSide gw_248 dX10_cut_32 (pc' := 35) rfl (Nat.le_of_ble_eq_true rfl) (sp_Room_isSide (fun j32 hj32 hk32 ej32 => ?_) (fun n32 => ?_))
          · refine ⟨_, rfl, ?_⟩
            subst ej32
            have zj32 : (nI j32).toInt = j32 := nI_toInt (by omega)
            have yj32 : (nI j32).toInt.toNat = j32 := by omega
            refine gk_if_ne dX10_cut_35 (tgt := 41) (pc' := 38) (by decide) rfl (fun _ => ?_) (fun c => absurd c (by decide))
            refine gk_iload3 dX10_cut_41 (pc' := 42) rfl ?_
            refine gk_bipush (v := -100) dX10_cut_42 (pc' := 44) rfl (by decide) ?_
            refine gk_bipush (v := 100) dX10_cut_44 (pc' := 46) rfl (by decide) ?_
            refine gk_cS1_3 mz_Room_within gw_240 dX10_cut_46 (pc' := 49) rfl (Nat.le_of_ble_eq_true rfl) (sp_Room_within (fun u46 v46 => ?_) (fun n46 => ?_))
            · refine ⟨_, rfl, ?_⟩
              refine gk_if_eq dX10_cut_49 (tgt := 64) (pc' := 52) (by decide) rfl (fun c => absurd c (by decide)) (fun _ => ?_)
              refine gk_iload4 dX10_cut_52 (pc' := 54) rfl ?_
              refine gk_bipush (v := -100) dX10_cut_54 (pc' := 56) rfl (by decide) ?_
              refine gk_bipush (v := 100) dX10_cut_56 (pc' := 58) rfl (by decide) ?_
              refine gk_cS1_3 mz_Room_within gw_240 dX10_cut_58 (pc' := 61) rfl (Nat.le_of_ble_eq_true rfl) (sp_Room_within (fun u58 v58 => ?_) (fun n58 => ?_))
              · refine ⟨_, rfl, ?_⟩
                refine gk_if_ne dX10_cut_61 (tgt := 67) (pc' := 64) (by decide) rfl (fun _ => ?_) (fun c => absurd c (by decide))
                refine gk_aload0 dX10_cut_67 (pc' := 68) rfl ?_
                refine gk_getf (fs := [_, _, _, _, _, _, _, _, _, _, _, _]) gF_Room_11 dX10_cut_68 (pc' := 71) rfl (by assumption) rfl ?_
                refine gk_iload1 dX10_cut_71 (pc' := 72) rfl ?_
                refine gk_aald (t0 := 2) rfl dX10_cut_72 (pc' := 73) rfl (by exact (a2)) (vp_in_nI hj1 (by decide)) ?_
                rw [nI_clamp (by omega), a3 j1 hj1, show va_rf (some (pc j1)) = Value.ref (pc j1) from rfl]
                refine gk_astore8 dX10_cut_73 (pc' := 75) rfl (by decide) rfl ?_
                refine gk_aload8 dX10_cut_75 (pc' := 77) rfl ?_
                refine gk_cV1_0 mv_Picture_isMissing gw_330 dX10_cut_77 (pc' := 80) rfl (Nat.le_of_ble_eq_true rfl) (by exact (hp1.o)) (sp_Picture_isMissing hp1 (fun k77 => ?_) (fun k77 => ?_))
                · refine ⟨_, rfl, ?_⟩
                  refine gk_if_eq dX10_cut_80 (tgt := 86) (pc' := 83) (by decide) rfl (fun c => absurd c (by decide)) (fun _ => ?_)
                  refine gk_ldc dX10_cut_83 (pc' := 85) rfl gw_297 ?_
                  refine gk_iret dX10_cut_85 rfl (hB _ ((if_pos (by omega)).trans (if_pos k77)))
                · refine ⟨_, rfl, ?_⟩
                  refine gk_if_eq dX10_cut_80 (tgt := 86) (pc' := 83) (by decide) rfl (fun _ => ?_) (fun c => absurd c (by decide))
                  refine gk_aload0 dX10_cut_86 (pc' := 87) rfl ?_
                  refine gk_getf (fs := [_, _, _, _, _, _, _, _, _, _, _, _]) gF_Room_32 dX10_cut_87 (pc' := 90) rfl (by assumption) rfl ?_
                  refine gk_aload8 dX10_cut_90 (pc' := 92) rfl ?_
                  refine gk_getf (fs := [_, _, _, _]) gF_Room_133 dX10_cut_92 (pc' := 95) rfl (by exact (hp1.o)) rfl ?_
                  refine gk_iload5 dX10_cut_95 (pc' := 97) rfl ?_
                  refine gk_iload6 dX10_cut_97 (pc' := 99) rfl ?_
                  refine gk_cV0_3 mv_Picture_shape gw_251 dX10_cut_99 (pc' := 102) rfl (Nat.le_of_ble_eq_true rfl) (by exact (ht.o)) (sp_Picture_shape ht (by omega) (by omega) (fun h1 g y1 y2 => ?_))
                  refine ⟨rfl, ?_⟩
                  refine gk_iconst (v := 0) dX10_cut_102 (pc' := 103) rfl (by decide) ?_
                  refine gk_istore9 dX10_cut_103 (pc' := 105) rfl (by decide) rfl ?_
                  exact lp_cut hs hj1 k77 ⟨by omega, by omega⟩ ⟨by omega, by omega⟩ ⟨by omega, by omega⟩ ⟨by omega, by omega⟩ hj8 (fun h' z3 z4 => by have q := hQ h'; rw [show oCut S (nI j1) (nI j8) x y (nI j24) (nI j32) (nI j16) = _ from (if_pos (by omega)).trans (if_neg k77), yj8, yj24, yj32] at q; exact q z3 z4) (j24 * j32) 0 h1 g (by omega) y1 (fun n hn => absurd hn (by omega)) (y2.mono (fun _ z => Or.inl z))
              · refine ⟨_, rfl, ?_⟩
                refine gk_if_ne dX10_cut_61 (tgt := 67) (pc' := 64) (by decide) rfl (fun c => absurd c (by decide)) (fun _ => ?_)
                refine gk_ldc dX10_cut_64 (pc' := 66) rfl gw_243 ?_
                refine gk_iret dX10_cut_66 rfl (hB _ (if_neg (by omega)))
            · refine ⟨_, rfl, ?_⟩
              refine gk_if_eq dX10_cut_49 (tgt := 64) (pc' := 52) (by decide) rfl (fun _ => ?_) (fun c => absurd c (by decide))
              refine gk_ldc dX10_cut_64 (pc' := 66) rfl gw_243 ?_
              refine gk_iret dX10_cut_66 rfl (hB _ (if_neg (by omega)))
          · refine ⟨_, rfl, ?_⟩
            refine gk_if_ne dX10_cut_35 (tgt := 41) (pc' := 38) (by decide) rfl (fun c => absurd c (by decide)) (fun _ => ?_)
            refine gk_ldc dX10_cut_38 (pc' := 40) rfl gw_243 ?_
            refine gk_iret dX10_cut_40 rfl (hB _ (if_neg (by omega)))
        · refine ⟨_, rfl, ?_⟩
          refine gk_if_eq dX10_cut_27 (tgt := 38) (pc' := 30) (by decide) rfl (fun _ => ?_) (fun c => absurd c (by decide))
          refine gk_ldc dX10_cut_38 (pc' := 40) rfl gw_243 ?_
          refine gk_iret dX10_cut_40 rfl (hB _ (if_neg (by omega)))
      · refine ⟨_, rfl, ?_⟩
        refine gk_if_eq dX10_cut_19 (tgt := 38) (pc' := 22) (by decide) rfl (fun _ => ?_) (fun c => absurd c (by decide))
        refine gk_ldc dX10_cut_38 (pc' := 40) rfl gw_243 ?_
        refine gk_iret dX10_cut_40 rfl (hB _ (if_neg (by omega)))
    · refine ⟨_, rfl, ?_⟩
      refine gk_if_eq dX10_cut_11 (tgt := 38) (pc' := 14) (by decide) rfl (fun _ => ?_) (fun c => absurd c (by decide))
      refine gk_ldc dX10_cut_38 (pc' := 40) rfl gw_243 ?_
      refine gk_iret dX10_cut_40 rfl (hB _ (if_neg (by omega)))
  · refine ⟨_, rfl, ?_⟩
    refine gk_if_eq dX10_cut_4 (tgt := 38) (pc' := 7) (by decide) rfl (fun _ => ?_) (fun c => absurd c (by decide))
    refine gk_ldc dX10_cut_38 (pc' := 40) rfl gw_243 ?_
    refine gk_iret dX10_cut_40 rfl (hB _ (if_neg (by omega)))
theorem cl_turn {p q how : Int32} (hR : Room X h r F0 S) (hQ : ∀ h', Room X h' r F0 (oTurn S p q how).2 → frC r F0 h h' → Q (some (.int (oTurn S p q how).1)) h') : Gm (kx X) mt_Room_turn (d + 4) b [.ref r, .int p, .int q, .int how] h Q := by
  have hB : ∀ a, oTurn S p q how = (a, S) → Q (some (.int a)) h := fun a e => by
    have q := hQ h
    rw [e] at q
    exact q hR frC.rf
  obtain ⟨hF, pc, mc, hm, ⟨c8, ht⟩, hrest⟩ := hR
  have hs : Rs X h r F0 S pc mc := ⟨hF, hm, hrest⟩
  have a1 := hm.obj
  obtain ⟨f1, a2, a3⟩ := hm.prow
  have z0 : (0 : Int32).toInt = 0 := rfl
  have z1 : (7 : Int32).toInt = 7 := rfl
  have fin : ∀ j1 j8 jh, j1 < 8 → j8 < 8 → jh < 8 → p = nI j1 → q = nI j8 → how = nI jh → ¬ (pcS S p).1 = -1 → G (kx X) mt_Room_turn (d + 4) b 65 [some (.ref r), some (.int p), some (.int q), some (.int how), some (.ref (pc j1))] [.int (if decide (4 ≤ jh) then 1 else 0), .int (nI (jh % 4)), .ref (pc j1), .ref (pc 8)] h Q := by
    intro j1 j8 jh hj1 hj8 hjh ep eq eh hk
    subst ep eq eh
    have hp1 := picS hm hj1
    have ok1 := (okpS hm hj1).kind hk
    have ap1 := hm.ap hj1
    have yj1 : (nI j1).toInt = j1 := nI_toInt (by omega)
    have yj8 : (nI j8).toInt = j8 := nI_toInt (by omega)
    have yjh : (nI jh).toInt = jh := nI_toInt (by omega)
    have hok : okP ((pcS S (nI j1)).1, trW (pcS S (nI j1)).2.1 (pcS S (nI j1)).2.2.1 (jh % 4), trW (pcS S (nI j1)).2.2.1 (pcS S (nI j1)).2.1 (jh % 4), trn (pcS S (nI j1)).2.1 (pcS S (nI j1)).2.2.1 (pcS S (nI j1)).2.2.2 (jh % 4) (decide (4 ≤ jh))) := by
      refine Or.inr ⟨ok1.1, ?_, ?_, fun n hn => ok1.2.2.2 _ ?_⟩
      · show 1 ≤ trW _ _ _ ∧ trW _ _ _ ≤ 16
        have := ok1.2.1
        have := ok1.2.2.1
        unfold trW
        split <;> omega
      · show 1 ≤ trW _ _ _ ∧ trW _ _ _ ≤ 16
        have := ok1.2.1
        have := ok1.2.2.1
        unfold trW
        split <;> omega
      · have hn : n < trW (pcS S (nI j1)).2.1 (pcS S (nI j1)).2.2.1 (jh % 4) * trW (pcS S (nI j1)).2.2.1 (pcS S (nI j1)).2.1 (jh % 4) := hn
        have hp : 0 < trW (pcS S (nI j1)).2.1 (pcS S (nI j1)).2.2.1 (jh % 4) := by
          rcases Nat.eq_zero_or_pos (trW (pcS S (nI j1)).2.1 (pcS S (nI j1)).2.2.1 (jh % 4)) with z | z
          · rw [z, Nat.zero_mul] at hn; omega
          · exact z
        exact trF_lt (by omega) (Nat.mod_lt _ hp) ((Nat.div_lt_iff_lt_mul hp).mpr (by rw [Nat.mul_comm]; exact hn))
    refine gk_cV0_3 mv_Picture_turnedFrom gw_398 dX10_turn_65 (pc' := 68) rfl (Nat.le_of_ble_eq_true rfl) (by exact (ht.o)) (sp_Picture_turnedFrom ht hp1 (by omega) (by omega) (by omega) (by omega) (fun h1 y1 y2 => ?_))
    refine ⟨rfl, ?_⟩
    have hs1 := hs.tray y2 (fun c z => z)
    have a1 := hs1.2.1.obj
    refine gk_aload0 dX10_turn_68 (pc' := 69) rfl ?_
    refine gk_iload2 dX10_turn_69 (pc' := 70) rfl ?_
    refine gk_cV0_1 mv_Room_keepPicture gw_262 dX10_turn_70 (pc' := 73) rfl (Nat.le_of_ble_eq_true rfl) (by assumption) (sp_keepP hs1 y1 hok hj8 (fun h3 z3 z4 => ?_))
    refine ⟨rfl, ?_⟩
    refine gk_iconst (v := 0) dX10_turn_73 (pc' := 74) rfl (by decide) ?_
    refine gk_iret dX10_turn_74 rfl (by have q := hQ h3; rw [show oTurn S (nI j1) (nI j8) (nI jh) = _ from (if_pos (by omega)).trans (if_neg hk), nI_nat (j := j8) (by omega), nI_nat (j := jh) (by omega)] at q; exact q z3 ((hs.trayC y2 (fun c z => z)).trans z4))
  refine Gm.enter (L := [some (.ref r), some (.int p), some (.int q), some (.int how), none]) (by decide) (fun _ => trivial) (Nat.le_of_ble_eq_true rfl) rfl ?_
  refine gk_iload1 dX10_turn_0 (pc' := 1) rfl ?_
  refine gk_cS1_1 mz_Room_isPicture gw_237 dX10_turn_1 (pc' := 4) rfl (Nat.le_of_ble_eq_true rfl) (sp_Room_isPicture (fun j1 hj1 ej1 => ?_) (fun n1 => ?_))
  · refine ⟨_, rfl, ?_⟩
    subst ej1
    have zj1 : (nI j1).toInt = j1 := nI_toInt (by omega)
    have yj1 : (nI j1).toInt.toNat = j1 := by omega
    have hp1 := picS hm hj1
    have ok1 := okpS hm hj1
    have ap1 := hm.ap hj1
    refine gk_if_eq dX10_turn_4 (tgt := 24) (pc' := 7) (by decide) rfl (fun c => absurd c (by decide)) (fun _ => ?_)
    refine gk_iload2 dX10_turn_7 (pc' := 8) rfl ?_
    refine gk_cS1_1 mz_Room_isPicture gw_237 dX10_turn_8 (pc' := 11) rfl (Nat.le_of_ble_eq_true rfl) (sp_Room_isPicture (fun j8 hj8 ej8 => ?_) (fun n8 => ?_))
    · refine ⟨_, rfl, ?_⟩
      subst ej8
      have zj8 : (nI j8).toInt = j8 := nI_toInt (by omega)
      have yj8 : (nI j8).toInt.toNat = j8 := by omega
      have hp8 := picS hm hj8
      have ok8 := okpS hm hj8
      have ap8 := hm.ap hj8
      refine gk_if_eq dX10_turn_11 (tgt := 24) (pc' := 14) (by decide) rfl (fun c => absurd c (by decide)) (fun _ => ?_)
      refine gk_iload3 dX10_turn_14 (pc' := 15) rfl ?_
      refine gk_iconst (v := 0) dX10_turn_15 (pc' := 16) rfl (by decide) ?_
      refine gk_bipush (v := 7) dX10_turn_16 (pc' := 18) rfl (by decide) ?_
      refine gk_cS1_3 mz_Room_within gw_240 dX10_turn_18 (pc' := 21) rfl (Nat.le_of_ble_eq_true rfl) (sp_Room_within (fun u18 v18 => ?_) (fun n18 => ?_))
      · refine ⟨_, rfl, ?_⟩
        obtain ⟨jh, hh, rfl⟩ := pu_of (x := how) (n := 8) (by omega) (by omega) (by omega)
        refine gk_if_ne dX10_turn_21 (tgt := 27) (pc' := 24) (by decide) rfl (fun _ => ?_) (fun c => absurd c (by decide))
        refine gk_aload0 dX10_turn_27 (pc' := 28) rfl ?_
        refine gk_getf (fs := [_, _, _, _, _, _, _, _, _, _, _, _]) gF_Room_11 dX10_turn_28 (pc' := 31) rfl (by assumption) rfl ?_
        refine gk_iload1 dX10_turn_31 (pc' := 32) rfl ?_
        refine gk_aald (t0 := 2) rfl dX10_turn_32 (pc' := 33) rfl (by exact (a2)) (vp_in_nI hj1 (by decide)) ?_
        rw [nI_clamp (by omega), a3 j1 hj1, show va_rf (some (pc j1)) = Value.ref (pc j1) from rfl]
        refine gk_astore4 dX10_turn_33 (pc' := 35) rfl (by decide) rfl ?_
        refine gk_aload4 dX10_turn_35 (pc' := 37) rfl ?_
        refine gk_cV1_0 mv_Picture_isMissing gw_330 dX10_turn_37 (pc' := 40) rfl (Nat.le_of_ble_eq_true rfl) (by exact (hp1.o)) (sp_Picture_isMissing hp1 (fun k37 => ?_) (fun k37 => ?_))
        · refine ⟨_, rfl, ?_⟩
          refine gk_if_eq dX10_turn_40 (tgt := 46) (pc' := 43) (by decide) rfl (fun c => absurd c (by decide)) (fun _ => ?_)
          refine gk_ldc dX10_turn_43 (pc' := 45) rfl gw_297 ?_
          refine gk_iret dX10_turn_45 rfl (hB _ ((if_pos (by omega)).trans (if_pos k37)))
        · refine ⟨_, rfl, ?_⟩
          refine gk_if_eq dX10_turn_40 (tgt := 46) (pc' := 43) (by decide) rfl (fun _ => ?_) (fun c => absurd c (by decide))
          refine gk_aload0 dX10_turn_46 (pc' := 47) rfl ?_
          refine gk_getf (fs := [_, _, _, _, _, _, _, _, _, _, _, _]) gF_Room_32 dX10_turn_47 (pc' := 50) rfl (by assumption) rfl ?_
          refine gk_aload4 dX10_turn_50 (pc' := 52) rfl ?_
          refine gk_iload3 dX10_turn_52 (pc' := 53) rfl ?_
          refine gk_iconst (v := 4) dX10_turn_53 (pc' := 54) rfl (by decide) ?_
          refine gk_irem dX10_turn_54 (pc' := 55) rfl (by decide) ?_
          rw [show nI jh - nI jh / 4 * 4 = nI (jh % 4) from nI_mod (w := 4) (by omega) (by omega) (by omega)]
          refine gk_iload3 dX10_turn_55 (pc' := 56) rfl ?_
          refine gk_iconst (v := 4) dX10_turn_56 (pc' := 57) rfl (by decide) ?_
          refine gk_icmp_lt dX10_turn_57 (tgt := 64) (pc' := 60) (by decide) rfl (fun c57 => ?_) (fun c57 => ?_)
          · have q4 : ¬ 4 ≤ jh := by rw [pu_lt, nI_toInt (by omega)] at c57; have z4 : (4 : Int32).toInt = 4 := rfl; omega
            refine gk_iconst (v := 0) dX10_turn_64 (pc' := 65) rfl (by decide) ?_
            have := fin j1 j8 jh hj1 hj8 hh rfl rfl rfl k37
            first | (rw [decide_eq_true q4] at this; exact this) | (rw [decide_eq_false q4] at this; exact this)
          · have q4 : 4 ≤ jh := by rw [pu_lt, nI_toInt (by omega)] at c57; have z4 : (4 : Int32).toInt = 4 := rfl; omega
            refine gk_iconst (v := 1) dX10_turn_60 (pc' := 61) rfl (by decide) ?_
            refine gk_goto dX10_turn_61 (tgt := 65) (by decide) ?_
            have := fin j1 j8 jh hj1 hj8 hh rfl rfl rfl k37
            first | (rw [decide_eq_true q4] at this; exact this) | (rw [decide_eq_false q4] at this; exact this)
      · refine ⟨_, rfl, ?_⟩
        refine gk_if_ne dX10_turn_21 (tgt := 27) (pc' := 24) (by decide) rfl (fun c => absurd c (by decide)) (fun _ => ?_)
        refine gk_ldc dX10_turn_24 (pc' := 26) rfl gw_243 ?_
        refine gk_iret dX10_turn_26 rfl (hB _ (if_neg (by omega)))
    · refine ⟨_, rfl, ?_⟩
      refine gk_if_eq dX10_turn_11 (tgt := 24) (pc' := 14) (by decide) rfl (fun _ => ?_) (fun c => absurd c (by decide))
      refine gk_ldc dX10_turn_24 (pc' := 26) rfl gw_243 ?_
      refine gk_iret dX10_turn_26 rfl (hB _ (if_neg (by omega)))
  · refine ⟨_, rfl, ?_⟩
    refine gk_if_eq dX10_turn_4 (tgt := 24) (pc' := 7) (by decide) rfl (fun _ => ?_) (fun c => absurd c (by decide))
    refine gk_ldc dX10_turn_24 (pc' := 26) rfl gw_243 ?_
    refine gk_iret dX10_turn_26 rfl (hB _ (if_neg (by omega)))
end OpD
