/-! ===== the calls: seamGoes, byteTo, read, undo, redo, count ===== -/
def sgW (w : Nat) (how : Int32) : Nat := if how = 0 then w - 1 else w + 1
def sgS (col : Nat) (how : Int32) (x : Nat) : Nat := if how = 0 then (if x < col then x else x + 1) else (if x ≤ col then x else x - 1)
def sgF (w t : Nat) (p : Nat → Int32) (how : Int32) : Nat → Int32 := fun i => p (i / sgW w how * w + sgS (seamCol w t p (i / sgW w how)) how (i % sgW w how))
def oSeamGoes (S : St) (p how : Int32) : Int32 × St := if iR 0 7 p ∧ iR 0 1 how then (if ¬ (pcS S p).1 = -1 ∧ 1 ≤ sgW (pcS S p).2.1 how ∧ sgW (pcS S p).2.1 how ≤ 16 then (nI (sgW (pcS S p).2.1 how), kP S p.toInt.toNat ((pcS S p).1, sgW (pcS S p).2.1 how, (pcS S p).2.2.1, sgF (pcS S p).2.1 (pcS S p).2.2.1 (pcS S p).2.2.2 how)) else (-100002, S)) else (-100001, S)
theorem sgS_lt {w col x : Nat} {how : Int32} (hc : col < w) (hx : x < sgW w how) : sgS col how x < w := by
  unfold sgS
  unfold sgW at hx
  split at hx
  · rename_i e; rw [if_pos e]; split <;> omega
  · rename_i e; rw [if_neg e]; split <;> omega
section OpH
variable {X : gX} {d : Nat} {b : Nat × Nat} {h h' : gk_H} {Q : Option Value → gk_H → Prop} {r F0 : Nat} {S : St} {pc mc : Nat → Nat}
theorem fin_sg {h0 : gk_H} {p : Nat} {c : Pc} {v : Int32} {l2 l3 l5 l6 l7 l8 : Option Value} (hs : Rs X h0 r F0 S pc mc) (ht : isPc X h (pc 8) c) (hf : fr (trA pc) h0 h) (hok : okP c) (hp : p < 8) (hQ : ∀ h', Room X h' r F0 (kP S p c) → frC r F0 h0 h' → Q (some (.int v)) h') : G (kx X) mt_Room_seamGoes (d + 10) b 206 [some (.ref r), some (.int (nI p)), l2, l3, some (.int v), l5, l6, l7, l8] [] h Q := by
  have hs1 := hs.tray hf (fun c z => z)
  have a1 := hs1.2.1.obj
  refine gk_aload0 dX10_seamGoes_206 (pc' := 207) rfl ?_
  refine gk_iload1 dX10_seamGoes_207 (pc' := 208) rfl ?_
  refine gk_cV0_1 mv_Room_keepPicture gw_262 dX10_seamGoes_208 (pc' := 211) rfl (Nat.le_of_ble_eq_true rfl) (by assumption) (sp_keepP hs1 ht hok hp (fun h3 z3 z4 => ?_))
  refine ⟨rfl, ?_⟩
  refine gk_iload4 dX10_seamGoes_211 (pc' := 213) rfl ?_
  refine gk_iret dX10_seamGoes_213 rfl (hQ h3 z3 ((hs.trayC hf (fun c z => z)).trans z4))
theorem lp_sgX {h0 : gk_H} {j1 y nw : Nat} {how k : Int32} {lp l6 : Option Value} (hs : Rs X h0 r F0 S pc mc) (hj1 : j1 < 8) (hk : ¬ (pcS S (nI j1)).1 = -1) (hw : nw = sgW (pcS S (nI j1)).2.1 how) (hw16 : 1 ≤ nw ∧ nw ≤ 16) (hy : y < (pcS S (nI j1)).2.2.1)
    (hQ : ∀ h g, isPic X h (pc 8) k nw (pcS S (nI j1)).2.2.1 g → (∀ i, i < (y + 1) * nw → g i = sgF (pcS S (nI j1)).2.1 (pcS S (nI j1)).2.2.1 (pcS S (nI j1)).2.2.2 how i) → fr (trA pc) h0 h → ∀ l7 l8, G (kx X) mt_Room_seamGoes (d + 10) b 200 [some (.ref r), lp, some (.int how), some (.ref (pc j1)), some (.int (nI nw)), some (.int (nI y)), some (.int (nI (seamCol (pcS S (nI j1)).2.1 (pcS S (nI j1)).2.2.1 (pcS S (nI j1)).2.2.2 y))), l7, l8] [] h Q) :
    ∀ f x h g l8, x + f = nw → isPic X h (pc 8) k nw (pcS S (nI j1)).2.2.1 g → (∀ i, i < y * nw + x → g i = sgF (pcS S (nI j1)).2.1 (pcS S (nI j1)).2.2.1 (pcS S (nI j1)).2.2.2 how i) → fr (trA pc) h0 h → G (kx X) mt_Room_seamGoes (d + 10) b 116 [some (.ref r), lp, some (.int how), some (.ref (pc j1)), some (.int (nI nw)), some (.int (nI y)), some (.int (nI (seamCol (pcS S (nI j1)).2.1 (pcS S (nI j1)).2.2.1 (pcS S (nI j1)).2.2.2 y))), some (.int (nI x)), l8] [] h Q := by
  have okk := (okpS hs.2.1 hj1).kind hk
  have hcol : seamCol (pcS S (nI j1)).2.1 (pcS S (nI j1)).2.2.1 (pcS S (nI j1)).2.2.2 y < (pcS S (nI j1)).2.1 := colD_lt okk.2.1.1 _
  generalize hC : seamCol (pcS S (nI j1)).2.1 (pcS S (nI j1)).2.2.1 (pcS S (nI j1)).2.2.2 y = col at *
  intro f
  induction f with
  | zero =>
    intro x h g l8 hx hg hgF hf
    refine gk_iload7 dX10_seamGoes_116 (pc' := 118) rfl ?_
    refine gk_iload4 dX10_seamGoes_118 (pc' := 120) rfl ?_
    refine gk_icmp_ge dX10_seamGoes_120 (tgt := 200) (pc' := 123) (by decide) rfl (fun c120 => ?_) (fun c120 => absurd (nI_le (by omega) (by omega)) c120)
    exact hQ h g hg (fun i hi => hgF i (by rw [Nat.add_mul, Nat.one_mul] at hi; omega)) hf _ _
  | succ f ih =>
    intro x h g l8 hx hg hgF hf
    have hs1 := hs.tray hf (fun c z => z)
    have a1 := hs1.2.1.obj
    have hp1 := picS hs1.2.1 hj1
    have u1 := hp1.1
    have u2 := hp1.2.1
    have hsx : sgS col how x < (pcS S (nI j1)).2.1 := sgS_lt hcol (by omega)
    have o1 := place_lt (t := (pcS S (nI j1)).2.2.1) (show x < nw by omega) hy
    have ar := hg.area
    have key : ∀ sx, sx = sgS col how x → G (kx X) mt_Room_seamGoes (d + 10) b 162 [some (.ref r), lp, some (.int how), some (.ref (pc j1)), some (.int (nI nw)), some (.int (nI y)), some (.int (nI col)), some (.int (nI x)), l8] [.int (nI sx)] h Q := by
      intro sx e
      rw [← e] at hsx
      have o2 := place_lt (t := (pcS S (nI j1)).2.2.1) hsx hy
      refine gk_istore8 dX10_seamGoes_162 (pc' := 164) rfl (by decide) rfl ?_
      refine gk_aload0 dX10_seamGoes_164 (pc' := 165) rfl ?_
      refine gk_getf (fs := [_, _, _, _, _, _, _, _, _, _, _, _]) gF_Room_32 dX10_seamGoes_165 (pc' := 168) rfl (by assumption) rfl ?_
      refine gk_aload0 dX10_seamGoes_168 (pc' := 169) rfl ?_
      refine gk_getf (fs := [_, _, _, _, _, _, _, _, _, _, _, _]) gF_Room_32 dX10_seamGoes_169 (pc' := 172) rfl (by assumption) rfl ?_
      refine gk_iload7 dX10_seamGoes_172 (pc' := 174) rfl ?_
      refine gk_iload5 dX10_seamGoes_174 (pc' := 176) rfl ?_
      refine gk_cV1_2 mv_Picture_place gw_298 dX10_seamGoes_176 (pc' := 179) rfl (Nat.le_of_ble_eq_true rfl) (by exact (hg.o)) (sp_Picture_placeN hg ?_)
      refine ⟨_, rfl, ?_⟩
      refine gk_aload3 dX10_seamGoes_179 (pc' := 180) rfl ?_
      refine gk_aload3 dX10_seamGoes_180 (pc' := 181) rfl ?_
      refine gk_iload8 dX10_seamGoes_181 (pc' := 183) rfl ?_
      refine gk_iload5 dX10_seamGoes_183 (pc' := 185) rfl ?_
      refine gk_cV1_2 mv_Picture_place gw_298 dX10_seamGoes_185 (pc' := 188) rfl (Nat.le_of_ble_eq_true rfl) (by exact (hp1.o)) (sp_Picture_placeN hp1 ?_)
      refine ⟨_, rfl, ?_⟩
      refine gk_cV1_1 mv_Picture_pixel gw_302 dX10_seamGoes_188 (pc' := 191) rfl (Nat.le_of_ble_eq_true rfl) (by exact (hp1.o)) (sp_Picture_pixel hp1 o2 ?_)
      refine ⟨_, rfl, ?_⟩
      refine gk_cV0_2 mv_Picture_set gw_314 dX10_seamGoes_191 (pc' := 194) rfl (Nat.le_of_ble_eq_true rfl) (by exact (hg.o)) (sp_Picture_set hg (by omega) (fun h' q1 q2 => ?_))
      refine ⟨rfl, ?_⟩
      refine gk_iinc7 (v := 1) dX10_seamGoes_194 (pc' := 197) rfl (by decide) (by decide) rfl ?_
      refine gk_goto dX10_seamGoes_197 (tgt := 116) (by decide) ?_
      rw [← nI_succ]
      refine ih (x + 1) h' _ _ (by omega) q1 ?_ (hf.trans q2 (fun _ z => z) (fun _ z => Or.inr z))
      rw [← Nat.add_assoc]
      refine upd_lt hgF ?_
      unfold sgF
      rw [← hw, (dm (show x < nw by omega)).1, (dm (show x < nw by omega)).2, hC, e]
    refine gk_iload7 dX10_seamGoes_116 (pc' := 118) rfl ?_
    refine gk_iload4 dX10_seamGoes_118 (pc' := 120) rfl ?_
    refine gk_icmp_ge dX10_seamGoes_120 (tgt := 200) (pc' := 123) (by decide) rfl (fun c120 => absurd c120 (nI_ge (by omega) (by omega))) (fun c120 => ?_)
    refine gk_iload2 dX10_seamGoes_123 (pc' := 124) rfl ?_
    refine gk_if_ne dX10_seamGoes_124 (tgt := 146) (pc' := 127) (by decide) rfl (fun c124 => ?_) (fun c124 => ?_)
    · have c124 : ¬ how = 0 := c124
      refine gk_iload7 dX10_seamGoes_146 (pc' := 148) rfl ?_
      refine gk_iload6 dX10_seamGoes_148 (pc' := 150) rfl ?_
      refine gk_icmp_gt dX10_seamGoes_150 (tgt := 158) (pc' := 153) (by decide) rfl (fun c150 => ?_) (fun c150 => ?_)
      · rw [pu_lt, nI_toInt (by omega), nI_toInt (by omega)] at c150
        refine gk_iload7 dX10_seamGoes_158 (pc' := 160) rfl ?_
        refine gk_iconst (v := 1) dX10_seamGoes_160 (pc' := 161) rfl (by decide) ?_
        refine gk_isub dX10_seamGoes_161 (pc' := 162) rfl ?_
        rw [show nI x - 1 = nI (x - 1) from pk_sub (a := x) (b := 1) (by omega)]
        exact key _ (by unfold sgS; first | (rw [if_pos c124, if_pos (by omega)]; done) | (rw [if_pos c124, if_neg (by omega)]; done) | (rw [if_neg c124, if_pos (by omega)]; done) | (rw [if_neg c124, if_neg (by omega)]; done))
      · rw [pu_lt, nI_toInt (by omega), nI_toInt (by omega)] at c150
        refine gk_iload7 dX10_seamGoes_153 (pc' := 155) rfl ?_
        refine gk_goto dX10_seamGoes_155 (tgt := 162) (by decide) ?_
        exact key _ (by unfold sgS; first | (rw [if_pos c124, if_pos (by omega)]; done) | (rw [if_pos c124, if_neg (by omega)]; done) | (rw [if_neg c124, if_pos (by omega)]; done) | (rw [if_neg c124, if_neg (by omega)]; done))
    · have c124 : how = 0 := c124
      refine gk_iload7 dX10_seamGoes_127 (pc' := 129) rfl ?_
      refine gk_iload6 dX10_seamGoes_129 (pc' := 131) rfl ?_
      refine gk_icmp_ge dX10_seamGoes_131 (tgt := 139) (pc' := 134) (by decide) rfl (fun c131 => ?_) (fun c131 => ?_)
      · rw [pu_le, nI_toInt (by omega), nI_toInt (by omega)] at c131
        refine gk_iload7 dX10_seamGoes_139 (pc' := 141) rfl ?_
        refine gk_iconst (v := 1) dX10_seamGoes_141 (pc' := 142) rfl (by decide) ?_
        refine gk_iadd dX10_seamGoes_142 (pc' := 143) rfl ?_
        rw [← nI_succ]
        refine gk_goto dX10_seamGoes_143 (tgt := 162) (by decide) ?_
        exact key _ (by unfold sgS; first | (rw [if_pos c124, if_pos (by omega)]; done) | (rw [if_pos c124, if_neg (by omega)]; done) | (rw [if_neg c124, if_pos (by omega)]; done) | (rw [if_neg c124, if_neg (by omega)]; done))
      · rw [pu_le, nI_toInt (by omega), nI_toInt (by omega)] at c131
        refine gk_iload7 dX10_seamGoes_134 (pc' := 136) rfl ?_
        refine gk_goto dX10_seamGoes_136 (tgt := 162) (by decide) ?_
        exact key _ (by unfold sgS; first | (rw [if_pos c124, if_pos (by omega)]; done) | (rw [if_pos c124, if_neg (by omega)]; done) | (rw [if_neg c124, if_pos (by omega)]; done) | (rw [if_neg c124, if_neg (by omega)]; done))
theorem lp_sgY {h0 : gk_H} {j1 nw p : Nat} {how : Int32} {cs cl : Nat → Int32} {tot : Int32} (hs : Rs X h0 r F0 S pc mc) (hj1 : j1 < 8) (hk : ¬ (pcS S (nI j1)).1 = -1) (hw : nw = sgW (pcS S (nI j1)).2.1 how) (hw16 : 1 ≤ nw ∧ nw ≤ 16) (hsm : isSm X h0 (r + 107) cs cl tot) (hcl : ∀ y, y < (pcS S (nI j1)).2.2.1 → cl y = nI (seamCol (pcS S (nI j1)).2.1 (pcS S (nI j1)).2.2.1 (pcS S (nI j1)).2.2.2 y)) (hp : p < 8)
    (hQ : ∀ h', Room X h' r F0 (kP S p ((pcS S (nI j1)).1, nw, (pcS S (nI j1)).2.2.1, sgF (pcS S (nI j1)).2.1 (pcS S (nI j1)).2.2.1 (pcS S (nI j1)).2.2.2 how)) → frC r F0 h0 h' → Q (some (.int (nI nw))) h') :
    ∀ f y h g l6 l7 l8, y + f = (pcS S (nI j1)).2.2.1 → isPic X h (pc 8) (pcS S (nI j1)).1 nw (pcS S (nI j1)).2.2.1 g → (∀ i, i < y * nw → g i = sgF (pcS S (nI j1)).2.1 (pcS S (nI j1)).2.2.1 (pcS S (nI j1)).2.2.2 how i) → fr (trA pc) h0 h → G (kx X) mt_Room_seamGoes (d + 10) b 93 [some (.ref r), some (.int (nI p)), some (.int how), some (.ref (pc j1)), some (.int (nI nw)), some (.int (nI y)), l6, l7, l8] [] h Q := by
  have okk := (okpS hs.2.1 hj1).kind hk
  have x8 := (hs.2.1.I.1 8 (by decide)).fx
  intro f
  induction f with
  | zero =>
    intro y h g l6 l7 l8 hy hg hgF hf
    have hs1 := hs.tray hf (fun c z => z)
    have hp1 := picS hs1.2.1 hj1
    have u2 := hp1.2.1
    refine gk_iload5 dX10_seamGoes_93 (pc' := 95) rfl ?_
    refine gk_aload3 dX10_seamGoes_95 (pc' := 96) rfl ?_
    refine gk_getf (fs := [_, _, _, _]) gF_Room_155 dX10_seamGoes_96 (pc' := 99) rfl (by exact (hp1.o)) rfl ?_
    refine gk_icmp_ge dX10_seamGoes_99 (tgt := 206) (pc' := 102) (by decide) rfl (fun c99 => ?_) (fun c99 => absurd (nI_le (by omega) (by omega)) c99)
    refine fin_sg (c := ((pcS S (nI j1)).1, nw, (pcS S (nI j1)).2.2.1, sgF (pcS S (nI j1)).2.1 (pcS S (nI j1)).2.2.1 (pcS S (nI j1)).2.2.2 how)) hs (hg.congr (fun i hi => hgF i (by rw [Nat.mul_comm] at hi; rw [show y = (pcS S (nI j1)).2.2.1 by omega]; exact hi))) hf (Or.inr ⟨okk.1, hw16, okk.2.2.1, fun i hi => okk.2.2.2 _ ?_⟩) hp hQ
    have hi : i < nw * (pcS S (nI j1)).2.2.1 := hi
    rw [← hw]
    have im : i % nw < nw := Nat.mod_lt _ (by omega)
    exact place_lt (sgS_lt (colD_lt okk.2.1.1 _) (by rw [← hw]; exact im)) ((Nat.div_lt_iff_lt_mul (by omega)).mpr (by rw [Nat.mul_comm]; exact hi))
  | succ f ih =>
    intro y h g l6 l7 l8 hy hg hgF hf
    have hs1 := hs.tray hf (fun c z => z)
    have a1 := hs1.2.1.obj
    have hp1 := picS hs1.2.1 hj1
    have u2 := hp1.2.1
    have sm : isSm X h (r + 107) cs cl tot := ⟨(hf.2 _ (by unfold trA; omega)).trans hsm.1, (hf.2 _ (by unfold trA; omega)).trans hsm.2.1, (hf.2 _ (by unfold trA; omega)).trans hsm.2.2⟩
    refine gk_iload5 dX10_seamGoes_93 (pc' := 95) rfl ?_
    refine gk_aload3 dX10_seamGoes_95 (pc' := 96) rfl ?_
    refine gk_getf (fs := [_, _, _, _]) gF_Room_155 dX10_seamGoes_96 (pc' := 99) rfl (by exact (hp1.o)) rfl ?_
    refine gk_icmp_ge dX10_seamGoes_99 (tgt := 206) (pc' := 102) (by decide) rfl (fun c99 => absurd c99 (nI_ge (by omega) (by omega))) (fun c99 => ?_)
    refine gk_aload0 dX10_seamGoes_102 (pc' := 103) rfl ?_
    refine gk_getf (fs := [_, _, _, _, _, _, _, _, _, _, _, _]) gF_Room_72 dX10_seamGoes_103 (pc' := 106) rfl (by assumption) rfl ?_
    refine gk_iload5 dX10_seamGoes_106 (pc' := 108) rfl ?_
    refine gk_cV1_1 mv_Seam_column gw_692 dX10_seamGoes_108 (pc' := 111) rfl (Nat.le_of_ble_eq_true rfl) (by exact (sm.1)) (sp_Seam_column sm (by omega) ?_)
    refine ⟨_, rfl, ?_⟩
    rw [hcl y (by omega)]
    refine gk_istore6 dX10_seamGoes_111 (pc' := 113) rfl (by decide) rfl ?_
    refine gk_iconst (v := 0) dX10_seamGoes_113 (pc' := 114) rfl (by decide) ?_
    refine gk_istore7 dX10_seamGoes_114 (pc' := 116) rfl (by decide) rfl ?_
    refine lp_sgX (l6 := none) hs hj1 hk hw hw16 (by omega) (fun h2 g2 hp2 hg2 hf2 l7 l8 => ?_) nw 0 h g _ (by omega) hg (fun i hi => hgF i (by omega)) hf
    refine gk_iinc5 (v := 1) dX10_seamGoes_200 (pc' := 203) rfl (by decide) (by decide) rfl ?_
    refine gk_goto dX10_seamGoes_203 (tgt := 93) (by decide) ?_
    rw [← nI_succ]
    exact ih (y + 1) h2 g2 _ _ _ (by omega) hp2 hg2 hf2
theorem cl_seamGoes {p how : Int32} (hR : Room X h r F0 S) (hQ : ∀ h', Room X h' r F0 (oSeamGoes S p how).2 → frC r F0 h h' → Q (some (.int (oSeamGoes S p how).1)) h') : Gm (kx X) mt_Room_seamGoes (d + 10) b [.ref r, .int p, .int how] h Q := by
  have hB : ∀ a, oSeamGoes S p how = (a, S) → Q (some (.int a)) h := fun a e => by
    have q := hQ h
    rw [e] at q
    exact q hR frC.rf
  obtain ⟨hF, pc, mc, hm, ⟨c8, ht⟩, hrest⟩ := hR
  have hs : Rs X h r F0 S pc mc := ⟨hF, hm, hrest⟩
  have a1 := hm.obj
  obtain ⟨f1, a2, a3⟩ := hm.prow
  have z0 : (0 : Int32).toInt = 0 := rfl
  have z1 : (1 : Int32).toInt = 1 := rfl
  have x8 := (hm.I.1 8 (by decide)).fx
  obtain ⟨cs0, cl0, tot0, sm0⟩ := hrest.2.1.2.2.2.2
  have fin : ∀ j1 (wd : Int32), j1 < 8 → p = nI j1 → (0 ≤ how.toInt ∧ how.toInt ≤ 1) → wd.toInt = (if how = 0 then ((pcS S p).2.1 : Int) - 1 else (pcS S p).2.1 + 1) → G (kx X) mt_Room_seamGoes (d + 10) b 45 [some (.ref r), some (.int p), some (.int how), some (.ref (pc j1)), none, none, none, none, none] [.int wd] h Q := by
    intro j1 wd hj1 ep hh hwd
    subst ep
    have hp1 := picS hm hj1
    have ok1 := okpS hm hj1
    have ap1 := hm.ap hj1
    have xj := (hm.I.1 j1 (by omega)).fx
    have zj1 : (nI j1).toInt = j1 := nI_toInt (by omega)
    have yj1 : (nI j1).toInt.toNat = j1 := by omega
    have eW : ¬ (pcS S (nI j1)).1 = -1 → wd.toInt = sgW (pcS S (nI j1)).2.1 how := fun k => by
      have := (ok1.kind k).2.1
      rw [hwd]
      unfold sgW
      split <;> omega
    refine gk_istore4 dX10_seamGoes_45 (pc' := 47) rfl (by decide) rfl ?_
    refine gk_aload3 dX10_seamGoes_47 (pc' := 48) rfl ?_
    refine gk_cV1_0 mv_Picture_isMissing gw_330 dX10_seamGoes_48 (pc' := 51) rfl (Nat.le_of_ble_eq_true rfl) (by exact (hp1.o)) (sp_Picture_isMissing hp1 (fun k48 => ?_) (fun k48 => ?_))
    · refine ⟨_, rfl, ?_⟩
      refine gk_if_ne dX10_seamGoes_51 (tgt := 62) (pc' := 54) (by decide) rfl (fun _ => ?_) (fun c => absurd c (by decide))
      refine gk_ldc dX10_seamGoes_62 (pc' := 64) rfl gw_297 ?_
      refine gk_iret dX10_seamGoes_64 rfl (hB _ ((if_pos (by omega)).trans (if_neg (fun z => by first | exact z.1 k48 | (have := z.2; omega)))))
    · refine ⟨_, rfl, ?_⟩
      have okk := ok1.kind k48
      have eW1 := eW k48
      refine gk_if_ne dX10_seamGoes_51 (tgt := 62) (pc' := 54) (by decide) rfl (fun c => absurd c (by decide)) (fun _ => ?_)
      refine gk_iload4 dX10_seamGoes_54 (pc' := 56) rfl ?_
      refine gk_cS1_1 mz_Room_isSide gw_248 dX10_seamGoes_56 (pc' := 59) rfl (Nat.le_of_ble_eq_true rfl) (sp_Room_isSide (fun j56 hj56 hk56 ej56 => ?_) (fun n56 => ?_))
      · refine ⟨_, rfl, ?_⟩
        subst ej56
        have zj56 : (nI j56).toInt = j56 := nI_toInt (by omega)
        have yj56 : (nI j56).toInt.toNat = j56 := by omega
        refine gk_if_ne dX10_seamGoes_59 (tgt := 65) (pc' := 62) (by decide) rfl (fun _ => ?_) (fun c => absurd c (by decide))
        refine gk_aload0 dX10_seamGoes_65 (pc' := 66) rfl ?_
        refine gk_getf (fs := [_, _, _, _, _, _, _, _, _, _, _, _]) gF_Room_72 dX10_seamGoes_66 (pc' := 69) rfl (by assumption) rfl ?_
        refine gk_aload3 dX10_seamGoes_69 (pc' := 70) rfl ?_
        refine gk_cV0_1 mv_Seam_trace gw_673 dX10_seamGoes_70 (pc' := 73) rfl (Nat.le_of_ble_eq_true rfl) (by exact (sm0.1)) (sp_Seam_trace sm0 hp1 (by omega) (by omega) okk.2.1.1 okk.2.2.1.1 (fun h1 cs1 cl1 y1 y2 y3 => ?_))
        refine ⟨rfl, ?_⟩
        have hz := hs.scr y3 (fun c z => Or.inr (by omega)) (hrest.2.1.sm y3 ⟨cs1, cl1, _, y1⟩)
        have a1 := hz.1.2.1.obj
        have hp1 := picS hz.1.2.1 hj1
        have ht1 := ht.fr y3 (by omega) (by omega)
        have ej : j56 = sgW (pcS S (nI j1)).2.1 how := by omega
        refine gk_aload0 dX10_seamGoes_73 (pc' := 74) rfl ?_
        refine gk_getf (fs := [_, _, _, _, _, _, _, _, _, _, _, _]) gF_Room_32 dX10_seamGoes_74 (pc' := 77) rfl (by assumption) rfl ?_
        refine gk_aload3 dX10_seamGoes_77 (pc' := 78) rfl ?_
        refine gk_getf (fs := [_, _, _, _]) gF_Room_133 dX10_seamGoes_78 (pc' := 81) rfl (by exact (hp1.o)) rfl ?_
        refine gk_iload4 dX10_seamGoes_81 (pc' := 83) rfl ?_
        refine gk_aload3 dX10_seamGoes_83 (pc' := 84) rfl ?_
        refine gk_getf (fs := [_, _, _, _]) gF_Room_155 dX10_seamGoes_84 (pc' := 87) rfl (by exact (hp1.o)) rfl ?_
        refine gk_cV0_3 mv_Picture_shape gw_251 dX10_seamGoes_87 (pc' := 90) rfl (Nat.le_of_ble_eq_true rfl) (by exact (ht1.o)) (sp_Picture_shape ht1 (by omega) hp1.2.1 (fun h2 g y4 y5 => ?_))
        refine ⟨rfl, ?_⟩
        refine gk_iconst (v := 0) dX10_seamGoes_90 (pc' := 91) rfl (by decide) ?_
        refine gk_istore5 dX10_seamGoes_91 (pc' := 93) rfl (by decide) rfl ?_
        have y6 : isSm X h2 (r + 107) cs1 cl1 _ := ⟨(y5.2 _ (by omega)).trans y1.1, (y5.2 _ (by omega)).trans y1.2.1, (y5.2 _ (by omega)).trans y1.2.2⟩
        exact lp_sgY hz.1 hj1 k48 ej ⟨hj56, hk56⟩ y1 y2 hj1 (fun h' z3 z4 => by have q := hQ h'; rw [show oSeamGoes S (nI j1) how = _ from (if_pos (by omega)).trans (if_pos ⟨k48, by omega, by omega⟩), yj1, ← ej] at q; exact q z3 (hz.2.trans z4)) (pcS S (nI j1)).2.2.1 0 h2 g _ _ _ (by omega) y4 (fun i hi => absurd hi (by omega)) (y5.mono (fun _ z => Or.inl z))
      · refine ⟨_, rfl, ?_⟩
        refine gk_if_ne dX10_seamGoes_59 (tgt := 65) (pc' := 62) (by decide) rfl (fun c => absurd c (by decide)) (fun _ => ?_)
        refine gk_ldc dX10_seamGoes_62 (pc' := 64) rfl gw_297 ?_
        refine gk_iret dX10_seamGoes_64 rfl (hB _ ((if_pos (by omega)).trans (if_neg (fun z => by first | exact z.1 k48 | (have := z.2; omega)))))
  refine Gm.enter (L := [some (.ref r), some (.int p), some (.int how), none, none, none, none, none, none]) (by decide) (fun _ => trivial) (Nat.le_of_ble_eq_true rfl) rfl ?_
  refine gk_iload1 dX10_seamGoes_0 (pc' := 1) rfl ?_
  refine gk_cS1_1 mz_Room_isPicture gw_237 dX10_seamGoes_1 (pc' := 4) rfl (Nat.le_of_ble_eq_true rfl) (sp_Room_isPicture (fun j1 hj1 ej1 => ?_) (fun n1 => ?_))
  · refine ⟨_, rfl, ?_⟩
    subst ej1
    have zj1 : (nI j1).toInt = j1 := nI_toInt (by omega)
    have yj1 : (nI j1).toInt.toNat = j1 := by omega
    have hp1 := picS hm hj1
    have ok1 := okpS hm hj1
    have ap1 := hm.ap hj1
    refine gk_if_eq dX10_seamGoes_4 (tgt := 16) (pc' := 7) (by decide) rfl (fun c => absurd c (by decide)) (fun _ => ?_)
    refine gk_iload2 dX10_seamGoes_7 (pc' := 8) rfl ?_
    refine gk_iconst (v := 0) dX10_seamGoes_8 (pc' := 9) rfl (by decide) ?_
    refine gk_iconst (v := 1) dX10_seamGoes_9 (pc' := 10) rfl (by decide) ?_
    refine gk_cS1_3 mz_Room_within gw_240 dX10_seamGoes_10 (pc' := 13) rfl (Nat.le_of_ble_eq_true rfl) (sp_Room_within (fun u10 v10 => ?_) (fun n10 => ?_))
    · refine ⟨_, rfl, ?_⟩
      refine gk_if_ne dX10_seamGoes_13 (tgt := 19) (pc' := 16) (by decide) rfl (fun _ => ?_) (fun c => absurd c (by decide))
      refine gk_aload0 dX10_seamGoes_19 (pc' := 20) rfl ?_
      refine gk_getf (fs := [_, _, _, _, _, _, _, _, _, _, _, _]) gF_Room_11 dX10_seamGoes_20 (pc' := 23) rfl (by assumption) rfl ?_
      refine gk_iload1 dX10_seamGoes_23 (pc' := 24) rfl ?_
      refine gk_aald (t0 := 2) rfl dX10_seamGoes_24 (pc' := 25) rfl (by exact (a2)) (vp_in_nI hj1 (by decide)) ?_
      rw [nI_clamp (by omega), a3 j1 hj1, show va_rf (some (pc j1)) = Value.ref (pc j1) from rfl]
      refine gk_astore3 dX10_seamGoes_25 (pc' := 26) rfl (by decide) rfl ?_
      refine gk_iload2 dX10_seamGoes_26 (pc' := 27) rfl ?_
      refine gk_if_ne dX10_seamGoes_27 (tgt := 39) (pc' := 30) (by decide) rfl (fun c27 => ?_) (fun c27 => ?_)
      · have c27' : ¬ how = 0 := c27
        have w16 := hp1.1
        refine gk_aload3 dX10_seamGoes_39 (pc' := 40) rfl ?_
        refine gk_getf (fs := [_, _, _, _]) gF_Room_152 dX10_seamGoes_40 (pc' := 43) rfl (by exact (hp1.o)) rfl ?_
        refine gk_iconst (v := 1) dX10_seamGoes_43 (pc' := 44) rfl (by decide) ?_
        refine gk_iadd dX10_seamGoes_44 (pc' := 45) rfl ?_
        refine fin j1 _ hj1 rfl ⟨by omega, by omega⟩ ?_
        first | (rw [if_pos c27', Jvm.Kit.i32_sub (by rw [nI_toInt (by omega)]; omega) (by rw [nI_toInt (by omega)]; omega), nI_toInt (by omega), z1]; done) | (rw [if_neg c27', Jvm.Kit.i32_add (by rw [nI_toInt (by omega)]; omega) (by rw [nI_toInt (by omega)]; omega), nI_toInt (by omega), z1]; done)
      · have c27' : how = 0 := c27
        have w16 := hp1.1
        refine gk_aload3 dX10_seamGoes_30 (pc' := 31) rfl ?_
        refine gk_getf (fs := [_, _, _, _]) gF_Room_152 dX10_seamGoes_31 (pc' := 34) rfl (by exact (hp1.o)) rfl ?_
        refine gk_iconst (v := 1) dX10_seamGoes_34 (pc' := 35) rfl (by decide) ?_
        refine gk_isub dX10_seamGoes_35 (pc' := 36) rfl ?_
        refine gk_goto dX10_seamGoes_36 (tgt := 45) (by decide) ?_
        refine fin j1 _ hj1 rfl ⟨by omega, by omega⟩ ?_
        first | (rw [if_pos c27', Jvm.Kit.i32_sub (by rw [nI_toInt (by omega)]; omega) (by rw [nI_toInt (by omega)]; omega), nI_toInt (by omega), z1]; done) | (rw [if_neg c27', Jvm.Kit.i32_add (by rw [nI_toInt (by omega)]; omega) (by rw [nI_toInt (by omega)]; omega), nI_toInt (by omega), z1]; done)
    · refine ⟨_, rfl, ?_⟩
      refine gk_if_ne dX10_seamGoes_13 (tgt := 19) (pc' := 16) (by decide) rfl (fun c => absurd c (by decide)) (fun _ => ?_)
      refine gk_ldc dX10_seamGoes_16 (pc' := 18) rfl gw_243 ?_
      refine gk_iret dX10_seamGoes_18 rfl (hB _ (if_neg (by omega)))
  · refine ⟨_, rfl, ?_⟩
    refine gk_if_eq dX10_seamGoes_4 (tgt := 16) (pc' := 7) (by decide) rfl (fun _ => ?_) (fun c => absurd c (by decide))
    refine gk_ldc dX10_seamGoes_16 (pc' := 18) rfl gw_243 ?_
    refine gk_iret dX10_seamGoes_18 rfl (hB _ (if_neg (by omega)))
/-- only the tape changed -/
theorem Rs.tp (hs : Rs X h r F0 S pc mc) {bs : Nat → Int32} {n : Nat} (hf : fr (fun c => c = r + 110 ∨ c = r + 110 + 1) h h') (hT : isTp X h' (r + 110) bs n) : Rs X h' r F0 (S.1, S.2.1, (bs, n)) pc mc ∧ frC r F0 h h' := by
  obtain ⟨hF, hR, ⟨R, hm⟩, hS, -⟩ := hs
  have m6 := (hR.I.2.2.1 6 (by decide)).fx
  refine ⟨⟨hF, hR.fr hF hf (fun c z => ?_), ⟨R, hm.fr hf (by omega) (by omega)⟩, hS.kept (fun c z1 z2 => hf.2 c (by omega)), hT⟩, fun c n => hf.2 c (by omega)⟩
  unfold rmK
  omega
theorem cl_byteTo {v : Int32} (hR : Room X h r F0 S) (hQ : ∀ h', Room X h' r F0 (oByteTo S v).2 → frC r F0 h h' → Q (some (.int (oByteTo S v).1)) h') : Gm (kx X) mt_Room_byteTo (d + 10) b [.ref r, .int v] h Q := by
  have hB : ∀ a, oByteTo S v = (a, S) → Q (some (.int a)) h := fun a e => by
    have q := hQ h
    rw [e] at q
    exact q hR frC.rf
  obtain ⟨hF, pc, mc, hm, ⟨c8, ht⟩, hrest⟩ := hR
  have hs : Rs X h r F0 S pc mc := ⟨hF, hm, hrest⟩
  have a1 := hm.obj
  have z0 : (0 : Int32).toInt = 0 := rfl
  have z1 : (255 : Int32).toInt = 255 := rfl
  have x8 := (hm.I.1 8 (by decide)).fx
  have tp := hrest.2.2
  refine Gm.enter (L := [some (.ref r), some (.int v)]) (by decide) (fun _ => trivial) (Nat.le_of_ble_eq_true rfl) rfl ?_
  refine gk_iload1 dX10_byteTo_0 (pc' := 1) rfl ?_
  refine gk_iconst (v := 0) dX10_byteTo_1 (pc' := 2) rfl (by decide) ?_
  refine gk_sipush (v := 255) dX10_byteTo_2 (pc' := 5) rfl (by decide) ?_
  refine gk_cS1_3 mz_Room_within gw_240 dX10_byteTo_5 (pc' := 8) rfl (Nat.le_of_ble_eq_true rfl) (sp_Room_within (fun u5 v5 => ?_) (fun n5 => ?_))
  · refine ⟨_, rfl, ?_⟩
    refine gk_if_ne dX10_byteTo_8 (tgt := 14) (pc' := 11) (by decide) rfl (fun _ => ?_) (fun c => absurd c (by decide))
    refine gk_aload0 dX10_byteTo_14 (pc' := 15) rfl ?_
    refine gk_getf (fs := [_, _, _, _, _, _, _, _, _, _, _, _]) gF_Room_79 dX10_byteTo_15 (pc' := 18) rfl (by assumption) rfl ?_
    refine gk_iload1 dX10_byteTo_18 (pc' := 19) rfl ?_
    refine gk_cV1_1 mv_Tape_append gw_747 dX10_byteTo_19 (pc' := 22) rfl (Nat.le_of_ble_eq_true rfl) (by exact (tp.o)) (sp_Tape_append tp ⟨by omega, by omega⟩ (fun n8 h1 y1 y2 => ?_) (fun e8 => ?_))
    · refine ⟨_, rfl, ?_⟩
      have hz := hs.tp y2 y1
      have a1 := hz.1.2.1.obj
      have ht1 := ht.fr y2 (by omega) (by omega)
      refine gk_if_eq dX10_byteTo_22 (tgt := 35) (pc' := 25) (by decide) rfl (fun c => absurd c (by decide)) (fun _ => ?_)
      refine gk_aload0 dX10_byteTo_25 (pc' := 26) rfl ?_
      refine gk_getf (fs := [_, _, _, _, _, _, _, _, _, _, _, _]) gF_Room_79 dX10_byteTo_26 (pc' := 29) rfl (by assumption) rfl ?_
      refine gk_getf (fs := [_, _]) gF_Room_271 dX10_byteTo_29 (pc' := 32) rfl (by exact (y1.o)) rfl ?_
      refine gk_goto dX10_byteTo_32 (tgt := 37) (by decide) ?_
      refine gk_iret dX10_byteTo_37 rfl (by first | exact hB _ ((if_pos (by omega)).trans (if_pos e8)) | (have q := hQ h1; rw [show oByteTo S v = _ from (if_pos (by omega)).trans (if_neg (by omega))] at q; exact q (hz.1.room ht1) hz.2))
    · refine ⟨_, rfl, ?_⟩
      refine gk_if_eq dX10_byteTo_22 (tgt := 35) (pc' := 25) (by decide) rfl (fun _ => ?_) (fun c => absurd c (by decide))
      refine gk_ldc dX10_byteTo_35 (pc' := 37) rfl gw_425 ?_
      refine gk_iret dX10_byteTo_37 rfl (by first | exact hB _ ((if_pos (by omega)).trans (if_pos e8)) | (have q := hQ h1; rw [show oByteTo S v = _ from (if_pos (by omega)).trans (if_neg (by omega))] at q; exact q (hz.1.room ht1) hz.2))
  · refine ⟨_, rfl, ?_⟩
    refine gk_if_ne dX10_byteTo_8 (tgt := 14) (pc' := 11) (by decide) rfl (fun c => absurd c (by decide)) (fun _ => ?_)
    refine gk_ldc dX10_byteTo_11 (pc' := 13) rfl gw_243 ?_
    refine gk_iret dX10_byteTo_13 rfl (hB _ (if_neg (by omega)))
theorem cl_read {p : Int32} (hR : Room X h r F0 S) (hQ : ∀ h', Room X h' r F0 (oRead S p).2 → frC r F0 h h' → Q (some (.int (oRead S p).1)) h') : Gm (kx X) mt_Room_read (d + 10) b [.ref r, .int p] h Q := by
  have hB : ∀ a, oRead S p = (a, S) → Q (some (.int a)) h := fun a e => by
    have q := hQ h
    rw [e] at q
    exact q hR frC.rf
  obtain ⟨hF, pc, mc, hm, ⟨c8, ht⟩, hrest⟩ := hR
  have hs : Rs X h r F0 S pc mc := ⟨hF, hm, hrest⟩
  have a1 := hm.obj
  have z0 : (0 : Int32).toInt = 0 := rfl
  have x8 := (hm.I.1 8 (by decide)).fx
  have tp := hrest.2.2
  have fin : ∀ j1 h1, j1 < 8 → p = nI j1 → ((rdS S.2.2.1 S.2.2.2).1 = none → isPic X h1 (pc 8) (S.2.2.1 0) (rdW S.2.2.1) (rdT S.2.2.1) (rdS S.2.2.1 S.2.2.2).2) → (∃ k w t g, isPic X h1 (pc 8) k w t g) → fr (trA pc) h h1 → G (kx X) mt_Room_read (d + 10) b 21 [some (.ref r), some (.int p), none] [.int (match (rdS S.2.2.1 S.2.2.2).1 with | none => nI (rdW S.2.2.1 * rdT S.2.2.1) | some e => -1 - nI e)] h1 Q := by
    intro j1 h1 hj1 ep y1 y2 y3
    subst ep
    have zj1 : (nI j1).toInt = j1 := nI_toInt (by omega)
    have yj1 : (nI j1).toInt.toNat = j1 := by omega
    have hs1 := hs.tray y3 (fun c z => z)
    have fc1 := hs.trayC y3 (fun c z => z)
    have a1 := hs1.2.1.obj
    obtain ⟨tp1, tp2, f, tp3, tp4, tp5⟩ := hs1.2.2.2.2
    have nt : ∀ hz : gk_H, hz = gk_set h1 (r + 110) (.inr (8, [.ref (r + 110 + 1), .int 0])) → Rs X hz r F0 (S.1, S.2.1, (S.2.2.1, 0)) pc mc ∧ frC r F0 h1 hz := fun hz ez => by
      subst ez
      exact hs1.tp (fr.set.mono (fun _ z => Or.inl z)) ⟨by omega, fun i hi => absurd hi (by omega), f, gk_set_self, (gk_set_ne (by omega)).trans tp4, fun i hi => absurd hi (by omega)⟩
    cases hr : (rdS S.2.2.1 S.2.2.2).1 with
    | none =>
      have y1 := y1 hr
      have hok := rdS_ok tp2 hr
      have hw16 : rdW S.2.2.1 * rdT S.2.2.1 ≤ 256 := y1.area
      refine gk_istore2 dX10_read_21 (pc' := 22) rfl (by decide) rfl ?_
      refine gk_aload0 dX10_read_22 (pc' := 23) rfl ?_
      refine gk_getf (fs := [_, _, _, _, _, _, _, _, _, _, _, _]) gF_Room_79 dX10_read_23 (pc' := 26) rfl (by exact (a1)) rfl ?_
      refine gk_iconst (v := 0) dX10_read_26 (pc' := 27) rfl (by decide) ?_
      refine gk_putf (fs := [_, _]) gP_Room_271 dX10_read_27 (pc' := 30) rfl (by exact (tp3)) rfl rfl (Nat.le_of_ble_eq_true rfl) ?_
      have nt1 := nt _ rfl
      have y1' := y1.kept (gk_set_ne (a := r + 110) (e := .inr (8, [.ref (r + 110 + 1), .int 0])) (by omega)) (gk_set_ne (by omega))
      have a1 := nt1.1.2.1.obj
      refine gk_iload2 dX10_read_30 (pc' := 31) rfl ?_
      refine gk_if_lt dX10_read_31 (tgt := 39) (pc' := 34) (by decide) rfl (fun c31 => absurd c31 (nI_pos (by omega))) (fun c31 => ?_)
      refine gk_aload0 dX10_read_34 (pc' := 35) rfl ?_
      refine gk_iload1 dX10_read_35 (pc' := 36) rfl ?_
      refine gk_cV0_1 mv_Room_keepPicture gw_262 dX10_read_36 (pc' := 39) rfl (Nat.le_of_ble_eq_true rfl) (by assumption) (sp_keepP (c := (S.2.2.1 0, rdW S.2.2.1, rdT S.2.2.1, (rdS S.2.2.1 S.2.2.2).2)) nt1.1 y1' hok hj1 (fun h3 z3 z4 => ?_))
      refine ⟨rfl, ?_⟩
      refine gk_iload2 dX10_read_39 (pc' := 40) rfl ?_
      refine gk_iret dX10_read_40 rfl (by have q := hQ h3; rw [show oRead S (nI j1) = (nI (rdW S.2.2.1 * rdT S.2.2.1), (pshP S.1 j1 (S.2.2.1 0, rdW S.2.2.1, rdT S.2.2.1, (rdS S.2.2.1 S.2.2.2).2), S.2.1, (S.2.2.1, 0))) by unfold oRead; rw [if_pos (by omega), hr, yj1]] at q; exact q z3 ((fc1.trans nt1.2).trans z4))
    | some e =>
      have he := rdS_le tp1 hr
      obtain ⟨k2, w2, t2, g2, y2⟩ := y2
      have zl : (-1 - nI e).toInt = -1 - (e : Int) := by rw [Jvm.Kit.i32_sub (by rw [nI_toInt (by omega)]; have z : (-1 : Int32).toInt = -1 := rfl; omega) (by rw [nI_toInt (by omega)]; have z : (-1 : Int32).toInt = -1 := rfl; omega), nI_toInt (by omega)]; rfl
      refine gk_istore2 dX10_read_21 (pc' := 22) rfl (by decide) rfl ?_
      refine gk_aload0 dX10_read_22 (pc' := 23) rfl ?_
      refine gk_getf (fs := [_, _, _, _, _, _, _, _, _, _, _, _]) gF_Room_79 dX10_read_23 (pc' := 26) rfl (by exact (a1)) rfl ?_
      refine gk_iconst (v := 0) dX10_read_26 (pc' := 27) rfl (by decide) ?_
      refine gk_putf (fs := [_, _]) gP_Room_271 dX10_read_27 (pc' := 30) rfl (by exact (tp3)) rfl rfl (Nat.le_of_ble_eq_true rfl) ?_
      have nt1 := nt _ rfl
      have y2' : isPc X _ (pc 8) (k2, w2, t2, g2) := y2.kept (gk_set_ne (a := r + 110) (e := .inr (8, [.ref (r + 110 + 1), .int 0])) (by omega)) (gk_set_ne (by omega))
      refine gk_iload2 dX10_read_30 (pc' := 31) rfl ?_
      refine gk_if_lt dX10_read_31 (tgt := 39) (pc' := 34) (by decide) rfl (fun c31 => ?_) (fun c31 => absurd (show (-1 - nI e) < 0 by rw [pu_lt, zl, z0]; omega) c31)
      refine gk_iload2 dX10_read_39 (pc' := 40) rfl ?_
      refine gk_iret dX10_read_40 rfl (by have q := hQ (gk_set h1 (r + 110) (.inr (8, [.ref (r + 110 + 1), .int 0]))); rw [show oRead S (nI j1) = (-1 - nI e, (S.1, S.2.1, (S.2.2.1, 0))) by unfold oRead; rw [if_pos (by omega), hr]] at q; exact q (nt1.1.room y2') (fc1.trans nt1.2))
  refine Gm.enter (L := [some (.ref r), some (.int p), none]) (by decide) (fun _ => trivial) (Nat.le_of_ble_eq_true rfl) rfl ?_
  refine gk_iload1 dX10_read_0 (pc' := 1) rfl ?_
  refine gk_cS1_1 mz_Room_isPicture gw_237 dX10_read_1 (pc' := 4) rfl (Nat.le_of_ble_eq_true rfl) (sp_Room_isPicture (fun j1 hj1 ej1 => ?_) (fun n1 => ?_))
  · refine ⟨_, rfl, ?_⟩
    subst ej1
    have zj1 : (nI j1).toInt = j1 := nI_toInt (by omega)
    have yj1 : (nI j1).toInt.toNat = j1 := by omega
    have hp1 := picS hm hj1
    have ok1 := okpS hm hj1
    have ap1 := hm.ap hj1
    refine gk_if_ne dX10_read_4 (tgt := 10) (pc' := 7) (by decide) rfl (fun _ => ?_) (fun c => absurd c (by decide))
    refine gk_aload0 dX10_read_10 (pc' := 11) rfl ?_
    refine gk_getf (fs := [_, _, _, _, _, _, _, _, _, _, _, _]) gF_Room_79 dX10_read_11 (pc' := 14) rfl (by assumption) rfl ?_
    refine gk_aload0 dX10_read_14 (pc' := 15) rfl ?_
    refine gk_getf (fs := [_, _, _, _, _, _, _, _, _, _, _, _]) gF_Room_32 dX10_read_15 (pc' := 18) rfl (by assumption) rfl ?_
    refine gk_cV1_1 mv_Tape_unroll gw_725 dX10_read_18 (pc' := 21) rfl (Nat.le_of_ble_eq_true rfl) (by exact (tp.o)) (sp_Tape_unroll tp ht (by omega) (fun h1 y1 y2 y3 => ?_))
    refine ⟨_, rfl, ?_⟩
    exact fin j1 h1 hj1 rfl y1 y2 y3
  · refine ⟨_, rfl, ?_⟩
    refine gk_if_ne dX10_read_4 (tgt := 10) (pc' := 7) (by decide) rfl (fun c => absurd c (by decide)) (fun _ => ?_)
    refine gk_ldc dX10_read_7 (pc' := 9) rfl gw_243 ?_
    refine gk_iret dX10_read_9 rfl (hB _ (if_neg (by omega)))
theorem cl_undo (hR : Room X h r F0 S) (hQ : ∀ h', Room X h' r F0 (oUndo S).2 → frC r F0 h h' → Q (some (.int (oUndo S).1)) h') : Gm (kx X) mt_Room_undo (d + 10) b [.ref r] h Q := by
  have hB : ∀ a, oUndo S = (a, S) → Q (some (.int a)) h := fun a e => by
    have q := hQ h
    rw [e] at q
    exact q hR frC.rf
  obtain ⟨hF, pc, mc, ⟨⟨fst, cn, mn, om, sl, ⟨a1, ⟨f1, a2, a3⟩, ⟨f2, a4, a5⟩, ⟨f3, a6, a7⟩, a8, a9, a10⟩, ⟨c1, c2⟩, L⟩, I, t1, t2, t3, w1, w2⟩, ⟨c8, ht⟩, ⟨R, hm⟩, hS, hT⟩ := hR
  have w11 := w1.1
  have w12 := w1.2.1
  have go : 1 ≤ S.1.2.1 → ∀ h1, isHy X h1 (r + 8) fst (S.1.2.1 - 1) (S.1.2.2.1 - S.1.2.1 + 1) → fr (fun c => c = r + 8) h h1 → G (kx X) mt_Room_undo (d + 10) b 7 [some (.ref r), none] [.ref (r + 8 + 2 + 5 * ((fst + (S.1.2.1 - 1)) % 16))] h1 Q := by
    intro hn h1 y1 y2
    rw [show r + 8 + 2 + 5 * ((fst + (S.1.2.1 - 1)) % 16) = r + 10 + 5 * ((fst + (S.1.2.1 - 1)) % 16) by omega]
    have gp : ∀ j, j < 25 → pc j ≠ r + 8 ∧ pc j + 1 ≠ r + 8 := fun j hj => by have := (I.1 j hj).fx; omega
    have gm : ∀ j, j < 23 → mc j ≠ r + 8 ∧ mc j + 1 ≠ r + 8 := fun j hj => by have := (I.2.2.1 j hj).fx; omega
    refine gk_astore1 dX10_undo_7 (pc' := 8) rfl (by decide) rfl ?_
    refine gk_aload1 dX10_undo_8 (pc' := 9) rfl ?_
    refine gk_ifnonnull dX10_undo_9 (tgt := 15) (by decide) ?_
    refine gk_aload0 dX10_undo_15 (pc' := 16) rfl ?_
    refine gk_aload1 dX10_undo_16 (pc' := 17) rfl ?_
    refine gk_cV0_1 mv_Room_exchange gw_759 dX10_undo_17 (pc' := 20) rfl (Nat.le_of_ble_eq_true rfl) (by exact ((y2.2 r (by omega)).trans a1)) (sp_Room_exchange (H := S.1) (F := S.2.1) (j0 := S.1.2.1 - 1) (n' := S.1.2.1 - 1) (un' := S.1.2.2.1 - S.1.2.1 + 1) ⟨(y2.2 _ (by omega)).trans a1, ⟨f1, (y2.2 _ (by omega)).trans a2, a3⟩, ⟨f2, (y2.2 _ (by omega)).trans a4, a5⟩, ⟨f3, (y2.2 _ (by omega)).trans a6, a7⟩, y1, a9, fun i hi => (y2.2 _ (by omega)).trans (a10 i hi)⟩ ⟨fun j hj n => (c1 j hj n).fr y2 (gp j hj).1 (gp j hj).2, fun j hj n => (c2 j hj n).fr y2 (gm j hj).1 (gm j hj).2⟩ L I (t1.kept (fun c hc => y2.2 c (by omega))) (y2.1.trans t2) t3 w1 w2 (by omega) rfl (by omega) (by omega) (fun h2 pc' mc' z1 z2 z3 z4 => ?_))
    refine ⟨rfl, ?_⟩
    refine gk_iconst (v := 1) dX10_undo_20 (pc' := 21) rfl (by decide) ?_
    refine gk_iret dX10_undo_21 rfl ?_
    have q := hQ h2
    rw [show oUndo S = _ from if_neg (by omega)] at q
    have n8 := gp 8 (by decide)
    have n6 := gm 6 (by decide)
    have k8 := kpK.np (I.1 8 (by decide))
    have k6 := kpK.nm (I.2.2.1 6 (by decide))
    have ht1 := (ht.fr y2 n8.1 n8.2).fr z4 k8.1 k8.2
    have hm1 := (hm.fr y2 n6.1 n6.2).fr z4 k6.1 k6.2
    refine q ⟨hF, pc', mc', z1, ⟨c8, by rw [z2]; exact ht1⟩, ⟨R, by rw [z3]; exact hm1⟩, (hS.kept (fun c g1 g2 => y2.2 c (by omega))).kept (fun c g1 g2 => z4.2 c (by unfold kpK; omega)), (hT.kept (y2.2 _ (by omega)) (y2.2 _ (by omega))).kept (z4.2 _ (by unfold kpK; omega)) (z4.2 _ (by unfold kpK; omega))⟩ (fun c n => (z4.2 c (by unfold kpK; omega)).trans (y2.2 c (by omega)))
  refine Gm.enter (L := [some (.ref r), none]) (by decide) (fun _ => trivial) (Nat.le_of_ble_eq_true rfl) rfl ?_
  refine gk_aload0 dX10_undo_0 (pc' := 1) rfl ?_
  refine gk_getf (fs := [_, _, _, _, _, _, _, _, _, _, _, _]) gF_Room_44 dX10_undo_1 (pc' := 4) rfl (by assumption) rfl ?_
  refine gk_cV1_0 mv_History_stepBack gw_755 dX10_undo_4 (pc' := 7) rfl (Nat.le_of_ble_eq_true rfl) (by exact (a8.1)) (sp_History_stepBack a8 a9 (by omega) (by omega) (fun z => ?_) (fun z h1 y1 y2 => ?_))
  · refine ⟨_, rfl, ?_⟩
    refine gk_astoreN1 dX10_undo_7 (pc' := 8) rfl (by decide) rfl ?_
    refine gk_aloadN1 dX10_undo_8 (pc' := 9) rfl ?_
    refine gk_ifnonnullN dX10_undo_9 (pc' := 12) rfl ?_
    refine gk_ldc dX10_undo_12 (pc' := 14) rfl gw_297 ?_
    exact gk_iret dX10_undo_14 rfl (hB _ (if_pos z))
  · refine ⟨_, rfl, ?_⟩
    exact go z h1 y1 y2
  
theorem cl_redo (hR : Room X h r F0 S) (hQ : ∀ h', Room X h' r F0 (oRedo S).2 → frC r F0 h h' → Q (some (.int (oRedo S).1)) h') : Gm (kx X) mt_Room_redo (d + 10) b [.ref r] h Q := by
  have hB : ∀ a, oRedo S = (a, S) → Q (some (.int a)) h := fun a e => by
    have q := hQ h
    rw [e] at q
    exact q hR frC.rf
  obtain ⟨hF, pc, mc, ⟨⟨fst, cn, mn, om, sl, ⟨a1, ⟨f1, a2, a3⟩, ⟨f2, a4, a5⟩, ⟨f3, a6, a7⟩, a8, a9, a10⟩, ⟨c1, c2⟩, L⟩, I, t1, t2, t3, w1, w2⟩, ⟨c8, ht⟩, ⟨R, hm⟩, hS, hT⟩ := hR
  have w11 := w1.1
  have w12 := w1.2.1
  have go : 1 ≤ S.1.2.2.1 - S.1.2.1 → ∀ h1, isHy X h1 (r + 8) fst (S.1.2.1 + 1) (S.1.2.2.1 - S.1.2.1 - 1) → fr (fun c => c = r + 8) h h1 → G (kx X) mt_Room_redo (d + 10) b 7 [some (.ref r), none] [.ref (r + 8 + 2 + 5 * ((fst + S.1.2.1) % 16))] h1 Q := by
    intro hn h1 y1 y2
    rw [show r + 8 + 2 + 5 * ((fst + S.1.2.1) % 16) = r + 10 + 5 * ((fst + S.1.2.1) % 16) by omega]
    have gp : ∀ j, j < 25 → pc j ≠ r + 8 ∧ pc j + 1 ≠ r + 8 := fun j hj => by have := (I.1 j hj).fx; omega
    have gm : ∀ j, j < 23 → mc j ≠ r + 8 ∧ mc j + 1 ≠ r + 8 := fun j hj => by have := (I.2.2.1 j hj).fx; omega
    refine gk_astore1 dX10_redo_7 (pc' := 8) rfl (by decide) rfl ?_
    refine gk_aload1 dX10_redo_8 (pc' := 9) rfl ?_
    refine gk_ifnonnull dX10_redo_9 (tgt := 15) (by decide) ?_
    refine gk_aload0 dX10_redo_15 (pc' := 16) rfl ?_
    refine gk_aload1 dX10_redo_16 (pc' := 17) rfl ?_
    refine gk_cV0_1 mv_Room_exchange gw_759 dX10_redo_17 (pc' := 20) rfl (Nat.le_of_ble_eq_true rfl) (by exact ((y2.2 r (by omega)).trans a1)) (sp_Room_exchange (H := S.1) (F := S.2.1) (j0 := S.1.2.1) (n' := S.1.2.1 + 1) (un' := S.1.2.2.1 - S.1.2.1 - 1) ⟨(y2.2 _ (by omega)).trans a1, ⟨f1, (y2.2 _ (by omega)).trans a2, a3⟩, ⟨f2, (y2.2 _ (by omega)).trans a4, a5⟩, ⟨f3, (y2.2 _ (by omega)).trans a6, a7⟩, y1, a9, fun i hi => (y2.2 _ (by omega)).trans (a10 i hi)⟩ ⟨fun j hj n => (c1 j hj n).fr y2 (gp j hj).1 (gp j hj).2, fun j hj n => (c2 j hj n).fr y2 (gm j hj).1 (gm j hj).2⟩ L I (t1.kept (fun c hc => y2.2 c (by omega))) (y2.1.trans t2) t3 w1 w2 (by omega) rfl (by omega) (by omega) (fun h2 pc' mc' z1 z2 z3 z4 => ?_))
    refine ⟨rfl, ?_⟩
    refine gk_iconst (v := 1) dX10_redo_20 (pc' := 21) rfl (by decide) ?_
    refine gk_iret dX10_redo_21 rfl ?_
    have q := hQ h2
    rw [show oRedo S = _ from if_neg (by omega)] at q
    have n8 := gp 8 (by decide)
    have n6 := gm 6 (by decide)
    have k8 := kpK.np (I.1 8 (by decide))
    have k6 := kpK.nm (I.2.2.1 6 (by decide))
    have ht1 := (ht.fr y2 n8.1 n8.2).fr z4 k8.1 k8.2
    have hm1 := (hm.fr y2 n6.1 n6.2).fr z4 k6.1 k6.2
    refine q ⟨hF, pc', mc', z1, ⟨c8, by rw [z2]; exact ht1⟩, ⟨R, by rw [z3]; exact hm1⟩, (hS.kept (fun c g1 g2 => y2.2 c (by omega))).kept (fun c g1 g2 => z4.2 c (by unfold kpK; omega)), (hT.kept (y2.2 _ (by omega)) (y2.2 _ (by omega))).kept (z4.2 _ (by unfold kpK; omega)) (z4.2 _ (by unfold kpK; omega))⟩ (fun c n => (z4.2 c (by unfold kpK; omega)).trans (y2.2 c (by omega)))
  refine Gm.enter (L := [some (.ref r), none]) (by decide) (fun _ => trivial) (Nat.le_of_ble_eq_true rfl) rfl ?_
  refine gk_aload0 dX10_redo_0 (pc' := 1) rfl ?_
  refine gk_getf (fs := [_, _, _, _, _, _, _, _, _, _, _, _]) gF_Room_44 dX10_redo_1 (pc' := 4) rfl (by assumption) rfl ?_
  refine gk_cV1_0 mv_History_stepForth gw_767 dX10_redo_4 (pc' := 7) rfl (Nat.le_of_ble_eq_true rfl) (by exact (a8.1)) (sp_History_stepForth a8 a9 (by omega) (fun z => ?_) (fun z h1 y1 y2 => ?_))
  · refine ⟨_, rfl, ?_⟩
    refine gk_astoreN1 dX10_redo_7 (pc' := 8) rfl (by decide) rfl ?_
    refine gk_aloadN1 dX10_redo_8 (pc' := 9) rfl ?_
    refine gk_ifnonnullN dX10_redo_9 (pc' := 12) rfl ?_
    refine gk_ldc dX10_redo_12 (pc' := 14) rfl gw_297 ?_
    exact gk_iret dX10_redo_14 rfl (hB _ (if_pos (by omega)))
  · refine ⟨_, rfl, ?_⟩
    exact go z h1 y1 y2
  
theorem lp_standing {H : Hi} {F : Ft} (hm : Rm X h r F0 H F pc mc) (hQ : Q (some (.int (nI (stdN (cuH H) 8)))) h) : ∀ n i, i + n = 8 → G (kx X) mt_Room_standingPictures (d + 2) b 4 [some (.ref r), some (.int (nI (stdN (cuH H) i))), some (.int (nI i))] [] h Q := by
  have a1 := hm.obj
  obtain ⟨f1, a2, a3⟩ := hm.prow
  intro n
  induction n with
  | zero =>
    intro i hi
    have e : i = 8 := by omega
    subst e
    refine gk_iload2 dX10_standingPictures_4 (pc' := 5) rfl ?_
    refine gk_bipush (v := 8) dX10_standingPictures_5 (pc' := 7) rfl (by decide) ?_
    refine gk_icmp_ge dX10_standingPictures_7 (tgt := 36) (pc' := 10) (by decide) rfl (fun c7 => ?_) (fun c7 => absurd (by decide) c7)
    refine gk_iload1 dX10_standingPictures_36 (pc' := 37) rfl ?_
    refine gk_iret dX10_standingPictures_37 rfl hQ
  | succ n ih =>
    intro i hi
    have hp := hm.pic (show i < 8 by omega)
    refine gk_iload2 dX10_standingPictures_4 (pc' := 5) rfl ?_
    refine gk_bipush (v := 8) dX10_standingPictures_5 (pc' := 7) rfl (by decide) ?_
    refine gk_icmp_ge dX10_standingPictures_7 (tgt := 36) (pc' := 10) (by decide) rfl (fun c7 => absurd c7 (nI_ge (b := 8) (by omega) (by omega))) (fun c7 => ?_)
    refine gk_iload1 dX10_standingPictures_10 (pc' := 11) rfl ?_
    refine gk_aload0 dX10_standingPictures_11 (pc' := 12) rfl ?_
    refine gk_getf (fs := [_, _, _, _, _, _, _, _, _, _, _, _]) gF_Room_11 dX10_standingPictures_12 (pc' := 15) rfl (by assumption) rfl ?_
    refine gk_iload2 dX10_standingPictures_15 (pc' := 16) rfl ?_
    refine gk_aald (t0 := 2) rfl dX10_standingPictures_16 (pc' := 17) rfl (by exact (a2)) (vp_in_nI (show i < 8 by omega) (by decide)) ?_
    rw [nI_clamp (by omega), a3 i (by omega), show va_rf (some (pc i)) = Value.ref (pc i) from rfl]
    refine gk_cV1_0 mv_Picture_isMissing gw_330 dX10_standingPictures_17 (pc' := 20) rfl (Nat.le_of_ble_eq_true rfl) (by exact (hp.o)) (sp_Picture_isMissing hp (fun k17 => ?_) (fun k17 => ?_))
    · refine ⟨_, rfl, ?_⟩
      refine gk_if_eq dX10_standingPictures_20 (tgt := 27) (pc' := 23) (by decide) rfl (fun c => absurd c (by decide)) (fun _ => ?_)
      refine gk_iconst (v := 0) dX10_standingPictures_23 (pc' := 24) rfl (by decide) ?_
      refine gk_goto dX10_standingPictures_24 (tgt := 28) (by decide) ?_
      refine gk_iadd dX10_standingPictures_28 (pc' := 29) rfl ?_
      refine gk_istore1 dX10_standingPictures_29 (pc' := 30) rfl (by decide) rfl ?_
      refine gk_iinc2 (v := 1) dX10_standingPictures_30 (pc' := 33) rfl (by decide) (by decide) rfl ?_
      refine gk_goto dX10_standingPictures_33 (tgt := 4) (by decide) ?_
      rw [← nI_succ i]
      have q := ih (i + 1) (by omega)
      rw [stdN] at q
      first | (rw [if_pos k17] at q; rw [← nI_add] at q; exact q) | (rw [if_neg k17] at q; rw [← nI_add] at q; exact q)
    · refine ⟨_, rfl, ?_⟩
      refine gk_if_eq dX10_standingPictures_20 (tgt := 27) (pc' := 23) (by decide) rfl (fun _ => ?_) (fun c => absurd c (by decide))
      refine gk_iconst (v := 1) dX10_standingPictures_27 (pc' := 28) rfl (by decide) ?_
      refine gk_iadd dX10_standingPictures_28 (pc' := 29) rfl ?_
      refine gk_istore1 dX10_standingPictures_29 (pc' := 30) rfl (by decide) rfl ?_
      refine gk_iinc2 (v := 1) dX10_standingPictures_30 (pc' := 33) rfl (by decide) (by decide) rfl ?_
      refine gk_goto dX10_standingPictures_33 (tgt := 4) (by decide) ?_
      rw [← nI_succ i]
      have q := ih (i + 1) (by omega)
      rw [stdN] at q
      first | (rw [if_pos k17] at q; rw [← nI_add] at q; exact q) | (rw [if_neg k17] at q; rw [← nI_add] at q; exact q)
theorem sp_Room_standing {H : Hi} {F : Ft} (hm : Rm X h r F0 H F pc mc) (hQ : Q (some (.int (nI (stdN (cuH H) 8)))) h) : Gm (kx X) mt_Room_standingPictures (d + 2) b [.ref r] h Q := by
  refine Gm.enter (L := [some (.ref r), none, none]) (by decide) (fun _ => trivial) (Nat.le_of_ble_eq_true rfl) rfl ?_
  refine gk_iconst (v := 0) dX10_standingPictures_0 (pc' := 1) rfl (by decide) ?_
  refine gk_istore1 dX10_standingPictures_1 (pc' := 2) rfl (by decide) rfl ?_
  refine gk_iconst (v := 0) dX10_standingPictures_2 (pc' := 3) rfl (by decide) ?_
  refine gk_istore2 dX10_standingPictures_3 (pc' := 4) rfl (by decide) rfl ?_
  exact lp_standing hm hQ 8 0 (by omega)
theorem cl_count {w : Int32} (hR : Room X h r F0 S) (hQ : ∀ h', Room X h' r F0 (oCount S w).2 → frC r F0 h h' → Q (some (.int (oCount S w).1)) h') : Gm (kx X) mt_Room_count (d + 10) b [.ref r, .int w] h Q := by
  have hB : ∀ a, (oCount S w).1 = a → Q (some (.int a)) h := fun a e => by
    have q := hQ h
    rw [e] at q
    exact q hR frC.rf
  obtain ⟨hF, pc, mc, hm, ⟨c8, ht⟩, hrest⟩ := hR
  have a1 := hm.obj
  have tp := hrest.2.2
  have a8 : ∃ fst, isHy X h (r + 8) fst S.1.2.1 (S.1.2.2.1 - S.1.2.1) := by
    obtain ⟨⟨fst, cn, mn, om, sl, A, -⟩, -⟩ := hm
    exact ⟨fst, A.2.2.2.2.1⟩
  obtain ⟨fst, a8, -⟩ := a8
  refine Gm.enter (L := [some (.ref r), some (.int w)]) (by decide) (fun _ => trivial) (Nat.le_of_ble_eq_true rfl) rfl ?_
  by_cases hw : 0 ≤ w.toInt ∧ w.toInt < 5
  · obtain ⟨j, hj, rfl⟩ := pu_of (x := w) (n := 5) hw.1 hw.2 (by omega)
    clear hw
    rcases (show j = 0 ∨ j = 1 ∨ j = 2 ∨ j = 3 ∨ j = 4 by omega) with rfl | rfl | rfl | rfl | rfl
    · refine gk_iload1 dX10_count_0 (pc' := 1) rfl ?_
      refine gk_tableIn dX10_count_1 (tgt := 36) (off := 35) (by decide) (by decide) (by decide +kernel) (by decide) ?_
      refine gk_aload0 dX10_count_36 (pc' := 37) rfl ?_
      refine gk_getf (fs := [_, _, _, _, _, _, _, _, _, _, _, _]) gF_Room_27 dX10_count_37 (pc' := 40) rfl (by assumption) rfl ?_
      refine gk_iret dX10_count_40 rfl (hB _ rfl)
    · refine gk_iload1 dX10_count_0 (pc' := 1) rfl ?_
      refine gk_tableIn dX10_count_1 (tgt := 41) (off := 40) (by decide) (by decide) (by decide +kernel) (by decide) ?_
      refine gk_aload0 dX10_count_41 (pc' := 42) rfl ?_
      refine gk_cV1_0 mv_Room_standingPictures gw_775 dX10_count_42 (pc' := 45) rfl (Nat.le_of_ble_eq_true rfl) (by assumption) (sp_Room_standing hm ?_)
      refine ⟨_, rfl, ?_⟩
      refine gk_iret dX10_count_45 rfl (hB _ rfl)
    · refine gk_iload1 dX10_count_0 (pc' := 1) rfl ?_
      refine gk_tableIn dX10_count_1 (tgt := 46) (off := 45) (by decide) (by decide) (by decide +kernel) (by decide) ?_
      refine gk_aload0 dX10_count_46 (pc' := 47) rfl ?_
      refine gk_getf (fs := [_, _, _, _, _, _, _, _, _, _, _, _]) gF_Room_44 dX10_count_47 (pc' := 50) rfl (by assumption) rfl ?_
      refine gk_getf (fs := [_, _, _, _]) gF_Room_291 dX10_count_50 (pc' := 53) rfl (by exact (a8)) rfl ?_
      refine gk_iret dX10_count_53 rfl (hB _ rfl)
    · refine gk_iload1 dX10_count_0 (pc' := 1) rfl ?_
      refine gk_tableIn dX10_count_1 (tgt := 54) (off := 53) (by decide) (by decide) (by decide +kernel) (by decide) ?_
      refine gk_aload0 dX10_count_54 (pc' := 55) rfl ?_
      refine gk_getf (fs := [_, _, _, _, _, _, _, _, _, _, _, _]) gF_Room_44 dX10_count_55 (pc' := 58) rfl (by assumption) rfl ?_
      refine gk_getf (fs := [_, _, _, _]) gF_Room_294 dX10_count_58 (pc' := 61) rfl (by exact (a8)) rfl ?_
      refine gk_iret dX10_count_61 rfl (hB _ rfl)
    · refine gk_iload1 dX10_count_0 (pc' := 1) rfl ?_
      refine gk_tableIn dX10_count_1 (tgt := 62) (off := 61) (by decide) (by decide) (by decide +kernel) (by decide) ?_
      refine gk_aload0 dX10_count_62 (pc' := 63) rfl ?_
      refine gk_getf (fs := [_, _, _, _, _, _, _, _, _, _, _, _]) gF_Room_79 dX10_count_63 (pc' := 66) rfl (by assumption) rfl ?_
      refine gk_getf (fs := [_, _]) gF_Room_271 dX10_count_66 (pc' := 69) rfl (by exact (tp.o)) rfl ?_
      refine gk_iret dX10_count_69 rfl (hB _ rfl)
  · have e : (oCount S w).1 = -100001 := by
      have n : ∀ j : Nat, j < 5 → ¬ w = nI j := fun j hj q => hw (by rw [q, nI_toInt (by omega)]; omega)
      show (if w = 0 then _ else if w = 1 then _ else if w = 2 then _ else if w = 3 then _ else if w = 4 then _ else (-100001 : Int32)) = _
      rw [if_neg (show ¬ w = 0 from n 0 (by omega)), if_neg (show ¬ w = 1 from n 1 (by omega)), if_neg (show ¬ w = 2 from n 2 (by omega)), if_neg (show ¬ w = 3 from n 3 (by omega)), if_neg (show ¬ w = 4 from n 4 (by omega))]
    refine gk_iload1 dX10_count_0 (pc' := 1) rfl ?_
    refine gk_tableOut dX10_count_1 (tgt := 70) (by omega) (by decide) ?_
    refine gk_ldc dX10_count_70 (pc' := 72) rfl gw_243 ?_
    refine gk_iret dX10_count_72 rfl (hB _ e)
end OpH
