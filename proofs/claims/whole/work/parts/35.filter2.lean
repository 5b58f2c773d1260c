/-! ===== the call filter, whole ===== -/
theorem ff1_ad {F0 : Nat} {F : Ft} {k a c : Int32} : ff1 F0 (upd F.2.1 F.1 k) (upd F.2.2.1 F.1 a) (upd F.2.2.2.1 F.1 c) F.1 = if k = 7 then some (F0 + 2 * c.toInt.toNat) else if k = 6 ∨ k = 8 then some (F0 + 2 * a.toInt.toNat) else none := by
  unfold ff1
  simp only [pk_us]
theorem ff2_ad {F0 : Nat} {F : Ft} {k c : Int32} : ff2 F0 (upd F.2.1 F.1 k) (upd F.2.2.2.1 F.1 c) F.1 = if k = 6 ∨ k = 8 then some (F0 + 2 * c.toInt.toNat) else none := by
  unfold ff2
  simp only [pk_us]
theorem wfT_ad {F : Ft} {k a c : Int32} (w : wfT F) (ho : okT F k a c) (hh : hgO F k a c ≤ 4) (hN : F.1 < 24) : wfT (adF F k a c) := by
  refine ⟨by show F.1 + 1 ≤ 24; omega, fun i hi => ?_, fun i hi => ?_⟩
  · have hi : i < F.1 + 1 := hi
    show wfF (upd F.2.1 F.1 k) (upd F.2.2.1 F.1 a) (upd F.2.2.2.1 F.1 c) (fun i => if i = F.1 then hgO F k a c else F.2.2.2.2.1 i) (fun i => if i = F.1 then fun _ => 0 else F.2.2.2.2.2 i) i
    by_cases e : i = F.1
    · subst e
      unfold wfF
      simp only [pk_us, if_true]
      refine ⟨by unfold hgO; omega, hh, ?_⟩
      rcases ho with ⟨z | z, z2⟩ | z | ⟨z, z2⟩ | ⟨z, z2⟩ | ⟨z, z2⟩ | ⟨z, z2, z3⟩ | ⟨z, z2, z3⟩
      · exact Or.inl (Or.inl z)
      · exact Or.inl (Or.inr (Or.inr z))
      · exact Or.inl (Or.inr (Or.inl z))
      · exact Or.inr (Or.inl ⟨z, z2⟩)
      · exact Or.inr (Or.inr (Or.inl ⟨z, z2.1, z2.2, fun j _ => by decide⟩))
      · exact Or.inr (Or.inr (Or.inr (Or.inl ⟨z, z2.1, z2.2⟩)))
      · refine Or.inr (Or.inr (Or.inr (Or.inr (Or.inl ⟨z, by omega, by omega, ?_, ?_⟩))))
        · rw [if_neg (by omega)]; unfold hgO; rw [if_pos z]; omega
        · rw [if_neg (by omega)]; unfold hgO; rw [if_pos z, if_pos (z.elim Or.inl (fun z => Or.inr (Or.inr z)))]; omega
      · refine Or.inr (Or.inr (Or.inr (Or.inr (Or.inr ⟨z, ⟨by omega, by omega⟩, by omega, ?_⟩))))
        rw [if_neg (by omega)]; unfold hgO; rw [if_pos (Or.inr (Or.inl z) : k = 6 ∨ k = 7 ∨ k = 8)]; omega
    · have wi := w.2.1 i (by omega)
      unfold wfF at wi ⊢
      simp only [pk_un e, if_neg e]
      refine ⟨wi.1, wi.2.1, ?_⟩
      rcases wi.2.2 with z | z | z | z | z | z
      · exact Or.inl z
      · exact Or.inr (Or.inl z)
      · exact Or.inr (Or.inr (Or.inl z))
      · exact Or.inr (Or.inr (Or.inr (Or.inl z)))
      · refine Or.inr (Or.inr (Or.inr (Or.inr (Or.inl ⟨z.1, z.2.1, z.2.2.1, ?_, ?_⟩))))
        · rw [if_neg (by omega)]; exact z.2.2.2.1
        · rw [if_neg (by omega)]; exact z.2.2.2.2
      · refine Or.inr (Or.inr (Or.inr (Or.inr (Or.inr ⟨z.1, z.2.1, z.2.2.1, ?_⟩))))
        rw [if_neg (by omega)]; exact z.2.2.2
  · have hi : upd F.2.1 F.1 k i = 5 := hi
    show (upd F.2.2.1 F.1 a i).toInt.toNat < 9
    by_cases e : i = F.1
    · subst e
      rw [pk_us] at hi ⊢
      subst hi
      rcases ho with ⟨z | z, z2⟩ | z | ⟨z, z2⟩ | ⟨z, z2⟩ | ⟨z, z2⟩ | ⟨z | z, z2, z3⟩ | ⟨z, z2, z3⟩ <;> first | exact absurd z (by decide) | omega
    · rw [pk_un e] at hi ⊢
      exact w.2.2 i hi
section FlJ
variable {X : gX} {d : Nat} {h h' : gk_H} {Q : Option Value → gk_H → Prop} {r F0 : Nat} {S : St} {pc mc : Nat → Nat} {k a c : Int32}
theorem room_ad {f3 : Nat → Option Nat} (hF : r + 160 ≤ F0) (hm : Rm X h r F0 S.1 S.2.1 pc mc) (ht : ∃ c, isPc X h (pc 8) c) (hrest : (∃ R, isMk X h (mc 6) R) ∧ Sc X h r ∧ isTp X h (r + 110) S.2.2.1 S.2.2.2) (ho : okT S.2.1 k a c) (hh : hgO S.2.1 k a c ≤ 4) (hN : S.2.1.1 < 24) (a7 : ∀ p, p < S.2.1.1 → f3 p = some (F0 + 2 * p)) (g0 : h'.1 r = some (rmO r (S.2.1.1 + 1) (pc 8) (mc 6))) (g3 : h'.1 (r + 3) = some (cR X 4 24 (va_up f3 S.2.1.1 (some (F0 + 2 * S.2.1.1)))))
    (gl : isFl X h' (F0 + 2 * S.2.1.1) k a c (hgO S.2.1 k a c) (if k = 7 then some (F0 + 2 * c.toInt.toNat) else if k = 6 ∨ k = 8 then some (F0 + 2 * a.toInt.toNat) else none) (if k = 6 ∨ k = 8 then some (F0 + 2 * c.toInt.toNat) else none) (fun _ => 0)) (gx : ∀ c, c ≠ r → c ≠ r + 3 → c ≠ F0 + 2 * S.2.1.1 → c ≠ F0 + 2 * S.2.1.1 + 1 → h'.1 c = h.1 c) (gs : h'.2 = F0 + 2 * S.2.1.1 + 2) : Room X h' r F0 (S.1, adF S.2.1 k a c, S.2.2) := by
  obtain ⟨⟨fst, cn, mn, om, sl, ⟨a1, ⟨f1, a2, a3⟩, ⟨f2, a4, a5⟩, -, a8, a9, a10⟩, ⟨c1, c2⟩, L⟩, I, t1, t2, t3, w1, w2⟩ := hm
  obtain ⟨⟨R, hm6⟩, hS, hT⟩ := hrest
  obtain ⟨c8, ht⟩ := ht
  have gp : ∀ q, q < 25 → h'.1 (pc q) = h.1 (pc q) ∧ h'.1 (pc q + 1) = h.1 (pc q + 1) := fun q hq => by have := (I.1 q hq).fx; exact ⟨gx _ (by omega) (by omega) (by omega) (by omega), gx _ (by omega) (by omega) (by omega) (by omega)⟩
  have gm : ∀ q, q < 23 → h'.1 (mc q) = h.1 (mc q) ∧ h'.1 (mc q + 1) = h.1 (mc q + 1) := fun q hq => by have := (I.2.2.1 q hq).fx; exact ⟨gx _ (by omega) (by omega) (by omega) (by omega), gx _ (by omega) (by omega) (by omega) (by omega)⟩
  refine ⟨hF, pc, mc, ⟨⟨fst, cn, mn, om, sl, ⟨g0, ⟨f1, (gx _ (by omega) (by omega) (by omega) (by omega)).trans a2, a3⟩, ⟨f2, (gx _ (by omega) (by omega) (by omega) (by omega)).trans a4, a5⟩, ⟨_, g3, fun p hp => ?_⟩, a8.kept (gx _ (by omega) (by omega) (by omega) (by omega)) (gx _ (by omega) (by omega) (by omega) (by omega)), a9, fun i hi => (gx _ (by omega) (by omega) (by omega) (by omega)).trans (a10 i hi)⟩, ⟨fun q hq n => (c1 q hq n).kept (gp q hq).1 (gp q hq).2, fun q hq n => (c2 q hq n).kept (gm q hq).1 (gm q hq).2⟩, L⟩, I, fun q hq => ?_, by show h'.2 = F0 + 2 * (S.2.1.1 + 1); omega, t3, w1, wfT_ad w2 ho hh hN⟩, ⟨c8, ht.kept (gp 8 (by decide)).1 (gp 8 (by decide)).2⟩, ⟨R, hm6.kept (gm 6 (by decide)).1 (gm 6 (by decide)).2⟩, hS.kept (fun c z1 z2 => gx _ (by omega) (by omega) (by omega) (by omega)), hT.kept (gx _ (by omega) (by omega) (by omega) (by omega)) (gx _ (by omega) (by omega) (by omega) (by omega))⟩
  · have hp : p < S.2.1.1 + 1 := hp
    show (if p = S.2.1.1 then some (F0 + 2 * S.2.1.1) else f3 p) = some (F0 + 2 * p)
    by_cases e : p = S.2.1.1
    · rw [if_pos e, e]
    · rw [if_neg e]; exact a7 p (by omega)
  · have hq : q < S.2.1.1 + 1 := hq
    show isFl X h' (F0 + 2 * q) (upd S.2.1.2.1 S.2.1.1 k q) (upd S.2.1.2.2.1 S.2.1.1 a q) (upd S.2.1.2.2.2.1 S.2.1.1 c q) (if q = S.2.1.1 then hgO S.2.1 k a c else S.2.1.2.2.2.2.1 q) (ff1 F0 (upd S.2.1.2.1 S.2.1.1 k) (upd S.2.1.2.2.1 S.2.1.1 a) (upd S.2.1.2.2.2.1 S.2.1.1 c) q) (ff2 F0 (upd S.2.1.2.1 S.2.1.1 k) (upd S.2.1.2.2.2.1 S.2.1.1 c) q) (if q = S.2.1.1 then fun _ => 0 else S.2.1.2.2.2.2.2 q)
    by_cases e : q = S.2.1.1
    · subst e
      rw [ff1_ad, ff2_ad, pk_us, pk_us, pk_us, if_pos rfl, if_pos rfl]
      exact gl
    · have := (t1 q (by omega)).kept (h' := h') (gx _ (by omega) (by omega) (by omega) (by omega)) (gx _ (by omega) (by omega) (by omega) (by omega))
      unfold ff1 ff2 at this ⊢
      rw [pk_un e, pk_un e, pk_un e, if_neg e, if_neg e]
      exact this
theorem fl_108A (hF : r + 160 ≤ F0) (hm : Rm X h r F0 S.1 S.2.1 pc mc) (ht : ∃ c, isPc X h (pc 8) c) (hrest : (∃ R, isMk X h (mc 6) R) ∧ Sc X h r ∧ isTp X h (r + 110) S.2.2.1 S.2.2.2) (ho : okT S.2.1 k a c) (hk : k = 7) (hB : ∀ a0, oFilter S k a c = (a0, S) → Q (some (.int a0)) h) (hQ : ∀ h', Room X h' r F0 (oFilter S k a c).2 → frC r F0 h h' → Q (some (.int (oFilter S k a c).1)) h') : G (kx X) mt_Room_filter (d + 4) (2, 16) 108 [some (.ref r), some (.int k), some (.int a), some (.int c), some (.ref (F0 + 2 * c.toInt.toNat)), some (.null), some (.int (nI (hgO S.2.1 k a c)))] [] h Q := by
  have a1 := hm.obj
  obtain ⟨f3, a6, a7⟩ := hm.frow
  have t2 := hm.2.2.2.1
  have tw := hm.2.2.2.2.2.2
  have hb : hgO S.2.1 k a c < 1000 := by
    have u : ∀ z : Int32, isF S.2.1 z → S.2.1.2.2.2.2.1 z.toInt.toNat ≤ 4 := fun z hz => (tw.2.1 z.toInt.toNat (by omega)).2.1
    unfold hgO
    rcases ho with ⟨z | z, z2⟩ | z | ⟨z, z2⟩ | ⟨z, z2⟩ | ⟨z, z2⟩ | ⟨z, z2, z3⟩ | ⟨z, z2, z3⟩
    · rw [z]; simp
    · rw [z]; simp
    · rw [z]; simp
    · rw [z]; simp
    · rw [z]; simp
    · rw [z]; simp
    · have := u a z2
      have := u c z3
      rw [if_pos z]
      split <;> omega
    · have := u c z3
      rw [if_neg (by rw [z]; decide), if_pos (Or.inr (Or.inl z))]; omega
  have z4 : (4 : Int32).toInt = 4 := rfl
  have z24 : (24 : Int32).toInt = 24 := rfl
  have zN : (nI S.2.1.1).toInt = S.2.1.1 := nI_toInt (by have := tw.1; omega)
  have tw1 := tw.1
  refine gk_iload6 dX10_filter_108 (pc' := 110) rfl ?_
  refine gk_iconst (v := 4) dX10_filter_110 (pc' := 111) rfl (by decide) ?_
  refine gk_icmp_le dX10_filter_111 (tgt := 117) (pc' := 114) (by decide) rfl (fun c111 => ?_) (fun c111 => ?_)
  · rw [pu_le, nI_toInt (by omega), z4] at c111
    refine gk_aload0 dX10_filter_117 (pc' := 118) rfl ?_
    refine gk_getf (fs := [_, _, _, _, _, _, _, _, _, _, _, _]) gF_Room_27 dX10_filter_118 (pc' := 121) rfl (by assumption) rfl ?_
    refine gk_bipush (v := 24) dX10_filter_121 (pc' := 123) rfl (by decide) ?_
    refine gk_icmp_lt dX10_filter_123 (tgt := 129) (pc' := 126) (by decide) rfl (fun c123 => ?_) (fun c123 => ?_)
    · rw [pu_lt, zN, z24] at c123
      refine gk_aload0 dX10_filter_129 (pc' := 130) rfl ?_
      refine gk_getf (fs := [_, _, _, _, _, _, _, _, _, _, _, _]) gF_Room_23 dX10_filter_130 (pc' := 133) rfl (by assumption) rfl ?_
      refine gk_aload0 dX10_filter_133 (pc' := 134) rfl ?_
      refine gk_getf (fs := [_, _, _, _, _, _, _, _, _, _, _, _]) gF_Room_27 dX10_filter_134 (pc' := 137) rfl (by assumption) rfl ?_
      refine gk_newc (N := 7) (bc := 1) (bs := 9) gC_Room_21 dX10_filter_137 (pc' := 140) rfl ?_
      refine gk_dup dX10_filter_140 (pc' := 141) rfl rfl ?_
      refine gk_iload1 dX10_filter_141 (pc' := 142) rfl ?_
      refine gk_iload2 dX10_filter_142 (pc' := 143) rfl ?_
      refine gk_iload3 dX10_filter_143 (pc' := 144) rfl ?_
      refine gk_iload6 dX10_filter_144 (pc' := 146) rfl ?_
      refine gk_aload4 dX10_filter_146 (pc' := 148) rfl ?_
      refine gk_aloadN5 dX10_filter_148 (pc' := 150) rfl ?_
      refine gk_cI_6 (b' := (1, 9)) (b2 := (0, 0)) mi_Filter_init gw_427 dX10_filter_150 (pc' := 153) rfl (Nat.le_of_ble_eq_true rfl) (by first | decide | (dsimp only; omega)) (by first | decide | (dsimp only; omega)) (sp_Filter_initA gk_new_self rfl (fun h2 y1 y2 y3 => ?_))
      refine ⟨rfl, ?_⟩
      have e3 : h2.1 (r + 3) = some (cR X 4 24 f3) := (y2 _ (by omega) (by omega)).trans ((gk_new_ne (by omega)).trans a6)
      have e1 : h2.1 r = some (rmO r S.2.1.1 (pc 8) (mc 6)) := (y2 _ (by omega) (by omega)).trans ((gk_new_ne (by omega)).trans a1)
      refine gk_aast (t0 := 4) rfl (r := (RX2, TX2, 7)) rfl dX10_filter_153 (pc' := 154) rfl (by exact (e3)) (by exact (y1.1)) (vp_in_nI (show S.2.1.1 < 24 by omega) (by decide)) ?_
      rw [nI_clamp (by omega)]
      refine gk_aload0 dX10_filter_154 (pc' := 155) rfl ?_
      refine gk_dup dX10_filter_155 (pc' := 156) rfl rfl ?_
      refine gk_getf (fs := [_, _, _, _, _, _, _, _, _, _, _, _]) gF_Room_27 dX10_filter_156 (pc' := 159) rfl (by exact ((gk_set_ne (by omega)).trans e1)) rfl ?_
      refine gk_iconst (v := 1) dX10_filter_159 (pc' := 160) rfl (by decide) ?_
      refine gk_iadd dX10_filter_160 (pc' := 161) rfl ?_
      rw [← nI_succ]
      refine gk_putf (fs := [_, _, _, _, _, _, _, _, _, _, _, _]) gP_Room_27 dX10_filter_161 (pc' := 164) rfl (by exact ((gk_set_ne (by omega)).trans e1)) rfl rfl (Nat.le_of_ble_eq_true rfl) ?_
      refine gk_aload0 dX10_filter_164 (pc' := 165) rfl ?_
      refine gk_getf (fs := [_, _, _, _, _, _, _, _, _, _, _, _]) gF_Room_27 dX10_filter_165 (pc' := 168) rfl (by exact (gk_set_self)) rfl ?_
      refine gk_iconst (v := 1) dX10_filter_168 (pc' := 169) rfl (by decide) ?_
      refine gk_isub dX10_filter_169 (pc' := 170) rfl ?_
      rw [nI_pred]
      refine gk_iret dX10_filter_170 rfl ?_
      rw [t2] at y1 y2
      refine (fun (h5 : gk_H) (g0 : h5.1 r = some (rmO r (S.2.1.1 + 1) (pc 8) (mc 6))) (g3 : h5.1 (r + 3) = some (cR X 4 24 (va_up f3 S.2.1.1 (some (F0 + 2 * S.2.1.1))))) (gx : ∀ c, c ≠ r → c ≠ r + 3 → h5.1 c = h2.1 c) (gs : h5.2 = h2.2) => (?_ : Q (some (.int (nI S.2.1.1))) h5)) _ gk_set_self (by rw [gk_set_ne (by omega), gk_set_self, t2]) (fun c n1 n2 => (gk_set_ne n1).trans (gk_set_ne n2)) rfl
      have gy : ∀ c, c ≠ r → c ≠ r + 3 → c ≠ F0 + 2 * S.2.1.1 → c ≠ F0 + 2 * S.2.1.1 + 1 → h5.1 c = h.1 c := fun c n1 n2 n3 n4 => (gx c n1 n2).trans ((y2 c n3 n4).trans (gk_new_ne (by omega)))
      have gl := y1.kept (h' := h5) (gx _ (by omega) (by omega)) (gx _ (by omega) (by omega))
      clear y1
      have y1 := gl
      have q := hQ h5
      rw [show oFilter S k a c = _ from (if_pos ⟨ho, by omega⟩).trans (if_neg (by omega))] at q
      exact q (room_ad hF hm ht hrest ho (by omega) (by omega) a7 g0 g3 (by rw [if_pos hk, if_neg (by rw [hk]; decide)]; exact y1) gy (by rw [gs, y3]; omega)) (fun c n => gy c (by omega) (by omega) (by omega) (by omega))
    · rw [pu_lt, zN, z24] at c123
      refine gk_ldc dX10_filter_126 (pc' := 128) rfl gw_425 ?_
      refine gk_iret dX10_filter_128 rfl (hB _ ((if_pos ⟨ho, by omega⟩).trans (if_pos (by omega))))
  · rw [pu_le, nI_toInt (by omega), z4] at c111
    refine gk_ldc dX10_filter_114 (pc' := 116) rfl gw_243 ?_
    refine gk_iret dX10_filter_116 rfl (hB _ (if_neg (fun z => by have := z.2; omega)))
theorem fl_108B (hF : r + 160 ≤ F0) (hm : Rm X h r F0 S.1 S.2.1 pc mc) (ht : ∃ c, isPc X h (pc 8) c) (hrest : (∃ R, isMk X h (mc 6) R) ∧ Sc X h r ∧ isTp X h (r + 110) S.2.2.1 S.2.2.2) (ho : okT S.2.1 k a c) (hk : k = 6 ∨ k = 8) (hB : ∀ a0, oFilter S k a c = (a0, S) → Q (some (.int a0)) h) (hQ : ∀ h', Room X h' r F0 (oFilter S k a c).2 → frC r F0 h h' → Q (some (.int (oFilter S k a c).1)) h') : G (kx X) mt_Room_filter (d + 4) (2, 16) 108 [some (.ref r), some (.int k), some (.int a), some (.int c), some (.ref (F0 + 2 * a.toInt.toNat)), some (.ref (F0 + 2 * c.toInt.toNat)), some (.int (nI (hgO S.2.1 k a c)))] [] h Q := by
  have a1 := hm.obj
  obtain ⟨f3, a6, a7⟩ := hm.frow
  have t2 := hm.2.2.2.1
  have tw := hm.2.2.2.2.2.2
  have hb : hgO S.2.1 k a c < 1000 := by
    have u : ∀ z : Int32, isF S.2.1 z → S.2.1.2.2.2.2.1 z.toInt.toNat ≤ 4 := fun z hz => (tw.2.1 z.toInt.toNat (by omega)).2.1
    unfold hgO
    rcases ho with ⟨z | z, z2⟩ | z | ⟨z, z2⟩ | ⟨z, z2⟩ | ⟨z, z2⟩ | ⟨z, z2, z3⟩ | ⟨z, z2, z3⟩
    · rw [z]; simp
    · rw [z]; simp
    · rw [z]; simp
    · rw [z]; simp
    · rw [z]; simp
    · rw [z]; simp
    · have := u a z2
      have := u c z3
      rw [if_pos z]
      split <;> omega
    · have := u c z3
      rw [if_neg (by rw [z]; decide), if_pos (Or.inr (Or.inl z))]; omega
  have z4 : (4 : Int32).toInt = 4 := rfl
  have z24 : (24 : Int32).toInt = 24 := rfl
  have zN : (nI S.2.1.1).toInt = S.2.1.1 := nI_toInt (by have := tw.1; omega)
  have tw1 := tw.1
  refine gk_iload6 dX10_filter_108 (pc' := 110) rfl ?_
  refine gk_iconst (v := 4) dX10_filter_110 (pc' := 111) rfl (by decide) ?_
  refine gk_icmp_le dX10_filter_111 (tgt := 117) (pc' := 114) (by decide) rfl (fun c111 => ?_) (fun c111 => ?_)
  · rw [pu_le, nI_toInt (by omega), z4] at c111
    refine gk_aload0 dX10_filter_117 (pc' := 118) rfl ?_
    refine gk_getf (fs := [_, _, _, _, _, _, _, _, _, _, _, _]) gF_Room_27 dX10_filter_118 (pc' := 121) rfl (by assumption) rfl ?_
    refine gk_bipush (v := 24) dX10_filter_121 (pc' := 123) rfl (by decide) ?_
    refine gk_icmp_lt dX10_filter_123 (tgt := 129) (pc' := 126) (by decide) rfl (fun c123 => ?_) (fun c123 => ?_)
    · rw [pu_lt, zN, z24] at c123
      refine gk_aload0 dX10_filter_129 (pc' := 130) rfl ?_
      refine gk_getf (fs := [_, _, _, _, _, _, _, _, _, _, _, _]) gF_Room_23 dX10_filter_130 (pc' := 133) rfl (by assumption) rfl ?_
      refine gk_aload0 dX10_filter_133 (pc' := 134) rfl ?_
      refine gk_getf (fs := [_, _, _, _, _, _, _, _, _, _, _, _]) gF_Room_27 dX10_filter_134 (pc' := 137) rfl (by assumption) rfl ?_
      refine gk_newc (N := 7) (bc := 1) (bs := 9) gC_Room_21 dX10_filter_137 (pc' := 140) rfl ?_
      refine gk_dup dX10_filter_140 (pc' := 141) rfl rfl ?_
      refine gk_iload1 dX10_filter_141 (pc' := 142) rfl ?_
      refine gk_iload2 dX10_filter_142 (pc' := 143) rfl ?_
      refine gk_iload3 dX10_filter_143 (pc' := 144) rfl ?_
      refine gk_iload6 dX10_filter_144 (pc' := 146) rfl ?_
      refine gk_aload4 dX10_filter_146 (pc' := 148) rfl ?_
      refine gk_aload5 dX10_filter_148 (pc' := 150) rfl ?_
      refine gk_cI_6 (b' := (1, 9)) (b2 := (0, 0)) mi_Filter_init gw_427 dX10_filter_150 (pc' := 153) rfl (Nat.le_of_ble_eq_true rfl) (by first | decide | (dsimp only; omega)) (by first | decide | (dsimp only; omega)) (sp_Filter_initB gk_new_self rfl (fun h2 y1 y2 y3 => ?_))
      refine ⟨rfl, ?_⟩
      have e3 : h2.1 (r + 3) = some (cR X 4 24 f3) := (y2 _ (by omega) (by omega)).trans ((gk_new_ne (by omega)).trans a6)
      have e1 : h2.1 r = some (rmO r S.2.1.1 (pc 8) (mc 6)) := (y2 _ (by omega) (by omega)).trans ((gk_new_ne (by omega)).trans a1)
      refine gk_aast (t0 := 4) rfl (r := (RX2, TX2, 7)) rfl dX10_filter_153 (pc' := 154) rfl (by exact (e3)) (by exact (y1.1)) (vp_in_nI (show S.2.1.1 < 24 by omega) (by decide)) ?_
      rw [nI_clamp (by omega)]
      refine gk_aload0 dX10_filter_154 (pc' := 155) rfl ?_
      refine gk_dup dX10_filter_155 (pc' := 156) rfl rfl ?_
      refine gk_getf (fs := [_, _, _, _, _, _, _, _, _, _, _, _]) gF_Room_27 dX10_filter_156 (pc' := 159) rfl (by exact ((gk_set_ne (by omega)).trans e1)) rfl ?_
      refine gk_iconst (v := 1) dX10_filter_159 (pc' := 160) rfl (by decide) ?_
      refine gk_iadd dX10_filter_160 (pc' := 161) rfl ?_
      rw [← nI_succ]
      refine gk_putf (fs := [_, _, _, _, _, _, _, _, _, _, _, _]) gP_Room_27 dX10_filter_161 (pc' := 164) rfl (by exact ((gk_set_ne (by omega)).trans e1)) rfl rfl (Nat.le_of_ble_eq_true rfl) ?_
      refine gk_aload0 dX10_filter_164 (pc' := 165) rfl ?_
      refine gk_getf (fs := [_, _, _, _, _, _, _, _, _, _, _, _]) gF_Room_27 dX10_filter_165 (pc' := 168) rfl (by exact (gk_set_self)) rfl ?_
      refine gk_iconst (v := 1) dX10_filter_168 (pc' := 169) rfl (by decide) ?_
      refine gk_isub dX10_filter_169 (pc' := 170) rfl ?_
      rw [nI_pred]
      refine gk_iret dX10_filter_170 rfl ?_
      rw [t2] at y1 y2
      refine (fun (h5 : gk_H) (g0 : h5.1 r = some (rmO r (S.2.1.1 + 1) (pc 8) (mc 6))) (g3 : h5.1 (r + 3) = some (cR X 4 24 (va_up f3 S.2.1.1 (some (F0 + 2 * S.2.1.1))))) (gx : ∀ c, c ≠ r → c ≠ r + 3 → h5.1 c = h2.1 c) (gs : h5.2 = h2.2) => (?_ : Q (some (.int (nI S.2.1.1))) h5)) _ gk_set_self (by rw [gk_set_ne (by omega), gk_set_self, t2]) (fun c n1 n2 => (gk_set_ne n1).trans (gk_set_ne n2)) rfl
      have gy : ∀ c, c ≠ r → c ≠ r + 3 → c ≠ F0 + 2 * S.2.1.1 → c ≠ F0 + 2 * S.2.1.1 + 1 → h5.1 c = h.1 c := fun c n1 n2 n3 n4 => (gx c n1 n2).trans ((y2 c n3 n4).trans (gk_new_ne (by omega)))
      have gl := y1.kept (h' := h5) (gx _ (by omega) (by omega)) (gx _ (by omega) (by omega))
      clear y1
      have y1 := gl
      have q := hQ h5
      rw [show oFilter S k a c = _ from (if_pos ⟨ho, by omega⟩).trans (if_neg (by omega))] at q
      exact q (room_ad hF hm ht hrest ho (by omega) (by omega) a7 g0 g3 (by rw [if_neg (by rcases hk with z | z <;> rw [z] <;> decide), if_pos hk, if_pos hk]; exact y1) gy (by rw [gs, y3]; omega)) (fun c n => gy c (by omega) (by omega) (by omega) (by omega))
    · rw [pu_lt, zN, z24] at c123
      refine gk_ldc dX10_filter_126 (pc' := 128) rfl gw_425 ?_
      refine gk_iret dX10_filter_128 rfl (hB _ ((if_pos ⟨ho, by omega⟩).trans (if_pos (by omega))))
  · rw [pu_le, nI_toInt (by omega), z4] at c111
    refine gk_ldc dX10_filter_114 (pc' := 116) rfl gw_243 ?_
    refine gk_iret dX10_filter_116 rfl (hB _ (if_neg (fun z => by have := z.2; omega)))
theorem fl_108C (hF : r + 160 ≤ F0) (hm : Rm X h r F0 S.1 S.2.1 pc mc) (ht : ∃ c, isPc X h (pc 8) c) (hrest : (∃ R, isMk X h (mc 6) R) ∧ Sc X h r ∧ isTp X h (r + 110) S.2.2.1 S.2.2.2) (ho : okT S.2.1 k a c) (hk : ¬ (k = 6 ∨ k = 7 ∨ k = 8)) (hB : ∀ a0, oFilter S k a c = (a0, S) → Q (some (.int a0)) h) (hQ : ∀ h', Room X h' r F0 (oFilter S k a c).2 → frC r F0 h h' → Q (some (.int (oFilter S k a c).1)) h') : G (kx X) mt_Room_filter (d + 4) (2, 16) 108 [some (.ref r), some (.int k), some (.int a), some (.int c), some (.null), some (.null), some (.int (nI (hgO S.2.1 k a c)))] [] h Q := by
  have a1 := hm.obj
  obtain ⟨f3, a6, a7⟩ := hm.frow
  have t2 := hm.2.2.2.1
  have tw := hm.2.2.2.2.2.2
  have hb : hgO S.2.1 k a c < 1000 := by
    have u : ∀ z : Int32, isF S.2.1 z → S.2.1.2.2.2.2.1 z.toInt.toNat ≤ 4 := fun z hz => (tw.2.1 z.toInt.toNat (by omega)).2.1
    unfold hgO
    rcases ho with ⟨z | z, z2⟩ | z | ⟨z, z2⟩ | ⟨z, z2⟩ | ⟨z, z2⟩ | ⟨z, z2, z3⟩ | ⟨z, z2, z3⟩
    · rw [z]; simp
    · rw [z]; simp
    · rw [z]; simp
    · rw [z]; simp
    · rw [z]; simp
    · rw [z]; simp
    · have := u a z2
      have := u c z3
      rw [if_pos z]
      split <;> omega
    · have := u c z3
      rw [if_neg (by rw [z]; decide), if_pos (Or.inr (Or.inl z))]; omega
  have z4 : (4 : Int32).toInt = 4 := rfl
  have z24 : (24 : Int32).toInt = 24 := rfl
  have zN : (nI S.2.1.1).toInt = S.2.1.1 := nI_toInt (by have := tw.1; omega)
  have tw1 := tw.1
  refine gk_iload6 dX10_filter_108 (pc' := 110) rfl ?_
  refine gk_iconst (v := 4) dX10_filter_110 (pc' := 111) rfl (by decide) ?_
  refine gk_icmp_le dX10_filter_111 (tgt := 117) (pc' := 114) (by decide) rfl (fun c111 => ?_) (fun c111 => ?_)
  · rw [pu_le, nI_toInt (by omega), z4] at c111
    refine gk_aload0 dX10_filter_117 (pc' := 118) rfl ?_
    refine gk_getf (fs := [_, _, _, _, _, _, _, _, _, _, _, _]) gF_Room_27 dX10_filter_118 (pc' := 121) rfl (by assumption) rfl ?_
    refine gk_bipush (v := 24) dX10_filter_121 (pc' := 123) rfl (by decide) ?_
    refine gk_icmp_lt dX10_filter_123 (tgt := 129) (pc' := 126) (by decide) rfl (fun c123 => ?_) (fun c123 => ?_)
    · rw [pu_lt, zN, z24] at c123
      refine gk_aload0 dX10_filter_129 (pc' := 130) rfl ?_
      refine gk_getf (fs := [_, _, _, _, _, _, _, _, _, _, _, _]) gF_Room_23 dX10_filter_130 (pc' := 133) rfl (by assumption) rfl ?_
      refine gk_aload0 dX10_filter_133 (pc' := 134) rfl ?_
      refine gk_getf (fs := [_, _, _, _, _, _, _, _, _, _, _, _]) gF_Room_27 dX10_filter_134 (pc' := 137) rfl (by assumption) rfl ?_
      refine gk_newc (N := 7) (bc := 1) (bs := 9) gC_Room_21 dX10_filter_137 (pc' := 140) rfl ?_
      refine gk_dup dX10_filter_140 (pc' := 141) rfl rfl ?_
      refine gk_iload1 dX10_filter_141 (pc' := 142) rfl ?_
      refine gk_iload2 dX10_filter_142 (pc' := 143) rfl ?_
      refine gk_iload3 dX10_filter_143 (pc' := 144) rfl ?_
      refine gk_iload6 dX10_filter_144 (pc' := 146) rfl ?_
      refine gk_aloadN4 dX10_filter_146 (pc' := 148) rfl ?_
      refine gk_aloadN5 dX10_filter_148 (pc' := 150) rfl ?_
      refine gk_cI_6 (b' := (1, 9)) (b2 := (0, 0)) mi_Filter_init gw_427 dX10_filter_150 (pc' := 153) rfl (Nat.le_of_ble_eq_true rfl) (by first | decide | (dsimp only; omega)) (by first | decide | (dsimp only; omega)) (sp_Filter_initC gk_new_self rfl (fun h2 y1 y2 y3 => ?_))
      refine ⟨rfl, ?_⟩
      have e3 : h2.1 (r + 3) = some (cR X 4 24 f3) := (y2 _ (by omega) (by omega)).trans ((gk_new_ne (by omega)).trans a6)
      have e1 : h2.1 r = some (rmO r S.2.1.1 (pc 8) (mc 6)) := (y2 _ (by omega) (by omega)).trans ((gk_new_ne (by omega)).trans a1)
      refine gk_aast (t0 := 4) rfl (r := (RX2, TX2, 7)) rfl dX10_filter_153 (pc' := 154) rfl (by exact (e3)) (by exact (y1.1)) (vp_in_nI (show S.2.1.1 < 24 by omega) (by decide)) ?_
      rw [nI_clamp (by omega)]
      refine gk_aload0 dX10_filter_154 (pc' := 155) rfl ?_
      refine gk_dup dX10_filter_155 (pc' := 156) rfl rfl ?_
      refine gk_getf (fs := [_, _, _, _, _, _, _, _, _, _, _, _]) gF_Room_27 dX10_filter_156 (pc' := 159) rfl (by exact ((gk_set_ne (by omega)).trans e1)) rfl ?_
      refine gk_iconst (v := 1) dX10_filter_159 (pc' := 160) rfl (by decide) ?_
      refine gk_iadd dX10_filter_160 (pc' := 161) rfl ?_
      rw [← nI_succ]
      refine gk_putf (fs := [_, _, _, _, _, _, _, _, _, _, _, _]) gP_Room_27 dX10_filter_161 (pc' := 164) rfl (by exact ((gk_set_ne (by omega)).trans e1)) rfl rfl (Nat.le_of_ble_eq_true rfl) ?_
      refine gk_aload0 dX10_filter_164 (pc' := 165) rfl ?_
      refine gk_getf (fs := [_, _, _, _, _, _, _, _, _, _, _, _]) gF_Room_27 dX10_filter_165 (pc' := 168) rfl (by exact (gk_set_self)) rfl ?_
      refine gk_iconst (v := 1) dX10_filter_168 (pc' := 169) rfl (by decide) ?_
      refine gk_isub dX10_filter_169 (pc' := 170) rfl ?_
      rw [nI_pred]
      refine gk_iret dX10_filter_170 rfl ?_
      rw [t2] at y1 y2
      refine (fun (h5 : gk_H) (g0 : h5.1 r = some (rmO r (S.2.1.1 + 1) (pc 8) (mc 6))) (g3 : h5.1 (r + 3) = some (cR X 4 24 (va_up f3 S.2.1.1 (some (F0 + 2 * S.2.1.1))))) (gx : ∀ c, c ≠ r → c ≠ r + 3 → h5.1 c = h2.1 c) (gs : h5.2 = h2.2) => (?_ : Q (some (.int (nI S.2.1.1))) h5)) _ gk_set_self (by rw [gk_set_ne (by omega), gk_set_self, t2]) (fun c n1 n2 => (gk_set_ne n1).trans (gk_set_ne n2)) rfl
      have gy : ∀ c, c ≠ r → c ≠ r + 3 → c ≠ F0 + 2 * S.2.1.1 → c ≠ F0 + 2 * S.2.1.1 + 1 → h5.1 c = h.1 c := fun c n1 n2 n3 n4 => (gx c n1 n2).trans ((y2 c n3 n4).trans (gk_new_ne (by omega)))
      have gl := y1.kept (h' := h5) (gx _ (by omega) (by omega)) (gx _ (by omega) (by omega))
      clear y1
      have y1 := gl
      have q := hQ h5
      rw [show oFilter S k a c = _ from (if_pos ⟨ho, by omega⟩).trans (if_neg (by omega))] at q
      exact q (room_ad hF hm ht hrest ho (by omega) (by omega) a7 g0 g3 (by rw [if_neg (fun z => hk (Or.inr (Or.inl z))), if_neg (fun z => hk (z.elim Or.inl (fun z => Or.inr (Or.inr z)))), if_neg (fun z => hk (z.elim Or.inl (fun z => Or.inr (Or.inr z))))]; exact y1) gy (by rw [gs, y3]; omega)) (fun c n => gy c (by omega) (by omega) (by omega) (by omega))
    · rw [pu_lt, zN, z24] at c123
      refine gk_ldc dX10_filter_126 (pc' := 128) rfl gw_425 ?_
      refine gk_iret dX10_filter_128 rfl (hB _ ((if_pos ⟨ho, by omega⟩).trans (if_pos (by omega))))
  · rw [pu_le, nI_toInt (by omega), z4] at c111
    refine gk_ldc dX10_filter_114 (pc' := 116) rfl gw_243 ?_
    refine gk_iret dX10_filter_116 rfl (hB _ (if_neg (fun z => by have := z.2; omega)))
theorem cl_filter (hR : Room X h r F0 S) (hQ : ∀ h', Room X h' r F0 (oFilter S k a c).2 → frC r F0 h h' → Q (some (.int (oFilter S k a c).1)) h') : Gm (kx X) mt_Room_filter (d + 4) (2, 16) [.ref r, .int k, .int a, .int c] h Q := by
  have hB : ∀ a0, oFilter S k a c = (a0, S) → Q (some (.int a0)) h := fun a0 e => by
    have q := hQ h
    rw [e] at q
    exact q hR frC.rf
  obtain ⟨hF, pc, mc, hm, ht, hrest⟩ := hR
  have a1 := hm.obj
  have t1 := hm.2.2.1
  have tw := hm.2.2.2.2.2.2
  have hj : ∀ j, j < S.2.1.1 → (nI j).toInt = j := fun j hj => nI_toInt (by have := tw.1; omega)
  have go : okT S.2.1 k a c → G (kx X) mt_Room_filter (d + 4) (2, 16) 13 [some (.ref r), some (.int k), some (.int a), some (.int c), none, none, none] [] h Q := by
    intro ho
    have fA : k = 7 → isF S.2.1 c → G (kx X) mt_Room_filter (d + 4) (2, 16) 24 [some (.ref r), some (.int k), some (.int a), some (.int c), none, none, none] [.ref (F0 + 2 * c.toInt.toNat)] h Q := by
      intro hk hc
      have fl := t1 c.toInt.toNat (by omega)
      have hg : hgO S.2.1 k a c = 1 + S.2.1.2.2.2.2.1 c.toInt.toNat := by unfold hgO; rw [hk]; simp
      have w4 := (tw.2.1 c.toInt.toNat (by omega)).2.1
      refine gk_goto dX10_filter_24 (tgt := 48) (by decide) ?_
      refine gk_astore4 dX10_filter_48 (pc' := 50) rfl (by decide) rfl ?_
      refine gk_iload1 dX10_filter_50 (pc' := 51) rfl ?_
      refine gk_bipush (v := 6) dX10_filter_51 (pc' := 53) rfl (by decide) ?_
      refine gk_icmp_eq dX10_filter_53 (tgt := 62) (pc' := 56) (by decide) rfl (fun c53 => absurd c53 (by rw [hk]; decide)) (fun c53 => ?_)
      refine gk_iload1 dX10_filter_56 (pc' := 57) rfl ?_
      refine gk_bipush (v := 8) dX10_filter_57 (pc' := 59) rfl (by decide) ?_
      refine gk_icmp_ne dX10_filter_59 (tgt := 70) (pc' := 62) (by decide) rfl (fun c59 => ?_) (fun c59 => absurd c59 (by rw [hk]; decide))
      refine gk_null dX10_filter_70 (pc' := 71) rfl ?_
      refine gk_astoreN5 dX10_filter_71 (pc' := 73) rfl (by decide) rfl ?_
      refine gk_iconst (v := 1) dX10_filter_73 (pc' := 74) rfl (by decide) ?_
      refine gk_aload4 dX10_filter_74 (pc' := 76) rfl ?_
      refine gk_ifnonnull dX10_filter_76 (tgt := 83) (by decide) ?_
      refine gk_aload4 dX10_filter_83 (pc' := 85) rfl ?_
      refine gk_getf (fs := [_, _, _, _, _, _, _]) gF_Room_186 dX10_filter_85 (pc' := 88) rfl (by exact (fl.1)) rfl ?_
      refine gk_aloadN5 dX10_filter_88 (pc' := 90) rfl ?_
      refine gk_ifnonnullN dX10_filter_90 (pc' := 93) rfl ?_
      refine gk_iconst (v := 0) dX10_filter_93 (pc' := 94) rfl (by decide) ?_
      refine gk_goto dX10_filter_94 (tgt := 102) (by decide) ?_
      refine gk_cS1_2 mz_Math_max gw_424 dX10_filter_102 (pc' := 105) rfl (Nat.le_of_ble_eq_true rfl) (sp_Math_max ?_)
      refine ⟨_, rfl, ?_⟩
      rw [show (if nI (S.2.1.2.2.2.2.1 c.toInt.toNat) < 0 then 0 else nI (S.2.1.2.2.2.2.1 c.toInt.toNat)) = nI (S.2.1.2.2.2.2.1 c.toInt.toNat) from if_neg (nI_pos (by omega))]
      refine gk_iadd dX10_filter_105 (pc' := 106) rfl ?_
      rw [show (1 : Int32) + nI (S.2.1.2.2.2.2.1 c.toInt.toNat) = nI (hgO S.2.1 k a c) by rw [hg]; exact nI_add 1 _]
      refine gk_istore6 dX10_filter_106 (pc' := 108) rfl (by decide) rfl ?_
      exact fl_108A hF hm ht hrest ho hk hB hQ
    have fB2 : (k = 6 ∨ k = 8) → isF S.2.1 a → isF S.2.1 c → G (kx X) mt_Room_filter (d + 4) (2, 16) 67 [some (.ref r), some (.int k), some (.int a), some (.int c), some (.ref (F0 + 2 * a.toInt.toNat)), none, none] [.ref (F0 + 2 * c.toInt.toNat)] h Q := by
      intro hk ha hc
      have fl := t1 a.toInt.toNat (by omega)
      have fl2 := t1 c.toInt.toNat (by omega)
      have hg : hgO S.2.1 k a c = 1 + max (S.2.1.2.2.2.2.1 a.toInt.toNat) (S.2.1.2.2.2.2.1 c.toInt.toNat) := by unfold hgO; rw [if_pos hk, if_pos (hk.elim Or.inl (fun z => Or.inr (Or.inr z)))]
      have w4 := (tw.2.1 c.toInt.toNat (by omega)).2.1
      have w5 := (tw.2.1 a.toInt.toNat (by omega)).2.1
      have em : (if nI (S.2.1.2.2.2.2.1 a.toInt.toNat) < nI (S.2.1.2.2.2.2.1 c.toInt.toNat) then nI (S.2.1.2.2.2.2.1 c.toInt.toNat) else nI (S.2.1.2.2.2.2.1 a.toInt.toNat)) = nI (max (S.2.1.2.2.2.2.1 a.toInt.toNat) (S.2.1.2.2.2.2.1 c.toInt.toNat)) := pu_inj (by rw [pu_max, nI_toInt (by omega), nI_toInt (by omega), nI_toInt (by omega)]; omega)
      refine gk_goto dX10_filter_67 (tgt := 71) (by decide) ?_
      refine gk_astore5 dX10_filter_71 (pc' := 73) rfl (by decide) rfl ?_
      refine gk_iconst (v := 1) dX10_filter_73 (pc' := 74) rfl (by decide) ?_
      refine gk_aload4 dX10_filter_74 (pc' := 76) rfl ?_
      refine gk_ifnonnull dX10_filter_76 (tgt := 83) (by decide) ?_
      refine gk_aload4 dX10_filter_83 (pc' := 85) rfl ?_
      refine gk_getf (fs := [_, _, _, _, _, _, _]) gF_Room_186 dX10_filter_85 (pc' := 88) rfl (by exact (fl.1)) rfl ?_
      refine gk_aload5 dX10_filter_88 (pc' := 90) rfl ?_
      refine gk_ifnonnull dX10_filter_90 (tgt := 97) (by decide) ?_
      refine gk_aload5 dX10_filter_97 (pc' := 99) rfl ?_
      refine gk_getf (fs := [_, _, _, _, _, _, _]) gF_Room_186 dX10_filter_99 (pc' := 102) rfl (by exact (fl2.1)) rfl ?_
      refine gk_cS1_2 mz_Math_max gw_424 dX10_filter_102 (pc' := 105) rfl (Nat.le_of_ble_eq_true rfl) (sp_Math_max ?_)
      refine ⟨_, rfl, ?_⟩
      rw [em]
      refine gk_iadd dX10_filter_105 (pc' := 106) rfl ?_
      rw [show (1 : Int32) + nI (max (S.2.1.2.2.2.2.1 a.toInt.toNat) (S.2.1.2.2.2.2.1 c.toInt.toNat)) = nI (hgO S.2.1 k a c) by rw [hg]; exact nI_add 1 _]
      refine gk_istore6 dX10_filter_106 (pc' := 108) rfl (by decide) rfl ?_
      exact fl_108B hF hm ht hrest ho hk hB hQ
    have fB1 : (k = 6 ∨ k = 8) → isF S.2.1 a → isF S.2.1 c → G (kx X) mt_Room_filter (d + 4) (2, 16) 62 [some (.ref r), some (.int k), some (.int a), some (.int c), some (.ref (F0 + 2 * a.toInt.toNat)), none, none] [] h Q := by
      intro hk ha hc
      refine gk_aload0 dX10_filter_62 (pc' := 63) rfl ?_
      refine gk_iload3 dX10_filter_63 (pc' := 64) rfl ?_
      refine gk_cV1_1 mv_Room_partOf gw_417 dX10_filter_64 (pc' := 67) rfl (Nat.le_of_ble_eq_true rfl) (by assumption) (sp_Room_partOf hm (fun j hj1 ej => ?_) (fun nf => absurd hc nf))
      refine ⟨_, rfl, ?_⟩
      have e : j = c.toInt.toNat := by rw [ej, hj j hj1]; omega
      subst e
      exact fB2 hk ha hc
    have fB : (k = 6 ∨ k = 8) → isF S.2.1 a → isF S.2.1 c → G (kx X) mt_Room_filter (d + 4) (2, 16) 44 [some (.ref r), some (.int k), some (.int a), some (.int c), none, none, none] [.ref (F0 + 2 * a.toInt.toNat)] h Q := by
      intro hk ha hc
      refine gk_goto dX10_filter_44 (tgt := 48) (by decide) ?_
      refine gk_astore4 dX10_filter_48 (pc' := 50) rfl (by decide) rfl ?_
      refine gk_iload1 dX10_filter_50 (pc' := 51) rfl ?_
      refine gk_bipush (v := 6) dX10_filter_51 (pc' := 53) rfl (by decide) ?_
      refine gk_icmp_eq dX10_filter_53 (tgt := 62) (pc' := 56) (by decide) rfl (fun c53 => ?_) (fun c53 => ?_)
      · exact fB1 hk ha hc
      · refine gk_iload1 dX10_filter_56 (pc' := 57) rfl ?_
        refine gk_bipush (v := 8) dX10_filter_57 (pc' := 59) rfl (by decide) ?_
        refine gk_icmp_ne dX10_filter_59 (tgt := 70) (pc' := 62) (by decide) rfl (fun c59 => absurd hk (fun z => z.elim c53 c59)) (fun c59 => ?_)
        exact fB1 hk ha hc
    by_cases k7 : k = 7
    · have hc : isF S.2.1 c := by
        subst k7
        rcases ho with ⟨z | z, z2⟩ | z | ⟨z, z2⟩ | ⟨z, z2⟩ | ⟨z, z2⟩ | ⟨z | z, z2, z3⟩ | ⟨z, z2, z3⟩ <;> first | exact absurd z (by decide) | exact z3
      refine gk_iload1 dX10_filter_13 (pc' := 14) rfl ?_
      refine gk_bipush (v := 7) dX10_filter_14 (pc' := 16) rfl (by decide) ?_
      refine gk_icmp_ne dX10_filter_16 (tgt := 27) (pc' := 19) (by decide) rfl (fun c16 => absurd k7 c16) (fun c16 => ?_)
      refine gk_aload0 dX10_filter_19 (pc' := 20) rfl ?_
      refine gk_iload3 dX10_filter_20 (pc' := 21) rfl ?_
      refine gk_cV1_1 mv_Room_partOf gw_417 dX10_filter_21 (pc' := 24) rfl (Nat.le_of_ble_eq_true rfl) (by assumption) (sp_Room_partOf hm (fun j hj1 ej => ?_) (fun nf => absurd hc nf))
      refine ⟨_, rfl, ?_⟩
      have e : j = c.toInt.toNat := by rw [ej, hj j hj1]; omega
      subst e
      exact fA k7 hc
    · by_cases k68 : k = 6 ∨ k = 8
      · have hac : isF S.2.1 a ∧ isF S.2.1 c := by
          rcases ho with ⟨z | z, z2⟩ | z | ⟨z, z2⟩ | ⟨z, z2⟩ | ⟨z, z2⟩ | ⟨z, z2, z3⟩ | ⟨z, z2, z3⟩ <;> first | exact ⟨z2, z3⟩ | (rw [z] at k68; exact absurd k68 (by decide))
        have g41 : G (kx X) mt_Room_filter (d + 4) (2, 16) 39 [some (.ref r), some (.int k), some (.int a), some (.int c), none, none, none] [] h Q := by
          refine gk_aload0 dX10_filter_39 (pc' := 40) rfl ?_
          refine gk_iload2 dX10_filter_40 (pc' := 41) rfl ?_
          refine gk_cV1_1 mv_Room_partOf gw_417 dX10_filter_41 (pc' := 44) rfl (Nat.le_of_ble_eq_true rfl) (by assumption) (sp_Room_partOf hm (fun j hj1 ej => ?_) (fun nf => absurd hac.1 nf))
          refine ⟨_, rfl, ?_⟩
          have e : j = a.toInt.toNat := by rw [ej, hj j hj1]; omega
          subst e
          exact fB k68 hac.1 hac.2
        refine gk_iload1 dX10_filter_13 (pc' := 14) rfl ?_
        refine gk_bipush (v := 7) dX10_filter_14 (pc' := 16) rfl (by decide) ?_
        refine gk_icmp_ne dX10_filter_16 (tgt := 27) (pc' := 19) (by decide) rfl (fun c16 => ?_) (fun c16 => absurd c16 k7)
        refine gk_iload1 dX10_filter_27 (pc' := 28) rfl ?_
        refine gk_bipush (v := 6) dX10_filter_28 (pc' := 30) rfl (by decide) ?_
        refine gk_icmp_eq dX10_filter_30 (tgt := 39) (pc' := 33) (by decide) rfl (fun c30 => ?_) (fun c30 => ?_)
        · exact g41
        · refine gk_iload1 dX10_filter_33 (pc' := 34) rfl ?_
          refine gk_bipush (v := 8) dX10_filter_34 (pc' := 36) rfl (by decide) ?_
          refine gk_icmp_ne dX10_filter_36 (tgt := 47) (pc' := 39) (by decide) rfl (fun c36 => absurd k68 (fun z => z.elim c30 c36)) (fun c36 => ?_)
          exact g41
      · have hg : hgO S.2.1 k a c = 1 := by
          unfold hgO
          rw [if_neg k68, if_neg (fun z => z.elim (fun z => k68 (Or.inl z)) (fun z => z.elim k7 (fun z => k68 (Or.inr z))))]
          rfl
        refine gk_iload1 dX10_filter_13 (pc' := 14) rfl ?_
        refine gk_bipush (v := 7) dX10_filter_14 (pc' := 16) rfl (by decide) ?_
        refine gk_icmp_ne dX10_filter_16 (tgt := 27) (pc' := 19) (by decide) rfl (fun c16 => ?_) (fun c16 => absurd c16 k7)
        refine gk_iload1 dX10_filter_27 (pc' := 28) rfl ?_
        refine gk_bipush (v := 6) dX10_filter_28 (pc' := 30) rfl (by decide) ?_
        refine gk_icmp_eq dX10_filter_30 (tgt := 39) (pc' := 33) (by decide) rfl (fun c30 => absurd (Or.inl c30) k68) (fun c30 => ?_)
        refine gk_iload1 dX10_filter_33 (pc' := 34) rfl ?_
        refine gk_bipush (v := 8) dX10_filter_34 (pc' := 36) rfl (by decide) ?_
        refine gk_icmp_ne dX10_filter_36 (tgt := 47) (pc' := 39) (by decide) rfl (fun c36 => ?_) (fun c36 => absurd (Or.inr c36) k68)
        refine gk_null dX10_filter_47 (pc' := 48) rfl ?_
        refine gk_astoreN4 dX10_filter_48 (pc' := 50) rfl (by decide) rfl ?_
        refine gk_iload1 dX10_filter_50 (pc' := 51) rfl ?_
        refine gk_bipush (v := 6) dX10_filter_51 (pc' := 53) rfl (by decide) ?_
        refine gk_icmp_eq dX10_filter_53 (tgt := 62) (pc' := 56) (by decide) rfl (fun c53 => absurd (Or.inl c53) k68) (fun c53 => ?_)
        refine gk_iload1 dX10_filter_56 (pc' := 57) rfl ?_
        refine gk_bipush (v := 8) dX10_filter_57 (pc' := 59) rfl (by decide) ?_
        refine gk_icmp_ne dX10_filter_59 (tgt := 70) (pc' := 62) (by decide) rfl (fun c59 => ?_) (fun c59 => absurd (Or.inr c59) k68)
        refine gk_null dX10_filter_70 (pc' := 71) rfl ?_
        refine gk_astoreN5 dX10_filter_71 (pc' := 73) rfl (by decide) rfl ?_
        refine gk_iconst (v := 1) dX10_filter_73 (pc' := 74) rfl (by decide) ?_
        refine gk_aloadN4 dX10_filter_74 (pc' := 76) rfl ?_
        refine gk_ifnonnullN dX10_filter_76 (pc' := 79) rfl ?_
        refine gk_iconst (v := 0) dX10_filter_79 (pc' := 80) rfl (by decide) ?_
        refine gk_goto dX10_filter_80 (tgt := 88) (by decide) ?_
        refine gk_aloadN5 dX10_filter_88 (pc' := 90) rfl ?_
        refine gk_ifnonnullN dX10_filter_90 (pc' := 93) rfl ?_
        refine gk_iconst (v := 0) dX10_filter_93 (pc' := 94) rfl (by decide) ?_
        refine gk_goto dX10_filter_94 (tgt := 102) (by decide) ?_
        refine gk_cS1_2 mz_Math_max gw_424 dX10_filter_102 (pc' := 105) rfl (Nat.le_of_ble_eq_true rfl) (sp_Math_max ?_)
        refine ⟨_, rfl, ?_⟩
        refine gk_iadd dX10_filter_105 (pc' := 106) rfl ?_
        rw [show (1 : Int32) + (if (0 : Int32) < 0 then 0 else 0) = nI (hgO S.2.1 k a c) by rw [hg]; decide]
        refine gk_istore6 dX10_filter_106 (pc' := 108) rfl (by decide) rfl ?_
        exact fl_108C hF hm ht hrest ho (fun z => z.elim (fun z => k68 (Or.inl z)) (fun z => z.elim k7 (fun z => k68 (Or.inr z)))) hB hQ
  refine Gm.enter (L := [some (.ref r), some (.int k), some (.int a), some (.int c), none, none, none]) (by decide) (fun _ => trivial) (Nat.le_of_ble_eq_true rfl) rfl ?_
  refine gk_aload0 dX10_filter_0 (pc' := 1) rfl ?_
  refine gk_iload1 dX10_filter_1 (pc' := 2) rfl ?_
  refine gk_iload2 dX10_filter_2 (pc' := 3) rfl ?_
  refine gk_iload3 dX10_filter_3 (pc' := 4) rfl ?_
  refine gk_cV1_3 mv_Room_isFilterTold gw_411 dX10_filter_4 (pc' := 7) rfl (Nat.le_of_ble_eq_true rfl) (by assumption) (sp_Room_isFilterTold hm (fun ho => ?_) (fun no => ?_))
  · refine ⟨_, rfl, ?_⟩
    refine gk_if_ne dX10_filter_7 (tgt := 13) (pc' := 10) (by decide) rfl (fun _ => ?_) (fun c => absurd c (by decide))
    exact go ho
  · refine ⟨_, rfl, ?_⟩
    refine gk_if_ne dX10_filter_7 (tgt := 13) (pc' := 10) (by decide) rfl (fun c => absurd c (by decide)) (fun _ => ?_)
    refine gk_ldc dX10_filter_10 (pc' := 12) rfl gw_243 ?_
    refine gk_iret dX10_filter_12 rfl (hB _ (if_neg (fun z => no z.1)))
end FlJ
