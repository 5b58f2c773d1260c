/-! ===== the calls, one by one: what each answers and leaves ===== -/
/-- the class leaves all else as it is -/
def frC (r F0 : Nat) (h h' : gk_H) : Prop := ∀ c, (c < r ∨ (r + 140 ≤ c ∧ c < F0)) → h'.1 c = h.1 c
theorem frC.rf {r F0 : Nat} {h : gk_H} : frC r F0 h h := fun _ _ => rfl
theorem frC.trans {r F0 : Nat} {h h' h'' : gk_H} (a : frC r F0 h h') (b : frC r F0 h' h'') : frC r F0 h h'' := fun c n => (b c n).trans (a c n)
theorem fr.C {A : Nat → Prop} {r F0 : Nat} {h h' : gk_H} (a : fr A h h') (hA : ∀ c, A c → r ≤ c ∧ c < r + 140) : frC r F0 h h' := fun c n => a.2 c (fun z => by have := hA c z; omega)
theorem kpK.C {r c : Nat} (z : kpK r c) : r ≤ c ∧ c < r + 140 := by unfold kpK at z; omega
/-- the room but for the tray -/
def Rs (X : gX) (h : gk_H) (r F0 : Nat) (S : St) (pc mc : Nat → Nat) : Prop := r + 160 ≤ F0 ∧ Rm X h r F0 S.1 S.2.1 pc mc ∧ (∃ R, isMk X h (mc 6) R) ∧ Sc X h r ∧ isTp X h (r + 110) S.2.2.1 S.2.2.2
abbrev kP (S : St) (p : Nat) (c : Pc) : St := (pshP S.1 p c, S.2)
abbrev kM (S : St) (p : Nat) (R : Nat → Nat) : St := (pshM S.1 p R, S.2)
section OpA
variable {X : gX} {h h' : gk_H} {r F0 : Nat} {S : St} {pc mc : Nat → Nat}
theorem Rs.room (hs : Rs X h r F0 S pc mc) {c : Pc} (ht : isPc X h (pc 8) c) : Room X h r F0 S := ⟨hs.1, pc, mc, hs.2.1, ⟨c, ht⟩, hs.2.2.1, hs.2.2.2.1, hs.2.2.2.2⟩
theorem Rs.tray (hs : Rs X h r F0 S pc mc) {A : Nat → Prop} (hf : fr A h h') (hA : ∀ c, A c → c = pc 8 ∨ c = pc 8 + 1) : Rs X h' r F0 S pc mc := by
  obtain ⟨hF, hR, ⟨R, hm⟩, hS, hT⟩ := hs
  have I := hR.I
  have h8 := I.1 8 (by decide)
  have m6 := I.2.2.1 6 (by decide)
  have x1 := h8.am m6
  have x2 := h8.fx
  have g : ∀ c, c ≠ pc 8 → c ≠ pc 8 + 1 → h'.1 c = h.1 c := fun c n1 n2 => hf.2 c (fun z => by have := hA c z; omega)
  refine ⟨hF, hR.fr hF hf (fun c z => ?_), ⟨R, hm.kept (g _ (by omega) (by omega)) (g _ (by omega) (by omega))⟩, hS.kept (fun c z1 z2 => g _ (by omega) (by omega)), hT.kept (g _ (by omega) (by omega)) (g _ (by omega) (by omega))⟩
  have := hA c z
  unfold rmK
  omega
/-- only the mask tray changed -/
theorem Rs.mtray (hs : Rs X h r F0 S pc mc) {c : Pc} (ht : isPc X h (pc 8) c) {A : Nat → Prop} (hf : fr A h h') (hA : ∀ c, A c → c = mc 6 ∨ c = mc 6 + 1) {R' : Nat → Nat} (hm' : isMk X h' (mc 6) R') : Rs X h' r F0 S pc mc ∧ isPc X h' (pc 8) c := by
  obtain ⟨hF, hR, ⟨R, hm⟩, hS, hT⟩ := hs
  have I := hR.I
  have h8 := I.1 8 (by decide)
  have m6 := I.2.2.1 6 (by decide)
  have x1 := h8.am m6
  have x2 := m6.fx
  have g : ∀ c, c ≠ mc 6 → c ≠ mc 6 + 1 → h'.1 c = h.1 c := fun c n1 n2 => hf.2 c (fun z => by have := hA c z; omega)
  refine ⟨⟨hF, hR.fr hF hf (fun c z => ?_), ⟨R', hm'⟩, hS.kept (fun c z1 z2 => g _ (by omega) (by omega)), hT.kept (g _ (by omega) (by omega)) (g _ (by omega) (by omega))⟩, ht.kept (g _ (by omega) (by omega)) (g _ (by omega) (by omega))⟩
  have := hA c z
  unfold rmK
  omega
theorem Rs.trayC (hs : Rs X h r F0 S pc mc) {A : Nat → Prop} (hf : fr A h h') (hA : ∀ c, A c → c = pc 8 ∨ c = pc 8 + 1) : frC r F0 h h' := hf.C (fun c z => by have := hA c z; have x2 := (hs.2.1.I.1 8 (by decide)).fx; omega)
theorem Rs.mtrayC (hs : Rs X h r F0 S pc mc) {A : Nat → Prop} (hf : fr A h h') (hA : ∀ c, A c → c = mc 6 ∨ c = mc 6 + 1) : frC r F0 h h' := hf.C (fun c z => by have := hA c z; have x2 := (hs.2.1.I.2.2.1 6 (by decide)).fx; omega)
theorem sp_keepP {d : Nat} {b : Nat × Nat} {Q : Option Value → gk_H → Prop} {p : Nat} {c : Pc} (hs : Rs X h r F0 S pc mc) (ht : isPc X h (pc 8) c) (hc : okP c) (hp : p < 8) (hQ : ∀ h', Room X h' r F0 (kP S p c) → frC r F0 h h' → Q none h') : Gm (kx X) mt_Room_keepPicture (d + 3) b [.ref r, .int (nI p)] h Q := by
  obtain ⟨hF, hR, ⟨R, hm⟩, hS, hT⟩ := hs
  have m6 := hR.I.2.2.1 6 (by decide)
  have nm := kpK.nm m6
  refine sp_Room_keepPicture hR ht hc hp (fun h' pc' r1 r2 r3 => hQ h' ⟨hF, pc', mc, r1, r2, ⟨R, hm.kept (r3.2 _ nm.1) (r3.2 _ nm.2)⟩, hS.kept (fun c z1 z2 => r3.2 _ (by unfold kpK; omega)), hT.kept (r3.2 _ (by unfold kpK; omega)) (r3.2 _ (by unfold kpK; omega))⟩ (r3.C (fun c z => z.C)))
theorem sp_keepM {d : Nat} {b : Nat × Nat} {Q : Option Value → gk_H → Prop} {p : Nat} {c : Pc} {R : Nat → Nat} (hs : Rs X h r F0 S pc mc) (ht : isPc X h (pc 8) c) (hm : isMk X h (mc 6) R) (hp : p < 6) (hQ : ∀ h', Room X h' r F0 (kM S p R) → frC r F0 h h' → Q none h') : Gm (kx X) mt_Room_keepMask (d + 3) b [.ref r, .int (nI p)] h Q := by
  obtain ⟨hF, hR, -, hS, hT⟩ := hs
  have m6 := hR.I.1 8 (by decide)
  have nm := kpK.np m6
  refine sp_Room_keepMask hR hm hp (fun h' mc' r1 r2 r3 => hQ h' ⟨hF, pc, mc', r1, ⟨c, ht.kept (r3.2 _ nm.1) (r3.2 _ nm.2)⟩, r2, hS.kept (fun c z1 z2 => r3.2 _ (by unfold kpK; omega)), hT.kept (r3.2 _ (by unfold kpK; omega)) (r3.2 _ (by unfold kpK; omega))⟩ (r3.C (fun c z => z.C)))
end OpA
abbrev pcS (S : St) (p : Int32) : Pc := (cuH S.1).1 p.toInt.toNat
abbrev mkS (S : St) (p : Int32) : Nat → Nat := (cuH S.1).2 p.toInt.toNat
abbrev iR (a c : Int) (v : Int32) : Prop := a ≤ v.toInt ∧ v.toInt ≤ c
abbrev hasP (c : Pc) (x y : Int32) : Prop := 0 ≤ x.toInt ∧ x.toInt < c.2.1 ∧ 0 ≤ y.toInt ∧ y.toInt < c.2.2.1
def oPicture (S : St) (p k w t : Int32) : Int32 × St := if iR 0 7 p ∧ iR (-1) 1 k then (if k = -1 then (0, kP S p.toInt.toNat (-1, 0, 0, fun _ => 0)) else if iR 1 16 w ∧ iR 1 16 t then (0, kP S p.toInt.toNat (k, w.toInt.toNat, t.toInt.toNat, fun _ => 0)) else (-100001, S)) else (-100001, S)
def oPut (S : St) (p x y v : Int32) : Int32 × St := if iR 0 7 p ∧ hasP (pcS S p) x y then (if (loK (pcS S p).1).toInt ≤ v.toInt ∧ v.toInt ≤ (hiK (pcS S p).1).toInt then ((pcS S p).2.2.2 (y.toInt.toNat * (pcS S p).2.1 + x.toInt.toNat), kP S p.toInt.toNat ((pcS S p).1, (pcS S p).2.1, (pcS S p).2.2.1, upd (pcS S p).2.2.2 (y.toInt.toNat * (pcS S p).2.1 + x.toInt.toNat) v)) else (-100002, S)) else (-100001, S)
def oAt (S : St) (p x y e : Int32) : Int32 × St := if iR 0 7 p ∧ ¬ (pcS S p).1 = -1 ∧ iR 0 3 e ∧ iR (-1000) 1000 x ∧ iR (-1000) 1000 y then (sn (pcS S p).2.1 (pcS S p).2.2.1 (pcS S p).2.2.2 x.toInt y.toInt e, S) else (-100001, S)
section OpB
variable {X : gX} {d : Nat} {b : Nat × Nat} {h : gk_H} {Q : Option Value → gk_H → Prop} {r F0 : Nat} {S : St}
theorem okP.kind {c : Pc} (h : okP c) (n : ¬ c.1 = -1) : (c.1 = 0 ∨ c.1 = 1) ∧ (1 ≤ c.2.1 ∧ c.2.1 ≤ 16) ∧ (1 ≤ c.2.2.1 ∧ c.2.2.1 ≤ 16) ∧ ∀ i, i < c.2.1 * c.2.2.1 → inK c.1 (c.2.2.2 i) := by
  rcases h with h | h
  · exact absurd h.1 n
  · exact h
theorem okP.has {c : Pc} (h : okP c) (n : 1 ≤ c.2.1) : (c.1 = 0 ∨ c.1 = 1) ∧ (1 ≤ c.2.1 ∧ c.2.1 ≤ 16) ∧ (1 ≤ c.2.2.1 ∧ c.2.2.1 ≤ 16) ∧ ∀ i, i < c.2.1 * c.2.2.1 → inK c.1 (c.2.2.2 i) := by
  rcases h with h | h
  · omega
  · exact h
theorem k_in {k : Int32} (h1 : -1 ≤ k.toInt) (h2 : k.toInt ≤ 1) (h3 : ¬ k = -1) : k = 0 ∨ k = 1 := by
  rcases (by omega : k.toInt = -1 ∨ k.toInt = 0 ∨ k.toInt = 1) with z | z | z
  · exact absurd (pu_inj (z.trans rfl)) h3
  · exact Or.inl (pu_inj (z.trans rfl))
  · exact Or.inr (pu_inj (z.trans rfl))
theorem inK0 {k : Int32} : inK k 0 := by
  have h1 := loK_rng k
  have h2 := hiK_rng k
  have z0 : (0 : Int32).toInt = 0 := rfl
  unfold inK
  omega
theorem nI_inj {a c : Nat} (ha : a < 2 ^ 31) (hc : c < 2 ^ 31) (e : nI a = nI c) : a = c := by
  have q := congrArg Int32.toInt e
  rw [nI_toInt ha, nI_toInt hc] at q
  omega
theorem picS {pc mc : Nat → Nat} (hR : Rm X h r F0 S.1 S.2.1 pc mc) {j : Nat} (hj : j < 8) : isPc X h (pc j) (pcS S (nI j)) := by
  show isPc X h (pc j) ((cuH S.1).1 (nI j).toInt.toNat)
  rw [nI_nat (by omega)]
  exact hR.pic hj
theorem okpS {pc mc : Nat → Nat} (hR : Rm X h r F0 S.1 S.2.1 pc mc) {j : Nat} (hj : j < 8) : okP (pcS S (nI j)) := by
  show okP ((cuH S.1).1 (nI j).toInt.toNat)
  rw [nI_nat (by omega)]
  exact hR.okp hj
theorem mskS {pc mc : Nat → Nat} (hR : Rm X h r F0 S.1 S.2.1 pc mc) {j : Nat} (hj : j < 6) : isMk X h (mc j) (mkS S (nI j)) := by
  show isMk X h (mc j) ((cuH S.1).2 (nI j).toInt.toNat)
  rw [nI_nat (by omega)]
  exact hR.msk hj
theorem cl_picture {p k w t : Int32} (hR : Room X h r F0 S) (hQ : ∀ h', Room X h' r F0 (oPicture S p k w t).2 → frC r F0 h h' → Q (some (.int (oPicture S p k w t).1)) h') : Gm (kx X) mt_Room_picture (d + 4) b [.ref r, .int p, .int k, .int w, .int t] h Q := by
  have hB : oPicture S p k w t = (-100001, S) → Q (some (.int (-100001))) h := fun e => by
    have q := hQ h
    rw [e] at q
    exact q hR frC.rf
  obtain ⟨hF, pc, mc, hm, ⟨c8, ht⟩, hrest⟩ := hR
  have hs : Rs X h r F0 S pc mc := ⟨hF, hm, hrest⟩
  have a1 := hm.obj
  have zm : (-1 : Int32).toInt = -1 := rfl
  have z1 : (1 : Int32).toInt = 1 := rfl
  refine Gm.enter (L := [some (.ref r), some (.int p), some (.int k), some (.int w), some (.int t)]) (by decide) (fun _ => trivial) (Nat.le_of_ble_eq_true rfl) rfl ?_
  refine gk_iload1 dX10_picture_0 (pc' := 1) rfl ?_
  refine gk_cS1_1 mz_Room_isPicture gw_237 dX10_picture_1 (pc' := 4) rfl (Nat.le_of_ble_eq_true rfl) (sp_Room_isPicture (fun j1 hj1 ej1 => ?_) (fun n1 => ?_))
  · refine ⟨_, rfl, ?_⟩
    subst ej1
    have zj1 : (nI j1).toInt = j1 := nI_toInt (by omega)
    have yj1 : (nI j1).toInt.toNat = j1 := by omega
    have hp1 := picS hm hj1
    have ok1 := okpS hm hj1
    have ap1 := hm.ap hj1
    refine gk_if_eq dX10_picture_4 (tgt := 16) (pc' := 7) (by decide) rfl (fun c => absurd c (by decide)) (fun _ => ?_)
    refine gk_iload2 dX10_picture_7 (pc' := 8) rfl ?_
    refine gk_iconst (v := -1) dX10_picture_8 (pc' := 9) rfl (by decide) ?_
    refine gk_iconst (v := 1) dX10_picture_9 (pc' := 10) rfl (by decide) ?_
    refine gk_cS1_3 mz_Room_within gw_240 dX10_picture_10 (pc' := 13) rfl (Nat.le_of_ble_eq_true rfl) (sp_Room_within (fun u10 v10 => ?_) (fun n10 => ?_))
    · refine ⟨_, rfl, ?_⟩
      refine gk_if_ne dX10_picture_13 (tgt := 19) (pc' := 16) (by decide) rfl (fun _ => ?_) (fun c => absurd c (by decide))
      refine gk_iload2 dX10_picture_19 (pc' := 20) rfl ?_
      refine gk_iconst (v := -1) dX10_picture_20 (pc' := 21) rfl (by decide) ?_
      refine gk_icmp_ne dX10_picture_21 (tgt := 34) (pc' := 24) (by decide) rfl (fun c21 => ?_) (fun c21 => ?_)
      · have c21' : ¬ k = -1 := c21
        refine gk_iload3 dX10_picture_34 (pc' := 35) rfl ?_
        refine gk_cS1_1 mz_Room_isSide gw_248 dX10_picture_35 (pc' := 38) rfl (Nat.le_of_ble_eq_true rfl) (sp_Room_isSide (fun j35 hj35 hk35 ej35 => ?_) (fun n35 => ?_))
        · refine ⟨_, rfl, ?_⟩
          subst ej35
          have zj35 : (nI j35).toInt = j35 := nI_toInt (by omega)
          have yj35 : (nI j35).toInt.toNat = j35 := by omega
          refine gk_if_eq dX10_picture_38 (tgt := 70) (pc' := 41) (by decide) rfl (fun c => absurd c (by decide)) (fun _ => ?_)
          refine gk_iload4 dX10_picture_41 (pc' := 43) rfl ?_
          refine gk_cS1_1 mz_Room_isSide gw_248 dX10_picture_43 (pc' := 46) rfl (Nat.le_of_ble_eq_true rfl) (sp_Room_isSide (fun j43 hj43 hk43 ej43 => ?_) (fun n43 => ?_))
          · refine ⟨_, rfl, ?_⟩
            subst ej43
            have zj43 : (nI j43).toInt = j43 := nI_toInt (by omega)
            have yj43 : (nI j43).toInt.toNat = j43 := by omega
            refine gk_if_eq dX10_picture_46 (tgt := 70) (pc' := 49) (by decide) rfl (fun c => absurd c (by decide)) (fun _ => ?_)
            refine gk_aload0 dX10_picture_49 (pc' := 50) rfl ?_
            refine gk_getf (fs := [_, _, _, _, _, _, _, _, _, _, _, _]) gF_Room_32 dX10_picture_50 (pc' := 53) rfl (by assumption) rfl ?_
            refine gk_iload2 dX10_picture_53 (pc' := 54) rfl ?_
            refine gk_iload3 dX10_picture_54 (pc' := 55) rfl ?_
            refine gk_iload4 dX10_picture_55 (pc' := 57) rfl ?_
            refine gk_cV0_3 mv_Picture_shape gw_251 dX10_picture_57 (pc' := 60) rfl (Nat.le_of_ble_eq_true rfl) (by exact (ht.o)) (sp_Picture_shape ht (by omega) (by omega) (fun h0 g y1 y2 => ?_))
            refine ⟨rfl, ?_⟩
            have a1 := (hs.tray y2 (fun c z => by omega)).2.1.obj
            refine gk_aload0 dX10_picture_60 (pc' := 61) rfl ?_
            refine gk_getf (fs := [_, _, _, _, _, _, _, _, _, _, _, _]) gF_Room_32 dX10_picture_61 (pc' := 64) rfl (by assumption) rfl ?_
            refine gk_cV0_0 mv_Picture_blank gw_255 dX10_picture_64 (pc' := 67) rfl (Nat.le_of_ble_eq_true rfl) (by exact (y1.o)) (sp_Picture_blank y1 (fun h1 y3 y4 => ?_))
            refine ⟨rfl, ?_⟩
            have y5 := y2.trans (C := fun c => c = pc 8 ∨ c = pc 8 + 1) y4 (fun _ z => Or.inl z) (fun _ z => Or.inr z)
            have hs1 := hs.tray y5 (fun c z => z)
            have fc1 := hs.trayC y5 (fun c z => z)
            have a1 := hs1.2.1.obj
            have ht1 : isPc X h1 (pc 8) (k, j35, j43, fun _ => 0) := y3
            have hk1 := k_in (k := k) (by omega) (by omega) c21'
            have hok : okP (k, j35, j43, fun _ => 0) := Or.inr ⟨hk1, ⟨hj35, hk35⟩, ⟨hj43, hk43⟩, fun _ _ => inK0⟩
            have he : oPicture S (nI j1) k (nI j35) (nI j43) = (0, kP S j1 (k, j35, j43, fun _ => 0)) := (if_pos (by omega)).trans ((if_neg c21').trans ((if_pos (by omega)).trans (by rw [yj1, yj35, yj43])))
            refine gk_goto dX10_picture_67 (tgt := 73) (by decide) ?_
            refine gk_aload0 dX10_picture_73 (pc' := 74) rfl ?_
            refine gk_iload1 dX10_picture_74 (pc' := 75) rfl ?_
            refine gk_cV0_1 mv_Room_keepPicture gw_262 dX10_picture_75 (pc' := 78) rfl (Nat.le_of_ble_eq_true rfl) (by assumption) (sp_keepP hs1 ht1 hok hj1 (fun h2 z3 z4 => ?_))
            refine ⟨rfl, ?_⟩
            refine gk_iconst (v := 0) dX10_picture_78 (pc' := 79) rfl (by decide) ?_
            refine gk_iret dX10_picture_79 rfl (by have q := hQ h2; rw [he] at q; exact q z3 (fc1.trans z4))
          · refine ⟨_, rfl, ?_⟩
            refine gk_if_eq dX10_picture_46 (tgt := 70) (pc' := 49) (by decide) rfl (fun _ => ?_) (fun c => absurd c (by decide))
            refine gk_ldc dX10_picture_70 (pc' := 72) rfl gw_243 ?_
            refine gk_iret dX10_picture_72 rfl (hB ((if_pos (by omega)).trans ((if_neg c21').trans (if_neg (by omega)))))
        · refine ⟨_, rfl, ?_⟩
          refine gk_if_eq dX10_picture_38 (tgt := 70) (pc' := 41) (by decide) rfl (fun _ => ?_) (fun c => absurd c (by decide))
          refine gk_ldc dX10_picture_70 (pc' := 72) rfl gw_243 ?_
          refine gk_iret dX10_picture_72 rfl (hB ((if_pos (by omega)).trans ((if_neg c21').trans (if_neg (by omega)))))
      · have c21' : k = -1 := c21
        subst c21'
        refine gk_aload0 dX10_picture_24 (pc' := 25) rfl ?_
        refine gk_getf (fs := [_, _, _, _, _, _, _, _, _, _, _, _]) gF_Room_32 dX10_picture_25 (pc' := 28) rfl (by assumption) rfl ?_
        refine gk_cV0_0 mv_Picture_vanish gw_244 dX10_picture_28 (pc' := 31) rfl (Nat.le_of_ble_eq_true rfl) (by exact (ht.o)) (sp_Picture_vanish ht (fun h1 y1 y2 => ?_))
        refine ⟨rfl, ?_⟩
        have hs1 := hs.tray y2 (fun c z => by omega)
        have fc1 := hs.trayC y2 (fun c z => by omega)
        have a1 := hs1.2.1.obj
        have ht1 : isPc X h1 (pc 8) (-1, 0, 0, fun _ => 0) := y1.congr (fun i hi => absurd hi (Nat.not_lt_zero _))
        have hok : okP (-1, 0, 0, fun _ => 0) := Or.inl ⟨rfl, rfl, rfl⟩
        have he : oPicture S (nI j1) (-1) w t = (0, kP S j1 (-1, 0, 0, fun _ => 0)) := (if_pos (by omega)).trans ((if_pos rfl).trans (by rw [yj1]))
        refine gk_goto dX10_picture_31 (tgt := 73) (by decide) ?_
        refine gk_aload0 dX10_picture_73 (pc' := 74) rfl ?_
        refine gk_iload1 dX10_picture_74 (pc' := 75) rfl ?_
        refine gk_cV0_1 mv_Room_keepPicture gw_262 dX10_picture_75 (pc' := 78) rfl (Nat.le_of_ble_eq_true rfl) (by assumption) (sp_keepP hs1 ht1 hok hj1 (fun h2 z3 z4 => ?_))
        refine ⟨rfl, ?_⟩
        refine gk_iconst (v := 0) dX10_picture_78 (pc' := 79) rfl (by decide) ?_
        refine gk_iret dX10_picture_79 rfl (by have q := hQ h2; rw [he] at q; exact q z3 (fc1.trans z4))
    · refine ⟨_, rfl, ?_⟩
      refine gk_if_ne dX10_picture_13 (tgt := 19) (pc' := 16) (by decide) rfl (fun c => absurd c (by decide)) (fun _ => ?_)
      refine gk_ldc dX10_picture_16 (pc' := 18) rfl gw_243 ?_
      refine gk_iret dX10_picture_18 rfl (hB (if_neg (by omega)))
  · refine ⟨_, rfl, ?_⟩
    refine gk_if_eq dX10_picture_4 (tgt := 16) (pc' := 7) (by decide) rfl (fun _ => ?_) (fun c => absurd c (by decide))
    refine gk_ldc dX10_picture_16 (pc' := 18) rfl gw_243 ?_
    refine gk_iret dX10_picture_18 rfl (hB (if_neg (by omega)))
theorem cl_put {p x y v : Int32} (hR : Room X h r F0 S) (hQ : ∀ h', Room X h' r F0 (oPut S p x y v).2 → frC r F0 h h' → Q (some (.int (oPut S p x y v).1)) h') : Gm (kx X) mt_Room_put (d + 4) b [.ref r, .int p, .int x, .int y, .int v] h Q := by
  have hB : ∀ a, oPut S p x y v = (a, S) → Q (some (.int a)) h := fun a e => by
    have q := hQ h
    rw [e] at q
    exact q hR frC.rf
  obtain ⟨hF, pc, mc, hm, ⟨c8, ht⟩, hrest⟩ := hR
  have hs : Rs X h r F0 S pc mc := ⟨hF, hm, hrest⟩
  have a1 := hm.obj
  obtain ⟨f1, a2, a3⟩ := hm.prow
  refine Gm.enter (L := [some (.ref r), some (.int p), some (.int x), some (.int y), some (.int v), none, none, none]) (by decide) (fun _ => trivial) (Nat.le_of_ble_eq_true rfl) rfl ?_
  refine gk_iload1 dX10_put_0 (pc' := 1) rfl ?_
  refine gk_cS1_1 mz_Room_isPicture gw_237 dX10_put_1 (pc' := 4) rfl (Nat.le_of_ble_eq_true rfl) (sp_Room_isPicture (fun j1 hj1 ej1 => ?_) (fun n1 => ?_))
  · refine ⟨_, rfl, ?_⟩
    subst ej1
    have zj1 : (nI j1).toInt = j1 := nI_toInt (by omega)
    have yj1 : (nI j1).toInt.toNat = j1 := by omega
    have hp1 := picS hm hj1
    have ok1 := okpS hm hj1
    have ap1 := hm.ap hj1
    refine gk_if_eq dX10_put_4 (tgt := 21) (pc' := 7) (by decide) rfl (fun c => absurd c (by decide)) (fun _ => ?_)
    refine gk_aload0 dX10_put_7 (pc' := 8) rfl ?_
    refine gk_getf (fs := [_, _, _, _, _, _, _, _, _, _, _, _]) gF_Room_11 dX10_put_8 (pc' := 11) rfl (by assumption) rfl ?_
    refine gk_iload1 dX10_put_11 (pc' := 12) rfl ?_
    refine gk_aald (t0 := 2) rfl dX10_put_12 (pc' := 13) rfl (by exact (a2)) (vp_in_nI hj1 (by decide)) ?_
    rw [nI_clamp (by omega), a3 j1 hj1, show va_rf (some (pc j1)) = Value.ref (pc j1) from rfl]
    refine gk_iload2 dX10_put_13 (pc' := 14) rfl ?_
    refine gk_iload3 dX10_put_14 (pc' := 15) rfl ?_
    refine gk_cV1_2 mv_Picture_has gw_281 dX10_put_15 (pc' := 18) rfl (Nat.le_of_ble_eq_true rfl) (by exact (hp1.o)) (sp_Picture_has hp1 (fun i j ei ej hi hj => ?_) (fun n15 => ?_))
    · refine ⟨_, rfl, ?_⟩
      subst ei ej
      have u1 := hp1.1
      have u2 := hp1.2.1
      have zi : (nI i).toInt = i := nI_toInt (by omega)
      have zj : (nI j).toInt = j := nI_toInt (by omega)
      have yi : (nI i).toInt.toNat = i := by omega
      have yj : (nI j).toInt.toNat = j := by omega
      have ho := ok1.has (by omega)
      have pl := place_lt hi hj
      refine gk_if_ne dX10_put_18 (tgt := 24) (pc' := 21) (by decide) rfl (fun _ => ?_) (fun c => absurd c (by decide))
      refine gk_aload0 dX10_put_24 (pc' := 25) rfl ?_
      refine gk_getf (fs := [_, _, _, _, _, _, _, _, _, _, _, _]) gF_Room_11 dX10_put_25 (pc' := 28) rfl (by assumption) rfl ?_
      refine gk_iload1 dX10_put_28 (pc' := 29) rfl ?_
      refine gk_aald (t0 := 2) rfl dX10_put_29 (pc' := 30) rfl (by exact (a2)) (vp_in_nI hj1 (by decide)) ?_
      rw [nI_clamp (by omega), a3 j1 hj1, show va_rf (some (pc j1)) = Value.ref (pc j1) from rfl]
      refine gk_astore5 dX10_put_30 (pc' := 32) rfl (by decide) rfl ?_
      refine gk_aload5 dX10_put_32 (pc' := 34) rfl ?_
      refine gk_iload4 dX10_put_34 (pc' := 36) rfl ?_
      refine gk_cV1_1 mv_Picture_holds gw_285 dX10_put_36 (pc' := 39) rfl (Nat.le_of_ble_eq_true rfl) (by exact (hp1.o)) (sp_Picture_holds hp1 (fun u36 v36 => ?_) (fun n36 => ?_))
      · refine ⟨_, rfl, ?_⟩
        refine gk_if_ne dX10_put_39 (tgt := 45) (pc' := 42) (by decide) rfl (fun _ => ?_) (fun c => absurd c (by decide))
        refine gk_aload5 dX10_put_45 (pc' := 47) rfl ?_
        refine gk_iload2 dX10_put_47 (pc' := 48) rfl ?_
        refine gk_iload3 dX10_put_48 (pc' := 49) rfl ?_
        refine gk_cV1_2 mv_Picture_place gw_298 dX10_put_49 (pc' := 52) rfl (Nat.le_of_ble_eq_true rfl) (by exact (hp1.o)) (sp_Picture_placeN hp1 ?_)
        refine ⟨_, rfl, ?_⟩
        refine gk_istore6 dX10_put_52 (pc' := 54) rfl (by decide) rfl ?_
        refine gk_aload5 dX10_put_54 (pc' := 56) rfl ?_
        refine gk_iload6 dX10_put_56 (pc' := 58) rfl ?_
        refine gk_cV1_1 mv_Picture_pixel gw_302 dX10_put_58 (pc' := 61) rfl (Nat.le_of_ble_eq_true rfl) (by exact (hp1.o)) (sp_Picture_pixel hp1 pl ?_)
        refine ⟨_, rfl, ?_⟩
        refine gk_istore7 dX10_put_61 (pc' := 63) rfl (by decide) rfl ?_
        refine gk_aload0 dX10_put_63 (pc' := 64) rfl ?_
        refine gk_getf (fs := [_, _, _, _, _, _, _, _, _, _, _, _]) gF_Room_32 dX10_put_64 (pc' := 67) rfl (by assumption) rfl ?_
        refine gk_aload5 dX10_put_67 (pc' := 69) rfl ?_
        refine gk_cV0_1 mv_Picture_copyFrom gw_306 dX10_put_69 (pc' := 72) rfl (Nat.le_of_ble_eq_true rfl) (by exact (ht.o)) (sp_Picture_copyFrom ht hp1 (by omega) (by omega) (by omega) (fun h1 y1 y2 => ?_))
        refine ⟨rfl, ?_⟩
        have a1 := (hs.tray y2 (fun c z => z)).2.1.obj
        refine gk_aload0 dX10_put_72 (pc' := 73) rfl ?_
        refine gk_getf (fs := [_, _, _, _, _, _, _, _, _, _, _, _]) gF_Room_32 dX10_put_73 (pc' := 76) rfl (by assumption) rfl ?_
        refine gk_iload6 dX10_put_76 (pc' := 78) rfl ?_
        refine gk_iload4 dX10_put_78 (pc' := 80) rfl ?_
        refine gk_cV0_2 mv_Picture_set gw_314 dX10_put_80 (pc' := 83) rfl (Nat.le_of_ble_eq_true rfl) (by exact (y1.o)) (sp_Picture_set y1 (by have := area_le u1 u2; omega) (fun h2 y3 y4 => ?_))
        refine ⟨rfl, ?_⟩
        have y5 := y2.trans (C := fun c => c = pc 8 ∨ c = pc 8 + 1) y4 (fun _ z => z) (fun _ z => Or.inr z)
        have hs1 := hs.tray y5 (fun c z => z)
        have a1 := hs1.2.1.obj
        have hok : okP ((pcS S (nI j1)).1, (pcS S (nI j1)).2.1, (pcS S (nI j1)).2.2.1, upd (pcS S (nI j1)).2.2.2 (j * (pcS S (nI j1)).2.1 + i) v) := Or.inr ⟨ho.1, ho.2.1, ho.2.2.1, fun q hq => by
          show inK _ (upd (pcS S (nI j1)).2.2.2 (j * (pcS S (nI j1)).2.1 + i) v q)
          by_cases e : q = j * (pcS S (nI j1)).2.1 + i
          · rw [e, pk_us]; exact ⟨u36, v36⟩
          · rw [pk_un e]; exact ho.2.2.2 q hq⟩
        have he : oPut S (nI j1) (nI i) (nI j) v = ((pcS S (nI j1)).2.2.2 (j * (pcS S (nI j1)).2.1 + i), kP S j1 ((pcS S (nI j1)).1, (pcS S (nI j1)).2.1, (pcS S (nI j1)).2.2.1, upd (pcS S (nI j1)).2.2.2 (j * (pcS S (nI j1)).2.1 + i) v)) := (if_pos (by omega)).trans ((if_pos ⟨u36, v36⟩).trans (by rw [yi, yj, yj1]))
        refine gk_aload0 dX10_put_83 (pc' := 84) rfl ?_
        refine gk_iload1 dX10_put_84 (pc' := 85) rfl ?_
        refine gk_cV0_1 mv_Room_keepPicture gw_262 dX10_put_85 (pc' := 88) rfl (Nat.le_of_ble_eq_true rfl) (by assumption) (sp_keepP hs1 y3 hok hj1 (fun h3 z3 z4 => ?_))
        refine ⟨rfl, ?_⟩
        refine gk_iload7 dX10_put_88 (pc' := 90) rfl ?_
        refine gk_iret dX10_put_90 rfl (by have q := hQ h3; rw [he] at q; exact q z3 ((hs.trayC y5 (fun c z => z)).trans z4))
      · refine ⟨_, rfl, ?_⟩
        refine gk_if_ne dX10_put_39 (tgt := 45) (pc' := 42) (by decide) rfl (fun c => absurd c (by decide)) (fun _ => ?_)
        refine gk_ldc dX10_put_42 (pc' := 44) rfl gw_297 ?_
        refine gk_iret dX10_put_44 rfl (hB _ ((if_pos (by omega)).trans (if_neg n36)))
    · refine ⟨_, rfl, ?_⟩
      refine gk_if_ne dX10_put_18 (tgt := 24) (pc' := 21) (by decide) rfl (fun c => absurd c (by decide)) (fun _ => ?_)
      refine gk_ldc dX10_put_21 (pc' := 23) rfl gw_243 ?_
      refine gk_iret dX10_put_23 rfl (hB _ (if_neg (by omega)))
  · refine ⟨_, rfl, ?_⟩
    refine gk_if_eq dX10_put_4 (tgt := 21) (pc' := 7) (by decide) rfl (fun _ => ?_) (fun c => absurd c (by decide))
    refine gk_ldc dX10_put_21 (pc' := 23) rfl gw_243 ?_
    refine gk_iret dX10_put_23 rfl (hB _ (if_neg (by omega)))
theorem cl_at {p x y e : Int32} (hR : Room X h r F0 S) (hQ : ∀ h', Room X h' r F0 (oAt S p x y e).2 → frC r F0 h h' → Q (some (.int (oAt S p x y e).1)) h') : Gm (kx X) mt_Room_at (d + 4) b [.ref r, .int p, .int x, .int y, .int e] h Q := by
  have hB : ∀ a, oAt S p x y e = (a, S) → Q (some (.int a)) h := fun a e => by
    have q := hQ h
    rw [e] at q
    exact q hR frC.rf
  obtain ⟨hF, pc, mc, hm, ⟨c8, ht⟩, hrest⟩ := hR
  have a1 := hm.obj
  obtain ⟨f1, a2, a3⟩ := hm.prow
  have zk : (1000 : Int32).toInt = 1000 := rfl
  have zm : (-1000 : Int32).toInt = -1000 := rfl
  refine Gm.enter (L := [some (.ref r), some (.int p), some (.int x), some (.int y), some (.int e)]) (by decide) (fun _ => trivial) (Nat.le_of_ble_eq_true rfl) rfl ?_
  refine gk_iload1 dX10_at_0 (pc' := 1) rfl ?_
  refine gk_cS1_1 mz_Room_isPicture gw_237 dX10_at_1 (pc' := 4) rfl (Nat.le_of_ble_eq_true rfl) (sp_Room_isPicture (fun j1 hj1 ej1 => ?_) (fun n1 => ?_))
  · refine ⟨_, rfl, ?_⟩
    subst ej1
    have zj1 : (nI j1).toInt = j1 := nI_toInt (by omega)
    have yj1 : (nI j1).toInt.toNat = j1 := by omega
    have hp1 := picS hm hj1
    have ok1 := okpS hm hj1
    have ap1 := hm.ap hj1
    refine gk_if_eq dX10_at_4 (tgt := 27) (pc' := 7) (by decide) rfl (fun c => absurd c (by decide)) (fun _ => ?_)
    refine gk_aload0 dX10_at_7 (pc' := 8) rfl ?_
    refine gk_getf (fs := [_, _, _, _, _, _, _, _, _, _, _, _]) gF_Room_11 dX10_at_8 (pc' := 11) rfl (by assumption) rfl ?_
    refine gk_iload1 dX10_at_11 (pc' := 12) rfl ?_
    refine gk_aald (t0 := 2) rfl dX10_at_12 (pc' := 13) rfl (by exact (a2)) (vp_in_nI hj1 (by decide)) ?_
    rw [nI_clamp (by omega), a3 j1 hj1, show va_rf (some (pc j1)) = Value.ref (pc j1) from rfl]
    refine gk_cV1_0 mv_Picture_isMissing gw_330 dX10_at_13 (pc' := 16) rfl (Nat.le_of_ble_eq_true rfl) (by exact (hp1.o)) (sp_Picture_isMissing hp1 (fun k13 => ?_) (fun k13 => ?_))
    · refine ⟨_, rfl, ?_⟩
      refine gk_if_ne dX10_at_16 (tgt := 27) (pc' := 19) (by decide) rfl (fun _ => ?_) (fun c => absurd c (by decide))
      refine gk_ldc dX10_at_27 (pc' := 29) rfl gw_243 ?_
      refine gk_iret dX10_at_29 rfl (hB _ (if_neg (fun z => by first | exact z.2.1 k13 | (have := z.1; have := z.2.2.1; omega))))
    · refine ⟨_, rfl, ?_⟩
      have ho := ok1.kind k13
      refine gk_if_ne dX10_at_16 (tgt := 27) (pc' := 19) (by decide) rfl (fun c => absurd c (by decide)) (fun _ => ?_)
      refine gk_iload4 dX10_at_19 (pc' := 21) rfl ?_
      refine gk_cS1_1 mz_Room_isEdge gw_334 dX10_at_21 (pc' := 24) rfl (Nat.le_of_ble_eq_true rfl) (sp_Room_isEdge (fun j21 hj21 ej21 => ?_) (fun n21 => ?_))
      · refine ⟨_, rfl, ?_⟩
        subst ej21
        have zj21 : (nI j21).toInt = j21 := nI_toInt (by omega)
        have yj21 : (nI j21).toInt.toNat = j21 := by omega
        refine gk_if_ne dX10_at_24 (tgt := 30) (pc' := 27) (by decide) rfl (fun _ => ?_) (fun c => absurd c (by decide))
        refine gk_iload2 dX10_at_30 (pc' := 31) rfl ?_
        refine gk_sipush (v := -1000) dX10_at_31 (pc' := 34) rfl (by decide) ?_
        refine gk_sipush (v := 1000) dX10_at_34 (pc' := 37) rfl (by decide) ?_
        refine gk_cS1_3 mz_Room_within gw_240 dX10_at_37 (pc' := 40) rfl (Nat.le_of_ble_eq_true rfl) (sp_Room_within (fun u37 v37 => ?_) (fun n37 => ?_))
        · refine ⟨_, rfl, ?_⟩
          refine gk_if_eq dX10_at_40 (tgt := 56) (pc' := 43) (by decide) rfl (fun c => absurd c (by decide)) (fun _ => ?_)
          refine gk_iload3 dX10_at_43 (pc' := 44) rfl ?_
          refine gk_sipush (v := -1000) dX10_at_44 (pc' := 47) rfl (by decide) ?_
          refine gk_sipush (v := 1000) dX10_at_47 (pc' := 50) rfl (by decide) ?_
          refine gk_cS1_3 mz_Room_within gw_240 dX10_at_50 (pc' := 53) rfl (Nat.le_of_ble_eq_true rfl) (sp_Room_within (fun u50 v50 => ?_) (fun n50 => ?_))
          · refine ⟨_, rfl, ?_⟩
            refine gk_if_ne dX10_at_53 (tgt := 59) (pc' := 56) (by decide) rfl (fun _ => ?_) (fun c => absurd c (by decide))
            refine gk_aload0 dX10_at_59 (pc' := 60) rfl ?_
            refine gk_getf (fs := [_, _, _, _, _, _, _, _, _, _, _, _]) gF_Room_11 dX10_at_60 (pc' := 63) rfl (by assumption) rfl ?_
            refine gk_iload1 dX10_at_63 (pc' := 64) rfl ?_
            refine gk_aald (t0 := 2) rfl dX10_at_64 (pc' := 65) rfl (by exact (a2)) (vp_in_nI hj1 (by decide)) ?_
            rw [nI_clamp (by omega), a3 j1 hj1, show va_rf (some (pc j1)) = Value.ref (pc j1) from rfl]
            refine gk_iload2 dX10_at_65 (pc' := 66) rfl ?_
            refine gk_iload3 dX10_at_66 (pc' := 67) rfl ?_
            refine gk_iload4 dX10_at_67 (pc' := 69) rfl ?_
            refine gk_cV1_3 mv_Picture_seen gw_337 dX10_at_69 (pc' := 72) rfl (Nat.le_of_ble_eq_true rfl) (by exact (hp1.o)) (sp_Picture_seen hp1 ho.2.1.1 ho.2.2.1.1 (by omega) (by omega) ?_)
            refine ⟨_, rfl, ?_⟩
            refine gk_iret dX10_at_72 rfl (hB _ (if_pos ⟨by omega, k13, by omega, by omega, by omega⟩))
          · refine ⟨_, rfl, ?_⟩
            refine gk_if_ne dX10_at_53 (tgt := 59) (pc' := 56) (by decide) rfl (fun c => absurd c (by decide)) (fun _ => ?_)
            refine gk_ldc dX10_at_56 (pc' := 58) rfl gw_243 ?_
            refine gk_iret dX10_at_58 rfl (hB _ (if_neg (fun z => by have := z.2.2.2; omega)))
        · refine ⟨_, rfl, ?_⟩
          refine gk_if_eq dX10_at_40 (tgt := 56) (pc' := 43) (by decide) rfl (fun _ => ?_) (fun c => absurd c (by decide))
          refine gk_ldc dX10_at_56 (pc' := 58) rfl gw_243 ?_
          refine gk_iret dX10_at_58 rfl (hB _ (if_neg (fun z => by have := z.2.2.2; omega)))
      · refine ⟨_, rfl, ?_⟩
        refine gk_if_ne dX10_at_24 (tgt := 30) (pc' := 27) (by decide) rfl (fun c => absurd c (by decide)) (fun _ => ?_)
        refine gk_ldc dX10_at_27 (pc' := 29) rfl gw_243 ?_
        refine gk_iret dX10_at_29 rfl (hB _ (if_neg (fun z => by first | exact z.2.1 k13 | (have := z.1; have := z.2.2.1; omega))))
  · refine ⟨_, rfl, ?_⟩
    refine gk_if_eq dX10_at_4 (tgt := 27) (pc' := 7) (by decide) rfl (fun _ => ?_) (fun c => absurd c (by decide))
    refine gk_ldc dX10_at_27 (pc' := 29) rfl gw_243 ?_
    refine gk_iret dX10_at_29 rfl (hB _ (if_neg (fun z => by first | exact z.2.1 k13 | (have := z.1; have := z.2.2.1; omega))))
def oAbout (S : St) (p w : Int32) : Int32 × St := if iR 0 7 p ∧ iR 0 5 w then (if (pcS S p).1 = -1 then (-100004, S) else (if w = 0 then (pcS S p).1 else if w = 1 then nI (pcS S p).2.1 else if w = 2 then nI (pcS S p).2.2.1 else if w = 3 then minP (hiK (pcS S p).1) (pcS S p).2.2.2 ((pcS S p).2.1 * (pcS S p).2.2.1) else if w = 4 then maxP (loK (pcS S p).1) (pcS S p).2.2.2 ((pcS S p).2.1 * (pcS S p).2.2.1) else sumP (pcS S p).2.2.2 ((pcS S p).2.1 * (pcS S p).2.2.1), S)) else (-100001, S)
def oIsOn (S : St) (m x y : Int32) : Int32 × St := if iR 0 5 m ∧ iR 0 15 x ∧ iR 0 15 y then (if (mkS S m y.toInt.toNat).testBit x.toInt.toNat then 1 else 0, S) else (-100001, S)
theorem cl_isOn {p x y : Int32} (hR : Room X h r F0 S) (hQ : ∀ h', Room X h' r F0 (oIsOn S p x y).2 → frC r F0 h h' → Q (some (.int (oIsOn S p x y).1)) h') : Gm (kx X) mt_Room_isOn (d + 4) b [.ref r, .int p, .int x, .int y] h Q := by
  have hB : ∀ a, oIsOn S p x y = (a, S) → Q (some (.int a)) h := fun a e => by
    have q := hQ h
    rw [e] at q
    exact q hR frC.rf
  obtain ⟨hF, pc, mc, hm, ⟨c8, ht⟩, hrest⟩ := hR
  have a1 := hm.obj
  obtain ⟨f1, b2, b3⟩ := hm.mrow
  refine Gm.enter (L := [some (.ref r), some (.int p), some (.int x), some (.int y)]) (by decide) (fun _ => trivial) (Nat.le_of_ble_eq_true rfl) rfl ?_
  refine gk_iload1 dX10_isOn_0 (pc' := 1) rfl ?_
  refine gk_cS1_1 mz_Room_isMask gw_421 dX10_isOn_1 (pc' := 4) rfl (Nat.le_of_ble_eq_true rfl) (sp_Room_isMask (fun j1 hj1 ej1 => ?_) (fun n1 => ?_))
  · refine ⟨_, rfl, ?_⟩
    subst ej1
    have zj1 : (nI j1).toInt = j1 := nI_toInt (by omega)
    have yj1 : (nI j1).toInt.toNat = j1 := by omega
    have hp1 := mskS hm hj1
    have ap1 := hm.am hj1
    refine gk_if_eq dX10_isOn_4 (tgt := 15) (pc' := 7) (by decide) rfl (fun c => absurd c (by decide)) (fun _ => ?_)
    refine gk_iload2 dX10_isOn_7 (pc' := 8) rfl ?_
    refine gk_iload3 dX10_isOn_8 (pc' := 9) rfl ?_
    refine gk_cS1_2 mz_Room_isOfMask gw_537 dX10_isOn_9 (pc' := 12) rfl (Nat.le_of_ble_eq_true rfl) (sp_Room_isOfMask (fun i9 j9 hi9 hj9 ei9 ej9 => ?_) (fun n9 => ?_))
    · refine ⟨_, rfl, ?_⟩
      subst ei9 ej9
      have zi9 : (nI i9).toInt = i9 := nI_toInt (by omega)
      have zj9 : (nI j9).toInt = j9 := nI_toInt (by omega)
      have yi9 : (nI i9).toInt.toNat = i9 := by omega
      have yj9 : (nI j9).toInt.toNat = j9 := by omega
      refine gk_if_ne dX10_isOn_12 (tgt := 18) (pc' := 15) (by decide) rfl (fun _ => ?_) (fun c => absurd c (by decide))
      refine gk_aload0 dX10_isOn_18 (pc' := 19) rfl ?_
      refine gk_getf (fs := [_, _, _, _, _, _, _, _, _, _, _, _]) gF_Room_17 dX10_isOn_19 (pc' := 22) rfl (by assumption) rfl ?_
      refine gk_iload1 dX10_isOn_22 (pc' := 23) rfl ?_
      refine gk_aald (t0 := 3) rfl dX10_isOn_23 (pc' := 24) rfl (by exact (b2)) (vp_in_nI hj1 (by decide)) ?_
      rw [nI_clamp (by omega), b3 j1 hj1, show va_rf (some (mc j1)) = Value.ref (mc j1) from rfl]
      refine gk_iload2 dX10_isOn_24 (pc' := 25) rfl ?_
      refine gk_iload3 dX10_isOn_25 (pc' := 26) rfl ?_
      refine gk_cV1_2 mv_Mask_lit gw_538 dX10_isOn_26 (pc' := 29) rfl (Nat.le_of_ble_eq_true rfl) (by exact (hp1.o)) (sp_Mask_lit hp1 hi9 hj9 (fun k26 => ?_) (fun k26 => ?_))
      · refine ⟨_, rfl, ?_⟩
        refine gk_if_eq dX10_isOn_29 (tgt := 36) (pc' := 32) (by decide) rfl (fun c => absurd c (by decide)) (fun _ => ?_)
        refine gk_iconst (v := 1) dX10_isOn_32 (pc' := 33) rfl (by decide) ?_
        refine gk_goto dX10_isOn_33 (tgt := 37) (by decide) ?_
        refine gk_iret dX10_isOn_37 rfl (hB _ ((if_pos (by omega)).trans (by rw [yi9, yj9, k26]; rfl)))
      · refine ⟨_, rfl, ?_⟩
        refine gk_if_eq dX10_isOn_29 (tgt := 36) (pc' := 32) (by decide) rfl (fun _ => ?_) (fun c => absurd c (by decide))
        refine gk_iconst (v := 0) dX10_isOn_36 (pc' := 37) rfl (by decide) ?_
        refine gk_iret dX10_isOn_37 rfl (hB _ ((if_pos (by omega)).trans (by rw [yi9, yj9, k26]; rfl)))
    · refine ⟨_, rfl, ?_⟩
      refine gk_if_ne dX10_isOn_12 (tgt := 18) (pc' := 15) (by decide) rfl (fun c => absurd c (by decide)) (fun _ => ?_)
      refine gk_ldc dX10_isOn_15 (pc' := 17) rfl gw_243 ?_
      refine gk_iret dX10_isOn_17 rfl (hB _ (if_neg (by omega)))
  · refine ⟨_, rfl, ?_⟩
    refine gk_if_eq dX10_isOn_4 (tgt := 15) (pc' := 7) (by decide) rfl (fun _ => ?_) (fun c => absurd c (by decide))
    refine gk_ldc dX10_isOn_15 (pc' := 17) rfl gw_243 ?_
    refine gk_iret dX10_isOn_17 rfl (hB _ (if_neg (by omega)))
def oUnlike (S : St) (p q : Int32) : Int32 × St := if iR 0 7 p ∧ iR 0 7 q then (if (pcS S p).1 = -1 ∨ (pcS S q).1 = -1 ∨ ¬ (pcS S p).2.1 = (pcS S q).2.1 ∨ ¬ (pcS S p).2.2.1 = (pcS S q).2.2.1 then (-100002, S) else (nI (cntP (pcS S p).2.2.2 (pcS S q).2.2.2 ((pcS S p).2.1 * (pcS S p).2.2.1)), S)) else (-100001, S)
theorem cl_unlike {p q : Int32} (hR : Room X h r F0 S) (hQ : ∀ h', Room X h' r F0 (oUnlike S p q).2 → frC r F0 h h' → Q (some (.int (oUnlike S p q).1)) h') : Gm (kx X) mt_Room_unlike (d + 4) b [.ref r, .int p, .int q] h Q := by
  have hB : ∀ a, oUnlike S p q = (a, S) → Q (some (.int a)) h := fun a e => by
    have q := hQ h
    rw [e] at q
    exact q hR frC.rf
  obtain ⟨hF, pc, mc, hm, ⟨c8, ht⟩, hrest⟩ := hR
  have a1 := hm.obj
  obtain ⟨f1, a2, a3⟩ := hm.prow
  refine Gm.enter (L := [some (.ref r), some (.int p), some (.int q), none, none]) (by decide) (fun _ => trivial) (Nat.le_of_ble_eq_true rfl) rfl ?_
  refine gk_iload1 dX10_unlike_0 (pc' := 1) rfl ?_
  refine gk_cS1_1 mz_Room_isPicture gw_237 dX10_unlike_1 (pc' := 4) rfl (Nat.le_of_ble_eq_true rfl) (sp_Room_isPicture (fun j1 hj1 ej1 => ?_) (fun n1 => ?_))
  · refine ⟨_, rfl, ?_⟩
    subst ej1
    have zj1 : (nI j1).toInt = j1 := nI_toInt (by omega)
    have yj1 : (nI j1).toInt.toNat = j1 := by omega
    have hp1 := picS hm hj1
    have ok1 := okpS hm hj1
    have ap1 := hm.ap hj1
    refine gk_if_eq dX10_unlike_4 (tgt := 14) (pc' := 7) (by decide) rfl (fun c => absurd c (by decide)) (fun _ => ?_)
    refine gk_iload2 dX10_unlike_7 (pc' := 8) rfl ?_
    refine gk_cS1_1 mz_Room_isPicture gw_237 dX10_unlike_8 (pc' := 11) rfl (Nat.le_of_ble_eq_true rfl) (sp_Room_isPicture (fun j8 hj8 ej8 => ?_) (fun n8 => ?_))
    · refine ⟨_, rfl, ?_⟩
      subst ej8
      have zj8 : (nI j8).toInt = j8 := nI_toInt (by omega)
      have yj8 : (nI j8).toInt.toNat = j8 := by omega
      have hp8 := picS hm hj8
      have ok8 := okpS hm hj8
      have ap8 := hm.ap hj8
      refine gk_if_ne dX10_unlike_11 (tgt := 17) (pc' := 14) (by decide) rfl (fun _ => ?_) (fun c => absurd c (by decide))
      refine gk_aload0 dX10_unlike_17 (pc' := 18) rfl ?_
      refine gk_getf (fs := [_, _, _, _, _, _, _, _, _, _, _, _]) gF_Room_11 dX10_unlike_18 (pc' := 21) rfl (by assumption) rfl ?_
      refine gk_iload1 dX10_unlike_21 (pc' := 22) rfl ?_
      refine gk_aald (t0 := 2) rfl dX10_unlike_22 (pc' := 23) rfl (by exact (a2)) (vp_in_nI hj1 (by decide)) ?_
      rw [nI_clamp (by omega), a3 j1 hj1, show va_rf (some (pc j1)) = Value.ref (pc j1) from rfl]
      refine gk_astore3 dX10_unlike_23 (pc' := 24) rfl (by decide) rfl ?_
      refine gk_aload0 dX10_unlike_24 (pc' := 25) rfl ?_
      refine gk_getf (fs := [_, _, _, _, _, _, _, _, _, _, _, _]) gF_Room_11 dX10_unlike_25 (pc' := 28) rfl (by assumption) rfl ?_
      refine gk_iload2 dX10_unlike_28 (pc' := 29) rfl ?_
      refine gk_aald (t0 := 2) rfl dX10_unlike_29 (pc' := 30) rfl (by exact (a2)) (vp_in_nI hj8 (by decide)) ?_
      rw [nI_clamp (by omega), a3 j8 hj8, show va_rf (some (pc j8)) = Value.ref (pc j8) from rfl]
      refine gk_astore4 dX10_unlike_30 (pc' := 32) rfl (by decide) rfl ?_
      refine gk_aload3 dX10_unlike_32 (pc' := 33) rfl ?_
      refine gk_cV1_0 mv_Picture_isMissing gw_330 dX10_unlike_33 (pc' := 36) rfl (Nat.le_of_ble_eq_true rfl) (by exact (hp1.o)) (sp_Picture_isMissing hp1 (fun k33 => ?_) (fun k33 => ?_))
      · refine ⟨_, rfl, ?_⟩
        refine gk_if_ne dX10_unlike_36 (tgt := 71) (pc' := 39) (by decide) rfl (fun _ => ?_) (fun c => absurd c (by decide))
        refine gk_ldc dX10_unlike_71 (pc' := 73) rfl gw_297 ?_
        refine gk_iret dX10_unlike_73 rfl (hB _ ((if_pos (by omega)).trans (if_pos (by first | exact Or.inl k33 | exact Or.inr (Or.inl k41) | exact Or.inr (Or.inr (Or.inl k56)) | exact Or.inr (Or.inr (Or.inr k68))))))
      · refine ⟨_, rfl, ?_⟩
        refine gk_if_ne dX10_unlike_36 (tgt := 71) (pc' := 39) (by decide) rfl (fun c => absurd c (by decide)) (fun _ => ?_)
        refine gk_aload4 dX10_unlike_39 (pc' := 41) rfl ?_
        refine gk_cV1_0 mv_Picture_isMissing gw_330 dX10_unlike_41 (pc' := 44) rfl (Nat.le_of_ble_eq_true rfl) (by exact (hp8.o)) (sp_Picture_isMissing hp8 (fun k41 => ?_) (fun k41 => ?_))
        · refine ⟨_, rfl, ?_⟩
          refine gk_if_ne dX10_unlike_44 (tgt := 71) (pc' := 47) (by decide) rfl (fun _ => ?_) (fun c => absurd c (by decide))
          refine gk_ldc dX10_unlike_71 (pc' := 73) rfl gw_297 ?_
          refine gk_iret dX10_unlike_73 rfl (hB _ ((if_pos (by omega)).trans (if_pos (by first | exact Or.inl k33 | exact Or.inr (Or.inl k41) | exact Or.inr (Or.inr (Or.inl k56)) | exact Or.inr (Or.inr (Or.inr k68))))))
        · refine ⟨_, rfl, ?_⟩
          refine gk_if_ne dX10_unlike_44 (tgt := 71) (pc' := 47) (by decide) rfl (fun c => absurd c (by decide)) (fun _ => ?_)
          refine gk_aload3 dX10_unlike_47 (pc' := 48) rfl ?_
          refine gk_getf (fs := [_, _, _, _]) gF_Room_152 dX10_unlike_48 (pc' := 51) rfl (by exact (hp1.o)) rfl ?_
          refine gk_aload4 dX10_unlike_51 (pc' := 53) rfl ?_
          refine gk_getf (fs := [_, _, _, _]) gF_Room_152 dX10_unlike_53 (pc' := 56) rfl (by exact (hp8.o)) rfl ?_
          refine gk_icmp_ne dX10_unlike_56 (tgt := 71) (pc' := 59) (by decide) rfl (fun c56 => ?_) (fun c56 => ?_)
          · have k56 : ¬ (pcS S (nI j1)).2.1 = (pcS S (nI j8)).2.1 := fun e => c56 (by rw [e])
            refine gk_ldc dX10_unlike_71 (pc' := 73) rfl gw_297 ?_
            refine gk_iret dX10_unlike_73 rfl (hB _ ((if_pos (by omega)).trans (if_pos (by first | exact Or.inl k33 | exact Or.inr (Or.inl k41) | exact Or.inr (Or.inr (Or.inl k56)) | exact Or.inr (Or.inr (Or.inr k68))))))
          · have k56 : (pcS S (nI j1)).2.1 = (pcS S (nI j8)).2.1 := nI_inj (by have := hp1.1; omega) (by have := hp8.1; omega) (by first | exact c56 | exact Classical.not_not.mp c56)
            refine gk_aload3 dX10_unlike_59 (pc' := 60) rfl ?_
            refine gk_getf (fs := [_, _, _, _]) gF_Room_155 dX10_unlike_60 (pc' := 63) rfl (by exact (hp1.o)) rfl ?_
            refine gk_aload4 dX10_unlike_63 (pc' := 65) rfl ?_
            refine gk_getf (fs := [_, _, _, _]) gF_Room_155 dX10_unlike_65 (pc' := 68) rfl (by exact (hp8.o)) rfl ?_
            refine gk_icmp_eq dX10_unlike_68 (tgt := 74) (pc' := 71) (by decide) rfl (fun c68 => ?_) (fun c68 => ?_)
            · have k68 : (pcS S (nI j1)).2.2.1 = (pcS S (nI j8)).2.2.1 := nI_inj (by have := hp1.2.1; omega) (by have := hp8.2.1; omega) c68
              refine gk_aload3 dX10_unlike_74 (pc' := 75) rfl ?_
              refine gk_aload4 dX10_unlike_75 (pc' := 77) rfl ?_
              refine gk_cV1_1 mv_Picture_unlikePixels gw_386 dX10_unlike_77 (pc' := 80) rfl (Nat.le_of_ble_eq_true rfl) (by exact (hp1.o)) (sp_Picture_unlikePixels hp1 (by rw [k56, k68]; exact hp8) ?_)
              refine ⟨_, rfl, ?_⟩
              refine gk_iret dX10_unlike_80 rfl (hB _ ((if_pos (by omega)).trans (if_neg (by intro z; rcases z with z | z | z | z; exact k33 z; exact k41 z; exact z k56; exact z k68))))
            · have k68 : ¬ (pcS S (nI j1)).2.2.1 = (pcS S (nI j8)).2.2.1 := fun e => c68 (by rw [e])
              refine gk_ldc dX10_unlike_71 (pc' := 73) rfl gw_297 ?_
              refine gk_iret dX10_unlike_73 rfl (hB _ ((if_pos (by omega)).trans (if_pos (by first | exact Or.inl k33 | exact Or.inr (Or.inl k41) | exact Or.inr (Or.inr (Or.inl k56)) | exact Or.inr (Or.inr (Or.inr k68))))))
    · refine ⟨_, rfl, ?_⟩
      refine gk_if_ne dX10_unlike_11 (tgt := 17) (pc' := 14) (by decide) rfl (fun c => absurd c (by decide)) (fun _ => ?_)
      refine gk_ldc dX10_unlike_14 (pc' := 16) rfl gw_243 ?_
      refine gk_iret dX10_unlike_16 rfl (hB _ (if_neg (by omega)))
  · refine ⟨_, rfl, ?_⟩
    refine gk_if_eq dX10_unlike_4 (tgt := 14) (pc' := 7) (by decide) rfl (fun _ => ?_) (fun c => absurd c (by decide))
    refine gk_ldc dX10_unlike_14 (pc' := 16) rfl gw_243 ?_
    refine gk_iret dX10_unlike_16 rfl (hB _ (if_neg (by omega)))
def oEnergy (S : St) (p x y : Int32) : Int32 × St := if iR 0 7 p then (if hasP (pcS S p) x y then (eng (pcS S p).2.1 (pcS S p).2.2.1 (pcS S p).2.2.2 x.toInt y.toInt, S) else (-100002, S)) else (-100001, S)
theorem cl_energy {p x y : Int32} (hR : Room X h r F0 S) (hQ : ∀ h', Room X h' r F0 (oEnergy S p x y).2 → frC r F0 h h' → Q (some (.int (oEnergy S p x y).1)) h') : Gm (kx X) mt_Room_energy (d + 4) b [.ref r, .int p, .int x, .int y] h Q := by
  have hB : ∀ a, oEnergy S p x y = (a, S) → Q (some (.int a)) h := fun a e => by
    have q := hQ h
    rw [e] at q
    exact q hR frC.rf
  obtain ⟨hF, pc, mc, hm, ⟨c8, ht⟩, hrest⟩ := hR
  have a1 := hm.obj
  obtain ⟨f1, a2, a3⟩ := hm.prow
  refine Gm.enter (L := [some (.ref r), some (.int p), some (.int x), some (.int y)]) (by decide) (fun _ => trivial) (Nat.le_of_ble_eq_true rfl) rfl ?_
  refine gk_iload1 dX10_energy_0 (pc' := 1) rfl ?_
  refine gk_cS1_1 mz_Room_isPicture gw_237 dX10_energy_1 (pc' := 4) rfl (Nat.le_of_ble_eq_true rfl) (sp_Room_isPicture (fun j1 hj1 ej1 => ?_) (fun n1 => ?_))
  · refine ⟨_, rfl, ?_⟩
    subst ej1
    have zj1 : (nI j1).toInt = j1 := nI_toInt (by omega)
    have yj1 : (nI j1).toInt.toNat = j1 := by omega
    have hp1 := picS hm hj1
    have ok1 := okpS hm hj1
    have ap1 := hm.ap hj1
    refine gk_if_ne dX10_energy_4 (tgt := 10) (pc' := 7) (by decide) rfl (fun _ => ?_) (fun c => absurd c (by decide))
    refine gk_aload0 dX10_energy_10 (pc' := 11) rfl ?_
    refine gk_getf (fs := [_, _, _, _, _, _, _, _, _, _, _, _]) gF_Room_11 dX10_energy_11 (pc' := 14) rfl (by assumption) rfl ?_
    refine gk_iload1 dX10_energy_14 (pc' := 15) rfl ?_
    refine gk_aald (t0 := 2) rfl dX10_energy_15 (pc' := 16) rfl (by exact (a2)) (vp_in_nI hj1 (by decide)) ?_
    rw [nI_clamp (by omega), a3 j1 hj1, show va_rf (some (pc j1)) = Value.ref (pc j1) from rfl]
    refine gk_iload2 dX10_energy_16 (pc' := 17) rfl ?_
    refine gk_iload3 dX10_energy_17 (pc' := 18) rfl ?_
    refine gk_cV1_2 mv_Picture_has gw_281 dX10_energy_18 (pc' := 21) rfl (Nat.le_of_ble_eq_true rfl) (by exact (hp1.o)) (sp_Picture_has hp1 (fun i j ei ej hi hj => ?_) (fun n15 => ?_))
    · refine ⟨_, rfl, ?_⟩
      subst ei ej
      have u1 := hp1.1
      have u2 := hp1.2.1
      have zi : (nI i).toInt = i := nI_toInt (by omega)
      have zj : (nI j).toInt = j := nI_toInt (by omega)
      refine gk_if_eq dX10_energy_21 (tgt := 38) (pc' := 24) (by decide) rfl (fun c => absurd c (by decide)) (fun _ => ?_)
      refine gk_aload0 dX10_energy_24 (pc' := 25) rfl ?_
      refine gk_getf (fs := [_, _, _, _, _, _, _, _, _, _, _, _]) gF_Room_11 dX10_energy_25 (pc' := 28) rfl (by assumption) rfl ?_
      refine gk_iload1 dX10_energy_28 (pc' := 29) rfl ?_
      refine gk_aald (t0 := 2) rfl dX10_energy_29 (pc' := 30) rfl (by exact (a2)) (vp_in_nI hj1 (by decide)) ?_
      rw [nI_clamp (by omega), a3 j1 hj1, show va_rf (some (pc j1)) = Value.ref (pc j1) from rfl]
      refine gk_iload2 dX10_energy_30 (pc' := 31) rfl ?_
      refine gk_iload3 dX10_energy_31 (pc' := 32) rfl ?_
      refine gk_cV1_2 mv_Picture_energyAt gw_663 dX10_energy_32 (pc' := 35) rfl (Nat.le_of_ble_eq_true rfl) (by exact (hp1.o)) (sp_Picture_energyAt hp1 (by omega) (by omega) (by omega) (by omega) ?_)
      refine ⟨_, rfl, ?_⟩
      refine gk_goto dX10_energy_35 (tgt := 40) (by decide) ?_
      refine gk_iret dX10_energy_40 rfl (by first | exact hB _ ((if_pos (by omega)).trans (if_neg n15)) | exact hB _ ((if_pos (by omega)).trans (if_pos (by omega))))
    · refine ⟨_, rfl, ?_⟩
      refine gk_if_eq dX10_energy_21 (tgt := 38) (pc' := 24) (by decide) rfl (fun _ => ?_) (fun c => absurd c (by decide))
      refine gk_ldc dX10_energy_38 (pc' := 40) rfl gw_297 ?_
      refine gk_iret dX10_energy_40 rfl (by first | exact hB _ ((if_pos (by omega)).trans (if_neg n15)) | exact hB _ ((if_pos (by omega)).trans (if_pos (by omega))))
  · refine ⟨_, rfl, ?_⟩
    refine gk_if_ne dX10_energy_4 (tgt := 10) (pc' := 7) (by decide) rfl (fun c => absurd c (by decide)) (fun _ => ?_)
    refine gk_ldc dX10_energy_7 (pc' := 9) rfl gw_243 ?_
    refine gk_iret dX10_energy_9 rfl (hB _ (if_neg (by omega)))
def oRuns (S : St) (p i : Int32) : Int32 × St := if iR 0 7 p ∧ -1 ≤ i.toInt then (if (pcS S p).1 = -1 then (-100002, S) else (rolS (pcS S p).1 (pcS S p).2.1 (pcS S p).2.2.1 (pcS S p).2.2.2 i.toInt, S)) else (-100001, S)
theorem cl_runs {p i : Int32} (hR : Room X h r F0 S) (hQ : ∀ h', Room X h' r F0 (oRuns S p i).2 → frC r F0 h h' → Q (some (.int (oRuns S p i).1)) h') : Gm (kx X) mt_Room_runs (d + 4) b [.ref r, .int p, .int i] h Q := by
  have hB : ∀ a, oRuns S p i = (a, S) → Q (some (.int a)) h := fun a e => by
    have q := hQ h
    rw [e] at q
    exact q hR frC.rf
  obtain ⟨hF, pc, mc, hm, ⟨c8, ht⟩, hrest⟩ := hR
  have a1 := hm.obj
  obtain ⟨f1, a2, a3⟩ := hm.prow
  have zm : (-1 : Int32).toInt = -1 := rfl
  refine Gm.enter (L := [some (.ref r), some (.int p), some (.int i)]) (by decide) (fun _ => trivial) (Nat.le_of_ble_eq_true rfl) rfl ?_
  refine gk_iload1 dX10_runs_0 (pc' := 1) rfl ?_
  refine gk_cS1_1 mz_Room_isPicture gw_237 dX10_runs_1 (pc' := 4) rfl (Nat.le_of_ble_eq_true rfl) (sp_Room_isPicture (fun j1 hj1 ej1 => ?_) (fun n1 => ?_))
  · refine ⟨_, rfl, ?_⟩
    subst ej1
    have zj1 : (nI j1).toInt = j1 := nI_toInt (by omega)
    have yj1 : (nI j1).toInt.toNat = j1 := by omega
    have hp1 := picS hm hj1
    have ok1 := okpS hm hj1
    have ap1 := hm.ap hj1
    refine gk_if_eq dX10_runs_4 (tgt := 12) (pc' := 7) (by decide) rfl (fun c => absurd c (by decide)) (fun _ => ?_)
    refine gk_iload2 dX10_runs_7 (pc' := 8) rfl ?_
    refine gk_iconst (v := -1) dX10_runs_8 (pc' := 9) rfl (by decide) ?_
    refine gk_icmp_ge dX10_runs_9 (tgt := 15) (pc' := 12) (by decide) rfl (fun c9 => ?_) (fun c9 => ?_)
    · rw [pu_le, zm] at c9
      refine gk_aload0 dX10_runs_15 (pc' := 16) rfl ?_
      refine gk_getf (fs := [_, _, _, _, _, _, _, _, _, _, _, _]) gF_Room_11 dX10_runs_16 (pc' := 19) rfl (by assumption) rfl ?_
      refine gk_iload1 dX10_runs_19 (pc' := 20) rfl ?_
      refine gk_aald (t0 := 2) rfl dX10_runs_20 (pc' := 21) rfl (by exact (a2)) (vp_in_nI hj1 (by decide)) ?_
      rw [nI_clamp (by omega), a3 j1 hj1, show va_rf (some (pc j1)) = Value.ref (pc j1) from rfl]
      refine gk_cV1_0 mv_Picture_isMissing gw_330 dX10_runs_21 (pc' := 24) rfl (Nat.le_of_ble_eq_true rfl) (by exact (hp1.o)) (sp_Picture_isMissing hp1 (fun k21 => ?_) (fun k21 => ?_))
      · refine ⟨_, rfl, ?_⟩
        refine gk_if_eq dX10_runs_24 (tgt := 32) (pc' := 27) (by decide) rfl (fun c => absurd c (by decide)) (fun _ => ?_)
        refine gk_ldc dX10_runs_27 (pc' := 29) rfl gw_297 ?_
        refine gk_goto dX10_runs_29 (tgt := 42) (by decide) ?_
        refine gk_iret dX10_runs_42 rfl (by first | exact hB _ ((if_pos (by omega)).trans (if_pos k21)) | exact hB _ ((if_pos (by omega)).trans (if_neg k21)))
      · refine ⟨_, rfl, ?_⟩
        have ho := ok1.kind k21
        refine gk_if_eq dX10_runs_24 (tgt := 32) (pc' := 27) (by decide) rfl (fun _ => ?_) (fun c => absurd c (by decide))
        refine gk_aload0 dX10_runs_32 (pc' := 33) rfl ?_
        refine gk_getf (fs := [_, _, _, _, _, _, _, _, _, _, _, _]) gF_Room_11 dX10_runs_33 (pc' := 36) rfl (by assumption) rfl ?_
        refine gk_iload1 dX10_runs_36 (pc' := 37) rfl ?_
        refine gk_aald (t0 := 2) rfl dX10_runs_37 (pc' := 38) rfl (by exact (a2)) (vp_in_nI hj1 (by decide)) ?_
        rw [nI_clamp (by omega), a3 j1 hj1, show va_rf (some (pc j1)) = Value.ref (pc j1) from rfl]
        refine gk_iload2 dX10_runs_38 (pc' := 39) rfl ?_
        refine gk_cV1_1 mv_Picture_rolled gw_704 dX10_runs_39 (pc' := 42) rfl (Nat.le_of_ble_eq_true rfl) (by exact (hp1.o)) (sp_Picture_rolled hp1 c9 ho.1 ho.2.1.1 ho.2.2.1.1 ?_)
        refine ⟨_, rfl, ?_⟩
        refine gk_iret dX10_runs_42 rfl (by first | exact hB _ ((if_pos (by omega)).trans (if_pos k21)) | exact hB _ ((if_pos (by omega)).trans (if_neg k21)))
    · rw [pu_le, zm] at c9
      refine gk_ldc dX10_runs_12 (pc' := 14) rfl gw_243 ?_
      refine gk_iret dX10_runs_14 rfl (hB _ (if_neg (by omega)))
  · refine ⟨_, rfl, ?_⟩
    refine gk_if_eq dX10_runs_4 (tgt := 12) (pc' := 7) (by decide) rfl (fun _ => ?_) (fun c => absurd c (by decide))
    refine gk_ldc dX10_runs_12 (pc' := 14) rfl gw_243 ?_
    refine gk_iret dX10_runs_14 rfl (hB _ (if_neg (by omega)))
end OpB
