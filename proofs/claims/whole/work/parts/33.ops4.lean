/-! ===== the calls: weight, apply, filter ===== -/
abbrev isF (F : Ft) (z : Int32) : Prop := 0 ≤ z.toInt ∧ z.toInt < F.1
def wtF (F : Ft) (j i : Nat) (v : Int32) : Ft := (F.1, F.2.1, F.2.2.1, F.2.2.2.1, F.2.2.2.2.1, fun q => if q = j then upd (F.2.2.2.2.2 j) i v else F.2.2.2.2.2 q)
def oWeight (S : St) (f i v : Int32) : Int32 × St := if isF S.2.1 f ∧ iR 0 8 i ∧ iR (-1000) 1000 v then (if S.2.1.2.1 f.toInt.toNat = 4 then (S.2.1.2.2.2.2.2 f.toInt.toNat i.toInt.toNat, (S.1, wtF S.2.1 f.toInt.toNat i.toInt.toNat v, S.2.2)) else (-100002, S)) else (-100001, S)
/-- what FILTER f makes of a picture -/
abbrev dvS (S : St) (c : Pc) (e : Int32) (f : Nat) : Nat → Int32 := dv S.2.1.2.1 S.2.1.2.2.1 S.2.1.2.2.2.1 S.2.1.2.2.2.2.2 (cuH S.1).2 c.1 c.2.1 c.2.2.1 e 4 f c.2.2.2
def oApply (S : St) (p f e : Int32) : Int32 × St := if iR 0 7 p ∧ isF S.2.1 f ∧ iR 0 3 e then (if (pcS S p).1 = -1 then (-100002, S) else (nI (cntP (dvS S (pcS S p) e f.toInt.toNat) (pcS S p).2.2.2 ((pcS S p).2.1 * (pcS S p).2.2.1)), kP S p.toInt.toNat ((pcS S p).1, (pcS S p).2.1, (pcS S p).2.2.1, dvS S (pcS S p) e f.toInt.toNat))) else (-100001, S)
section OpF
variable {X : gX} {d : Nat} {b : Nat × Nat} {h h' : gk_H} {Q : Option Value → gk_H → Prop} {r F0 : Nat} {S : St} {pc mc : Nat → Nat}
/-- the scratch things changed, and the tray -/
theorem Rs.scr (hs : Rs X h r F0 S pc mc) {A : Nat → Prop} (hf : fr A h h') (hA : ∀ c, A c → trA pc c ∨ (r + 90 ≤ c ∧ c < r + 110)) (hS' : Sc X h' r) : Rs X h' r F0 S pc mc ∧ frC r F0 h h' := by
  obtain ⟨hF, hR, ⟨R, hm⟩, hS, hT⟩ := hs
  have I := hR.I
  have h8 := I.1 8 (by decide)
  have m6 := I.2.2.1 6 (by decide)
  have x1 := h8.am m6
  have x2 := h8.fx
  have x3 := m6.fx
  have g : ∀ c, c ≠ pc 8 → c ≠ pc 8 + 1 → ¬ (r + 90 ≤ c ∧ c < r + 110) → h'.1 c = h.1 c := fun c n1 n2 n3 => hf.2 c (fun z => by rcases hA c z with z | z; exact z.elim n1 n2; exact n3 z)
  refine ⟨⟨hF, hR.fr hF hf (fun c z => ?_), ⟨R, hm.kept (g _ (by omega) (by omega) (by omega)) (g _ (by omega) (by omega) (by omega))⟩, hS', hT.kept (g _ (by omega) (by omega) (by omega)) (g _ (by omega) (by omega) (by omega))⟩, fun c n => g c (by omega) (by omega) (by omega)⟩
  have := hA c z
  unfold rmK
  unfold trA at this
  omega
theorem room_wt {j i : Nat} {v : Int32} (hR : Room X h r F0 S) (hj : j < S.2.1.1) (hi : i < 9) (hk : S.2.1.2.1 j = 4) (hv : -1000 ≤ v.toInt ∧ v.toInt ≤ 1000) (hl : isFl X h' (F0 + 2 * j) (S.2.1.2.1 j) (S.2.1.2.2.1 j) (S.2.1.2.2.2.1 j) (S.2.1.2.2.2.2.1 j) (ff1 F0 S.2.1.2.1 S.2.1.2.2.1 S.2.1.2.2.2.1 j) (ff2 F0 S.2.1.2.1 S.2.1.2.2.2.1 j) (upd (S.2.1.2.2.2.2.2 j) i v)) (hf : fr (fun c => c = F0 + 2 * j + 1) h h') : Room X h' r F0 (S.1, wtF S.2.1 j i v, S.2.2) := by
  obtain ⟨hF, pc, mc, ⟨⟨fst, cn, mn, om, sl, ⟨a1, ⟨f1, a2, a3⟩, ⟨f2, a4, a5⟩, ⟨f3, a6, a7⟩, a8, a9, a10⟩, ⟨c1, c2⟩, L⟩, I, t1, t2, t3, w1, w2⟩, ⟨c8, ht⟩, ⟨R, hm⟩, hS, hT⟩ := hR
  have g : ∀ c, c < F0 → h'.1 c = h.1 c := fun c n => hf.2 c (by omega)
  have gp : ∀ q, q < 25 → pc q + 1 < F0 := fun q hq => by have := (I.1 q hq).fx; omega
  have gm : ∀ q, q < 23 → mc q + 1 < F0 := fun q hq => by have := (I.2.2.1 q hq).fx; omega
  refine ⟨hF, pc, mc, ⟨⟨fst, cn, mn, om, sl, ⟨(g _ (by omega)).trans a1, ⟨f1, (g _ (by omega)).trans a2, a3⟩, ⟨f2, (g _ (by omega)).trans a4, a5⟩, ⟨f3, (g _ (by omega)).trans a6, a7⟩, a8.kept (g _ (by omega)) (g _ (by omega)), a9, fun i hi => (g _ (by omega)).trans (a10 i hi)⟩, ⟨fun q hq n => ?_, fun q hq n => ?_⟩, L⟩, I, fun q hq => ?_, hf.1.trans t2, t3, w1, w2.1, fun q hq => ?_, w2.2.2⟩, ⟨c8, ?_⟩, ⟨R, ?_⟩, hS.kept (fun c z1 z2 => g _ (by omega)), hT.kept (g _ (by omega)) (g _ (by omega))⟩
  · have := gp q hq
    exact (c1 q hq n).kept (g _ (by omega)) (g _ (by omega))
  · have := gm q hq
    exact (c2 q hq n).kept (g _ (by omega)) (g _ (by omega))
  · show isFl X h' (F0 + 2 * q) _ _ _ _ _ _ (if q = j then upd (S.2.1.2.2.2.2.2 j) i v else S.2.1.2.2.2.2.2 q)
    by_cases e : q = j
    · subst e; rw [if_pos rfl]; exact hl
    · rw [if_neg e]; exact (t1 q hq).kept (hf.2 _ (by omega)) (hf.2 _ (by omega))
  · have wq := w2.2.1 q hq
    show wfF S.2.1.2.1 S.2.1.2.2.1 S.2.1.2.2.2.1 S.2.1.2.2.2.2.1 (fun q => if q = j then upd (S.2.1.2.2.2.2.2 j) i v else S.2.1.2.2.2.2.2 q) q
    refine ⟨wq.1, wq.2.1, ?_⟩
    rcases wq.2.2 with z | z | z | z | z | z
    · exact Or.inl z
    · exact Or.inr (Or.inl z)
    · refine Or.inr (Or.inr (Or.inl ⟨z.1, z.2.1, z.2.2.1, fun n hn => ?_⟩))
      show -1000 ≤ ((if q = j then upd (S.2.1.2.2.2.2.2 j) i v else S.2.1.2.2.2.2.2 q) n).toInt ∧ ((if q = j then upd (S.2.1.2.2.2.2.2 j) i v else S.2.1.2.2.2.2.2 q) n).toInt ≤ 1000
      by_cases e : q = j
      · subst e
        rw [if_pos rfl]
        by_cases e2 : n = i
        · subst e2; rw [pk_us]; exact hv
        · rw [pk_un e2]; exact z.2.2.2 n hn
      · rw [if_neg e]; exact z.2.2.2 n hn
    · exact Or.inr (Or.inr (Or.inr (Or.inl z)))
    · exact Or.inr (Or.inr (Or.inr (Or.inr (Or.inl z))))
    · exact Or.inr (Or.inr (Or.inr (Or.inr (Or.inr z))))
  · have := gp 8 (by decide)
    exact ht.kept (g _ (by omega)) (g _ (by omega))
  · have := gm 6 (by decide)
    exact hm.kept (g _ (by omega)) (g _ (by omega))
theorem cl_weight {f i v : Int32} (hR : Room X h r F0 S) (hQ : ∀ h', Room X h' r F0 (oWeight S f i v).2 → frC r F0 h h' → Q (some (.int (oWeight S f i v).1)) h') : Gm (kx X) mt_Room_weight (d + 4) b [.ref r, .int f, .int i, .int v] h Q := by
  have hB : ∀ a, oWeight S f i v = (a, S) → Q (some (.int a)) h := fun a e => by
    have q := hQ h
    rw [e] at q
    exact q hR frC.rf
  have hR0 := hR
  obtain ⟨hF, pc, mc, hm, ⟨c8, ht⟩, hrest⟩ := hR
  have a1 := hm.obj
  have tw := hm.2.2.2.2.2.2
  have t1 := hm.2.2.1
  have z0 : (0 : Int32).toInt = 0 := rfl
  have z8 : (8 : Int32).toInt = 8 := rfl
  have zm : (-1000 : Int32).toInt = -1000 := rfl
  have zk : (1000 : Int32).toInt = 1000 := rfl
  have g0 : ¬ isF S.2.1 f → G (kx X) mt_Room_weight (d + 4) b 5 [some (.ref r), some (.int f), some (.int i), some (.int v), none, none] [.null] h Q := by
    intro nf
    refine gk_astoreN4 dX10_weight_5 (pc' := 7) rfl (by decide) rfl ?_
    refine gk_aloadN4 dX10_weight_7 (pc' := 9) rfl ?_
    refine gk_ifnullN dX10_weight_9 (tgt := 35) (by decide) ?_
    refine gk_ldc dX10_weight_35 (pc' := 37) rfl gw_243 ?_
    refine gk_iret dX10_weight_37 rfl (hB _ (if_neg (fun z => nf z.1)))
  have g1 : ∀ j, j < S.2.1.1 → f = nI j → G (kx X) mt_Room_weight (d + 4) b 5 [some (.ref r), some (.int f), some (.int i), some (.int v), none, none] [.ref (F0 + 2 * j)] h Q := by
    intro j hj ej
    subst ej
    have zj : (nI j).toInt = j := nI_toInt (by have := tw.1; omega)
    have yj : (nI j).toInt.toNat = j := by omega
    have fl := t1 j hj
    refine gk_astore4 dX10_weight_5 (pc' := 7) rfl (by decide) rfl ?_
    refine gk_aload4 dX10_weight_7 (pc' := 9) rfl ?_
    refine gk_ifnull dX10_weight_9 (pc' := 12) rfl ?_
    refine gk_iload2 dX10_weight_12 (pc' := 13) rfl ?_
    refine gk_iconst (v := 0) dX10_weight_13 (pc' := 14) rfl (by decide) ?_
    refine gk_bipush (v := 8) dX10_weight_14 (pc' := 16) rfl (by decide) ?_
    refine gk_cS1_3 mz_Room_within gw_240 dX10_weight_16 (pc' := 19) rfl (Nat.le_of_ble_eq_true rfl) (sp_Room_within (fun u16 v16 => ?_) (fun n16 => ?_))
    · refine ⟨_, rfl, ?_⟩
      obtain ⟨ji, hi9, rfl⟩ := pu_of (x := i) (n := 9) (by omega) (by omega) (by omega)
      have zi : (nI ji).toInt = ji := nI_toInt (by omega)
      have yi : (nI ji).toInt.toNat = ji := by omega
      refine gk_if_eq dX10_weight_19 (tgt := 35) (pc' := 22) (by decide) rfl (fun c => absurd c (by decide)) (fun _ => ?_)
      refine gk_iload3 dX10_weight_22 (pc' := 23) rfl ?_
      refine gk_sipush (v := -1000) dX10_weight_23 (pc' := 26) rfl (by decide) ?_
      refine gk_sipush (v := 1000) dX10_weight_26 (pc' := 29) rfl (by decide) ?_
      refine gk_cS1_3 mz_Room_within gw_240 dX10_weight_29 (pc' := 32) rfl (Nat.le_of_ble_eq_true rfl) (sp_Room_within (fun u29 v29 => ?_) (fun n29 => ?_))
      · refine ⟨_, rfl, ?_⟩
        refine gk_if_ne dX10_weight_32 (tgt := 38) (pc' := 35) (by decide) rfl (fun _ => ?_) (fun c => absurd c (by decide))
        refine gk_aload4 dX10_weight_38 (pc' := 40) rfl ?_
        refine gk_getf (fs := [_, _, _, _, _, _, _]) gF_Room_198 dX10_weight_40 (pc' := 43) rfl (by exact (fl.1)) rfl ?_
        refine gk_iconst (v := 4) dX10_weight_43 (pc' := 44) rfl (by decide) ?_
        refine gk_icmp_eq dX10_weight_44 (tgt := 50) (pc' := 47) (by decide) rfl (fun c44 => ?_) (fun c44 => ?_)
        · have k4 : S.2.1.2.1 j = 4 := c44
          refine gk_aload4 dX10_weight_50 (pc' := 52) rfl ?_
          refine gk_iload2 dX10_weight_52 (pc' := 53) rfl ?_
          refine gk_cV1_1 mv_Filter_weightAt gw_464 dX10_weight_53 (pc' := 56) rfl (Nat.le_of_ble_eq_true rfl) (by exact (fl.1)) (sp_Filter_weightAt fl k4 hi9 ?_)
          refine ⟨_, rfl, ?_⟩
          refine gk_istore5 dX10_weight_56 (pc' := 58) rfl (by decide) rfl ?_
          refine gk_aload4 dX10_weight_58 (pc' := 60) rfl ?_
          refine gk_iload2 dX10_weight_60 (pc' := 61) rfl ?_
          refine gk_iload3 dX10_weight_61 (pc' := 62) rfl ?_
          refine gk_cV0_2 mv_Filter_weigh gw_468 dX10_weight_62 (pc' := 65) rfl (Nat.le_of_ble_eq_true rfl) (by exact (fl.1)) (sp_Filter_weigh fl k4 hi9 (fun h1 y1 y2 => ?_))
          refine ⟨rfl, ?_⟩
          refine gk_iload5 dX10_weight_65 (pc' := 67) rfl ?_
          refine gk_iret dX10_weight_67 rfl (by have q := hQ h1; rw [show oWeight S (nI j) (nI ji) v = _ from (if_pos ⟨by omega, by omega, by omega⟩).trans (if_pos (by rw [yj]; exact k4)), yj, yi] at q; exact q (room_wt hR0 hj hi9 k4 ⟨by omega, by omega⟩ y1 y2) (fun c n => y2.2 c (by omega)))
        · have k4 : ¬ S.2.1.2.1 j = 4 := c44
          refine gk_ldc dX10_weight_47 (pc' := 49) rfl gw_297 ?_
          refine gk_iret dX10_weight_49 rfl (hB _ ((if_pos ⟨by omega, by omega, by omega⟩).trans (if_neg (by rw [yj]; exact k4))))
      · refine ⟨_, rfl, ?_⟩
        refine gk_if_ne dX10_weight_32 (tgt := 38) (pc' := 35) (by decide) rfl (fun c => absurd c (by decide)) (fun _ => ?_)
        refine gk_ldc dX10_weight_35 (pc' := 37) rfl gw_243 ?_
        refine gk_iret dX10_weight_37 rfl (hB _ (if_neg (fun z => by have := z.2.1; have := z.2.2; omega)))
    · refine ⟨_, rfl, ?_⟩
      refine gk_if_eq dX10_weight_19 (tgt := 35) (pc' := 22) (by decide) rfl (fun _ => ?_) (fun c => absurd c (by decide))
      refine gk_ldc dX10_weight_35 (pc' := 37) rfl gw_243 ?_
      refine gk_iret dX10_weight_37 rfl (hB _ (if_neg (fun z => by have := z.2.1; have := z.2.2; omega)))
  refine Gm.enter (L := [some (.ref r), some (.int f), some (.int i), some (.int v), none, none]) (by decide) (fun _ => trivial) (Nat.le_of_ble_eq_true rfl) rfl ?_
  refine gk_aload0 dX10_weight_0 (pc' := 1) rfl ?_
  refine gk_iload1 dX10_weight_1 (pc' := 2) rfl ?_
  refine gk_cV1_1 mv_Room_partOf gw_417 dX10_weight_2 (pc' := 5) rfl (Nat.le_of_ble_eq_true rfl) (by assumption) (sp_Room_partOf hm (fun j hj ej => ?_) (fun nf => ?_))
  · refine ⟨_, rfl, ?_⟩
    exact g1 j hj ej
  · refine ⟨_, rfl, ?_⟩
    exact g0 nf
  
theorem cl_apply {p f e : Int32} (hR : Room X h r F0 S) (hQ : ∀ h', Room X h' r F0 (oApply S p f e).2 → frC r F0 h h' → Q (some (.int (oApply S p f e).1)) h') : Gm (kx X) mt_Room_apply (d + 10) b [.ref r, .int p, .int f, .int e] h Q := by
  have hB : ∀ a, oApply S p f e = (a, S) → Q (some (.int a)) h := fun a e => by
    have q := hQ h
    rw [e] at q
    exact q hR frC.rf
  obtain ⟨hF, pc, mc, hm, ⟨c8, ht⟩, hrest⟩ := hR
  have hs : Rs X h r F0 S pc mc := ⟨hF, hm, hrest⟩
  have a1 := hm.obj
  obtain ⟨f1, a2, a3⟩ := hm.prow
  have tw := hm.2.2.2.2.2.2
  have t1 := hm.2.2.1
  have g0 : ¬ isF S.2.1 f → G (kx X) mt_Room_apply (d + 10) b 5 [some (.ref r), some (.int p), some (.int f), some (.int e), none, none, none] [.null] h Q := by
    intro nf
    refine gk_astoreN4 dX10_apply_5 (pc' := 7) rfl (by decide) rfl ?_
    refine gk_iload1 dX10_apply_7 (pc' := 8) rfl ?_
    refine gk_cS1_1 mz_Room_isPicture gw_237 dX10_apply_8 (pc' := 11) rfl (Nat.le_of_ble_eq_true rfl) (sp_Room_isPicture (fun j8 hj8 ej8 => ?_) (fun n8 => ?_))
    · refine ⟨_, rfl, ?_⟩
      subst ej8
      have zj8 : (nI j8).toInt = j8 := nI_toInt (by omega)
      have yj8 : (nI j8).toInt.toNat = j8 := by omega
      have hp8 := picS hm hj8
      have ok8 := okpS hm hj8
      have ap8 := hm.ap hj8
      refine gk_if_eq dX10_apply_11 (tgt := 26) (pc' := 14) (by decide) rfl (fun c => absurd c (by decide)) (fun _ => ?_)
      refine gk_aloadN4 dX10_apply_14 (pc' := 16) rfl ?_
      refine gk_ifnullN dX10_apply_16 (tgt := 26) (by decide) ?_
      refine gk_ldc dX10_apply_26 (pc' := 28) rfl gw_243 ?_
      refine gk_iret dX10_apply_28 rfl (hB _ (if_neg (fun z => nf z.2.1)))
    · refine ⟨_, rfl, ?_⟩
      refine gk_if_eq dX10_apply_11 (tgt := 26) (pc' := 14) (by decide) rfl (fun _ => ?_) (fun c => absurd c (by decide))
      refine gk_ldc dX10_apply_26 (pc' := 28) rfl gw_243 ?_
      refine gk_iret dX10_apply_28 rfl (hB _ (if_neg (fun z => nf z.2.1)))
  have g1 : ∀ j, j < S.2.1.1 → f = nI j → G (kx X) mt_Room_apply (d + 10) b 5 [some (.ref r), some (.int p), some (.int f), some (.int e), none, none, none] [.ref (F0 + 2 * j)] h Q := by
    intro j hj ej
    subst ej
    have zj : (nI j).toInt = j := nI_toInt (by have := tw.1; omega)
    have yj : (nI j).toInt.toNat = j := by omega
    have wj := tw.2.1 j hj
    obtain ⟨⟨gn, s1⟩, s2, s3⟩ := hrest.2.1
    have x8 := (hm.I.1 8 (by decide)).fx
    have fin : ∀ j8, j8 < 8 → p = nI j8 → ¬ (pcS S p).1 = -1 → iR 0 3 e → G (kx X) mt_Room_apply (d + 10) b 48 [some (.ref r), some (.int p), some (.int (nI j)), some (.int e), some (.ref (F0 + 2 * j)), some (.ref (pc j8)), none] [] h Q := by
      intro j8 hj8 ep hk he
      subst ep
      have zj8 : (nI j8).toInt = j8 := nI_toInt (by omega)
      have yj8 : (nI j8).toInt.toNat = j8 := by omega
      have hp8 := picS hm hj8
      have ok8 := (okpS hm hj8).kind hk
      have ap8 := hm.ap hj8
      have xj := (hm.I.1 j8 (by omega)).fx
      have hM : isMs X h (r + 2) mc (cuH S.1).2 := ⟨hm.mrow, fun m hmm => hm.msk hmm⟩
      have hok : okP ((pcS S (nI j8)).1, (pcS S (nI j8)).2.1, (pcS S (nI j8)).2.2.1, dvS S (pcS S (nI j8)) e j) := Or.inr ⟨ok8.1, ok8.2.1, ok8.2.2.1, inK_dv ok8.2.1.1 ok8.2.2.1.1 tw.2.2 4 j _ ok8.2.2.2⟩
      refine gk_aload0 dX10_apply_48 (pc' := 49) rfl ?_
      refine gk_getf (fs := [_, _, _, _, _, _, _, _, _, _, _, _]) gF_Room_51 dX10_apply_49 (pc' := 52) rfl (by assumption) rfl ?_
      refine gk_aload4 dX10_apply_52 (pc' := 54) rfl ?_
      refine gk_aload5 dX10_apply_54 (pc' := 56) rfl ?_
      refine gk_aload0 dX10_apply_56 (pc' := 57) rfl ?_
      refine gk_getf (fs := [_, _, _, _, _, _, _, _, _, _, _, _]) gF_Room_32 dX10_apply_57 (pc' := 60) rfl (by assumption) rfl ?_
      refine gk_aload0 dX10_apply_60 (pc' := 61) rfl ?_
      refine gk_getf (fs := [_, _, _, _, _, _, _, _, _, _, _, _]) gF_Room_17 dX10_apply_61 (pc' := 64) rfl (by assumption) rfl ?_
      refine gk_iload3 dX10_apply_64 (pc' := 65) rfl ?_
      refine gk_iconst (v := 0) dX10_apply_65 (pc' := 66) rfl (by decide) ?_
      refine gk_cSN0_7 mz_Bench_develop (host := "DarkRoom") (by decide +kernel) dX10_apply_66 (pc' := 69) rfl (Nat.le_of_ble_eq_true rfl) (sp_Bench_develop tw.2.1 tw.2.2 (by omega) ok8.2.1.1 ok8.2.2.1.1 4 (d + 4) j (pc j8) (pc 8) 0 (pcS S (nI j8)).2.2.2 h _ gn c8.1 c8.2.1 c8.2.2.1 c8.2.2.2 (by omega) hj wj.2.1 (by omega) (fun c hc => by unfold dvM; omega) (by omega) (by omega) (by omega) (by unfold dvM; omega) (fun m hmm => by have y1 := (hm.I.2.2.1 m (by omega)).fx; have y2 := (hm.I.1 8 (by decide)).am (hm.I.2.2.1 m (by omega)); unfold dvM; omega) s1 s2 hp8 ht t1 hM ok8.2.2.2 (fun h1 gn1 y1 y2 y3 y4 => ?_))
      refine ⟨rfl, ?_⟩
      have hz := hs.scr y4 (fun c z => by unfold dvM at z; unfold trA; omega) ⟨⟨gn1, y1⟩, y2, (by obtain ⟨⟨pl, wt, n, b3⟩, ⟨cr, am, b4⟩, cs, cl, tot, b5⟩ := s3; have gg : ∀ c, r + 101 ≤ c → c < r + 110 → h1.1 c = h.1 c := (fun c z1 z2 => y4.2 c (by unfold dvM; omega)); exact ⟨⟨pl, wt, n, (gg _ (by omega) (by omega)).trans b3.1, (gg _ (by omega) (by omega)).trans b3.2.1, (gg _ (by omega) (by omega)).trans b3.2.2⟩, ⟨cr, am, (gg _ (by omega) (by omega)).trans b4.1, (gg _ (by omega) (by omega)).trans b4.2.1, (gg _ (by omega) (by omega)).trans b4.2.2⟩, cs, cl, tot, (gg _ (by omega) (by omega)).trans b5.1, (gg _ (by omega) (by omega)).trans b5.2.1, (gg _ (by omega) (by omega)).trans b5.2.2⟩)⟩
      have hs1 := hz.1
      have fc1 := hz.2
      have a1 := hs1.2.1.obj
      have hp9 := picS hs1.2.1 hj8
      refine gk_aload0 dX10_apply_69 (pc' := 70) rfl ?_
      refine gk_getf (fs := [_, _, _, _, _, _, _, _, _, _, _, _]) gF_Room_32 dX10_apply_70 (pc' := 73) rfl (by assumption) rfl ?_
      refine gk_aload5 dX10_apply_73 (pc' := 75) rfl ?_
      refine gk_cV1_1 mv_Picture_unlikePixels gw_386 dX10_apply_75 (pc' := 78) rfl (Nat.le_of_ble_eq_true rfl) (by exact (y3.o)) (sp_Picture_unlikePixels y3 hp9 ?_)
      refine ⟨_, rfl, ?_⟩
      refine gk_istore6 dX10_apply_78 (pc' := 80) rfl (by decide) rfl ?_
      refine gk_aload0 dX10_apply_80 (pc' := 81) rfl ?_
      refine gk_iload1 dX10_apply_81 (pc' := 82) rfl ?_
      refine gk_cV0_1 mv_Room_keepPicture gw_262 dX10_apply_82 (pc' := 85) rfl (Nat.le_of_ble_eq_true rfl) (by assumption) (sp_keepP hs1 y3 hok hj8 (fun h3 z3 z4 => ?_))
      refine ⟨rfl, ?_⟩
      refine gk_iload6 dX10_apply_85 (pc' := 87) rfl ?_
      refine gk_iret dX10_apply_87 rfl (by have q := hQ h3; rw [show oApply S (nI j8) (nI j) e = _ from (if_pos ⟨by omega, by omega, by omega⟩).trans (if_neg hk), yj8, yj] at q; exact q z3 (fc1.trans z4))
    refine gk_astore4 dX10_apply_5 (pc' := 7) rfl (by decide) rfl ?_
    refine gk_iload1 dX10_apply_7 (pc' := 8) rfl ?_
    refine gk_cS1_1 mz_Room_isPicture gw_237 dX10_apply_8 (pc' := 11) rfl (Nat.le_of_ble_eq_true rfl) (sp_Room_isPicture (fun j8 hj8 ej8 => ?_) (fun n8 => ?_))
    · refine ⟨_, rfl, ?_⟩
      subst ej8
      have zj8 : (nI j8).toInt = j8 := nI_toInt (by omega)
      have yj8 : (nI j8).toInt.toNat = j8 := by omega
      have hp8 := picS hm hj8
      have ok8 := okpS hm hj8
      have ap8 := hm.ap hj8
      refine gk_if_eq dX10_apply_11 (tgt := 26) (pc' := 14) (by decide) rfl (fun c => absurd c (by decide)) (fun _ => ?_)
      refine gk_aload4 dX10_apply_14 (pc' := 16) rfl ?_
      refine gk_ifnull dX10_apply_16 (pc' := 19) rfl ?_
      refine gk_iload3 dX10_apply_19 (pc' := 20) rfl ?_
      refine gk_cS1_1 mz_Room_isEdge gw_334 dX10_apply_20 (pc' := 23) rfl (Nat.le_of_ble_eq_true rfl) (sp_Room_isEdge (fun j20 hj20 ej20 => ?_) (fun n20 => ?_))
      · refine ⟨_, rfl, ?_⟩
        subst ej20
        have zj20 : (nI j20).toInt = j20 := nI_toInt (by omega)
        have yj20 : (nI j20).toInt.toNat = j20 := by omega
        refine gk_if_ne dX10_apply_23 (tgt := 29) (pc' := 26) (by decide) rfl (fun _ => ?_) (fun c => absurd c (by decide))
        refine gk_aload0 dX10_apply_29 (pc' := 30) rfl ?_
        refine gk_getf (fs := [_, _, _, _, _, _, _, _, _, _, _, _]) gF_Room_11 dX10_apply_30 (pc' := 33) rfl (by assumption) rfl ?_
        refine gk_iload1 dX10_apply_33 (pc' := 34) rfl ?_
        refine gk_aald (t0 := 2) rfl dX10_apply_34 (pc' := 35) rfl (by exact (a2)) (vp_in_nI hj8 (by decide)) ?_
        rw [nI_clamp (by omega), a3 j8 hj8, show va_rf (some (pc j8)) = Value.ref (pc j8) from rfl]
        refine gk_astore5 dX10_apply_35 (pc' := 37) rfl (by decide) rfl ?_
        refine gk_aload5 dX10_apply_37 (pc' := 39) rfl ?_
        refine gk_cV1_0 mv_Picture_isMissing gw_330 dX10_apply_39 (pc' := 42) rfl (Nat.le_of_ble_eq_true rfl) (by exact (hp8.o)) (sp_Picture_isMissing hp8 (fun k39 => ?_) (fun k39 => ?_))
        · refine ⟨_, rfl, ?_⟩
          refine gk_if_eq dX10_apply_42 (tgt := 48) (pc' := 45) (by decide) rfl (fun c => absurd c (by decide)) (fun _ => ?_)
          refine gk_ldc dX10_apply_45 (pc' := 47) rfl gw_297 ?_
          refine gk_iret dX10_apply_47 rfl (hB _ ((if_pos ⟨by omega, by omega, by omega⟩).trans (if_pos k39)))
        · refine ⟨_, rfl, ?_⟩
          refine gk_if_eq dX10_apply_42 (tgt := 48) (pc' := 45) (by decide) rfl (fun _ => ?_) (fun c => absurd c (by decide))
          exact fin j8 hj8 rfl k39 ⟨by omega, by omega⟩
      · refine ⟨_, rfl, ?_⟩
        refine gk_if_ne dX10_apply_23 (tgt := 29) (pc' := 26) (by decide) rfl (fun c => absurd c (by decide)) (fun _ => ?_)
        refine gk_ldc dX10_apply_26 (pc' := 28) rfl gw_243 ?_
        refine gk_iret dX10_apply_28 rfl (hB _ (if_neg (fun z => by have := z.1; have := z.2.2; omega)))
    · refine ⟨_, rfl, ?_⟩
      refine gk_if_eq dX10_apply_11 (tgt := 26) (pc' := 14) (by decide) rfl (fun _ => ?_) (fun c => absurd c (by decide))
      refine gk_ldc dX10_apply_26 (pc' := 28) rfl gw_243 ?_
      refine gk_iret dX10_apply_28 rfl (hB _ (if_neg (fun z => by have := z.1; have := z.2.2; omega)))
  refine Gm.enter (L := [some (.ref r), some (.int p), some (.int f), some (.int e), none, none, none]) (by decide) (fun _ => trivial) (Nat.le_of_ble_eq_true rfl) rfl ?_
  refine gk_aload0 dX10_apply_0 (pc' := 1) rfl ?_
  refine gk_iload2 dX10_apply_1 (pc' := 2) rfl ?_
  refine gk_cV1_1 mv_Room_partOf gw_417 dX10_apply_2 (pc' := 5) rfl (Nat.le_of_ble_eq_true rfl) (by assumption) (sp_Room_partOf hm (fun j hj ej => ?_) (fun nf => ?_))
  · refine ⟨_, rfl, ?_⟩
    exact g1 j hj ej
  · refine ⟨_, rfl, ?_⟩
    exact g0 nf
  
end OpF
