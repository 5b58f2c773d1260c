/-! ===== the calls: mask, maskOf, maskBy, weight, apply ===== -/
def oMask (S : St) (m x y : Int32) (on : Bool) : Int32 × St := if iR 0 5 m ∧ iR 0 15 x ∧ iR 0 15 y then (if (mkS S m y.toInt.toNat).testBit x.toInt.toNat then 1 else 0, kM S m.toInt.toNat (mset (mkS S m) x.toInt.toNat y.toInt.toNat on)) else (-100001, S)
/-- a mask of the first n places, row by row, of a picture w wide where P holds -/
def moR (w n : Nat) (P : Nat → Nat → Bool) : Nat → Nat := fun j => mkR (fun x => decide (x < w) && (decide (j * w + x < n) && P x j)) 16
theorem moR_lt {w n : Nat} {P : Nat → Nat → Bool} (j : Nat) : moR w n P j < 65536 := mkR_16 _
theorem moR_0 {w : Nat} {P : Nat → Nat → Bool} (j : Nat) : moR w 0 P j = 0 := by
  refine Nat.eq_of_testBit_eq fun i => ?_
  unfold moR
  rw [mkR_bit]
  simp
theorem moR_s {w x y : Nat} {P : Nat → Nat → Bool} (hx : x < w) (hw : w ≤ 16) (j : Nat) : mset (moR w (y * w + x) P) x y (P x y) j = moR w (y * w + x + 1) P j := by
  refine Nat.eq_of_testBit_eq fun i => ?_
  have hk : ∀ j i, i < w → (j * w + i < y * w + x + 1 ↔ j * w + i < y * w + x ∨ (j = y ∧ i = x)) := fun j i hi => by
    constructor
    · intro q
      by_cases e : j * w + i < y * w + x
      · exact Or.inl e
      · have e2 : j * w + i = y * w + x := by omega
        have d1 := dm (y := j) hi
        have d2 := dm (y := y) hx
        rw [e2] at d1
        exact Or.inr ⟨d1.2.symm.trans d2.2, d1.1.symm.trans d2.1⟩
    · rintro (q | ⟨rfl, rfl⟩) <;> omega
  unfold mset
  by_cases e : j = y
  · subst e
    rw [if_pos rfl, mkR_bit]
    unfold moR
    rw [mkR_bit, mkR_bit]
    by_cases h16 : i < 16
    · by_cases hi : i = x
      · subst hi; simp [h16, hx]
      · simp only [h16, decide_true, Bool.true_and, if_neg hi]
        by_cases hiw : i < w
        · have := hk j i hiw
          by_cases q : j * w + i < j * w + x
          · simp [hiw, q, this]
          · have q2 : ¬ j * w + i < j * w + x + 1 := fun z => (this.mp z).elim q (fun z => hi z.2)
            simp [q, q2]
        · simp [hiw]
    · simp [h16]
  · rw [if_neg e]
    unfold moR
    rw [mkR_bit, mkR_bit]
    by_cases hiw : i < w
    · have := hk j i hiw
      by_cases q : j * w + i < y * w + x
      · simp [hiw, q, this]
      · have q2 : ¬ j * w + i < y * w + x + 1 := fun z => (this.mp z).elim q (fun z => e z.1)
        simp [q, q2]
    · simp [hiw]
abbrev inB (lo hi v : Int32) : Bool := decide (lo.toInt ≤ v.toInt ∧ v.toInt ≤ hi.toInt)
/-- where a picture has a pixel from lo to hi -/
def mkO (c : Pc) (lo hi : Int32) : Nat → Nat := moR c.2.1 (c.2.1 * c.2.2.1) (fun x y => inB lo hi (c.2.2.2 (y * c.2.1 + x)))
def oMaskOf (S : St) (m p lo hi : Int32) : Int32 × St := if iR 0 5 m ∧ iR 0 7 p then (if (pcS S p).1 = -1 then (-100002, S) else (nI (popM (mkO (pcS S p) lo hi) 16), kM S m.toInt.toNat (mkO (pcS S p) lo hi))) else (-100001, S)
def oMaskBy (S : St) (m n how : Int32) : Int32 × St := if iR 0 5 m ∧ iR 0 5 n ∧ iR 0 6 how then (nI (popM (mjR (mkS S m) (mkS S n) how.toInt.toNat) 16), kM S m.toInt.toNat (mjR (mkS S m) (mkS S n) how.toInt.toNat)) else (-100001, S)
abbrev trM (mc : Nat → Nat) (c : Nat) : Prop := c = mc 6 ∨ c = mc 6 + 1
section OpE
variable {X : gX} {d : Nat} {b : Nat × Nat} {h : gk_H} {Q : Option Value → gk_H → Prop} {r F0 : Nat} {S : St} {pc mc : Nat → Nat}
theorem kM_msk {R : Nat → Nat} {m : Nat} (hm : m < 6) (hR : Room X h r F0 (kM S m R)) : ∃ (pc' mc' : Nat → Nat), h.1 r = some (rmO r S.2.1.1 (pc' 8) (mc' 6)) ∧ (∃ f : Nat → Option Nat, h.1 (r + 2) = some (cR X 3 6 f) ∧ ∀ p, p < 6 → f p = some (mc' p)) ∧ isMk X h (mc' m) R := by
  obtain ⟨_, pc', mc', hm', -⟩ := hR
  refine ⟨pc', mc', hm'.obj, hm'.mrow, ?_⟩
  have := hm'.msk hm
  rw [show (cuH (kM S m R).1).2 m = R by show (cuH (psh S.1 true m (setM (cuH S.1) m R))).2 m = R; rw [psh_cu]; exact if_pos rfl] at this
  exact this
theorem cl_mask {m x y : Int32} {on : Bool} (hR : Room X h r F0 S) (hQ : ∀ h', Room X h' r F0 (oMask S m x y on).2 → frC r F0 h h' → Q (some (.int (oMask S m x y on).1)) h') : Gm (kx X) mt_Room_mask (d + 4) b [.ref r, .int m, .int x, .int y, .int (if on then 1 else 0)] h Q := by
  have hB : ∀ a, oMask S m x y on = (a, S) → Q (some (.int a)) h := fun a e => by
    have q := hQ h
    rw [e] at q
    exact q hR frC.rf
  obtain ⟨hF, pc, mc, hm, ⟨c8, ht⟩, ⟨R6, hm6⟩, hrest⟩ := hR
  have hs : Rs X h r F0 S pc mc := ⟨hF, hm, ⟨R6, hm6⟩, hrest⟩
  have a1 := hm.obj
  obtain ⟨f1, b2, b3⟩ := hm.mrow
  have fin : ∀ j1 i j v, j1 < 6 → i < 16 → j < 16 → m = nI j1 → x = nI i → y = nI j → v = (if (mkS S m j).testBit i then (1 : Int32) else 0) → G (kx X) mt_Room_mask (d + 4) b 43 [some (.ref r), some (.int m), some (.int x), some (.int y), some (.int (if on then 1 else 0)), some (.ref (mc j1)), some (.int v)] [] h Q := by
    intro j1 i j v hj1 hi hj em ex ey ev
    subst em ex ey
    have hp1 := mskS hm hj1
    have ap1 := hm.am hj1
    have z1 : (nI j1).toInt = j1 := nI_toInt (by omega)
    have z2 : (nI i).toInt = i := nI_toInt (by omega)
    have z3 : (nI j).toInt = j := nI_toInt (by omega)
    refine gk_aload0 dX10_mask_43 (pc' := 44) rfl ?_
    refine gk_getf (fs := [_, _, _, _, _, _, _, _, _, _, _, _]) gF_Room_37 dX10_mask_44 (pc' := 47) rfl (by assumption) rfl ?_
    refine gk_aload5 dX10_mask_47 (pc' := 49) rfl ?_
    refine gk_cV0_1 mv_Mask_copyFrom gw_539 dX10_mask_49 (pc' := 52) rfl (Nat.le_of_ble_eq_true rfl) (by exact (hm6.o)) (sp_Mask_copyFrom hm6 hp1 (by omega) (fun h1 y1 y2 => ?_))
    refine ⟨rfl, ?_⟩
    have hs1 := (hs.mtray ht y2 (fun c z => by omega) y1).1
    have ht1 := (hs.mtray ht y2 (fun c z => by omega) y1).2
    have fc1 := hs.mtrayC y2 (fun c z => by omega)
    have a1 := hs1.2.1.obj
    refine gk_aload0 dX10_mask_52 (pc' := 53) rfl ?_
    refine gk_getf (fs := [_, _, _, _, _, _, _, _, _, _, _, _]) gF_Room_37 dX10_mask_53 (pc' := 56) rfl (by assumption) rfl ?_
    refine gk_iload2 dX10_mask_56 (pc' := 57) rfl ?_
    refine gk_iload3 dX10_mask_57 (pc' := 58) rfl ?_
    refine gk_iload4 dX10_mask_58 (pc' := 60) rfl ?_
    refine gk_cV0_3 mv_Mask_light gw_544 dX10_mask_60 (pc' := 63) rfl (Nat.le_of_ble_eq_true rfl) (by exact (y1.o)) (sp_Mask_light y1 hi hj (fun h2 y3 y4 => ?_))
    refine ⟨rfl, ?_⟩
    have hs2 := (hs1.mtray ht1 y4 (fun c z => by omega) y3).1
    have ht2 := (hs1.mtray ht1 y4 (fun c z => by omega) y3).2
    have fc2 := hs1.mtrayC y4 (fun c z => by omega)
    have a1 := hs2.2.1.obj
    refine gk_aload0 dX10_mask_63 (pc' := 64) rfl ?_
    refine gk_iload1 dX10_mask_64 (pc' := 65) rfl ?_
    refine gk_cV0_1 mv_Room_keepMask gw_548 dX10_mask_65 (pc' := 68) rfl (Nat.le_of_ble_eq_true rfl) (by assumption) (sp_keepM hs2 ht2 y3 hj1 (fun h3 z3 z4 => ?_))
    refine ⟨rfl, ?_⟩
    refine gk_iload6 dX10_mask_68 (pc' := 70) rfl ?_
    refine gk_iret dX10_mask_70 rfl (by have q := hQ h3; rw [show oMask S (nI j1) (nI i) (nI j) on = _ from if_pos (by omega), nI_nat (j := i) (by omega), nI_nat (j := j) (by omega), nI_nat (j := j1) (by omega)] at q; rw [ev]; exact q z3 ((fc1.trans fc2).trans z4))
  refine Gm.enter (L := [some (.ref r), some (.int m), some (.int x), some (.int y), some (.int (if on then 1 else 0)), none, none]) (by decide) (fun _ => trivial) (Nat.le_of_ble_eq_true rfl) rfl ?_
  refine gk_iload1 dX10_mask_0 (pc' := 1) rfl ?_
  refine gk_cS1_1 mz_Room_isMask gw_421 dX10_mask_1 (pc' := 4) rfl (Nat.le_of_ble_eq_true rfl) (sp_Room_isMask (fun j1 hj1 ej1 => ?_) (fun n1 => ?_))
  · refine ⟨_, rfl, ?_⟩
    subst ej1
    have zj1 : (nI j1).toInt = j1 := nI_toInt (by omega)
    have yj1 : (nI j1).toInt.toNat = j1 := by omega
    have hp1 := mskS hm hj1
    have ap1 := hm.am hj1
    refine gk_if_eq dX10_mask_4 (tgt := 15) (pc' := 7) (by decide) rfl (fun c => absurd c (by decide)) (fun _ => ?_)
    refine gk_iload2 dX10_mask_7 (pc' := 8) rfl ?_
    refine gk_iload3 dX10_mask_8 (pc' := 9) rfl ?_
    refine gk_cS1_2 mz_Room_isOfMask gw_537 dX10_mask_9 (pc' := 12) rfl (Nat.le_of_ble_eq_true rfl) (sp_Room_isOfMask (fun i9 j9 hi9 hj9 ei9 ej9 => ?_) (fun n9 => ?_))
    · refine ⟨_, rfl, ?_⟩
      subst ei9 ej9
      have zi9 : (nI i9).toInt = i9 := nI_toInt (by omega)
      have zj9 : (nI j9).toInt = j9 := nI_toInt (by omega)
      have yi9 : (nI i9).toInt.toNat = i9 := by omega
      have yj9 : (nI j9).toInt.toNat = j9 := by omega
      refine gk_if_ne dX10_mask_12 (tgt := 18) (pc' := 15) (by decide) rfl (fun _ => ?_) (fun c => absurd c (by decide))
      refine gk_aload0 dX10_mask_18 (pc' := 19) rfl ?_
      refine gk_getf (fs := [_, _, _, _, _, _, _, _, _, _, _, _]) gF_Room_17 dX10_mask_19 (pc' := 22) rfl (by assumption) rfl ?_
      refine gk_iload1 dX10_mask_22 (pc' := 23) rfl ?_
      refine gk_aald (t0 := 3) rfl dX10_mask_23 (pc' := 24) rfl (by exact (b2)) (vp_in_nI hj1 (by decide)) ?_
      rw [nI_clamp (by omega), b3 j1 hj1, show va_rf (some (mc j1)) = Value.ref (mc j1) from rfl]
      refine gk_astore5 dX10_mask_24 (pc' := 26) rfl (by decide) rfl ?_
      refine gk_aload5 dX10_mask_26 (pc' := 28) rfl ?_
      refine gk_iload2 dX10_mask_28 (pc' := 29) rfl ?_
      refine gk_iload3 dX10_mask_29 (pc' := 30) rfl ?_
      refine gk_cV1_2 mv_Mask_lit gw_538 dX10_mask_30 (pc' := 33) rfl (Nat.le_of_ble_eq_true rfl) (by exact (hp1.o)) (sp_Mask_lit hp1 hi9 hj9 (fun k30 => ?_) (fun k30 => ?_))
      · refine ⟨_, rfl, ?_⟩
        refine gk_if_eq dX10_mask_33 (tgt := 40) (pc' := 36) (by decide) rfl (fun c => absurd c (by decide)) (fun _ => ?_)
        refine gk_iconst (v := 1) dX10_mask_36 (pc' := 37) rfl (by decide) ?_
        refine gk_goto dX10_mask_37 (tgt := 41) (by decide) ?_
        refine gk_istore6 dX10_mask_41 (pc' := 43) rfl (by decide) rfl ?_
        exact fin j1 i9 j9 _ hj1 hi9 hj9 rfl rfl rfl (by rw [k30]; rfl)
      · refine ⟨_, rfl, ?_⟩
        refine gk_if_eq dX10_mask_33 (tgt := 40) (pc' := 36) (by decide) rfl (fun _ => ?_) (fun c => absurd c (by decide))
        refine gk_iconst (v := 0) dX10_mask_40 (pc' := 41) rfl (by decide) ?_
        refine gk_istore6 dX10_mask_41 (pc' := 43) rfl (by decide) rfl ?_
        exact fin j1 i9 j9 _ hj1 hi9 hj9 rfl rfl rfl (by rw [k30]; rfl)
    · refine ⟨_, rfl, ?_⟩
      refine gk_if_ne dX10_mask_12 (tgt := 18) (pc' := 15) (by decide) rfl (fun c => absurd c (by decide)) (fun _ => ?_)
      refine gk_ldc dX10_mask_15 (pc' := 17) rfl gw_243 ?_
      refine gk_iret dX10_mask_17 rfl (hB _ (if_neg (by omega)))
  · refine ⟨_, rfl, ?_⟩
    refine gk_if_eq dX10_mask_4 (tgt := 15) (pc' := 7) (by decide) rfl (fun _ => ?_) (fun c => absurd c (by decide))
    refine gk_ldc dX10_mask_15 (pc' := 17) rfl gw_243 ?_
    refine gk_iret dX10_mask_17 rfl (hB _ (if_neg (by omega)))
theorem lp_maskOfX {h0 : gk_H} {j1 j2 y : Nat} {lo hi : Int32} (hs : Rs X h0 r F0 S pc mc) {c8 : Pc} (ht : isPc X h0 (pc 8) c8) (hj2 : j2 < 8) (hy : y < (pcS S (nI j2)).2.2.1)
    (hQ : ∀ h, isMk X h (mc 6) (moR (pcS S (nI j2)).2.1 ((y + 1) * (pcS S (nI j2)).2.1) (fun x y => inB lo hi ((pcS S (nI j2)).2.2.2 (y * (pcS S (nI j2)).2.1 + x)))) → fr (trM mc) h0 h → ∀ l7, G (kx X) mt_Room_maskOf (d + 4) b 106 [some (.ref r), some (.int (nI j1)), some (.int (nI j2)), some (.int lo), some (.int hi), some (.ref (pc j2)), some (.int (nI y)), l7] [] h Q) :
    ∀ f x h, x + f = (pcS S (nI j2)).2.1 → isMk X h (mc 6) (moR (pcS S (nI j2)).2.1 (y * (pcS S (nI j2)).2.1 + x) (fun x y => inB lo hi ((pcS S (nI j2)).2.2.2 (y * (pcS S (nI j2)).2.1 + x)))) → fr (trM mc) h0 h → G (kx X) mt_Room_maskOf (d + 4) b 59 [some (.ref r), some (.int (nI j1)), some (.int (nI j2)), some (.int lo), some (.int hi), some (.ref (pc j2)), some (.int (nI y)), some (.int (nI x))] [] h Q := by
  intro f
  induction f with
  | zero =>
    intro x h hx hg hf
    have hs1 := (hs.mtray ht hf (fun c z => z) hg).1
    have hp1 := picS hs1.2.1 hj2
    have u1 := hp1.1
    refine gk_iload7 dX10_maskOf_59 (pc' := 61) rfl ?_
    refine gk_aload5 dX10_maskOf_61 (pc' := 63) rfl ?_
    refine gk_getf (fs := [_, _, _, _]) gF_Room_152 dX10_maskOf_63 (pc' := 66) rfl (by exact (hp1.o)) rfl ?_
    refine gk_icmp_ge dX10_maskOf_66 (tgt := 106) (pc' := 69) (by decide) rfl (fun c66 => ?_) (fun c66 => absurd (nI_le (by omega) (by omega)) c66)
    refine hQ h ?_ hf _
    have e9 : (y + 1) * (pcS S (nI j2)).2.1 = y * (pcS S (nI j2)).2.1 + x := by rw [Nat.add_mul, Nat.one_mul]; omega
    rw [e9]
    exact hg
  | succ f ih =>
    intro x h hx hg hf
    have hs1 := (hs.mtray ht hf (fun c z => z) hg).1
    have a1 := hs1.2.1.obj
    have hp1 := picS hs1.2.1 hj2
    have u1 := hp1.1
    have u2 := hp1.2.1
    have pl := place_lt (show x < (pcS S (nI j2)).2.1 by omega) hy
    have go : ∀ v : Bool, v = inB lo hi ((pcS S (nI j2)).2.2.2 (y * (pcS S (nI j2)).2.1 + x)) → G (kx X) mt_Room_maskOf (d + 4) b 97 [some (.ref r), some (.int (nI j1)), some (.int (nI j2)), some (.int lo), some (.int hi), some (.ref (pc j2)), some (.int (nI y)), some (.int (nI x))] [.int (if v then 1 else 0), .int (nI y), .int (nI x), .ref (mc 6)] h Q := by
      intro v hv
      refine gk_cV0_3 mv_Mask_light gw_544 dX10_maskOf_97 (pc' := 100) rfl (Nat.le_of_ble_eq_true rfl) (by exact (hg.o)) (sp_Mask_light hg (by omega) (by omega) (fun h' q1 q2 => ?_))
      refine ⟨rfl, ?_⟩
      refine gk_iinc7 (v := 1) dX10_maskOf_100 (pc' := 103) rfl (by decide) (by decide) rfl ?_
      refine gk_goto dX10_maskOf_103 (tgt := 59) (by decide) ?_
      rw [← nI_succ]
      refine ih (x + 1) h' (by omega) ?_ (hf.trans q2 (fun _ z => z) (fun _ z => Or.inr z))
      rw [hv] at q1
      exact q1.congr (fun j _ => moR_s (P := fun x y => inB lo hi ((pcS S (nI j2)).2.2.2 (y * (pcS S (nI j2)).2.1 + x))) (by omega) u1 j)
    refine gk_iload7 dX10_maskOf_59 (pc' := 61) rfl ?_
    refine gk_aload5 dX10_maskOf_61 (pc' := 63) rfl ?_
    refine gk_getf (fs := [_, _, _, _]) gF_Room_152 dX10_maskOf_63 (pc' := 66) rfl (by exact (hp1.o)) rfl ?_
    refine gk_icmp_ge dX10_maskOf_66 (tgt := 106) (pc' := 69) (by decide) rfl (fun c66 => absurd c66 (nI_ge (by omega) (by omega))) (fun c66 => ?_)
    refine gk_aload0 dX10_maskOf_69 (pc' := 70) rfl ?_
    refine gk_getf (fs := [_, _, _, _, _, _, _, _, _, _, _, _]) gF_Room_37 dX10_maskOf_70 (pc' := 73) rfl (by assumption) rfl ?_
    refine gk_iload7 dX10_maskOf_73 (pc' := 75) rfl ?_
    refine gk_iload6 dX10_maskOf_75 (pc' := 77) rfl ?_
    refine gk_aload5 dX10_maskOf_77 (pc' := 79) rfl ?_
    refine gk_aload5 dX10_maskOf_79 (pc' := 81) rfl ?_
    refine gk_iload7 dX10_maskOf_81 (pc' := 83) rfl ?_
    refine gk_iload6 dX10_maskOf_83 (pc' := 85) rfl ?_
    refine gk_cV1_2 mv_Picture_place gw_298 dX10_maskOf_85 (pc' := 88) rfl (Nat.le_of_ble_eq_true rfl) (by exact (hp1.o)) (sp_Picture_placeN hp1 ?_)
    refine ⟨_, rfl, ?_⟩
    refine gk_cV1_1 mv_Picture_pixel gw_302 dX10_maskOf_88 (pc' := 91) rfl (Nat.le_of_ble_eq_true rfl) (by exact (hp1.o)) (sp_Picture_pixel hp1 pl ?_)
    refine ⟨_, rfl, ?_⟩
    refine gk_iload3 dX10_maskOf_91 (pc' := 92) rfl ?_
    refine gk_iload4 dX10_maskOf_92 (pc' := 94) rfl ?_
    refine gk_cS1_3 mz_Room_within gw_240 dX10_maskOf_94 (pc' := 97) rfl (Nat.le_of_ble_eq_true rfl) (sp_Room_within (fun u94 v94 => ?_) (fun n94 => ?_))
    · refine ⟨_, rfl, ?_⟩
      first | exact go true (decide_eq_true ⟨u94, v94⟩).symm | exact go false (decide_eq_false n94).symm
    · refine ⟨_, rfl, ?_⟩
      first | exact go true (decide_eq_true ⟨u94, v94⟩).symm | exact go false (decide_eq_false n94).symm
theorem lp_maskOfY {h0 : gk_H} {j1 j2 : Nat} {lo hi : Int32} (hs : Rs X h0 r F0 S pc mc) {c8 : Pc} (ht : isPc X h0 (pc 8) c8) (hj2 : j2 < 8)
    (hQ : ∀ h, isMk X h (mc 6) (mkO (pcS S (nI j2)) lo hi) → fr (trM mc) h0 h → ∀ l6 l7, G (kx X) mt_Room_maskOf (d + 4) b 112 [some (.ref r), some (.int (nI j1)), some (.int (nI j2)), some (.int lo), some (.int hi), some (.ref (pc j2)), l6, l7] [] h Q) :
    ∀ f y h l7, y + f = (pcS S (nI j2)).2.2.1 → isMk X h (mc 6) (moR (pcS S (nI j2)).2.1 (y * (pcS S (nI j2)).2.1) (fun x y => inB lo hi ((pcS S (nI j2)).2.2.2 (y * (pcS S (nI j2)).2.1 + x)))) → fr (trM mc) h0 h → G (kx X) mt_Room_maskOf (d + 4) b 46 [some (.ref r), some (.int (nI j1)), some (.int (nI j2)), some (.int lo), some (.int hi), some (.ref (pc j2)), some (.int (nI y)), l7] [] h Q := by
  intro f
  induction f with
  | zero =>
    intro y h l7 hy hg hf
    have hs1 := (hs.mtray ht hf (fun c z => z) hg).1
    have hp1 := picS hs1.2.1 hj2
    have u2 := hp1.2.1
    refine gk_iload6 dX10_maskOf_46 (pc' := 48) rfl ?_
    refine gk_aload5 dX10_maskOf_48 (pc' := 50) rfl ?_
    refine gk_getf (fs := [_, _, _, _]) gF_Room_155 dX10_maskOf_50 (pc' := 53) rfl (by exact (hp1.o)) rfl ?_
    refine gk_icmp_ge dX10_maskOf_53 (tgt := 112) (pc' := 56) (by decide) rfl (fun c53 => ?_) (fun c53 => absurd (nI_le (by omega) (by omega)) c53)
    refine hQ h ?_ hf _ _
    unfold mkO
    rw [Nat.mul_comm (pcS S (nI j2)).2.1, ← show y = (pcS S (nI j2)).2.2.1 by omega]
    exact hg
  | succ f ih =>
    intro y h l7 hy hg hf
    have hs1 := (hs.mtray ht hf (fun c z => z) hg).1
    have hp1 := picS hs1.2.1 hj2
    have u2 := hp1.2.1
    refine gk_iload6 dX10_maskOf_46 (pc' := 48) rfl ?_
    refine gk_aload5 dX10_maskOf_48 (pc' := 50) rfl ?_
    refine gk_getf (fs := [_, _, _, _]) gF_Room_155 dX10_maskOf_50 (pc' := 53) rfl (by exact (hp1.o)) rfl ?_
    refine gk_icmp_ge dX10_maskOf_53 (tgt := 112) (pc' := 56) (by decide) rfl (fun c53 => absurd c53 (nI_ge (by omega) (by omega))) (fun c53 => ?_)
    refine gk_iconst (v := 0) dX10_maskOf_56 (pc' := 57) rfl (by decide) ?_
    refine gk_istore7 dX10_maskOf_57 (pc' := 59) rfl (by decide) rfl ?_
    refine lp_maskOfX hs ht hj2 (by omega) (fun h2 g2 hf2 l7 => ?_) (pcS S (nI j2)).2.1 0 h (by omega) hg hf
    refine gk_iinc6 (v := 1) dX10_maskOf_106 (pc' := 109) rfl (by decide) (by decide) rfl ?_
    refine gk_goto dX10_maskOf_109 (tgt := 46) (by decide) ?_
    rw [← nI_succ]
    exact ih (y + 1) h2 _ (by omega) g2 hf2
theorem cl_maskOf {m p lo hi : Int32} (hR : Room X h r F0 S) (hQ : ∀ h', Room X h' r F0 (oMaskOf S m p lo hi).2 → frC r F0 h h' → Q (some (.int (oMaskOf S m p lo hi).1)) h') : Gm (kx X) mt_Room_maskOf (d + 4) b [.ref r, .int m, .int p, .int lo, .int hi] h Q := by
  have hB : ∀ a, oMaskOf S m p lo hi = (a, S) → Q (some (.int a)) h := fun a e => by
    have q := hQ h
    rw [e] at q
    exact q hR frC.rf
  obtain ⟨hF, pc, mc, hm, ⟨c8, ht⟩, ⟨R6, hm6⟩, hrest⟩ := hR
  have hs : Rs X h r F0 S pc mc := ⟨hF, hm, ⟨R6, hm6⟩, hrest⟩
  have a1 := hm.obj
  obtain ⟨f1, a2, a3⟩ := hm.prow
  have fin : ∀ j1 j2 h1 l6 l7, j1 < 6 → j2 < 8 → m = nI j1 → p = nI j2 → ¬ (pcS S p).1 = -1 → isMk X h1 (mc 6) (mkO (pcS S p) lo hi) → fr (trM mc) h h1 → G (kx X) mt_Room_maskOf (d + 4) b 112 [some (.ref r), some (.int m), some (.int p), some (.int lo), some (.int hi), some (.ref (pc j2)), l6, l7] [] h1 Q := by
    intro j1 j2 h1 l6 l7 hj1 hj2 em ep hk hg hf
    subst em ep
    have z1 : (nI j1).toInt = j1 := nI_toInt (by omega)
    have z2 : (nI j2).toInt = j2 := nI_toInt (by omega)
    have hs1 := (hs.mtray ht hf (fun c z => z) hg).1
    have ht1 := (hs.mtray ht hf (fun c z => z) hg).2
    have fc1 := hs.mtrayC hf (fun c z => z)
    have a1 := hs1.2.1.obj
    refine gk_aload0 dX10_maskOf_112 (pc' := 113) rfl ?_
    refine gk_iload1 dX10_maskOf_113 (pc' := 114) rfl ?_
    refine gk_cV0_1 mv_Room_keepMask gw_548 dX10_maskOf_114 (pc' := 117) rfl (Nat.le_of_ble_eq_true rfl) (by assumption) (sp_keepM hs1 ht1 hg hj1 (fun h3 z3 z4 => ?_))
    refine ⟨rfl, ?_⟩
    obtain ⟨pc', mc', b1, ⟨g, b2, b3⟩, b4⟩ := kM_msk hj1 z3
    refine gk_aload0 dX10_maskOf_117 (pc' := 118) rfl ?_
    refine gk_getf (fs := [_, _, _, _, _, _, _, _, _, _, _, _]) gF_Room_17 dX10_maskOf_118 (pc' := 121) rfl (by exact (b1)) rfl ?_
    refine gk_iload1 dX10_maskOf_121 (pc' := 122) rfl ?_
    refine gk_aald (t0 := 3) rfl dX10_maskOf_122 (pc' := 123) rfl (by exact (b2)) (vp_in_nI hj1 (by decide)) ?_
    rw [nI_clamp (by omega), b3 j1 hj1, show va_rf (some (mc' j1)) = Value.ref (mc' j1) from rfl]
    refine gk_cV1_0 mv_Mask_howMany gw_561 dX10_maskOf_123 (pc' := 126) rfl (Nat.le_of_ble_eq_true rfl) (by exact (b4.o)) (sp_Mask_howMany b4 ?_)
    refine ⟨_, rfl, ?_⟩
    refine gk_iret dX10_maskOf_126 rfl (by have q := hQ h3; rw [show oMaskOf S (nI j1) (nI j2) lo hi = _ from (if_pos (by omega)).trans (if_neg hk), nI_nat (j := j1) (by omega)] at q; exact q z3 (fc1.trans z4))
  refine Gm.enter (L := [some (.ref r), some (.int m), some (.int p), some (.int lo), some (.int hi), none, none, none]) (by decide) (fun _ => trivial) (Nat.le_of_ble_eq_true rfl) rfl ?_
  refine gk_iload1 dX10_maskOf_0 (pc' := 1) rfl ?_
  refine gk_cS1_1 mz_Room_isMask gw_421 dX10_maskOf_1 (pc' := 4) rfl (Nat.le_of_ble_eq_true rfl) (sp_Room_isMask (fun j1 hj1 ej1 => ?_) (fun n1 => ?_))
  · refine ⟨_, rfl, ?_⟩
    subst ej1
    have zj1 : (nI j1).toInt = j1 := nI_toInt (by omega)
    have yj1 : (nI j1).toInt.toNat = j1 := by omega
    have hp1 := mskS hm hj1
    have ap1 := hm.am hj1
    refine gk_if_eq dX10_maskOf_4 (tgt := 14) (pc' := 7) (by decide) rfl (fun c => absurd c (by decide)) (fun _ => ?_)
    refine gk_iload2 dX10_maskOf_7 (pc' := 8) rfl ?_
    refine gk_cS1_1 mz_Room_isPicture gw_237 dX10_maskOf_8 (pc' := 11) rfl (Nat.le_of_ble_eq_true rfl) (sp_Room_isPicture (fun j8 hj8 ej8 => ?_) (fun n8 => ?_))
    · refine ⟨_, rfl, ?_⟩
      subst ej8
      have zj8 : (nI j8).toInt = j8 := nI_toInt (by omega)
      have yj8 : (nI j8).toInt.toNat = j8 := by omega
      have hp8 := picS hm hj8
      have ok8 := okpS hm hj8
      have ap8 := hm.ap hj8
      refine gk_if_ne dX10_maskOf_11 (tgt := 17) (pc' := 14) (by decide) rfl (fun _ => ?_) (fun c => absurd c (by decide))
      refine gk_aload0 dX10_maskOf_17 (pc' := 18) rfl ?_
      refine gk_getf (fs := [_, _, _, _, _, _, _, _, _, _, _, _]) gF_Room_11 dX10_maskOf_18 (pc' := 21) rfl (by assumption) rfl ?_
      refine gk_iload2 dX10_maskOf_21 (pc' := 22) rfl ?_
      refine gk_aald (t0 := 2) rfl dX10_maskOf_22 (pc' := 23) rfl (by exact (a2)) (vp_in_nI hj8 (by decide)) ?_
      rw [nI_clamp (by omega), a3 j8 hj8, show va_rf (some (pc j8)) = Value.ref (pc j8) from rfl]
      refine gk_astore5 dX10_maskOf_23 (pc' := 25) rfl (by decide) rfl ?_
      refine gk_aload5 dX10_maskOf_25 (pc' := 27) rfl ?_
      refine gk_cV1_0 mv_Picture_isMissing gw_330 dX10_maskOf_27 (pc' := 30) rfl (Nat.le_of_ble_eq_true rfl) (by exact (hp8.o)) (sp_Picture_isMissing hp8 (fun k27 => ?_) (fun k27 => ?_))
      · refine ⟨_, rfl, ?_⟩
        refine gk_if_eq dX10_maskOf_30 (tgt := 36) (pc' := 33) (by decide) rfl (fun c => absurd c (by decide)) (fun _ => ?_)
        refine gk_ldc dX10_maskOf_33 (pc' := 35) rfl gw_297 ?_
        refine gk_iret dX10_maskOf_35 rfl (hB _ ((if_pos (by omega)).trans (if_pos k27)))
      · refine ⟨_, rfl, ?_⟩
        refine gk_if_eq dX10_maskOf_30 (tgt := 36) (pc' := 33) (by decide) rfl (fun _ => ?_) (fun c => absurd c (by decide))
        refine gk_aload0 dX10_maskOf_36 (pc' := 37) rfl ?_
        refine gk_getf (fs := [_, _, _, _, _, _, _, _, _, _, _, _]) gF_Room_37 dX10_maskOf_37 (pc' := 40) rfl (by assumption) rfl ?_
        refine gk_cV0_0 mv_Mask_darken gw_556 dX10_maskOf_40 (pc' := 43) rfl (Nat.le_of_ble_eq_true rfl) (by exact (hm6.o)) (sp_Mask_darken hm6 (fun h1 y1 y2 => ?_))
        refine ⟨rfl, ?_⟩
        refine gk_iconst (v := 0) dX10_maskOf_43 (pc' := 44) rfl (by decide) ?_
        refine gk_istore6 dX10_maskOf_44 (pc' := 46) rfl (by decide) rfl ?_
        refine lp_maskOfY hs ht hj8 (fun h2 g2 hf2 l6 l7 => fin j1 j8 h2 l6 l7 hj1 hj8 rfl rfl k27 g2 hf2) (pcS S (nI j8)).2.2.1 0 h1 _ (by omega) (y1.congr (fun j _ => ?_)) (y2.mono (fun _ z => Or.inr z))
        rw [Nat.zero_mul]
        exact (moR_0 j).symm
    · refine ⟨_, rfl, ?_⟩
      refine gk_if_ne dX10_maskOf_11 (tgt := 17) (pc' := 14) (by decide) rfl (fun c => absurd c (by decide)) (fun _ => ?_)
      refine gk_ldc dX10_maskOf_14 (pc' := 16) rfl gw_243 ?_
      refine gk_iret dX10_maskOf_16 rfl (hB _ (if_neg (by omega)))
  · refine ⟨_, rfl, ?_⟩
    refine gk_if_eq dX10_maskOf_4 (tgt := 14) (pc' := 7) (by decide) rfl (fun _ => ?_) (fun c => absurd c (by decide))
    refine gk_ldc dX10_maskOf_14 (pc' := 16) rfl gw_243 ?_
    refine gk_iret dX10_maskOf_16 rfl (hB _ (if_neg (by omega)))
theorem cl_maskBy {m n how : Int32} (hR : Room X h r F0 S) (hQ : ∀ h', Room X h' r F0 (oMaskBy S m n how).2 → frC r F0 h h' → Q (some (.int (oMaskBy S m n how).1)) h') : Gm (kx X) mt_Room_maskBy (d + 4) b [.ref r, .int m, .int n, .int how] h Q := by
  have hB : ∀ a, oMaskBy S m n how = (a, S) → Q (some (.int a)) h := fun a e => by
    have q := hQ h
    rw [e] at q
    exact q hR frC.rf
  obtain ⟨hF, pc, mc, hm, ⟨c8, ht⟩, ⟨R6, hm6⟩, hrest⟩ := hR
  have hs : Rs X h r F0 S pc mc := ⟨hF, hm, ⟨R6, hm6⟩, hrest⟩
  have a1 := hm.obj
  obtain ⟨f1, b2, b3⟩ := hm.mrow
  have z0 : (0 : Int32).toInt = 0 := rfl
  have z6 : (6 : Int32).toInt = 6 := rfl
  refine Gm.enter (L := [some (.ref r), some (.int m), some (.int n), some (.int how)]) (by decide) (fun _ => trivial) (Nat.le_of_ble_eq_true rfl) rfl ?_
  refine gk_iload1 dX10_maskBy_0 (pc' := 1) rfl ?_
  refine gk_cS1_1 mz_Room_isMask gw_421 dX10_maskBy_1 (pc' := 4) rfl (Nat.le_of_ble_eq_true rfl) (sp_Room_isMask (fun j1 hj1 ej1 => ?_) (fun n1 => ?_))
  · refine ⟨_, rfl, ?_⟩
    subst ej1
    have zj1 : (nI j1).toInt = j1 := nI_toInt (by omega)
    have yj1 : (nI j1).toInt.toNat = j1 := by omega
    have hp1 := mskS hm hj1
    have ap1 := hm.am hj1
    refine gk_if_eq dX10_maskBy_4 (tgt := 24) (pc' := 7) (by decide) rfl (fun c => absurd c (by decide)) (fun _ => ?_)
    refine gk_iload2 dX10_maskBy_7 (pc' := 8) rfl ?_
    refine gk_cS1_1 mz_Room_isMask gw_421 dX10_maskBy_8 (pc' := 11) rfl (Nat.le_of_ble_eq_true rfl) (sp_Room_isMask (fun j8 hj8 ej8 => ?_) (fun n8 => ?_))
    · refine ⟨_, rfl, ?_⟩
      subst ej8
      have zj8 : (nI j8).toInt = j8 := nI_toInt (by omega)
      have yj8 : (nI j8).toInt.toNat = j8 := by omega
      have hp8 := mskS hm hj8
      have ap8 := hm.am hj8
      refine gk_if_eq dX10_maskBy_11 (tgt := 24) (pc' := 14) (by decide) rfl (fun c => absurd c (by decide)) (fun _ => ?_)
      refine gk_iload3 dX10_maskBy_14 (pc' := 15) rfl ?_
      refine gk_iconst (v := 0) dX10_maskBy_15 (pc' := 16) rfl (by decide) ?_
      refine gk_bipush (v := 6) dX10_maskBy_16 (pc' := 18) rfl (by decide) ?_
      refine gk_cS1_3 mz_Room_within gw_240 dX10_maskBy_18 (pc' := 21) rfl (Nat.le_of_ble_eq_true rfl) (sp_Room_within (fun u18 v18 => ?_) (fun n18 => ?_))
      · refine ⟨_, rfl, ?_⟩
        obtain ⟨jh, hh, rfl⟩ := pu_of (x := how) (n := 7) (by omega) (by omega) (by omega)
        have zh : (nI jh).toInt = jh := nI_toInt (by omega)
        refine gk_if_ne dX10_maskBy_21 (tgt := 27) (pc' := 24) (by decide) rfl (fun _ => ?_) (fun c => absurd c (by decide))
        refine gk_aload0 dX10_maskBy_27 (pc' := 28) rfl ?_
        refine gk_getf (fs := [_, _, _, _, _, _, _, _, _, _, _, _]) gF_Room_37 dX10_maskBy_28 (pc' := 31) rfl (by assumption) rfl ?_
        refine gk_aload0 dX10_maskBy_31 (pc' := 32) rfl ?_
        refine gk_getf (fs := [_, _, _, _, _, _, _, _, _, _, _, _]) gF_Room_17 dX10_maskBy_32 (pc' := 35) rfl (by assumption) rfl ?_
        refine gk_iload1 dX10_maskBy_35 (pc' := 36) rfl ?_
        refine gk_aald (t0 := 3) rfl dX10_maskBy_36 (pc' := 37) rfl (by exact (b2)) (vp_in_nI hj1 (by decide)) ?_
        rw [nI_clamp (by omega), b3 j1 hj1, show va_rf (some (mc j1)) = Value.ref (mc j1) from rfl]
        refine gk_aload0 dX10_maskBy_37 (pc' := 38) rfl ?_
        refine gk_getf (fs := [_, _, _, _, _, _, _, _, _, _, _, _]) gF_Room_17 dX10_maskBy_38 (pc' := 41) rfl (by assumption) rfl ?_
        refine gk_iload2 dX10_maskBy_41 (pc' := 42) rfl ?_
        refine gk_aald (t0 := 3) rfl dX10_maskBy_42 (pc' := 43) rfl (by exact (b2)) (vp_in_nI hj8 (by decide)) ?_
        rw [nI_clamp (by omega), b3 j8 hj8, show va_rf (some (mc j8)) = Value.ref (mc j8) from rfl]
        refine gk_iload3 dX10_maskBy_43 (pc' := 44) rfl ?_
        refine gk_cV0_3 mv_Mask_joinedFrom gw_575 dX10_maskBy_44 (pc' := 47) rfl (Nat.le_of_ble_eq_true rfl) (by exact (hm6.o)) (sp_Mask_joinedFrom hm6 hp1 hp8 (by omega) (by omega) (by omega) (by omega) (by omega) (by omega) hh (fun h1 y1 y2 => ?_))
        refine ⟨rfl, ?_⟩
        have hs1 := (hs.mtray ht y2 (fun c z => Or.inr z) y1).1
        have ht1 := (hs.mtray ht y2 (fun c z => Or.inr z) y1).2
        have fc1 := hs.mtrayC y2 (fun c z => Or.inr z)
        have a1 := hs1.2.1.obj
        refine gk_aload0 dX10_maskBy_47 (pc' := 48) rfl ?_
        refine gk_iload1 dX10_maskBy_48 (pc' := 49) rfl ?_
        refine gk_cV0_1 mv_Room_keepMask gw_548 dX10_maskBy_49 (pc' := 52) rfl (Nat.le_of_ble_eq_true rfl) (by assumption) (sp_keepM hs1 ht1 y1 hj1 (fun h3 z3 z4 => ?_))
        refine ⟨rfl, ?_⟩
        obtain ⟨pc', mc', b1, ⟨g, b2, b3⟩, b4⟩ := kM_msk hj1 z3
        refine gk_aload0 dX10_maskBy_52 (pc' := 53) rfl ?_
        refine gk_getf (fs := [_, _, _, _, _, _, _, _, _, _, _, _]) gF_Room_17 dX10_maskBy_53 (pc' := 56) rfl (by exact (b1)) rfl ?_
        refine gk_iload1 dX10_maskBy_56 (pc' := 57) rfl ?_
        refine gk_aald (t0 := 3) rfl dX10_maskBy_57 (pc' := 58) rfl (by exact (b2)) (vp_in_nI hj1 (by decide)) ?_
        rw [nI_clamp (by omega), b3 j1 hj1, show va_rf (some (mc' j1)) = Value.ref (mc' j1) from rfl]
        refine gk_cV1_0 mv_Mask_howMany gw_561 dX10_maskBy_58 (pc' := 61) rfl (Nat.le_of_ble_eq_true rfl) (by exact (b4.o)) (sp_Mask_howMany b4 ?_)
        refine ⟨_, rfl, ?_⟩
        refine gk_iret dX10_maskBy_61 rfl (by have q := hQ h3; rw [show oMaskBy S (nI j1) (nI j8) (nI jh) = _ from if_pos (by omega), nI_nat (j := j1) (by omega), nI_nat (j := jh) (by omega)] at q; exact q z3 (fc1.trans z4))
      · refine ⟨_, rfl, ?_⟩
        refine gk_if_ne dX10_maskBy_21 (tgt := 27) (pc' := 24) (by decide) rfl (fun c => absurd c (by decide)) (fun _ => ?_)
        refine gk_ldc dX10_maskBy_24 (pc' := 26) rfl gw_243 ?_
        refine gk_iret dX10_maskBy_26 rfl (hB _ (if_neg (by omega)))
    · refine ⟨_, rfl, ?_⟩
      refine gk_if_eq dX10_maskBy_11 (tgt := 24) (pc' := 14) (by decide) rfl (fun _ => ?_) (fun c => absurd c (by decide))
      refine gk_ldc dX10_maskBy_24 (pc' := 26) rfl gw_243 ?_
      refine gk_iret dX10_maskBy_26 rfl (hB _ (if_neg (by omega)))
  · refine ⟨_, rfl, ?_⟩
    refine gk_if_eq dX10_maskBy_4 (tgt := 24) (pc' := 7) (by decide) rfl (fun _ => ?_) (fun c => absurd c (by decide))
    refine gk_ldc dX10_maskBy_24 (pc' := 26) rfl gw_243 ?_
    refine gk_iret dX10_maskBy_26 rfl (hB _ (if_neg (by omega)))
end OpE
