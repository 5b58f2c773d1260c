/-! ===== the reference: mask, maskOf, energy, turn, weight ===== -/
def onsP (R : Nat → Nat) : Nat → Nat
  | 0 => 0
  | n + 1 => onsP R n + (if (R (n / 16)).testBit (n % 16) then 1 else 0)
theorem onsP_row (R : Nat → Nat) (y : Nat) (hy : onsP R (16 * y) = popM R y) : ∀ x, x ≤ 16 → onsP R (16 * y + x) = popM R y + pop (R y) x
  | 0, _ => hy
  | x + 1, h => by
    have ih := onsP_row R y hy x (by omega)
    rw [← Nat.add_assoc, onsP, ih, pop, show (16 * y + x) / 16 = y by omega, show (16 * y + x) % 16 = x by omega]
    omega
theorem onsP_eq (R : Nat → Nat) : ∀ y, onsP R (16 * y) = popM R y
  | 0 => rfl
  | y + 1 => by
    have := onsP_row R y (onsP_eq R y) 16 (by omega)
    rw [show 16 * (y + 1) = 16 * y + 16 by omega, this, popM]
theorem mset_row {f : Nat → Int32} {q x y : Nat} {R : Nat → Nat} {on : Bool} (h : mRow f q R) (hx : x < 16) (hy : y < 16) : mRow (upd f (q + 16 * y + x) (if on then 1 else 0)) q (mset R x y on) := fun y' hy' x' hx' => by
  unfold mset
  by_cases e : y' = y
  · subst e
    rw [if_pos rfl, mkR_bit]
    by_cases e2 : x' = x
    · subst e2
      rw [pk_us, if_pos rfl, decide_eq_true hx', Bool.true_and]
    · rw [pk_un (by omega), h y' hy' x' hx', if_neg e2, decide_eq_true hx', Bool.true_and]
  · rw [pk_un (by omega), if_neg e]; exact h y' hy' x' hx'
theorem mkO_bit {c : Pc} {lo hi : Int32} {x y : Nat} (hx : x < 16) (hw : 1 ≤ c.2.1) : (mkO c lo hi y).testBit x = (decide (x < c.2.1) && (decide (y < c.2.2.1) && inB lo hi (c.2.2.2 (y * c.2.1 + x)))) := by
  unfold mkO moR
  rw [mkR_bit, decide_eq_true hx, Bool.true_and]
  by_cases h : x < c.2.1
  · have : (y * c.2.1 + x < c.2.1 * c.2.2.1 ↔ y < c.2.2.1) := by
      constructor
      · intro q
        have d := dm (y := y) h
        have : (y * c.2.1 + x) / c.2.1 < c.2.2.1 := (Nat.div_lt_iff_lt_mul hw).mpr (by rw [Nat.mul_comm c.2.2.1]; exact q)
        rw [d.2] at this
        exact this
      · intro q; exact place_lt h q
    simp [h, this]
  · simp [h]
theorem btw {a c : Int32} (ha : -40000 ≤ a.toInt ∧ a.toInt ≤ 40000) (hc : -40000 ≤ c.toInt ∧ c.toInt ≤ 40000) : (if a < c then c - a else a - c) = abI (a - c) := by
  have e1 : (a - c).toInt = a.toInt - c.toInt := Jvm.Kit.i32_sub (by omega) (by omega)
  have e2 : (c - a).toInt = c.toInt - a.toInt := Jvm.Kit.i32_sub (by omega) (by omega)
  have z0 : (0 : Int32).toInt = 0 := rfl
  unfold abI
  by_cases q : a < c
  · rw [if_pos q]
    rw [pu_lt] at q
    rw [if_pos (by rw [pu_lt, e1, z0]; omega)]
    apply pu_inj
    rw [e2, Int32.toInt_neg, e1, Jvm.Kit.bmod32 (by omega) (by omega)]
    omega
  · rw [if_neg q]
    rw [pu_lt] at q
    rw [if_neg (by rw [pu_lt, e1, z0]; omega)]
theorem eng_congr {w t : Nat} {p q : Nat → Int32} {x y : Int} (h1 : 1 ≤ w) (h2 : 1 ≤ t) (he : ∀ i, i < w * t → p i = q i) : eng w t p x y = eng w t q x y := by
  unfold eng
  rw [sn_congr h1 h2 he, sn_congr h1 h2 he, sn_congr h1 h2 he, sn_congr h1 h2 he]
section MoG
variable {X : gX} {d : Nat} {b : Nat × Nat} {h h0 : gk_H} {m : Nat} {A : MoA} {Z : MoZ} {Q : Option Value → gk_H → Prop} {S : St}
theorem lp_Mo_ons {j : Nat} {R : Nat → Nat} (hp : mRow (A 1) (2072 + 256 * j) R) (hj : j < 6) (hQ : Q (some (.int (nI (popM R 16)))) (mkH X h0 m A Z)) : ∀ n i, i + n = 256 → G (kx X) mt_Mo_ons d b 4 [some (.ref m), some (.int (nI j)), some (.int (nI (onsP R i))), some (.int (nI i))] [] (mkH X h0 m A Z) Q := by
  intro n
  induction n with
  | zero =>
    intro i hi
    have e : i = 256 := by omega
    subst e
    refine gk_iload3 dX11_ons_4 (pc' := 5) rfl ?_
    refine gk_sipush (v := 256) dX11_ons_5 (pc' := 8) rfl (by decide) ?_
    refine gk_icmp_ge dX11_ons_8 (tgt := 36) (pc' := 11) (by decide) rfl (fun c8 => ?_) (fun c8 => absurd (by decide) c8)
    refine gk_iload2 dX11_ons_36 (pc' := 37) rfl ?_
    refine gk_iret dX11_ons_37 rfl (by rw [show onsP R 256 = popM R 16 from onsP_eq R 16]; exact hQ)
  | succ n ih =>
    intro i hi
    have q := ih (i + 1) (by omega)
    have ev : A 1 (2072 + 256 * j + i) = nI (if (R (i / 16)).testBit (i % 16) then 1 else 0) := by
      have := hp (i / 16) (by omega) (i % 16) (by omega)
      rw [show 2072 + 256 * j + 16 * (i / 16) + i % 16 = 2072 + 256 * j + i by omega] at this
      rw [this]
      split <;> rfl
    refine gk_iload3 dX11_ons_4 (pc' := 5) rfl ?_
    refine gk_sipush (v := 256) dX11_ons_5 (pc' := 8) rfl (by decide) ?_
    refine gk_icmp_ge dX11_ons_8 (tgt := 36) (pc' := 11) (by decide) rfl (fun c8 => absurd c8 (nI_ge (b := 256) (by omega) (by omega))) (fun c8 => ?_)
    refine gk_iload2 dX11_ons_11 (pc' := 12) rfl ?_
    refine gk_aload0 dX11_ons_12 (pc' := 13) rfl ?_
    refine gk_getf (fs := [_, _, _, _, _, _, _, _, _, _, _, _, _, _, _, _, _, _, _, _, _, _, _, _, _, _]) gF_Mo_7 dX11_ons_13 (pc' := 16) rfl (by exact (mkJ)) rfl ?_
    refine gk_sipush (v := nI 2072) dX11_ons_16 (pc' := 19) rfl (by decide) ?_
    refine gk_sipush (v := nI 256) dX11_ons_19 (pc' := 22) rfl (by decide) ?_
    refine gk_iload1 dX11_ons_22 (pc' := 23) rfl ?_
    refine gk_imulN dX11_ons_23 (pc' := 24) rfl ?_
    refine gk_iaddN dX11_ons_24 (pc' := 25) rfl ?_
    refine gk_iload3 dX11_ons_25 (pc' := 26) rfl ?_
    refine gk_iaddN dX11_ons_26 (pc' := 27) rfl ?_
    refine gk_iald (t0 := 0) rfl dX11_ons_27 (pc' := 28) rfl (by exact (mkA1)) (vp_in_nI (by omega) (by decide)) ?_
    rw [nI_clamp (by omega)]
    rw [ev]
    refine gk_iaddN dX11_ons_28 (pc' := 29) rfl ?_
    refine gk_istore2 dX11_ons_29 (pc' := 30) rfl (by decide) rfl ?_
    refine gk_iinc3 (v := 1) dX11_ons_30 (pc' := 33) rfl (by decide) (by decide) rfl ?_
    refine gk_goto dX11_ons_33 (tgt := 4) (by decide) ?_
    rw [← nI_succ i]
    exact q
theorem sp_Mo_ons {j : Nat} {R : Nat → Nat} (hp : mRow (A 1) (2072 + 256 * j) R) (hj : j < 6) (hQ : Q (some (.int (nI (popM R 16)))) (mkH X h0 m A Z)) : Gm (kx X) mt_Mo_ons d b [.ref m, .int (nI j)] (mkH X h0 m A Z) Q := by
  refine Gm.enter (L := [some (.ref m), some (.int (nI j)), none, none]) (by decide) (fun _ => trivial) (Nat.le_of_ble_eq_true rfl) rfl ?_
  refine gk_iconst (v := 0) dX11_ons_0 (pc' := 1) rfl (by decide) ?_
  refine gk_istore2 dX11_ons_1 (pc' := 2) rfl (by decide) rfl ?_
  refine gk_iconst (v := 0) dX11_ons_2 (pc' := 3) rfl (by decide) ?_
  refine gk_istore3 dX11_ons_3 (pc' := 4) rfl (by decide) rfl ?_
  exact lp_Mo_ons hp hj hQ 256 0 (by omega)
theorem mo_mask {q x y : Int32} {on : Bool} (hM : Mod X h m S) (hw : wfS S) (hQ : ∀ h', Mod X h' m (oMask S q x y on).2 → frO m h h' → Q (some (.int (oMask S q x y on).1)) h') : Gm (kx X) mt_Mo_mask (d + 10) b [.ref m, .int q, .int x, .int y, .int (if on then 1 else 0)] h Q := by
  obtain ⟨h0, A, Z, rfl, hS⟩ := hM
  have hE : ∀ a0 S' A' Z', oMask S q x y on = (a0, S') → MoS A' Z' S' → Q (some (.int a0)) (mkH X h0 m A' Z') := fun a0 S' A' Z' e0 h1 => by
    have q := hQ (mkH X h0 m A' Z')
    rw [e0] at q
    exact q ⟨h0, A', Z', rfl, h1⟩ mk_fr
  have hB : ∀ a0, oMask S q x y on = (a0, S) → Q (some (.int a0)) (mkH X h0 m A Z) := fun a0 e0 => hE a0 S A Z e0 hS
  have fin : ∀ j1 i j (A1 : MoA) (Z1 : MoZ), j1 < 6 → i < 16 → j < 16 → q = nI j1 → x = nI i → y = nI j → (∀ i, i ≠ 2 → A1 i = A i) → Bg A1 Z1 S → Q (some (.int (if (mkS S q j).testBit i then 1 else 0))) (mkH X h0 m (uA A1 1 (upd (A1 1) (2072 + 256 * j1 + 16 * j + i) (if on then 1 else 0))) Z1) := by
    intro j1 i j A1 Z1 h1 h2 h3 e1 e2 e3 a1 hBg
    subst e1 e2 e3
    have z1 : (nI j1).toInt = j1 := nI_toInt (by omega)
    have z2 : (nI i).toInt = i := nI_toInt (by omega)
    have z3 : (nI j).toInt = j := nI_toInt (by omega)
    have pr2 : mRow (A1 1) (2072 + 256 * j1) (mkS S (nI j1)) := by rw [a1 1 (by decide)]; exact hS.msk h1
    exact hE _ (kM S j1 (mset (mkS S (nI j1)) i j on)) _ _ ((if_pos (by omega)).trans (by rw [nI_nat (j := i) (by omega), nI_nat (j := j) (by omega), nI_nat (j := j1) (by omega)])) (hBg.actM hw.1 (by rw [a1 1 (by decide)]; exact hS.1) (fun i h1 h2 => uA_n (by omega)) (fun i hi => rfl) h1 (by rw [uA_s]; exact mset_row pr2 h2 h3) (fun q hq => by rw [uA_s, pk_un (by omega)]))
  refine Gm.enter (L := [some (.ref m), some (.int q), some (.int x), some (.int y), some (.int (if on then 1 else 0)), none]) (by decide) (fun _ => trivial) (Nat.le_of_ble_eq_true rfl) rfl ?_
  refine gk_iload1 dX11_mask_0 (pc' := 1) rfl ?_
  refine gk_cS1_1 mz_Mo_isMask gw_1044 dX11_mask_1 (pc' := 4) rfl (Nat.le_of_ble_eq_true rfl) (sp_Mo_isMask (fun j1 hj1 ej1 => ?_) (fun n1 => ?_))
  · refine ⟨_, rfl, ?_⟩
    subst ej1
    have zj1 : (nI j1).toInt = j1 := nI_toInt (by omega)
    have yj1 : (nI j1).toInt.toNat = j1 := by omega
    have pr1 := hS.msk hj1
    refine gk_if_eq dX11_mask_4 (tgt := 15) (pc' := 7) (by decide) rfl (fun c => absurd c (by decide)) (fun _ => ?_)
    refine gk_iload2 dX11_mask_7 (pc' := 8) rfl ?_
    refine gk_iload3 dX11_mask_8 (pc' := 9) rfl ?_
    refine gk_cS1_2 mz_Mo_isSpot gw_1047 dX11_mask_9 (pc' := 12) rfl (Nat.le_of_ble_eq_true rfl) (sp_Mo_isSpot (fun i j hi hj ei ej => ?_) (fun n9 => ?_))
    · refine ⟨_, rfl, ?_⟩
      subst ei ej
      refine gk_if_ne dX11_mask_12 (tgt := 18) (pc' := 15) (by decide) rfl (fun _ => ?_) (fun c => absurd c (by decide))
      refine gk_aload0 dX11_mask_18 (pc' := 19) rfl ?_
      refine gk_cV0_0 mv_Mo_begin gw_892 dX11_mask_19 (pc' := 22) rfl (Nat.le_of_ble_eq_true rfl) (by exact (mkJ)) (sp_Mo_begin hS hw.1 (fun A1 Z1 a1 a2 hBg => ?_))
      refine ⟨rfl, ?_⟩
      have pr2 : mRow (A1 1) (2072 + 256 * j1) (mkS S (nI j1)) := by rw [a1 1 (by decide)]; exact pr1
      refine gk_aload0 dX11_mask_22 (pc' := 23) rfl ?_
      refine gk_getf (fs := [_, _, _, _, _, _, _, _, _, _, _, _, _, _, _, _, _, _, _, _, _, _, _, _, _, _]) gF_Mo_7 dX11_mask_23 (pc' := 26) rfl (by exact (mkJ)) rfl ?_
      refine gk_iload1 dX11_mask_26 (pc' := 27) rfl ?_
      refine gk_iload2 dX11_mask_27 (pc' := 28) rfl ?_
      refine gk_iload3 dX11_mask_28 (pc' := 29) rfl ?_
      refine gk_cS1_3 mz_Mo_spot gw_1051 dX11_mask_29 (pc' := 32) rfl (Nat.le_of_ble_eq_true rfl) (sp_Mo_spot ?_)
      refine ⟨_, rfl, ?_⟩
      refine gk_iald (t0 := 0) rfl dX11_mask_32 (pc' := 33) rfl (by exact (mkA1)) (vp_in_nI (by omega) (by decide)) ?_
      rw [nI_clamp (by omega)]
      rw [pr2 j hj i hi]
      refine gk_istore5 dX11_mask_33 (pc' := 35) rfl (by decide) rfl ?_
      refine gk_aload0 dX11_mask_35 (pc' := 36) rfl ?_
      refine gk_getf (fs := [_, _, _, _, _, _, _, _, _, _, _, _, _, _, _, _, _, _, _, _, _, _, _, _, _, _]) gF_Mo_7 dX11_mask_36 (pc' := 39) rfl (by exact (mkJ)) rfl ?_
      refine gk_iload1 dX11_mask_39 (pc' := 40) rfl ?_
      refine gk_iload2 dX11_mask_40 (pc' := 41) rfl ?_
      refine gk_iload3 dX11_mask_41 (pc' := 42) rfl ?_
      refine gk_cS1_3 mz_Mo_spot gw_1051 dX11_mask_42 (pc' := 45) rfl (Nat.le_of_ble_eq_true rfl) (sp_Mo_spot ?_)
      refine ⟨_, rfl, ?_⟩
      refine gk_iload4 dX11_mask_45 (pc' := 47) rfl ?_
      refine gk_if_eq dX11_mask_47 (tgt := 54) (pc' := 50) (by decide) rfl (fun c47 => ?_) (fun c47 => ?_)
      · have ho : on = false := by cases on; rfl; exact absurd c47 (by decide)
        have f1 := fin j1 i j A1 Z1 hj1 hi hj rfl rfl rfl a1 hBg
        rw [ho] at f1
        refine gk_iconst (v := 0) dX11_mask_54 (pc' := 55) rfl (by decide) ?_
        refine gk_iast (t0 := 0) rfl dX11_mask_55 (pc' := 56) rfl (by exact (mkA1)) (vp_in_nI (by omega) (by decide)) ?_
        rw [nI_clamp (by omega), mkS1]
        refine gk_iload5 dX11_mask_56 (pc' := 58) rfl ?_
        refine gk_iret dX11_mask_58 rfl f1
      · have ho : on = true := by cases on; exact absurd rfl c47; rfl
        have f1 := fin j1 i j A1 Z1 hj1 hi hj rfl rfl rfl a1 hBg
        rw [ho] at f1
        refine gk_iconst (v := 1) dX11_mask_50 (pc' := 51) rfl (by decide) ?_
        refine gk_goto dX11_mask_51 (tgt := 55) (by decide) ?_
        refine gk_iast (t0 := 0) rfl dX11_mask_55 (pc' := 56) rfl (by exact (mkA1)) (vp_in_nI (by omega) (by decide)) ?_
        rw [nI_clamp (by omega), mkS1]
        refine gk_iload5 dX11_mask_56 (pc' := 58) rfl ?_
        refine gk_iret dX11_mask_58 rfl f1
    · refine ⟨_, rfl, ?_⟩
      refine gk_if_ne dX11_mask_12 (tgt := 18) (pc' := 15) (by decide) rfl (fun c => absurd c (by decide)) (fun _ => ?_)
      refine gk_ldc dX11_mask_15 (pc' := 17) rfl gw_891 ?_
      refine gk_iret dX11_mask_17 rfl (hB _ (if_neg (by omega)))
  · refine ⟨_, rfl, ?_⟩
    refine gk_if_eq dX11_mask_4 (tgt := 15) (pc' := 7) (by decide) rfl (fun _ => ?_) (fun c => absurd c (by decide))
    refine gk_ldc dX11_mask_15 (pc' := 17) rfl gw_891 ?_
    refine gk_iret dX11_mask_17 rfl (hB _ (if_neg (by omega)))
/-- the places of a mask, as far as n, tell R -/
def mG (R : Nat → Nat) (i : Nat) : Int32 := if (R (i / 16)).testBit (i % 16) then 1 else 0
theorem mG_row {f : Nat → Int32} {q : Nat} {R : Nat → Nat} : mRow (fdF f q 256 (mG R)) q R := fun y hy x hx => by
  unfold fdF mG
  rw [if_pos (by omega), show (q + 16 * y + x - q) / 16 = y by omega, show (q + 16 * y + x - q) % 16 = x by omega]
theorem mG_out {f V : Nat → Int32} {q n : Nat} (hn : n ≤ 256) : ∀ i, (i < q ∨ q + 256 ≤ i) → fdF f q n V i = f i := fun i hi => by
  unfold fdF
  rw [if_neg (by omega)]
theorem lp_Mo_maskOfX {j1 j2 y : Nat} {c : Pc} {lo hi : Int32} (hp : pRow (A 1) (259 * j2) c) (ok : okP c) (hk : ¬ c.1 = -1) (h1 : j1 < 6) (h2 : j2 < 8) (hy : y < 16) (hQ : ∀ l6, G (kx X) mt_Mo_maskOf (d + 10) b 114 [some (.ref m), some (.int (nI j1)), some (.int (nI j2)), some (.int lo), some (.int hi), some (.int (nI y)), l6] [] (mkH X h0 m (uA A 1 (fdF (A 1) (2072 + 256 * j1) (16 * (y + 1)) (mG (mkO c lo hi)))) Z) Q) :
    ∀ n x, x + n = 16 → G (kx X) mt_Mo_maskOf (d + 10) b 45 [some (.ref m), some (.int (nI j1)), some (.int (nI j2)), some (.int lo), some (.int hi), some (.int (nI y)), some (.int (nI x))] [] (mkH X h0 m (uA A 1 (fdF (A 1) (2072 + 256 * j1) (16 * y + x) (mG (mkO c lo hi)))) Z) Q := by
  have okk := ok.kind hk
  have wt := ok.wt
  have ar := ok.ar
  intro n
  induction n with
  | zero =>
    intro x hx
    have e : x = 16 := by omega
    subst e
    refine gk_iload6 dX11_maskOf_45 (pc' := 47) rfl ?_
    refine gk_bipush (v := 16) dX11_maskOf_47 (pc' := 49) rfl (by decide) ?_
    refine gk_icmp_ge dX11_maskOf_49 (tgt := 114) (pc' := 52) (by decide) rfl (fun c49 => ?_) (fun c49 => absurd (by decide) c49)
    exact hQ _
  | succ n ih =>
    intro x hx
    have pr : pRow (uA A 1 (fdF (A 1) (2072 + 256 * j1) (16 * y + x) (mG (mkO c lo hi))) 1) (259 * j2) c := by
      rw [uA_s]
      exact hp.to ok (fun i hi => mG_out (by omega) _ (by omega))
    have ev : ∀ v : Bool, v = (decide (x < c.2.1) && (decide (y < c.2.2.1) && inB lo hi (c.2.2.2 (y * c.2.1 + x)))) → (if v = true then (1 : Int32) else 0) = mG (mkO c lo hi) (16 * y + x) := by
      intro v hv
      unfold mG
      rw [show (16 * y + x) / 16 = y by omega, show (16 * y + x) % 16 = x by omega, mkO_bit (by omega) okk.2.1.1, ← hv]
    have key : ∀ v : Int32, v = mG (mkO c lo hi) (16 * y + x) → G (kx X) mt_Mo_maskOf (d + 10) b 107 [some (.ref m), some (.int (nI j1)), some (.int (nI j2)), some (.int lo), some (.int hi), some (.int (nI y)), some (.int (nI x))] [.int v, .int (nI (2072 + 256 * j1 + 16 * y + x)), .ref (m + 1)] (mkH X h0 m (uA A 1 (fdF (A 1) (2072 + 256 * j1) (16 * y + x) (mG (mkO c lo hi)))) Z) Q := by
      intro v hv
      refine gk_iast (t0 := 0) rfl dX11_maskOf_107 (pc' := 108) rfl (by exact (mkA1)) (vp_in_nI (by omega) (by decide)) ?_
      rw [nI_clamp (by omega), mkS1]
      rw [uA_s, uA_u, Nat.add_assoc (2072 + 256 * j1), fdF_s hv]
      refine gk_iinc6 (v := 1) dX11_maskOf_108 (pc' := 111) rfl (by decide) (by decide) rfl ?_
      refine gk_goto dX11_maskOf_111 (tgt := 45) (by decide) ?_
      rw [← nI_succ]
      exact ih (x + 1) (by omega)
    have zl := i2l_i lo
    have zh := i2l_i hi
    refine gk_iload6 dX11_maskOf_45 (pc' := 47) rfl ?_
    refine gk_bipush (v := 16) dX11_maskOf_47 (pc' := 49) rfl (by decide) ?_
    refine gk_icmp_ge dX11_maskOf_49 (tgt := 114) (pc' := 52) (by decide) rfl (fun c49 => absurd c49 (nI_ge (b := 16) (by omega) (by omega))) (fun c49 => ?_)
    refine gk_aload0 dX11_maskOf_52 (pc' := 53) rfl ?_
    refine gk_getf (fs := [_, _, _, _, _, _, _, _, _, _, _, _, _, _, _, _, _, _, _, _, _, _, _, _, _, _]) gF_Mo_7 dX11_maskOf_53 (pc' := 56) rfl (by exact (mkJ)) rfl ?_
    refine gk_iload1 dX11_maskOf_56 (pc' := 57) rfl ?_
    refine gk_iload6 dX11_maskOf_57 (pc' := 59) rfl ?_
    refine gk_iload5 dX11_maskOf_59 (pc' := 61) rfl ?_
    refine gk_cS1_3 mz_Mo_spot gw_1051 dX11_maskOf_61 (pc' := 64) rfl (Nat.le_of_ble_eq_true rfl) (sp_Mo_spot ?_)
    refine ⟨_, rfl, ?_⟩
    refine gk_aload0 dX11_maskOf_64 (pc' := 65) rfl ?_
    refine gk_iload2 dX11_maskOf_65 (pc' := 66) rfl ?_
    refine gk_iload6 dX11_maskOf_66 (pc' := 68) rfl ?_
    refine gk_iload5 dX11_maskOf_68 (pc' := 70) rfl ?_
    refine gk_cV1_3 mv_Mo_isWithin gw_909 dX11_maskOf_70 (pc' := 73) rfl (Nat.le_of_ble_eq_true rfl) (by exact (mkJ)) (sp_Mo_isWithin pr h2 wt (fun i j ei ej hi1 hj1 => ?_) (fun n70 => ?_))
    · refine ⟨_, rfl, ?_⟩
      have ei := nI_inj (by omega) (by omega) ei
      have ej := nI_inj (by omega) (by omega) ej
      subst ei ej
      have pl := place_lt hi1 hj1
      have ep : uA A 1 (fdF (A 1) (2072 + 256 * j1) (16 * y + x) (mG (mkO c lo hi))) 1 (259 * j2 + 3 + y * c.2.1 + x) = c.2.2.2 (y * c.2.1 + x) := by rw [Nat.add_assoc (259 * j2 + 3)]; exact pr.2.2.2 _ pl
      have zp := i2l_i (c.2.2.2 (y * c.2.1 + x))
      refine gk_if_eq dX11_maskOf_73 (tgt := 106) (pc' := 76) (by decide) rfl (fun c => absurd c (by decide)) (fun _ => ?_)
      refine gk_aload0 dX11_maskOf_76 (pc' := 77) rfl ?_
      refine gk_getf (fs := [_, _, _, _, _, _, _, _, _, _, _, _, _, _, _, _, _, _, _, _, _, _, _, _, _, _]) gF_Mo_7 dX11_maskOf_77 (pc' := 80) rfl (by exact (mkJ)) rfl ?_
      refine gk_aload0 dX11_maskOf_80 (pc' := 81) rfl ?_
      refine gk_iload2 dX11_maskOf_81 (pc' := 82) rfl ?_
      refine gk_iload6 dX11_maskOf_82 (pc' := 84) rfl ?_
      refine gk_iload5 dX11_maskOf_84 (pc' := 86) rfl ?_
      refine gk_cV1_3 mv_Mo_pixelAt gw_931 dX11_maskOf_86 (pc' := 89) rfl (Nat.le_of_ble_eq_true rfl) (by exact (mkJ)) (sp_Mo_pixelAt pr h2 ?_)
      refine ⟨_, rfl, ?_⟩
      refine gk_iald (t0 := 0) rfl dX11_maskOf_89 (pc' := 90) rfl (by exact (mkA1)) (vp_in_nI (by omega) (by decide)) ?_
      rw [nI_clamp (by omega)]
      rw [ep]
      refine gk_i2l dX11_maskOf_90 (pc' := 91) rfl ?_
      refine gk_iload3 dX11_maskOf_91 (pc' := 92) rfl ?_
      refine gk_i2l dX11_maskOf_92 (pc' := 93) rfl ?_
      refine gk_iload4 dX11_maskOf_93 (pc' := 95) rfl ?_
      refine gk_i2l dX11_maskOf_95 (pc' := 96) rfl ?_
      refine gk_cS1_3 mz_Mo_in gw_886 dX11_maskOf_96 (pc' := 99) rfl (Nat.le_of_ble_eq_true rfl) (sp_Mo_in (fun u96 v96 => ?_) (fun n96 => ?_))
      · refine ⟨_, rfl, ?_⟩
        refine gk_if_eq dX11_maskOf_99 (tgt := 106) (pc' := 102) (by decide) rfl (fun c => absurd c (by decide)) (fun _ => ?_)
        refine gk_iconst (v := 1) dX11_maskOf_102 (pc' := 103) rfl (by decide) ?_
        refine gk_goto dX11_maskOf_103 (tgt := 107) (by decide) ?_
        first | exact key _ (ev true (by rw [decide_eq_true hi1, decide_eq_true hj1]; exact (decide_eq_true ⟨by omega, by omega⟩).symm)) | exact key _ (ev false (by rw [decide_eq_true hi1, decide_eq_true hj1]; exact (decide_eq_false (fun z => n96 (by omega))).symm)) | exact key _ (ev false (by by_cases q1 : x < c.2.1 <;> by_cases q2 : y < c.2.2.1; exact absurd (by omega) n70; rw [decide_eq_false q2]; simp; rw [decide_eq_false q1]; simp; rw [decide_eq_false q1]; simp))
      · refine ⟨_, rfl, ?_⟩
        refine gk_if_eq dX11_maskOf_99 (tgt := 106) (pc' := 102) (by decide) rfl (fun _ => ?_) (fun c => absurd c (by decide))
        refine gk_iconst (v := 0) dX11_maskOf_106 (pc' := 107) rfl (by decide) ?_
        first | exact key _ (ev true (by rw [decide_eq_true hi1, decide_eq_true hj1]; exact (decide_eq_true ⟨by omega, by omega⟩).symm)) | exact key _ (ev false (by rw [decide_eq_true hi1, decide_eq_true hj1]; exact (decide_eq_false (fun z => n96 (by omega))).symm)) | exact key _ (ev false (by by_cases q1 : x < c.2.1 <;> by_cases q2 : y < c.2.2.1; exact absurd (by omega) n70; rw [decide_eq_false q2]; simp; rw [decide_eq_false q1]; simp; rw [decide_eq_false q1]; simp))
    · refine ⟨_, rfl, ?_⟩
      rw [nI_toInt (by omega), nI_toInt (by omega)] at n70
      refine gk_if_eq dX11_maskOf_73 (tgt := 106) (pc' := 76) (by decide) rfl (fun _ => ?_) (fun c => absurd c (by decide))
      refine gk_iconst (v := 0) dX11_maskOf_106 (pc' := 107) rfl (by decide) ?_
      first | exact key _ (ev true (by rw [decide_eq_true hi1, decide_eq_true hj1]; exact (decide_eq_true ⟨by omega, by omega⟩).symm)) | exact key _ (ev false (by rw [decide_eq_true hi1, decide_eq_true hj1]; exact (decide_eq_false (fun z => n96 (by omega))).symm)) | exact key _ (ev false (by by_cases q1 : x < c.2.1 <;> by_cases q2 : y < c.2.2.1; exact absurd (by omega) n70; rw [decide_eq_false q2]; simp; rw [decide_eq_false q1]; simp; rw [decide_eq_false q1]; simp))
theorem lp_Mo_maskOfY {j1 j2 : Nat} {c : Pc} {lo hi : Int32} (hp : pRow (A 1) (259 * j2) c) (ok : okP c) (hk : ¬ c.1 = -1) (h1 : j1 < 6) (h2 : j2 < 8) (hQ : ∀ l5 l6, G (kx X) mt_Mo_maskOf (d + 10) b 120 [some (.ref m), some (.int (nI j1)), some (.int (nI j2)), some (.int lo), some (.int hi), l5, l6] [] (mkH X h0 m (uA A 1 (fdF (A 1) (2072 + 256 * j1) 256 (mG (mkO c lo hi)))) Z) Q) :
    ∀ n y l6, y + n = 16 → G (kx X) mt_Mo_maskOf (d + 10) b 35 [some (.ref m), some (.int (nI j1)), some (.int (nI j2)), some (.int lo), some (.int hi), some (.int (nI y)), l6] [] (mkH X h0 m (uA A 1 (fdF (A 1) (2072 + 256 * j1) (16 * y) (mG (mkO c lo hi)))) Z) Q := by
  intro n
  induction n with
  | zero =>
    intro y l6 hy
    have e : y = 16 := by omega
    subst e
    refine gk_iload5 dX11_maskOf_35 (pc' := 37) rfl ?_
    refine gk_bipush (v := 16) dX11_maskOf_37 (pc' := 39) rfl (by decide) ?_
    refine gk_icmp_ge dX11_maskOf_39 (tgt := 120) (pc' := 42) (by decide) rfl (fun c39 => ?_) (fun c39 => absurd (by decide) c39)
    exact hQ _ _
  | succ n ih =>
    intro y l6 hy
    refine gk_iload5 dX11_maskOf_35 (pc' := 37) rfl ?_
    refine gk_bipush (v := 16) dX11_maskOf_37 (pc' := 39) rfl (by decide) ?_
    refine gk_icmp_ge dX11_maskOf_39 (tgt := 120) (pc' := 42) (by decide) rfl (fun c39 => absurd c39 (nI_ge (b := 16) (by omega) (by omega))) (fun c39 => ?_)
    refine gk_iconst (v := 0) dX11_maskOf_42 (pc' := 43) rfl (by decide) ?_
    refine gk_istore6 dX11_maskOf_43 (pc' := 45) rfl (by decide) rfl ?_
    refine lp_Mo_maskOfX hp ok hk h1 h2 (by omega) (fun l6 => ?_) 16 0 (by omega)
    refine gk_iinc5 (v := 1) dX11_maskOf_114 (pc' := 117) rfl (by decide) (by decide) rfl ?_
    refine gk_goto dX11_maskOf_117 (tgt := 35) (by decide) ?_
    rw [← nI_succ]
    exact ih (y + 1) _ (by omega)
theorem mo_maskOf {q p lo hi : Int32} (hM : Mod X h m S) (hw : wfS S) (hQ : ∀ h', Mod X h' m (oMaskOf S q p lo hi).2 → frO m h h' → Q (some (.int (oMaskOf S q p lo hi).1)) h') : Gm (kx X) mt_Mo_maskOf (d + 10) b [.ref m, .int q, .int p, .int lo, .int hi] h Q := by
  obtain ⟨h0, A, Z, rfl, hS⟩ := hM
  have hE : ∀ a0 S' A' Z', oMaskOf S q p lo hi = (a0, S') → MoS A' Z' S' → Q (some (.int a0)) (mkH X h0 m A' Z') := fun a0 S' A' Z' e0 h1 => by
    have q := hQ (mkH X h0 m A' Z')
    rw [e0] at q
    exact q ⟨h0, A', Z', rfl, h1⟩ mk_fr
  have hB : ∀ a0, oMaskOf S q p lo hi = (a0, S) → Q (some (.int a0)) (mkH X h0 m A Z) := fun a0 e0 => hE a0 S A Z e0 hS
  refine Gm.enter (L := [some (.ref m), some (.int q), some (.int p), some (.int lo), some (.int hi), none, none]) (by decide) (fun _ => trivial) (Nat.le_of_ble_eq_true rfl) rfl ?_
  refine gk_iload1 dX11_maskOf_0 (pc' := 1) rfl ?_
  refine gk_cS1_1 mz_Mo_isMask gw_1044 dX11_maskOf_1 (pc' := 4) rfl (Nat.le_of_ble_eq_true rfl) (sp_Mo_isMask (fun j1 hj1 ej1 => ?_) (fun n1 => ?_))
  · refine ⟨_, rfl, ?_⟩
    subst ej1
    have zj1 : (nI j1).toInt = j1 := nI_toInt (by omega)
    have yj1 : (nI j1).toInt.toNat = j1 := by omega
    have pr1 := hS.msk hj1
    refine gk_if_eq dX11_maskOf_4 (tgt := 14) (pc' := 7) (by decide) rfl (fun c => absurd c (by decide)) (fun _ => ?_)
    refine gk_iload2 dX11_maskOf_7 (pc' := 8) rfl ?_
    refine gk_cS1_1 mz_Mo_isPicture gw_882 dX11_maskOf_8 (pc' := 11) rfl (Nat.le_of_ble_eq_true rfl) (sp_Mo_isPicture (fun j8 hj8 ej8 => ?_) (fun n8 => ?_))
    · refine ⟨_, rfl, ?_⟩
      subst ej8
      have zj8 : (nI j8).toInt = j8 := nI_toInt (by omega)
      have yj8 : (nI j8).toInt.toNat = j8 := by omega
      have pr8 := hS.picS hj8
      have ok8 := hw.okp hj8
      have wt8 := ok8.wt
      have ar8 := ok8.ar
      refine gk_if_ne dX11_maskOf_11 (tgt := 17) (pc' := 14) (by decide) rfl (fun _ => ?_) (fun c => absurd c (by decide))
      refine gk_aload0 dX11_maskOf_17 (pc' := 18) rfl ?_
      refine gk_iload2 dX11_maskOf_18 (pc' := 19) rfl ?_
      refine gk_cV1_1 mv_Mo_isThere gw_905 dX11_maskOf_19 (pc' := 22) rfl (Nat.le_of_ble_eq_true rfl) (by exact (mkJ)) (sp_Mo_isThere pr8 hj8 ok8 (fun k19 => ?_) (fun k19 => ?_))
      · refine ⟨_, rfl, ?_⟩
        refine gk_if_ne dX11_maskOf_22 (tgt := 28) (pc' := 25) (by decide) rfl (fun _ => ?_) (fun c => absurd c (by decide))
        refine gk_aload0 dX11_maskOf_28 (pc' := 29) rfl ?_
        refine gk_cV0_0 mv_Mo_begin gw_892 dX11_maskOf_29 (pc' := 32) rfl (Nat.le_of_ble_eq_true rfl) (by exact (mkJ)) (sp_Mo_begin hS hw.1 (fun A1 Z1 a1 a2 hBg => ?_))
        refine ⟨rfl, ?_⟩
        have pr2 : pRow (A1 1) (259 * j8) (pcS S (nI j8)) := by rw [a1 1 (by decide)]; exact pr8
        refine gk_iconst (v := 0) dX11_maskOf_32 (pc' := 33) rfl (by decide) ?_
        refine gk_istore5 dX11_maskOf_33 (pc' := 35) rfl (by decide) rfl ?_
        have q := lp_Mo_maskOfY (X := X) (h0 := h0) (m := m) (A := A1) (Z := Z1) (d := d) (b := b) (Q := Q) (lo := lo) (hi := hi) pr2 ok8 k19 hj1 hj8 (fun l5 l6 => by
          refine gk_aload0 dX11_maskOf_120 (pc' := 121) rfl ?_
          refine gk_iload1 dX11_maskOf_121 (pc' := 122) rfl ?_
          refine gk_cV1_1 mv_Mo_ons gw_1058 dX11_maskOf_122 (pc' := 125) rfl (Nat.le_of_ble_eq_true rfl) mkJ (sp_Mo_ons (R := mkO (pcS S (nI j8)) lo hi) (by rw [uA_s]; exact mG_row) hj1 ?_)
          refine ⟨_, rfl, ?_⟩
          refine gk_iret dX11_maskOf_125 rfl ?_
          exact hE _ (kM S j1 (mkO (pcS S (nI j8)) lo hi)) _ _ ((if_pos (by omega)).trans ((if_neg k19).trans (by rw [yj1]))) (hBg.actM hw.1 (by rw [a1 1 (by decide)]; exact hS.1) (fun i h1 h2 => uA_n (by omega)) (fun i hi => rfl) hj1 (by rw [uA_s]; exact mG_row) (fun q hq => by rw [uA_s]; exact mG_out (by omega) q hq))) 16 0 none (by omega)
        rw [fdF_0, uA_i] at q
        exact q
      · refine ⟨_, rfl, ?_⟩
        refine gk_if_ne dX11_maskOf_22 (tgt := 28) (pc' := 25) (by decide) rfl (fun c => absurd c (by decide)) (fun _ => ?_)
        refine gk_ldc dX11_maskOf_25 (pc' := 27) rfl gw_869 ?_
        refine gk_iret dX11_maskOf_27 rfl (hB _ ((if_pos (by omega)).trans (if_pos k19)))
    · refine ⟨_, rfl, ?_⟩
      refine gk_if_ne dX11_maskOf_11 (tgt := 17) (pc' := 14) (by decide) rfl (fun c => absurd c (by decide)) (fun _ => ?_)
      refine gk_ldc dX11_maskOf_14 (pc' := 16) rfl gw_891 ?_
      refine gk_iret dX11_maskOf_16 rfl (hB _ (if_neg (by omega)))
  · refine ⟨_, rfl, ?_⟩
    refine gk_if_eq dX11_maskOf_4 (tgt := 14) (pc' := 7) (by decide) rfl (fun _ => ?_) (fun c => absurd c (by decide))
    refine gk_ldc dX11_maskOf_14 (pc' := 16) rfl gw_891 ?_
    refine gk_iret dX11_maskOf_16 rfl (hB _ (if_neg (by omega)))
theorem sp_Mo_between {x y : Int32} (hQ : Q (some (.int (if x < y then y - x else x - y))) h) : Gm (kx X) mt_Mo_between d b [.int x, .int y] h Q := by
  refine Gm.enter (L := [some (.int x), some (.int y)]) (by decide) (fun _ => trivial) (Nat.le_of_ble_eq_true rfl) rfl ?_
  refine gk_iload0 dX11_between_0 (pc' := 1) rfl ?_
  refine gk_iload1 dX11_between_1 (pc' := 2) rfl ?_
  refine gk_icmp_ge dX11_between_2 (tgt := 11) (pc' := 5) (by decide) rfl (fun c2 => ?_) (fun c2 => ?_)
  · rw [if_neg (Int32.not_lt.mpr c2)] at hQ
    refine gk_iload0 dX11_between_11 (pc' := 12) rfl ?_
    refine gk_iload1 dX11_between_12 (pc' := 13) rfl ?_
    refine gk_isub dX11_between_13 (pc' := 14) rfl ?_
    refine gk_iret dX11_between_14 rfl hQ
  · rw [if_pos (Int32.not_le.mp c2)] at hQ
    refine gk_iload1 dX11_between_5 (pc' := 6) rfl ?_
    refine gk_iload0 dX11_between_6 (pc' := 7) rfl ?_
    refine gk_isub dX11_between_7 (pc' := 8) rfl ?_
    refine gk_goto dX11_between_8 (tgt := 14) (by decide) ?_
    refine gk_iret dX11_between_14 rfl hQ
theorem sp_Mo_energyAt {w t : Nat} {x y : Int32} (hZ : Z 4 = nI w ∧ Z 5 = nI t) (h1 : 1 ≤ w) (h2 : 1 ≤ t) (hw : w ≤ 16) (htt : t ≤ 16) (hr : ∀ i, i < w * t → -32768 ≤ (A 9 i).toInt ∧ (A 9 i).toInt ≤ 32767) (hx : -10000 ≤ x.toInt ∧ x.toInt ≤ 10000) (hy : -10000 ≤ y.toInt ∧ y.toInt ≤ 10000) (hQ : Q (some (.int (eng w t (A 9) x.toInt y.toInt))) (mkH X h0 m A Z)) : Gm (kx X) mt_Mo_energyAt (d + 2) b [.ref m, .int x, .int y] (mkH X h0 m A Z) Q := by
  have z1 : (1 : Int32).toInt = 1 := rfl
  have z0 : (0 : Int32).toInt = 0 := rfl
  have xm : (x - 1).toInt = x.toInt - 1 := Jvm.Kit.i32_sub (by omega) (by omega)
  have xp : (x + 1).toInt = x.toInt + 1 := Jvm.Kit.i32_add (by omega) (by omega)
  have ym : (y - 1).toInt = y.toInt - 1 := Jvm.Kit.i32_sub (by omega) (by omega)
  have yp : (y + 1).toInt = y.toInt + 1 := Jvm.Kit.i32_add (by omega) (by omega)
  have rg : ∀ (a c : Int), -40000 ≤ (sn w t (A 9) a c 0).toInt ∧ (sn w t (A 9) a c 0).toInt ≤ 40000 := fun a c => by have := sn_rng (x := a) (y := c) (e := 0) h1 h2 hr; omega
  refine Gm.enter (L := [some (.ref m), some (.int x), some (.int y)]) (by decide) (fun _ => trivial) (Nat.le_of_ble_eq_true rfl) rfl ?_
  refine gk_aload0 dX11_energyAt_0 (pc' := 1) rfl ?_
  refine gk_iload1 dX11_energyAt_1 (pc' := 2) rfl ?_
  refine gk_iconst (v := 1) dX11_energyAt_2 (pc' := 3) rfl (by decide) ?_
  refine gk_isub dX11_energyAt_3 (pc' := 4) rfl ?_
  refine gk_iload2 dX11_energyAt_4 (pc' := 5) rfl ?_
  refine gk_iconst (v := 0) dX11_energyAt_5 (pc' := 6) rfl (by decide) ?_
  refine gk_cV1_3 mv_Mo_seenAt gw_956 dX11_energyAt_6 (pc' := 9) rfl (Nat.le_of_ble_eq_true rfl) (by exact (mkJ)) (sp_Mo_seenAt hZ h1 h2 hw htt (by omega) (by omega) (by rw [z0]; omega) ?_)
  refine ⟨_, rfl, ?_⟩
  refine gk_aload0 dX11_energyAt_9 (pc' := 10) rfl ?_
  refine gk_iload1 dX11_energyAt_10 (pc' := 11) rfl ?_
  refine gk_iconst (v := 1) dX11_energyAt_11 (pc' := 12) rfl (by decide) ?_
  refine gk_iadd dX11_energyAt_12 (pc' := 13) rfl ?_
  refine gk_iload2 dX11_energyAt_13 (pc' := 14) rfl ?_
  refine gk_iconst (v := 0) dX11_energyAt_14 (pc' := 15) rfl (by decide) ?_
  refine gk_cV1_3 mv_Mo_seenAt gw_956 dX11_energyAt_15 (pc' := 18) rfl (Nat.le_of_ble_eq_true rfl) (by exact (mkJ)) (sp_Mo_seenAt hZ h1 h2 hw htt (by omega) (by omega) (by rw [z0]; omega) ?_)
  refine ⟨_, rfl, ?_⟩
  refine gk_cS1_2 mz_Mo_between gw_1108 dX11_energyAt_18 (pc' := 21) rfl (Nat.le_of_ble_eq_true rfl) (sp_Mo_between ?_)
  refine ⟨_, rfl, ?_⟩
  rw [btw (rg _ _) (rg _ _)]
  refine gk_aload0 dX11_energyAt_21 (pc' := 22) rfl ?_
  refine gk_iload1 dX11_energyAt_22 (pc' := 23) rfl ?_
  refine gk_iload2 dX11_energyAt_23 (pc' := 24) rfl ?_
  refine gk_iconst (v := 1) dX11_energyAt_24 (pc' := 25) rfl (by decide) ?_
  refine gk_isub dX11_energyAt_25 (pc' := 26) rfl ?_
  refine gk_iconst (v := 0) dX11_energyAt_26 (pc' := 27) rfl (by decide) ?_
  refine gk_cV1_3 mv_Mo_seenAt gw_956 dX11_energyAt_27 (pc' := 30) rfl (Nat.le_of_ble_eq_true rfl) (by exact (mkJ)) (sp_Mo_seenAt hZ h1 h2 hw htt (by omega) (by omega) (by rw [z0]; omega) ?_)
  refine ⟨_, rfl, ?_⟩
  refine gk_aload0 dX11_energyAt_30 (pc' := 31) rfl ?_
  refine gk_iload1 dX11_energyAt_31 (pc' := 32) rfl ?_
  refine gk_iload2 dX11_energyAt_32 (pc' := 33) rfl ?_
  refine gk_iconst (v := 1) dX11_energyAt_33 (pc' := 34) rfl (by decide) ?_
  refine gk_iadd dX11_energyAt_34 (pc' := 35) rfl ?_
  refine gk_iconst (v := 0) dX11_energyAt_35 (pc' := 36) rfl (by decide) ?_
  refine gk_cV1_3 mv_Mo_seenAt gw_956 dX11_energyAt_36 (pc' := 39) rfl (Nat.le_of_ble_eq_true rfl) (by exact (mkJ)) (sp_Mo_seenAt hZ h1 h2 hw htt (by omega) (by omega) (by rw [z0]; omega) ?_)
  refine ⟨_, rfl, ?_⟩
  refine gk_cS1_2 mz_Mo_between gw_1108 dX11_energyAt_39 (pc' := 42) rfl (Nat.le_of_ble_eq_true rfl) (sp_Mo_between ?_)
  refine ⟨_, rfl, ?_⟩
  rw [btw (rg _ _) (rg _ _)]
  refine gk_iadd dX11_energyAt_42 (pc' := 43) rfl ?_
  refine gk_iret dX11_energyAt_43 rfl (by unfold eng at hQ; rw [← xm, ← xp, ← ym, ← yp] at hQ; exact hQ)
theorem mo_energy {p x y : Int32} (hM : Mod X h m S) (hw : wfS S) (hQ : ∀ h', Mod X h' m (oEnergy S p x y).2 → frO m h h' → Q (some (.int (oEnergy S p x y).1)) h') : Gm (kx X) mt_Mo_energy (d + 10) b [.ref m, .int p, .int x, .int y] h Q := by
  obtain ⟨h0, A, Z, rfl, hS⟩ := hM
  have hE : ∀ a0 S' A' Z', oEnergy S p x y = (a0, S') → MoS A' Z' S' → Q (some (.int a0)) (mkH X h0 m A' Z') := fun a0 S' A' Z' e0 h1 => by
    have q := hQ (mkH X h0 m A' Z')
    rw [e0] at q
    exact q ⟨h0, A', Z', rfl, h1⟩ mk_fr
  have hB : ∀ a0, oEnergy S p x y = (a0, S) → Q (some (.int a0)) (mkH X h0 m A Z) := fun a0 e0 => hE a0 S A Z e0 hS
  refine Gm.enter (L := [some (.ref m), some (.int p), some (.int x), some (.int y)]) (by decide) (fun _ => trivial) (Nat.le_of_ble_eq_true rfl) rfl ?_
  refine gk_iload1 dX11_energy_0 (pc' := 1) rfl ?_
  refine gk_cS1_1 mz_Mo_isPicture gw_882 dX11_energy_1 (pc' := 4) rfl (Nat.le_of_ble_eq_true rfl) (sp_Mo_isPicture (fun j1 hj1 ej1 => ?_) (fun n1 => ?_))
  · refine ⟨_, rfl, ?_⟩
    subst ej1
    have zj1 : (nI j1).toInt = j1 := nI_toInt (by omega)
    have yj1 : (nI j1).toInt.toNat = j1 := by omega
    have pr1 := hS.picS hj1
    have ok1 := hw.okp hj1
    have wt1 := ok1.wt
    have ar1 := ok1.ar
    refine gk_if_ne dX11_energy_4 (tgt := 10) (pc' := 7) (by decide) rfl (fun _ => ?_) (fun c => absurd c (by decide))
    refine gk_aload0 dX11_energy_10 (pc' := 11) rfl ?_
    refine gk_iload1 dX11_energy_11 (pc' := 12) rfl ?_
    refine gk_cV1_1 mv_Mo_isThere gw_905 dX11_energy_12 (pc' := 15) rfl (Nat.le_of_ble_eq_true rfl) (by exact (mkJ)) (sp_Mo_isThere pr1 hj1 ok1 (fun k12 => ?_) (fun k12 => ?_))
    · refine ⟨_, rfl, ?_⟩
      have okk := ok1.kind k12
      refine gk_if_eq dX11_energy_15 (tgt := 28) (pc' := 18) (by decide) rfl (fun c => absurd c (by decide)) (fun _ => ?_)
      refine gk_aload0 dX11_energy_18 (pc' := 19) rfl ?_
      refine gk_iload1 dX11_energy_19 (pc' := 20) rfl ?_
      refine gk_iload2 dX11_energy_20 (pc' := 21) rfl ?_
      refine gk_iload3 dX11_energy_21 (pc' := 22) rfl ?_
      refine gk_cV1_3 mv_Mo_isWithin gw_909 dX11_energy_22 (pc' := 25) rfl (Nat.le_of_ble_eq_true rfl) (by exact (mkJ)) (sp_Mo_isWithin pr1 hj1 wt1 (fun i j ei ej hi hj => ?_) (fun n22 => ?_))
      · refine ⟨_, rfl, ?_⟩
        subst ei ej
        have zi : (nI i).toInt = i := nI_toInt (by omega)
        have zj : (nI j).toInt = j := nI_toInt (by omega)
        refine gk_if_ne dX11_energy_25 (tgt := 31) (pc' := 28) (by decide) rfl (fun _ => ?_) (fun c => absurd c (by decide))
        refine gk_aload0 dX11_energy_31 (pc' := 32) rfl ?_
        refine gk_iload1 dX11_energy_32 (pc' := 33) rfl ?_
        refine gk_cV0_1 mv_Mo_look gw_952 dX11_energy_33 (pc' := 36) rfl (Nat.le_of_ble_eq_true rfl) (by exact (mkJ)) (sp_Mo_look pr1 hj1 ?_)
        refine ⟨rfl, ?_⟩
        refine gk_aload0 dX11_energy_36 (pc' := 37) rfl ?_
        refine gk_iload2 dX11_energy_37 (pc' := 38) rfl ?_
        refine gk_iload3 dX11_energy_38 (pc' := 39) rfl ?_
        refine gk_cV1_2 mv_Mo_energyAt gw_1104 dX11_energy_39 (pc' := 42) rfl (Nat.le_of_ble_eq_true rfl) (by exact (mkJ)) (sp_Mo_energyAt (w := (pcS S (nI j1)).2.1) (t := (pcS S (nI j1)).2.2.1) ⟨rfl, rfl⟩ okk.2.1.1 okk.2.2.1.1 okk.2.1.2 okk.2.2.1.2 (fun i hi => by rw [lk_px pr1 ar1 hi]; exact inK_r (okk.2.2.2 i hi)) (by omega) (by omega) ?_)
        refine ⟨_, rfl, ?_⟩
        refine gk_iret dX11_energy_42 rfl (by rw [eng_congr okk.2.1.1 okk.2.2.1.1 (fun i hi => lk_px pr1 ar1 hi)]; exact hE _ S _ _ ((if_pos (by omega)).trans (if_pos (by omega))) (hS.kept (fun i h1 h2 => uA_n (by omega)) (fun i hi => lkZ_n hi)))
      · refine ⟨_, rfl, ?_⟩
        refine gk_if_ne dX11_energy_25 (tgt := 31) (pc' := 28) (by decide) rfl (fun c => absurd c (by decide)) (fun _ => ?_)
        refine gk_ldc dX11_energy_28 (pc' := 30) rfl gw_869 ?_
        refine gk_iret dX11_energy_30 rfl (hB _ ((if_pos (by omega)).trans (if_neg (by omega))))
    · refine ⟨_, rfl, ?_⟩
      have okm : (pcS S (nI j1)).2.1 = 0 := ok1.elim (fun z => z.2.1) (fun z => absurd k12 (by rcases z.1 with y | y <;> rw [y] <;> decide))
      refine gk_if_eq dX11_energy_15 (tgt := 28) (pc' := 18) (by decide) rfl (fun _ => ?_) (fun c => absurd c (by decide))
      refine gk_ldc dX11_energy_28 (pc' := 30) rfl gw_869 ?_
      refine gk_iret dX11_energy_30 rfl (hB _ ((if_pos (by omega)).trans (if_neg (by omega))))
  · refine ⟨_, rfl, ?_⟩
    refine gk_if_ne dX11_energy_4 (tgt := 10) (pc' := 7) (by decide) rfl (fun c => absurd c (by decide)) (fun _ => ?_)
    refine gk_ldc dX11_energy_7 (pc' := 9) rfl gw_891 ?_
    refine gk_iret dX11_energy_9 rfl (hB _ (if_neg (by omega)))
theorem sp_Mo_isFilter {f : Int32} (hz : Z 2 = nI S.2.1.1) (hN : S.2.1.1 ≤ 24) (ht : ∀ j, j < S.2.1.1 → f = nI j → Q (some (.int 1)) (mkH X h0 m A Z)) (hf : ¬ isF S.2.1 f → Q (some (.int 0)) (mkH X h0 m A Z)) : Gm (kx X) mt_Mo_isFilter (d + 1) b [.ref m, .int f] (mkH X h0 m A Z) Q := by
  have zf := i2l_i f
  have z0 : (0 : Int64).toInt = 0 := rfl
  have z1 : (1 : Int32).toInt = 1 := rfl
  have zn : (nI S.2.1.1 - 1).toInt64.toInt = (S.2.1.1 : Int) - 1 := by rw [i2l_i, Jvm.Kit.i32_sub (by rw [nI_toInt (by omega)]; omega) (by rw [nI_toInt (by omega)]; omega), nI_toInt (by omega), z1]
  refine Gm.enter (L := [some (.ref m), some (.int f)]) (by decide) (fun _ => trivial) (Nat.le_of_ble_eq_true rfl) rfl ?_
  refine gk_iload1 dX11_isFilter_0 (pc' := 1) rfl ?_
  refine gk_i2l dX11_isFilter_1 (pc' := 2) rfl ?_
  refine gk_lconst (v := 0) dX11_isFilter_2 (pc' := 3) rfl (by decide) ?_
  refine gk_aload0 dX11_isFilter_3 (pc' := 4) rfl ?_
  refine gk_getf (fs := [_, _, _, _, _, _, _, _, _, _, _, _, _, _, _, _, _, _, _, _, _, _, _, _, _, _]) gF_Mo_170 dX11_isFilter_4 (pc' := 7) rfl (by exact (mkJ)) rfl ?_
  rw [hz]
  refine gk_iconst (v := 1) dX11_isFilter_7 (pc' := 8) rfl (by decide) ?_
  refine gk_isub dX11_isFilter_8 (pc' := 9) rfl ?_
  refine gk_i2l dX11_isFilter_9 (pc' := 10) rfl ?_
  refine gk_cS1_3 mz_Mo_in gw_886 dX11_isFilter_10 (pc' := 13) rfl (Nat.le_of_ble_eq_true rfl) (sp_Mo_in (fun u v => ?_) (fun n => ?_))
  · refine ⟨_, rfl, ?_⟩
    obtain ⟨j, hj, ej⟩ := pu_of (x := f) (n := S.2.1.1) (by omega) (by omega) (by omega)
    refine gk_zret dX11_isFilter_13 rfl rfl (by first | exact ht j hj ej | exact hf (by omega))
  · refine ⟨_, rfl, ?_⟩
    refine gk_zret dX11_isFilter_13 rfl rfl (by first | exact ht j hj ej | exact hf (by omega))
theorem mo_weight {f i v : Int32} (hM : Mod X h m S) (hw : wfS S) (hQ : ∀ h', Mod X h' m (oWeight S f i v).2 → frO m h h' → Q (some (.int (oWeight S f i v).1)) h') : Gm (kx X) mt_Mo_weight (d + 10) b [.ref m, .int f, .int i, .int v] h Q := by
  obtain ⟨h0, A, Z, rfl, hS⟩ := hM
  have hE : ∀ a0 S' A' Z', oWeight S f i v = (a0, S') → MoS A' Z' S' → Q (some (.int a0)) (mkH X h0 m A' Z') := fun a0 S' A' Z' e0 h1 => by
    have q := hQ (mkH X h0 m A' Z')
    rw [e0] at q
    exact q ⟨h0, A', Z', rfl, h1⟩ mk_fr
  have hB : ∀ a0, oWeight S f i v = (a0, S) → Q (some (.int a0)) (mkH X h0 m A Z) := fun a0 e0 => hE a0 S A Z e0 hS
  have zi := i2l_i i
  have zv := i2l_i v
  have z0 : (0 : Int64).toInt = 0 := rfl
  have z8 : (8 : Int64).toInt = 8 := rfl
  have zm : (-1000 : Int64).toInt = -1000 := rfl
  have zk : (1000 : Int64).toInt = 1000 := rfl
  have tw := hw.2.1
  have tw1 := tw.1
  have hS0 := hS
  obtain ⟨s1, s2, ⟨s3, s4, s5, s6⟩, s7, s8⟩ := hS
  refine Gm.enter (L := [some (.ref m), some (.int f), some (.int i), some (.int v), none]) (by decide) (fun _ => trivial) (Nat.le_of_ble_eq_true rfl) rfl ?_
  refine gk_aload0 dX11_weight_0 (pc' := 1) rfl ?_
  refine gk_iload1 dX11_weight_1 (pc' := 2) rfl ?_
  refine gk_cV1_1 mv_Mo_isFilter gw_996 dX11_weight_2 (pc' := 5) rfl (Nat.le_of_ble_eq_true rfl) (by exact (mkJ)) (sp_Mo_isFilter s5 tw1 (fun j hj ej => ?_) (fun n2 => ?_))
  · refine ⟨_, rfl, ?_⟩
    subst ej
    have zj : (nI j).toInt = j := nI_toInt (by omega)
    have yj : (nI j).toInt.toNat = j := by omega
    have fj := s7 j hj
    refine gk_if_eq dX11_weight_5 (tgt := 34) (pc' := 8) (by decide) rfl (fun c => absurd c (by decide)) (fun _ => ?_)
    refine gk_iload2 dX11_weight_8 (pc' := 9) rfl ?_
    refine gk_i2l dX11_weight_9 (pc' := 10) rfl ?_
    refine gk_lconst (v := 0) dX11_weight_10 (pc' := 11) rfl (by decide) ?_
    refine gk_ldc2 dX11_weight_11 (pc' := 14) rfl gw_939 ?_
    refine gk_cS1_3 mz_Mo_in gw_886 dX11_weight_14 (pc' := 17) rfl (Nat.le_of_ble_eq_true rfl) (sp_Mo_in (fun u14 v14 => ?_) (fun n14 => ?_))
    · refine ⟨_, rfl, ?_⟩
      obtain ⟨ji, hi9, rfl⟩ := pu_of (x := i) (n := 9) (by omega) (by omega) (by omega)
      have zji : (nI ji).toInt = ji := nI_toInt (by omega)
      have yi : (nI ji).toInt.toNat = ji := by omega
      refine gk_if_eq dX11_weight_17 (tgt := 34) (pc' := 20) (by decide) rfl (fun c => absurd c (by decide)) (fun _ => ?_)
      refine gk_iload3 dX11_weight_20 (pc' := 21) rfl ?_
      refine gk_i2l dX11_weight_21 (pc' := 22) rfl ?_
      refine gk_ldc2 dX11_weight_22 (pc' := 25) rfl gw_949 ?_
      refine gk_ldc2 dX11_weight_25 (pc' := 28) rfl gw_950 ?_
      refine gk_cS1_3 mz_Mo_in gw_886 dX11_weight_28 (pc' := 31) rfl (Nat.le_of_ble_eq_true rfl) (sp_Mo_in (fun u28 v28 => ?_) (fun n28 => ?_))
      · refine ⟨_, rfl, ?_⟩
        refine gk_if_ne dX11_weight_31 (tgt := 37) (pc' := 34) (by decide) rfl (fun _ => ?_) (fun c => absurd c (by decide))
        refine gk_aload0 dX11_weight_37 (pc' := 38) rfl ?_
        refine gk_getf (fs := [_, _, _, _, _, _, _, _, _, _, _, _, _, _, _, _, _, _, _, _, _, _, _, _, _, _]) gF_Mo_17 dX11_weight_38 (pc' := 41) rfl (by exact (mkJ)) rfl ?_
        refine gk_iload1 dX11_weight_41 (pc' := 42) rfl ?_
        refine gk_iald (t0 := 0) rfl dX11_weight_42 (pc' := 43) rfl (by exact (mkA3)) (vp_in_nI (by omega) (by decide)) ?_
        rw [nI_clamp (by omega)]
        rw [fj.1]
        refine gk_iconst (v := 4) dX11_weight_43 (pc' := 44) rfl (by decide) ?_
        refine gk_icmp_eq dX11_weight_44 (tgt := 50) (pc' := 47) (by decide) rfl (fun c44 => ?_) (fun c44 => ?_)
        · have k4 : S.2.1.2.1 j = 4 := c44
          refine gk_aload0 dX11_weight_50 (pc' := 51) rfl ?_
          refine gk_getf (fs := [_, _, _, _, _, _, _, _, _, _, _, _, _, _, _, _, _, _, _, _, _, _, _, _, _, _]) gF_Mo_29 dX11_weight_51 (pc' := 54) rfl (by exact (mkJ)) rfl ?_
          refine gk_bipush (v := nI 9) dX11_weight_54 (pc' := 56) rfl (by decide) ?_
          refine gk_iload1 dX11_weight_56 (pc' := 57) rfl ?_
          refine gk_imulN dX11_weight_57 (pc' := 58) rfl ?_
          refine gk_iload2 dX11_weight_58 (pc' := 59) rfl ?_
          refine gk_iaddN dX11_weight_59 (pc' := 60) rfl ?_
          refine gk_iald (t0 := 0) rfl dX11_weight_60 (pc' := 61) rfl (by exact (mkA7)) (vp_in_nI (by omega) (by decide)) ?_
          rw [nI_clamp (by omega)]
          rw [fj.2.2.2.2 k4 ji hi9]
          refine gk_istore4 dX11_weight_61 (pc' := 63) rfl (by decide) rfl ?_
          refine gk_aload0 dX11_weight_63 (pc' := 64) rfl ?_
          refine gk_getf (fs := [_, _, _, _, _, _, _, _, _, _, _, _, _, _, _, _, _, _, _, _, _, _, _, _, _, _]) gF_Mo_29 dX11_weight_64 (pc' := 67) rfl (by exact (mkJ)) rfl ?_
          refine gk_bipush (v := nI 9) dX11_weight_67 (pc' := 69) rfl (by decide) ?_
          refine gk_iload1 dX11_weight_69 (pc' := 70) rfl ?_
          refine gk_imulN dX11_weight_70 (pc' := 71) rfl ?_
          refine gk_iload2 dX11_weight_71 (pc' := 72) rfl ?_
          refine gk_iaddN dX11_weight_72 (pc' := 73) rfl ?_
          refine gk_iload3 dX11_weight_73 (pc' := 74) rfl ?_
          refine gk_iast (t0 := 0) rfl dX11_weight_74 (pc' := 75) rfl (by exact (mkA7)) (vp_in_nI (by omega) (by decide)) ?_
          rw [nI_clamp (by omega), mkS7]
          refine gk_iload4 dX11_weight_75 (pc' := 77) rfl ?_
          refine gk_iret dX11_weight_77 rfl (hE _ (S.1, wtF S.2.1 j ji v, S.2.2) _ _ ((if_pos ⟨by omega, by omega, by omega⟩).trans ((if_pos (by rw [yj]; exact k4)).trans (by rw [yj, yi]))) ⟨s1, s2, ⟨s3, s4, s5, s6⟩, fun i hi => ?_, s8⟩)
          have fi := s7 i hi
          refine ⟨fi.1, fi.2.1, fi.2.2.1, fi.2.2.2.1, fun h4 n hn => ?_⟩
          show uA A 7 (upd (A 7) (9 * j + ji) v) 7 (9 * i + n) = (if i = j then upd (S.2.1.2.2.2.2.2 j) ji v else S.2.1.2.2.2.2.2 i) n
          rw [uA_s]
          by_cases e : i = j
          · subst e
            rw [if_pos rfl]
            by_cases e2 : n = ji
            · subst e2; rw [pk_us, pk_us]
            · rw [pk_un e2, pk_un (by omega)]; exact fi.2.2.2.2 h4 n hn
          · rw [if_neg e, pk_un (by omega)]; exact fi.2.2.2.2 h4 n hn
        · have k4 : ¬ S.2.1.2.1 j = 4 := c44
          refine gk_ldc dX11_weight_47 (pc' := 49) rfl gw_869 ?_
          refine gk_iret dX11_weight_49 rfl (hB _ ((if_pos ⟨by omega, by omega, by omega⟩).trans (if_neg (by rw [yj]; exact k4))))
      · refine ⟨_, rfl, ?_⟩
        refine gk_if_ne dX11_weight_31 (tgt := 37) (pc' := 34) (by decide) rfl (fun c => absurd c (by decide)) (fun _ => ?_)
        refine gk_ldc dX11_weight_34 (pc' := 36) rfl gw_891 ?_
        refine gk_iret dX11_weight_36 rfl (hB _ (if_neg (fun z => by first | exact n2 z.1 | (have := z.2.1; have := z.2.2; omega))))
    · refine ⟨_, rfl, ?_⟩
      refine gk_if_eq dX11_weight_17 (tgt := 34) (pc' := 20) (by decide) rfl (fun _ => ?_) (fun c => absurd c (by decide))
      refine gk_ldc dX11_weight_34 (pc' := 36) rfl gw_891 ?_
      refine gk_iret dX11_weight_36 rfl (hB _ (if_neg (fun z => by first | exact n2 z.1 | (have := z.2.1; have := z.2.2; omega))))
  · refine ⟨_, rfl, ?_⟩
    refine gk_if_eq dX11_weight_5 (tgt := 34) (pc' := 8) (by decide) rfl (fun _ => ?_) (fun c => absurd c (by decide))
    refine gk_ldc dX11_weight_34 (pc' := 36) rfl gw_891 ?_
    refine gk_iret dX11_weight_36 rfl (hB _ (if_neg (fun z => by first | exact n2 z.1 | (have := z.2.1; have := z.2.2; omega))))
end MoG
