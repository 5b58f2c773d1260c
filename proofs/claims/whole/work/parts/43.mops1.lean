/-! ===== the reference: picture, put, feed, at, about, unlike, isOn, count, byteTo ===== -/
theorem sn_congr {w t : Nat} {p q : Nat → Int32} {x y : Int} {e : Int32} (h1 : 1 ≤ w) (h2 : 1 ≤ t) (he : ∀ i, i < w * t → p i = q i) : sn w t p x y e = sn w t q x y e := by
  unfold sn
  by_cases z : 0 ≤ x ∧ x < w ∧ 0 ≤ y ∧ y < t
  · rw [if_pos z, if_pos z]; exact he _ (place_lt (by omega) (by omega))
  · rw [if_neg z, if_neg z]
    by_cases z3 : e = 3
    · rw [if_pos z3, if_pos z3]
    · rw [if_neg z3, if_neg z3]; exact he _ (place_lt (fo_lt h1) (fo_lt h2))
theorem lk_px {A : MoA} {j : Nat} {c : Pc} (hp : pRow (A 1) (259 * j) c) (ar : c.2.1 * c.2.2.1 ≤ 256) {i : Nat} (hi : i < c.2.1 * c.2.2.1) : lkA A j 9 i = c.2.2.2 i := by
  show uA A 9 _ 9 i = _
  rw [uA_s, if_pos (by omega)]
  exact hp.2.2.2 i hi
theorem lkZ_n {Z : MoZ} {w t i : Nat} (hi : i ≤ 3) : lkZ Z w t i = Z i := by
  unfold lkZ
  rw [pk_un (by omega), pk_un (by omega)]
section MoE
variable {X : gX} {d : Nat} {b : Nat × Nat} {h h0 : gk_H} {m : Nat} {A : MoA} {Z : MoZ} {Q : Option Value → gk_H → Prop} {S : St}
theorem mo_picture {p k w t : Int32} (hM : Mod X h m S) (hw : wfS S) (hQ : ∀ h', Mod X h' m (oPicture S p k w t).2 → frO m h h' → Q (some (.int (oPicture S p k w t).1)) h') : Gm (kx X) mt_Mo_picture (d + 10) b [.ref m, .int p, .int k, .int w, .int t] h Q := by
  obtain ⟨h0, A, Z, rfl, hS⟩ := hM
  have hE : ∀ a0 S' A' Z', oPicture S p k w t = (a0, S') → MoS A' Z' S' → Q (some (.int a0)) (mkH X h0 m A' Z') := fun a0 S' A' Z' e0 h1 => by
    have q := hQ (mkH X h0 m A' Z')
    rw [e0] at q
    exact q ⟨h0, A', Z', rfl, h1⟩ mk_fr
  have hB : ∀ a0, oPicture S p k w t = (a0, S) → Q (some (.int a0)) (mkH X h0 m A Z) := fun a0 e0 => hE a0 S A Z e0 hS
  have z0 : (0 : Int32).toInt = 0 := rfl
  have zm : (-1 : Int64).toInt = -1 := rfl
  have z1 : (1 : Int64).toInt = 1 := rfl
  have z16 : (16 : Int64).toInt = 16 := rfl
  have zk := i2l_i k
  have zw := i2l_i w
  have zt := i2l_i t
  have e1 : k = -1 ↔ k.toInt = -1 := ⟨fun e => by rw [e]; rfl, fun e => pu_inj (e.trans rfl)⟩
  have go : ∀ j1, j1 < 8 → p = nI j1 → (-1 ≤ k.toInt ∧ k.toInt ≤ 1) → (0 ≤ k.toInt → (1 ≤ w.toInt ∧ w.toInt ≤ 16) ∧ (1 ≤ t.toInt ∧ t.toInt ≤ 16)) → G (kx X) mt_Mo_picture (d + 10) b 51 [some (.ref m), some (.int p), some (.int k), some (.int w), some (.int t)] [] (mkH X h0 m A Z) Q := by
    intro j1 hj1 ep hk hwt
    subst ep
    have zj1 : (nI j1).toInt = j1 := nI_toInt (by omega)
    have yj1 : (nI j1).toInt.toNat = j1 := by omega
    by_cases hn : k = -1
    · have hn' := e1.mp hn
      refine gk_aload0 dX11_picture_51 (pc' := 52) rfl ?_
      refine gk_cV0_0 mv_Mo_begin gw_892 dX11_picture_52 (pc' := 55) rfl (Nat.le_of_ble_eq_true rfl) (by exact (mkJ)) (sp_Mo_begin hS hw.1 (fun A1 Z1 a1 a2 hBg => ?_))
      refine ⟨rfl, ?_⟩
      refine gk_aload0 dX11_picture_55 (pc' := 56) rfl ?_
      refine gk_iload1 dX11_picture_56 (pc' := 57) rfl ?_
      refine gk_iload2 dX11_picture_57 (pc' := 58) rfl ?_
      refine gk_iload2 dX11_picture_58 (pc' := 59) rfl ?_
      refine gk_if_ge dX11_picture_59 (tgt := 66) (pc' := 62) (by decide) rfl (fun c59 => absurd (pu_le.mp c59) (by omega)) (fun c59 => ?_)
      refine gk_iconst (v := 0) dX11_picture_62 (pc' := 63) rfl (by decide) ?_
      refine gk_goto dX11_picture_63 (tgt := 67) (by decide) ?_
      refine gk_iload2 dX11_picture_67 (pc' := 68) rfl ?_
      refine gk_if_ge dX11_picture_68 (tgt := 75) (pc' := 71) (by decide) rfl (fun c68 => absurd (pu_le.mp c68) (by omega)) (fun c68 => ?_)
      refine gk_iconst (v := 0) dX11_picture_71 (pc' := 72) rfl (by decide) ?_
      refine gk_goto dX11_picture_72 (tgt := 77) (by decide) ?_
      refine gk_cV0_4 mv_Mo_become gw_897 dX11_picture_77 (pc' := 80) rfl (Nat.le_of_ble_eq_true rfl) (by exact (mkJ)) (sp_Mo_become hj1 ?_)
      refine ⟨rfl, ?_⟩
      refine gk_iconst (v := 0) dX11_picture_80 (pc' := 81) rfl (by decide) ?_
      refine gk_iret dX11_picture_81 rfl (hE 0 (kP S j1 (-1, 0, 0, fun _ => 0)) _ _ ((if_pos ⟨by omega, by omega⟩).trans ((if_pos hn).trans (by rw [yj1]))) (hBg.actP hw.1 (by rw [a1 1 (by decide)]; exact hS.1) (fun i h1 h2 => uA_n (by omega)) (fun i hi => rfl) hj1 (by rw [uA_s, hn]; exact bcF_row (w := 0) (t := 0) (by omega)) (fun q hq => by rw [uA_s]; exact bcF_out q hq)))
    · have hk0 : 0 ≤ k.toInt := by have : ¬ k.toInt = -1 := fun q => hn (e1.mpr q); omega
      obtain ⟨jw, hjw, rfl⟩ := pu_of (x := w) (n := 17) (by omega) (by omega) (by omega)
      obtain ⟨jt, hjt, rfl⟩ := pu_of (x := t) (n := 17) (by omega) (by omega) (by omega)
      have yw := nI_toInt (n := jw) (by omega)
      have yt := nI_toInt (n := jt) (by omega)
      refine gk_aload0 dX11_picture_51 (pc' := 52) rfl ?_
      refine gk_cV0_0 mv_Mo_begin gw_892 dX11_picture_52 (pc' := 55) rfl (Nat.le_of_ble_eq_true rfl) (by exact (mkJ)) (sp_Mo_begin hS hw.1 (fun A1 Z1 a1 a2 hBg => ?_))
      refine ⟨rfl, ?_⟩
      refine gk_aload0 dX11_picture_55 (pc' := 56) rfl ?_
      refine gk_iload1 dX11_picture_56 (pc' := 57) rfl ?_
      refine gk_iload2 dX11_picture_57 (pc' := 58) rfl ?_
      refine gk_iload2 dX11_picture_58 (pc' := 59) rfl ?_
      refine gk_if_ge dX11_picture_59 (tgt := 66) (pc' := 62) (by decide) rfl (fun c59 => ?_) (fun c59 => absurd (pu_le.mpr (by omega)) c59)
      refine gk_iload3 dX11_picture_66 (pc' := 67) rfl ?_
      refine gk_iload2 dX11_picture_67 (pc' := 68) rfl ?_
      refine gk_if_ge dX11_picture_68 (tgt := 75) (pc' := 71) (by decide) rfl (fun c68 => ?_) (fun c68 => absurd (pu_le.mpr (by omega)) c68)
      refine gk_iload4 dX11_picture_75 (pc' := 77) rfl ?_
      refine gk_cV0_4 mv_Mo_become gw_897 dX11_picture_77 (pc' := 80) rfl (Nat.le_of_ble_eq_true rfl) (by exact (mkJ)) (sp_Mo_become hj1 ?_)
      refine ⟨rfl, ?_⟩
      refine gk_iconst (v := 0) dX11_picture_80 (pc' := 81) rfl (by decide) ?_
      refine gk_iret dX11_picture_81 rfl (hE 0 (kP S j1 (k, jw, jt, fun _ => 0)) _ _ ((if_pos ⟨by omega, by omega⟩).trans ((if_neg hn).trans ((if_pos ⟨by omega, by omega⟩).trans (by rw [yj1, nI_nat (j := jw) (by omega), nI_nat (j := jt) (by omega)])))) (hBg.actP hw.1 (by rw [a1 1 (by decide)]; exact hS.1) (fun i h1 h2 => uA_n (by omega)) (fun i hi => rfl) hj1 (by rw [uA_s]; exact bcF_row (area_le (by omega) (by omega))) (fun q hq => by rw [uA_s]; exact bcF_out q hq)))
  refine Gm.enter (L := [some (.ref m), some (.int p), some (.int k), some (.int w), some (.int t)]) (by decide) (fun _ => trivial) (Nat.le_of_ble_eq_true rfl) rfl ?_
  refine gk_iload1 dX11_picture_0 (pc' := 1) rfl ?_
  refine gk_cS1_1 mz_Mo_isPicture gw_882 dX11_picture_1 (pc' := 4) rfl (Nat.le_of_ble_eq_true rfl) (sp_Mo_isPicture (fun j1 hj1 ej1 => ?_) (fun n1 => ?_))
  · refine ⟨_, rfl, ?_⟩
    subst ej1
    have zj1 : (nI j1).toInt = j1 := nI_toInt (by omega)
    have yj1 : (nI j1).toInt.toNat = j1 := by omega
    have pr1 := hS.picS hj1
    have ok1 := hw.okp hj1
    have wt1 := ok1.wt
    have ar1 := ok1.ar
    refine gk_if_eq dX11_picture_4 (tgt := 48) (pc' := 7) (by decide) rfl (fun c => absurd c (by decide)) (fun _ => ?_)
    refine gk_iload2 dX11_picture_7 (pc' := 8) rfl ?_
    refine gk_i2l dX11_picture_8 (pc' := 9) rfl ?_
    refine gk_ldc2 dX11_picture_9 (pc' := 12) rfl gw_889 ?_
    refine gk_lconst (v := 1) dX11_picture_12 (pc' := 13) rfl (by decide) ?_
    refine gk_cS1_3 mz_Mo_in gw_886 dX11_picture_13 (pc' := 16) rfl (Nat.le_of_ble_eq_true rfl) (sp_Mo_in (fun u13 v13 => ?_) (fun n13 => ?_))
    · refine ⟨_, rfl, ?_⟩
      refine gk_if_eq dX11_picture_16 (tgt := 48) (pc' := 19) (by decide) rfl (fun c => absurd c (by decide)) (fun _ => ?_)
      refine gk_iload2 dX11_picture_19 (pc' := 20) rfl ?_
      refine gk_if_lt dX11_picture_20 (tgt := 51) (pc' := 23) (by decide) rfl (fun c20 => ?_) (fun c20 => ?_)
      · rw [pu_lt, z0] at c20
        exact go j1 hj1 rfl ⟨by omega, by omega⟩ (by omega)
      · rw [pu_lt, z0] at c20
        refine gk_iload3 dX11_picture_23 (pc' := 24) rfl ?_
        refine gk_i2l dX11_picture_24 (pc' := 25) rfl ?_
        refine gk_lconst (v := 1) dX11_picture_25 (pc' := 26) rfl (by decide) ?_
        refine gk_ldc2 dX11_picture_26 (pc' := 29) rfl gw_890 ?_
        refine gk_cS1_3 mz_Mo_in gw_886 dX11_picture_29 (pc' := 32) rfl (Nat.le_of_ble_eq_true rfl) (sp_Mo_in (fun u29 v29 => ?_) (fun n29 => ?_))
        · refine ⟨_, rfl, ?_⟩
          refine gk_if_eq dX11_picture_32 (tgt := 48) (pc' := 35) (by decide) rfl (fun c => absurd c (by decide)) (fun _ => ?_)
          refine gk_iload4 dX11_picture_35 (pc' := 37) rfl ?_
          refine gk_i2l dX11_picture_37 (pc' := 38) rfl ?_
          refine gk_lconst (v := 1) dX11_picture_38 (pc' := 39) rfl (by decide) ?_
          refine gk_ldc2 dX11_picture_39 (pc' := 42) rfl gw_890 ?_
          refine gk_cS1_3 mz_Mo_in gw_886 dX11_picture_42 (pc' := 45) rfl (Nat.le_of_ble_eq_true rfl) (sp_Mo_in (fun u42 v42 => ?_) (fun n42 => ?_))
          · refine ⟨_, rfl, ?_⟩
            refine gk_if_ne dX11_picture_45 (tgt := 51) (pc' := 48) (by decide) rfl (fun _ => ?_) (fun c => absurd c (by decide))
            exact go j1 hj1 rfl ⟨by omega, by omega⟩ (by omega)
          · refine ⟨_, rfl, ?_⟩
            refine gk_if_ne dX11_picture_45 (tgt := 51) (pc' := 48) (by decide) rfl (fun c => absurd c (by decide)) (fun _ => ?_)
            refine gk_ldc dX11_picture_48 (pc' := 50) rfl gw_891 ?_
            refine gk_iret dX11_picture_50 rfl (hB _ (by first | exact if_neg (by omega) | exact (if_pos (by omega)).trans ((if_neg (fun q => by have := e1.mp q; omega)).trans (if_neg (by omega)))))
        · refine ⟨_, rfl, ?_⟩
          refine gk_if_eq dX11_picture_32 (tgt := 48) (pc' := 35) (by decide) rfl (fun _ => ?_) (fun c => absurd c (by decide))
          refine gk_ldc dX11_picture_48 (pc' := 50) rfl gw_891 ?_
          refine gk_iret dX11_picture_50 rfl (hB _ (by first | exact if_neg (by omega) | exact (if_pos (by omega)).trans ((if_neg (fun q => by have := e1.mp q; omega)).trans (if_neg (by omega)))))
    · refine ⟨_, rfl, ?_⟩
      refine gk_if_eq dX11_picture_16 (tgt := 48) (pc' := 19) (by decide) rfl (fun _ => ?_) (fun c => absurd c (by decide))
      refine gk_ldc dX11_picture_48 (pc' := 50) rfl gw_891 ?_
      refine gk_iret dX11_picture_50 rfl (hB _ (by first | exact if_neg (by omega) | exact (if_pos (by omega)).trans ((if_neg (fun q => by have := e1.mp q; omega)).trans (if_neg (by omega)))))
  · refine ⟨_, rfl, ?_⟩
    refine gk_if_eq dX11_picture_4 (tgt := 48) (pc' := 7) (by decide) rfl (fun _ => ?_) (fun c => absurd c (by decide))
    refine gk_ldc dX11_picture_48 (pc' := 50) rfl gw_891 ?_
    refine gk_iret dX11_picture_50 rfl (hB _ (by first | exact if_neg (by omega) | exact (if_pos (by omega)).trans ((if_neg (fun q => by have := e1.mp q; omega)).trans (if_neg (by omega)))))
theorem mo_put {p x y v : Int32} (hM : Mod X h m S) (hw : wfS S) (hQ : ∀ h', Mod X h' m (oPut S p x y v).2 → frO m h h' → Q (some (.int (oPut S p x y v).1)) h') : Gm (kx X) mt_Mo_put (d + 10) b [.ref m, .int p, .int x, .int y, .int v] h Q := by
  obtain ⟨h0, A, Z, rfl, hS⟩ := hM
  have hE : ∀ a0 S' A' Z', oPut S p x y v = (a0, S') → MoS A' Z' S' → Q (some (.int a0)) (mkH X h0 m A' Z') := fun a0 S' A' Z' e0 h1 => by
    have q := hQ (mkH X h0 m A' Z')
    rw [e0] at q
    exact q ⟨h0, A', Z', rfl, h1⟩ mk_fr
  have hB : ∀ a0, oPut S p x y v = (a0, S) → Q (some (.int a0)) (mkH X h0 m A Z) := fun a0 e0 => hE a0 S A Z e0 hS
  have zv := i2l_i v
  refine Gm.enter (L := [some (.ref m), some (.int p), some (.int x), some (.int y), some (.int v), none, none]) (by decide) (fun _ => trivial) (Nat.le_of_ble_eq_true rfl) rfl ?_
  refine gk_iload1 dX11_put_0 (pc' := 1) rfl ?_
  refine gk_cS1_1 mz_Mo_isPicture gw_882 dX11_put_1 (pc' := 4) rfl (Nat.le_of_ble_eq_true rfl) (sp_Mo_isPicture (fun j1 hj1 ej1 => ?_) (fun n1 => ?_))
  · refine ⟨_, rfl, ?_⟩
    subst ej1
    have zj1 : (nI j1).toInt = j1 := nI_toInt (by omega)
    have yj1 : (nI j1).toInt.toNat = j1 := by omega
    have pr1 := hS.picS hj1
    have ok1 := hw.okp hj1
    have wt1 := ok1.wt
    have ar1 := ok1.ar
    refine gk_if_eq dX11_put_4 (tgt := 25) (pc' := 7) (by decide) rfl (fun c => absurd c (by decide)) (fun _ => ?_)
    refine gk_aload0 dX11_put_7 (pc' := 8) rfl ?_
    refine gk_iload1 dX11_put_8 (pc' := 9) rfl ?_
    refine gk_cV1_1 mv_Mo_isThere gw_905 dX11_put_9 (pc' := 12) rfl (Nat.le_of_ble_eq_true rfl) (by exact (mkJ)) (sp_Mo_isThere pr1 hj1 ok1 (fun k9 => ?_) (fun k9 => ?_))
    · refine ⟨_, rfl, ?_⟩
      have okk := ok1.kind k9
      refine gk_if_eq dX11_put_12 (tgt := 25) (pc' := 15) (by decide) rfl (fun c => absurd c (by decide)) (fun _ => ?_)
      refine gk_aload0 dX11_put_15 (pc' := 16) rfl ?_
      refine gk_iload1 dX11_put_16 (pc' := 17) rfl ?_
      refine gk_iload2 dX11_put_17 (pc' := 18) rfl ?_
      refine gk_iload3 dX11_put_18 (pc' := 19) rfl ?_
      refine gk_cV1_3 mv_Mo_isWithin gw_909 dX11_put_19 (pc' := 22) rfl (Nat.le_of_ble_eq_true rfl) (by exact (mkJ)) (sp_Mo_isWithin pr1 hj1 wt1 (fun i j ei ej hi hj => ?_) (fun n19 => ?_))
      · refine ⟨_, rfl, ?_⟩
        subst ei ej
        have zi : (nI i).toInt = i := nI_toInt (by omega)
        have zj : (nI j).toInt = j := nI_toInt (by omega)
        have yi : (nI i).toInt.toNat = i := by omega
        have yj : (nI j).toInt.toNat = j := by omega
        have pl := place_lt hi hj
        have zl := i2l_i (loK (pcS S (nI j1)).1)
        have zh := i2l_i (hiK (pcS S (nI j1)).1)
        refine gk_if_ne dX11_put_22 (tgt := 28) (pc' := 25) (by decide) rfl (fun _ => ?_) (fun c => absurd c (by decide))
        refine gk_iload4 dX11_put_28 (pc' := 30) rfl ?_
        refine gk_i2l dX11_put_30 (pc' := 31) rfl ?_
        refine gk_aload0 dX11_put_31 (pc' := 32) rfl ?_
        refine gk_iload1 dX11_put_32 (pc' := 33) rfl ?_
        refine gk_cV1_1 mv_Mo_kindOf gw_921 dX11_put_33 (pc' := 36) rfl (Nat.le_of_ble_eq_true rfl) (by exact (mkJ)) (sp_Mo_kindOf pr1 hj1 ?_)
        refine ⟨_, rfl, ?_⟩
        refine gk_cS1_1 mz_Mo_least gw_925 dX11_put_36 (pc' := 39) rfl (Nat.le_of_ble_eq_true rfl) (sp_Mo_least okk.1 ?_)
        refine ⟨_, rfl, ?_⟩
        refine gk_i2l dX11_put_39 (pc' := 40) rfl ?_
        refine gk_aload0 dX11_put_40 (pc' := 41) rfl ?_
        refine gk_iload1 dX11_put_41 (pc' := 42) rfl ?_
        refine gk_cV1_1 mv_Mo_kindOf gw_921 dX11_put_42 (pc' := 45) rfl (Nat.le_of_ble_eq_true rfl) (by exact (mkJ)) (sp_Mo_kindOf pr1 hj1 ?_)
        refine ⟨_, rfl, ?_⟩
        refine gk_cS1_1 mz_Mo_greatest gw_928 dX11_put_45 (pc' := 48) rfl (Nat.le_of_ble_eq_true rfl) (sp_Mo_greatest okk.1 ?_)
        refine ⟨_, rfl, ?_⟩
        refine gk_i2l dX11_put_48 (pc' := 49) rfl ?_
        refine gk_cS1_3 mz_Mo_in gw_886 dX11_put_49 (pc' := 52) rfl (Nat.le_of_ble_eq_true rfl) (sp_Mo_in (fun u49 v49 => ?_) (fun n49 => ?_))
        · refine ⟨_, rfl, ?_⟩
          refine gk_if_ne dX11_put_52 (tgt := 58) (pc' := 55) (by decide) rfl (fun _ => ?_) (fun c => absurd c (by decide))
          refine gk_aload0 dX11_put_58 (pc' := 59) rfl ?_
          refine gk_cV0_0 mv_Mo_begin gw_892 dX11_put_59 (pc' := 62) rfl (Nat.le_of_ble_eq_true rfl) (by exact (mkJ)) (sp_Mo_begin hS hw.1 (fun A1 Z1 a1 a2 hBg => ?_))
          refine ⟨rfl, ?_⟩
          have pr2 : pRow (A1 1) (259 * j1) (pcS S (nI j1)) := by rw [a1 1 (by decide)]; exact pr1
          refine gk_aload0 dX11_put_62 (pc' := 63) rfl ?_
          refine gk_iload1 dX11_put_63 (pc' := 64) rfl ?_
          refine gk_iload2 dX11_put_64 (pc' := 65) rfl ?_
          refine gk_iload3 dX11_put_65 (pc' := 66) rfl ?_
          refine gk_cV1_3 mv_Mo_pixelAt gw_931 dX11_put_66 (pc' := 69) rfl (Nat.le_of_ble_eq_true rfl) (by exact (mkJ)) (sp_Mo_pixelAt pr2 hj1 ?_)
          refine ⟨_, rfl, ?_⟩
          refine gk_istore5 dX11_put_69 (pc' := 71) rfl (by decide) rfl ?_
          refine gk_aload0 dX11_put_71 (pc' := 72) rfl ?_
          refine gk_getf (fs := [_, _, _, _, _, _, _, _, _, _, _, _, _, _, _, _, _, _, _, _, _, _, _, _, _, _]) gF_Mo_7 dX11_put_72 (pc' := 75) rfl (by exact (mkJ)) rfl ?_
          refine gk_iload5 dX11_put_75 (pc' := 77) rfl ?_
          refine gk_iald (t0 := 0) rfl dX11_put_77 (pc' := 78) rfl (by exact (mkA1)) (vp_in_nI (by omega) (by decide)) ?_
          rw [nI_clamp (by omega)]
          refine gk_istore6 dX11_put_78 (pc' := 80) rfl (by decide) rfl ?_
          refine gk_aload0 dX11_put_80 (pc' := 81) rfl ?_
          refine gk_getf (fs := [_, _, _, _, _, _, _, _, _, _, _, _, _, _, _, _, _, _, _, _, _, _, _, _, _, _]) gF_Mo_7 dX11_put_81 (pc' := 84) rfl (by exact (mkJ)) rfl ?_
          refine gk_iload5 dX11_put_84 (pc' := 86) rfl ?_
          refine gk_iload4 dX11_put_86 (pc' := 88) rfl ?_
          refine gk_iast (t0 := 0) rfl dX11_put_88 (pc' := 89) rfl (by exact (mkA1)) (vp_in_nI (by omega) (by decide)) ?_
          rw [nI_clamp (by omega), mkS1]
          refine gk_iload6 dX11_put_89 (pc' := 91) rfl ?_
          refine gk_iret dX11_put_91 rfl ?_
          have ev : A1 1 (259 * j1 + 3 + j * (pcS S (nI j1)).2.1 + i) = (pcS S (nI j1)).2.2.2 (j * (pcS S (nI j1)).2.1 + i) := by rw [Nat.add_assoc (259 * j1 + 3)]; exact pr2.2.2.2 _ pl
          rw [ev]
          refine hE _ (kP S j1 ((pcS S (nI j1)).1, (pcS S (nI j1)).2.1, (pcS S (nI j1)).2.2.1, upd (pcS S (nI j1)).2.2.2 (j * (pcS S (nI j1)).2.1 + i) v)) _ _ ((if_pos ⟨by omega, by omega⟩).trans ((if_pos ⟨by omega, by omega⟩).trans (by rw [yi, yj, yj1]))) (hBg.actP hw.1 (by rw [a1 1 (by decide)]; exact hS.1) (fun i h1 h2 => uA_n (by omega)) (fun i hi => rfl) hj1 ?_ (fun q hq => by rw [uA_s, pk_un (by omega)]))
          rw [uA_s]
          refine ⟨?_, ?_, ?_, fun n hn => ?_⟩
          · rw [pk_un (by omega)]; exact pr2.1
          · rw [pk_un (by omega)]; exact pr2.2.1
          · rw [pk_un (by omega)]; exact pr2.2.2.1
          · show _ = upd (pcS S (nI j1)).2.2.2 (j * (pcS S (nI j1)).2.1 + i) v n
            by_cases e : n = j * (pcS S (nI j1)).2.1 + i
            · subst e; rw [pk_us, ← Nat.add_assoc, pk_us]
            · rw [pk_un e, pk_un (by omega)]; exact pr2.2.2.2 n hn
        · refine ⟨_, rfl, ?_⟩
          refine gk_if_ne dX11_put_52 (tgt := 58) (pc' := 55) (by decide) rfl (fun c => absurd c (by decide)) (fun _ => ?_)
          refine gk_ldc dX11_put_55 (pc' := 57) rfl gw_869 ?_
          refine gk_iret dX11_put_57 rfl (hB _ ((if_pos ⟨by omega, by omega⟩).trans (if_neg (by omega))))
      · refine ⟨_, rfl, ?_⟩
        refine gk_if_ne dX11_put_22 (tgt := 28) (pc' := 25) (by decide) rfl (fun c => absurd c (by decide)) (fun _ => ?_)
        refine gk_ldc dX11_put_25 (pc' := 27) rfl gw_891 ?_
        refine gk_iret dX11_put_27 rfl (hB _ (if_neg (fun z => by have := z.1; have := z.2; omega)))
    · refine ⟨_, rfl, ?_⟩
      have okm : (pcS S (nI j1)).2.1 = 0 := ok1.elim (fun z => z.2.1) (fun z => absurd k9 (by rcases z.1 with y | y <;> rw [y] <;> decide))
      refine gk_if_eq dX11_put_12 (tgt := 25) (pc' := 15) (by decide) rfl (fun _ => ?_) (fun c => absurd c (by decide))
      refine gk_ldc dX11_put_25 (pc' := 27) rfl gw_891 ?_
      refine gk_iret dX11_put_27 rfl (hB _ (if_neg (fun z => by have := z.1; have := z.2; omega)))
  · refine ⟨_, rfl, ?_⟩
    refine gk_if_eq dX11_put_4 (tgt := 25) (pc' := 7) (by decide) rfl (fun _ => ?_) (fun c => absurd c (by decide))
    refine gk_ldc dX11_put_25 (pc' := 27) rfl gw_891 ?_
    refine gk_iret dX11_put_27 rfl (hB _ (if_neg (fun z => by have := z.1; have := z.2; omega)))
theorem mo_at {p x y e : Int32} (hM : Mod X h m S) (hw : wfS S) (hQ : ∀ h', Mod X h' m (oAt S p x y e).2 → frO m h h' → Q (some (.int (oAt S p x y e).1)) h') : Gm (kx X) mt_Mo_at (d + 10) b [.ref m, .int p, .int x, .int y, .int e] h Q := by
  obtain ⟨h0, A, Z, rfl, hS⟩ := hM
  have hE : ∀ a0 S' A' Z', oAt S p x y e = (a0, S') → MoS A' Z' S' → Q (some (.int a0)) (mkH X h0 m A' Z') := fun a0 S' A' Z' e0 h1 => by
    have q := hQ (mkH X h0 m A' Z')
    rw [e0] at q
    exact q ⟨h0, A', Z', rfl, h1⟩ mk_fr
  have hB : ∀ a0, oAt S p x y e = (a0, S) → Q (some (.int a0)) (mkH X h0 m A Z) := fun a0 e0 => hE a0 S A Z e0 hS
  have zx := i2l_i x
  have zy := i2l_i y
  have ze := i2l_i e
  have zm : (-1000 : Int64).toInt = -1000 := rfl
  have zk : (1000 : Int64).toInt = 1000 := rfl
  have z0 : (0 : Int64).toInt = 0 := rfl
  have z3 : (3 : Int64).toInt = 3 := rfl
  refine Gm.enter (L := [some (.ref m), some (.int p), some (.int x), some (.int y), some (.int e)]) (by decide) (fun _ => trivial) (Nat.le_of_ble_eq_true rfl) rfl ?_
  refine gk_iload1 dX11_at_0 (pc' := 1) rfl ?_
  refine gk_cS1_1 mz_Mo_isPicture gw_882 dX11_at_1 (pc' := 4) rfl (Nat.le_of_ble_eq_true rfl) (sp_Mo_isPicture (fun j1 hj1 ej1 => ?_) (fun n1 => ?_))
  · refine ⟨_, rfl, ?_⟩
    subst ej1
    have zj1 : (nI j1).toInt = j1 := nI_toInt (by omega)
    have yj1 : (nI j1).toInt.toNat = j1 := by omega
    have pr1 := hS.picS hj1
    have ok1 := hw.okp hj1
    have wt1 := ok1.wt
    have ar1 := ok1.ar
    refine gk_if_eq dX11_at_4 (tgt := 56) (pc' := 7) (by decide) rfl (fun c => absurd c (by decide)) (fun _ => ?_)
    refine gk_aload0 dX11_at_7 (pc' := 8) rfl ?_
    refine gk_iload1 dX11_at_8 (pc' := 9) rfl ?_
    refine gk_cV1_1 mv_Mo_isThere gw_905 dX11_at_9 (pc' := 12) rfl (Nat.le_of_ble_eq_true rfl) (by exact (mkJ)) (sp_Mo_isThere pr1 hj1 ok1 (fun k9 => ?_) (fun k9 => ?_))
    · refine ⟨_, rfl, ?_⟩
      have okk := ok1.kind k9
      refine gk_if_eq dX11_at_12 (tgt := 56) (pc' := 15) (by decide) rfl (fun c => absurd c (by decide)) (fun _ => ?_)
      refine gk_iload2 dX11_at_15 (pc' := 16) rfl ?_
      refine gk_i2l dX11_at_16 (pc' := 17) rfl ?_
      refine gk_ldc2 dX11_at_17 (pc' := 20) rfl gw_949 ?_
      refine gk_ldc2 dX11_at_20 (pc' := 23) rfl gw_950 ?_
      refine gk_cS1_3 mz_Mo_in gw_886 dX11_at_23 (pc' := 26) rfl (Nat.le_of_ble_eq_true rfl) (sp_Mo_in (fun u23 v23 => ?_) (fun n23 => ?_))
      · refine ⟨_, rfl, ?_⟩
        refine gk_if_eq dX11_at_26 (tgt := 56) (pc' := 29) (by decide) rfl (fun c => absurd c (by decide)) (fun _ => ?_)
        refine gk_iload3 dX11_at_29 (pc' := 30) rfl ?_
        refine gk_i2l dX11_at_30 (pc' := 31) rfl ?_
        refine gk_ldc2 dX11_at_31 (pc' := 34) rfl gw_949 ?_
        refine gk_ldc2 dX11_at_34 (pc' := 37) rfl gw_950 ?_
        refine gk_cS1_3 mz_Mo_in gw_886 dX11_at_37 (pc' := 40) rfl (Nat.le_of_ble_eq_true rfl) (sp_Mo_in (fun u37 v37 => ?_) (fun n37 => ?_))
        · refine ⟨_, rfl, ?_⟩
          refine gk_if_eq dX11_at_40 (tgt := 56) (pc' := 43) (by decide) rfl (fun c => absurd c (by decide)) (fun _ => ?_)
          refine gk_iload4 dX11_at_43 (pc' := 45) rfl ?_
          refine gk_i2l dX11_at_45 (pc' := 46) rfl ?_
          refine gk_lconst (v := 0) dX11_at_46 (pc' := 47) rfl (by decide) ?_
          refine gk_ldc2 dX11_at_47 (pc' := 50) rfl gw_951 ?_
          refine gk_cS1_3 mz_Mo_in gw_886 dX11_at_50 (pc' := 53) rfl (Nat.le_of_ble_eq_true rfl) (sp_Mo_in (fun u50 v50 => ?_) (fun n50 => ?_))
          · refine ⟨_, rfl, ?_⟩
            refine gk_if_ne dX11_at_53 (tgt := 59) (pc' := 56) (by decide) rfl (fun _ => ?_) (fun c => absurd c (by decide))
            refine gk_aload0 dX11_at_59 (pc' := 60) rfl ?_
            refine gk_iload1 dX11_at_60 (pc' := 61) rfl ?_
            refine gk_cV0_1 mv_Mo_look gw_952 dX11_at_61 (pc' := 64) rfl (Nat.le_of_ble_eq_true rfl) (by exact (mkJ)) (sp_Mo_look pr1 hj1 ?_)
            refine ⟨rfl, ?_⟩
            refine gk_aload0 dX11_at_64 (pc' := 65) rfl ?_
            refine gk_iload2 dX11_at_65 (pc' := 66) rfl ?_
            refine gk_iload3 dX11_at_66 (pc' := 67) rfl ?_
            refine gk_iload4 dX11_at_67 (pc' := 69) rfl ?_
            refine gk_cV1_3 mv_Mo_seenAt gw_956 dX11_at_69 (pc' := 72) rfl (Nat.le_of_ble_eq_true rfl) (by exact (mkJ)) (sp_Mo_seenAt (w := (pcS S (nI j1)).2.1) (t := (pcS S (nI j1)).2.2.1) ⟨rfl, rfl⟩ okk.2.1.1 okk.2.2.1.1 okk.2.1.2 okk.2.2.1.2 (by omega) (by omega) (by omega) ?_)
            refine ⟨_, rfl, ?_⟩
            refine gk_iret dX11_at_72 rfl ?_
            have ev : sn (pcS S (nI j1)).2.1 (pcS S (nI j1)).2.2.1 (lkA A j1 9) x.toInt y.toInt e = sn (pcS S (nI j1)).2.1 (pcS S (nI j1)).2.2.1 (pcS S (nI j1)).2.2.2 x.toInt y.toInt e := sn_congr okk.2.1.1 okk.2.2.1.1 (fun i hi => lk_px pr1 ar1 hi)
            rw [ev]
            exact hE _ S _ _ (if_pos ⟨by omega, k9, by omega, by omega, by omega⟩) (hS.kept (fun i h1 h2 => uA_n (by omega)) (fun i hi => lkZ_n hi))
          · refine ⟨_, rfl, ?_⟩
            refine gk_if_ne dX11_at_53 (tgt := 59) (pc' := 56) (by decide) rfl (fun c => absurd c (by decide)) (fun _ => ?_)
            refine gk_ldc dX11_at_56 (pc' := 58) rfl gw_891 ?_
            refine gk_iret dX11_at_58 rfl (hB _ (if_neg (fun z => by first | exact z.2.1 k9 | (have := z.1; have := z.2.2; omega))))
        · refine ⟨_, rfl, ?_⟩
          refine gk_if_eq dX11_at_40 (tgt := 56) (pc' := 43) (by decide) rfl (fun _ => ?_) (fun c => absurd c (by decide))
          refine gk_ldc dX11_at_56 (pc' := 58) rfl gw_891 ?_
          refine gk_iret dX11_at_58 rfl (hB _ (if_neg (fun z => by first | exact z.2.1 k9 | (have := z.1; have := z.2.2; omega))))
      · refine ⟨_, rfl, ?_⟩
        refine gk_if_eq dX11_at_26 (tgt := 56) (pc' := 29) (by decide) rfl (fun _ => ?_) (fun c => absurd c (by decide))
        refine gk_ldc dX11_at_56 (pc' := 58) rfl gw_891 ?_
        refine gk_iret dX11_at_58 rfl (hB _ (if_neg (fun z => by first | exact z.2.1 k9 | (have := z.1; have := z.2.2; omega))))
    · refine ⟨_, rfl, ?_⟩
      refine gk_if_eq dX11_at_12 (tgt := 56) (pc' := 15) (by decide) rfl (fun _ => ?_) (fun c => absurd c (by decide))
      refine gk_ldc dX11_at_56 (pc' := 58) rfl gw_891 ?_
      refine gk_iret dX11_at_58 rfl (hB _ (if_neg (fun z => by first | exact z.2.1 k9 | (have := z.1; have := z.2.2; omega))))
  · refine ⟨_, rfl, ?_⟩
    refine gk_if_eq dX11_at_4 (tgt := 56) (pc' := 7) (by decide) rfl (fun _ => ?_) (fun c => absurd c (by decide))
    refine gk_ldc dX11_at_56 (pc' := 58) rfl gw_891 ?_
    refine gk_iret dX11_at_58 rfl (hB _ (if_neg (fun z => by first | exact z.2.1 k9 | (have := z.1; have := z.2.2; omega))))
theorem lp_Mo_about {j : Nat} {c : Pc} {lw : Int32} (hp : pRow (A 1) (259 * j) c) (hj : j < 8) (ar : c.2.1 * c.2.2.1 ≤ 256) {m0 : Int32} (hQ : ∀ l6 l7, G (kx X) mt_Mo_about (d + 10) b 142 [some (.ref m), some (.int (nI j)), some (.int lw), some (.int (minP m0 c.2.2.2 (c.2.1 * c.2.2.1))), some (.int (maxP m0 c.2.2.2 (c.2.1 * c.2.2.1))), some (.int (sumP c.2.2.2 (c.2.1 * c.2.2.1))), l6, l7] [] (mkH X h0 m A Z) Q) : ∀ n i l7, i + n = c.2.1 * c.2.2.1 → G (kx X) mt_Mo_about (d + 10) b 73 [some (.ref m), some (.int (nI j)), some (.int lw), some (.int (minP m0 c.2.2.2 i)), some (.int (maxP m0 c.2.2.2 i)), some (.int (sumP c.2.2.2 i)), some (.int (nI i)), l7] [] (mkH X h0 m A Z) Q := by
  intro n
  induction n with
  | zero =>
    intro i l7 hi
    have e : i = c.2.1 * c.2.2.1 := by omega
    refine gk_iload6 dX11_about_73 (pc' := 75) rfl ?_
    refine gk_aload0 dX11_about_75 (pc' := 76) rfl ?_
    refine gk_iload1 dX11_about_76 (pc' := 77) rfl ?_
    refine gk_cV1_1 mv_Mo_pixels gw_940 dX11_about_77 (pc' := 80) rfl (Nat.le_of_ble_eq_true rfl) (by exact (mkJ)) (sp_Mo_pixels hp hj ?_)
    refine ⟨_, rfl, ?_⟩
    refine gk_icmp_ge dX11_about_80 (tgt := 142) (pc' := 83) (by decide) rfl (fun c80 => ?_) (fun c80 => absurd (nI_le (by omega) (by omega)) c80)
    rw [e]
    exact hQ _ _
  | succ n ih =>
    intro i l7 hi
    have key : ∀ mn mx : Int32, mn = minP m0 c.2.2.2 (i + 1) → mx = maxP m0 c.2.2.2 (i + 1) → ∀ l3 : Option Value, G (kx X) mt_Mo_about (d + 10) b 127 [some (.ref m), some (.int (nI j)), some (.int lw), some (.int mn), l3, some (.int (sumP c.2.2.2 i)), some (.int (nI i)), some (.int (c.2.2.2 i))] [.int mx] (mkH X h0 m A Z) Q := by
      intro mn mx e1 e2 l3
      refine gk_istore4 dX11_about_127 (pc' := 129) rfl (by decide) rfl ?_
      refine gk_iload5 dX11_about_129 (pc' := 131) rfl ?_
      refine gk_iload7 dX11_about_131 (pc' := 133) rfl ?_
      refine gk_iadd dX11_about_133 (pc' := 134) rfl ?_
      refine gk_istore5 dX11_about_134 (pc' := 136) rfl (by decide) rfl ?_
      refine gk_iinc6 (v := 1) dX11_about_136 (pc' := 139) rfl (by decide) (by decide) rfl ?_
      refine gk_goto dX11_about_139 (tgt := 73) (by decide) ?_
      rw [← nI_succ, e1, e2]
      exact ih (i + 1) _ (by omega)
    refine gk_iload6 dX11_about_73 (pc' := 75) rfl ?_
    refine gk_aload0 dX11_about_75 (pc' := 76) rfl ?_
    refine gk_iload1 dX11_about_76 (pc' := 77) rfl ?_
    refine gk_cV1_1 mv_Mo_pixels gw_940 dX11_about_77 (pc' := 80) rfl (Nat.le_of_ble_eq_true rfl) (by exact (mkJ)) (sp_Mo_pixels hp hj ?_)
    refine ⟨_, rfl, ?_⟩
    refine gk_icmp_ge dX11_about_80 (tgt := 142) (pc' := 83) (by decide) rfl (fun c80 => absurd c80 (nI_ge (by omega) (by omega))) (fun c80 => ?_)
    refine gk_aload0 dX11_about_83 (pc' := 84) rfl ?_
    refine gk_getf (fs := [_, _, _, _, _, _, _, _, _, _, _, _, _, _, _, _, _, _, _, _, _, _, _, _, _, _]) gF_Mo_7 dX11_about_84 (pc' := 87) rfl (by exact (mkJ)) rfl ?_
    refine gk_sipush (v := nI 259) dX11_about_87 (pc' := 90) rfl (by decide) ?_
    refine gk_iload1 dX11_about_90 (pc' := 91) rfl ?_
    refine gk_imulN dX11_about_91 (pc' := 92) rfl ?_
    refine gk_iconst (v := nI 3) dX11_about_92 (pc' := 93) rfl (by decide) ?_
    refine gk_iaddN dX11_about_93 (pc' := 94) rfl ?_
    refine gk_iload6 dX11_about_94 (pc' := 96) rfl ?_
    refine gk_iaddN dX11_about_96 (pc' := 97) rfl ?_
    refine gk_iald (t0 := 0) rfl dX11_about_97 (pc' := 98) rfl (by exact (mkA1)) (vp_in_nI (by omega) (by decide)) ?_
    rw [nI_clamp (by omega)]
    rw [hp.2.2.2 i (by omega)]
    refine gk_istore7 dX11_about_98 (pc' := 100) rfl (by decide) rfl ?_
    refine gk_iload7 dX11_about_100 (pc' := 102) rfl ?_
    refine gk_iload3 dX11_about_102 (pc' := 103) rfl ?_
    refine gk_icmp_ge dX11_about_103 (tgt := 111) (pc' := 106) (by decide) rfl (fun c103 => ?_) (fun c103 => ?_)
    · have e1 : minP m0 c.2.2.2 (i + 1) = minP m0 c.2.2.2 i := by rw [minP, if_neg (fun q => absurd (pu_lt.mp q) (by rw [pu_le] at c103; omega))]
      refine gk_iload3 dX11_about_111 (pc' := 112) rfl ?_
      refine gk_istore3 dX11_about_112 (pc' := 113) rfl (by decide) rfl ?_
      refine gk_iload7 dX11_about_113 (pc' := 115) rfl ?_
      refine gk_iload4 dX11_about_115 (pc' := 117) rfl ?_
      refine gk_icmp_le dX11_about_117 (tgt := 125) (pc' := 120) (by decide) rfl (fun c117 => ?_) (fun c117 => ?_)
      · have e2 : maxP m0 c.2.2.2 (i + 1) = maxP m0 c.2.2.2 i := by rw [maxP, if_neg (fun q => absurd (pu_lt.mp q) (by rw [pu_le] at c117; omega))]
        refine gk_iload4 dX11_about_125 (pc' := 127) rfl ?_
        exact key _ _ e1.symm e2.symm _
      · have e2 : maxP m0 c.2.2.2 (i + 1) = c.2.2.2 i := by rw [maxP, if_pos (pu_lt.mpr (by rw [pu_le] at c117; omega))]
        refine gk_iload7 dX11_about_120 (pc' := 122) rfl ?_
        refine gk_goto dX11_about_122 (tgt := 127) (by decide) ?_
        exact key _ _ e1.symm e2.symm _
    · have e1 : minP m0 c.2.2.2 (i + 1) = c.2.2.2 i := by rw [minP, if_pos (pu_lt.mpr (by rw [pu_le] at c103; omega))]
      refine gk_iload7 dX11_about_106 (pc' := 108) rfl ?_
      refine gk_goto dX11_about_108 (tgt := 112) (by decide) ?_
      refine gk_istore3 dX11_about_112 (pc' := 113) rfl (by decide) rfl ?_
      refine gk_iload7 dX11_about_113 (pc' := 115) rfl ?_
      refine gk_iload4 dX11_about_115 (pc' := 117) rfl ?_
      refine gk_icmp_le dX11_about_117 (tgt := 125) (pc' := 120) (by decide) rfl (fun c117 => ?_) (fun c117 => ?_)
      · have e2 : maxP m0 c.2.2.2 (i + 1) = maxP m0 c.2.2.2 i := by rw [maxP, if_neg (fun q => absurd (pu_lt.mp q) (by rw [pu_le] at c117; omega))]
        refine gk_iload4 dX11_about_125 (pc' := 127) rfl ?_
        exact key _ _ e1.symm e2.symm _
      · have e2 : maxP m0 c.2.2.2 (i + 1) = c.2.2.2 i := by rw [maxP, if_pos (pu_lt.mpr (by rw [pu_le] at c117; omega))]
        refine gk_iload7 dX11_about_120 (pc' := 122) rfl ?_
        refine gk_goto dX11_about_122 (tgt := 127) (by decide) ?_
        exact key _ _ e1.symm e2.symm _
theorem minP_any {p : Nat → Int32} {a c : Int32} (ha : (p 0).toInt ≤ a.toInt) (hc : (p 0).toInt ≤ c.toInt) : ∀ n, 1 ≤ n → minP a p n = minP c p n
  | 0, h => absurd h (by omega)
  | 1, _ => by
    show (if p 0 < a then p 0 else a) = (if p 0 < c then p 0 else c)
    have k : ∀ z : Int32, (p 0).toInt ≤ z.toInt → (if p 0 < z then p 0 else z) = p 0 := fun z hz => by
      split
      · rfl
      · rename_i q; rw [pu_lt] at q; exact pu_inj (by omega)
    rw [k a ha, k c hc]
  | n + 2, _ => by rw [minP, minP_any ha hc (n + 1) (by omega), ← minP]
theorem maxP_any {p : Nat → Int32} {a c : Int32} (ha : a.toInt ≤ (p 0).toInt) (hc : c.toInt ≤ (p 0).toInt) : ∀ n, 1 ≤ n → maxP a p n = maxP c p n
  | 0, h => absurd h (by omega)
  | 1, _ => by
    show (if a < p 0 then p 0 else a) = (if c < p 0 then p 0 else c)
    have k : ∀ z : Int32, z.toInt ≤ (p 0).toInt → (if z < p 0 then p 0 else z) = p 0 := fun z hz => by
      split
      · rfl
      · rename_i q; rw [pu_lt] at q; exact pu_inj (by omega)
    rw [k a ha, k c hc]
  | n + 2, _ => by rw [maxP, maxP_any ha hc (n + 1) (by omega), ← maxP]
theorem mo_about {p w : Int32} (hM : Mod X h m S) (hw : wfS S) (hQ : ∀ h', Mod X h' m (oAbout S p w).2 → frO m h h' → Q (some (.int (oAbout S p w).1)) h') : Gm (kx X) mt_Mo_about (d + 10) b [.ref m, .int p, .int w] h Q := by
  obtain ⟨h0, A, Z, rfl, hS⟩ := hM
  have hE : ∀ a0 S' A' Z', oAbout S p w = (a0, S') → MoS A' Z' S' → Q (some (.int a0)) (mkH X h0 m A' Z') := fun a0 S' A' Z' e0 h1 => by
    have q := hQ (mkH X h0 m A' Z')
    rw [e0] at q
    exact q ⟨h0, A', Z', rfl, h1⟩ mk_fr
  have hB : ∀ a0, oAbout S p w = (a0, S) → Q (some (.int a0)) (mkH X h0 m A Z) := fun a0 e0 => hE a0 S A Z e0 hS
  have zw := i2l_i w
  have z0 : (0 : Int64).toInt = 0 := rfl
  have z5 : (5 : Int64).toInt = 5 := rfl
  have z3 : (3 : Int32) = nI 3 := rfl
  have tail : ∀ j1 j, j1 < 8 → p = nI j1 → w = nI j → j < 6 → ¬ (pcS S p).1 = -1 → G (kx X) mt_Mo_about (d + 10) b 33 [some (.ref m), some (.int p), some (.int w), none, none, none, none, none] [] (mkH X h0 m A Z) Q := by
    intro j1 j hj1 ep ew hj hk
    subst ep ew
    have pr1 := hS.picS hj1
    have ok1 := hw.okp hj1
    have okk := ok1.kind hk
    have ar1 := ok1.ar
    have a1 : 1 ≤ (pcS S (nI j1)).2.1 * (pcS S (nI j1)).2.2.1 := Nat.mul_le_mul okk.2.1.1 okk.2.2.1.1
    have zj1 : (nI j1).toInt = j1 := nI_toInt (by omega)
    have zj : (nI j).toInt = j := nI_toInt (by omega)
    have p0 := inK_r (okk.2.2.2 0 (by omega))
    have p0' := okk.2.2.2 0 (by omega)
    have e3 : A 1 (259 * j1 + 3) = (pcS S (nI j1)).2.2.2 0 := pr1.2.2.2 0 (by omega)
    have e0 : ∀ a, (if nI j = 0 then (pcS S (nI j1)).1 else if nI j = 1 then nI (pcS S (nI j1)).2.1 else if nI j = 2 then nI (pcS S (nI j1)).2.2.1 else if nI j = 3 then minP (hiK (pcS S (nI j1)).1) (pcS S (nI j1)).2.2.2 ((pcS S (nI j1)).2.1 * (pcS S (nI j1)).2.2.1) else if nI j = 4 then maxP (loK (pcS S (nI j1)).1) (pcS S (nI j1)).2.2.2 ((pcS S (nI j1)).2.1 * (pcS S (nI j1)).2.2.1) else sumP (pcS S (nI j1)).2.2.2 ((pcS S (nI j1)).2.1 * (pcS S (nI j1)).2.2.1)) = a → oAbout S (nI j1) (nI j) = (a, S) := fun a e => (if_pos (by omega)).trans ((if_neg hk).trans (by rw [e]))
    have fin : 3 ≤ j → ∀ l6 l7, G (kx X) mt_Mo_about (d + 10) b 142 [some (.ref m), some (.int (nI j1)), some (.int (nI j)), some (.int (minP ((pcS S (nI j1)).2.2.2 0) (pcS S (nI j1)).2.2.2 ((pcS S (nI j1)).2.1 * (pcS S (nI j1)).2.2.1))), some (.int (maxP ((pcS S (nI j1)).2.2.2 0) (pcS S (nI j1)).2.2.2 ((pcS S (nI j1)).2.1 * (pcS S (nI j1)).2.2.1))), some (.int (sumP (pcS S (nI j1)).2.2.2 ((pcS S (nI j1)).2.1 * (pcS S (nI j1)).2.2.1))), l6, l7] [] (mkH X h0 m A Z) Q := by
      intro h3 l6 l7
      have em : minP ((pcS S (nI j1)).2.2.2 0) (pcS S (nI j1)).2.2.2 ((pcS S (nI j1)).2.1 * (pcS S (nI j1)).2.2.1) = minP (hiK (pcS S (nI j1)).1) (pcS S (nI j1)).2.2.2 ((pcS S (nI j1)).2.1 * (pcS S (nI j1)).2.2.1) := minP_any (Int.le_refl _) p0'.2 _ a1
      have ex : maxP ((pcS S (nI j1)).2.2.2 0) (pcS S (nI j1)).2.2.2 ((pcS S (nI j1)).2.1 * (pcS S (nI j1)).2.2.1) = maxP (loK (pcS S (nI j1)).1) (pcS S (nI j1)).2.2.2 ((pcS S (nI j1)).2.1 * (pcS S (nI j1)).2.2.1) := maxP_any (Int.le_refl _) p0'.1 _ a1
      rw [em, ex]
      rcases (show j = 3 ∨ j = 4 ∨ j = 5 by omega) with rfl | rfl | rfl
      · refine gk_iload2 dX11_about_142 (pc' := 143) rfl ?_
        refine gk_iconst (v := 3) dX11_about_143 (pc' := 144) rfl (by decide) ?_
        refine gk_icmp_ne dX11_about_144 (tgt := 151) (pc' := 147) (by decide) rfl (fun c144 => absurd rfl c144) (fun c144 => ?_)
        refine gk_iload3 dX11_about_147 (pc' := 148) rfl ?_
        refine gk_goto dX11_about_148 (tgt := 163) (by decide) ?_
        refine gk_iret dX11_about_163 rfl (hB _ (e0 _ rfl))
      · refine gk_iload2 dX11_about_142 (pc' := 143) rfl ?_
        refine gk_iconst (v := 3) dX11_about_143 (pc' := 144) rfl (by decide) ?_
        refine gk_icmp_ne dX11_about_144 (tgt := 151) (pc' := 147) (by decide) rfl (fun c144 => ?_) (fun c144 => absurd c144 (by decide))
        refine gk_iload2 dX11_about_151 (pc' := 152) rfl ?_
        refine gk_iconst (v := 4) dX11_about_152 (pc' := 153) rfl (by decide) ?_
        refine gk_icmp_ne dX11_about_153 (tgt := 161) (pc' := 156) (by decide) rfl (fun c153 => absurd rfl c153) (fun c153 => ?_)
        refine gk_iload4 dX11_about_156 (pc' := 158) rfl ?_
        refine gk_goto dX11_about_158 (tgt := 163) (by decide) ?_
        refine gk_iret dX11_about_163 rfl (hB _ (e0 _ rfl))
      · refine gk_iload2 dX11_about_142 (pc' := 143) rfl ?_
        refine gk_iconst (v := 3) dX11_about_143 (pc' := 144) rfl (by decide) ?_
        refine gk_icmp_ne dX11_about_144 (tgt := 151) (pc' := 147) (by decide) rfl (fun c144 => ?_) (fun c144 => absurd c144 (by decide))
        refine gk_iload2 dX11_about_151 (pc' := 152) rfl ?_
        refine gk_iconst (v := 4) dX11_about_152 (pc' := 153) rfl (by decide) ?_
        refine gk_icmp_ne dX11_about_153 (tgt := 161) (pc' := 156) (by decide) rfl (fun c153 => ?_) (fun c153 => absurd c153 (by decide))
        refine gk_iload5 dX11_about_161 (pc' := 163) rfl ?_
        refine gk_iret dX11_about_163 rfl (hB _ (e0 _ rfl))
    by_cases h3 : j < 3
    · refine gk_iload2 dX11_about_33 (pc' := 34) rfl ?_
      refine gk_iconst (v := 3) dX11_about_34 (pc' := 35) rfl (by decide) ?_
      refine gk_icmp_ge dX11_about_35 (tgt := 51) (pc' := 38) (by decide) rfl (fun c35 => absurd c35 (by rw [z3]; exact nI_ge (by omega) (by omega))) (fun c35 => ?_)
      refine gk_aload0 dX11_about_38 (pc' := 39) rfl ?_
      refine gk_getf (fs := [_, _, _, _, _, _, _, _, _, _, _, _, _, _, _, _, _, _, _, _, _, _, _, _, _, _]) gF_Mo_7 dX11_about_39 (pc' := 42) rfl (by exact (mkJ)) rfl ?_
      refine gk_sipush (v := nI 259) dX11_about_42 (pc' := 45) rfl (by decide) ?_
      refine gk_iload1 dX11_about_45 (pc' := 46) rfl ?_
      refine gk_imulN dX11_about_46 (pc' := 47) rfl ?_
      refine gk_iload2 dX11_about_47 (pc' := 48) rfl ?_
      refine gk_iaddN dX11_about_48 (pc' := 49) rfl ?_
      refine gk_iald (t0 := 0) rfl dX11_about_49 (pc' := 50) rfl (by exact (mkA1)) (vp_in_nI (by omega) (by decide)) ?_
      rw [nI_clamp (by omega)]
      refine gk_iret dX11_about_50 rfl ?_
      rcases (show j = 0 ∨ j = 1 ∨ j = 2 by omega) with rfl | rfl | rfl
      · rw [show A 1 (259 * j1 + 0) = _ from pr1.1]; exact hB _ (e0 _ rfl)
      · rw [pr1.2.1]; exact hB _ (e0 _ rfl)
      · rw [pr1.2.2.1]; exact hB _ (e0 _ rfl)
    · refine gk_iload2 dX11_about_33 (pc' := 34) rfl ?_
      refine gk_iconst (v := 3) dX11_about_34 (pc' := 35) rfl (by decide) ?_
      refine gk_icmp_ge dX11_about_35 (tgt := 51) (pc' := 38) (by decide) rfl (fun c35 => ?_) (fun c35 => absurd (by rw [z3]; exact nI_le (by omega) (by omega)) c35)
      refine gk_aload0 dX11_about_51 (pc' := 52) rfl ?_
      refine gk_getf (fs := [_, _, _, _, _, _, _, _, _, _, _, _, _, _, _, _, _, _, _, _, _, _, _, _, _, _]) gF_Mo_7 dX11_about_52 (pc' := 55) rfl (by exact (mkJ)) rfl ?_
      refine gk_sipush (v := nI 259) dX11_about_55 (pc' := 58) rfl (by decide) ?_
      refine gk_iload1 dX11_about_58 (pc' := 59) rfl ?_
      refine gk_imulN dX11_about_59 (pc' := 60) rfl ?_
      refine gk_iconst (v := nI 3) dX11_about_60 (pc' := 61) rfl (by decide) ?_
      refine gk_iaddN dX11_about_61 (pc' := 62) rfl ?_
      refine gk_iald (t0 := 0) rfl dX11_about_62 (pc' := 63) rfl (by exact (mkA1)) (vp_in_nI (by omega) (by decide)) ?_
      rw [nI_clamp (by omega)]
      rw [e3]
      refine gk_istore3 dX11_about_63 (pc' := 64) rfl (by decide) rfl ?_
      refine gk_iload3 dX11_about_64 (pc' := 65) rfl ?_
      refine gk_istore4 dX11_about_65 (pc' := 67) rfl (by decide) rfl ?_
      refine gk_iconst (v := 0) dX11_about_67 (pc' := 68) rfl (by decide) ?_
      refine gk_istore5 dX11_about_68 (pc' := 70) rfl (by decide) rfl ?_
      refine gk_iconst (v := 0) dX11_about_70 (pc' := 71) rfl (by decide) ?_
      refine gk_istore6 dX11_about_71 (pc' := 73) rfl (by decide) rfl ?_
      exact lp_Mo_about (m0 := (pcS S (nI j1)).2.2.2 0) pr1 hj1 ar1 (fin (by omega)) ((pcS S (nI j1)).2.1 * (pcS S (nI j1)).2.2.1) 0 _ (by omega)
  refine Gm.enter (L := [some (.ref m), some (.int p), some (.int w), none, none, none, none, none]) (by decide) (fun _ => trivial) (Nat.le_of_ble_eq_true rfl) rfl ?_
  refine gk_iload1 dX11_about_0 (pc' := 1) rfl ?_
  refine gk_cS1_1 mz_Mo_isPicture gw_882 dX11_about_1 (pc' := 4) rfl (Nat.le_of_ble_eq_true rfl) (sp_Mo_isPicture (fun j1 hj1 ej1 => ?_) (fun n1 => ?_))
  · refine ⟨_, rfl, ?_⟩
    subst ej1
    have zj1 : (nI j1).toInt = j1 := nI_toInt (by omega)
    have yj1 : (nI j1).toInt.toNat = j1 := by omega
    have pr1 := hS.picS hj1
    have ok1 := hw.okp hj1
    have wt1 := ok1.wt
    have ar1 := ok1.ar
    refine gk_if_eq dX11_about_4 (tgt := 19) (pc' := 7) (by decide) rfl (fun c => absurd c (by decide)) (fun _ => ?_)
    refine gk_iload2 dX11_about_7 (pc' := 8) rfl ?_
    refine gk_i2l dX11_about_8 (pc' := 9) rfl ?_
    refine gk_lconst (v := 0) dX11_about_9 (pc' := 10) rfl (by decide) ?_
    refine gk_ldc2 dX11_about_10 (pc' := 13) rfl gw_967 ?_
    refine gk_cS1_3 mz_Mo_in gw_886 dX11_about_13 (pc' := 16) rfl (Nat.le_of_ble_eq_true rfl) (sp_Mo_in (fun u13 v13 => ?_) (fun n13 => ?_))
    · refine ⟨_, rfl, ?_⟩
      refine gk_if_ne dX11_about_16 (tgt := 22) (pc' := 19) (by decide) rfl (fun _ => ?_) (fun c => absurd c (by decide))
      refine gk_aload0 dX11_about_22 (pc' := 23) rfl ?_
      refine gk_iload1 dX11_about_23 (pc' := 24) rfl ?_
      refine gk_cV1_1 mv_Mo_isThere gw_905 dX11_about_24 (pc' := 27) rfl (Nat.le_of_ble_eq_true rfl) (by exact (mkJ)) (sp_Mo_isThere pr1 hj1 ok1 (fun k24 => ?_) (fun k24 => ?_))
      · refine ⟨_, rfl, ?_⟩
        refine gk_if_ne dX11_about_27 (tgt := 33) (pc' := 30) (by decide) rfl (fun _ => ?_) (fun c => absurd c (by decide))
        obtain ⟨jw, hjw, rfl⟩ := pu_of (x := w) (n := 6) (by omega) (by omega) (by omega)
        exact tail j1 jw hj1 rfl rfl hjw k24
      · refine ⟨_, rfl, ?_⟩
        refine gk_if_ne dX11_about_27 (tgt := 33) (pc' := 30) (by decide) rfl (fun c => absurd c (by decide)) (fun _ => ?_)
        refine gk_ldc dX11_about_30 (pc' := 32) rfl gw_968 ?_
        refine gk_iret dX11_about_32 rfl (hB _ ((if_pos (by omega)).trans (if_pos k24)))
    · refine ⟨_, rfl, ?_⟩
      refine gk_if_ne dX11_about_16 (tgt := 22) (pc' := 19) (by decide) rfl (fun c => absurd c (by decide)) (fun _ => ?_)
      refine gk_ldc dX11_about_19 (pc' := 21) rfl gw_891 ?_
      refine gk_iret dX11_about_21 rfl (hB _ (if_neg (by omega)))
  · refine ⟨_, rfl, ?_⟩
    refine gk_if_eq dX11_about_4 (tgt := 19) (pc' := 7) (by decide) rfl (fun _ => ?_) (fun c => absurd c (by decide))
    refine gk_ldc dX11_about_19 (pc' := 21) rfl gw_891 ?_
    refine gk_iret dX11_about_21 rfl (hB _ (if_neg (by omega)))
theorem lp_Mo_unlike {j1 j2 : Nat} {c c' : Pc} (hp : pRow (A 1) (259 * j1) c) (hp' : pRow (A 1) (259 * j2) c') (h1 : j1 < 8) (h2 : j2 < 8) (ar : c.2.1 * c.2.2.1 ≤ 256) (e1 : c.2.1 = c'.2.1) (e2 : c.2.2.1 = c'.2.2.1) (hQ : Q (some (.int (nI (cntP c.2.2.2 c'.2.2.2 (c.2.1 * c.2.2.1))))) (mkH X h0 m A Z)) : ∀ n i, i + n = c.2.1 * c.2.2.1 → G (kx X) mt_Mo_unlike (d + 10) b 67 [some (.ref m), some (.int (nI j1)), some (.int (nI j2)), some (.int (nI (cntP c.2.2.2 c'.2.2.2 i))), some (.int (nI i))] [] (mkH X h0 m A Z) Q := by
  intro n
  induction n with
  | zero =>
    intro i hi
    have e : i = c.2.1 * c.2.2.1 := by omega
    refine gk_iload4 dX11_unlike_67 (pc' := 69) rfl ?_
    refine gk_aload0 dX11_unlike_69 (pc' := 70) rfl ?_
    refine gk_iload1 dX11_unlike_70 (pc' := 71) rfl ?_
    refine gk_cV1_1 mv_Mo_pixels gw_940 dX11_unlike_71 (pc' := 74) rfl (Nat.le_of_ble_eq_true rfl) (by exact (mkJ)) (sp_Mo_pixels hp h1 ?_)
    refine ⟨_, rfl, ?_⟩
    refine gk_icmp_ge dX11_unlike_74 (tgt := 124) (pc' := 77) (by decide) rfl (fun c74 => ?_) (fun c74 => absurd (nI_le (by omega) (by omega)) c74)
    refine gk_iload3 dX11_unlike_124 (pc' := 125) rfl ?_
    refine gk_iret dX11_unlike_125 rfl (by rw [e]; exact hQ)
  | succ n ih =>
    intro i hi
    have q := ih (i + 1) (by omega)
    refine gk_iload4 dX11_unlike_67 (pc' := 69) rfl ?_
    refine gk_aload0 dX11_unlike_69 (pc' := 70) rfl ?_
    refine gk_iload1 dX11_unlike_70 (pc' := 71) rfl ?_
    refine gk_cV1_1 mv_Mo_pixels gw_940 dX11_unlike_71 (pc' := 74) rfl (Nat.le_of_ble_eq_true rfl) (by exact (mkJ)) (sp_Mo_pixels hp h1 ?_)
    refine ⟨_, rfl, ?_⟩
    refine gk_icmp_ge dX11_unlike_74 (tgt := 124) (pc' := 77) (by decide) rfl (fun c74 => absurd c74 (nI_ge (by omega) (by omega))) (fun c74 => ?_)
    refine gk_iload3 dX11_unlike_77 (pc' := 78) rfl ?_
    refine gk_aload0 dX11_unlike_78 (pc' := 79) rfl ?_
    refine gk_getf (fs := [_, _, _, _, _, _, _, _, _, _, _, _, _, _, _, _, _, _, _, _, _, _, _, _, _, _]) gF_Mo_7 dX11_unlike_79 (pc' := 82) rfl (by exact (mkJ)) rfl ?_
    refine gk_sipush (v := nI 259) dX11_unlike_82 (pc' := 85) rfl (by decide) ?_
    refine gk_iload1 dX11_unlike_85 (pc' := 86) rfl ?_
    refine gk_imulN dX11_unlike_86 (pc' := 87) rfl ?_
    refine gk_iconst (v := nI 3) dX11_unlike_87 (pc' := 88) rfl (by decide) ?_
    refine gk_iaddN dX11_unlike_88 (pc' := 89) rfl ?_
    refine gk_iload4 dX11_unlike_89 (pc' := 91) rfl ?_
    refine gk_iaddN dX11_unlike_91 (pc' := 92) rfl ?_
    refine gk_iald (t0 := 0) rfl dX11_unlike_92 (pc' := 93) rfl (by exact (mkA1)) (vp_in_nI (by omega) (by decide)) ?_
    rw [nI_clamp (by omega)]
    rw [hp.2.2.2 i (by omega)]
    refine gk_aload0 dX11_unlike_93 (pc' := 94) rfl ?_
    refine gk_getf (fs := [_, _, _, _, _, _, _, _, _, _, _, _, _, _, _, _, _, _, _, _, _, _, _, _, _, _]) gF_Mo_7 dX11_unlike_94 (pc' := 97) rfl (by exact (mkJ)) rfl ?_
    refine gk_sipush (v := nI 259) dX11_unlike_97 (pc' := 100) rfl (by decide) ?_
    refine gk_iload2 dX11_unlike_100 (pc' := 101) rfl ?_
    refine gk_imulN dX11_unlike_101 (pc' := 102) rfl ?_
    refine gk_iconst (v := nI 3) dX11_unlike_102 (pc' := 103) rfl (by decide) ?_
    refine gk_iaddN dX11_unlike_103 (pc' := 104) rfl ?_
    refine gk_iload4 dX11_unlike_104 (pc' := 106) rfl ?_
    refine gk_iaddN dX11_unlike_106 (pc' := 107) rfl ?_
    refine gk_iald (t0 := 0) rfl dX11_unlike_107 (pc' := 108) rfl (by exact (mkA1)) (vp_in_nI (by omega) (by decide)) ?_
    rw [nI_clamp (by omega)]
    rw [hp'.2.2.2 i (by rw [← e1, ← e2]; omega)]
    refine gk_icmp_eq dX11_unlike_108 (tgt := 115) (pc' := 111) (by decide) rfl (fun c108 => ?_) (fun c108 => ?_)
    · refine gk_iconst (v := nI 0) dX11_unlike_115 (pc' := 116) rfl (by decide) ?_
      refine gk_iaddN dX11_unlike_116 (pc' := 117) rfl ?_
      refine gk_istore3 dX11_unlike_117 (pc' := 118) rfl (by decide) rfl ?_
      refine gk_iinc4 (v := 1) dX11_unlike_118 (pc' := 121) rfl (by decide) (by decide) rfl ?_
      refine gk_goto dX11_unlike_121 (tgt := 67) (by decide) ?_
      rw [← nI_succ]
      first | (rw [cntP, if_pos c108] at q; exact q) | (rw [cntP, if_neg c108] at q; exact q)
    · refine gk_iconst (v := nI 1) dX11_unlike_111 (pc' := 112) rfl (by decide) ?_
      refine gk_goto dX11_unlike_112 (tgt := 116) (by decide) ?_
      refine gk_iaddN dX11_unlike_116 (pc' := 117) rfl ?_
      refine gk_istore3 dX11_unlike_117 (pc' := 118) rfl (by decide) rfl ?_
      refine gk_iinc4 (v := 1) dX11_unlike_118 (pc' := 121) rfl (by decide) (by decide) rfl ?_
      refine gk_goto dX11_unlike_121 (tgt := 67) (by decide) ?_
      rw [← nI_succ]
      first | (rw [cntP, if_pos c108] at q; exact q) | (rw [cntP, if_neg c108] at q; exact q)
theorem mo_unlike {p q : Int32} (hM : Mod X h m S) (hw : wfS S) (hQ : ∀ h', Mod X h' m (oUnlike S p q).2 → frO m h h' → Q (some (.int (oUnlike S p q).1)) h') : Gm (kx X) mt_Mo_unlike (d + 10) b [.ref m, .int p, .int q] h Q := by
  obtain ⟨h0, A, Z, rfl, hS⟩ := hM
  have hE : ∀ a0 S' A' Z', oUnlike S p q = (a0, S') → MoS A' Z' S' → Q (some (.int a0)) (mkH X h0 m A' Z') := fun a0 S' A' Z' e0 h1 => by
    have q := hQ (mkH X h0 m A' Z')
    rw [e0] at q
    exact q ⟨h0, A', Z', rfl, h1⟩ mk_fr
  have hB : ∀ a0, oUnlike S p q = (a0, S) → Q (some (.int a0)) (mkH X h0 m A Z) := fun a0 e0 => hE a0 S A Z e0 hS
  refine Gm.enter (L := [some (.ref m), some (.int p), some (.int q), none, none]) (by decide) (fun _ => trivial) (Nat.le_of_ble_eq_true rfl) rfl ?_
  refine gk_iload1 dX11_unlike_0 (pc' := 1) rfl ?_
  refine gk_cS1_1 mz_Mo_isPicture gw_882 dX11_unlike_1 (pc' := 4) rfl (Nat.le_of_ble_eq_true rfl) (sp_Mo_isPicture (fun j1 hj1 ej1 => ?_) (fun n1 => ?_))
  · refine ⟨_, rfl, ?_⟩
    subst ej1
    have zj1 : (nI j1).toInt = j1 := nI_toInt (by omega)
    have yj1 : (nI j1).toInt.toNat = j1 := by omega
    have pr1 := hS.picS hj1
    have ok1 := hw.okp hj1
    have wt1 := ok1.wt
    have ar1 := ok1.ar
    refine gk_if_eq dX11_unlike_4 (tgt := 14) (pc' := 7) (by decide) rfl (fun c => absurd c (by decide)) (fun _ => ?_)
    refine gk_iload2 dX11_unlike_7 (pc' := 8) rfl ?_
    refine gk_cS1_1 mz_Mo_isPicture gw_882 dX11_unlike_8 (pc' := 11) rfl (Nat.le_of_ble_eq_true rfl) (sp_Mo_isPicture (fun j8 hj8 ej8 => ?_) (fun n8 => ?_))
    · refine ⟨_, rfl, ?_⟩
      subst ej8
      have zj8 : (nI j8).toInt = j8 := nI_toInt (by omega)
      have yj8 : (nI j8).toInt.toNat = j8 := by omega
      have pr8 := hS.picS hj8
      have ok8 := hw.okp hj8
      have wt8 := ok8.wt
      have ar8 := ok8.ar
      refine gk_if_ne dX11_unlike_11 (tgt := 17) (pc' := 14) (by decide) rfl (fun _ => ?_) (fun c => absurd c (by decide))
      refine gk_aload0 dX11_unlike_17 (pc' := 18) rfl ?_
      refine gk_iload1 dX11_unlike_18 (pc' := 19) rfl ?_
      refine gk_cV1_1 mv_Mo_isThere gw_905 dX11_unlike_19 (pc' := 22) rfl (Nat.le_of_ble_eq_true rfl) (by exact (mkJ)) (sp_Mo_isThere pr1 hj1 ok1 (fun k19 => ?_) (fun k19 => ?_))
      · refine ⟨_, rfl, ?_⟩
        refine gk_if_eq dX11_unlike_22 (tgt := 59) (pc' := 25) (by decide) rfl (fun c => absurd c (by decide)) (fun _ => ?_)
        refine gk_aload0 dX11_unlike_25 (pc' := 26) rfl ?_
        refine gk_iload2 dX11_unlike_26 (pc' := 27) rfl ?_
        refine gk_cV1_1 mv_Mo_isThere gw_905 dX11_unlike_27 (pc' := 30) rfl (Nat.le_of_ble_eq_true rfl) (by exact (mkJ)) (sp_Mo_isThere pr8 hj8 ok8 (fun k27 => ?_) (fun k27 => ?_))
        · refine ⟨_, rfl, ?_⟩
          refine gk_if_eq dX11_unlike_30 (tgt := 59) (pc' := 33) (by decide) rfl (fun c => absurd c (by decide)) (fun _ => ?_)
          refine gk_aload0 dX11_unlike_33 (pc' := 34) rfl ?_
          refine gk_iload1 dX11_unlike_34 (pc' := 35) rfl ?_
          refine gk_cV1_1 mv_Mo_wide gw_913 dX11_unlike_35 (pc' := 38) rfl (Nat.le_of_ble_eq_true rfl) (by exact (mkJ)) (sp_Mo_wide pr1 hj1 ?_)
          refine ⟨_, rfl, ?_⟩
          refine gk_aload0 dX11_unlike_38 (pc' := 39) rfl ?_
          refine gk_iload2 dX11_unlike_39 (pc' := 40) rfl ?_
          refine gk_cV1_1 mv_Mo_wide gw_913 dX11_unlike_40 (pc' := 43) rfl (Nat.le_of_ble_eq_true rfl) (by exact (mkJ)) (sp_Mo_wide pr8 hj8 ?_)
          refine ⟨_, rfl, ?_⟩
          refine gk_icmp_ne dX11_unlike_43 (tgt := 59) (pc' := 46) (by decide) rfl (fun c43 => ?_) (fun c43 => ?_)
          · have k43 : ¬ (pcS S (nI j1)).2.1 = (pcS S (nI j8)).2.1 := fun e => c43 (by rw [e])
            refine gk_ldc dX11_unlike_59 (pc' := 61) rfl gw_869 ?_
            refine gk_iret dX11_unlike_61 rfl (hB _ ((if_pos (by omega)).trans (if_pos (by first | exact Or.inl k19 | exact Or.inr (Or.inl k27) | exact Or.inr (Or.inr (Or.inl k43)) | exact Or.inr (Or.inr (Or.inr k56))))))
          · have k43 : (pcS S (nI j1)).2.1 = (pcS S (nI j8)).2.1 := nI_inj (by omega) (by omega) c43
            refine gk_aload0 dX11_unlike_46 (pc' := 47) rfl ?_
            refine gk_iload1 dX11_unlike_47 (pc' := 48) rfl ?_
            refine gk_cV1_1 mv_Mo_tall gw_917 dX11_unlike_48 (pc' := 51) rfl (Nat.le_of_ble_eq_true rfl) (by exact (mkJ)) (sp_Mo_tall pr1 hj1 ?_)
            refine ⟨_, rfl, ?_⟩
            refine gk_aload0 dX11_unlike_51 (pc' := 52) rfl ?_
            refine gk_iload2 dX11_unlike_52 (pc' := 53) rfl ?_
            refine gk_cV1_1 mv_Mo_tall gw_917 dX11_unlike_53 (pc' := 56) rfl (Nat.le_of_ble_eq_true rfl) (by exact (mkJ)) (sp_Mo_tall pr8 hj8 ?_)
            refine ⟨_, rfl, ?_⟩
            refine gk_icmp_eq dX11_unlike_56 (tgt := 62) (pc' := 59) (by decide) rfl (fun c56 => ?_) (fun c56 => ?_)
            · have k56 : (pcS S (nI j1)).2.2.1 = (pcS S (nI j8)).2.2.1 := nI_inj (by omega) (by omega) c56
              refine gk_iconst (v := 0) dX11_unlike_62 (pc' := 63) rfl (by decide) ?_
              refine gk_istore3 dX11_unlike_63 (pc' := 64) rfl (by decide) rfl ?_
              refine gk_iconst (v := 0) dX11_unlike_64 (pc' := 65) rfl (by decide) ?_
              refine gk_istore4 dX11_unlike_65 (pc' := 67) rfl (by decide) rfl ?_
              exact lp_Mo_unlike pr1 pr8 hj1 hj8 ar1 k43 k56 (hB _ ((if_pos (by omega)).trans (if_neg (by intro z; rcases z with z | z | z | z; exact k19 z; exact k27 z; exact z k43; exact z k56)))) ((pcS S (nI j1)).2.1 * (pcS S (nI j1)).2.2.1) 0 (by omega)
            · have k56 : ¬ (pcS S (nI j1)).2.2.1 = (pcS S (nI j8)).2.2.1 := fun e => c56 (by rw [e])
              refine gk_ldc dX11_unlike_59 (pc' := 61) rfl gw_869 ?_
              refine gk_iret dX11_unlike_61 rfl (hB _ ((if_pos (by omega)).trans (if_pos (by first | exact Or.inl k19 | exact Or.inr (Or.inl k27) | exact Or.inr (Or.inr (Or.inl k43)) | exact Or.inr (Or.inr (Or.inr k56))))))
        · refine ⟨_, rfl, ?_⟩
          refine gk_if_eq dX11_unlike_30 (tgt := 59) (pc' := 33) (by decide) rfl (fun _ => ?_) (fun c => absurd c (by decide))
          refine gk_ldc dX11_unlike_59 (pc' := 61) rfl gw_869 ?_
          refine gk_iret dX11_unlike_61 rfl (hB _ ((if_pos (by omega)).trans (if_pos (by first | exact Or.inl k19 | exact Or.inr (Or.inl k27) | exact Or.inr (Or.inr (Or.inl k43)) | exact Or.inr (Or.inr (Or.inr k56))))))
      · refine ⟨_, rfl, ?_⟩
        refine gk_if_eq dX11_unlike_22 (tgt := 59) (pc' := 25) (by decide) rfl (fun _ => ?_) (fun c => absurd c (by decide))
        refine gk_ldc dX11_unlike_59 (pc' := 61) rfl gw_869 ?_
        refine gk_iret dX11_unlike_61 rfl (hB _ ((if_pos (by omega)).trans (if_pos (by first | exact Or.inl k19 | exact Or.inr (Or.inl k27) | exact Or.inr (Or.inr (Or.inl k43)) | exact Or.inr (Or.inr (Or.inr k56))))))
    · refine ⟨_, rfl, ?_⟩
      refine gk_if_ne dX11_unlike_11 (tgt := 17) (pc' := 14) (by decide) rfl (fun c => absurd c (by decide)) (fun _ => ?_)
      refine gk_ldc dX11_unlike_14 (pc' := 16) rfl gw_891 ?_
      refine gk_iret dX11_unlike_16 rfl (hB _ (if_neg (by omega)))
  · refine ⟨_, rfl, ?_⟩
    refine gk_if_eq dX11_unlike_4 (tgt := 14) (pc' := 7) (by decide) rfl (fun _ => ?_) (fun c => absurd c (by decide))
    refine gk_ldc dX11_unlike_14 (pc' := 16) rfl gw_891 ?_
    refine gk_iret dX11_unlike_16 rfl (hB _ (if_neg (by omega)))
theorem sp_Mo_isSpot {x y : Int32} (ht : ∀ i j, i < 16 → j < 16 → x = nI i → y = nI j → Q (some (.int 1)) h) (hf : ¬ (0 ≤ x.toInt ∧ x.toInt < 16 ∧ 0 ≤ y.toInt ∧ y.toInt < 16) → Q (some (.int 0)) h) : Gm (kx X) mt_Mo_isSpot (d + 1) b [.int x, .int y] h Q := by
  have zx := i2l_i x
  have zy := i2l_i y
  have z0 : (0 : Int64).toInt = 0 := rfl
  have z15 : (15 : Int64).toInt = 15 := rfl
  refine Gm.enter (L := [some (.int x), some (.int y)]) (by decide) (fun _ => trivial) (Nat.le_of_ble_eq_true rfl) rfl ?_
  refine gk_iload0 dX11_isSpot_0 (pc' := 1) rfl ?_
  refine gk_i2l dX11_isSpot_1 (pc' := 2) rfl ?_
  refine gk_lconst (v := 0) dX11_isSpot_2 (pc' := 3) rfl (by decide) ?_
  refine gk_ldc2 dX11_isSpot_3 (pc' := 6) rfl gw_1050 ?_
  refine gk_cS1_3 mz_Mo_in gw_886 dX11_isSpot_6 (pc' := 9) rfl (Nat.le_of_ble_eq_true rfl) (sp_Mo_in (fun q1 q2 => ?_) (fun q1 => ?_))
  · refine ⟨_, rfl, ?_⟩
    refine gk_if_eq dX11_isSpot_9 (tgt := 28) (pc' := 12) (by decide) rfl (fun c => absurd c (by decide)) (fun _ => ?_)
    refine gk_iload1 dX11_isSpot_12 (pc' := 13) rfl ?_
    refine gk_i2l dX11_isSpot_13 (pc' := 14) rfl ?_
    refine gk_lconst (v := 0) dX11_isSpot_14 (pc' := 15) rfl (by decide) ?_
    refine gk_ldc2 dX11_isSpot_15 (pc' := 18) rfl gw_1050 ?_
    refine gk_cS1_3 mz_Mo_in gw_886 dX11_isSpot_18 (pc' := 21) rfl (Nat.le_of_ble_eq_true rfl) (sp_Mo_in (fun q3 q4 => ?_) (fun q3 => ?_))
    · refine ⟨_, rfl, ?_⟩
      obtain ⟨i, hi, ei⟩ := pu_of (x := x) (n := 16) (by omega) (by omega) (by omega)
      obtain ⟨j, hj, ej⟩ := pu_of (x := y) (n := 16) (by omega) (by omega) (by omega)
      refine gk_if_eq dX11_isSpot_21 (tgt := 28) (pc' := 24) (by decide) rfl (fun c => absurd c (by decide)) (fun _ => ?_)
      refine gk_iconst (v := 1) dX11_isSpot_24 (pc' := 25) rfl (by decide) ?_
      refine gk_goto dX11_isSpot_25 (tgt := 29) (by decide) ?_
      refine gk_zret dX11_isSpot_29 rfl rfl (by first | exact ht i j hi hj ei ej | exact hf (by omega))
    · refine ⟨_, rfl, ?_⟩
      refine gk_if_eq dX11_isSpot_21 (tgt := 28) (pc' := 24) (by decide) rfl (fun _ => ?_) (fun c => absurd c (by decide))
      refine gk_iconst (v := 0) dX11_isSpot_28 (pc' := 29) rfl (by decide) ?_
      refine gk_zret dX11_isSpot_29 rfl rfl (by first | exact ht i j hi hj ei ej | exact hf (by omega))
  · refine ⟨_, rfl, ?_⟩
    refine gk_if_eq dX11_isSpot_9 (tgt := 28) (pc' := 12) (by decide) rfl (fun _ => ?_) (fun c => absurd c (by decide))
    refine gk_iconst (v := 0) dX11_isSpot_28 (pc' := 29) rfl (by decide) ?_
    refine gk_zret dX11_isSpot_29 rfl rfl (by first | exact ht i j hi hj ei ej | exact hf (by omega))
theorem sp_Mo_spot {q x y : Nat} (hQ : Q (some (.int (nI (2072 + 256 * q + 16 * y + x)))) h) : Gm (kx X) mt_Mo_spot d b [.int (nI q), .int (nI x), .int (nI y)] h Q := by
  refine Gm.enter (L := [some (.int (nI q)), some (.int (nI x)), some (.int (nI y))]) (by decide) (fun _ => trivial) (Nat.le_of_ble_eq_true rfl) rfl ?_
  refine gk_sipush (v := nI 2072) dX11_spot_0 (pc' := 3) rfl (by decide) ?_
  refine gk_sipush (v := nI 256) dX11_spot_3 (pc' := 6) rfl (by decide) ?_
  refine gk_iload0 dX11_spot_6 (pc' := 7) rfl ?_
  refine gk_imulN dX11_spot_7 (pc' := 8) rfl ?_
  refine gk_iaddN dX11_spot_8 (pc' := 9) rfl ?_
  refine gk_bipush (v := nI 16) dX11_spot_9 (pc' := 11) rfl (by decide) ?_
  refine gk_iload2 dX11_spot_11 (pc' := 12) rfl ?_
  refine gk_imulN dX11_spot_12 (pc' := 13) rfl ?_
  refine gk_iaddN dX11_spot_13 (pc' := 14) rfl ?_
  refine gk_iload1 dX11_spot_14 (pc' := 15) rfl ?_
  refine gk_iaddN dX11_spot_15 (pc' := 16) rfl ?_
  refine gk_iret dX11_spot_16 rfl hQ
theorem mo_isOn {p x y : Int32} (hM : Mod X h m S) (hw : wfS S) (hQ : ∀ h', Mod X h' m (oIsOn S p x y).2 → frO m h h' → Q (some (.int (oIsOn S p x y).1)) h') : Gm (kx X) mt_Mo_isOn (d + 10) b [.ref m, .int p, .int x, .int y] h Q := by
  obtain ⟨h0, A, Z, rfl, hS⟩ := hM
  have hE : ∀ a0 S' A' Z', oIsOn S p x y = (a0, S') → MoS A' Z' S' → Q (some (.int a0)) (mkH X h0 m A' Z') := fun a0 S' A' Z' e0 h1 => by
    have q := hQ (mkH X h0 m A' Z')
    rw [e0] at q
    exact q ⟨h0, A', Z', rfl, h1⟩ mk_fr
  have hB : ∀ a0, oIsOn S p x y = (a0, S) → Q (some (.int a0)) (mkH X h0 m A Z) := fun a0 e0 => hE a0 S A Z e0 hS
  refine Gm.enter (L := [some (.ref m), some (.int p), some (.int x), some (.int y)]) (by decide) (fun _ => trivial) (Nat.le_of_ble_eq_true rfl) rfl ?_
  refine gk_iload1 dX11_isOn_0 (pc' := 1) rfl ?_
  refine gk_cS1_1 mz_Mo_isMask gw_1044 dX11_isOn_1 (pc' := 4) rfl (Nat.le_of_ble_eq_true rfl) (sp_Mo_isMask (fun j1 hj1 ej1 => ?_) (fun n1 => ?_))
  · refine ⟨_, rfl, ?_⟩
    subst ej1
    have zj1 : (nI j1).toInt = j1 := nI_toInt (by omega)
    have yj1 : (nI j1).toInt.toNat = j1 := by omega
    have pr1 := hS.msk hj1
    refine gk_if_eq dX11_isOn_4 (tgt := 29) (pc' := 7) (by decide) rfl (fun c => absurd c (by decide)) (fun _ => ?_)
    refine gk_iload2 dX11_isOn_7 (pc' := 8) rfl ?_
    refine gk_iload3 dX11_isOn_8 (pc' := 9) rfl ?_
    refine gk_cS1_2 mz_Mo_isSpot gw_1047 dX11_isOn_9 (pc' := 12) rfl (Nat.le_of_ble_eq_true rfl) (sp_Mo_isSpot (fun i j hi hj ei ej => ?_) (fun n9 => ?_))
    · refine ⟨_, rfl, ?_⟩
      subst ei ej
      have zi : (nI i).toInt = i := nI_toInt (by omega)
      have zj : (nI j).toInt = j := nI_toInt (by omega)
      refine gk_if_eq dX11_isOn_12 (tgt := 29) (pc' := 15) (by decide) rfl (fun c => absurd c (by decide)) (fun _ => ?_)
      refine gk_aload0 dX11_isOn_15 (pc' := 16) rfl ?_
      refine gk_getf (fs := [_, _, _, _, _, _, _, _, _, _, _, _, _, _, _, _, _, _, _, _, _, _, _, _, _, _]) gF_Mo_7 dX11_isOn_16 (pc' := 19) rfl (by exact (mkJ)) rfl ?_
      refine gk_iload1 dX11_isOn_19 (pc' := 20) rfl ?_
      refine gk_iload2 dX11_isOn_20 (pc' := 21) rfl ?_
      refine gk_iload3 dX11_isOn_21 (pc' := 22) rfl ?_
      refine gk_cS1_3 mz_Mo_spot gw_1051 dX11_isOn_22 (pc' := 25) rfl (Nat.le_of_ble_eq_true rfl) (sp_Mo_spot ?_)
      refine ⟨_, rfl, ?_⟩
      refine gk_iald (t0 := 0) rfl dX11_isOn_25 (pc' := 26) rfl (by exact (mkA1)) (vp_in_nI (by omega) (by decide)) ?_
      rw [nI_clamp (by omega)]
      rw [pr1 j hj i hi]
      refine gk_goto dX11_isOn_26 (tgt := 31) (by decide) ?_
      refine gk_iret dX11_isOn_31 rfl (by first | exact hB _ (if_neg (by omega)) | exact hB _ ((if_pos (by omega)).trans (by rw [nI_nat (j := i) (by omega), nI_nat (j := j) (by omega)])))
    · refine ⟨_, rfl, ?_⟩
      refine gk_if_eq dX11_isOn_12 (tgt := 29) (pc' := 15) (by decide) rfl (fun _ => ?_) (fun c => absurd c (by decide))
      refine gk_ldc dX11_isOn_29 (pc' := 31) rfl gw_891 ?_
      refine gk_iret dX11_isOn_31 rfl (by first | exact hB _ (if_neg (by omega)) | exact hB _ ((if_pos (by omega)).trans (by rw [nI_nat (j := i) (by omega), nI_nat (j := j) (by omega)])))
  · refine ⟨_, rfl, ?_⟩
    refine gk_if_eq dX11_isOn_4 (tgt := 29) (pc' := 7) (by decide) rfl (fun _ => ?_) (fun c => absurd c (by decide))
    refine gk_ldc dX11_isOn_29 (pc' := 31) rfl gw_891 ?_
    refine gk_iret dX11_isOn_31 rfl (by first | exact hB _ (if_neg (by omega)) | exact hB _ ((if_pos (by omega)).trans (by rw [nI_nat (j := i) (by omega), nI_nat (j := j) (by omega)])))
theorem mo_byteTo {v : Int32} (hM : Mod X h m S) (hw : wfS S) (hQ : ∀ h', Mod X h' m (oByteTo S v).2 → frO m h h' → Q (some (.int (oByteTo S v).1)) h') : Gm (kx X) mt_Mo_byteTo (d + 10) b [.ref m, .int v] h Q := by
  obtain ⟨h0, A, Z, rfl, hS⟩ := hM
  have hE : ∀ a0 S' A' Z', oByteTo S v = (a0, S') → MoS A' Z' S' → Q (some (.int a0)) (mkH X h0 m A' Z') := fun a0 S' A' Z' e0 h1 => by
    have q := hQ (mkH X h0 m A' Z')
    rw [e0] at q
    exact q ⟨h0, A', Z', rfl, h1⟩ mk_fr
  have hB : ∀ a0, oByteTo S v = (a0, S) → Q (some (.int a0)) (mkH X h0 m A Z) := fun a0 e0 => hE a0 S A Z e0 hS
  have zv := i2l_i v
  have z0 : (0 : Int64).toInt = 0 := rfl
  have z255 : (255 : Int64).toInt = 255 := rfl
  have z800 : (800 : Int32) = nI 800 := rfl
  have l800 := hw.2.2.1
  have hS0 := hS
  obtain ⟨s1, s2, ⟨s3, s4, s5, s6⟩, s7, s8⟩ := hS
  refine Gm.enter (L := [some (.ref m), some (.int v)]) (by decide) (fun _ => trivial) (Nat.le_of_ble_eq_true rfl) rfl ?_
  refine gk_iload1 dX11_byteTo_0 (pc' := 1) rfl ?_
  refine gk_i2l dX11_byteTo_1 (pc' := 2) rfl ?_
  refine gk_lconst (v := 0) dX11_byteTo_2 (pc' := 3) rfl (by decide) ?_
  refine gk_ldc2 dX11_byteTo_3 (pc' := 6) rfl gw_944 ?_
  refine gk_cS1_3 mz_Mo_in gw_886 dX11_byteTo_6 (pc' := 9) rfl (Nat.le_of_ble_eq_true rfl) (sp_Mo_in (fun u6 v6 => ?_) (fun n6 => ?_))
  · refine ⟨_, rfl, ?_⟩
    refine gk_if_ne dX11_byteTo_9 (tgt := 15) (pc' := 12) (by decide) rfl (fun _ => ?_) (fun c => absurd c (by decide))
    refine gk_aload0 dX11_byteTo_15 (pc' := 16) rfl ?_
    refine gk_getf (fs := [_, _, _, _, _, _, _, _, _, _, _, _, _, _, _, _, _, _, _, _, _, _, _, _, _, _]) gF_Mo_266 dX11_byteTo_16 (pc' := 19) rfl (by exact (mkJ)) rfl ?_
    rw [s6]
    refine gk_sipush (v := 800) dX11_byteTo_19 (pc' := 22) rfl (by decide) ?_
    refine gk_icmp_ne dX11_byteTo_22 (tgt := 28) (pc' := 25) (by decide) rfl (fun c22 => ?_) (fun c22 => ?_)
    · have hn : ¬ S.2.2.2 = 800 := fun e => c22 (by rw [e]; rfl)
      refine gk_aload0 dX11_byteTo_28 (pc' := 29) rfl ?_
      refine gk_getf (fs := [_, _, _, _, _, _, _, _, _, _, _, _, _, _, _, _, _, _, _, _, _, _, _, _, _, _]) gF_Mo_32 dX11_byteTo_29 (pc' := 32) rfl (by exact (mkJ)) rfl ?_
      refine gk_aload0 dX11_byteTo_32 (pc' := 33) rfl ?_
      refine gk_getf (fs := [_, _, _, _, _, _, _, _, _, _, _, _, _, _, _, _, _, _, _, _, _, _, _, _, _, _]) gF_Mo_266 dX11_byteTo_33 (pc' := 36) rfl (by exact (mkJ)) rfl ?_
      rw [s6]
      refine gk_iload1 dX11_byteTo_36 (pc' := 37) rfl ?_
      refine gk_iast (t0 := 0) rfl dX11_byteTo_37 (pc' := 38) rfl (by exact (mkA8)) (vp_in_nI (by omega) (by decide)) ?_
      rw [nI_clamp (by omega), mkS8]
      refine gk_aload0 dX11_byteTo_38 (pc' := 39) rfl ?_
      refine gk_dup dX11_byteTo_39 (pc' := 40) rfl rfl ?_
      refine gk_getf (fs := [_, _, _, _, _, _, _, _, _, _, _, _, _, _, _, _, _, _, _, _, _, _, _, _, _, _]) gF_Mo_266 dX11_byteTo_40 (pc' := 43) rfl (by exact (mkJ)) rfl ?_
      rw [s6]
      refine gk_iconst (v := nI 1) dX11_byteTo_43 (pc' := 44) rfl (by decide) ?_
      refine gk_iaddN dX11_byteTo_44 (pc' := 45) rfl ?_
      refine gk_putf (fs := [_, _, _, _, _, _, _, _, _, _, _, _, _, _, _, _, _, _, _, _, _, _, _, _, _, _]) gP_Mo_266 dX11_byteTo_45 (pc' := 48) rfl (by exact (mkJ)) rfl rfl (Nat.le_of_ble_eq_true rfl) ?_
      rw [mkP3]
      refine gk_aload0 dX11_byteTo_48 (pc' := 49) rfl ?_
      refine gk_getf (fs := [_, _, _, _, _, _, _, _, _, _, _, _, _, _, _, _, _, _, _, _, _, _, _, _, _, _]) gF_Mo_266 dX11_byteTo_49 (pc' := 52) rfl (by exact (mkJ)) rfl ?_
      rw [pk_us]
      refine gk_iret dX11_byteTo_52 rfl (hE _ (S.1, S.2.1, (upd S.2.2.1 S.2.2.2 v, S.2.2.2 + 1)) _ _ ((if_pos (by omega)).trans (if_neg hn)) ⟨s1, s2, ⟨s3, s4, s5, pk_us⟩, s7, fun i hi => ?_⟩)
      have hi : i < S.2.2.2 + 1 := hi
      show uA A 8 (upd (A 8) S.2.2.2 v) 8 i = upd S.2.2.1 S.2.2.2 v i
      rw [uA_s]
      by_cases e : i = S.2.2.2
      · rw [e, pk_us, pk_us]
      · rw [pk_un e, pk_un e]; exact s8 i (by omega)
    · have hn : S.2.2.2 = 800 := nI_inj (by omega) (by omega) (c22.trans z800)
      refine gk_ldc dX11_byteTo_25 (pc' := 27) rfl gw_1004 ?_
      refine gk_iret dX11_byteTo_27 rfl (hB _ ((if_pos (by omega)).trans (if_pos hn)))
  · refine ⟨_, rfl, ?_⟩
    refine gk_if_ne dX11_byteTo_9 (tgt := 15) (pc' := 12) (by decide) rfl (fun c => absurd c (by decide)) (fun _ => ?_)
    refine gk_ldc dX11_byteTo_12 (pc' := 14) rfl gw_891 ?_
    refine gk_iret dX11_byteTo_14 rfl (hB _ (if_neg (by omega)))
theorem lp_Mo_count {W : Int32} (hS : MoS A Z S) (hw : wfS S) (hQ : Q (some (.int (nI (stdN (cuH S.1) 8)))) (mkH X h0 m A Z)) : ∀ n i, i + n = 8 → G (kx X) mt_Mo_count (d + 10) b 43 [some (.ref m), some (.int W), some (.int (nI (stdN (cuH S.1) i))), some (.int (nI i))] [] (mkH X h0 m A Z) Q := by
  intro n
  induction n with
  | zero =>
    intro i hi
    have e : i = 8 := by omega
    subst e
    refine gk_iload3 dX11_count_43 (pc' := 44) rfl ?_
    refine gk_bipush (v := 8) dX11_count_44 (pc' := 46) rfl (by decide) ?_
    refine gk_icmp_ge dX11_count_46 (tgt := 71) (pc' := 49) (by decide) rfl (fun c46 => ?_) (fun c46 => absurd (by decide) c46)
    refine gk_iload2 dX11_count_71 (pc' := 72) rfl ?_
    refine gk_iret dX11_count_72 rfl hQ
  | succ n ih =>
    intro i hi
    have q := ih (i + 1) (by omega)
    have pr := hS.pic (show i < 8 by omega)
    refine gk_iload3 dX11_count_43 (pc' := 44) rfl ?_
    refine gk_bipush (v := 8) dX11_count_44 (pc' := 46) rfl (by decide) ?_
    refine gk_icmp_ge dX11_count_46 (tgt := 71) (pc' := 49) (by decide) rfl (fun c46 => absurd c46 (nI_ge (b := 8) (by omega) (by omega))) (fun c46 => ?_)
    refine gk_iload2 dX11_count_49 (pc' := 50) rfl ?_
    refine gk_aload0 dX11_count_50 (pc' := 51) rfl ?_
    refine gk_iload3 dX11_count_51 (pc' := 52) rfl ?_
    refine gk_cV1_1 mv_Mo_isThere gw_905 dX11_count_52 (pc' := 55) rfl (Nat.le_of_ble_eq_true rfl) (by exact (mkJ)) (sp_Mo_isThere pr (by omega) (hw.1.cu.1 i (by omega)) (fun k52 => ?_) (fun k52 => ?_))
    · refine ⟨_, rfl, ?_⟩
      refine gk_if_eq dX11_count_55 (tgt := 62) (pc' := 58) (by decide) rfl (fun c => absurd c (by decide)) (fun _ => ?_)
      refine gk_iconst (v := nI 1) dX11_count_58 (pc' := 59) rfl (by decide) ?_
      refine gk_goto dX11_count_59 (tgt := 63) (by decide) ?_
      refine gk_iaddN dX11_count_63 (pc' := 64) rfl ?_
      refine gk_istore2 dX11_count_64 (pc' := 65) rfl (by decide) rfl ?_
      refine gk_iinc3 (v := 1) dX11_count_65 (pc' := 68) rfl (by decide) (by decide) rfl ?_
      refine gk_goto dX11_count_68 (tgt := 43) (by decide) ?_
      rw [← nI_succ i]
      first | (rw [stdN, if_neg k52] at q; exact q) | (rw [stdN, if_pos k52] at q; exact q)
    · refine ⟨_, rfl, ?_⟩
      refine gk_if_eq dX11_count_55 (tgt := 62) (pc' := 58) (by decide) rfl (fun _ => ?_) (fun c => absurd c (by decide))
      refine gk_iconst (v := nI 0) dX11_count_62 (pc' := 63) rfl (by decide) ?_
      refine gk_iaddN dX11_count_63 (pc' := 64) rfl ?_
      refine gk_istore2 dX11_count_64 (pc' := 65) rfl (by decide) rfl ?_
      refine gk_iinc3 (v := 1) dX11_count_65 (pc' := 68) rfl (by decide) (by decide) rfl ?_
      refine gk_goto dX11_count_68 (tgt := 43) (by decide) ?_
      rw [← nI_succ i]
      first | (rw [stdN, if_neg k52] at q; exact q) | (rw [stdN, if_pos k52] at q; exact q)
theorem mo_count {w : Int32} (hM : Mod X h m S) (hw : wfS S) (hQ : ∀ h', Mod X h' m (oCount S w).2 → frO m h h' → Q (some (.int (oCount S w).1)) h') : Gm (kx X) mt_Mo_count (d + 10) b [.ref m, .int w] h Q := by
  obtain ⟨h0, A, Z, rfl, hS⟩ := hM
  have hE : ∀ a0 S' A' Z', oCount S w = (a0, S') → MoS A' Z' S' → Q (some (.int a0)) (mkH X h0 m A' Z') := fun a0 S' A' Z' e0 h1 => by
    have q := hQ (mkH X h0 m A' Z')
    rw [e0] at q
    exact q ⟨h0, A', Z', rfl, h1⟩ mk_fr
  have hB : ∀ a0, oCount S w = (a0, S) → Q (some (.int a0)) (mkH X h0 m A Z) := fun a0 e0 => hE a0 S A Z e0 hS
  have hC : ∀ a, (oCount S w).1 = a → Q (some (.int a)) (mkH X h0 m A Z) := fun a e => hE a S A Z (by rw [← e]; rfl) hS
  have w1 := hw.1.1
  have w2 := hw.1.2.1
  have hS0 := hS
  obtain ⟨s1, s2, ⟨s3, s4, s5, s6⟩, s7, s8⟩ := hS
  refine Gm.enter (L := [some (.ref m), some (.int w), none, none]) (by decide) (fun _ => trivial) (Nat.le_of_ble_eq_true rfl) rfl ?_
  by_cases hw5 : 0 ≤ w.toInt ∧ w.toInt < 5
  · obtain ⟨j, hj, rfl⟩ := pu_of (x := w) (n := 5) hw5.1 hw5.2 (by omega)
    clear hw5
    rcases (show j = 0 ∨ j = 1 ∨ j = 2 ∨ j = 3 ∨ j = 4 by omega) with rfl | rfl | rfl | rfl | rfl
    · refine gk_iconst (v := 0) dX11_count_0 (pc' := 1) rfl (by decide) ?_
      refine gk_istore2 dX11_count_1 (pc' := 2) rfl (by decide) rfl ?_
      refine gk_iload1 dX11_count_2 (pc' := 3) rfl ?_
      refine gk_tableIn dX11_count_3 (tgt := 36) (off := 33) (by decide) (by decide) (by decide +kernel) (by decide) ?_
      refine gk_aload0 dX11_count_36 (pc' := 37) rfl ?_
      refine gk_getf (fs := [_, _, _, _, _, _, _, _, _, _, _, _, _, _, _, _, _, _, _, _, _, _, _, _, _, _]) gF_Mo_170 dX11_count_37 (pc' := 40) rfl (by exact (mkJ)) rfl ?_
      rw [s5]
      refine gk_iret dX11_count_40 rfl (hC _ rfl)
    · refine gk_iconst (v := 0) dX11_count_0 (pc' := 1) rfl (by decide) ?_
      refine gk_istore2 dX11_count_1 (pc' := 2) rfl (by decide) rfl ?_
      refine gk_iload1 dX11_count_2 (pc' := 3) rfl ?_
      refine gk_tableIn dX11_count_3 (tgt := 41) (off := 38) (by decide) (by decide) (by decide +kernel) (by decide) ?_
      refine gk_iconst (v := 0) dX11_count_41 (pc' := 42) rfl (by decide) ?_
      refine gk_istore3 dX11_count_42 (pc' := 43) rfl (by decide) rfl ?_
      exact lp_Mo_count hS0 hw (hC _ rfl) 8 0 (by omega)
    · refine gk_iconst (v := 0) dX11_count_0 (pc' := 1) rfl (by decide) ?_
      refine gk_istore2 dX11_count_1 (pc' := 2) rfl (by decide) rfl ?_
      refine gk_iload1 dX11_count_2 (pc' := 3) rfl ?_
      refine gk_tableIn dX11_count_3 (tgt := 73) (off := 70) (by decide) (by decide) (by decide +kernel) (by decide) ?_
      refine gk_aload0 dX11_count_73 (pc' := 74) rfl ?_
      refine gk_getf (fs := [_, _, _, _, _, _, _, _, _, _, _, _, _, _, _, _, _, _, _, _, _, _, _, _, _, _]) gF_Mo_88 dX11_count_74 (pc' := 77) rfl (by exact (mkJ)) rfl ?_
      rw [s3]
      refine gk_iret dX11_count_77 rfl (hC _ rfl)
    · refine gk_iconst (v := 0) dX11_count_0 (pc' := 1) rfl (by decide) ?_
      refine gk_istore2 dX11_count_1 (pc' := 2) rfl (by decide) rfl ?_
      refine gk_iload1 dX11_count_2 (pc' := 3) rfl ?_
      refine gk_tableIn dX11_count_3 (tgt := 78) (off := 75) (by decide) (by decide) (by decide +kernel) (by decide) ?_
      refine gk_aload0 dX11_count_78 (pc' := 79) rfl ?_
      refine gk_getf (fs := [_, _, _, _, _, _, _, _, _, _, _, _, _, _, _, _, _, _, _, _, _, _, _, _, _, _]) gF_Mo_93 dX11_count_79 (pc' := 82) rfl (by exact (mkJ)) rfl ?_
      rw [s4]
      refine gk_aload0 dX11_count_82 (pc' := 83) rfl ?_
      refine gk_getf (fs := [_, _, _, _, _, _, _, _, _, _, _, _, _, _, _, _, _, _, _, _, _, _, _, _, _, _]) gF_Mo_88 dX11_count_83 (pc' := 86) rfl (by exact (mkJ)) rfl ?_
      rw [s3]
      refine gk_isubN dX11_count_86 (pc' := 87) rfl (by omega) ?_
      refine gk_iret dX11_count_87 rfl (hC _ rfl)
    · refine gk_iconst (v := 0) dX11_count_0 (pc' := 1) rfl (by decide) ?_
      refine gk_istore2 dX11_count_1 (pc' := 2) rfl (by decide) rfl ?_
      refine gk_iload1 dX11_count_2 (pc' := 3) rfl ?_
      refine gk_tableIn dX11_count_3 (tgt := 88) (off := 85) (by decide) (by decide) (by decide +kernel) (by decide) ?_
      refine gk_aload0 dX11_count_88 (pc' := 89) rfl ?_
      refine gk_getf (fs := [_, _, _, _, _, _, _, _, _, _, _, _, _, _, _, _, _, _, _, _, _, _, _, _, _, _]) gF_Mo_266 dX11_count_89 (pc' := 92) rfl (by exact (mkJ)) rfl ?_
      rw [s6]
      refine gk_iret dX11_count_92 rfl (hC _ rfl)
  · have e : (oCount S w).1 = -100001 := by
      have n : ∀ j : Nat, j < 5 → ¬ w = nI j := fun j hj q => hw5 (by rw [q, nI_toInt (by omega)]; omega)
      show (if w = 0 then _ else if w = 1 then _ else if w = 2 then _ else if w = 3 then _ else if w = 4 then _ else (-100001 : Int32)) = _
      rw [if_neg (show ¬ w = 0 from n 0 (by omega)), if_neg (show ¬ w = 1 from n 1 (by omega)), if_neg (show ¬ w = 2 from n 2 (by omega)), if_neg (show ¬ w = 3 from n 3 (by omega)), if_neg (show ¬ w = 4 from n 4 (by omega))]
    refine gk_iconst (v := 0) dX11_count_0 (pc' := 1) rfl (by decide) ?_
    refine gk_istore2 dX11_count_1 (pc' := 2) rfl (by decide) rfl ?_
    refine gk_iload1 dX11_count_2 (pc' := 3) rfl ?_
    refine gk_tableOut dX11_count_3 (tgt := 93) (by omega) (by decide) ?_
    refine gk_ldc dX11_count_93 (pc' := 95) rfl gw_891 ?_
    refine gk_iret dX11_count_95 rfl (hC _ e)
end MoE
