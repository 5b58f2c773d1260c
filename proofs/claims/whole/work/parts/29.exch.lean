/-! ===== Room: exchange, undo, redo ===== -/
abbrev gotoH (H : Hi) (n : Nat) : Hi := (H.1, n, H.2.2)
theorem RmL.sP {H : Hi} {fst : Nat} {cn : Nat → Pc} {mn : Nat → Nat → Nat} {om sl : Nat → Int32} (hL : RmL H fst cn mn om sl) (hw : wfH H) (h1 : fst < 16) {j0 n' i : Nat} (hj0 : j0 < H.2.2.1) (hb : H.2.2.2.1 j0 = false) (hi : i = (fst + j0) % 16) (hn : (n' = j0 ∧ H.2.1 = j0 + 1) ∨ (n' = j0 + 1 ∧ H.2.1 = j0)) :
    RmL (gotoH H n') fst (fun j => if j = H.2.2.2.2 j0 then cn (9 + i) else if j = 9 + i then cn (H.2.2.2.2 j0) else cn j) mn om sl := by
  obtain ⟨l1, l2, l3⟩ := hL
  obtain ⟨w1, w2, w3, w4, w5⟩ := hw
  have s8 := (w3 j0 hj0).2 hb
  obtain ⟨d1, d2⟩ := (w4 j0 hj0).2 hb
  have l30 := l3 j0 hj0
  rw [← hi] at l30
  refine ⟨fun q hq => ?_, fun q hq => ?_, fun j hj => ?_⟩
  · show (if q = H.2.2.2.2 j0 then cn (9 + i) else if q = 9 + i then cn (H.2.2.2.2 j0) else cn q) = (H.1 n').1 q
    by_cases e : q = H.2.2.2.2 j0
    · rw [if_pos e, e, l30.2.2.1 hb]
      rcases hn with ⟨rfl, hn⟩ | ⟨rfl, hn⟩
      · rw [if_pos (by omega)]
      · rw [if_neg (by omega)]
    · rw [if_neg e, if_neg (by omega), l1 q hq]
      show (H.1 H.2.1).1 q = _
      rcases hn with ⟨rfl, hn⟩ | ⟨rfl, hn⟩
      · rw [hn]; exact d2 q e
      · rw [hn]; exact (d2 q e).symm
  · rw [l2 q hq]
    show (H.1 H.2.1).2 q = (H.1 n').2 q
    rcases hn with ⟨rfl, hn⟩ | ⟨rfl, hn⟩
    · rw [hn, d1]
    · rw [hn, d1]
  · have hj : j < H.2.2.1 := hj
    have l3j := l3 j hj
    refine ⟨l3j.1, l3j.2.1, fun hf => ?_, fun hf => ?_⟩
    · show (if 9 + (fst + j) % 16 = H.2.2.2.2 j0 then cn (9 + i) else if 9 + (fst + j) % 16 = 9 + i then cn (H.2.2.2.2 j0) else cn (9 + (fst + j) % 16)) = (H.1 (if j < n' then j else j + 1)).1 (H.2.2.2.2 j)
      rw [if_neg (by omega)]
      by_cases e : j = j0
      · subst e
        rw [if_pos (by omega), l1 _ s8]
        show (H.1 H.2.1).1 _ = _
        rcases hn with ⟨rfl, hn⟩ | ⟨rfl, hn⟩
        · rw [if_neg (by omega), hn]
        · rw [if_pos (by omega), hn]
      · rw [if_neg (by omega), l3j.2.2.1 hf]
        have : (if j < H.2.1 then j else j + 1) = (if j < n' then j else j + 1) := by split <;> split <;> omega
        rw [this]
    · have ne : j ≠ j0 := fun e => by subst e; rw [hb] at hf; cases hf
      have : (if j < H.2.1 then j else j + 1) = (if j < n' then j else j + 1) := by split <;> split <;> omega
      show mn (7 + (fst + j) % 16) = (H.1 (if j < n' then j else j + 1)).2 (H.2.2.2.2 j)
      rw [l3j.2.2.2 hf, this]
theorem RmL.sM {H : Hi} {fst : Nat} {cn : Nat → Pc} {mn : Nat → Nat → Nat} {om sl : Nat → Int32} (hL : RmL H fst cn mn om sl) (hw : wfH H) (h1 : fst < 16) {j0 n' i : Nat} (hj0 : j0 < H.2.2.1) (hb : H.2.2.2.1 j0 = true) (hi : i = (fst + j0) % 16) (hn : (n' = j0 ∧ H.2.1 = j0 + 1) ∨ (n' = j0 + 1 ∧ H.2.1 = j0)) :
    RmL (gotoH H n') fst cn (fun j => if j = H.2.2.2.2 j0 then mn (7 + i) else if j = 7 + i then mn (H.2.2.2.2 j0) else mn j) om sl := by
  obtain ⟨l1, l2, l3⟩ := hL
  obtain ⟨w1, w2, w3, w4, w5⟩ := hw
  have s8 := (w3 j0 hj0).1 hb
  obtain ⟨d1, d2⟩ := (w4 j0 hj0).1 hb
  have l30 := l3 j0 hj0
  rw [← hi] at l30
  refine ⟨fun q hq => ?_, fun q hq => ?_, fun j hj => ?_⟩
  · rw [l1 q hq]
    show (H.1 H.2.1).1 q = (H.1 n').1 q
    rcases hn with ⟨rfl, hn⟩ | ⟨rfl, hn⟩
    · rw [hn, d1]
    · rw [hn, d1]
  · show (if q = H.2.2.2.2 j0 then mn (7 + i) else if q = 7 + i then mn (H.2.2.2.2 j0) else mn q) = (H.1 n').2 q
    by_cases e : q = H.2.2.2.2 j0
    · rw [if_pos e, e, l30.2.2.2 hb]
      rcases hn with ⟨rfl, hn⟩ | ⟨rfl, hn⟩
      · rw [if_pos (by omega)]
      · rw [if_neg (by omega)]
    · rw [if_neg e, if_neg (by omega), l2 q hq]
      show (H.1 H.2.1).2 q = _
      rcases hn with ⟨rfl, hn⟩ | ⟨rfl, hn⟩
      · rw [hn]; exact d2 q e
      · rw [hn]; exact (d2 q e).symm
  · have hj : j < H.2.2.1 := hj
    have l3j := l3 j hj
    refine ⟨l3j.1, l3j.2.1, fun hf => ?_, fun hf => ?_⟩
    · have ne : j ≠ j0 := fun e => by subst e; rw [hb] at hf; cases hf
      have : (if j < H.2.1 then j else j + 1) = (if j < n' then j else j + 1) := by split <;> split <;> omega
      show cn (9 + (fst + j) % 16) = (H.1 (if j < n' then j else j + 1)).1 (H.2.2.2.2 j)
      rw [l3j.2.2.1 hf, this]
    · show (if 7 + (fst + j) % 16 = H.2.2.2.2 j0 then mn (7 + i) else if 7 + (fst + j) % 16 = 7 + i then mn (H.2.2.2.2 j0) else mn (7 + (fst + j) % 16)) = (H.1 (if j < n' then j else j + 1)).2 (H.2.2.2.2 j)
      rw [if_neg (by omega)]
      by_cases e : j = j0
      · subst e
        rw [if_pos (by omega), l2 _ s8]
        show (H.1 H.2.1).2 _ = _
        rcases hn with ⟨rfl, hn⟩ | ⟨rfl, hn⟩
        · rw [if_neg (by omega), hn]
        · rw [if_pos (by omega), hn]
      · rw [if_neg (by omega), l3j.2.2.2 hf]
        have : (if j < H.2.1 then j else j + 1) = (if j < n' then j else j + 1) := by split <;> split <;> omega
        rw [this]
section ExA
variable {X : gX} {d : Nat} {b : Nat × Nat} {h : gk_H} {Q : Option Value → gk_H → Prop} {r F0 : Nat} {H : Hi} {F : Ft} {pc mc : Nat → Nat}
/-- exchange, where the history already stands at n' -/
theorem sp_Room_exchange {fst j0 n' un' i : Nat} {cn : Nat → Pc} {mn : Nat → Nat → Nat} {om sl : Nat → Int32} (hA : RmA X h r F0 F.1 n' un' fst pc mc om sl) (hC : RmC X h pc mc cn mn) (hL : RmL H fst cn mn om sl) (I : RmI r pc mc) (t1 : isFTF X h F0 F) (t2 : h.2 = F0 + 2 * F.1) (t3 : r + 140 ≤ F0) (w1 : wfH H) (w2 : wfT F) (hj0 : j0 < H.2.2.1) (hi : i = (fst + j0) % 16) (hn : (n' = j0 ∧ H.2.1 = j0 + 1) ∨ (n' = j0 + 1 ∧ H.2.1 = j0)) (hun : un' = H.2.2.1 - n')
    (hQ : ∀ h' pc' mc', Rm X h' r F0 (gotoH H n') F pc' mc' → pc' 8 = pc 8 → mc' 6 = mc 6 → fr (kpK r) h h' → Q none h') : Gm (kx X) mt_Room_exchange (d + 3) b [.ref r, .ref (r + 10 + 5 * i)] h Q := by
  obtain ⟨a1, ⟨f1, a2, a3⟩, ⟨f2, a4, a5⟩, ⟨f3, a6, a7⟩, a8, a9, a10⟩ := hA
  obtain ⟨c1, c2⟩ := hC
  have hi16 : i < 16 := by omega
  have l30 := hL.2.2 j0 hj0
  rw [← hi] at l30
  have e10 := a10 i hi16
  have wg : wfH (gotoH H n') := ⟨by show n' ≤ H.2.2.1; omega, w1.2⟩
  cases hb : H.2.2.2.1 j0 with
  | false =>
    have s8 := (w1.2.2.1 j0 hj0).2 hb
    have LL := hL.sP w1 a9 hj0 hb hi hn
    rw [hb] at l30
    generalize hs : H.2.2.2.2 j0 = s at *
    rw [l30.1, l30.2.1] at e10
    have hn9 := (I.1 (9 + i) (by omega)).fx
    refine Gm.enter (L := [some (.ref r), some (.ref (r + 10 + 5 * i)), none]) (by decide) (fun _ => trivial) (Nat.le_of_ble_eq_true rfl) rfl ?_
    refine gk_aload1 dX10_exchange_0 (pc' := 1) rfl ?_
    refine gk_getf (fs := [_, _, _, _]) gF_Room_308 dX10_exchange_1 (pc' := 4) rfl (by exact (e10)) rfl ?_
    refine gk_if_eq dX10_exchange_4 (tgt := 48) (pc' := 7) (by decide) rfl (fun c4 => ?_) (fun c4 => (by simp at c4))
    refine gk_aload1 dX10_exchange_48 (pc' := 49) rfl ?_
    refine gk_getf (fs := [_, _, _, _]) gF_Room_308 dX10_exchange_49 (pc' := 52) rfl (by exact (e10)) rfl ?_
    refine gk_if_ne dX10_exchange_52 (tgt := 93) (pc' := 55) (by decide) rfl (fun c52 => (by simp at c52)) (fun c52 => ?_)
    refine gk_aload1 dX10_exchange_55 (pc' := 56) rfl ?_
    refine gk_getf (fs := [_, _, _, _]) gF_Room_314 dX10_exchange_56 (pc' := 59) rfl (by exact (e10)) rfl ?_
    refine gk_cS1_1 mz_Room_isPicture gw_237 dX10_exchange_59 (pc' := 62) rfl (Nat.le_of_ble_eq_true rfl) (sp_Room_isPicture (fun j hj ej => ?_) (fun z => absurd z (by rw [nI_toInt (by omega)]; omega)))
    refine ⟨_, rfl, ?_⟩
    refine gk_if_eq dX10_exchange_62 (tgt := 93) (pc' := 65) (by decide) rfl (fun c => absurd c (by decide)) (fun _ => ?_)
    refine gk_aload0 dX10_exchange_65 (pc' := 66) rfl ?_
    refine gk_getf (fs := [_, _, _, _, _, _, _, _, _, _, _, _]) gF_Room_11 dX10_exchange_66 (pc' := 69) rfl (by exact (a1)) rfl ?_
    refine gk_aload1 dX10_exchange_69 (pc' := 70) rfl ?_
    refine gk_getf (fs := [_, _, _, _]) gF_Room_314 dX10_exchange_70 (pc' := 73) rfl (by exact (e10)) rfl ?_
    refine gk_aald (t0 := 2) rfl dX10_exchange_73 (pc' := 74) rfl (by exact (a2)) (vp_in_nI s8 (by decide)) ?_
    rw [nI_clamp (by omega), a3 s s8, show va_rf (some (pc s)) = Value.ref (pc s) from rfl]
    refine gk_astore2 dX10_exchange_74 (pc' := 75) rfl (by decide) rfl ?_
    refine gk_aload0 dX10_exchange_75 (pc' := 76) rfl ?_
    refine gk_getf (fs := [_, _, _, _, _, _, _, _, _, _, _, _]) gF_Room_11 dX10_exchange_76 (pc' := 79) rfl (by exact (a1)) rfl ?_
    refine gk_aload1 dX10_exchange_79 (pc' := 80) rfl ?_
    refine gk_getf (fs := [_, _, _, _]) gF_Room_314 dX10_exchange_80 (pc' := 83) rfl (by exact (e10)) rfl ?_
    refine gk_aload1 dX10_exchange_83 (pc' := 84) rfl ?_
    refine gk_getf (fs := [_, _, _, _]) gF_Room_317 dX10_exchange_84 (pc' := 87) rfl (by exact (e10)) rfl ?_
    refine gk_aast (t0 := 2) rfl (r := (RX6, TX6, 4)) rfl dX10_exchange_87 (pc' := 88) rfl (by exact (a2)) (by exact ((c1 (9 + i) (by omega) (by omega)).o)) (vp_in_nI s8 (by decide)) ?_
    rw [nI_clamp (by omega)]
    refine gk_aload1 dX10_exchange_88 (pc' := 89) rfl ?_
    refine gk_aload2 dX10_exchange_89 (pc' := 90) rfl ?_
    refine gk_putf (fs := [_, _, _, _]) gP_Room_317 dX10_exchange_90 (pc' := 93) rfl (by exact ((gk_set_ne (by omega)).trans e10)) rfl rfl (Nat.le_of_ble_eq_true rfl) ?_
    refine gk_vret dX10_exchange_93 rfl ?_
    refine (fun (h5 : gk_H) (g1 : h5.1 (r + 1) = some (cR X 2 8 (va_up f1 s (some (pc (9 + i)))))) (g10 : h5.1 (r + 10 + 5 * i) = some (.inr (0, [.int 0, .int (nI s), .ref (pc s), .ref (mc (7 + i))]))) (gx : ∀ c, c ≠ r + 1 → c ≠ r + 10 + 5 * i → h5.1 c = h.1 c) (gs : h5.2 = h.2) => (?_ : Q none h5)) _ ((gk_set_ne (by omega)).trans gk_set_self) gk_set_self (fun c n1 n2 => (gk_set_ne n2).trans (gk_set_ne n1)) rfl
    have gp : ∀ j, j < 25 → h5.1 (pc j) = h.1 (pc j) ∧ h5.1 (pc j + 1) = h.1 (pc j + 1) := fun j hj => by
      have z1 := (I.1 j hj).fx
      have z2 := (I.1 j hj).act hi16
      exact ⟨gx _ (by omega) (by omega), gx _ (by omega) (by omega)⟩
    have gm : ∀ j, j < 23 → h5.1 (mc j) = h.1 (mc j) ∧ h5.1 (mc j + 1) = h.1 (mc j + 1) := fun j hj => by
      have z1 := (I.2.2.1 j hj).fx
      have z2 := (I.2.2.1 j hj).act hi16
      exact ⟨gx _ (by omega) (by omega), gx _ (by omega) (by omega)⟩
    have q8 : swpP pc s i 8 = pc 8 := by unfold swpP; rw [if_neg (by omega), if_neg (by omega)]
    refine hQ h5 (swpP pc s i) mc ⟨⟨fst, _, mn, om, sl, ⟨by rw [q8]; exact (gx _ (by omega) (by omega)).trans a1, ⟨_, g1, fun q hq => ?_⟩, ⟨f2, (gx _ (by omega) (by omega)).trans a4, a5⟩, ⟨f3, (gx _ (by omega) (by omega)).trans a6, a7⟩, ?_, a9, fun j hj => ?_⟩, ⟨fun j hj n => ?_, fun j hj n => ?_⟩, LL⟩, I.sP s8 hi16, t1.kept (fun c hc => gx _ (by omega) (by omega)), gs.trans t2, t3, wg, w2⟩ q8 rfl ?_
    · show (if q = s then some (pc (9 + i)) else f1 q) = some (swpP pc s i q)
      unfold swpP
      by_cases e : q = s
      · rw [if_pos e, if_pos e]
      · rw [if_neg e, if_neg e, if_neg (by omega)]; exact a3 q hq
    · show isHy X h5 (r + 8) fst n' (H.2.2.1 - n')
      rw [← hun]
      exact a8.kept (gx _ (by omega) (by omega)) (gx _ (by omega) (by omega))
    · unfold swpP
      rw [if_neg (show ¬ 9 + j = s by omega)]
      by_cases e : j = i
      · subst e
        rw [if_pos rfl, l30.1, l30.2.1]; exact g10
      · rw [if_neg (show ¬ 9 + j = 9 + i by omega)]
        exact (gx _ (by omega) (by omega)).trans (a10 j hj)
    · show isPc X h5 (swpP pc s i j) (if j = s then cn (9 + i) else if j = 9 + i then cn s else cn j)
      unfold swpP
      by_cases e : j = s
      · rw [if_pos e, if_pos e]; exact (c1 (9 + i) (by omega) (by omega)).kept (gp _ (by omega)).1 (gp _ (by omega)).2
      · rw [if_neg e, if_neg e]
        by_cases e2 : j = 9 + i
        · rw [if_pos e2, if_pos e2]; exact (c1 s (by omega) (by omega)).kept (gp s (by omega)).1 (gp s (by omega)).2
        · rw [if_neg e2, if_neg e2]; exact (c1 j hj n).kept (gp j hj).1 (gp j hj).2
    · exact (c2 j hj n).kept (gm j hj).1 (gm j hj).2
    · refine ⟨gs, fun c n => ?_⟩
      unfold kpK at n
      exact gx _ (by omega) (by omega)
  | true =>
    have s8 := (w1.2.2.1 j0 hj0).1 hb
    have LL := hL.sM w1 a9 hj0 hb hi hn
    rw [hb] at l30
    generalize hs : H.2.2.2.2 j0 = s at *
    rw [l30.1, l30.2.1] at e10
    have hn9 := (I.2.2.1 (7 + i) (by omega)).fx
    refine Gm.enter (L := [some (.ref r), some (.ref (r + 10 + 5 * i)), none]) (by decide) (fun _ => trivial) (Nat.le_of_ble_eq_true rfl) rfl ?_
    refine gk_aload1 dX10_exchange_0 (pc' := 1) rfl ?_
    refine gk_getf (fs := [_, _, _, _]) gF_Room_308 dX10_exchange_1 (pc' := 4) rfl (by exact (e10)) rfl ?_
    refine gk_if_eq dX10_exchange_4 (tgt := 48) (pc' := 7) (by decide) rfl (fun c4 => (by simp at c4)) (fun c4 => ?_)
    refine gk_aload1 dX10_exchange_7 (pc' := 8) rfl ?_
    refine gk_getf (fs := [_, _, _, _]) gF_Room_314 dX10_exchange_8 (pc' := 11) rfl (by exact (e10)) rfl ?_
    refine gk_cS1_1 mz_Room_isMask gw_421 dX10_exchange_11 (pc' := 14) rfl (Nat.le_of_ble_eq_true rfl) (sp_Room_isMask (fun j hj ej => ?_) (fun z => absurd z (by rw [nI_toInt (by omega)]; omega)))
    refine ⟨_, rfl, ?_⟩
    refine gk_if_eq dX10_exchange_14 (tgt := 48) (pc' := 17) (by decide) rfl (fun c => absurd c (by decide)) (fun _ => ?_)
    refine gk_aload0 dX10_exchange_17 (pc' := 18) rfl ?_
    refine gk_getf (fs := [_, _, _, _, _, _, _, _, _, _, _, _]) gF_Room_17 dX10_exchange_18 (pc' := 21) rfl (by exact (a1)) rfl ?_
    refine gk_aload1 dX10_exchange_21 (pc' := 22) rfl ?_
    refine gk_getf (fs := [_, _, _, _]) gF_Room_314 dX10_exchange_22 (pc' := 25) rfl (by exact (e10)) rfl ?_
    refine gk_aald (t0 := 3) rfl dX10_exchange_25 (pc' := 26) rfl (by exact (a4)) (vp_in_nI s8 (by decide)) ?_
    rw [nI_clamp (by omega), a5 s s8, show va_rf (some (mc s)) = Value.ref (mc s) from rfl]
    refine gk_astore2 dX10_exchange_26 (pc' := 27) rfl (by decide) rfl ?_
    refine gk_aload0 dX10_exchange_27 (pc' := 28) rfl ?_
    refine gk_getf (fs := [_, _, _, _, _, _, _, _, _, _, _, _]) gF_Room_17 dX10_exchange_28 (pc' := 31) rfl (by exact (a1)) rfl ?_
    refine gk_aload1 dX10_exchange_31 (pc' := 32) rfl ?_
    refine gk_getf (fs := [_, _, _, _]) gF_Room_314 dX10_exchange_32 (pc' := 35) rfl (by exact (e10)) rfl ?_
    refine gk_aload1 dX10_exchange_35 (pc' := 36) rfl ?_
    refine gk_getf (fs := [_, _, _, _]) gF_Room_320 dX10_exchange_36 (pc' := 39) rfl (by exact (e10)) rfl ?_
    refine gk_aast (t0 := 3) rfl (r := (RX5, TX5, 1)) rfl dX10_exchange_39 (pc' := 40) rfl (by exact (a4)) (by exact ((c2 (7 + i) (by omega) (by omega)).o)) (vp_in_nI s8 (by decide)) ?_
    rw [nI_clamp (by omega)]
    refine gk_aload1 dX10_exchange_40 (pc' := 41) rfl ?_
    refine gk_aload2 dX10_exchange_41 (pc' := 42) rfl ?_
    refine gk_putf (fs := [_, _, _, _]) gP_Room_320 dX10_exchange_42 (pc' := 45) rfl (by exact ((gk_set_ne (by omega)).trans e10)) rfl rfl (Nat.le_of_ble_eq_true rfl) ?_
    refine gk_goto dX10_exchange_45 (tgt := 93) (by decide) ?_
    refine gk_vret dX10_exchange_93 rfl ?_
    refine (fun (h5 : gk_H) (g1 : h5.1 (r + 2) = some (cR X 3 6 (va_up f2 s (some (mc (7 + i)))))) (g10 : h5.1 (r + 10 + 5 * i) = some (.inr (0, [.int 1, .int (nI s), .ref (pc (9 + i)), .ref (mc s)]))) (gx : ∀ c, c ≠ r + 2 → c ≠ r + 10 + 5 * i → h5.1 c = h.1 c) (gs : h5.2 = h.2) => (?_ : Q none h5)) _ ((gk_set_ne (by omega)).trans gk_set_self) gk_set_self (fun c n1 n2 => (gk_set_ne n2).trans (gk_set_ne n1)) rfl
    have gp : ∀ j, j < 25 → h5.1 (pc j) = h.1 (pc j) ∧ h5.1 (pc j + 1) = h.1 (pc j + 1) := fun j hj => by
      have z1 := (I.1 j hj).fx
      have z2 := (I.1 j hj).act hi16
      exact ⟨gx _ (by omega) (by omega), gx _ (by omega) (by omega)⟩
    have gm : ∀ j, j < 23 → h5.1 (mc j) = h.1 (mc j) ∧ h5.1 (mc j + 1) = h.1 (mc j + 1) := fun j hj => by
      have z1 := (I.2.2.1 j hj).fx
      have z2 := (I.2.2.1 j hj).act hi16
      exact ⟨gx _ (by omega) (by omega), gx _ (by omega) (by omega)⟩
    have q8 : swpM mc s i 6 = mc 6 := by unfold swpM; rw [if_neg (by omega), if_neg (by omega)]
    refine hQ h5 pc (swpM mc s i) ⟨⟨fst, cn, _, om, sl, ⟨by rw [q8]; exact (gx _ (by omega) (by omega)).trans a1, ⟨f1, (gx _ (by omega) (by omega)).trans a2, a3⟩, ⟨_, g1, fun q hq => ?_⟩, ⟨f3, (gx _ (by omega) (by omega)).trans a6, a7⟩, ?_, a9, fun j hj => ?_⟩, ⟨fun j hj n => ?_, fun j hj n => ?_⟩, LL⟩, I.sM s8 hi16, t1.kept (fun c hc => gx _ (by omega) (by omega)), gs.trans t2, t3, wg, w2⟩ rfl q8 ?_
    · show (if q = s then some (mc (7 + i)) else f2 q) = some (swpM mc s i q)
      unfold swpM
      by_cases e : q = s
      · rw [if_pos e, if_pos e]
      · rw [if_neg e, if_neg e, if_neg (by omega)]; exact a5 q hq
    · show isHy X h5 (r + 8) fst n' (H.2.2.1 - n')
      rw [← hun]
      exact a8.kept (gx _ (by omega) (by omega)) (gx _ (by omega) (by omega))
    · unfold swpM
      rw [if_neg (show ¬ 7 + j = s by omega)]
      by_cases e : j = i
      · subst e
        rw [if_pos rfl, l30.1, l30.2.1]; exact g10
      · rw [if_neg (show ¬ 7 + j = 7 + i by omega)]
        exact (gx _ (by omega) (by omega)).trans (a10 j hj)
    · exact (c1 j hj n).kept (gp j hj).1 (gp j hj).2
    · show isMk X h5 (swpM mc s i j) (if j = s then mn (7 + i) else if j = 7 + i then mn s else mn j)
      unfold swpM
      by_cases e : j = s
      · rw [if_pos e, if_pos e]; exact (c2 (7 + i) (by omega) (by omega)).kept (gm _ (by omega)).1 (gm _ (by omega)).2
      · rw [if_neg e, if_neg e]
        by_cases e2 : j = 7 + i
        · rw [if_pos e2, if_pos e2]; exact (c2 s (by omega) (by omega)).kept (gm s (by omega)).1 (gm s (by omega)).2
        · rw [if_neg e2, if_neg e2]; exact (c2 j hj n).kept (gm j hj).1 (gm j hj).2
    · refine ⟨gs, fun c n => ?_⟩
      unfold kpK at n
      exact gx _ (by omega) (by omega)
end ExA
