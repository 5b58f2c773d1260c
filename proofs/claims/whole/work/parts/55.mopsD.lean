/-! ===== the reference: the filters applied ===== -/
def nnF (F : Ft) : Prop := ∀ i, i < F.1 → (F.2.1 i = 6 ∨ F.2.1 i = 8 → 0 ≤ (F.2.2.1 i).toInt ∧ 0 ≤ (F.2.2.2.1 i).toInt) ∧ (F.2.1 i = 7 → 0 ≤ (F.2.2.2.1 i).toInt)
theorem sgl_dv {fk fa fb : Nat → Int32} {fw : Nat → Nat → Int32} {R : Nat → Nat → Nat} {k e : Int32} {w t n f i : Nat} {p q wt : Nat → Int32} (h1 : 1 ≤ w) (h2 : 1 ≤ t) (hp : ∀ i, i < w * t → q i = p i) (hwt : fk f = 4 → ∀ j, j < 9 → wt j = fw f j) (hk : fk f = 0 ∨ fk f = 1 ∨ fk f = 2 ∨ fk f = 3 ∨ fk f = 4 ∨ fk f = 5) (hi : i < w * t) : sgl (fk f) (fa f) (fb f) wt k w t q e i = dv fk fa fb fw R k w t e (n + 1) f p i := by
  unfold sgl dv
  by_cases c : fk f = 4 ∨ fk f = 5
  · rw [if_pos c, if_pos c]
    unfold arF
    rw [nin_congr h1 h2 hp]
    by_cases c4 : fk f = 4
    · rw [if_pos c4, if_pos c4, wsm_congr 9 (hwt c4)]
    · rw [if_neg c4, if_neg c4]
  · have n6 : ¬ fk f = 6 ∧ ¬ fk f = 7 ∧ ¬ fk f = 8 := by rcases hk with z | z | z | z | z | z <;> rw [z] <;> decide
    rw [if_neg c, if_neg c, if_neg n6.1, if_neg n6.2.1, if_neg n6.2.2, hp i hi]
section MoV
variable {X : gX} {d : Nat} {b : Nat × Nat} {h h0 : gk_H} {m : Nat} {A : MoA} {Z : MoZ} {Q : Option Value → gk_H → Prop} {S : St}
theorem lp_Mo_giveTo {q : Nat} {lt L2 : Int32} {src : Nat → Int32} {l2 : Option Value} (e2 : l2 = some (.int L2)) (hq : q < 4) (hs : (lt = 1 ∧ src = A 14) ∨ (lt = 0 ∧ 1 ≤ q ∧ ∀ i, src i = A 12 (256 * q - 256 + i))) (hQ : ∀ g, (∀ i, i < 256 → g (256 * q + i) = src i) → (∀ i, i < 256 * q → g i = A 12 i) → Q none (mkH X h0 m (uA A 12 g) Z)) :
    ∀ n i g, i + n = 256 → (∀ j, j < i → g (256 * q + j) = src j) → (∀ j, j < 256 * q → g j = A 12 j) → G (kx X) mt_Mo_giveTo d b 17 [some (.ref m), some (.int (nI q)), l2, some (.int lt), some (.int (nI i))] [] (mkH X h0 m (uA A 12 g) Z) Q := by
  subst e2
  intro n
  induction n with
  | zero =>
    intro i g hi hg ho
    have e : i = 256 := by omega
    subst e
    refine gk_iload4 dX11_giveTo_17 (pc' := 19) rfl ?_
    refine gk_sipush (v := 256) dX11_giveTo_19 (pc' := 22) rfl (by decide) ?_
    refine gk_icmp_ge dX11_giveTo_22 (tgt := 75) (pc' := 25) (by decide) rfl (fun c22 => ?_) (fun c22 => absurd (by decide) c22)
    refine gk_vret dX11_giveTo_75 rfl (hQ g hg ho)
  | succ n ih =>
    intro i g hi hg ho
    have key : ∀ v, v = src i → G (kx X) mt_Mo_giveTo d b 68 [some (.ref m), some (.int (nI q)), some (.int L2), some (.int lt), some (.int (nI i))] [.int v, .int (nI (256 * q + i)), .ref (m + 12)] (mkH X h0 m (uA A 12 g) Z) Q := by
      intro v hv
      refine gk_iast (t0 := 0) rfl dX11_giveTo_68 (pc' := 69) rfl (by exact (mkA12)) (vp_in_nI (by omega) (by decide)) ?_
      rw [nI_clamp (by omega), mkS12]
      rw [uA_s, uA_u]
      refine gk_iinc4 (v := 1) dX11_giveTo_69 (pc' := 72) rfl (by decide) (by decide) rfl ?_
      refine gk_goto dX11_giveTo_72 (tgt := 17) (by decide) ?_
      rw [← nI_succ]
      refine ih (i + 1) _ (by omega) (fun j hj => ?_) (fun j hj => by rw [pk_un (by omega)]; exact ho j hj)
      by_cases e : j = i
      · subst e; rw [pk_us]; exact hv
      · rw [pk_un (by omega)]; exact hg j (by omega)
    rcases hs with ⟨rfl, hs⟩ | ⟨rfl, q1, hs⟩
    · refine gk_iload4 dX11_giveTo_17 (pc' := 19) rfl ?_
      refine gk_sipush (v := 256) dX11_giveTo_19 (pc' := 22) rfl (by decide) ?_
      refine gk_icmp_ge dX11_giveTo_22 (tgt := 75) (pc' := 25) (by decide) rfl (fun c22 => absurd c22 (nI_ge (b := 256) (by omega) (by omega))) (fun c22 => ?_)
      refine gk_aload0 dX11_giveTo_25 (pc' := 26) rfl ?_
      refine gk_getf (fs := [_, _, _, _, _, _, _, _, _, _, _, _, _, _, _, _, _, _, _, _, _, _, _, _, _, _]) gF_Mo_44 dX11_giveTo_26 (pc' := 29) rfl (by exact (mkJ)) rfl ?_
      refine gk_sipush (v := nI 256) dX11_giveTo_29 (pc' := 32) rfl (by decide) ?_
      refine gk_iload1 dX11_giveTo_32 (pc' := 33) rfl ?_
      refine gk_imulN dX11_giveTo_33 (pc' := 34) rfl ?_
      refine gk_iload4 dX11_giveTo_34 (pc' := 36) rfl ?_
      refine gk_iaddN dX11_giveTo_36 (pc' := 37) rfl ?_
      refine gk_iload3 dX11_giveTo_37 (pc' := 38) rfl ?_
      refine gk_if_eq dX11_giveTo_38 (tgt := 51) (pc' := 41) (by decide) rfl (fun c38 => absurd c38 (by decide)) (fun c38 => ?_)
      refine gk_aload0 dX11_giveTo_41 (pc' := 42) rfl ?_
      refine gk_getf (fs := [_, _, _, _, _, _, _, _, _, _, _, _, _, _, _, _, _, _, _, _, _, _, _, _, _, _]) gF_Mo_50 dX11_giveTo_42 (pc' := 45) rfl (by exact (mkJ)) rfl ?_
      refine gk_iload4 dX11_giveTo_45 (pc' := 47) rfl ?_
      refine gk_iald (t0 := 0) rfl dX11_giveTo_47 (pc' := 48) rfl (by exact (mkA14)) (vp_in_nI (by omega) (by decide)) ?_
      rw [nI_clamp (by omega)]
      refine gk_goto dX11_giveTo_48 (tgt := 68) (by decide) ?_
      exact key _ (by rw [hs]; rfl)
    · refine gk_iload4 dX11_giveTo_17 (pc' := 19) rfl ?_
      refine gk_sipush (v := 256) dX11_giveTo_19 (pc' := 22) rfl (by decide) ?_
      refine gk_icmp_ge dX11_giveTo_22 (tgt := 75) (pc' := 25) (by decide) rfl (fun c22 => absurd c22 (nI_ge (b := 256) (by omega) (by omega))) (fun c22 => ?_)
      refine gk_aload0 dX11_giveTo_25 (pc' := 26) rfl ?_
      refine gk_getf (fs := [_, _, _, _, _, _, _, _, _, _, _, _, _, _, _, _, _, _, _, _, _, _, _, _, _, _]) gF_Mo_44 dX11_giveTo_26 (pc' := 29) rfl (by exact (mkJ)) rfl ?_
      refine gk_sipush (v := nI 256) dX11_giveTo_29 (pc' := 32) rfl (by decide) ?_
      refine gk_iload1 dX11_giveTo_32 (pc' := 33) rfl ?_
      refine gk_imulN dX11_giveTo_33 (pc' := 34) rfl ?_
      refine gk_iload4 dX11_giveTo_34 (pc' := 36) rfl ?_
      refine gk_iaddN dX11_giveTo_36 (pc' := 37) rfl ?_
      refine gk_iload3 dX11_giveTo_37 (pc' := 38) rfl ?_
      refine gk_if_eq dX11_giveTo_38 (tgt := 51) (pc' := 41) (by decide) rfl (fun c38 => ?_) (fun c38 => absurd rfl c38)
      refine gk_aload0 dX11_giveTo_51 (pc' := 52) rfl ?_
      refine gk_getf (fs := [_, _, _, _, _, _, _, _, _, _, _, _, _, _, _, _, _, _, _, _, _, _, _, _, _, _]) gF_Mo_44 dX11_giveTo_52 (pc' := 55) rfl (by exact (mkJ)) rfl ?_
      refine gk_sipush (v := nI 256) dX11_giveTo_55 (pc' := 58) rfl (by decide) ?_
      refine gk_iload1 dX11_giveTo_58 (pc' := 59) rfl ?_
      refine gk_imulN dX11_giveTo_59 (pc' := 60) rfl ?_
      refine gk_sipush (v := nI 256) dX11_giveTo_60 (pc' := 63) rfl (by decide) ?_
      refine gk_isubN dX11_giveTo_63 (pc' := 64) rfl (by omega) ?_
      refine gk_iload4 dX11_giveTo_64 (pc' := 66) rfl ?_
      refine gk_iaddN dX11_giveTo_66 (pc' := 67) rfl ?_
      refine gk_iald (t0 := 0) rfl dX11_giveTo_67 (pc' := 68) rfl (by exact (mkA12)) (vp_in_nI (by omega) (by decide)) ?_
      rw [nI_clamp (by omega)]
      exact key _ (by rw [uA_s, hs i]; exact ho _ (by omega))
theorem sp_Mo_giveTo {q f : Nat} {lt : Int32} {src : Nat → Int32} (hq : q < 4) (hs : (lt = 1 ∧ src = A 14) ∨ (lt = 0 ∧ 1 ≤ q ∧ ∀ i, src i = A 12 (256 * q - 256 + i))) (hQ : ∀ g, (∀ i, i < 256 → g (256 * q + i) = src i) → (∀ i, i < 256 * q → g i = A 12 i) → Q none (mkH X h0 m (uA (uA (uA A 10 (upd (A 10) q (nI f))) 11 (upd (A 11) q 0)) 12 g) Z)) : Gm (kx X) mt_Mo_giveTo d b [.ref m, .int (nI q), .int (nI f), .int lt] (mkH X h0 m A Z) Q := by
  refine Gm.enter (L := [some (.ref m), some (.int (nI q)), some (.int (nI f)), some (.int lt), none]) (by decide) (fun _ => trivial) (Nat.le_of_ble_eq_true rfl) rfl ?_
  refine gk_aload0 dX11_giveTo_0 (pc' := 1) rfl ?_
  refine gk_getf (fs := [_, _, _, _, _, _, _, _, _, _, _, _, _, _, _, _, _, _, _, _, _, _, _, _, _, _]) gF_Mo_38 dX11_giveTo_1 (pc' := 4) rfl (by exact (mkJ)) rfl ?_
  refine gk_iload1 dX11_giveTo_4 (pc' := 5) rfl ?_
  refine gk_iload2 dX11_giveTo_5 (pc' := 6) rfl ?_
  refine gk_iast (t0 := 0) rfl dX11_giveTo_6 (pc' := 7) rfl (by exact (mkA10)) (vp_in_nI (by omega) (by decide)) ?_
  rw [nI_clamp (by omega), mkS10]
  refine gk_aload0 dX11_giveTo_7 (pc' := 8) rfl ?_
  refine gk_getf (fs := [_, _, _, _, _, _, _, _, _, _, _, _, _, _, _, _, _, _, _, _, _, _, _, _, _, _]) gF_Mo_41 dX11_giveTo_8 (pc' := 11) rfl (by exact (mkJ)) rfl ?_
  refine gk_iload1 dX11_giveTo_11 (pc' := 12) rfl ?_
  refine gk_iconst (v := 0) dX11_giveTo_12 (pc' := 13) rfl (by decide) ?_
  refine gk_iast (t0 := 0) rfl dX11_giveTo_13 (pc' := 14) rfl (by exact (mkA11)) (vp_in_nI (by omega) (by decide)) ?_
  rw [nI_clamp (by omega), mkS11]
  refine gk_iconst (v := 0) dX11_giveTo_14 (pc' := 15) rfl (by decide) ?_
  refine gk_istore4 dX11_giveTo_15 (pc' := 17) rfl (by decide) rfl ?_
  have r := lp_Mo_giveTo (X := X) (h0 := h0) (m := m) (A := uA (uA A 10 (upd (A 10) q (nI f))) 11 (upd (A 11) q 0)) (Z := Z) (d := d) (b := b) (Q := Q) (lt := lt) (L2 := nI f) (l2 := some (.int (nI f))) (src := src) rfl hq hs hQ 256 0 (A 12) (by omega) (fun j hj => absurd hj (by omega)) (fun j _ => rfl)
  rw [show A 12 = uA (uA A 10 (upd (A 10) q (nI f))) 11 (upd (A 11) q 0) 12 from rfl, uA_i] at r
  exact r
theorem lp_Mo_goOn1 {w t dp f : Nat} {of e fk : Int32} {p : Nat → Int32} (ar : w * t ≤ 256) (hdp : dp < 4) (hp : ∀ i, i < w * t → A 12 (256 * dp + i) = p i) (hQ : ∀ g l7, (∀ i, i < w * t → g i = p i) → G (kx X) mt_Mo_goOn d b 71 [some (.ref m), some (.int (nI dp)), some (.int of), some (.int e), some (.int (nI f)), some (.int fk), some (.int (nI (w * t))), l7, none] [] (mkH X h0 m (uA A 9 g) Z) Q) :
    ∀ n i g, i + n = w * t → (∀ q, q < i → g q = p q) → G (kx X) mt_Mo_goOn d b 38 [some (.ref m), some (.int (nI dp)), some (.int of), some (.int e), some (.int (nI f)), some (.int fk), some (.int (nI (w * t))), some (.int (nI i)), none] [] (mkH X h0 m (uA A 9 g) Z) Q := by
  intro n
  induction n with
  | zero =>
    intro i g hi hg
    refine gk_iload7 dX11_goOn_38 (pc' := 40) rfl ?_
    refine gk_iload6 dX11_goOn_40 (pc' := 42) rfl ?_
    refine gk_icmp_ge dX11_goOn_42 (tgt := 71) (pc' := 45) (by decide) rfl (fun c42 => ?_) (fun c42 => absurd (nI_le (by omega) (by omega)) c42)
    exact hQ g _ (fun q hq => hg q (by omega))
  | succ n ih =>
    intro i g hi hg
    refine gk_iload7 dX11_goOn_38 (pc' := 40) rfl ?_
    refine gk_iload6 dX11_goOn_40 (pc' := 42) rfl ?_
    refine gk_icmp_ge dX11_goOn_42 (tgt := 71) (pc' := 45) (by decide) rfl (fun c42 => absurd c42 (nI_ge (by omega) (by omega))) (fun c42 => ?_)
    refine gk_aload0 dX11_goOn_45 (pc' := 46) rfl ?_
    refine gk_getf (fs := [_, _, _, _, _, _, _, _, _, _, _, _, _, _, _, _, _, _, _, _, _, _, _, _, _, _]) gF_Mo_35 dX11_goOn_46 (pc' := 49) rfl (by exact (mkJ)) rfl ?_
    refine gk_iload7 dX11_goOn_49 (pc' := 51) rfl ?_
    refine gk_aload0 dX11_goOn_51 (pc' := 52) rfl ?_
    refine gk_getf (fs := [_, _, _, _, _, _, _, _, _, _, _, _, _, _, _, _, _, _, _, _, _, _, _, _, _, _]) gF_Mo_44 dX11_goOn_52 (pc' := 55) rfl (by exact (mkJ)) rfl ?_
    refine gk_sipush (v := nI 256) dX11_goOn_55 (pc' := 58) rfl (by decide) ?_
    refine gk_iload1 dX11_goOn_58 (pc' := 59) rfl ?_
    refine gk_imulN dX11_goOn_59 (pc' := 60) rfl ?_
    refine gk_iload7 dX11_goOn_60 (pc' := 62) rfl ?_
    refine gk_iaddN dX11_goOn_62 (pc' := 63) rfl ?_
    refine gk_iald (t0 := 0) rfl dX11_goOn_63 (pc' := 64) rfl (by exact (mkA12)) (vp_in_nI (by omega) (by decide)) ?_
    rw [nI_clamp (by omega)]
    rw [uA_n (show 12 ≠ 9 by decide), hp i (by omega)]
    refine gk_iast (t0 := 0) rfl dX11_goOn_64 (pc' := 65) rfl (by exact (mkA9)) (vp_in_nI (by omega) (by decide)) ?_
    rw [nI_clamp (by omega), mkS9]
    rw [uA_s, uA_u]
    refine gk_iinc7 (v := 1) dX11_goOn_65 (pc' := 68) rfl (by decide) (by decide) rfl ?_
    refine gk_goto dX11_goOn_68 (tgt := 38) (by decide) ?_
    rw [← nI_succ]
    exact ih (i + 1) _ (by omega) (upd_lt hg rfl)
theorem lp_Mo_goOn2 {w t dp f : Nat} {of e fk : Int32} {V : Nat → Int32} {B : MoA} (hZ : Z 4 = nI w ∧ Z 5 = nI t) (hw : 1 ≤ w ∧ w ≤ 16) (ht : 1 ≤ t ∧ t ≤ 16) (hsg : ∀ (A : MoA) i (Q : Option Value → gk_H → Prop), (∀ k, k ≠ 14 → k ≠ 15 → A k = B k) → i < w * t → (∀ g, Q (some (.int (V i))) (mkH X h0 m (uA A 15 g) Z)) → Gm (kx X) mt_Mo_single d (0, 0) [.ref m, .int (nI f), .int of, .int (nI (i % w)), .int (nI (i / w)), .int e] (mkH X h0 m A Z) Q) (hQ : ∀ A' : MoA, (∀ k, k ≠ 14 → k ≠ 15 → A' k = B k) → (∀ i, i < w * t → A' 14 i = V i) → Q (some (.int (nI dp))) (mkH X h0 m A' Z)) :
    ∀ n i (A : MoA), i + n = w * t → (∀ k, k ≠ 14 → k ≠ 15 → A k = B k) → (∀ q, q < i → A 14 q = V q) → G (kx X) mt_Mo_goOn (d + 1) b 74 [some (.ref m), some (.int (nI dp)), some (.int of), some (.int e), some (.int (nI f)), some (.int fk), some (.int (nI (w * t))), some (.int (nI i)), none] [] (mkH X h0 m A Z) Q := by
  have ar := area_le hw.2 ht.2
  intro n
  induction n with
  | zero =>
    intro i A hi hA hg
    refine gk_iload7 dX11_goOn_74 (pc' := 76) rfl ?_
    refine gk_iload6 dX11_goOn_76 (pc' := 78) rfl ?_
    refine gk_icmp_ge dX11_goOn_78 (tgt := 116) (pc' := 81) (by decide) rfl (fun c78 => ?_) (fun c78 => absurd (nI_le (by omega) (by omega)) c78)
    refine gk_iload1 dX11_goOn_116 (pc' := 117) rfl ?_
    refine gk_iret dX11_goOn_117 rfl (hQ A hA (fun q hq => hg q (by omega)))
  | succ n ih =>
    intro i A hi hA hg
    have i1 : i % w < w := Nat.mod_lt _ (by omega)
    refine gk_iload7 dX11_goOn_74 (pc' := 76) rfl ?_
    refine gk_iload6 dX11_goOn_76 (pc' := 78) rfl ?_
    refine gk_icmp_ge dX11_goOn_78 (tgt := 116) (pc' := 81) (by decide) rfl (fun c78 => absurd c78 (nI_ge (by omega) (by omega))) (fun c78 => ?_)
    refine gk_aload0 dX11_goOn_81 (pc' := 82) rfl ?_
    refine gk_getf (fs := [_, _, _, _, _, _, _, _, _, _, _, _, _, _, _, _, _, _, _, _, _, _, _, _, _, _]) gF_Mo_50 dX11_goOn_82 (pc' := 85) rfl (by exact (mkJ)) rfl ?_
    refine gk_iload7 dX11_goOn_85 (pc' := 87) rfl ?_
    refine gk_aload0 dX11_goOn_87 (pc' := 88) rfl ?_
    refine gk_iload4 dX11_goOn_88 (pc' := 90) rfl ?_
    refine gk_iload2 dX11_goOn_90 (pc' := 91) rfl ?_
    refine gk_iload7 dX11_goOn_91 (pc' := 93) rfl ?_
    refine gk_aload0 dX11_goOn_93 (pc' := 94) rfl ?_
    refine gk_getf (fs := [_, _, _, _, _, _, _, _, _, _, _, _, _, _, _, _, _, _, _, _, _, _, _, _, _, _]) gF_Mo_138 dX11_goOn_94 (pc' := 97) rfl (by exact (mkJ)) rfl ?_
    rw [hZ.1]
    refine gk_iremN dX11_goOn_97 (pc' := 98) rfl (by omega) (by omega) (by omega) ?_
    refine gk_iload7 dX11_goOn_98 (pc' := 100) rfl ?_
    refine gk_aload0 dX11_goOn_100 (pc' := 101) rfl ?_
    refine gk_getf (fs := [_, _, _, _, _, _, _, _, _, _, _, _, _, _, _, _, _, _, _, _, _, _, _, _, _, _]) gF_Mo_138 dX11_goOn_101 (pc' := 104) rfl (by exact (mkJ)) rfl ?_
    rw [hZ.1]
    refine gk_idivN dX11_goOn_104 (pc' := 105) rfl (by omega) (by omega) (by omega) ?_
    refine gk_iload3 dX11_goOn_105 (pc' := 106) rfl ?_
    refine gk_cV1_5 mv_Mo_single gw_1021 dX11_goOn_106 (pc' := 109) rfl (Nat.le_of_ble_eq_true rfl) (by exact (mkJ)) (hsg A i _ hA (by omega) (fun g => ?_))
    refine ⟨_, rfl, ?_⟩
    refine gk_iast (t0 := 0) rfl dX11_goOn_109 (pc' := 110) rfl (by exact (mkA14)) (vp_in_nI (by omega) (by decide)) ?_
    rw [nI_clamp (by omega), mkS14]
    refine gk_iinc7 (v := 1) dX11_goOn_110 (pc' := 113) rfl (by decide) (by decide) rfl ?_
    refine gk_goto dX11_goOn_113 (tgt := 74) (by decide) ?_
    rw [← nI_succ]
    refine ih (i + 1) _ (by omega) (fun k k1 k2 => by rw [uA_n k1, uA_n k2]; exact hA k k1 k2) (fun q hq => ?_)
    rw [uA_s]
    exact upd_lt (g := uA A 15 g 14) (F := V) (fun q hq => hg q hq) rfl q hq
/-- a single filter goes on -/
theorem sp_Mo_goOnA {w t dp f : Nat} {of e fk fa fb : Int32} {p V : Nat → Int32} (hZ : Z 4 = nI w ∧ Z 5 = nI t) (hw : 1 ≤ w ∧ w ≤ 16) (ht : 1 ≤ t ∧ t ≤ 16) (hf : f < 24) (hdp : dp < 4) (he : 0 ≤ e.toInt ∧ e.toInt ≤ 3) (ho : of = 0 ∨ of = 1) (h10 : A 10 dp = nI f) (hA3 : A 3 f = fk) (hA4 : A 4 f = fa) (hA5 : A 5 f = fb) (hp : ∀ i, i < w * t → A 12 (256 * dp + i) = p i) (hr : ∀ i, i < w * t → inK of (p i)) (hk : (fk = 0 ∨ fk = 1 ∨ fk = 2) ∨ (fk = 3 ∧ (-100000 ≤ fa.toInt ∧ fa.toInt ≤ 100000) ∧ 1 ≤ fb.toInt ∧ fb.toInt ≤ 1000) ∨ (fk = 4 ∧ 1 ≤ fa.toInt ∧ fa.toInt ≤ 1000 ∧ ∀ j, j < 9 → -1000 ≤ (A 7 (9 * f + j)).toInt ∧ (A 7 (9 * f + j)).toInt ≤ 1000) ∨ (fk = 5 ∧ 0 ≤ fa.toInt ∧ fa.toInt ≤ 8)) (hV : ∀ (q : Nat → Int32) i, (∀ i, i < w * t → q i = p i) → i < w * t → sgl fk fa fb (fun j => A 7 (9 * f + j)) of w t q e i = V i) (hQ : ∀ A' : MoA, (∀ k, k ≠ 9 → k ≠ 14 → k ≠ 15 → A' k = A k) → (∀ i, i < w * t → A' 14 i = V i) → Q (some (.int (nI dp))) (mkH X h0 m A' Z)) : Gm (kx X) mt_Mo_goOn (d + 4) b [.ref m, .int (nI dp), .int of, .int e] (mkH X h0 m A Z) Q := by
  have ar := area_le hw.2 ht.2
  have n6 : ¬ (6 : Int32) ≤ fk := by rcases hk with (z | z | z) | ⟨z, -⟩ | ⟨z, -⟩ | ⟨z, -⟩ <;> rw [z] <;> decide
  have main : ∀ g l7, (∀ i, i < w * t → g i = p i) → G (kx X) mt_Mo_goOn (d + 4) b 71 [some (.ref m), some (.int (nI dp)), some (.int of), some (.int e), some (.int (nI f)), some (.int fk), some (.int (nI (w * t))), l7, none] [] (mkH X h0 m (uA A 9 g) Z) Q := by
    intro g l7 hg
    refine gk_iconst (v := 0) dX11_goOn_71 (pc' := 72) rfl (by decide) ?_
    refine gk_istore7 dX11_goOn_72 (pc' := 74) rfl (by decide) rfl ?_
    refine lp_Mo_goOn2 (B := uA A 9 g) (V := V) hZ hw ht (fun A1 i Q1 hA1 hi hQ1 => ?_) (fun A' k1 k2 => hQ A' (fun k e1 e2 e3 => (k1 k e2 e3).trans (uA_n e1)) k2) (w * t) 0 _ (by omega) (fun _ _ _ => rfl) (fun q hq => absurd hq (by omega))
    have hB : ∀ k, k ≠ 9 → k ≠ 14 → k ≠ 15 → A1 k = A k := fun k e1 e2 e3 => (hA1 k e2 e3).trans (uA_n e1)
    have h9 : A1 9 = g := (hA1 9 (by decide) (by decide)).trans uA_s
    have i1 : i % w < w := Nat.mod_lt _ (by omega)
    have i2 : i / w < t := by rw [Nat.div_lt_iff_lt_mul (by omega), Nat.mul_comm]; exact hi
    have i3 : i / w * w + i % w = i := by rw [Nat.mul_comm]; exact Nat.div_add_mod i w
    refine sp_Mo_single (w := w) (t := t) (f := f) (x := i % w) (y := i / w) (fk := fk) (fa := fa) (fb := fb) hZ hw ht hf i1 i2 he ho (by rw [hB 3 (by decide) (by decide) (by decide)]; exact hA3) (by rw [hB 4 (by decide) (by decide) (by decide)]; exact hA4) (by rw [hB 5 (by decide) (by decide) (by decide)]; exact hA5) (fun i hi => by rw [h9, hg i hi]; exact hr i hi) (by rw [hB 7 (by decide) (by decide) (by decide)]; exact hk) (fun g' => ?_)
    rw [i3, h9, hB 7 (by decide) (by decide) (by decide), hV g i hg hi]
    exact hQ1 g'
  refine Gm.enter (L := [some (.ref m), some (.int (nI dp)), some (.int of), some (.int e), none, none, none, none, none]) (by decide) (fun _ => trivial) (Nat.le_of_ble_eq_true rfl) rfl ?_
  refine gk_aload0 dX11_goOn_0 (pc' := 1) rfl ?_
  refine gk_getf (fs := [_, _, _, _, _, _, _, _, _, _, _, _, _, _, _, _, _, _, _, _, _, _, _, _, _, _]) gF_Mo_38 dX11_goOn_1 (pc' := 4) rfl (by exact (mkJ)) rfl ?_
  refine gk_iload1 dX11_goOn_4 (pc' := 5) rfl ?_
  refine gk_iald (t0 := 0) rfl dX11_goOn_5 (pc' := 6) rfl (by exact (mkA10)) (vp_in_nI (by omega) (by decide)) ?_
  rw [nI_clamp (by omega)]
  rw [h10]
  refine gk_istore4 dX11_goOn_6 (pc' := 8) rfl (by decide) rfl ?_
  refine gk_aload0 dX11_goOn_8 (pc' := 9) rfl ?_
  refine gk_getf (fs := [_, _, _, _, _, _, _, _, _, _, _, _, _, _, _, _, _, _, _, _, _, _, _, _, _, _]) gF_Mo_17 dX11_goOn_9 (pc' := 12) rfl (by exact (mkJ)) rfl ?_
  refine gk_iload4 dX11_goOn_12 (pc' := 14) rfl ?_
  refine gk_iald (t0 := 0) rfl dX11_goOn_14 (pc' := 15) rfl (by exact (mkA3)) (vp_in_nI (by omega) (by decide)) ?_
  rw [nI_clamp (by omega)]
  rw [hA3]
  refine gk_istore5 dX11_goOn_15 (pc' := 17) rfl (by decide) rfl ?_
  refine gk_aload0 dX11_goOn_17 (pc' := 18) rfl ?_
  refine gk_getf (fs := [_, _, _, _, _, _, _, _, _, _, _, _, _, _, _, _, _, _, _, _, _, _, _, _, _, _]) gF_Mo_138 dX11_goOn_18 (pc' := 21) rfl (by exact (mkJ)) rfl ?_
  rw [hZ.1]
  refine gk_aload0 dX11_goOn_21 (pc' := 22) rfl ?_
  refine gk_getf (fs := [_, _, _, _, _, _, _, _, _, _, _, _, _, _, _, _, _, _, _, _, _, _, _, _, _, _]) gF_Mo_141 dX11_goOn_22 (pc' := 25) rfl (by exact (mkJ)) rfl ?_
  rw [hZ.2]
  refine gk_imulN dX11_goOn_25 (pc' := 26) rfl ?_
  refine gk_istore6 dX11_goOn_26 (pc' := 28) rfl (by decide) rfl ?_
  refine gk_iload5 dX11_goOn_28 (pc' := 30) rfl ?_
  refine gk_bipush (v := 6) dX11_goOn_30 (pc' := 32) rfl (by decide) ?_
  refine gk_icmp_ge dX11_goOn_32 (tgt := 118) (pc' := 35) (by decide) rfl (fun c32 => absurd c32 n6) (fun c32 => ?_)
  refine gk_iconst (v := 0) dX11_goOn_35 (pc' := 36) rfl (by decide) ?_
  refine gk_istore7 dX11_goOn_36 (pc' := 38) rfl (by decide) rfl ?_
  have q := lp_Mo_goOn1 (X := X) (h0 := h0) (m := m) (A := A) (Z := Z) (d := d + 4) (b := b) (Q := Q) (fk := fk) (of := of) (e := e) (f := f) ar hdp hp main (w * t) 0 (A 9) (by omega) (fun q hq => absurd hq (by omega))
  rw [uA_i] at q
  exact q
/-- the first part of a filter of filters -/
theorem sp_Mo_goOnB {w t dp f s : Nat} {of e fk : Int32} (hZ : Z 4 = nI w ∧ Z 5 = nI t) (hw : 1 ≤ w ∧ w ≤ 16) (ht : 1 ≤ t ∧ t ≤ 16) (hf : f < 24) (hdp : dp + 1 < 4) (h10 : A 10 dp = nI f) (h11 : A 11 dp = 0) (hA3 : A 3 f = fk) (hk : (6 : Int32) ≤ fk) (hs : (fk = 7 → A 5 f = nI s) ∧ (¬ fk = 7 → A 4 f = nI s)) (hQ : ∀ A' : MoA, (∀ k, k ≠ 10 → k ≠ 11 → k ≠ 12 → A' k = A k) → A' 10 = upd (A 10) (dp + 1) (nI s) → A' 11 = upd (upd (A 11) dp 1) (dp + 1) 0 → (∀ i, i < 256 → A' 12 (256 * (dp + 1) + i) = A 12 (256 * dp + i)) → (∀ i, i < 256 * (dp + 1) → A' 12 i = A 12 i) → Q (some (.int (nI (dp + 2)))) (mkH X h0 m A' Z)) : Gm (kx X) mt_Mo_goOn (d + 1) b [.ref m, .int (nI dp), .int of, .int e] (mkH X h0 m A Z) Q := by
  have ar := area_le hw.2 ht.2
  have go : ∀ l7, G (kx X) mt_Mo_goOn (d + 1) b 167 [some (.ref m), some (.int (nI dp)), some (.int of), some (.int e), some (.int (nI f)), some (.int fk), some (.int (nI (w * t))), l7, none] [.int 0, .int (nI s), .int (nI (dp + 1)), .ref m] (mkH X h0 m (uA A 11 (upd (A 11) dp (0 + 1))) Z) Q := by
    intro l7
    refine gk_cV0_3 mv_Mo_giveTo gw_1013 dX11_goOn_167 (pc' := 170) rfl (Nat.le_of_ble_eq_true rfl) (by exact (mkJ)) (sp_Mo_giveTo (src := fun i => A 12 (256 * (dp + 1) - 256 + i)) (by omega) (Or.inr ⟨rfl, by omega, fun i => rfl⟩) (fun g g1 g2 => ?_))
    refine ⟨rfl, ?_⟩
    refine gk_iload1 dX11_goOn_170 (pc' := 171) rfl ?_
    refine gk_iconst (v := nI 2) dX11_goOn_171 (pc' := 172) rfl (by decide) ?_
    refine gk_iaddN dX11_goOn_172 (pc' := 173) rfl ?_
    refine gk_iret dX11_goOn_173 rfl (hQ _ (fun k k1 k2 k3 => by rw [uA_n k3, uA_n k2, uA_n k1, uA_n k2]) rfl rfl (fun i hi => by rw [uA_s, g1 i hi]; rw [show 256 * (dp + 1) - 256 + i = 256 * dp + i by omega]) (fun i hi => by rw [uA_s, g2 i hi]; rfl))
  refine Gm.enter (L := [some (.ref m), some (.int (nI dp)), some (.int of), some (.int e), none, none, none, none, none]) (by decide) (fun _ => trivial) (Nat.le_of_ble_eq_true rfl) rfl ?_
  refine gk_aload0 dX11_goOn_0 (pc' := 1) rfl ?_
  refine gk_getf (fs := [_, _, _, _, _, _, _, _, _, _, _, _, _, _, _, _, _, _, _, _, _, _, _, _, _, _]) gF_Mo_38 dX11_goOn_1 (pc' := 4) rfl (by exact (mkJ)) rfl ?_
  refine gk_iload1 dX11_goOn_4 (pc' := 5) rfl ?_
  refine gk_iald (t0 := 0) rfl dX11_goOn_5 (pc' := 6) rfl (by exact (mkA10)) (vp_in_nI (by omega) (by decide)) ?_
  rw [nI_clamp (by omega)]
  rw [h10]
  refine gk_istore4 dX11_goOn_6 (pc' := 8) rfl (by decide) rfl ?_
  refine gk_aload0 dX11_goOn_8 (pc' := 9) rfl ?_
  refine gk_getf (fs := [_, _, _, _, _, _, _, _, _, _, _, _, _, _, _, _, _, _, _, _, _, _, _, _, _, _]) gF_Mo_17 dX11_goOn_9 (pc' := 12) rfl (by exact (mkJ)) rfl ?_
  refine gk_iload4 dX11_goOn_12 (pc' := 14) rfl ?_
  refine gk_iald (t0 := 0) rfl dX11_goOn_14 (pc' := 15) rfl (by exact (mkA3)) (vp_in_nI (by omega) (by decide)) ?_
  rw [nI_clamp (by omega)]
  rw [hA3]
  refine gk_istore5 dX11_goOn_15 (pc' := 17) rfl (by decide) rfl ?_
  refine gk_aload0 dX11_goOn_17 (pc' := 18) rfl ?_
  refine gk_getf (fs := [_, _, _, _, _, _, _, _, _, _, _, _, _, _, _, _, _, _, _, _, _, _, _, _, _, _]) gF_Mo_138 dX11_goOn_18 (pc' := 21) rfl (by exact (mkJ)) rfl ?_
  rw [hZ.1]
  refine gk_aload0 dX11_goOn_21 (pc' := 22) rfl ?_
  refine gk_getf (fs := [_, _, _, _, _, _, _, _, _, _, _, _, _, _, _, _, _, _, _, _, _, _, _, _, _, _]) gF_Mo_141 dX11_goOn_22 (pc' := 25) rfl (by exact (mkJ)) rfl ?_
  rw [hZ.2]
  refine gk_imulN dX11_goOn_25 (pc' := 26) rfl ?_
  refine gk_istore6 dX11_goOn_26 (pc' := 28) rfl (by decide) rfl ?_
  refine gk_iload5 dX11_goOn_28 (pc' := 30) rfl ?_
  refine gk_bipush (v := 6) dX11_goOn_30 (pc' := 32) rfl (by decide) ?_
  refine gk_icmp_ge dX11_goOn_32 (tgt := 118) (pc' := 35) (by decide) rfl (fun c32 => ?_) (fun c32 => absurd hk c32)
  refine gk_aload0 dX11_goOn_118 (pc' := 119) rfl ?_
  refine gk_getf (fs := [_, _, _, _, _, _, _, _, _, _, _, _, _, _, _, _, _, _, _, _, _, _, _, _, _, _]) gF_Mo_41 dX11_goOn_119 (pc' := 122) rfl (by exact (mkJ)) rfl ?_
  refine gk_iload1 dX11_goOn_122 (pc' := 123) rfl ?_
  refine gk_dup2 dX11_goOn_123 (pc' := 124) rfl rfl rfl ?_
  refine gk_iald (t0 := 0) rfl dX11_goOn_124 (pc' := 125) rfl (by exact (mkA11)) (vp_in_nI (by omega) (by decide)) ?_
  rw [nI_clamp (by omega)]
  rw [h11]
  refine gk_iconst (v := 1) dX11_goOn_125 (pc' := 126) rfl (by decide) ?_
  refine gk_iadd dX11_goOn_126 (pc' := 127) rfl ?_
  refine gk_iast (t0 := 0) rfl dX11_goOn_127 (pc' := 128) rfl (by exact (mkA11)) (vp_in_nI (by omega) (by decide)) ?_
  rw [nI_clamp (by omega), mkS11]
  refine gk_aload0 dX11_goOn_128 (pc' := 129) rfl ?_
  refine gk_getf (fs := [_, _, _, _, _, _, _, _, _, _, _, _, _, _, _, _, _, _, _, _, _, _, _, _, _, _]) gF_Mo_41 dX11_goOn_129 (pc' := 132) rfl (by exact (mkJ)) rfl ?_
  refine gk_iload1 dX11_goOn_132 (pc' := 133) rfl ?_
  refine gk_iald (t0 := 0) rfl dX11_goOn_133 (pc' := 134) rfl (by exact (mkA11)) (vp_in_nI (by omega) (by decide)) ?_
  rw [nI_clamp (by omega)]
  rw [uA_s, pk_us]
  refine gk_iconst (v := 1) dX11_goOn_134 (pc' := 135) rfl (by decide) ?_
  refine gk_icmp_ne dX11_goOn_135 (tgt := 174) (pc' := 138) (by decide) rfl (fun c135 => absurd rfl c135) (fun c135 => ?_)
  refine gk_aload0 dX11_goOn_138 (pc' := 139) rfl ?_
  refine gk_iload1 dX11_goOn_139 (pc' := 140) rfl ?_
  refine gk_iconst (v := nI 1) dX11_goOn_140 (pc' := 141) rfl (by decide) ?_
  refine gk_iaddN dX11_goOn_141 (pc' := 142) rfl ?_
  refine gk_iload5 dX11_goOn_142 (pc' := 144) rfl ?_
  refine gk_bipush (v := 7) dX11_goOn_144 (pc' := 146) rfl (by decide) ?_
  refine gk_icmp_ne dX11_goOn_146 (tgt := 159) (pc' := 149) (by decide) rfl (fun c146 => ?_) (fun c146 => ?_)
  · have c7 : ¬ fk = 7 := c146
    refine gk_aload0 dX11_goOn_159 (pc' := 160) rfl ?_
    refine gk_getf (fs := [_, _, _, _, _, _, _, _, _, _, _, _, _, _, _, _, _, _, _, _, _, _, _, _, _, _]) gF_Mo_20 dX11_goOn_160 (pc' := 163) rfl (by exact (mkJ)) rfl ?_
    refine gk_iload4 dX11_goOn_163 (pc' := 165) rfl ?_
    refine gk_iald (t0 := 0) rfl dX11_goOn_165 (pc' := 166) rfl (by exact (mkA4)) (vp_in_nI (by omega) (by decide)) ?_
    rw [nI_clamp (by omega)]
    rw [uA_n (show 4 ≠ 11 by decide), hs.2 c7]
    refine gk_iconst (v := 0) dX11_goOn_166 (pc' := 167) rfl (by decide) ?_
    exact go _
  · have c7 : fk = 7 := c146
    refine gk_aload0 dX11_goOn_149 (pc' := 150) rfl ?_
    refine gk_getf (fs := [_, _, _, _, _, _, _, _, _, _, _, _, _, _, _, _, _, _, _, _, _, _, _, _, _, _]) gF_Mo_23 dX11_goOn_150 (pc' := 153) rfl (by exact (mkJ)) rfl ?_
    refine gk_iload4 dX11_goOn_153 (pc' := 155) rfl ?_
    refine gk_iald (t0 := 0) rfl dX11_goOn_155 (pc' := 156) rfl (by exact (mkA5)) (vp_in_nI (by omega) (by decide)) ?_
    rw [nI_clamp (by omega)]
    rw [uA_n (show 5 ≠ 11 by decide), hs.1 c7]
    refine gk_goto dX11_goOn_156 (tgt := 166) (by decide) ?_
    refine gk_iconst (v := 0) dX11_goOn_166 (pc' := 167) rfl (by decide) ?_
    exact go _
theorem lp_Mo_goOn3 {w t dp f mk : Nat} {of e fk : Int32} {p v : Nat → Int32} {R : Nat → Nat → Nat} {l8 : Option Value} (hZ : Z 4 = nI w ∧ Z 5 = nI t) (hw : 1 ≤ w ∧ w ≤ 16) (ht : 1 ≤ t ∧ t ≤ 16) (hf : f < 24) (hdp : dp < 4) (hmk : mk < 6) (h4 : A 4 f = nI mk) (hR : mRow (A 1) (2072 + 256 * mk) (R mk)) (hp : ∀ i, i < w * t → A 12 (256 * dp + i) = p i) (hQ : ∀ g, (∀ i, i < w * t → g i = whF (R mk) w v p i) → Q (some (.int (nI dp))) (mkH X h0 m (uA A 14 g) Z)) :
    ∀ n i g l8, i + n = w * t → (∀ q, q < i → g q = whF (R mk) w v p q) → (∀ q, q < w * t → i ≤ q → g q = v q) → G (kx X) mt_Mo_goOn d b 184 [some (.ref m), some (.int (nI dp)), some (.int of), some (.int e), some (.int (nI f)), some (.int fk), some (.int (nI (w * t))), some (.int (nI i)), l8] [] (mkH X h0 m (uA A 14 g) Z) Q := by
  have ar := area_le hw.2 ht.2
  intro n
  induction n with
  | zero =>
    intro i g l8 hi hg hg2
    refine gk_iload7 dX11_goOn_184 (pc' := 186) rfl ?_
    refine gk_iload6 dX11_goOn_186 (pc' := 188) rfl ?_
    refine gk_icmp_ge dX11_goOn_188 (tgt := 282) (pc' := 191) (by decide) rfl (fun c188 => ?_) (fun c188 => absurd (nI_le (by omega) (by omega)) c188)
    refine gk_iload1 dX11_goOn_282 (pc' := 283) rfl ?_
    refine gk_iret dX11_goOn_283 rfl (hQ g (fun q hq => hg q (by omega)))
  | succ n ih =>
    intro i g l8 hi hg hg2
    have i1 : i % w < w := Nat.mod_lt _ (by omega)
    have i2 : i / w < t := by rw [Nat.div_lt_iff_lt_mul (by omega), Nat.mul_comm]; omega
    have key : ∀ (u : Int32) (l8 : Option Value), u = whF (R mk) w v p i → G (kx X) mt_Mo_goOn d b 275 [some (.ref m), some (.int (nI dp)), some (.int of), some (.int e), some (.int (nI f)), some (.int fk), some (.int (nI (w * t))), some (.int (nI i)), l8] [.int u, .int (nI i), .ref (m + 14)] (mkH X h0 m (uA A 14 g) Z) Q := by
      intro u l8 hu
      refine gk_iast (t0 := 0) rfl dX11_goOn_275 (pc' := 276) rfl (by exact (mkA14)) (vp_in_nI (by omega) (by decide)) ?_
      rw [nI_clamp (by omega), mkS14]
      rw [uA_s, uA_u]
      refine gk_iinc7 (v := 1) dX11_goOn_276 (pc' := 279) rfl (by decide) (by decide) rfl ?_
      refine gk_goto dX11_goOn_279 (tgt := 184) (by decide) ?_
      rw [← nI_succ]
      exact ih (i + 1) _ _ (by omega) (upd_lt hg hu) (fun q hq hq2 => by rw [pk_un (by omega)]; exact hg2 q hq (by omega))
    have row := hR (i / w) (by omega) (i % w) (by omega)
    refine gk_iload7 dX11_goOn_184 (pc' := 186) rfl ?_
    refine gk_iload6 dX11_goOn_186 (pc' := 188) rfl ?_
    refine gk_icmp_ge dX11_goOn_188 (tgt := 282) (pc' := 191) (by decide) rfl (fun c188 => absurd c188 (nI_ge (by omega) (by omega))) (fun c188 => ?_)
    refine gk_aload0 dX11_goOn_191 (pc' := 192) rfl ?_
    refine gk_getf (fs := [_, _, _, _, _, _, _, _, _, _, _, _, _, _, _, _, _, _, _, _, _, _, _, _, _, _]) gF_Mo_7 dX11_goOn_192 (pc' := 195) rfl (by exact (mkJ)) rfl ?_
    refine gk_sipush (v := nI 2072) dX11_goOn_195 (pc' := 198) rfl (by decide) ?_
    refine gk_sipush (v := nI 256) dX11_goOn_198 (pc' := 201) rfl (by decide) ?_
    refine gk_aload0 dX11_goOn_201 (pc' := 202) rfl ?_
    refine gk_getf (fs := [_, _, _, _, _, _, _, _, _, _, _, _, _, _, _, _, _, _, _, _, _, _, _, _, _, _]) gF_Mo_20 dX11_goOn_202 (pc' := 205) rfl (by exact (mkJ)) rfl ?_
    refine gk_iload4 dX11_goOn_205 (pc' := 207) rfl ?_
    refine gk_iald (t0 := 0) rfl dX11_goOn_207 (pc' := 208) rfl (by exact (mkA4)) (vp_in_nI (by omega) (by decide)) ?_
    rw [nI_clamp (by omega)]
    rw [uA_n (show 4 ≠ 14 by decide), h4]
    refine gk_imulN dX11_goOn_208 (pc' := 209) rfl ?_
    refine gk_iaddN dX11_goOn_209 (pc' := 210) rfl ?_
    refine gk_bipush (v := nI 16) dX11_goOn_210 (pc' := 212) rfl (by decide) ?_
    refine gk_iload7 dX11_goOn_212 (pc' := 214) rfl ?_
    refine gk_aload0 dX11_goOn_214 (pc' := 215) rfl ?_
    refine gk_getf (fs := [_, _, _, _, _, _, _, _, _, _, _, _, _, _, _, _, _, _, _, _, _, _, _, _, _, _]) gF_Mo_138 dX11_goOn_215 (pc' := 218) rfl (by exact (mkJ)) rfl ?_
    rw [hZ.1]
    refine gk_idivN dX11_goOn_218 (pc' := 219) rfl (by omega) (by omega) (by omega) ?_
    refine gk_imulN dX11_goOn_219 (pc' := 220) rfl ?_
    refine gk_iaddN dX11_goOn_220 (pc' := 221) rfl ?_
    refine gk_iload7 dX11_goOn_221 (pc' := 223) rfl ?_
    refine gk_aload0 dX11_goOn_223 (pc' := 224) rfl ?_
    refine gk_getf (fs := [_, _, _, _, _, _, _, _, _, _, _, _, _, _, _, _, _, _, _, _, _, _, _, _, _, _]) gF_Mo_138 dX11_goOn_224 (pc' := 227) rfl (by exact (mkJ)) rfl ?_
    rw [hZ.1]
    refine gk_iremN dX11_goOn_227 (pc' := 228) rfl (by omega) (by omega) (by omega) ?_
    refine gk_iaddN dX11_goOn_228 (pc' := 229) rfl ?_
    refine gk_iald (t0 := 0) rfl dX11_goOn_229 (pc' := 230) rfl (by exact (mkA1)) (vp_in_nI (by omega) (by decide)) ?_
    rw [nI_clamp (by omega)]
    rw [uA_n (show 1 ≠ 14 by decide), row]
    refine gk_iconst (v := 1) dX11_goOn_230 (pc' := 231) rfl (by decide) ?_
    refine gk_icmp_ne dX11_goOn_231 (tgt := 238) (pc' := 234) (by decide) rfl (fun c231 => ?_) (fun c231 => ?_)
    · have off : ¬ (R mk (i / w)).testBit (i % w) := fun z => c231 (by rw [if_pos z])
      refine gk_iconst (v := 0) dX11_goOn_238 (pc' := 239) rfl (by decide) ?_
      refine gk_istore8 dX11_goOn_239 (pc' := 241) rfl (by decide) rfl ?_
      refine gk_aload0 dX11_goOn_241 (pc' := 242) rfl ?_
      refine gk_getf (fs := [_, _, _, _, _, _, _, _, _, _, _, _, _, _, _, _, _, _, _, _, _, _, _, _, _, _]) gF_Mo_50 dX11_goOn_242 (pc' := 245) rfl (by exact (mkJ)) rfl ?_
      refine gk_iload7 dX11_goOn_245 (pc' := 247) rfl ?_
      refine gk_iload8 dX11_goOn_247 (pc' := 249) rfl ?_
      refine gk_if_eq dX11_goOn_249 (tgt := 262) (pc' := 252) (by decide) rfl (fun _ => ?_) (fun c => absurd c (by decide))
      refine gk_aload0 dX11_goOn_262 (pc' := 263) rfl ?_
      refine gk_getf (fs := [_, _, _, _, _, _, _, _, _, _, _, _, _, _, _, _, _, _, _, _, _, _, _, _, _, _]) gF_Mo_44 dX11_goOn_263 (pc' := 266) rfl (by exact (mkJ)) rfl ?_
      refine gk_sipush (v := nI 256) dX11_goOn_266 (pc' := 269) rfl (by decide) ?_
      refine gk_iload1 dX11_goOn_269 (pc' := 270) rfl ?_
      refine gk_imulN dX11_goOn_270 (pc' := 271) rfl ?_
      refine gk_iload7 dX11_goOn_271 (pc' := 273) rfl ?_
      refine gk_iaddN dX11_goOn_273 (pc' := 274) rfl ?_
      refine gk_iald (t0 := 0) rfl dX11_goOn_274 (pc' := 275) rfl (by exact (mkA12)) (vp_in_nI (by omega) (by decide)) ?_
      rw [nI_clamp (by omega)]
      rw [uA_n (show 12 ≠ 14 by decide), hp i (by omega)]
      first
      | exact key _ _ (by unfold whF; rw [if_pos on])
      | exact key _ _ (by unfold whF; rw [if_neg off])
      | exact absurd c249 (by decide)
      | exact absurd rfl c249
    · have on : (R mk (i / w)).testBit (i % w) := by by_cases z : (R mk (i / w)).testBit (i % w) = true; exact z; rw [if_neg z] at c231; exact absurd c231 (by decide)
      refine gk_iconst (v := 1) dX11_goOn_234 (pc' := 235) rfl (by decide) ?_
      refine gk_goto dX11_goOn_235 (tgt := 239) (by decide) ?_
      refine gk_istore8 dX11_goOn_239 (pc' := 241) rfl (by decide) rfl ?_
      refine gk_aload0 dX11_goOn_241 (pc' := 242) rfl ?_
      refine gk_getf (fs := [_, _, _, _, _, _, _, _, _, _, _, _, _, _, _, _, _, _, _, _, _, _, _, _, _, _]) gF_Mo_50 dX11_goOn_242 (pc' := 245) rfl (by exact (mkJ)) rfl ?_
      refine gk_iload7 dX11_goOn_245 (pc' := 247) rfl ?_
      refine gk_iload8 dX11_goOn_247 (pc' := 249) rfl ?_
      refine gk_if_eq dX11_goOn_249 (tgt := 262) (pc' := 252) (by decide) rfl (fun c => absurd c (by decide)) (fun _ => ?_)
      refine gk_aload0 dX11_goOn_252 (pc' := 253) rfl ?_
      refine gk_getf (fs := [_, _, _, _, _, _, _, _, _, _, _, _, _, _, _, _, _, _, _, _, _, _, _, _, _, _]) gF_Mo_50 dX11_goOn_253 (pc' := 256) rfl (by exact (mkJ)) rfl ?_
      refine gk_iload7 dX11_goOn_256 (pc' := 258) rfl ?_
      refine gk_iald (t0 := 0) rfl dX11_goOn_258 (pc' := 259) rfl (by exact (mkA14)) (vp_in_nI (by omega) (by decide)) ?_
      rw [nI_clamp (by omega)]
      rw [uA_s, hg2 i (by omega) (Nat.le_refl _)]
      refine gk_goto dX11_goOn_259 (tgt := 275) (by decide) ?_
      first
      | exact key _ _ (by unfold whF; rw [if_pos on])
      | exact key _ _ (by unfold whF; rw [if_neg off])
      | exact absurd c249 (by decide)
      | exact absurd rfl c249
/-- a filter where a mask is: its end -/
theorem sp_Mo_goOnW {w t dp f mk : Nat} {of e : Int32} {p : Nat → Int32} {R : Nat → Nat → Nat} (hZ : Z 4 = nI w ∧ Z 5 = nI t) (hw : 1 ≤ w ∧ w ≤ 16) (ht : 1 ≤ t ∧ t ≤ 16) (hf : f < 24) (hdp : dp < 4) (h10 : A 10 dp = nI f) (h11 : A 11 dp = 1) (hA3 : A 3 f = 7) (hmk : mk < 6) (h4 : A 4 f = nI mk) (hR : mRow (A 1) (2072 + 256 * mk) (R mk)) (hp : ∀ i, i < w * t → A 12 (256 * dp + i) = p i) (hQ : ∀ g, (∀ i, i < w * t → g i = whF (R mk) w (A 14) p i) → Q (some (.int (nI dp))) (mkH X h0 m (uA (uA A 11 (upd (A 11) dp 2)) 14 g) Z)) : Gm (kx X) mt_Mo_goOn d b [.ref m, .int (nI dp), .int of, .int e] (mkH X h0 m A Z) Q := by
  have ar := area_le hw.2 ht.2
  refine Gm.enter (L := [some (.ref m), some (.int (nI dp)), some (.int of), some (.int e), none, none, none, none, none]) (by decide) (fun _ => trivial) (Nat.le_of_ble_eq_true rfl) rfl ?_
  refine gk_aload0 dX11_goOn_0 (pc' := 1) rfl ?_
  refine gk_getf (fs := [_, _, _, _, _, _, _, _, _, _, _, _, _, _, _, _, _, _, _, _, _, _, _, _, _, _]) gF_Mo_38 dX11_goOn_1 (pc' := 4) rfl (by exact (mkJ)) rfl ?_
  refine gk_iload1 dX11_goOn_4 (pc' := 5) rfl ?_
  refine gk_iald (t0 := 0) rfl dX11_goOn_5 (pc' := 6) rfl (by exact (mkA10)) (vp_in_nI (by omega) (by decide)) ?_
  rw [nI_clamp (by omega)]
  rw [h10]
  refine gk_istore4 dX11_goOn_6 (pc' := 8) rfl (by decide) rfl ?_
  refine gk_aload0 dX11_goOn_8 (pc' := 9) rfl ?_
  refine gk_getf (fs := [_, _, _, _, _, _, _, _, _, _, _, _, _, _, _, _, _, _, _, _, _, _, _, _, _, _]) gF_Mo_17 dX11_goOn_9 (pc' := 12) rfl (by exact (mkJ)) rfl ?_
  refine gk_iload4 dX11_goOn_12 (pc' := 14) rfl ?_
  refine gk_iald (t0 := 0) rfl dX11_goOn_14 (pc' := 15) rfl (by exact (mkA3)) (vp_in_nI (by omega) (by decide)) ?_
  rw [nI_clamp (by omega)]
  rw [hA3]
  refine gk_istore5 dX11_goOn_15 (pc' := 17) rfl (by decide) rfl ?_
  refine gk_aload0 dX11_goOn_17 (pc' := 18) rfl ?_
  refine gk_getf (fs := [_, _, _, _, _, _, _, _, _, _, _, _, _, _, _, _, _, _, _, _, _, _, _, _, _, _]) gF_Mo_138 dX11_goOn_18 (pc' := 21) rfl (by exact (mkJ)) rfl ?_
  rw [hZ.1]
  refine gk_aload0 dX11_goOn_21 (pc' := 22) rfl ?_
  refine gk_getf (fs := [_, _, _, _, _, _, _, _, _, _, _, _, _, _, _, _, _, _, _, _, _, _, _, _, _, _]) gF_Mo_141 dX11_goOn_22 (pc' := 25) rfl (by exact (mkJ)) rfl ?_
  rw [hZ.2]
  refine gk_imulN dX11_goOn_25 (pc' := 26) rfl ?_
  refine gk_istore6 dX11_goOn_26 (pc' := 28) rfl (by decide) rfl ?_
  refine gk_iload5 dX11_goOn_28 (pc' := 30) rfl ?_
  refine gk_bipush (v := 6) dX11_goOn_30 (pc' := 32) rfl (by decide) ?_
  refine gk_icmp_ge dX11_goOn_32 (tgt := 118) (pc' := 35) (by decide) rfl (fun c32 => ?_) (fun c32 => absurd (by decide) c32)
  refine gk_aload0 dX11_goOn_118 (pc' := 119) rfl ?_
  refine gk_getf (fs := [_, _, _, _, _, _, _, _, _, _, _, _, _, _, _, _, _, _, _, _, _, _, _, _, _, _]) gF_Mo_41 dX11_goOn_119 (pc' := 122) rfl (by exact (mkJ)) rfl ?_
  refine gk_iload1 dX11_goOn_122 (pc' := 123) rfl ?_
  refine gk_dup2 dX11_goOn_123 (pc' := 124) rfl rfl rfl ?_
  refine gk_iald (t0 := 0) rfl dX11_goOn_124 (pc' := 125) rfl (by exact (mkA11)) (vp_in_nI (by omega) (by decide)) ?_
  rw [nI_clamp (by omega)]
  rw [h11]
  refine gk_iconst (v := 1) dX11_goOn_125 (pc' := 126) rfl (by decide) ?_
  refine gk_iadd dX11_goOn_126 (pc' := 127) rfl ?_
  refine gk_iast (t0 := 0) rfl dX11_goOn_127 (pc' := 128) rfl (by exact (mkA11)) (vp_in_nI (by omega) (by decide)) ?_
  rw [nI_clamp (by omega), mkS11]
  refine gk_aload0 dX11_goOn_128 (pc' := 129) rfl ?_
  refine gk_getf (fs := [_, _, _, _, _, _, _, _, _, _, _, _, _, _, _, _, _, _, _, _, _, _, _, _, _, _]) gF_Mo_41 dX11_goOn_129 (pc' := 132) rfl (by exact (mkJ)) rfl ?_
  refine gk_iload1 dX11_goOn_132 (pc' := 133) rfl ?_
  refine gk_iald (t0 := 0) rfl dX11_goOn_133 (pc' := 134) rfl (by exact (mkA11)) (vp_in_nI (by omega) (by decide)) ?_
  rw [nI_clamp (by omega)]
  rw [uA_s, pk_us]
  refine gk_iconst (v := 1) dX11_goOn_134 (pc' := 135) rfl (by decide) ?_
  refine gk_icmp_ne dX11_goOn_135 (tgt := 174) (pc' := 138) (by decide) rfl (fun c135 => ?_) (fun c135 => absurd c135 (by decide))
  refine gk_iload5 dX11_goOn_174 (pc' := 176) rfl ?_
  refine gk_bipush (v := 7) dX11_goOn_176 (pc' := 178) rfl (by decide) ?_
  refine gk_icmp_ne dX11_goOn_178 (tgt := 284) (pc' := 181) (by decide) rfl (fun c178 => absurd rfl c178) (fun c178 => ?_)
  refine gk_iconst (v := 0) dX11_goOn_181 (pc' := 182) rfl (by decide) ?_
  refine gk_istore7 dX11_goOn_182 (pc' := 184) rfl (by decide) rfl ?_
  have q := lp_Mo_goOn3 (X := X) (h0 := h0) (m := m) (A := uA A 11 (upd (A 11) dp 2)) (Z := Z) (d := d) (b := b) (Q := Q) (fk := 7) (of := of) (e := e) (f := f) (mk := mk) (p := p) (v := A 14) (R := R) (l8 := none) hZ hw ht hf hdp hmk h4 hR hp hQ (w * t) 0 (A 14) none (by omega) (fun q hq => absurd hq (by omega)) (fun q _ _ => rfl)
  rw [show A 14 = uA A 11 (upd (A 11) dp 2) 14 from rfl, uA_i] at q
  exact q
theorem lp_Mo_goOn4 {w t dp f : Nat} {of e fk : Int32} (ar : w * t ≤ 256) (hdp : dp < 4) (hQ : ∀ g l7, (∀ i, i < w * t → g (256 * dp + i) = A 14 i) → (∀ i, i < 256 * dp → g i = A 13 i) → G (kx X) mt_Mo_goOn d b 330 [some (.ref m), some (.int (nI dp)), some (.int of), some (.int e), some (.int (nI f)), some (.int fk), some (.int (nI (w * t))), l7, none] [] (mkH X h0 m (uA A 13 g) Z) Q) :
    ∀ n i g, i + n = w * t → (∀ q, q < i → g (256 * dp + q) = A 14 q) → (∀ i, i < 256 * dp → g i = A 13 i) → G (kx X) mt_Mo_goOn d b 297 [some (.ref m), some (.int (nI dp)), some (.int of), some (.int e), some (.int (nI f)), some (.int fk), some (.int (nI (w * t))), some (.int (nI i)), none] [] (mkH X h0 m (uA A 13 g) Z) Q := by
  intro n
  induction n with
  | zero =>
    intro i g hi hg ho
    refine gk_iload7 dX11_goOn_297 (pc' := 299) rfl ?_
    refine gk_iload6 dX11_goOn_299 (pc' := 301) rfl ?_
    refine gk_icmp_ge dX11_goOn_301 (tgt := 330) (pc' := 304) (by decide) rfl (fun c301 => ?_) (fun c301 => absurd (nI_le (by omega) (by omega)) c301)
    exact hQ g _ (fun q hq => hg q (by omega)) ho
  | succ n ih =>
    intro i g hi hg ho
    refine gk_iload7 dX11_goOn_297 (pc' := 299) rfl ?_
    refine gk_iload6 dX11_goOn_299 (pc' := 301) rfl ?_
    refine gk_icmp_ge dX11_goOn_301 (tgt := 330) (pc' := 304) (by decide) rfl (fun c301 => absurd c301 (nI_ge (by omega) (by omega))) (fun c301 => ?_)
    refine gk_aload0 dX11_goOn_304 (pc' := 305) rfl ?_
    refine gk_getf (fs := [_, _, _, _, _, _, _, _, _, _, _, _, _, _, _, _, _, _, _, _, _, _, _, _, _, _]) gF_Mo_47 dX11_goOn_305 (pc' := 308) rfl (by exact (mkJ)) rfl ?_
    refine gk_sipush (v := nI 256) dX11_goOn_308 (pc' := 311) rfl (by decide) ?_
    refine gk_iload1 dX11_goOn_311 (pc' := 312) rfl ?_
    refine gk_imulN dX11_goOn_312 (pc' := 313) rfl ?_
    refine gk_iload7 dX11_goOn_313 (pc' := 315) rfl ?_
    refine gk_iaddN dX11_goOn_315 (pc' := 316) rfl ?_
    refine gk_aload0 dX11_goOn_316 (pc' := 317) rfl ?_
    refine gk_getf (fs := [_, _, _, _, _, _, _, _, _, _, _, _, _, _, _, _, _, _, _, _, _, _, _, _, _, _]) gF_Mo_50 dX11_goOn_317 (pc' := 320) rfl (by exact (mkJ)) rfl ?_
    refine gk_iload7 dX11_goOn_320 (pc' := 322) rfl ?_
    refine gk_iald (t0 := 0) rfl dX11_goOn_322 (pc' := 323) rfl (by exact (mkA14)) (vp_in_nI (by omega) (by decide)) ?_
    rw [nI_clamp (by omega)]
    rw [uA_n (show 14 ≠ 13 by decide)]
    refine gk_iast (t0 := 0) rfl dX11_goOn_323 (pc' := 324) rfl (by exact (mkA13)) (vp_in_nI (by omega) (by decide)) ?_
    rw [nI_clamp (by omega), mkS13]
    rw [uA_s, uA_u]
    refine gk_iinc7 (v := 1) dX11_goOn_324 (pc' := 327) rfl (by decide) (by decide) rfl ?_
    refine gk_goto dX11_goOn_327 (tgt := 297) (by decide) ?_
    rw [← nI_succ]
    refine ih (i + 1) _ (by omega) (fun j hj => ?_) (fun j hj => by rw [pk_un (by omega)]; exact ho j hj)
    by_cases e : j = i
    · subst e; rw [pk_us]
    · rw [pk_un (by omega)]; exact hg j (by omega)
/-- the second part of THEN and BOTH -/
theorem sp_Mo_goOnC {w t dp f s : Nat} {of e fk : Int32} {src : Nat → Int32} (hZ : Z 4 = nI w ∧ Z 5 = nI t) (hw : 1 ≤ w ∧ w ≤ 16) (ht : 1 ≤ t ∧ t ≤ 16) (hf : f < 24) (hdp : dp + 1 < 4) (h10 : A 10 dp = nI f) (h11 : A 11 dp = 1) (hA3 : A 3 f = fk) (hk : fk = 6 ∨ fk = 8) (hs : A 5 f = nI s) (hsr : (fk = 6 → src = A 14) ∧ (fk = 8 → src = fun i => A 12 (256 * dp + i))) (hQ : ∀ A' : MoA, (∀ k, k ≠ 10 → k ≠ 11 → k ≠ 12 → k ≠ 13 → A' k = A k) → A' 10 = upd (A 10) (dp + 1) (nI s) → A' 11 = upd (upd (A 11) dp 2) (dp + 1) 0 → (∀ i, i < 256 → A' 12 (256 * (dp + 1) + i) = src i) → (∀ i, i < 256 * (dp + 1) → A' 12 i = A 12 i) → (∀ i, i < w * t → A' 13 (256 * dp + i) = A 14 i) → (∀ i, i < 256 * dp → A' 13 i = A 13 i) → Q (some (.int (nI (dp + 2)))) (mkH X h0 m A' Z)) : Gm (kx X) mt_Mo_goOn (d + 1) b [.ref m, .int (nI dp), .int of, .int e] (mkH X h0 m A Z) Q := by
  have ar := area_le hw.2 ht.2
  have g6 : (6 : Int32) ≤ fk := by rcases hk with z | z <;> rw [z] <;> decide
  have n7 : ¬ fk = 7 := by rcases hk with z | z <;> rw [z] <;> decide
  have main : ∀ g l7, (∀ i, i < w * t → g (256 * dp + i) = A 14 i) → (∀ i, i < 256 * dp → g i = A 13 i) → G (kx X) mt_Mo_goOn (d + 1) b 330 [some (.ref m), some (.int (nI dp)), some (.int of), some (.int e), some (.int (nI f)), some (.int fk), some (.int (nI (w * t))), l7, none] [] (mkH X h0 m (uA (uA A 11 (upd (A 11) dp 2)) 13 g) Z) Q := by
    intro g l7 g1 g2
    have go : ∀ lt : Int32, ((lt = 1 ∧ src = A 14) ∨ (lt = 0 ∧ 1 ≤ dp + 1 ∧ ∀ i, src i = A 12 (256 * (dp + 1) - 256 + i))) → G (kx X) mt_Mo_goOn (d + 1) b 353 [some (.ref m), some (.int (nI dp)), some (.int of), some (.int e), some (.int (nI f)), some (.int fk), some (.int (nI (w * t))), l7, none] [.int lt, .int (nI s), .int (nI (dp + 1)), .ref m] (mkH X h0 m (uA (uA A 11 (upd (A 11) dp 2)) 13 g) Z) Q := by
      intro lt hlt
      refine gk_cV0_3 mv_Mo_giveTo gw_1013 dX11_goOn_353 (pc' := 356) rfl (Nat.le_of_ble_eq_true rfl) (by exact (mkJ)) (sp_Mo_giveTo (src := src) (by omega) hlt (fun gg gg1 gg2 => ?_))
      refine ⟨rfl, ?_⟩
      refine gk_iload1 dX11_goOn_356 (pc' := 357) rfl ?_
      refine gk_iconst (v := nI 2) dX11_goOn_357 (pc' := 358) rfl (by decide) ?_
      refine gk_iaddN dX11_goOn_358 (pc' := 359) rfl ?_
      refine gk_iret dX11_goOn_359 rfl (hQ _ (fun k k1 k2 k3 k4 => by rw [uA_n k3, uA_n k2, uA_n k1, uA_n k4, uA_n k2]) rfl rfl (fun i hi => by rw [uA_s, gg1 i hi]) (fun i hi => by rw [uA_s, gg2 i hi]; rfl) (fun i hi => g1 i hi) (fun i hi => g2 i hi))
    refine gk_aload0 dX11_goOn_330 (pc' := 331) rfl ?_
    refine gk_iload1 dX11_goOn_331 (pc' := 332) rfl ?_
    refine gk_iconst (v := nI 1) dX11_goOn_332 (pc' := 333) rfl (by decide) ?_
    refine gk_iaddN dX11_goOn_333 (pc' := 334) rfl ?_
    refine gk_aload0 dX11_goOn_334 (pc' := 335) rfl ?_
    refine gk_getf (fs := [_, _, _, _, _, _, _, _, _, _, _, _, _, _, _, _, _, _, _, _, _, _, _, _, _, _]) gF_Mo_23 dX11_goOn_335 (pc' := 338) rfl (by exact (mkJ)) rfl ?_
    refine gk_iload4 dX11_goOn_338 (pc' := 340) rfl ?_
    refine gk_iald (t0 := 0) rfl dX11_goOn_340 (pc' := 341) rfl (by exact (mkA5)) (vp_in_nI (by omega) (by decide)) ?_
    rw [nI_clamp (by omega)]
    rw [uA_n (show 5 ≠ 13 by decide), uA_n (show 5 ≠ 11 by decide), hs]
    refine gk_iload5 dX11_goOn_341 (pc' := 343) rfl ?_
    refine gk_bipush (v := 6) dX11_goOn_343 (pc' := 345) rfl (by decide) ?_
    refine gk_icmp_ne dX11_goOn_345 (tgt := 352) (pc' := 348) (by decide) rfl (fun c345 => ?_) (fun c345 => ?_)
    · have c6 : fk = 8 := hk.resolve_left c345
      refine gk_iconst (v := 0) dX11_goOn_352 (pc' := 353) rfl (by decide) ?_
      first
      | exact go 1 (Or.inl ⟨rfl, hsr.1 c6⟩)
      | exact go 0 (Or.inr ⟨rfl, by omega, fun i => by rw [hsr.2 c6]; rw [show 256 * (dp + 1) - 256 + i = 256 * dp + i by omega]⟩)
    · have c6 : fk = 6 := c345
      refine gk_iconst (v := 1) dX11_goOn_348 (pc' := 349) rfl (by decide) ?_
      refine gk_goto dX11_goOn_349 (tgt := 353) (by decide) ?_
      first
      | exact go 1 (Or.inl ⟨rfl, hsr.1 c6⟩)
      | exact go 0 (Or.inr ⟨rfl, by omega, fun i => by rw [hsr.2 c6]; rw [show 256 * (dp + 1) - 256 + i = 256 * dp + i by omega]⟩)
  refine Gm.enter (L := [some (.ref m), some (.int (nI dp)), some (.int of), some (.int e), none, none, none, none, none]) (by decide) (fun _ => trivial) (Nat.le_of_ble_eq_true rfl) rfl ?_
  refine gk_aload0 dX11_goOn_0 (pc' := 1) rfl ?_
  refine gk_getf (fs := [_, _, _, _, _, _, _, _, _, _, _, _, _, _, _, _, _, _, _, _, _, _, _, _, _, _]) gF_Mo_38 dX11_goOn_1 (pc' := 4) rfl (by exact (mkJ)) rfl ?_
  refine gk_iload1 dX11_goOn_4 (pc' := 5) rfl ?_
  refine gk_iald (t0 := 0) rfl dX11_goOn_5 (pc' := 6) rfl (by exact (mkA10)) (vp_in_nI (by omega) (by decide)) ?_
  rw [nI_clamp (by omega)]
  rw [h10]
  refine gk_istore4 dX11_goOn_6 (pc' := 8) rfl (by decide) rfl ?_
  refine gk_aload0 dX11_goOn_8 (pc' := 9) rfl ?_
  refine gk_getf (fs := [_, _, _, _, _, _, _, _, _, _, _, _, _, _, _, _, _, _, _, _, _, _, _, _, _, _]) gF_Mo_17 dX11_goOn_9 (pc' := 12) rfl (by exact (mkJ)) rfl ?_
  refine gk_iload4 dX11_goOn_12 (pc' := 14) rfl ?_
  refine gk_iald (t0 := 0) rfl dX11_goOn_14 (pc' := 15) rfl (by exact (mkA3)) (vp_in_nI (by omega) (by decide)) ?_
  rw [nI_clamp (by omega)]
  rw [hA3]
  refine gk_istore5 dX11_goOn_15 (pc' := 17) rfl (by decide) rfl ?_
  refine gk_aload0 dX11_goOn_17 (pc' := 18) rfl ?_
  refine gk_getf (fs := [_, _, _, _, _, _, _, _, _, _, _, _, _, _, _, _, _, _, _, _, _, _, _, _, _, _]) gF_Mo_138 dX11_goOn_18 (pc' := 21) rfl (by exact (mkJ)) rfl ?_
  rw [hZ.1]
  refine gk_aload0 dX11_goOn_21 (pc' := 22) rfl ?_
  refine gk_getf (fs := [_, _, _, _, _, _, _, _, _, _, _, _, _, _, _, _, _, _, _, _, _, _, _, _, _, _]) gF_Mo_141 dX11_goOn_22 (pc' := 25) rfl (by exact (mkJ)) rfl ?_
  rw [hZ.2]
  refine gk_imulN dX11_goOn_25 (pc' := 26) rfl ?_
  refine gk_istore6 dX11_goOn_26 (pc' := 28) rfl (by decide) rfl ?_
  refine gk_iload5 dX11_goOn_28 (pc' := 30) rfl ?_
  refine gk_bipush (v := 6) dX11_goOn_30 (pc' := 32) rfl (by decide) ?_
  refine gk_icmp_ge dX11_goOn_32 (tgt := 118) (pc' := 35) (by decide) rfl (fun c32 => ?_) (fun c32 => absurd g6 c32)
  refine gk_aload0 dX11_goOn_118 (pc' := 119) rfl ?_
  refine gk_getf (fs := [_, _, _, _, _, _, _, _, _, _, _, _, _, _, _, _, _, _, _, _, _, _, _, _, _, _]) gF_Mo_41 dX11_goOn_119 (pc' := 122) rfl (by exact (mkJ)) rfl ?_
  refine gk_iload1 dX11_goOn_122 (pc' := 123) rfl ?_
  refine gk_dup2 dX11_goOn_123 (pc' := 124) rfl rfl rfl ?_
  refine gk_iald (t0 := 0) rfl dX11_goOn_124 (pc' := 125) rfl (by exact (mkA11)) (vp_in_nI (by omega) (by decide)) ?_
  rw [nI_clamp (by omega)]
  rw [h11]
  refine gk_iconst (v := 1) dX11_goOn_125 (pc' := 126) rfl (by decide) ?_
  refine gk_iadd dX11_goOn_126 (pc' := 127) rfl ?_
  refine gk_iast (t0 := 0) rfl dX11_goOn_127 (pc' := 128) rfl (by exact (mkA11)) (vp_in_nI (by omega) (by decide)) ?_
  rw [nI_clamp (by omega), mkS11]
  refine gk_aload0 dX11_goOn_128 (pc' := 129) rfl ?_
  refine gk_getf (fs := [_, _, _, _, _, _, _, _, _, _, _, _, _, _, _, _, _, _, _, _, _, _, _, _, _, _]) gF_Mo_41 dX11_goOn_129 (pc' := 132) rfl (by exact (mkJ)) rfl ?_
  refine gk_iload1 dX11_goOn_132 (pc' := 133) rfl ?_
  refine gk_iald (t0 := 0) rfl dX11_goOn_133 (pc' := 134) rfl (by exact (mkA11)) (vp_in_nI (by omega) (by decide)) ?_
  rw [nI_clamp (by omega)]
  rw [uA_s, pk_us]
  refine gk_iconst (v := 1) dX11_goOn_134 (pc' := 135) rfl (by decide) ?_
  refine gk_icmp_ne dX11_goOn_135 (tgt := 174) (pc' := 138) (by decide) rfl (fun c135 => ?_) (fun c135 => absurd c135 (by decide))
  refine gk_iload5 dX11_goOn_174 (pc' := 176) rfl ?_
  refine gk_bipush (v := 7) dX11_goOn_176 (pc' := 178) rfl (by decide) ?_
  refine gk_icmp_ne dX11_goOn_178 (tgt := 284) (pc' := 181) (by decide) rfl (fun c178 => ?_) (fun c178 => absurd c178 n7)
  refine gk_aload0 dX11_goOn_284 (pc' := 285) rfl ?_
  refine gk_getf (fs := [_, _, _, _, _, _, _, _, _, _, _, _, _, _, _, _, _, _, _, _, _, _, _, _, _, _]) gF_Mo_41 dX11_goOn_285 (pc' := 288) rfl (by exact (mkJ)) rfl ?_
  refine gk_iload1 dX11_goOn_288 (pc' := 289) rfl ?_
  refine gk_iald (t0 := 0) rfl dX11_goOn_289 (pc' := 290) rfl (by exact (mkA11)) (vp_in_nI (by omega) (by decide)) ?_
  rw [nI_clamp (by omega)]
  rw [uA_s, pk_us]
  refine gk_iconst (v := 2) dX11_goOn_290 (pc' := 291) rfl (by decide) ?_
  refine gk_icmp_ne dX11_goOn_291 (tgt := 360) (pc' := 294) (by decide) rfl (fun c291 => absurd rfl c291) (fun c291 => ?_)
  refine gk_iconst (v := 0) dX11_goOn_294 (pc' := 295) rfl (by decide) ?_
  refine gk_istore7 dX11_goOn_295 (pc' := 297) rfl (by decide) rfl ?_
  have q := lp_Mo_goOn4 (X := X) (h0 := h0) (m := m) (A := uA A 11 (upd (A 11) dp 2)) (Z := Z) (d := d + 1) (b := b) (Q := Q) (fk := fk) (of := of) (e := e) (f := f) ar (by omega) main (w * t) 0 (A 13) (by omega) (fun q hq => absurd hq (by omega)) (fun q _ => rfl)
  rw [show A 13 = uA A 11 (upd (A 11) dp 2) 13 from rfl, uA_i] at q
  exact q
theorem lp_Mo_goOn5 {w t dp f : Nat} {of e : Int32} {p v : Nat → Int32} (ar : w * t ≤ 256) (hdp : dp < 4) (hp : ∀ i, i < w * t → A 13 (256 * dp + i) = p i) (hQ : ∀ g, (∀ i, i < w * t → g i = haF p v i) → Q (some (.int (nI dp))) (mkH X h0 m (uA A 14 g) Z)) :
    ∀ n i g, i + n = w * t → (∀ q, q < i → g q = haF p v q) → (∀ q, q < w * t → i ≤ q → g q = v q) → G (kx X) mt_Mo_goOn d b 363 [some (.ref m), some (.int (nI dp)), some (.int of), some (.int e), some (.int (nI f)), some (.int 8), some (.int (nI (w * t))), some (.int (nI i)), none] [] (mkH X h0 m (uA A 14 g) Z) Q := by
  intro n
  induction n with
  | zero =>
    intro i g hi hg hg2
    refine gk_iload7 dX11_goOn_363 (pc' := 365) rfl ?_
    refine gk_iload6 dX11_goOn_365 (pc' := 367) rfl ?_
    refine gk_icmp_ge dX11_goOn_367 (tgt := 413) (pc' := 370) (by decide) rfl (fun c367 => ?_) (fun c367 => absurd (nI_le (by omega) (by omega)) c367)
    refine gk_iload1 dX11_goOn_413 (pc' := 414) rfl ?_
    refine gk_iret dX11_goOn_414 rfl (hQ g (fun q hq => hg q (by omega)))
  | succ n ih =>
    intro i g hi hg hg2
    refine gk_iload7 dX11_goOn_363 (pc' := 365) rfl ?_
    refine gk_iload6 dX11_goOn_365 (pc' := 367) rfl ?_
    refine gk_icmp_ge dX11_goOn_367 (tgt := 413) (pc' := 370) (by decide) rfl (fun c367 => absurd c367 (nI_ge (by omega) (by omega))) (fun c367 => ?_)
    refine gk_iload5 dX11_goOn_370 (pc' := 372) rfl ?_
    refine gk_bipush (v := 8) dX11_goOn_372 (pc' := 374) rfl (by decide) ?_
    refine gk_icmp_ne dX11_goOn_374 (tgt := 413) (pc' := 377) (by decide) rfl (fun c374 => absurd rfl c374) (fun c374 => ?_)
    refine gk_aload0 dX11_goOn_377 (pc' := 378) rfl ?_
    refine gk_getf (fs := [_, _, _, _, _, _, _, _, _, _, _, _, _, _, _, _, _, _, _, _, _, _, _, _, _, _]) gF_Mo_50 dX11_goOn_378 (pc' := 381) rfl (by exact (mkJ)) rfl ?_
    refine gk_iload7 dX11_goOn_381 (pc' := 383) rfl ?_
    refine gk_aload0 dX11_goOn_383 (pc' := 384) rfl ?_
    refine gk_getf (fs := [_, _, _, _, _, _, _, _, _, _, _, _, _, _, _, _, _, _, _, _, _, _, _, _, _, _]) gF_Mo_47 dX11_goOn_384 (pc' := 387) rfl (by exact (mkJ)) rfl ?_
    refine gk_sipush (v := nI 256) dX11_goOn_387 (pc' := 390) rfl (by decide) ?_
    refine gk_iload1 dX11_goOn_390 (pc' := 391) rfl ?_
    refine gk_imulN dX11_goOn_391 (pc' := 392) rfl ?_
    refine gk_iload7 dX11_goOn_392 (pc' := 394) rfl ?_
    refine gk_iaddN dX11_goOn_394 (pc' := 395) rfl ?_
    refine gk_iald (t0 := 0) rfl dX11_goOn_395 (pc' := 396) rfl (by exact (mkA13)) (vp_in_nI (by omega) (by decide)) ?_
    rw [nI_clamp (by omega)]
    rw [uA_n (show 13 ≠ 14 by decide), hp i (by omega)]
    refine gk_aload0 dX11_goOn_396 (pc' := 397) rfl ?_
    refine gk_getf (fs := [_, _, _, _, _, _, _, _, _, _, _, _, _, _, _, _, _, _, _, _, _, _, _, _, _, _]) gF_Mo_50 dX11_goOn_397 (pc' := 400) rfl (by exact (mkJ)) rfl ?_
    refine gk_iload7 dX11_goOn_400 (pc' := 402) rfl ?_
    refine gk_iald (t0 := 0) rfl dX11_goOn_402 (pc' := 403) rfl (by exact (mkA14)) (vp_in_nI (by omega) (by decide)) ?_
    rw [nI_clamp (by omega)]
    rw [uA_s, hg2 i (by omega) (Nat.le_refl _)]
    refine gk_iadd dX11_goOn_403 (pc' := 404) rfl ?_
    refine gk_iconst (v := 1) dX11_goOn_404 (pc' := 405) rfl (by decide) ?_
    refine gk_ishr dX11_goOn_405 (pc' := 406) rfl ?_
    refine gk_iast (t0 := 0) rfl dX11_goOn_406 (pc' := 407) rfl (by exact (mkA14)) (vp_in_nI (by omega) (by decide)) ?_
    rw [nI_clamp (by omega), mkS14]
    rw [uA_s, uA_u]
    refine gk_iinc7 (v := 1) dX11_goOn_407 (pc' := 410) rfl (by decide) (by decide) rfl ?_
    refine gk_goto dX11_goOn_410 (tgt := 363) (by decide) ?_
    rw [← nI_succ]
    exact ih (i + 1) _ (by omega) (upd_lt hg rfl) (fun q hq hq2 => by rw [pk_un (by omega)]; exact hg2 q hq (by omega))
/-- the end of BOTH -/
theorem sp_Mo_goOnD {w t dp f : Nat} {of e : Int32} {p : Nat → Int32} (hZ : Z 4 = nI w ∧ Z 5 = nI t) (hw : 1 ≤ w ∧ w ≤ 16) (ht : 1 ≤ t ∧ t ≤ 16) (hf : f < 24) (hdp : dp < 4) (h10 : A 10 dp = nI f) (h11 : A 11 dp = 2) (hA3 : A 3 f = 8) (hp : ∀ i, i < w * t → A 13 (256 * dp + i) = p i) (hQ : ∀ g, (∀ i, i < w * t → g i = haF p (A 14) i) → Q (some (.int (nI dp))) (mkH X h0 m (uA (uA A 11 (upd (A 11) dp 3)) 14 g) Z)) : Gm (kx X) mt_Mo_goOn d b [.ref m, .int (nI dp), .int of, .int e] (mkH X h0 m A Z) Q := by
  have ar := area_le hw.2 ht.2
  refine Gm.enter (L := [some (.ref m), some (.int (nI dp)), some (.int of), some (.int e), none, none, none, none, none]) (by decide) (fun _ => trivial) (Nat.le_of_ble_eq_true rfl) rfl ?_
  refine gk_aload0 dX11_goOn_0 (pc' := 1) rfl ?_
  refine gk_getf (fs := [_, _, _, _, _, _, _, _, _, _, _, _, _, _, _, _, _, _, _, _, _, _, _, _, _, _]) gF_Mo_38 dX11_goOn_1 (pc' := 4) rfl (by exact (mkJ)) rfl ?_
  refine gk_iload1 dX11_goOn_4 (pc' := 5) rfl ?_
  refine gk_iald (t0 := 0) rfl dX11_goOn_5 (pc' := 6) rfl (by exact (mkA10)) (vp_in_nI (by omega) (by decide)) ?_
  rw [nI_clamp (by omega)]
  rw [h10]
  refine gk_istore4 dX11_goOn_6 (pc' := 8) rfl (by decide) rfl ?_
  refine gk_aload0 dX11_goOn_8 (pc' := 9) rfl ?_
  refine gk_getf (fs := [_, _, _, _, _, _, _, _, _, _, _, _, _, _, _, _, _, _, _, _, _, _, _, _, _, _]) gF_Mo_17 dX11_goOn_9 (pc' := 12) rfl (by exact (mkJ)) rfl ?_
  refine gk_iload4 dX11_goOn_12 (pc' := 14) rfl ?_
  refine gk_iald (t0 := 0) rfl dX11_goOn_14 (pc' := 15) rfl (by exact (mkA3)) (vp_in_nI (by omega) (by decide)) ?_
  rw [nI_clamp (by omega)]
  rw [hA3]
  refine gk_istore5 dX11_goOn_15 (pc' := 17) rfl (by decide) rfl ?_
  refine gk_aload0 dX11_goOn_17 (pc' := 18) rfl ?_
  refine gk_getf (fs := [_, _, _, _, _, _, _, _, _, _, _, _, _, _, _, _, _, _, _, _, _, _, _, _, _, _]) gF_Mo_138 dX11_goOn_18 (pc' := 21) rfl (by exact (mkJ)) rfl ?_
  rw [hZ.1]
  refine gk_aload0 dX11_goOn_21 (pc' := 22) rfl ?_
  refine gk_getf (fs := [_, _, _, _, _, _, _, _, _, _, _, _, _, _, _, _, _, _, _, _, _, _, _, _, _, _]) gF_Mo_141 dX11_goOn_22 (pc' := 25) rfl (by exact (mkJ)) rfl ?_
  rw [hZ.2]
  refine gk_imulN dX11_goOn_25 (pc' := 26) rfl ?_
  refine gk_istore6 dX11_goOn_26 (pc' := 28) rfl (by decide) rfl ?_
  refine gk_iload5 dX11_goOn_28 (pc' := 30) rfl ?_
  refine gk_bipush (v := 6) dX11_goOn_30 (pc' := 32) rfl (by decide) ?_
  refine gk_icmp_ge dX11_goOn_32 (tgt := 118) (pc' := 35) (by decide) rfl (fun c32 => ?_) (fun c32 => absurd (by decide) c32)
  refine gk_aload0 dX11_goOn_118 (pc' := 119) rfl ?_
  refine gk_getf (fs := [_, _, _, _, _, _, _, _, _, _, _, _, _, _, _, _, _, _, _, _, _, _, _, _, _, _]) gF_Mo_41 dX11_goOn_119 (pc' := 122) rfl (by exact (mkJ)) rfl ?_
  refine gk_iload1 dX11_goOn_122 (pc' := 123) rfl ?_
  refine gk_dup2 dX11_goOn_123 (pc' := 124) rfl rfl rfl ?_
  refine gk_iald (t0 := 0) rfl dX11_goOn_124 (pc' := 125) rfl (by exact (mkA11)) (vp_in_nI (by omega) (by decide)) ?_
  rw [nI_clamp (by omega)]
  rw [h11]
  refine gk_iconst (v := 1) dX11_goOn_125 (pc' := 126) rfl (by decide) ?_
  refine gk_iadd dX11_goOn_126 (pc' := 127) rfl ?_
  refine gk_iast (t0 := 0) rfl dX11_goOn_127 (pc' := 128) rfl (by exact (mkA11)) (vp_in_nI (by omega) (by decide)) ?_
  rw [nI_clamp (by omega), mkS11]
  refine gk_aload0 dX11_goOn_128 (pc' := 129) rfl ?_
  refine gk_getf (fs := [_, _, _, _, _, _, _, _, _, _, _, _, _, _, _, _, _, _, _, _, _, _, _, _, _, _]) gF_Mo_41 dX11_goOn_129 (pc' := 132) rfl (by exact (mkJ)) rfl ?_
  refine gk_iload1 dX11_goOn_132 (pc' := 133) rfl ?_
  refine gk_iald (t0 := 0) rfl dX11_goOn_133 (pc' := 134) rfl (by exact (mkA11)) (vp_in_nI (by omega) (by decide)) ?_
  rw [nI_clamp (by omega)]
  rw [uA_s, pk_us]
  refine gk_iconst (v := 1) dX11_goOn_134 (pc' := 135) rfl (by decide) ?_
  refine gk_icmp_ne dX11_goOn_135 (tgt := 174) (pc' := 138) (by decide) rfl (fun c135 => ?_) (fun c135 => absurd c135 (by decide))
  refine gk_iload5 dX11_goOn_174 (pc' := 176) rfl ?_
  refine gk_bipush (v := 7) dX11_goOn_176 (pc' := 178) rfl (by decide) ?_
  refine gk_icmp_ne dX11_goOn_178 (tgt := 284) (pc' := 181) (by decide) rfl (fun c178 => ?_) (fun c178 => absurd c178 (by decide))
  refine gk_aload0 dX11_goOn_284 (pc' := 285) rfl ?_
  refine gk_getf (fs := [_, _, _, _, _, _, _, _, _, _, _, _, _, _, _, _, _, _, _, _, _, _, _, _, _, _]) gF_Mo_41 dX11_goOn_285 (pc' := 288) rfl (by exact (mkJ)) rfl ?_
  refine gk_iload1 dX11_goOn_288 (pc' := 289) rfl ?_
  refine gk_iald (t0 := 0) rfl dX11_goOn_289 (pc' := 290) rfl (by exact (mkA11)) (vp_in_nI (by omega) (by decide)) ?_
  rw [nI_clamp (by omega)]
  rw [uA_s, pk_us]
  refine gk_iconst (v := 2) dX11_goOn_290 (pc' := 291) rfl (by decide) ?_
  refine gk_icmp_ne dX11_goOn_291 (tgt := 360) (pc' := 294) (by decide) rfl (fun c291 => ?_) (fun c291 => absurd c291 (by decide))
  refine gk_iconst (v := 0) dX11_goOn_360 (pc' := 361) rfl (by decide) ?_
  refine gk_istore7 dX11_goOn_361 (pc' := 363) rfl (by decide) rfl ?_
  have q := lp_Mo_goOn5 (X := X) (h0 := h0) (m := m) (A := uA A 11 (upd (A 11) dp 3)) (Z := Z) (d := d) (b := b) (Q := Q) (of := of) (e := e) (f := f) (p := p) (v := A 14) ar hdp hp hQ (w * t) 0 (A 14) (by omega) (fun q hq => absurd hq (by omega)) (fun q _ _ => rfl)
  rw [show A 14 = uA A 11 (upd (A 11) dp 3) 14 from rfl, uA_i] at q
  exact q
/-- the end of THEN -/
theorem sp_Mo_goOnE {w t dp f : Nat} {of e : Int32} (hZ : Z 4 = nI w ∧ Z 5 = nI t) (hw : 1 ≤ w ∧ w ≤ 16) (ht : 1 ≤ t ∧ t ≤ 16) (hf : f < 24) (hdp : dp < 4) (h10 : A 10 dp = nI f) (h11 : A 11 dp = 2) (hA3 : A 3 f = 6) (hQ : Q (some (.int (nI dp))) (mkH X h0 m (uA A 11 (upd (A 11) dp 3)) Z)) : Gm (kx X) mt_Mo_goOn d b [.ref m, .int (nI dp), .int of, .int e] (mkH X h0 m A Z) Q := by
  have ar := area_le hw.2 ht.2
  refine Gm.enter (L := [some (.ref m), some (.int (nI dp)), some (.int of), some (.int e), none, none, none, none, none]) (by decide) (fun _ => trivial) (Nat.le_of_ble_eq_true rfl) rfl ?_
  refine gk_aload0 dX11_goOn_0 (pc' := 1) rfl ?_
  refine gk_getf (fs := [_, _, _, _, _, _, _, _, _, _, _, _, _, _, _, _, _, _, _, _, _, _, _, _, _, _]) gF_Mo_38 dX11_goOn_1 (pc' := 4) rfl (by exact (mkJ)) rfl ?_
  refine gk_iload1 dX11_goOn_4 (pc' := 5) rfl ?_
  refine gk_iald (t0 := 0) rfl dX11_goOn_5 (pc' := 6) rfl (by exact (mkA10)) (vp_in_nI (by omega) (by decide)) ?_
  rw [nI_clamp (by omega)]
  rw [h10]
  refine gk_istore4 dX11_goOn_6 (pc' := 8) rfl (by decide) rfl ?_
  refine gk_aload0 dX11_goOn_8 (pc' := 9) rfl ?_
  refine gk_getf (fs := [_, _, _, _, _, _, _, _, _, _, _, _, _, _, _, _, _, _, _, _, _, _, _, _, _, _]) gF_Mo_17 dX11_goOn_9 (pc' := 12) rfl (by exact (mkJ)) rfl ?_
  refine gk_iload4 dX11_goOn_12 (pc' := 14) rfl ?_
  refine gk_iald (t0 := 0) rfl dX11_goOn_14 (pc' := 15) rfl (by exact (mkA3)) (vp_in_nI (by omega) (by decide)) ?_
  rw [nI_clamp (by omega)]
  rw [hA3]
  refine gk_istore5 dX11_goOn_15 (pc' := 17) rfl (by decide) rfl ?_
  refine gk_aload0 dX11_goOn_17 (pc' := 18) rfl ?_
  refine gk_getf (fs := [_, _, _, _, _, _, _, _, _, _, _, _, _, _, _, _, _, _, _, _, _, _, _, _, _, _]) gF_Mo_138 dX11_goOn_18 (pc' := 21) rfl (by exact (mkJ)) rfl ?_
  rw [hZ.1]
  refine gk_aload0 dX11_goOn_21 (pc' := 22) rfl ?_
  refine gk_getf (fs := [_, _, _, _, _, _, _, _, _, _, _, _, _, _, _, _, _, _, _, _, _, _, _, _, _, _]) gF_Mo_141 dX11_goOn_22 (pc' := 25) rfl (by exact (mkJ)) rfl ?_
  rw [hZ.2]
  refine gk_imulN dX11_goOn_25 (pc' := 26) rfl ?_
  refine gk_istore6 dX11_goOn_26 (pc' := 28) rfl (by decide) rfl ?_
  refine gk_iload5 dX11_goOn_28 (pc' := 30) rfl ?_
  refine gk_bipush (v := 6) dX11_goOn_30 (pc' := 32) rfl (by decide) ?_
  refine gk_icmp_ge dX11_goOn_32 (tgt := 118) (pc' := 35) (by decide) rfl (fun c32 => ?_) (fun c32 => absurd (by decide) c32)
  refine gk_aload0 dX11_goOn_118 (pc' := 119) rfl ?_
  refine gk_getf (fs := [_, _, _, _, _, _, _, _, _, _, _, _, _, _, _, _, _, _, _, _, _, _, _, _, _, _]) gF_Mo_41 dX11_goOn_119 (pc' := 122) rfl (by exact (mkJ)) rfl ?_
  refine gk_iload1 dX11_goOn_122 (pc' := 123) rfl ?_
  refine gk_dup2 dX11_goOn_123 (pc' := 124) rfl rfl rfl ?_
  refine gk_iald (t0 := 0) rfl dX11_goOn_124 (pc' := 125) rfl (by exact (mkA11)) (vp_in_nI (by omega) (by decide)) ?_
  rw [nI_clamp (by omega)]
  rw [h11]
  refine gk_iconst (v := 1) dX11_goOn_125 (pc' := 126) rfl (by decide) ?_
  refine gk_iadd dX11_goOn_126 (pc' := 127) rfl ?_
  refine gk_iast (t0 := 0) rfl dX11_goOn_127 (pc' := 128) rfl (by exact (mkA11)) (vp_in_nI (by omega) (by decide)) ?_
  rw [nI_clamp (by omega), mkS11]
  refine gk_aload0 dX11_goOn_128 (pc' := 129) rfl ?_
  refine gk_getf (fs := [_, _, _, _, _, _, _, _, _, _, _, _, _, _, _, _, _, _, _, _, _, _, _, _, _, _]) gF_Mo_41 dX11_goOn_129 (pc' := 132) rfl (by exact (mkJ)) rfl ?_
  refine gk_iload1 dX11_goOn_132 (pc' := 133) rfl ?_
  refine gk_iald (t0 := 0) rfl dX11_goOn_133 (pc' := 134) rfl (by exact (mkA11)) (vp_in_nI (by omega) (by decide)) ?_
  rw [nI_clamp (by omega)]
  rw [uA_s, pk_us]
  refine gk_iconst (v := 1) dX11_goOn_134 (pc' := 135) rfl (by decide) ?_
  refine gk_icmp_ne dX11_goOn_135 (tgt := 174) (pc' := 138) (by decide) rfl (fun c135 => ?_) (fun c135 => absurd c135 (by decide))
  refine gk_iload5 dX11_goOn_174 (pc' := 176) rfl ?_
  refine gk_bipush (v := 7) dX11_goOn_176 (pc' := 178) rfl (by decide) ?_
  refine gk_icmp_ne dX11_goOn_178 (tgt := 284) (pc' := 181) (by decide) rfl (fun c178 => ?_) (fun c178 => absurd c178 (by decide))
  refine gk_aload0 dX11_goOn_284 (pc' := 285) rfl ?_
  refine gk_getf (fs := [_, _, _, _, _, _, _, _, _, _, _, _, _, _, _, _, _, _, _, _, _, _, _, _, _, _]) gF_Mo_41 dX11_goOn_285 (pc' := 288) rfl (by exact (mkJ)) rfl ?_
  refine gk_iload1 dX11_goOn_288 (pc' := 289) rfl ?_
  refine gk_iald (t0 := 0) rfl dX11_goOn_289 (pc' := 290) rfl (by exact (mkA11)) (vp_in_nI (by omega) (by decide)) ?_
  rw [nI_clamp (by omega)]
  rw [uA_s, pk_us]
  refine gk_iconst (v := 2) dX11_goOn_290 (pc' := 291) rfl (by decide) ?_
  refine gk_icmp_ne dX11_goOn_291 (tgt := 360) (pc' := 294) (by decide) rfl (fun c291 => ?_) (fun c291 => absurd c291 (by decide))
  refine gk_iconst (v := 0) dX11_goOn_360 (pc' := 361) rfl (by decide) ?_
  refine gk_istore7 dX11_goOn_361 (pc' := 363) rfl (by decide) rfl ?_
  refine gk_iload7 dX11_goOn_363 (pc' := 365) rfl ?_
  refine gk_iload6 dX11_goOn_365 (pc' := 367) rfl ?_
  refine gk_icmp_ge dX11_goOn_367 (tgt := 413) (pc' := 370) (by decide) rfl (fun c367 => ?_) (fun c367 => ?_)
  · refine gk_iload1 dX11_goOn_413 (pc' := 414) rfl ?_
    refine gk_iret dX11_goOn_414 rfl hQ
  · refine gk_iload5 dX11_goOn_370 (pc' := 372) rfl ?_
    refine gk_bipush (v := 8) dX11_goOn_372 (pc' := 374) rfl (by decide) ?_
    refine gk_icmp_ne dX11_goOn_374 (tgt := 413) (pc' := 377) (by decide) rfl (fun c374 => ?_) (fun c374 => absurd c374 (by decide))
    refine gk_iload1 dX11_goOn_413 (pc' := 414) rfl ?_
    refine gk_iret dX11_goOn_414 rfl hQ
end MoV
