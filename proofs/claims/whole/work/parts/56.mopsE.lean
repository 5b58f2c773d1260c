/-! ===== the reference: apply ===== -/
def kpL (dp : Nat) (A A' : MoA) : Prop := (∀ q, q < dp → A' 10 q = A 10 q ∧ A' 11 q = A 11 q) ∧ (∀ i, i < 256 * dp + 256 → A' 12 i = A 12 i) ∧ ∀ i, i < 256 * dp → A' 13 i = A 13 i
section MoW
variable {X : gX} {d : Nat} {b : Nat × Nat} {h h0 : gk_H} {m : Nat} {A : MoA} {Z : MoZ} {Q : Option Value → gk_H → Prop} {S : St}
theorem ap_step {j dp : Nat} {c : Pc} {f0 e : Int32} (hdp : dp < 4) (hp : pRow (A 1) (259 * j) c) (hj : j < 8) (hG : ∀ Q' : Option Value → gk_H → Prop, (∀ q h', G (kx X) mt_Mo_apply (d + 1) b 91 [some (.ref m), some (.int (nI j)), some (.int f0), some (.int e), some (.int (nI q))] [] h' Q → Q' (some (.int (nI q))) h') → Gm (kx X) mt_Mo_goOn d (0, 0) [.ref m, .int (nI dp), .int c.1, .int e] (mkH X h0 m A Z) Q') : G (kx X) mt_Mo_apply (d + 1) b 91 [some (.ref m), some (.int (nI j)), some (.int f0), some (.int e), some (.int (nI (dp + 1)))] [] (mkH X h0 m A Z) Q := by
  refine gk_iload4 dX11_apply_91 (pc' := 93) rfl ?_
  refine gk_if_le dX11_apply_93 (tgt := 115) (pc' := 96) (by decide) rfl (fun c93 => absurd c93 (nI_nle (by omega) (by omega))) (fun c93 => ?_)
  refine gk_aload0 dX11_apply_96 (pc' := 97) rfl ?_
  refine gk_iload4 dX11_apply_97 (pc' := 99) rfl ?_
  refine gk_iconst (v := nI 1) dX11_apply_99 (pc' := 100) rfl (by decide) ?_
  refine gk_isubN dX11_apply_100 (pc' := 101) rfl (by omega) ?_
  rw [Nat.add_sub_cancel]
  refine gk_aload0 dX11_apply_101 (pc' := 102) rfl ?_
  refine gk_iload1 dX11_apply_102 (pc' := 103) rfl ?_
  refine gk_cV1_1 mv_Mo_kindOf gw_921 dX11_apply_103 (pc' := 106) rfl (Nat.le_of_ble_eq_true rfl) (by exact (mkJ)) (sp_Mo_kindOf hp hj ?_)
  refine ⟨_, rfl, ?_⟩
  refine gk_iload3 dX11_apply_106 (pc' := 107) rfl ?_
  refine gk_cV1_3 mv_Mo_goOn gw_1017 dX11_apply_107 (pc' := 110) rfl (Nat.le_of_ble_eq_true rfl) (by exact (mkJ)) (hG _ (fun q h' hq => ?_))
  refine ⟨_, rfl, ?_⟩
  refine gk_istore4 dX11_apply_110 (pc' := 112) rfl (by decide) rfl ?_
  exact gk_goto dX11_apply_112 (tgt := 91) (by decide) hq
theorem ap_run {j w t nF : Nat} {of f0 e : Int32} {px fk fa fb : Nat → Int32} {fh : Nat → Nat} {fw : Nat → Nat → Int32} {R : Nat → Nat → Nat} {A0 : MoA} (hZ : Z 4 = nI w ∧ Z 5 = nI t) (hw : 1 ≤ w ∧ w ≤ 16) (ht : 1 ≤ t ∧ t ≤ 16) (he : 0 ≤ e.toInt ∧ e.toInt ≤ 3) (ho : of = 0 ∨ of = 1) (hj : j < 8) (hpr : pRow (A0 1) (259 * j) (of, w, t, px)) (hN : nF ≤ 24) (hwf : ∀ i, i < nF → wfF fk fa fb fh fw i) (hr5 : ∀ i, fk i = 5 → (fa i).toInt.toNat < 9) (hnn : ∀ i, i < nF → (fk i = 6 ∨ fk i = 8 → 0 ≤ (fa i).toInt ∧ 0 ≤ (fb i).toInt) ∧ (fk i = 7 → 0 ≤ (fb i).toInt)) (hT : ∀ i, i < nF → A0 3 i = fk i ∧ A0 4 i = fa i ∧ A0 5 i = fb i ∧ (fk i = 4 → ∀ j, j < 9 → A0 7 (9 * i + j) = fw i j)) (hR : ∀ q, q < 6 → mRow (A0 1) (2072 + 256 * q) (R q)) :
    ∀ (n f dp : Nat) (p : Nat → Int32) (A : MoA), fh f ≤ n → f < nF → dp + n ≤ 4 → (∀ i, i ≤ 8 → A i = A0 i) → A 10 dp = nI f → A 11 dp = 0 → (∀ i, i < w * t → A 12 (256 * dp + i) = p i) → (∀ i, i < w * t → inK of (p i)) → (∀ A' : MoA, (∀ i, i ≤ 8 → A' i = A0 i) → (∀ i, i < w * t → A' 14 i = dv fk fa fb fw R of w t e n f p i) → kpL dp A A' → G (kx X) mt_Mo_apply (d + 10) b 91 [some (.ref m), some (.int (nI j)), some (.int f0), some (.int e), some (.int (nI dp))] [] (mkH X h0 m A' Z) Q) → G (kx X) mt_Mo_apply (d + 10) b 91 [some (.ref m), some (.int (nI j)), some (.int f0), some (.int e), some (.int (nI (dp + 1)))] [] (mkH X h0 m A Z) Q := by
  have ar := area_le hw.2 ht.2
  intro n
  induction n with
  | zero =>
    intro f dp p A h1 h2
    have := (hwf f h2).1
    omega
  | succ n ih =>
    intro f dp p A hfh hf hdp h8 h10 h11 h12 hin hQ
    have wf := hwf f hf
    have nn := hnn f hf
    have T := hT f hf
    have row : ∀ A' : MoA, (∀ i, i ≤ 8 → A' i = A0 i) → pRow (A' 1) (259 * j) (of, w, t, px) := fun A' h => by rw [h 1 (by decide)]; exact hpr
    have t3 : ∀ A' : MoA, (∀ i, i ≤ 8 → A' i = A0 i) → A' 3 f = fk f := fun A' h => by rw [h 3 (by decide)]; exact T.1
    have t4 : ∀ A' : MoA, (∀ i, i ≤ 8 → A' i = A0 i) → A' 4 f = fa f := fun A' h => by rw [h 4 (by decide)]; exact T.2.1
    have t5 : ∀ A' : MoA, (∀ i, i ≤ 8 → A' i = A0 i) → A' 5 f = fb f := fun A' h => by rw [h 5 (by decide)]; exact T.2.2.1
    have inv := fun (s : Nat) (q : Nat → Int32) (hq : ∀ i, i < w * t → inK of (q i)) => inK_dv (fk := fk) (fa := fa) (fb := fb) (fw := fw) (R := R) (k := of) (w := w) (t := t) (e := e) hw.1 ht.1 hr5 n s q hq
    have leaf : ((fk f = 0 ∨ fk f = 1 ∨ fk f = 2) ∨ (fk f = 3 ∧ (-100000 ≤ (fa f).toInt ∧ (fa f).toInt ≤ 100000) ∧ 1 ≤ (fb f).toInt ∧ (fb f).toInt ≤ 1000) ∨ (fk f = 4 ∧ 1 ≤ (fa f).toInt ∧ (fa f).toInt ≤ 1000 ∧ ∀ j, j < 9 → -1000 ≤ (fw f j).toInt ∧ (fw f j).toInt ≤ 1000) ∨ (fk f = 5 ∧ 0 ≤ (fa f).toInt ∧ (fa f).toInt ≤ 8)) → G (kx X) mt_Mo_apply (d + 10) b 91 [some (.ref m), some (.int (nI j)), some (.int f0), some (.int e), some (.int (nI (dp + 1)))] [] (mkH X h0 m A Z) Q := by
      intro hk
      have k6 : fk f = 0 ∨ fk f = 1 ∨ fk f = 2 ∨ fk f = 3 ∨ fk f = 4 ∨ fk f = 5 := by
        rcases hk with (z | z | z) | ⟨z, -⟩ | ⟨z, -⟩ | ⟨z, -⟩
        · exact Or.inl z
        · exact Or.inr (Or.inl z)
        · exact Or.inr (Or.inr (Or.inl z))
        · exact Or.inr (Or.inr (Or.inr (Or.inl z)))
        · exact Or.inr (Or.inr (Or.inr (Or.inr (Or.inl z))))
        · exact Or.inr (Or.inr (Or.inr (Or.inr (Or.inr z))))
      have t7 : fk f = 4 → ∀ i, i < 9 → A 7 (9 * f + i) = fw f i := fun h4 i hi => by rw [h8 7 (by decide)]; exact T.2.2.2 h4 i hi
      refine ap_step (c := (of, w, t, px)) (by omega) (row A h8) hj (fun Q' hk' => ?_)
      refine sp_Mo_goOnA (d := d + 5) (fk := fk f) (fa := fa f) (fb := fb f) (V := dv fk fa fb fw R of w t e (n + 1) f p) hZ hw ht (by omega) (by omega) he ho h10 (t3 A h8) (t4 A h8) (t5 A h8) h12 hin ?_ (fun q i hq hi => sgl_dv hw.1 ht.1 hq t7 k6 hi) (fun A' k1 k2 => hk' dp _ (hQ A' (fun i hi => (k1 i (by omega) (by omega) (by omega)).trans (h8 i hi)) k2 ⟨fun q hq => ⟨by rw [k1 10 (by decide) (by decide) (by decide)], by rw [k1 11 (by decide) (by decide) (by decide)]⟩, fun i hi => by rw [k1 12 (by decide) (by decide) (by decide)], fun i hi => by rw [k1 13 (by decide) (by decide) (by decide)]⟩))
      rcases hk with z | z | z | z
      · exact Or.inl z
      · exact Or.inr (Or.inl z)
      · exact Or.inr (Or.inr (Or.inl ⟨z.1, z.2.1, z.2.2.1, fun j hj => by rw [t7 z.1 j hj]; exact z.2.2.2 j hj⟩))
      · exact Or.inr (Or.inr (Or.inr z))
    rcases wf.2.2 with z | z | z | z | z | z
    · exact leaf (Or.inl z)
    · exact leaf (Or.inr (Or.inl z))
    · exact leaf (Or.inr (Or.inr (Or.inl z)))
    · exact leaf (Or.inr (Or.inr (Or.inr z)))
    · obtain ⟨k68, fa1, fb1, fa2, fb2⟩ := z
      have nn := nn.1 k68
      obtain ⟨sa, hsa, ea⟩ := pu_of (x := fa f) (n := 24) nn.1 (by omega) (by decide)
      obtain ⟨sb, hsb, eb⟩ := pu_of (x := fb f) (n := 24) nn.2 (by omega) (by decide)
      have ya : (fa f).toInt.toNat = sa := by rw [ea]; exact nI_nat (by omega)
      have yb : (fb f).toInt.toNat = sb := by rw [eb]; exact nI_nat (by omega)
      rw [ya] at fa1 fa2
      rw [yb] at fb1 fb2
      have n7 : ¬ fk f = 7 := by rcases k68 with z | z <;> rw [z] <;> decide
      have g6 : (6 : Int32) ≤ fk f := by rcases k68 with z | z <;> rw [z] <;> decide
      have n45 : ¬ (fk f = 4 ∨ fk f = 5) := by rcases k68 with z | z <;> rw [z] <;> decide
      have pa := (hwf sa (by omega)).1
      refine ap_step (c := (of, w, t, px)) (by omega) (row A h8) hj (fun Q' hk' => ?_)
      refine sp_Mo_goOnB (d := d + 8) (s := sa) hZ hw ht (by omega) (by omega) h10 h11 (t3 A h8) g6 ⟨fun z => absurd z n7, fun _ => by rw [t4 A h8]; exact ea⟩ (fun A1 p1 p2 p3 p4 p5 => hk' (dp + 2) _ ?_)
      have q8 : ∀ i, i ≤ 8 → A1 i = A0 i := fun i hi => (p1 i (by omega) (by omega) (by omega)).trans (h8 i hi)
      refine ih sa (dp + 1) p A1 (by omega) (by omega) (by omega) q8 (by rw [p2, pk_us]) (by rw [p3, pk_us]) (fun i hi => by rw [p4 i (by omega)]; exact h12 i hi) hin (fun A2 r8 r14 rk => ?_)
      have r10 : A2 10 dp = nI f := by rw [(rk.1 dp (by omega)).1, p2, pk_un (by omega)]; exact h10
      have r11 : A2 11 dp = 1 := by rw [(rk.1 dp (by omega)).2, p3, pk_un (by omega), pk_us]
      have r12 : ∀ i, i < 256 * (dp + 1) → A2 12 i = A 12 i := fun i hi => by rw [rk.2.1 i (by omega)]; exact p5 i hi
      refine ap_step (c := (of, w, t, px)) (by omega) (row A2 r8) hj (fun Q' hk' => ?_)
      refine sp_Mo_goOnC (d := d + 8) (s := sb) (fk := fk f) (src := if fk f = 6 then A2 14 else fun i => A2 12 (256 * dp + i)) hZ hw ht (by omega) (by omega) r10 r11 (t3 A2 r8) k68 (by rw [t5 A2 r8]; exact eb) ⟨fun z => if_pos z, fun z => if_neg (by rw [z]; decide)⟩ (fun A3 s1 s2 s3 s4 s5 s6 s7 => hk' (dp + 2) _ ?_)
      have u8 : ∀ i, i ≤ 8 → A3 i = A0 i := fun i hi => (s1 i (by omega) (by omega) (by omega) (by omega)).trans (r8 i hi)
      have low : ∀ q, q < dp → A3 10 q = A 10 q ∧ A3 11 q = A 11 q := fun q hq => ⟨by rw [s2, pk_un (by omega), (rk.1 q (by omega)).1, p2, pk_un (by omega)], by rw [s3, pk_un (by omega), pk_un (by omega), (rk.1 q (by omega)).2, p3, pk_un (by omega), pk_un (by omega)]⟩
      have l12 : ∀ i, i < 256 * dp + 256 → A3 12 i = A 12 i := fun i hi => by rw [s5 i (by omega)]; exact r12 i (by omega)
      have l13 : ∀ i, i < 256 * dp → A3 13 i = A 13 i := fun i hi => by rw [s7 i hi, rk.2.2 i (by omega), p1 13 (by decide) (by decide) (by decide)]
      rcases k68 with k6 | k8
      · have ev : dv fk fa fb fw R of w t e (n + 1) f p = dv fk fa fb fw R of w t e n sb (dv fk fa fb fw R of w t e n sa p) := by
          rw [dv, if_neg n45, if_pos k6, ya, yb]
        refine ih sb (dp + 1) (dv fk fa fb fw R of w t e n sa p) A3 (by omega) (by omega) (by omega) u8 (by rw [s2, pk_us]) (by rw [s3, pk_us]) (fun i hi => by rw [s4 i (by omega), if_pos k6]; exact r14 i hi) (inv sa p hin) (fun A4 v8 v14 vk => ?_)
        have v10 : A4 10 dp = nI f := by rw [(vk.1 dp (by omega)).1, s2, pk_un (by omega)]; exact r10
        have v11 : A4 11 dp = 2 := by rw [(vk.1 dp (by omega)).2, s3, pk_un (by omega), pk_us]
        refine ap_step (c := (of, w, t, px)) (by omega) (row A4 v8) hj (fun Q' hk' => ?_)
        refine sp_Mo_goOnE hZ hw ht (by omega) (by omega) v10 v11 (by rw [t3 A4 v8]; exact k6) (hk' dp _ (hQ _ (fun i hi => (uA_n (by omega)).trans (v8 i hi)) (fun i hi => ?_) ⟨fun q hq => ⟨?_, ?_⟩, fun i hi => ?_, fun i hi => ?_⟩))
        · rw [uA_n (by decide), ev]; exact v14 i hi
        · rw [uA_n (by decide), (vk.1 q (by omega)).1]; exact (low q hq).1
        · rw [uA_s, pk_un (by omega), (vk.1 q (by omega)).2]; exact (low q hq).2
        · rw [uA_n (by decide), vk.2.1 i (by omega)]; exact l12 i hi
        · rw [uA_n (by decide), vk.2.2 i (by omega)]; exact l13 i hi
      · have n6 : ¬ fk f = 6 := by rw [k8]; decide
        have ev : dv fk fa fb fw R of w t e (n + 1) f p = haF (dv fk fa fb fw R of w t e n sa p) (dv fk fa fb fw R of w t e n sb p) := by
          rw [dv, if_neg n45, if_neg n6, if_neg n7, if_pos k8, ya, yb]
        refine ih sb (dp + 1) p A3 (by omega) (by omega) (by omega) u8 (by rw [s2, pk_us]) (by rw [s3, pk_us]) (fun i hi => by rw [s4 i (by omega), if_neg n6, r12 _ (by omega)]; exact h12 i hi) hin (fun A4 v8 v14 vk => ?_)
        have v10 : A4 10 dp = nI f := by rw [(vk.1 dp (by omega)).1, s2, pk_un (by omega)]; exact r10
        have v11 : A4 11 dp = 2 := by rw [(vk.1 dp (by omega)).2, s3, pk_un (by omega), pk_us]
        refine ap_step (c := (of, w, t, px)) (by omega) (row A4 v8) hj (fun Q' hk' => ?_)
        refine sp_Mo_goOnD (p := dv fk fa fb fw R of w t e n sa p) hZ hw ht (by omega) (by omega) v10 v11 (by rw [t3 A4 v8]; exact k8) (fun i hi => by rw [vk.2.2 _ (by omega), s6 i hi]; exact r14 i hi) (fun g hg => hk' dp _ (hQ _ (fun i hi => ((uA_n (by omega)).trans (uA_n (by omega))).trans (v8 i hi)) (fun i hi => ?_) ⟨fun q hq => ⟨?_, ?_⟩, fun i hi => ?_, fun i hi => ?_⟩))
        · rw [uA_s, hg i hi, ev]
          unfold haF
          rw [v14 i hi]
        · rw [uA_n (by decide), uA_n (by decide), (vk.1 q (by omega)).1]; exact (low q hq).1
        · rw [uA_n (by decide), uA_s, pk_un (by omega), (vk.1 q (by omega)).2]; exact (low q hq).2
        · rw [uA_n (by decide), uA_n (by decide), vk.2.1 i (by omega)]; exact l12 i hi
        · rw [uA_n (by decide), uA_n (by decide), vk.2.2 i (by omega)]; exact l13 i hi
    · obtain ⟨k7, fa1, fb1, fb2⟩ := z
      have nn := nn.2 k7
      obtain ⟨sa, hsa, ea⟩ := pu_of (x := fa f) (n := 6) fa1.1 fa1.2 (by decide)
      obtain ⟨sb, hsb, eb⟩ := pu_of (x := fb f) (n := 24) nn (by omega) (by decide)
      have ya : (fa f).toInt.toNat = sa := by rw [ea]; exact nI_nat (by omega)
      have yb : (fb f).toInt.toNat = sb := by rw [eb]; exact nI_nat (by omega)
      rw [yb] at fb1 fb2
      have pb := (hwf sb (by omega)).1
      have ev : dv fk fa fb fw R of w t e (n + 1) f p = whF (R sa) w (dv fk fa fb fw R of w t e n sb p) p := by
        rw [dv, if_neg (by rw [k7]; decide), if_neg (by rw [k7]; decide), if_pos k7, ya, yb]
      refine ap_step (c := (of, w, t, px)) (by omega) (row A h8) hj (fun Q' hk' => ?_)
      refine sp_Mo_goOnB (d := d + 8) (s := sb) hZ hw ht (by omega) (by omega) h10 h11 (t3 A h8) (by rw [k7]; decide) ⟨fun _ => by rw [t5 A h8]; exact eb, fun z => absurd k7 z⟩ (fun A1 p1 p2 p3 p4 p5 => hk' (dp + 2) _ ?_)
      have q8 : ∀ i, i ≤ 8 → A1 i = A0 i := fun i hi => (p1 i (by omega) (by omega) (by omega)).trans (h8 i hi)
      refine ih sb (dp + 1) p A1 (by omega) (by omega) (by omega) q8 (by rw [p2, pk_us]) (by rw [p3, pk_us]) (fun i hi => by rw [p4 i (by omega)]; exact h12 i hi) hin (fun A2 r8 r14 rk => ?_)
      have r10 : A2 10 dp = nI f := by rw [(rk.1 dp (by omega)).1, p2, pk_un (by omega)]; exact h10
      have r11 : A2 11 dp = 1 := by rw [(rk.1 dp (by omega)).2, p3, pk_un (by omega), pk_us]
      have r12 : ∀ i, i < 256 * (dp + 1) → A2 12 i = A 12 i := fun i hi => by rw [rk.2.1 i (by omega)]; exact p5 i hi
      refine ap_step (c := (of, w, t, px)) (by omega) (row A2 r8) hj (fun Q' hk' => ?_)
      refine sp_Mo_goOnW (mk := sa) (R := R) (p := p) hZ hw ht (by omega) (by omega) r10 r11 (by rw [t3 A2 r8]; exact k7) hsa (by rw [t4 A2 r8]; exact ea) (by rw [r8 1 (by decide)]; exact hR sa hsa) (fun i hi => by rw [r12 _ (by omega)]; exact h12 i hi) (fun g hg => hk' dp _ (hQ _ (fun i hi => ((uA_n (by omega)).trans (uA_n (by omega))).trans (r8 i hi)) (fun i hi => ?_) ⟨fun q hq => ⟨?_, ?_⟩, fun i hi => ?_, fun i hi => ?_⟩))
      · rw [uA_s, hg i hi, ev]
        unfold whF
        rw [r14 i hi]
      · rw [uA_n (by decide), uA_n (by decide), (rk.1 q (by omega)).1, p2, pk_un (by omega)]
      · rw [uA_n (by decide), uA_s, pk_un (by omega), (rk.1 q (by omega)).2, p3, pk_un (by omega), pk_un (by omega)]
      · rw [uA_n (by decide), uA_n (by decide)]; exact r12 i (by omega)
      · rw [uA_n (by decide), uA_n (by decide), rk.2.2 i (by omega), p1 13 (by decide) (by decide) (by decide)]
theorem lp_Mo_apply0 {l1 l2 l3 : Option Value} {L1 L2 L3 : Int32} (e1 : l1 = some (.int L1)) (e2 : l2 = some (.int L2)) (e3 : l3 = some (.int L3)) (hQ : ∀ l4, G (kx X) mt_Mo_apply d b 81 [some (.ref m), l1, l2, l3, l4] [] (mkH X h0 m (uA A 14 (cpI (A 14) (A 9) 0 256)) Z) Q) : ∀ n i, i + n = 256 → G (kx X) mt_Mo_apply d b 53 [some (.ref m), l1, l2, l3, some (.int (nI i))] [] (mkH X h0 m (uA A 14 (cpI (A 14) (A 9) 0 i)) Z) Q := by
  subst e1 e2 e3
  intro n
  induction n with
  | zero =>
    intro i hi
    have e : i = 256 := by omega
    subst e
    refine gk_iload4 dX11_apply_53 (pc' := 55) rfl ?_
    refine gk_sipush (v := 256) dX11_apply_55 (pc' := 58) rfl (by decide) ?_
    refine gk_icmp_ge dX11_apply_58 (tgt := 81) (pc' := 61) (by decide) rfl (fun c58 => ?_) (fun c58 => absurd (by decide) c58)
    exact hQ _
  | succ n ih =>
    intro i hi
    have es : upd (cpI (A 14) (A 9) 0 i) i (A 9 i) = cpI (A 14) (A 9) 0 (i + 1) := by
      have := cpI_s (f := A 14) (g := A 9) (s := 0) (i := i)
      rw [Nat.zero_add] at this
      exact this
    refine gk_iload4 dX11_apply_53 (pc' := 55) rfl ?_
    refine gk_sipush (v := 256) dX11_apply_55 (pc' := 58) rfl (by decide) ?_
    refine gk_icmp_ge dX11_apply_58 (tgt := 81) (pc' := 61) (by decide) rfl (fun c58 => absurd c58 (nI_ge (b := 256) (by omega) (by omega))) (fun c58 => ?_)
    refine gk_aload0 dX11_apply_61 (pc' := 62) rfl ?_
    refine gk_getf (fs := [_, _, _, _, _, _, _, _, _, _, _, _, _, _, _, _, _, _, _, _, _, _, _, _, _, _]) gF_Mo_50 dX11_apply_62 (pc' := 65) rfl (by exact (mkJ)) rfl ?_
    refine gk_iload4 dX11_apply_65 (pc' := 67) rfl ?_
    refine gk_aload0 dX11_apply_67 (pc' := 68) rfl ?_
    refine gk_getf (fs := [_, _, _, _, _, _, _, _, _, _, _, _, _, _, _, _, _, _, _, _, _, _, _, _, _, _]) gF_Mo_35 dX11_apply_68 (pc' := 71) rfl (by exact (mkJ)) rfl ?_
    refine gk_iload4 dX11_apply_71 (pc' := 73) rfl ?_
    refine gk_iald (t0 := 0) rfl dX11_apply_73 (pc' := 74) rfl (by exact (mkA9)) (vp_in_nI (by omega) (by decide)) ?_
    rw [nI_clamp (by omega)]
    refine gk_iast (t0 := 0) rfl dX11_apply_74 (pc' := 75) rfl (by exact (mkA14)) (vp_in_nI (by omega) (by decide)) ?_
    rw [nI_clamp (by omega), mkS14]
    refine gk_iinc4 (v := 1) dX11_apply_75 (pc' := 78) rfl (by decide) (by decide) rfl ?_
    refine gk_goto dX11_apply_78 (tgt := 53) (by decide) ?_
    rw [← nI_succ, uA_s, uA_n (show 9 ≠ 14 by decide), uA_u, es]
    exact ih (i + 1) (by omega)
theorem mo_apply {p f e : Int32} (hM : Mod X h m S) (hw : wfS S) (hnn : nnF S.2.1) (hQ : ∀ h', Mod X h' m (oApply S p f e).2 → frO m h h' → Q (some (.int (oApply S p f e).1)) h') : Gm (kx X) mt_Mo_apply (d + 10) b [.ref m, .int p, .int f, .int e] h Q := by
  obtain ⟨h0, A, Z, rfl, hS⟩ := hM
  have hE : ∀ a0 S' A' Z', oApply S p f e = (a0, S') → MoS A' Z' S' → Q (some (.int a0)) (mkH X h0 m A' Z') := fun a0 S' A' Z' e0 h1 => by
    have q := hQ (mkH X h0 m A' Z')
    rw [e0] at q
    exact q ⟨h0, A', Z', rfl, h1⟩ mk_fr
  have hB : ∀ a0, oApply S p f e = (a0, S) → Q (some (.int a0)) (mkH X h0 m A Z) := fun a0 e0 => hE a0 S A Z e0 hS
  have zn := i2l_i e
  have z0 : (0 : Int64).toInt = 0 := rfl
  have z3 : (3 : Int64).toInt = 3 := rfl
  have tw := hw.2.1
  have tw1 := tw.1
  have hS0 := hS
  have s5 := hS.2.2.1.2.2.1
  have s7 := hS.2.2.2.1
  refine Gm.enter (L := [some (.ref m), some (.int p), some (.int f), some (.int e), none]) (by decide) (fun _ => trivial) (Nat.le_of_ble_eq_true rfl) rfl ?_
  refine gk_iload1 dX11_apply_0 (pc' := 1) rfl ?_
  refine gk_cS1_1 mz_Mo_isPicture gw_882 dX11_apply_1 (pc' := 4) rfl (Nat.le_of_ble_eq_true rfl) (sp_Mo_isPicture (fun j1 hj1 ej1 => ?_) (fun n1 => ?_))
  · refine ⟨_, rfl, ?_⟩
    subst ej1
    have zj1 : (nI j1).toInt = j1 := nI_toInt (by omega)
    have yj1 : (nI j1).toInt.toNat = j1 := by omega
    have pr1 := hS.picS hj1
    have ok1 := hw.okp hj1
    have wt1 := ok1.wt
    have ar1 := ok1.ar
    refine gk_if_eq dX11_apply_4 (tgt := 27) (pc' := 7) (by decide) rfl (fun c => absurd c (by decide)) (fun _ => ?_)
    refine gk_aload0 dX11_apply_7 (pc' := 8) rfl ?_
    refine gk_iload2 dX11_apply_8 (pc' := 9) rfl ?_
    refine gk_cV1_1 mv_Mo_isFilter gw_996 dX11_apply_9 (pc' := 12) rfl (Nat.le_of_ble_eq_true rfl) (by exact (mkJ)) (sp_Mo_isFilter s5 tw1 (fun jf hjf ejf => ?_) (fun n9 => ?_))
    · refine ⟨_, rfl, ?_⟩
      subst ejf
      have zjf : (nI jf).toInt = jf := nI_toInt (by omega)
      refine gk_if_eq dX11_apply_12 (tgt := 27) (pc' := 15) (by decide) rfl (fun c => absurd c (by decide)) (fun _ => ?_)
      refine gk_iload3 dX11_apply_15 (pc' := 16) rfl ?_
      refine gk_i2l dX11_apply_16 (pc' := 17) rfl ?_
      refine gk_lconst (v := 0) dX11_apply_17 (pc' := 18) rfl (by decide) ?_
      refine gk_ldc2 dX11_apply_18 (pc' := 21) rfl gw_951 ?_
      refine gk_cS1_3 mz_Mo_in gw_886 dX11_apply_21 (pc' := 24) rfl (Nat.le_of_ble_eq_true rfl) (sp_Mo_in (fun u21 v21 => ?_) (fun n21 => ?_))
      · refine ⟨_, rfl, ?_⟩
        refine gk_if_ne dX11_apply_24 (tgt := 30) (pc' := 27) (by decide) rfl (fun _ => ?_) (fun c => absurd c (by decide))
        refine gk_aload0 dX11_apply_30 (pc' := 31) rfl ?_
        refine gk_iload1 dX11_apply_31 (pc' := 32) rfl ?_
        refine gk_cV1_1 mv_Mo_isThere gw_905 dX11_apply_32 (pc' := 35) rfl (Nat.le_of_ble_eq_true rfl) (by exact (mkJ)) (sp_Mo_isThere pr1 hj1 ok1 (fun k32 => ?_) (fun k32 => ?_))
        · refine ⟨_, rfl, ?_⟩
          have okk := ok1.kind k32
          refine gk_if_ne dX11_apply_35 (tgt := 41) (pc' := 38) (by decide) rfl (fun _ => ?_) (fun c => absurd c (by decide))
          refine gk_aload0 dX11_apply_41 (pc' := 42) rfl ?_
          refine gk_cV0_0 mv_Mo_begin gw_892 dX11_apply_42 (pc' := 45) rfl (Nat.le_of_ble_eq_true rfl) (by exact (mkJ)) (sp_Mo_begin hS hw.1 (fun A1 Z1 a1 a2 hBg => ?_))
          refine ⟨rfl, ?_⟩
          have pr2 : pRow (A1 1) (259 * j1) (pcS S (nI j1)) := by rw [a1 1 (by decide)]; exact pr1
          refine gk_aload0 dX11_apply_45 (pc' := 46) rfl ?_
          refine gk_iload1 dX11_apply_46 (pc' := 47) rfl ?_
          refine gk_cV0_1 mv_Mo_look gw_952 dX11_apply_47 (pc' := 50) rfl (Nat.le_of_ble_eq_true rfl) (by exact (mkJ)) (sp_Mo_look pr2 hj1 ?_)
          refine ⟨rfl, ?_⟩
          refine gk_iconst (v := 0) dX11_apply_50 (pc' := 51) rfl (by decide) ?_
          refine gk_istore4 dX11_apply_51 (pc' := 53) rfl (by decide) rfl ?_
          have l9 : ∀ i, i < (pcS S (nI j1)).2.1 * (pcS S (nI j1)).2.2.1 → lkA A1 j1 9 i = (pcS S (nI j1)).2.2.2 i := fun i hi => lk_px pr2 ar1 hi
          have q := lp_Mo_apply0 (X := X) (h0 := h0) (m := m) (A := lkA A1 j1) (Z := lkZ Z1 (pcS S (nI j1)).2.1 (pcS S (nI j1)).2.2.1) (d := d + 10) (b := b) (Q := Q) (L1 := nI j1) (L2 := nI jf) (L3 := e) rfl rfl rfl (fun l4 => by
            refine gk_aload0 dX11_apply_81 (pc' := 82) rfl ?_
            refine gk_iconst (v := 0) dX11_apply_82 (pc' := 83) rfl (by decide) ?_
            refine gk_iload2 dX11_apply_83 (pc' := 84) rfl ?_
            refine gk_iconst (v := 1) dX11_apply_84 (pc' := 85) rfl (by decide) ?_
            refine gk_cV0_3 mv_Mo_giveTo gw_1013 dX11_apply_85 (pc' := 88) rfl (Nat.le_of_ble_eq_true rfl) mkJ (sp_Mo_giveTo (q := 0) (f := jf) (src := cpI (lkA A1 j1 14) (lkA A1 j1 9) 0 256) (by decide) (Or.inl ⟨rfl, rfl⟩) (fun g g1 g2 => ?_))
            refine ⟨rfl, ?_⟩
            refine gk_iconst (v := 1) dX11_apply_88 (pc' := 89) rfl (by decide) ?_
            refine gk_istore4 dX11_apply_89 (pc' := 91) rfl (by decide) rfl ?_
            refine ap_run (d := d) (A0 := A1) (px := (pcS S (nI j1)).2.2.2) (w := (pcS S (nI j1)).2.1) (t := (pcS S (nI j1)).2.2.1) (of := (pcS S (nI j1)).1) (R := (cuH S.1).2) ⟨rfl, rfl⟩ okk.2.1 okk.2.2.1 (by omega) okk.1 hj1 pr2 tw1 tw.2.1 tw.2.2 hnn (fun i hi => by rw [a1 3 (by decide), a1 4 (by decide), a1 5 (by decide), a1 7 (by decide)]; exact ⟨(s7 i hi).1, (s7 i hi).2.1, (s7 i hi).2.2.1, (s7 i hi).2.2.2.2⟩) (fun q hq => by have := hS.1.2 q hq; rw [Nat.zero_add] at this; rw [a1 1 (by decide)]; exact this) 4 jf 0 (pcS S (nI j1)).2.2.2 _ (tw.2.1 jf hjf).2.1 hjf (by omega) (fun i hi => by rw [uA_n (by omega), uA_n (by omega), uA_n (by omega), uA_n (by omega)]; exact uA_n (by omega)) rfl rfl (fun i hi => ?_) okk.2.2.2 (fun A' b1 b2 b3 => ?_)
            · have := g1 i (by omega)
              rw [uA_s, this]
              unfold cpI
              rw [if_pos (by omega), Nat.zero_add]
              exact l9 i hi
            · refine gk_iload4 dX11_apply_91 (pc' := 93) rfl ?_
              refine gk_if_le dX11_apply_93 (tgt := 115) (pc' := 96) (by decide) rfl (fun _ => ?_) (fun c => absurd (by decide) c)
              refine gk_aload0 dX11_apply_115 (pc' := 116) rfl ?_
              refine gk_iload1 dX11_apply_116 (pc' := 117) rfl ?_
              refine gk_cV1_1 mv_Mo_takes gw_1036 dX11_apply_117 (pc' := 120) rfl (Nat.le_of_ble_eq_true rfl) mkJ (sp_Mo_takes (c := pcS S (nI j1)) (by rw [b1 1 (by decide)]; exact pr2) hj1 ar1 ?_)
              refine ⟨_, rfl, ?_⟩
              refine gk_iret dX11_apply_120 rfl ?_
              rw [cntP_congr _ b2 (fun _ _ => rfl)]
              exact hE _ (kP S j1 ((pcS S (nI j1)).1, (pcS S (nI j1)).2.1, (pcS S (nI j1)).2.2.1, dvS S (pcS S (nI j1)) e jf)) _ _ ((if_pos ⟨by omega, by omega, by omega⟩).trans ((if_neg k32).trans (by rw [yj1, nI_nat (j := jf) (by omega)]))) (hBg.actP hw.1 (by rw [a1 1 (by decide)]; exact hS.1) (fun i h1 h2 => by rw [uA_n (by omega)]; exact b1 i (by omega)) (fun i hi => lkZ_n hi) hj1 (by rw [uA_s, b1 1 (by decide)]; exact (fd_row pr2).congr b2) (fun q hq => by rw [uA_s, b1 1 (by decide), fd_out ar1 q hq]))) 256 0 (by omega)
          rw [cpI_0, uA_i] at q
          exact q
        · refine ⟨_, rfl, ?_⟩
          refine gk_if_ne dX11_apply_35 (tgt := 41) (pc' := 38) (by decide) rfl (fun c => absurd c (by decide)) (fun _ => ?_)
          refine gk_ldc dX11_apply_38 (pc' := 40) rfl gw_869 ?_
          refine gk_iret dX11_apply_40 rfl (hB _ ((if_pos ⟨by omega, by omega, by omega⟩).trans (if_pos k32)))
      · refine ⟨_, rfl, ?_⟩
        refine gk_if_ne dX11_apply_24 (tgt := 30) (pc' := 27) (by decide) rfl (fun c => absurd c (by decide)) (fun _ => ?_)
        refine gk_ldc dX11_apply_27 (pc' := 29) rfl gw_891 ?_
        refine gk_iret dX11_apply_29 rfl (hB _ (if_neg (fun z => by first | exact n9 z.2.1 | (have := z.1; have := z.2.2; omega))))
    · refine ⟨_, rfl, ?_⟩
      refine gk_if_eq dX11_apply_12 (tgt := 27) (pc' := 15) (by decide) rfl (fun _ => ?_) (fun c => absurd c (by decide))
      refine gk_ldc dX11_apply_27 (pc' := 29) rfl gw_891 ?_
      refine gk_iret dX11_apply_29 rfl (hB _ (if_neg (fun z => by first | exact n9 z.2.1 | (have := z.1; have := z.2.2; omega))))
  · refine ⟨_, rfl, ?_⟩
    refine gk_if_eq dX11_apply_4 (tgt := 27) (pc' := 7) (by decide) rfl (fun _ => ?_) (fun c => absurd c (by decide))
    refine gk_ldc dX11_apply_27 (pc' := 29) rfl gw_891 ?_
    refine gk_iret dX11_apply_29 rfl (hB _ (if_neg (fun z => by first | exact n9 z.2.1 | (have := z.1; have := z.2.2; omega))))
end MoW
