/-! ===== the reference: filter ===== -/
section MoI
variable {X : gX} {d : Nat} {b : Nat × Nat} {h h0 : gk_H} {m : Nat} {A : MoA} {Z : MoZ} {Q : Option Value → gk_H → Prop} {S : St}
theorem sp_Mo_highOf {k a c : Int32} (h6 : ∀ i, i < S.2.1.1 → A 6 i = nI (S.2.1.2.2.2.2.1 i)) (hw : wfS S) (ho : okT S.2.1 k a c) (hQ : Q (some (.int (nI (hgO S.2.1 k a c)))) (mkH X h0 m A Z)) : Gm (kx X) mt_Mo_highOf d b [.ref m, .int k, .int a, .int c] (mkH X h0 m A Z) Q := by
  have tw := hw.2.1
  have tw1 := tw.1
  have u : ∀ z : Int32, isF S.2.1 z → ∃ j, j < S.2.1.1 ∧ z = nI j ∧ z.toInt.toNat = j ∧ A 6 j = nI (S.2.1.2.2.2.2.1 j) ∧ S.2.1.2.2.2.2.1 j ≤ 4 := fun z hz => by
    obtain ⟨j, hj, ej⟩ := pu_of (x := z) (n := S.2.1.1) hz.1 hz.2 (by omega)
    exact ⟨j, hj, ej, by rw [ej]; exact nI_nat (by omega), h6 j hj, (tw.2.1 j hj).2.1⟩
  have fin : ∀ (o1 o2 : Nat), o1 ≤ 4 → o2 ≤ 4 → hgO S.2.1 k a c = 1 + max o1 o2 → G (kx X) mt_Mo_highOf d b 42 [some (.ref m), some (.int k), some (.int a), some (.int c), some (.int (nI o1)), some (.int (nI o2))] [] (mkH X h0 m A Z) Q := by
    intro o1 o2 h1 h2 e
    refine gk_iconst (v := nI 1) dX11_highOf_42 (pc' := 43) rfl (by decide) ?_
    refine gk_iload4 dX11_highOf_43 (pc' := 45) rfl ?_
    refine gk_iload5 dX11_highOf_45 (pc' := 47) rfl ?_
    refine gk_icmp_le dX11_highOf_47 (tgt := 55) (pc' := 50) (by decide) rfl (fun c47 => ?_) (fun c47 => ?_)
    · have q := (nI_leI (by omega) (by omega)).mp c47
      refine gk_iload5 dX11_highOf_55 (pc' := 57) rfl ?_
      refine gk_iaddN dX11_highOf_57 (pc' := 58) rfl ?_
      refine gk_iret dX11_highOf_58 rfl (by rw [e] at hQ; first | (rw [show max o1 o2 = o2 by omega] at hQ; exact hQ) | (rw [show max o1 o2 = o1 by omega] at hQ; exact hQ))
    · have q : ¬ o1 ≤ o2 := fun z => c47 (nI_le z (by omega))
      refine gk_iload4 dX11_highOf_50 (pc' := 52) rfl ?_
      refine gk_goto dX11_highOf_52 (tgt := 57) (by decide) ?_
      refine gk_iaddN dX11_highOf_57 (pc' := 58) rfl ?_
      refine gk_iret dX11_highOf_58 rfl (by rw [e] at hQ; first | (rw [show max o1 o2 = o2 by omega] at hQ; exact hQ) | (rw [show max o1 o2 = o1 by omega] at hQ; exact hQ))
  by_cases k68 : k = 6 ∨ k = 8
  · have hac : isF S.2.1 a ∧ isF S.2.1 c := by
      rcases ho with ⟨z | z, z2⟩ | z | ⟨z, z2⟩ | ⟨z, z2⟩ | ⟨z, z2⟩ | ⟨z, z2, z3⟩ | ⟨z, z2, z3⟩ <;> first | exact ⟨z2, z3⟩ | (rw [z] at k68; exact absurd k68 (by decide))
    obtain ⟨ja, ha1, ha2, ha3, ha4, ha5⟩ := u a hac.1
    obtain ⟨jc, hc1, hc2, hc3, hc4, hc5⟩ := u c hac.2
    have eg : hgO S.2.1 k a c = 1 + max (S.2.1.2.2.2.2.1 ja) (S.2.1.2.2.2.2.1 jc) := by unfold hgO; rw [if_pos k68, if_pos (k68.elim Or.inl (fun z => Or.inr (Or.inr z))), ha3, hc3]
    have k6 : ¬ k < 6 := by rcases k68 with z | z <;> rw [z] <;> decide
    have f1 := fin _ _ ha5 hc5 eg
    subst ha2 hc2
    have g12 : G (kx X) mt_Mo_highOf d b 12 [some (.ref m), some (.int k), some (.int (nI ja)), some (.int (nI jc)), none, none] [] (mkH X h0 m A Z) Q := by
      refine gk_aload0 dX11_highOf_12 (pc' := 13) rfl ?_
      refine gk_getf (fs := [_, _, _, _, _, _, _, _, _, _, _, _, _, _, _, _, _, _, _, _, _, _, _, _, _, _]) gF_Mo_26 dX11_highOf_13 (pc' := 16) rfl (by exact (mkJ)) rfl ?_
      refine gk_iload2 dX11_highOf_16 (pc' := 17) rfl ?_
      refine gk_iald (t0 := 0) rfl dX11_highOf_17 (pc' := 18) rfl (by exact (mkA6)) (vp_in_nI (by omega) (by decide)) ?_
      rw [nI_clamp (by omega)]
      rw [ha4]
      refine gk_goto dX11_highOf_18 (tgt := 22) (by decide) ?_
      refine gk_istore4 dX11_highOf_22 (pc' := 24) rfl (by decide) rfl ?_
      refine gk_iload1 dX11_highOf_24 (pc' := 25) rfl ?_
      refine gk_bipush (v := 6) dX11_highOf_25 (pc' := 27) rfl (by decide) ?_
      refine gk_icmp_lt dX11_highOf_27 (tgt := 39) (pc' := 30) (by decide) rfl (fun c27 => absurd c27 k6) (fun c27 => ?_)
      refine gk_aload0 dX11_highOf_30 (pc' := 31) rfl ?_
      refine gk_getf (fs := [_, _, _, _, _, _, _, _, _, _, _, _, _, _, _, _, _, _, _, _, _, _, _, _, _, _]) gF_Mo_26 dX11_highOf_31 (pc' := 34) rfl (by exact (mkJ)) rfl ?_
      refine gk_iload3 dX11_highOf_34 (pc' := 35) rfl ?_
      refine gk_iald (t0 := 0) rfl dX11_highOf_35 (pc' := 36) rfl (by exact (mkA6)) (vp_in_nI (by omega) (by decide)) ?_
      rw [nI_clamp (by omega)]
      rw [hc4]
      refine gk_goto dX11_highOf_36 (tgt := 40) (by decide) ?_
      refine gk_istore5 dX11_highOf_40 (pc' := 42) rfl (by decide) rfl ?_
      exact f1
    refine Gm.enter (L := [some (.ref m), some (.int k), some (.int (nI ja)), some (.int (nI jc)), none, none]) (by decide) (fun _ => trivial) (Nat.le_of_ble_eq_true rfl) rfl ?_
    refine gk_iload1 dX11_highOf_0 (pc' := 1) rfl ?_
    refine gk_bipush (v := 6) dX11_highOf_1 (pc' := 3) rfl (by decide) ?_
    refine gk_icmp_eq dX11_highOf_3 (tgt := 12) (pc' := 6) (by decide) rfl (fun c3 => ?_) (fun c3 => ?_)
    · exact g12
    · refine gk_iload1 dX11_highOf_6 (pc' := 7) rfl ?_
      refine gk_bipush (v := 8) dX11_highOf_7 (pc' := 9) rfl (by decide) ?_
      refine gk_icmp_ne dX11_highOf_9 (tgt := 21) (pc' := 12) (by decide) rfl (fun c9 => absurd k68 (fun z => z.elim c3 c9)) (fun c9 => ?_)
      exact g12
  · by_cases k7 : k = 7
    · have hc : isF S.2.1 c := by
        subst k7
        rcases ho with ⟨z | z, z2⟩ | z | ⟨z, z2⟩ | ⟨z, z2⟩ | ⟨z, z2⟩ | ⟨z | z, z2, z3⟩ | ⟨z, z2, z3⟩ <;> first | exact absurd z (by decide) | exact z3
      obtain ⟨jc, hc1, hc2, hc3, hc4, hc5⟩ := u c hc
      have f1 := fin 0 _ (by omega) hc5 (show hgO S.2.1 k a c = 1 + max 0 (S.2.1.2.2.2.2.1 jc) by unfold hgO; rw [if_neg k68, if_pos (Or.inr (Or.inl k7)), hc3])
      subst hc2
      refine Gm.enter (L := [some (.ref m), some (.int k), some (.int a), some (.int (nI jc)), none, none]) (by decide) (fun _ => trivial) (Nat.le_of_ble_eq_true rfl) rfl ?_
      refine gk_iload1 dX11_highOf_0 (pc' := 1) rfl ?_
      refine gk_bipush (v := 6) dX11_highOf_1 (pc' := 3) rfl (by decide) ?_
      refine gk_icmp_eq dX11_highOf_3 (tgt := 12) (pc' := 6) (by decide) rfl (fun c3 => absurd (Or.inl c3) k68) (fun c3 => ?_)
      refine gk_iload1 dX11_highOf_6 (pc' := 7) rfl ?_
      refine gk_bipush (v := 8) dX11_highOf_7 (pc' := 9) rfl (by decide) ?_
      refine gk_icmp_ne dX11_highOf_9 (tgt := 21) (pc' := 12) (by decide) rfl (fun c9 => ?_) (fun c9 => absurd (Or.inr c9) k68)
      refine gk_iconst (v := 0) dX11_highOf_21 (pc' := 22) rfl (by decide) ?_
      refine gk_istore4 dX11_highOf_22 (pc' := 24) rfl (by decide) rfl ?_
      refine gk_iload1 dX11_highOf_24 (pc' := 25) rfl ?_
      refine gk_bipush (v := 6) dX11_highOf_25 (pc' := 27) rfl (by decide) ?_
      refine gk_icmp_lt dX11_highOf_27 (tgt := 39) (pc' := 30) (by decide) rfl (fun c27 => absurd c27 (by rw [k7]; decide)) (fun c27 => ?_)
      refine gk_aload0 dX11_highOf_30 (pc' := 31) rfl ?_
      refine gk_getf (fs := [_, _, _, _, _, _, _, _, _, _, _, _, _, _, _, _, _, _, _, _, _, _, _, _, _, _]) gF_Mo_26 dX11_highOf_31 (pc' := 34) rfl (by exact (mkJ)) rfl ?_
      refine gk_iload3 dX11_highOf_34 (pc' := 35) rfl ?_
      refine gk_iald (t0 := 0) rfl dX11_highOf_35 (pc' := 36) rfl (by exact (mkA6)) (vp_in_nI (by omega) (by decide)) ?_
      rw [nI_clamp (by omega)]
      rw [hc4]
      refine gk_goto dX11_highOf_36 (tgt := 40) (by decide) ?_
      refine gk_istore5 dX11_highOf_40 (pc' := 42) rfl (by decide) rfl ?_
      exact f1
    · have kl : k < 6 := by
        rcases ho with ⟨z | z, z2⟩ | z | ⟨z, z2⟩ | ⟨z, z2⟩ | ⟨z, z2⟩ | ⟨z, z2, z3⟩ | ⟨z, z2, z3⟩ <;> first | exact absurd z k68 | exact absurd z k7 | (rw [z]; decide)
      have f1 := fin 0 0 (by omega) (by omega) (show hgO S.2.1 k a c = 1 + max 0 0 by unfold hgO; rw [if_neg k68, if_neg (fun z => z.elim (fun z => k68 (Or.inl z)) (fun z => z.elim k7 (fun z => k68 (Or.inr z))))])
      refine Gm.enter (L := [some (.ref m), some (.int k), some (.int a), some (.int c), none, none]) (by decide) (fun _ => trivial) (Nat.le_of_ble_eq_true rfl) rfl ?_
      refine gk_iload1 dX11_highOf_0 (pc' := 1) rfl ?_
      refine gk_bipush (v := 6) dX11_highOf_1 (pc' := 3) rfl (by decide) ?_
      refine gk_icmp_eq dX11_highOf_3 (tgt := 12) (pc' := 6) (by decide) rfl (fun c3 => absurd (Or.inl c3) k68) (fun c3 => ?_)
      refine gk_iload1 dX11_highOf_6 (pc' := 7) rfl ?_
      refine gk_bipush (v := 8) dX11_highOf_7 (pc' := 9) rfl (by decide) ?_
      refine gk_icmp_ne dX11_highOf_9 (tgt := 21) (pc' := 12) (by decide) rfl (fun c9 => ?_) (fun c9 => absurd (Or.inr c9) k68)
      refine gk_iconst (v := 0) dX11_highOf_21 (pc' := 22) rfl (by decide) ?_
      refine gk_istore4 dX11_highOf_22 (pc' := 24) rfl (by decide) rfl ?_
      refine gk_iload1 dX11_highOf_24 (pc' := 25) rfl ?_
      refine gk_bipush (v := 6) dX11_highOf_25 (pc' := 27) rfl (by decide) ?_
      refine gk_icmp_lt dX11_highOf_27 (tgt := 39) (pc' := 30) (by decide) rfl (fun c27 => ?_) (fun c27 => absurd kl c27)
      refine gk_iconst (v := 0) dX11_highOf_39 (pc' := 40) rfl (by decide) ?_
      refine gk_istore5 dX11_highOf_40 (pc' := 42) rfl (by decide) rfl ?_
      exact f1
def wzI (w : Nat → Int32) (n i : Nat) : Nat → Int32 := fun q => if 9 * n ≤ q ∧ q < 9 * n + i then 0 else w q
theorem wzI_0 {w : Nat → Int32} {n : Nat} : wzI w n 0 = w := funext fun q => if_neg (by omega)
theorem wzI_s {w : Nat → Int32} {n i : Nat} : upd (wzI w n i) (9 * n + i) 0 = wzI w n (i + 1) := funext fun q => by
  by_cases e : q = 9 * n + i
  · subst e; rw [pk_us]; unfold wzI; rw [if_pos (by omega)]
  · rw [pk_un e]
    unfold wzI
    by_cases z : 9 * n ≤ q ∧ q < 9 * n + i
    · rw [if_pos z, if_pos (by omega)]
    · rw [if_neg z, if_neg (by omega)]
theorem lp_Mo_filter {n : Nat} {l1 l2 l3 : Option Value} {l4 : Int32} (hz : Z 2 = nI n) (hn : n < 24) (hQ : ∀ l5, G (kx X) mt_Mo_filter (d + 10) b 260 [some (.ref m), l1, l2, l3, some (.int l4), l5] [] (mkH X h0 m (uA A 7 (wzI (A 7) n 9)) Z) Q) : ∀ f i, i + f = 9 → G (kx X) mt_Mo_filter (d + 10) b 231 [some (.ref m), l1, l2, l3, some (.int l4), some (.int (nI i))] [] (mkH X h0 m (uA A 7 (wzI (A 7) n i)) Z) Q := by
  intro f
  induction f with
  | zero =>
    intro i hi
    have e : i = 9 := by omega
    subst e
    refine gk_iload5 dX11_filter_231 (pc' := 233) rfl ?_
    refine gk_bipush (v := 9) dX11_filter_233 (pc' := 235) rfl (by decide) ?_
    refine gk_icmp_ge dX11_filter_235 (tgt := 260) (pc' := 238) (by decide) rfl (fun c235 => ?_) (fun c235 => absurd (by decide) c235)
    exact hQ _
  | succ f ih =>
    intro i hi
    refine gk_iload5 dX11_filter_231 (pc' := 233) rfl ?_
    refine gk_bipush (v := 9) dX11_filter_233 (pc' := 235) rfl (by decide) ?_
    refine gk_icmp_ge dX11_filter_235 (tgt := 260) (pc' := 238) (by decide) rfl (fun c235 => absurd c235 (nI_ge (b := 9) (by omega) (by omega))) (fun c235 => ?_)
    refine gk_aload0 dX11_filter_238 (pc' := 239) rfl ?_
    refine gk_getf (fs := [_, _, _, _, _, _, _, _, _, _, _, _, _, _, _, _, _, _, _, _, _, _, _, _, _, _]) gF_Mo_29 dX11_filter_239 (pc' := 242) rfl (by exact (mkJ)) rfl ?_
    refine gk_bipush (v := nI 9) dX11_filter_242 (pc' := 244) rfl (by decide) ?_
    refine gk_aload0 dX11_filter_244 (pc' := 245) rfl ?_
    refine gk_getf (fs := [_, _, _, _, _, _, _, _, _, _, _, _, _, _, _, _, _, _, _, _, _, _, _, _, _, _]) gF_Mo_170 dX11_filter_245 (pc' := 248) rfl (by exact (mkJ)) rfl ?_
    rw [hz]
    refine gk_imulN dX11_filter_248 (pc' := 249) rfl ?_
    refine gk_iload5 dX11_filter_249 (pc' := 251) rfl ?_
    refine gk_iaddN dX11_filter_251 (pc' := 252) rfl ?_
    refine gk_iconst (v := 0) dX11_filter_252 (pc' := 253) rfl (by decide) ?_
    refine gk_iast (t0 := 0) rfl dX11_filter_253 (pc' := 254) rfl (by exact (mkA7)) (vp_in_nI (by omega) (by decide)) ?_
    rw [nI_clamp (by omega), mkS7]
    refine gk_iinc5 (v := 1) dX11_filter_254 (pc' := 257) rfl (by decide) (by decide) rfl ?_
    refine gk_goto dX11_filter_257 (tgt := 231) (by decide) ?_
    rw [← nI_succ, uA_s, uA_u, wzI_s]
    exact ih (i + 1) (by omega)
theorem mo_filter {k a c : Int32} (hM : Mod X h m S) (hw : wfS S) (hQ : ∀ h', Mod X h' m (oFilter S k a c).2 → frO m h h' → Q (some (.int (oFilter S k a c).1)) h') : Gm (kx X) mt_Mo_filter (d + 10) b [.ref m, .int k, .int a, .int c] h Q := by
  obtain ⟨h0, A, Z, rfl, hS⟩ := hM
  have hE : ∀ a0 S' A' Z', oFilter S k a c = (a0, S') → MoS A' Z' S' → Q (some (.int a0)) (mkH X h0 m A' Z') := fun a0 S' A' Z' e0 h1 => by
    have q := hQ (mkH X h0 m A' Z')
    rw [e0] at q
    exact q ⟨h0, A', Z', rfl, h1⟩ mk_fr
  have hB : ∀ a0, oFilter S k a c = (a0, S) → Q (some (.int a0)) (mkH X h0 m A Z) := fun a0 e0 => hE a0 S A Z e0 hS
  have zk := i2l_i k
  have za := i2l_i a
  have zc := i2l_i c
  have z0 : (0 : Int64).toInt = 0 := rfl
  have z1 : (1 : Int64).toInt = 1 := rfl
  have z5 : (5 : Int64).toInt = 5 := rfl
  have z8 : (8 : Int64).toInt = 8 := rfl
  have z1k : (1000 : Int64).toInt = 1000 := rfl
  have zm : (-100000 : Int64).toInt = -100000 := rfl
  have zp : (100000 : Int64).toInt = 100000 := rfl
  have z4 : (4 : Int32) = nI 4 := rfl
  have z24 : (24 : Int32) = nI 24 := rfl
  have tw := hw.2.1
  have tw1 := tw.1
  have hS0 := hS
  obtain ⟨s1, s2, ⟨s3, s4, s5, s6⟩, s7, s8⟩ := hS
  have fF : ¬ okT S.2.1 k a c → G (kx X) mt_Mo_filter (d + 10) b 149 [some (.ref m), some (.int k), some (.int a), some (.int c), none, none] [.int 0] (mkH X h0 m A Z) Q := by
    intro no
    refine gk_istore4 dX11_filter_149 (pc' := 151) rfl (by decide) rfl ?_
    refine gk_iload4 dX11_filter_151 (pc' := 153) rfl ?_
    refine gk_if_eq dX11_filter_153 (tgt := 167) (pc' := 156) (by decide) rfl (fun c153 => ?_) (fun c153 => absurd rfl c153)
    refine gk_ldc dX11_filter_167 (pc' := 169) rfl gw_891 ?_
    refine gk_iret dX11_filter_169 rfl (hB _ (if_neg (fun z => no z.1)))
  have fT : okT S.2.1 k a c → G (kx X) mt_Mo_filter (d + 10) b 149 [some (.ref m), some (.int k), some (.int a), some (.int c), none, none] [.int 1] (mkH X h0 m A Z) Q := by
    intro ho
    have hb : hgO S.2.1 k a c ≤ 5 := by
      have u : ∀ z : Int32, isF S.2.1 z → S.2.1.2.2.2.2.1 z.toInt.toNat ≤ 4 := fun z hz => (tw.2.1 z.toInt.toNat (by omega)).2.1
      unfold hgO
      rcases ho with ⟨z | z, z2⟩ | z | ⟨z, z2⟩ | ⟨z, z2⟩ | ⟨z, z2⟩ | ⟨z, z2, z3⟩ | ⟨z, z2, z3⟩
      · rw [z]; simp
      · rw [z]; simp
      · rw [z]; simp
      · rw [z]; simp
      · rw [z]; simp
      · rw [z]; simp
      · have := u a z2
        have := u c z3
        rw [if_pos z]
        split <;> omega
      · have := u c z3
        rw [if_neg (by rw [z]; decide), if_pos (Or.inr (Or.inl z))]; omega
    refine gk_istore4 dX11_filter_149 (pc' := 151) rfl (by decide) rfl ?_
    refine gk_iload4 dX11_filter_151 (pc' := 153) rfl ?_
    refine gk_if_eq dX11_filter_153 (tgt := 167) (pc' := 156) (by decide) rfl (fun c153 => absurd c153 (by decide)) (fun c153 => ?_)
    refine gk_aload0 dX11_filter_156 (pc' := 157) rfl ?_
    refine gk_iload1 dX11_filter_157 (pc' := 158) rfl ?_
    refine gk_iload2 dX11_filter_158 (pc' := 159) rfl ?_
    refine gk_iload3 dX11_filter_159 (pc' := 160) rfl ?_
    refine gk_cV1_3 mv_Mo_highOf gw_1000 dX11_filter_160 (pc' := 163) rfl (Nat.le_of_ble_eq_true rfl) (by exact (mkJ)) (sp_Mo_highOf (fun i hi => (s7 i hi).2.2.2.1) hw ho ?_)
    refine ⟨_, rfl, ?_⟩
    refine gk_iconst (v := 4) dX11_filter_163 (pc' := 164) rfl (by decide) ?_
    refine gk_icmp_le dX11_filter_164 (tgt := 170) (pc' := 167) (by decide) rfl (fun c164 => ?_) (fun c164 => ?_)
    · have q := (nI_leI (b := 4) (by omega) (by omega)).mp c164
      refine gk_aload0 dX11_filter_170 (pc' := 171) rfl ?_
      refine gk_getf (fs := [_, _, _, _, _, _, _, _, _, _, _, _, _, _, _, _, _, _, _, _, _, _, _, _, _, _]) gF_Mo_170 dX11_filter_171 (pc' := 174) rfl (by exact (mkJ)) rfl ?_
      rw [s5]
      refine gk_bipush (v := 24) dX11_filter_174 (pc' := 176) rfl (by decide) ?_
      refine gk_icmp_ne dX11_filter_176 (tgt := 182) (pc' := 179) (by decide) rfl (fun c176 => ?_) (fun c176 => ?_)
      · have hn : ¬ S.2.1.1 = 24 := fun e => c176 (by rw [e]; rfl)
        refine gk_aload0 dX11_filter_182 (pc' := 183) rfl ?_
        refine gk_getf (fs := [_, _, _, _, _, _, _, _, _, _, _, _, _, _, _, _, _, _, _, _, _, _, _, _, _, _]) gF_Mo_17 dX11_filter_183 (pc' := 186) rfl (by exact (mkJ)) rfl ?_
        refine gk_aload0 dX11_filter_186 (pc' := 187) rfl ?_
        refine gk_getf (fs := [_, _, _, _, _, _, _, _, _, _, _, _, _, _, _, _, _, _, _, _, _, _, _, _, _, _]) gF_Mo_170 dX11_filter_187 (pc' := 190) rfl (by exact (mkJ)) rfl ?_
        rw [s5]
        refine gk_iload1 dX11_filter_190 (pc' := 191) rfl ?_
        refine gk_iast (t0 := 0) rfl dX11_filter_191 (pc' := 192) rfl (by exact (mkA3)) (vp_in_nI (by omega) (by decide)) ?_
        rw [nI_clamp (by omega), mkS3]
        refine gk_aload0 dX11_filter_192 (pc' := 193) rfl ?_
        refine gk_getf (fs := [_, _, _, _, _, _, _, _, _, _, _, _, _, _, _, _, _, _, _, _, _, _, _, _, _, _]) gF_Mo_20 dX11_filter_193 (pc' := 196) rfl (by exact (mkJ)) rfl ?_
        refine gk_aload0 dX11_filter_196 (pc' := 197) rfl ?_
        refine gk_getf (fs := [_, _, _, _, _, _, _, _, _, _, _, _, _, _, _, _, _, _, _, _, _, _, _, _, _, _]) gF_Mo_170 dX11_filter_197 (pc' := 200) rfl (by exact (mkJ)) rfl ?_
        rw [s5]
        refine gk_iload2 dX11_filter_200 (pc' := 201) rfl ?_
        refine gk_iast (t0 := 0) rfl dX11_filter_201 (pc' := 202) rfl (by exact (mkA4)) (vp_in_nI (by omega) (by decide)) ?_
        rw [nI_clamp (by omega), mkS4]
        refine gk_aload0 dX11_filter_202 (pc' := 203) rfl ?_
        refine gk_getf (fs := [_, _, _, _, _, _, _, _, _, _, _, _, _, _, _, _, _, _, _, _, _, _, _, _, _, _]) gF_Mo_23 dX11_filter_203 (pc' := 206) rfl (by exact (mkJ)) rfl ?_
        refine gk_aload0 dX11_filter_206 (pc' := 207) rfl ?_
        refine gk_getf (fs := [_, _, _, _, _, _, _, _, _, _, _, _, _, _, _, _, _, _, _, _, _, _, _, _, _, _]) gF_Mo_170 dX11_filter_207 (pc' := 210) rfl (by exact (mkJ)) rfl ?_
        rw [s5]
        refine gk_iload3 dX11_filter_210 (pc' := 211) rfl ?_
        refine gk_iast (t0 := 0) rfl dX11_filter_211 (pc' := 212) rfl (by exact (mkA5)) (vp_in_nI (by omega) (by decide)) ?_
        rw [nI_clamp (by omega), mkS5]
        refine gk_aload0 dX11_filter_212 (pc' := 213) rfl ?_
        refine gk_getf (fs := [_, _, _, _, _, _, _, _, _, _, _, _, _, _, _, _, _, _, _, _, _, _, _, _, _, _]) gF_Mo_26 dX11_filter_213 (pc' := 216) rfl (by exact (mkJ)) rfl ?_
        refine gk_aload0 dX11_filter_216 (pc' := 217) rfl ?_
        refine gk_getf (fs := [_, _, _, _, _, _, _, _, _, _, _, _, _, _, _, _, _, _, _, _, _, _, _, _, _, _]) gF_Mo_170 dX11_filter_217 (pc' := 220) rfl (by exact (mkJ)) rfl ?_
        rw [s5]
        refine gk_aload0 dX11_filter_220 (pc' := 221) rfl ?_
        refine gk_iload1 dX11_filter_221 (pc' := 222) rfl ?_
        refine gk_iload2 dX11_filter_222 (pc' := 223) rfl ?_
        refine gk_iload3 dX11_filter_223 (pc' := 224) rfl ?_
        refine gk_cV1_3 mv_Mo_highOf gw_1000 dX11_filter_224 (pc' := 227) rfl (Nat.le_of_ble_eq_true rfl) (by exact (mkJ)) (sp_Mo_highOf (S := S) (fun i hi => (s7 i hi).2.2.2.1) hw ho ?_)
        refine ⟨_, rfl, ?_⟩
        refine gk_iast (t0 := 0) rfl dX11_filter_227 (pc' := 228) rfl (by exact (mkA6)) (vp_in_nI (by omega) (by decide)) ?_
        rw [nI_clamp (by omega), mkS6]
        refine gk_iconst (v := 0) dX11_filter_228 (pc' := 229) rfl (by decide) ?_
        refine gk_istore5 dX11_filter_229 (pc' := 231) rfl (by decide) rfl ?_
        have q9 := lp_Mo_filter (X := X) (h0 := h0) (m := m) (A := uA (uA (uA (uA A 3 (upd (A 3) S.2.1.1 k)) 4 (upd (A 4) S.2.1.1 a)) 5 (upd (A 5) S.2.1.1 c)) 6 (upd (A 6) S.2.1.1 (nI (hgO S.2.1 k a c)))) (Z := Z) (d := d) (b := b) (Q := Q) (n := S.2.1.1) (l1 := some (.int k)) (l2 := some (.int a)) (l3 := some (.int c)) (l4 := 1) s5 (by omega) (fun l5 => by
          refine gk_aload0 dX11_filter_260 (pc' := 261) rfl ?_
          refine gk_dup dX11_filter_261 (pc' := 262) rfl rfl ?_
          refine gk_getf (fs := [_, _, _, _, _, _, _, _, _, _, _, _, _, _, _, _, _, _, _, _, _, _, _, _, _, _]) gF_Mo_170 dX11_filter_262 (pc' := 265) rfl mkJ rfl ?_
          rw [s5]
          refine gk_iconst (v := nI 1) dX11_filter_265 (pc' := 266) rfl (by decide) ?_
          refine gk_iaddN dX11_filter_266 (pc' := 267) rfl ?_
          refine gk_putf (fs := [_, _, _, _, _, _, _, _, _, _, _, _, _, _, _, _, _, _, _, _, _, _, _, _, _, _]) gP_Mo_170 dX11_filter_267 (pc' := 270) rfl mkJ rfl rfl (Nat.le_of_ble_eq_true rfl) ?_
          rw [mkP2]
          refine gk_aload0 dX11_filter_270 (pc' := 271) rfl ?_
          refine gk_getf (fs := [_, _, _, _, _, _, _, _, _, _, _, _, _, _, _, _, _, _, _, _, _, _, _, _, _, _]) gF_Mo_170 dX11_filter_271 (pc' := 274) rfl mkJ rfl ?_
          rw [pk_us]
          refine gk_iconst (v := nI 1) dX11_filter_274 (pc' := 275) rfl (by decide) ?_
          refine gk_isubN dX11_filter_275 (pc' := 276) rfl (by omega) ?_
          rw [Nat.add_sub_cancel]
          refine gk_iret dX11_filter_276 rfl (hE _ (S.1, adF S.2.1 k a c, S.2.2) _ _ ((if_pos ⟨ho, q⟩).trans (if_neg hn)) ⟨s1, s2, ⟨s3, s4, pk_us, s6⟩, fun i hi => ?_, s8⟩)
          have hi : i < S.2.1.1 + 1 := hi
          show upd (A 3) S.2.1.1 k i = upd S.2.1.2.1 S.2.1.1 k i ∧ upd (A 4) S.2.1.1 a i = upd S.2.1.2.2.1 S.2.1.1 a i ∧ upd (A 5) S.2.1.1 c i = upd S.2.1.2.2.2.1 S.2.1.1 c i ∧ upd (A 6) S.2.1.1 (nI (hgO S.2.1 k a c)) i = nI (if i = S.2.1.1 then hgO S.2.1 k a c else S.2.1.2.2.2.2.1 i) ∧ (upd S.2.1.2.1 S.2.1.1 k i = 4 → ∀ j, j < 9 → wzI (A 7) S.2.1.1 9 (9 * i + j) = (if i = S.2.1.1 then fun _ => 0 else S.2.1.2.2.2.2.2 i) j)
          by_cases e : i = S.2.1.1
          · subst e
            simp only [pk_us, if_true]
            refine ⟨trivial, trivial, trivial, trivial, fun _ j hj => ?_⟩
            unfold wzI
            rw [if_pos (by omega)]
          · have si := s7 i (by omega)
            simp only [pk_un e, if_neg e]
            refine ⟨si.1, si.2.1, si.2.2.1, si.2.2.2.1, fun h4 j hj => ?_⟩
            unfold wzI
            rw [if_neg (by omega)]
            exact si.2.2.2.2 h4 j hj) 9 0 (by omega)
        rw [wzI_0, uA_i] at q9
        exact q9
      · have hn : S.2.1.1 = 24 := nI_inj (by omega) (by omega) (c176.trans z24)
        refine gk_ldc dX11_filter_179 (pc' := 181) rfl gw_1004 ?_
        refine gk_iret dX11_filter_181 rfl (hB _ ((if_pos ⟨ho, q⟩).trans (if_pos hn)))
    · have q : ¬ hgO S.2.1 k a c ≤ 4 := fun z => c164 (nI_le (b := 4) z (by omega))
      refine gk_ldc dX11_filter_167 (pc' := 169) rfl gw_891 ?_
      refine gk_iret dX11_filter_169 rfl (hB _ (if_neg (fun z => q z.2)))
  have n18 : ∀ j : Nat, j < 9 → k = nI j → G (kx X) mt_Mo_filter (d + 10) b 15 [some (.ref m), some (.int k), some (.int a), some (.int c), none, none] [] (mkH X h0 m A Z) Q := by
    intro j hj ek
    subst ek
    have e0 : (nI j = 0 ↔ j = 0) := nI_eq (b := 0) (by omega) (by omega)
    have e1 : (nI j = 1 ↔ j = 1) := nI_eq (b := 1) (by omega) (by omega)
    have e2 : (nI j = 2 ↔ j = 2) := nI_eq (b := 2) (by omega) (by omega)
    have e3 : (nI j = 3 ↔ j = 3) := nI_eq (b := 3) (by omega) (by omega)
    have e4 : (nI j = 4 ↔ j = 4) := nI_eq (b := 4) (by omega) (by omega)
    have e5 : (nI j = 5 ↔ j = 5) := nI_eq (b := 5) (by omega) (by omega)
    have e6 : (nI j = 6 ↔ j = 6) := nI_eq (b := 6) (by omega) (by omega)
    have e7 : (nI j = 7 ↔ j = 7) := nI_eq (b := 7) (by omega) (by omega)
    have e8 : (nI j = 8 ↔ j = 8) := nI_eq (b := 8) (by omega) (by omega)
    unfold okT at fT fF
    rw [e0, e1, e2, e3, e4, e5, e6, e7, e8] at fT fF
    clear hQ hE hB zk e0 e1 e2 e3 e4 e5 e6 e7 e8
    rcases (show j = 0 ∨ j = 1 ∨ j = 2 ∨ j = 3 ∨ j = 4 ∨ j = 5 ∨ j = 6 ∨ j = 7 ∨ j = 8 by omega) with rfl | rfl | rfl | rfl | rfl | rfl | rfl | rfl | rfl
    · refine gk_iload1 dX11_filter_15 (pc' := 16) rfl ?_
      refine gk_iconst (v := 1) dX11_filter_16 (pc' := 17) rfl (by decide) ?_
      refine gk_icmp_eq dX11_filter_17 (tgt := 144) (pc' := 20) (by decide) rfl (fun c => absurd c (by decide)) (fun _ => ?_)
      refine gk_iload1 dX11_filter_20 (pc' := 21) rfl ?_
      refine gk_iconst (v := 3) dX11_filter_21 (pc' := 22) rfl (by decide) ?_
      refine gk_icmp_gt dX11_filter_22 (tgt := 56) (pc' := 25) (by decide) rfl (fun c => absurd c (by decide)) (fun _ => ?_)
      refine gk_iload2 dX11_filter_25 (pc' := 26) rfl ?_
      refine gk_i2l dX11_filter_26 (pc' := 27) rfl ?_
      refine gk_ldc2 dX11_filter_27 (pc' := 30) rfl gw_994 ?_
      refine gk_ldc2 dX11_filter_30 (pc' := 33) rfl gw_995 ?_
      refine gk_cS1_3 mz_Mo_in gw_886 dX11_filter_33 (pc' := 36) rfl (Nat.le_of_ble_eq_true rfl) (sp_Mo_in (fun u33 v33 => ?_) (fun n33 => ?_))
      · refine ⟨_, rfl, ?_⟩
        refine gk_if_eq dX11_filter_36 (tgt := 56) (pc' := 39) (by decide) rfl (fun c => absurd c (by decide)) (fun _ => ?_)
        refine gk_iload1 dX11_filter_39 (pc' := 40) rfl ?_
        refine gk_iconst (v := 3) dX11_filter_40 (pc' := 41) rfl (by decide) ?_
        refine gk_icmp_ne dX11_filter_41 (tgt := 144) (pc' := 44) (by decide) rfl (fun _ => ?_) (fun c => absurd c (by decide))
        refine gk_iconst (v := 1) dX11_filter_144 (pc' := 145) rfl (by decide) ?_
        refine gk_goto dX11_filter_145 (tgt := 149) (by decide) ?_
        first | exact fT (by omega) | exact fF (by omega)
      · refine ⟨_, rfl, ?_⟩
        refine gk_if_eq dX11_filter_36 (tgt := 56) (pc' := 39) (by decide) rfl (fun _ => ?_) (fun c => absurd c (by decide))
        refine gk_iload1 dX11_filter_56 (pc' := 57) rfl ?_
        refine gk_iconst (v := 4) dX11_filter_57 (pc' := 58) rfl (by decide) ?_
        refine gk_icmp_ne dX11_filter_58 (tgt := 73) (pc' := 61) (by decide) rfl (fun _ => ?_) (fun c => absurd c (by decide))
        refine gk_iload1 dX11_filter_73 (pc' := 74) rfl ?_
        refine gk_iconst (v := 5) dX11_filter_74 (pc' := 75) rfl (by decide) ?_
        refine gk_icmp_ne dX11_filter_75 (tgt := 90) (pc' := 78) (by decide) rfl (fun _ => ?_) (fun c => absurd c (by decide))
        refine gk_iload1 dX11_filter_90 (pc' := 91) rfl ?_
        refine gk_bipush (v := 6) dX11_filter_91 (pc' := 93) rfl (by decide) ?_
        refine gk_icmp_eq dX11_filter_93 (tgt := 102) (pc' := 96) (by decide) rfl (fun c => absurd c (by decide)) (fun _ => ?_)
        refine gk_iload1 dX11_filter_96 (pc' := 97) rfl ?_
        refine gk_bipush (v := 8) dX11_filter_97 (pc' := 99) rfl (by decide) ?_
        refine gk_icmp_ne dX11_filter_99 (tgt := 118) (pc' := 102) (by decide) rfl (fun _ => ?_) (fun c => absurd c (by decide))
        refine gk_iload1 dX11_filter_118 (pc' := 119) rfl ?_
        refine gk_bipush (v := 7) dX11_filter_119 (pc' := 121) rfl (by decide) ?_
        refine gk_icmp_ne dX11_filter_121 (tgt := 148) (pc' := 124) (by decide) rfl (fun _ => ?_) (fun c => absurd c (by decide))
        refine gk_iconst (v := 0) dX11_filter_148 (pc' := 149) rfl (by decide) ?_
        first | exact fT (by omega) | exact fF (by omega)
    · refine gk_iload1 dX11_filter_15 (pc' := 16) rfl ?_
      refine gk_iconst (v := 1) dX11_filter_16 (pc' := 17) rfl (by decide) ?_
      refine gk_icmp_eq dX11_filter_17 (tgt := 144) (pc' := 20) (by decide) rfl (fun _ => ?_) (fun c => absurd c (by decide))
      refine gk_iconst (v := 1) dX11_filter_144 (pc' := 145) rfl (by decide) ?_
      refine gk_goto dX11_filter_145 (tgt := 149) (by decide) ?_
      first | exact fT (by omega) | exact fF (by omega)
    · refine gk_iload1 dX11_filter_15 (pc' := 16) rfl ?_
      refine gk_iconst (v := 1) dX11_filter_16 (pc' := 17) rfl (by decide) ?_
      refine gk_icmp_eq dX11_filter_17 (tgt := 144) (pc' := 20) (by decide) rfl (fun c => absurd c (by decide)) (fun _ => ?_)
      refine gk_iload1 dX11_filter_20 (pc' := 21) rfl ?_
      refine gk_iconst (v := 3) dX11_filter_21 (pc' := 22) rfl (by decide) ?_
      refine gk_icmp_gt dX11_filter_22 (tgt := 56) (pc' := 25) (by decide) rfl (fun c => absurd c (by decide)) (fun _ => ?_)
      refine gk_iload2 dX11_filter_25 (pc' := 26) rfl ?_
      refine gk_i2l dX11_filter_26 (pc' := 27) rfl ?_
      refine gk_ldc2 dX11_filter_27 (pc' := 30) rfl gw_994 ?_
      refine gk_ldc2 dX11_filter_30 (pc' := 33) rfl gw_995 ?_
      refine gk_cS1_3 mz_Mo_in gw_886 dX11_filter_33 (pc' := 36) rfl (Nat.le_of_ble_eq_true rfl) (sp_Mo_in (fun u33 v33 => ?_) (fun n33 => ?_))
      · refine ⟨_, rfl, ?_⟩
        refine gk_if_eq dX11_filter_36 (tgt := 56) (pc' := 39) (by decide) rfl (fun c => absurd c (by decide)) (fun _ => ?_)
        refine gk_iload1 dX11_filter_39 (pc' := 40) rfl ?_
        refine gk_iconst (v := 3) dX11_filter_40 (pc' := 41) rfl (by decide) ?_
        refine gk_icmp_ne dX11_filter_41 (tgt := 144) (pc' := 44) (by decide) rfl (fun _ => ?_) (fun c => absurd c (by decide))
        refine gk_iconst (v := 1) dX11_filter_144 (pc' := 145) rfl (by decide) ?_
        refine gk_goto dX11_filter_145 (tgt := 149) (by decide) ?_
        first | exact fT (by omega) | exact fF (by omega)
      · refine ⟨_, rfl, ?_⟩
        refine gk_if_eq dX11_filter_36 (tgt := 56) (pc' := 39) (by decide) rfl (fun _ => ?_) (fun c => absurd c (by decide))
        refine gk_iload1 dX11_filter_56 (pc' := 57) rfl ?_
        refine gk_iconst (v := 4) dX11_filter_57 (pc' := 58) rfl (by decide) ?_
        refine gk_icmp_ne dX11_filter_58 (tgt := 73) (pc' := 61) (by decide) rfl (fun _ => ?_) (fun c => absurd c (by decide))
        refine gk_iload1 dX11_filter_73 (pc' := 74) rfl ?_
        refine gk_iconst (v := 5) dX11_filter_74 (pc' := 75) rfl (by decide) ?_
        refine gk_icmp_ne dX11_filter_75 (tgt := 90) (pc' := 78) (by decide) rfl (fun _ => ?_) (fun c => absurd c (by decide))
        refine gk_iload1 dX11_filter_90 (pc' := 91) rfl ?_
        refine gk_bipush (v := 6) dX11_filter_91 (pc' := 93) rfl (by decide) ?_
        refine gk_icmp_eq dX11_filter_93 (tgt := 102) (pc' := 96) (by decide) rfl (fun c => absurd c (by decide)) (fun _ => ?_)
        refine gk_iload1 dX11_filter_96 (pc' := 97) rfl ?_
        refine gk_bipush (v := 8) dX11_filter_97 (pc' := 99) rfl (by decide) ?_
        refine gk_icmp_ne dX11_filter_99 (tgt := 118) (pc' := 102) (by decide) rfl (fun _ => ?_) (fun c => absurd c (by decide))
        refine gk_iload1 dX11_filter_118 (pc' := 119) rfl ?_
        refine gk_bipush (v := 7) dX11_filter_119 (pc' := 121) rfl (by decide) ?_
        refine gk_icmp_ne dX11_filter_121 (tgt := 148) (pc' := 124) (by decide) rfl (fun _ => ?_) (fun c => absurd c (by decide))
        refine gk_iconst (v := 0) dX11_filter_148 (pc' := 149) rfl (by decide) ?_
        first | exact fT (by omega) | exact fF (by omega)
    · refine gk_iload1 dX11_filter_15 (pc' := 16) rfl ?_
      refine gk_iconst (v := 1) dX11_filter_16 (pc' := 17) rfl (by decide) ?_
      refine gk_icmp_eq dX11_filter_17 (tgt := 144) (pc' := 20) (by decide) rfl (fun c => absurd c (by decide)) (fun _ => ?_)
      refine gk_iload1 dX11_filter_20 (pc' := 21) rfl ?_
      refine gk_iconst (v := 3) dX11_filter_21 (pc' := 22) rfl (by decide) ?_
      refine gk_icmp_gt dX11_filter_22 (tgt := 56) (pc' := 25) (by decide) rfl (fun c => absurd c (by decide)) (fun _ => ?_)
      refine gk_iload2 dX11_filter_25 (pc' := 26) rfl ?_
      refine gk_i2l dX11_filter_26 (pc' := 27) rfl ?_
      refine gk_ldc2 dX11_filter_27 (pc' := 30) rfl gw_994 ?_
      refine gk_ldc2 dX11_filter_30 (pc' := 33) rfl gw_995 ?_
      refine gk_cS1_3 mz_Mo_in gw_886 dX11_filter_33 (pc' := 36) rfl (Nat.le_of_ble_eq_true rfl) (sp_Mo_in (fun u33 v33 => ?_) (fun n33 => ?_))
      · refine ⟨_, rfl, ?_⟩
        refine gk_if_eq dX11_filter_36 (tgt := 56) (pc' := 39) (by decide) rfl (fun c => absurd c (by decide)) (fun _ => ?_)
        refine gk_iload1 dX11_filter_39 (pc' := 40) rfl ?_
        refine gk_iconst (v := 3) dX11_filter_40 (pc' := 41) rfl (by decide) ?_
        refine gk_icmp_ne dX11_filter_41 (tgt := 144) (pc' := 44) (by decide) rfl (fun c => absurd c (by decide)) (fun _ => ?_)
        refine gk_iload3 dX11_filter_44 (pc' := 45) rfl ?_
        refine gk_i2l dX11_filter_45 (pc' := 46) rfl ?_
        refine gk_lconst (v := 1) dX11_filter_46 (pc' := 47) rfl (by decide) ?_
        refine gk_ldc2 dX11_filter_47 (pc' := 50) rfl gw_950 ?_
        refine gk_cS1_3 mz_Mo_in gw_886 dX11_filter_50 (pc' := 53) rfl (Nat.le_of_ble_eq_true rfl) (sp_Mo_in (fun u50 v50 => ?_) (fun n50 => ?_))
        · refine ⟨_, rfl, ?_⟩
          refine gk_if_ne dX11_filter_53 (tgt := 144) (pc' := 56) (by decide) rfl (fun _ => ?_) (fun c => absurd c (by decide))
          refine gk_iconst (v := 1) dX11_filter_144 (pc' := 145) rfl (by decide) ?_
          refine gk_goto dX11_filter_145 (tgt := 149) (by decide) ?_
          first | exact fT (by omega) | exact fF (by omega)
        · refine ⟨_, rfl, ?_⟩
          refine gk_if_ne dX11_filter_53 (tgt := 144) (pc' := 56) (by decide) rfl (fun c => absurd c (by decide)) (fun _ => ?_)
          refine gk_iload1 dX11_filter_56 (pc' := 57) rfl ?_
          refine gk_iconst (v := 4) dX11_filter_57 (pc' := 58) rfl (by decide) ?_
          refine gk_icmp_ne dX11_filter_58 (tgt := 73) (pc' := 61) (by decide) rfl (fun _ => ?_) (fun c => absurd c (by decide))
          refine gk_iload1 dX11_filter_73 (pc' := 74) rfl ?_
          refine gk_iconst (v := 5) dX11_filter_74 (pc' := 75) rfl (by decide) ?_
          refine gk_icmp_ne dX11_filter_75 (tgt := 90) (pc' := 78) (by decide) rfl (fun _ => ?_) (fun c => absurd c (by decide))
          refine gk_iload1 dX11_filter_90 (pc' := 91) rfl ?_
          refine gk_bipush (v := 6) dX11_filter_91 (pc' := 93) rfl (by decide) ?_
          refine gk_icmp_eq dX11_filter_93 (tgt := 102) (pc' := 96) (by decide) rfl (fun c => absurd c (by decide)) (fun _ => ?_)
          refine gk_iload1 dX11_filter_96 (pc' := 97) rfl ?_
          refine gk_bipush (v := 8) dX11_filter_97 (pc' := 99) rfl (by decide) ?_
          refine gk_icmp_ne dX11_filter_99 (tgt := 118) (pc' := 102) (by decide) rfl (fun _ => ?_) (fun c => absurd c (by decide))
          refine gk_iload1 dX11_filter_118 (pc' := 119) rfl ?_
          refine gk_bipush (v := 7) dX11_filter_119 (pc' := 121) rfl (by decide) ?_
          refine gk_icmp_ne dX11_filter_121 (tgt := 148) (pc' := 124) (by decide) rfl (fun _ => ?_) (fun c => absurd c (by decide))
          refine gk_iconst (v := 0) dX11_filter_148 (pc' := 149) rfl (by decide) ?_
          first | exact fT (by omega) | exact fF (by omega)
      · refine ⟨_, rfl, ?_⟩
        refine gk_if_eq dX11_filter_36 (tgt := 56) (pc' := 39) (by decide) rfl (fun _ => ?_) (fun c => absurd c (by decide))
        refine gk_iload1 dX11_filter_56 (pc' := 57) rfl ?_
        refine gk_iconst (v := 4) dX11_filter_57 (pc' := 58) rfl (by decide) ?_
        refine gk_icmp_ne dX11_filter_58 (tgt := 73) (pc' := 61) (by decide) rfl (fun _ => ?_) (fun c => absurd c (by decide))
        refine gk_iload1 dX11_filter_73 (pc' := 74) rfl ?_
        refine gk_iconst (v := 5) dX11_filter_74 (pc' := 75) rfl (by decide) ?_
        refine gk_icmp_ne dX11_filter_75 (tgt := 90) (pc' := 78) (by decide) rfl (fun _ => ?_) (fun c => absurd c (by decide))
        refine gk_iload1 dX11_filter_90 (pc' := 91) rfl ?_
        refine gk_bipush (v := 6) dX11_filter_91 (pc' := 93) rfl (by decide) ?_
        refine gk_icmp_eq dX11_filter_93 (tgt := 102) (pc' := 96) (by decide) rfl (fun c => absurd c (by decide)) (fun _ => ?_)
        refine gk_iload1 dX11_filter_96 (pc' := 97) rfl ?_
        refine gk_bipush (v := 8) dX11_filter_97 (pc' := 99) rfl (by decide) ?_
        refine gk_icmp_ne dX11_filter_99 (tgt := 118) (pc' := 102) (by decide) rfl (fun _ => ?_) (fun c => absurd c (by decide))
        refine gk_iload1 dX11_filter_118 (pc' := 119) rfl ?_
        refine gk_bipush (v := 7) dX11_filter_119 (pc' := 121) rfl (by decide) ?_
        refine gk_icmp_ne dX11_filter_121 (tgt := 148) (pc' := 124) (by decide) rfl (fun _ => ?_) (fun c => absurd c (by decide))
        refine gk_iconst (v := 0) dX11_filter_148 (pc' := 149) rfl (by decide) ?_
        first | exact fT (by omega) | exact fF (by omega)
    · refine gk_iload1 dX11_filter_15 (pc' := 16) rfl ?_
      refine gk_iconst (v := 1) dX11_filter_16 (pc' := 17) rfl (by decide) ?_
      refine gk_icmp_eq dX11_filter_17 (tgt := 144) (pc' := 20) (by decide) rfl (fun c => absurd c (by decide)) (fun _ => ?_)
      refine gk_iload1 dX11_filter_20 (pc' := 21) rfl ?_
      refine gk_iconst (v := 3) dX11_filter_21 (pc' := 22) rfl (by decide) ?_
      refine gk_icmp_gt dX11_filter_22 (tgt := 56) (pc' := 25) (by decide) rfl (fun _ => ?_) (fun c => absurd c (by decide))
      refine gk_iload1 dX11_filter_56 (pc' := 57) rfl ?_
      refine gk_iconst (v := 4) dX11_filter_57 (pc' := 58) rfl (by decide) ?_
      refine gk_icmp_ne dX11_filter_58 (tgt := 73) (pc' := 61) (by decide) rfl (fun c => absurd c (by decide)) (fun _ => ?_)
      refine gk_iload2 dX11_filter_61 (pc' := 62) rfl ?_
      refine gk_i2l dX11_filter_62 (pc' := 63) rfl ?_
      refine gk_lconst (v := 1) dX11_filter_63 (pc' := 64) rfl (by decide) ?_
      refine gk_ldc2 dX11_filter_64 (pc' := 67) rfl gw_950 ?_
      refine gk_cS1_3 mz_Mo_in gw_886 dX11_filter_67 (pc' := 70) rfl (Nat.le_of_ble_eq_true rfl) (sp_Mo_in (fun u67 v67 => ?_) (fun n67 => ?_))
      · refine ⟨_, rfl, ?_⟩
        refine gk_if_ne dX11_filter_70 (tgt := 144) (pc' := 73) (by decide) rfl (fun _ => ?_) (fun c => absurd c (by decide))
        refine gk_iconst (v := 1) dX11_filter_144 (pc' := 145) rfl (by decide) ?_
        refine gk_goto dX11_filter_145 (tgt := 149) (by decide) ?_
        first | exact fT (by omega) | exact fF (by omega)
      · refine ⟨_, rfl, ?_⟩
        refine gk_if_ne dX11_filter_70 (tgt := 144) (pc' := 73) (by decide) rfl (fun c => absurd c (by decide)) (fun _ => ?_)
        refine gk_iload1 dX11_filter_73 (pc' := 74) rfl ?_
        refine gk_iconst (v := 5) dX11_filter_74 (pc' := 75) rfl (by decide) ?_
        refine gk_icmp_ne dX11_filter_75 (tgt := 90) (pc' := 78) (by decide) rfl (fun _ => ?_) (fun c => absurd c (by decide))
        refine gk_iload1 dX11_filter_90 (pc' := 91) rfl ?_
        refine gk_bipush (v := 6) dX11_filter_91 (pc' := 93) rfl (by decide) ?_
        refine gk_icmp_eq dX11_filter_93 (tgt := 102) (pc' := 96) (by decide) rfl (fun c => absurd c (by decide)) (fun _ => ?_)
        refine gk_iload1 dX11_filter_96 (pc' := 97) rfl ?_
        refine gk_bipush (v := 8) dX11_filter_97 (pc' := 99) rfl (by decide) ?_
        refine gk_icmp_ne dX11_filter_99 (tgt := 118) (pc' := 102) (by decide) rfl (fun _ => ?_) (fun c => absurd c (by decide))
        refine gk_iload1 dX11_filter_118 (pc' := 119) rfl ?_
        refine gk_bipush (v := 7) dX11_filter_119 (pc' := 121) rfl (by decide) ?_
        refine gk_icmp_ne dX11_filter_121 (tgt := 148) (pc' := 124) (by decide) rfl (fun _ => ?_) (fun c => absurd c (by decide))
        refine gk_iconst (v := 0) dX11_filter_148 (pc' := 149) rfl (by decide) ?_
        first | exact fT (by omega) | exact fF (by omega)
    · refine gk_iload1 dX11_filter_15 (pc' := 16) rfl ?_
      refine gk_iconst (v := 1) dX11_filter_16 (pc' := 17) rfl (by decide) ?_
      refine gk_icmp_eq dX11_filter_17 (tgt := 144) (pc' := 20) (by decide) rfl (fun c => absurd c (by decide)) (fun _ => ?_)
      refine gk_iload1 dX11_filter_20 (pc' := 21) rfl ?_
      refine gk_iconst (v := 3) dX11_filter_21 (pc' := 22) rfl (by decide) ?_
      refine gk_icmp_gt dX11_filter_22 (tgt := 56) (pc' := 25) (by decide) rfl (fun _ => ?_) (fun c => absurd c (by decide))
      refine gk_iload1 dX11_filter_56 (pc' := 57) rfl ?_
      refine gk_iconst (v := 4) dX11_filter_57 (pc' := 58) rfl (by decide) ?_
      refine gk_icmp_ne dX11_filter_58 (tgt := 73) (pc' := 61) (by decide) rfl (fun _ => ?_) (fun c => absurd c (by decide))
      refine gk_iload1 dX11_filter_73 (pc' := 74) rfl ?_
      refine gk_iconst (v := 5) dX11_filter_74 (pc' := 75) rfl (by decide) ?_
      refine gk_icmp_ne dX11_filter_75 (tgt := 90) (pc' := 78) (by decide) rfl (fun c => absurd c (by decide)) (fun _ => ?_)
      refine gk_iload2 dX11_filter_78 (pc' := 79) rfl ?_
      refine gk_i2l dX11_filter_79 (pc' := 80) rfl ?_
      refine gk_lconst (v := 0) dX11_filter_80 (pc' := 81) rfl (by decide) ?_
      refine gk_ldc2 dX11_filter_81 (pc' := 84) rfl gw_939 ?_
      refine gk_cS1_3 mz_Mo_in gw_886 dX11_filter_84 (pc' := 87) rfl (Nat.le_of_ble_eq_true rfl) (sp_Mo_in (fun u84 v84 => ?_) (fun n84 => ?_))
      · refine ⟨_, rfl, ?_⟩
        refine gk_if_ne dX11_filter_87 (tgt := 144) (pc' := 90) (by decide) rfl (fun _ => ?_) (fun c => absurd c (by decide))
        refine gk_iconst (v := 1) dX11_filter_144 (pc' := 145) rfl (by decide) ?_
        refine gk_goto dX11_filter_145 (tgt := 149) (by decide) ?_
        first | exact fT (by omega) | exact fF (by omega)
      · refine ⟨_, rfl, ?_⟩
        refine gk_if_ne dX11_filter_87 (tgt := 144) (pc' := 90) (by decide) rfl (fun c => absurd c (by decide)) (fun _ => ?_)
        refine gk_iload1 dX11_filter_90 (pc' := 91) rfl ?_
        refine gk_bipush (v := 6) dX11_filter_91 (pc' := 93) rfl (by decide) ?_
        refine gk_icmp_eq dX11_filter_93 (tgt := 102) (pc' := 96) (by decide) rfl (fun c => absurd c (by decide)) (fun _ => ?_)
        refine gk_iload1 dX11_filter_96 (pc' := 97) rfl ?_
        refine gk_bipush (v := 8) dX11_filter_97 (pc' := 99) rfl (by decide) ?_
        refine gk_icmp_ne dX11_filter_99 (tgt := 118) (pc' := 102) (by decide) rfl (fun _ => ?_) (fun c => absurd c (by decide))
        refine gk_iload1 dX11_filter_118 (pc' := 119) rfl ?_
        refine gk_bipush (v := 7) dX11_filter_119 (pc' := 121) rfl (by decide) ?_
        refine gk_icmp_ne dX11_filter_121 (tgt := 148) (pc' := 124) (by decide) rfl (fun _ => ?_) (fun c => absurd c (by decide))
        refine gk_iconst (v := 0) dX11_filter_148 (pc' := 149) rfl (by decide) ?_
        first | exact fT (by omega) | exact fF (by omega)
    · refine gk_iload1 dX11_filter_15 (pc' := 16) rfl ?_
      refine gk_iconst (v := 1) dX11_filter_16 (pc' := 17) rfl (by decide) ?_
      refine gk_icmp_eq dX11_filter_17 (tgt := 144) (pc' := 20) (by decide) rfl (fun c => absurd c (by decide)) (fun _ => ?_)
      refine gk_iload1 dX11_filter_20 (pc' := 21) rfl ?_
      refine gk_iconst (v := 3) dX11_filter_21 (pc' := 22) rfl (by decide) ?_
      refine gk_icmp_gt dX11_filter_22 (tgt := 56) (pc' := 25) (by decide) rfl (fun _ => ?_) (fun c => absurd c (by decide))
      refine gk_iload1 dX11_filter_56 (pc' := 57) rfl ?_
      refine gk_iconst (v := 4) dX11_filter_57 (pc' := 58) rfl (by decide) ?_
      refine gk_icmp_ne dX11_filter_58 (tgt := 73) (pc' := 61) (by decide) rfl (fun _ => ?_) (fun c => absurd c (by decide))
      refine gk_iload1 dX11_filter_73 (pc' := 74) rfl ?_
      refine gk_iconst (v := 5) dX11_filter_74 (pc' := 75) rfl (by decide) ?_
      refine gk_icmp_ne dX11_filter_75 (tgt := 90) (pc' := 78) (by decide) rfl (fun _ => ?_) (fun c => absurd c (by decide))
      refine gk_iload1 dX11_filter_90 (pc' := 91) rfl ?_
      refine gk_bipush (v := 6) dX11_filter_91 (pc' := 93) rfl (by decide) ?_
      refine gk_icmp_eq dX11_filter_93 (tgt := 102) (pc' := 96) (by decide) rfl (fun _ => ?_) (fun c => absurd c (by decide))
      refine gk_aload0 dX11_filter_102 (pc' := 103) rfl ?_
      refine gk_iload2 dX11_filter_103 (pc' := 104) rfl ?_
      refine gk_cV1_1 mv_Mo_isFilter gw_996 dX11_filter_104 (pc' := 107) rfl (Nat.le_of_ble_eq_true rfl) (by exact (mkJ)) (sp_Mo_isFilter s5 tw1 (fun ja ha ea => ?_) (fun n104 => ?_))
      · refine ⟨_, rfl, ?_⟩
        have u104 : isF S.2.1 a := by have := nI_toInt (n := ja) (by omega); rw [ea]; omega
        refine gk_if_eq dX11_filter_107 (tgt := 118) (pc' := 110) (by decide) rfl (fun c => absurd c (by decide)) (fun _ => ?_)
        refine gk_aload0 dX11_filter_110 (pc' := 111) rfl ?_
        refine gk_iload3 dX11_filter_111 (pc' := 112) rfl ?_
        refine gk_cV1_1 mv_Mo_isFilter gw_996 dX11_filter_112 (pc' := 115) rfl (Nat.le_of_ble_eq_true rfl) (by exact (mkJ)) (sp_Mo_isFilter s5 tw1 (fun jc hc ec => ?_) (fun nc => ?_))
        · refine ⟨_, rfl, ?_⟩
          have uc : isF S.2.1 c := by have := nI_toInt (n := jc) (by omega); rw [ec]; omega
          refine gk_if_ne dX11_filter_115 (tgt := 144) (pc' := 118) (by decide) rfl (fun _ => ?_) (fun c => absurd c (by decide))
          refine gk_iconst (v := 1) dX11_filter_144 (pc' := 145) rfl (by decide) ?_
          refine gk_goto dX11_filter_145 (tgt := 149) (by decide) ?_
          first | exact fT (by omega) | exact fF (by omega)
        · refine ⟨_, rfl, ?_⟩
          refine gk_if_ne dX11_filter_115 (tgt := 144) (pc' := 118) (by decide) rfl (fun c => absurd c (by decide)) (fun _ => ?_)
          refine gk_iload1 dX11_filter_118 (pc' := 119) rfl ?_
          refine gk_bipush (v := 7) dX11_filter_119 (pc' := 121) rfl (by decide) ?_
          refine gk_icmp_ne dX11_filter_121 (tgt := 148) (pc' := 124) (by decide) rfl (fun _ => ?_) (fun c => absurd c (by decide))
          refine gk_iconst (v := 0) dX11_filter_148 (pc' := 149) rfl (by decide) ?_
          first | exact fT (by omega) | exact fF (by omega)
      · refine ⟨_, rfl, ?_⟩
        refine gk_if_eq dX11_filter_107 (tgt := 118) (pc' := 110) (by decide) rfl (fun _ => ?_) (fun c => absurd c (by decide))
        refine gk_iload1 dX11_filter_118 (pc' := 119) rfl ?_
        refine gk_bipush (v := 7) dX11_filter_119 (pc' := 121) rfl (by decide) ?_
        refine gk_icmp_ne dX11_filter_121 (tgt := 148) (pc' := 124) (by decide) rfl (fun _ => ?_) (fun c => absurd c (by decide))
        refine gk_iconst (v := 0) dX11_filter_148 (pc' := 149) rfl (by decide) ?_
        first | exact fT (by omega) | exact fF (by omega)
    · refine gk_iload1 dX11_filter_15 (pc' := 16) rfl ?_
      refine gk_iconst (v := 1) dX11_filter_16 (pc' := 17) rfl (by decide) ?_
      refine gk_icmp_eq dX11_filter_17 (tgt := 144) (pc' := 20) (by decide) rfl (fun c => absurd c (by decide)) (fun _ => ?_)
      refine gk_iload1 dX11_filter_20 (pc' := 21) rfl ?_
      refine gk_iconst (v := 3) dX11_filter_21 (pc' := 22) rfl (by decide) ?_
      refine gk_icmp_gt dX11_filter_22 (tgt := 56) (pc' := 25) (by decide) rfl (fun _ => ?_) (fun c => absurd c (by decide))
      refine gk_iload1 dX11_filter_56 (pc' := 57) rfl ?_
      refine gk_iconst (v := 4) dX11_filter_57 (pc' := 58) rfl (by decide) ?_
      refine gk_icmp_ne dX11_filter_58 (tgt := 73) (pc' := 61) (by decide) rfl (fun _ => ?_) (fun c => absurd c (by decide))
      refine gk_iload1 dX11_filter_73 (pc' := 74) rfl ?_
      refine gk_iconst (v := 5) dX11_filter_74 (pc' := 75) rfl (by decide) ?_
      refine gk_icmp_ne dX11_filter_75 (tgt := 90) (pc' := 78) (by decide) rfl (fun _ => ?_) (fun c => absurd c (by decide))
      refine gk_iload1 dX11_filter_90 (pc' := 91) rfl ?_
      refine gk_bipush (v := 6) dX11_filter_91 (pc' := 93) rfl (by decide) ?_
      refine gk_icmp_eq dX11_filter_93 (tgt := 102) (pc' := 96) (by decide) rfl (fun c => absurd c (by decide)) (fun _ => ?_)
      refine gk_iload1 dX11_filter_96 (pc' := 97) rfl ?_
      refine gk_bipush (v := 8) dX11_filter_97 (pc' := 99) rfl (by decide) ?_
      refine gk_icmp_ne dX11_filter_99 (tgt := 118) (pc' := 102) (by decide) rfl (fun _ => ?_) (fun c => absurd c (by decide))
      refine gk_iload1 dX11_filter_118 (pc' := 119) rfl ?_
      refine gk_bipush (v := 7) dX11_filter_119 (pc' := 121) rfl (by decide) ?_
      refine gk_icmp_ne dX11_filter_121 (tgt := 148) (pc' := 124) (by decide) rfl (fun c => absurd c (by decide)) (fun _ => ?_)
      refine gk_iload2 dX11_filter_124 (pc' := 125) rfl ?_
      refine gk_i2l dX11_filter_125 (pc' := 126) rfl ?_
      refine gk_lconst (v := 0) dX11_filter_126 (pc' := 127) rfl (by decide) ?_
      refine gk_ldc2 dX11_filter_127 (pc' := 130) rfl gw_967 ?_
      refine gk_cS1_3 mz_Mo_in gw_886 dX11_filter_130 (pc' := 133) rfl (Nat.le_of_ble_eq_true rfl) (sp_Mo_in (fun u130 v130 => ?_) (fun n130 => ?_))
      · refine ⟨_, rfl, ?_⟩
        refine gk_if_eq dX11_filter_133 (tgt := 148) (pc' := 136) (by decide) rfl (fun c => absurd c (by decide)) (fun _ => ?_)
        refine gk_aload0 dX11_filter_136 (pc' := 137) rfl ?_
        refine gk_iload3 dX11_filter_137 (pc' := 138) rfl ?_
        refine gk_cV1_1 mv_Mo_isFilter gw_996 dX11_filter_138 (pc' := 141) rfl (Nat.le_of_ble_eq_true rfl) (by exact (mkJ)) (sp_Mo_isFilter s5 tw1 (fun jc hc ec => ?_) (fun nc => ?_))
        · refine ⟨_, rfl, ?_⟩
          have uc : isF S.2.1 c := by have := nI_toInt (n := jc) (by omega); rw [ec]; omega
          refine gk_if_eq dX11_filter_141 (tgt := 148) (pc' := 144) (by decide) rfl (fun c => absurd c (by decide)) (fun _ => ?_)
          refine gk_iconst (v := 1) dX11_filter_144 (pc' := 145) rfl (by decide) ?_
          refine gk_goto dX11_filter_145 (tgt := 149) (by decide) ?_
          first | exact fT (by omega) | exact fF (by omega)
        · refine ⟨_, rfl, ?_⟩
          refine gk_if_eq dX11_filter_141 (tgt := 148) (pc' := 144) (by decide) rfl (fun _ => ?_) (fun c => absurd c (by decide))
          refine gk_iconst (v := 0) dX11_filter_148 (pc' := 149) rfl (by decide) ?_
          first | exact fT (by omega) | exact fF (by omega)
      · refine ⟨_, rfl, ?_⟩
        refine gk_if_eq dX11_filter_133 (tgt := 148) (pc' := 136) (by decide) rfl (fun _ => ?_) (fun c => absurd c (by decide))
        refine gk_iconst (v := 0) dX11_filter_148 (pc' := 149) rfl (by decide) ?_
        first | exact fT (by omega) | exact fF (by omega)
    · refine gk_iload1 dX11_filter_15 (pc' := 16) rfl ?_
      refine gk_iconst (v := 1) dX11_filter_16 (pc' := 17) rfl (by decide) ?_
      refine gk_icmp_eq dX11_filter_17 (tgt := 144) (pc' := 20) (by decide) rfl (fun c => absurd c (by decide)) (fun _ => ?_)
      refine gk_iload1 dX11_filter_20 (pc' := 21) rfl ?_
      refine gk_iconst (v := 3) dX11_filter_21 (pc' := 22) rfl (by decide) ?_
      refine gk_icmp_gt dX11_filter_22 (tgt := 56) (pc' := 25) (by decide) rfl (fun _ => ?_) (fun c => absurd c (by decide))
      refine gk_iload1 dX11_filter_56 (pc' := 57) rfl ?_
      refine gk_iconst (v := 4) dX11_filter_57 (pc' := 58) rfl (by decide) ?_
      refine gk_icmp_ne dX11_filter_58 (tgt := 73) (pc' := 61) (by decide) rfl (fun _ => ?_) (fun c => absurd c (by decide))
      refine gk_iload1 dX11_filter_73 (pc' := 74) rfl ?_
      refine gk_iconst (v := 5) dX11_filter_74 (pc' := 75) rfl (by decide) ?_
      refine gk_icmp_ne dX11_filter_75 (tgt := 90) (pc' := 78) (by decide) rfl (fun _ => ?_) (fun c => absurd c (by decide))
      refine gk_iload1 dX11_filter_90 (pc' := 91) rfl ?_
      refine gk_bipush (v := 6) dX11_filter_91 (pc' := 93) rfl (by decide) ?_
      refine gk_icmp_eq dX11_filter_93 (tgt := 102) (pc' := 96) (by decide) rfl (fun c => absurd c (by decide)) (fun _ => ?_)
      refine gk_iload1 dX11_filter_96 (pc' := 97) rfl ?_
      refine gk_bipush (v := 8) dX11_filter_97 (pc' := 99) rfl (by decide) ?_
      refine gk_icmp_ne dX11_filter_99 (tgt := 118) (pc' := 102) (by decide) rfl (fun c => absurd c (by decide)) (fun _ => ?_)
      refine gk_aload0 dX11_filter_102 (pc' := 103) rfl ?_
      refine gk_iload2 dX11_filter_103 (pc' := 104) rfl ?_
      refine gk_cV1_1 mv_Mo_isFilter gw_996 dX11_filter_104 (pc' := 107) rfl (Nat.le_of_ble_eq_true rfl) (by exact (mkJ)) (sp_Mo_isFilter s5 tw1 (fun ja ha ea => ?_) (fun n104 => ?_))
      · refine ⟨_, rfl, ?_⟩
        have u104 : isF S.2.1 a := by have := nI_toInt (n := ja) (by omega); rw [ea]; omega
        refine gk_if_eq dX11_filter_107 (tgt := 118) (pc' := 110) (by decide) rfl (fun c => absurd c (by decide)) (fun _ => ?_)
        refine gk_aload0 dX11_filter_110 (pc' := 111) rfl ?_
        refine gk_iload3 dX11_filter_111 (pc' := 112) rfl ?_
        refine gk_cV1_1 mv_Mo_isFilter gw_996 dX11_filter_112 (pc' := 115) rfl (Nat.le_of_ble_eq_true rfl) (by exact (mkJ)) (sp_Mo_isFilter s5 tw1 (fun jc hc ec => ?_) (fun nc => ?_))
        · refine ⟨_, rfl, ?_⟩
          have uc : isF S.2.1 c := by have := nI_toInt (n := jc) (by omega); rw [ec]; omega
          refine gk_if_ne dX11_filter_115 (tgt := 144) (pc' := 118) (by decide) rfl (fun _ => ?_) (fun c => absurd c (by decide))
          refine gk_iconst (v := 1) dX11_filter_144 (pc' := 145) rfl (by decide) ?_
          refine gk_goto dX11_filter_145 (tgt := 149) (by decide) ?_
          first | exact fT (by omega) | exact fF (by omega)
        · refine ⟨_, rfl, ?_⟩
          refine gk_if_ne dX11_filter_115 (tgt := 144) (pc' := 118) (by decide) rfl (fun c => absurd c (by decide)) (fun _ => ?_)
          refine gk_iload1 dX11_filter_118 (pc' := 119) rfl ?_
          refine gk_bipush (v := 7) dX11_filter_119 (pc' := 121) rfl (by decide) ?_
          refine gk_icmp_ne dX11_filter_121 (tgt := 148) (pc' := 124) (by decide) rfl (fun _ => ?_) (fun c => absurd c (by decide))
          refine gk_iconst (v := 0) dX11_filter_148 (pc' := 149) rfl (by decide) ?_
          first | exact fT (by omega) | exact fF (by omega)
      · refine ⟨_, rfl, ?_⟩
        refine gk_if_eq dX11_filter_107 (tgt := 118) (pc' := 110) (by decide) rfl (fun _ => ?_) (fun c => absurd c (by decide))
        refine gk_iload1 dX11_filter_118 (pc' := 119) rfl ?_
        refine gk_bipush (v := 7) dX11_filter_119 (pc' := 121) rfl (by decide) ?_
        refine gk_icmp_ne dX11_filter_121 (tgt := 148) (pc' := 124) (by decide) rfl (fun _ => ?_) (fun c => absurd c (by decide))
        refine gk_iconst (v := 0) dX11_filter_148 (pc' := 149) rfl (by decide) ?_
        first | exact fT (by omega) | exact fF (by omega)
  have kr : okT S.2.1 k a c → 0 ≤ k.toInt ∧ k.toInt < 9 := fun z => by
    rcases z with ⟨z | z, -⟩ | z | ⟨z, -⟩ | ⟨z, -⟩ | ⟨z, -⟩ | ⟨z | z, -⟩ | ⟨z, -⟩ <;> rw [z] <;> decide
  refine Gm.enter (L := [some (.ref m), some (.int k), some (.int a), some (.int c), none, none]) (by decide) (fun _ => trivial) (Nat.le_of_ble_eq_true rfl) rfl ?_
  refine gk_iload1 dX11_filter_0 (pc' := 1) rfl ?_
  refine gk_i2l dX11_filter_1 (pc' := 2) rfl ?_
  refine gk_lconst (v := 0) dX11_filter_2 (pc' := 3) rfl (by decide) ?_
  refine gk_ldc2 dX11_filter_3 (pc' := 6) rfl gw_939 ?_
  refine gk_cS1_3 mz_Mo_in gw_886 dX11_filter_6 (pc' := 9) rfl (Nat.le_of_ble_eq_true rfl) (sp_Mo_in (fun u6 v6 => ?_) (fun n6 => ?_))
  · refine ⟨_, rfl, ?_⟩
    refine gk_if_ne dX11_filter_9 (tgt := 15) (pc' := 12) (by decide) rfl (fun _ => ?_) (fun c => absurd c (by decide))
    obtain ⟨j, hj, ej⟩ := pu_of (x := k) (n := 9) (by omega) (by omega) (by omega)
    exact n18 j hj ej
  · refine ⟨_, rfl, ?_⟩
    refine gk_if_ne dX11_filter_9 (tgt := 15) (pc' := 12) (by decide) rfl (fun c => absurd c (by decide)) (fun _ => ?_)
    refine gk_ldc dX11_filter_12 (pc' := 14) rfl gw_891 ?_
    refine gk_iret dX11_filter_14 rfl (hB _ (if_neg (fun z => n6 (by have := kr z.1; omega))))
end MoI
