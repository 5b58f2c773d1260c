/-! ===== the reference: read ===== -/
theorem sh8 {x y : Nat} (hx : x < 256) (hy : y < 256) : (256 : Int32) * nI x + nI y = nI x <<< (8 &&& 31) ||| nI y := by
  have e1 : ∀ x, x < 256 → nI x <<< (8 &&& 31) = nI (256 * x) := by decide +kernel
  have e2 : 256 * x + y = 256 * x ||| y := Nat.two_pow_add_eq_or_of_lt (i := 8) hy x
  rw [e1 x hx, nI_or, ← e2, ← nI_add]
  rw [show (256 : Int32) = nI 256 from rfl, pk_mul]
theorem byN {v : Int32} (h : 0 ≤ v.toInt ∧ v.toInt ≤ 255) : ∃ x, x < 256 ∧ v = nI x := pu_of h.1 (by omega) (by omega)
section MoM
variable {X : gX} {d : Nat} {b : Nat × Nat} {h h0 : gk_H} {m : Nat} {A : MoA} {Z : MoZ} {Q : Option Value → gk_H → Prop} {S : St}
theorem sp_Mo_isByte {at' len : Nat} {lo hi : Int32} {bs : Nat → Int32} (hz : Z 3 = nI len) (hl : len ≤ 800) (h8 : ∀ i, i < len → A 8 i = bs i) (ha : at' < 100000) (ht : at' < len → lo.toInt ≤ (bs at').toInt → (bs at').toInt ≤ hi.toInt → Q (some (.int 1)) (mkH X h0 m A Z)) (hf : ¬ (at' < len ∧ lo.toInt ≤ (bs at').toInt ∧ (bs at').toInt ≤ hi.toInt) → Q (some (.int 0)) (mkH X h0 m A Z)) : Gm (kx X) mt_Mo_isByte (d + 1) b [.ref m, .int (nI at'), .int lo, .int hi] (mkH X h0 m A Z) Q := by
  have zl := i2l_i lo
  have zh := i2l_i hi
  have zb := i2l_i (bs at')
  refine Gm.enter (L := [some (.ref m), some (.int (nI at')), some (.int lo), some (.int hi)]) (by decide) (fun _ => trivial) (Nat.le_of_ble_eq_true rfl) rfl ?_
  refine gk_iload1 dX11_isByte_0 (pc' := 1) rfl ?_
  refine gk_aload0 dX11_isByte_1 (pc' := 2) rfl ?_
  refine gk_getf (fs := [_, _, _, _, _, _, _, _, _, _, _, _, _, _, _, _, _, _, _, _, _, _, _, _, _, _]) gF_Mo_266 dX11_isByte_2 (pc' := 5) rfl (by exact (mkJ)) rfl ?_
  rw [hz]
  refine gk_icmp_ge dX11_isByte_5 (tgt := 29) (pc' := 8) (by decide) rfl (fun c5 => ?_) (fun c5 => ?_)
  · rw [pu_le, nI_toInt (by omega), nI_toInt (by omega)] at c5
    refine gk_iconst (v := 0) dX11_isByte_29 (pc' := 30) rfl (by decide) ?_
    refine gk_zret dX11_isByte_30 rfl rfl (by first | exact ht (by omega) (by omega) (by omega) | exact hf (by omega))
  · rw [pu_le, nI_toInt (by omega), nI_toInt (by omega)] at c5
    refine gk_aload0 dX11_isByte_8 (pc' := 9) rfl ?_
    refine gk_getf (fs := [_, _, _, _, _, _, _, _, _, _, _, _, _, _, _, _, _, _, _, _, _, _, _, _, _, _]) gF_Mo_32 dX11_isByte_9 (pc' := 12) rfl (by exact (mkJ)) rfl ?_
    refine gk_iload1 dX11_isByte_12 (pc' := 13) rfl ?_
    refine gk_iald (t0 := 0) rfl dX11_isByte_13 (pc' := 14) rfl (by exact (mkA8)) (vp_in_nI (by omega) (by decide)) ?_
    rw [nI_clamp (by omega)]
    rw [h8 at' (by omega)]
    refine gk_i2l dX11_isByte_14 (pc' := 15) rfl ?_
    refine gk_iload2 dX11_isByte_15 (pc' := 16) rfl ?_
    refine gk_i2l dX11_isByte_16 (pc' := 17) rfl ?_
    refine gk_iload3 dX11_isByte_17 (pc' := 18) rfl ?_
    refine gk_i2l dX11_isByte_18 (pc' := 19) rfl ?_
    refine gk_cS1_3 mz_Mo_in gw_886 dX11_isByte_19 (pc' := 22) rfl (Nat.le_of_ble_eq_true rfl) (sp_Mo_in (fun u v => ?_) (fun n => ?_))
    · refine ⟨_, rfl, ?_⟩
      refine gk_if_eq dX11_isByte_22 (tgt := 29) (pc' := 25) (by decide) rfl (fun c => absurd c (by decide)) (fun _ => ?_)
      refine gk_iconst (v := 1) dX11_isByte_25 (pc' := 26) rfl (by decide) ?_
      refine gk_goto dX11_isByte_26 (tgt := 30) (by decide) ?_
      refine gk_zret dX11_isByte_30 rfl rfl (by first | exact ht (by omega) (by omega) (by omega) | exact hf (by omega))
    · refine ⟨_, rfl, ?_⟩
      refine gk_if_eq dX11_isByte_22 (tgt := 29) (pc' := 25) (by decide) rfl (fun _ => ?_) (fun c => absurd c (by decide))
      refine gk_iconst (v := 0) dX11_isByte_29 (pc' := 30) rfl (by decide) ?_
      refine gk_zret dX11_isByte_30 rfl rfl (by first | exact ht (by omega) (by omega) (by omega) | exact hf (by omega))
theorem lp_Mo_faultF {i mm : Nat} {v : Int32} {l1 l2 : Option Value} {l5 : Int32} {f : Nat → Int32} (him : i + mm ≤ 256) (hQ : ∀ l7, G (kx X) mt_Mo_fault (d + 2) b 180 [some (.ref m), l1, l2, some (.int (nI i)), some (.int (nI mm)), some (.int l5), some (.int v), l7] [] (mkH X h0 m (uA A 14 (fdF f i mm (fun _ => v))) Z) Q) : ∀ n k, k + n = mm → G (kx X) mt_Mo_fault (d + 2) b 156 [some (.ref m), l1, l2, some (.int (nI i)), some (.int (nI mm)), some (.int l5), some (.int v), some (.int (nI k))] [] (mkH X h0 m (uA A 14 (fdF f i k (fun _ => v))) Z) Q := by
  intro n
  induction n with
  | zero =>
    intro k hk
    have e : k = mm := by omega
    subst e
    refine gk_iload7 dX11_fault_156 (pc' := 158) rfl ?_
    refine gk_iload4 dX11_fault_158 (pc' := 160) rfl ?_
    refine gk_icmp_ge dX11_fault_160 (tgt := 180) (pc' := 163) (by decide) rfl (fun c160 => ?_) (fun c160 => absurd (nI_le (Nat.le_refl _) (by omega)) c160)
    exact hQ _
  | succ n ih =>
    intro k hk
    refine gk_iload7 dX11_fault_156 (pc' := 158) rfl ?_
    refine gk_iload4 dX11_fault_158 (pc' := 160) rfl ?_
    refine gk_icmp_ge dX11_fault_160 (tgt := 180) (pc' := 163) (by decide) rfl (fun c160 => absurd c160 (nI_ge (by omega) (by omega))) (fun c160 => ?_)
    refine gk_aload0 dX11_fault_163 (pc' := 164) rfl ?_
    refine gk_getf (fs := [_, _, _, _, _, _, _, _, _, _, _, _, _, _, _, _, _, _, _, _, _, _, _, _, _, _]) gF_Mo_50 dX11_fault_164 (pc' := 167) rfl (by exact (mkJ)) rfl ?_
    refine gk_iload3 dX11_fault_167 (pc' := 168) rfl ?_
    refine gk_iload7 dX11_fault_168 (pc' := 170) rfl ?_
    refine gk_iaddN dX11_fault_170 (pc' := 171) rfl ?_
    refine gk_iload6 dX11_fault_171 (pc' := 173) rfl ?_
    refine gk_iast (t0 := 0) rfl dX11_fault_173 (pc' := 174) rfl (by exact (mkA14)) (vp_in_nI (by omega) (by decide)) ?_
    rw [nI_clamp (by omega), mkS14]
    refine gk_iinc7 (v := 1) dX11_fault_174 (pc' := 177) rfl (by decide) (by decide) rfl ?_
    refine gk_goto dX11_fault_177 (tgt := 156) (by decide) ?_
    rw [← nI_succ, uA_s, uA_u, fdF_s (V := fun _ => v) rfl]
    exact ih (k + 1) (by omega)
theorem lp_Mo_fault {len all ea : Nat} {bs : Nat → Int32} (hz : Z 3 = nI len) (hl : len ≤ 800) (h8 : ∀ i, i < len → A 8 i = bs i) (hb : ∀ i, i < len → 0 ≤ (bs i).toInt ∧ (bs i).toInt ≤ 255) (h0b : bs 0 = 0 ∨ bs 0 = 1) (hl3 : 3 ≤ len) (hea : ea = rdE bs) (hall : all ≤ 256) {r : Option Nat × (Nat → Int32)}
    (hQ : ∀ f' rr, (r.1 = none → rr = -1 ∧ ∀ j, j < all → f' j = r.2 j) → (∀ e, r.1 = some e → ∃ z, rr = nI z ∧ min z len = e ∧ z < 100000) → Q (some (.int rr)) (mkH X h0 m (uA A 14 f') Z)) :
    ∀ ff pl i f (x : Nat → Int32) (l4 l5 l6 l7 : Option Value), all + 1 ≤ i + ff → i ≤ all → pl ≤ 3 + 3 * i → (∀ j, j < i → f j = x j) → rdF bs len all ea ff pl i x = r → G (kx X) mt_Mo_fault (d + 2) b 56 [some (.ref m), some (.int (nI all)), some (.int (nI pl)), some (.int (nI i)), l4, l5, l6, l7] [] (mkH X h0 m (uA A 14 f) Z) Q := by
  have z1 : (1 : Int32).toInt = 1 := rfl
  have ea2 : ea = 1 ∨ ea = 2 := by rw [hea]; unfold rdE; split <;> omega
  intro ff
  induction ff with
  | zero => intro pl i f x l4 l5 l6 l7 h1 h2; omega
  | succ ff ih =>
    intro pl i f x l4 l5 l6 l7 h1 h2 h3 hf hr
    unfold rdF at hr
    have h8' : ∀ i, i < len → uA A 14 f 8 i = bs i := fun i hi => by rw [uA_n (by decide)]; exact h8 i hi
    by_cases ei : i = all
    · rw [if_pos ei] at hr
      refine gk_iload3 dX11_fault_56 (pc' := 57) rfl ?_
      refine gk_iload1 dX11_fault_57 (pc' := 58) rfl ?_
      refine gk_icmp_ge dX11_fault_58 (tgt := 195) (pc' := 61) (by decide) rfl (fun c58 => ?_) (fun c58 => absurd (nI_le (by omega) (by omega)) c58)
      refine gk_iload2 dX11_fault_195 (pc' := 196) rfl ?_
      refine gk_aload0 dX11_fault_196 (pc' := 197) rfl ?_
      refine gk_getf (fs := [_, _, _, _, _, _, _, _, _, _, _, _, _, _, _, _, _, _, _, _, _, _, _, _, _, _]) gF_Mo_266 dX11_fault_197 (pc' := 200) rfl (by exact (mkJ)) rfl ?_
      rw [hz]
      refine gk_icmp_ge dX11_fault_200 (tgt := 207) (pc' := 203) (by decide) rfl (fun c200 => ?_) (fun c200 => ?_)
      · rw [pu_le, nI_toInt (by omega), nI_toInt (by omega)] at c200
        rw [if_neg (by omega)] at hr
        refine gk_iconst (v := -1) dX11_fault_207 (pc' := 208) rfl (by decide) ?_
        refine gk_iret dX11_fault_208 rfl (by first | exact hQ f _ (fun _ => ⟨rfl, fun j hj => by rw [← hr]; exact hf j (by omega)⟩) (fun e he => by rw [← hr] at he; cases he) | exact hQ f _ (fun h => by rw [← hr] at h; cases h) (fun e he => by rw [← hr] at he; cases he; exact ⟨pl, rfl, by omega, by omega⟩))
      · rw [pu_le, nI_toInt (by omega), nI_toInt (by omega)] at c200
        rw [if_pos (by omega)] at hr
        refine gk_iload2 dX11_fault_203 (pc' := 204) rfl ?_
        refine gk_goto dX11_fault_204 (tgt := 208) (by decide) ?_
        refine gk_iret dX11_fault_208 rfl (by first | exact hQ f _ (fun _ => ⟨rfl, fun j hj => by rw [← hr]; exact hf j (by omega)⟩) (fun e he => by rw [← hr] at he; cases he) | exact hQ f _ (fun h => by rw [← hr] at h; cases h) (fun e he => by rw [← hr] at he; cases he; exact ⟨pl, rfl, by omega, by omega⟩))
    · rw [if_neg ei] at hr
      have zal : (nI all - nI i).toInt = (all : Int) - i := by rw [pk_sub h2, nI_toInt (by omega)]; omega
      have body : pl < len → 1 ≤ (bs pl).toInt → (bs pl).toInt ≤ (all : Int) - i → G (kx X) mt_Mo_fault (d + 2) b 75 [some (.ref m), some (.int (nI all)), some (.int (nI pl)), some (.int (nI i)), l4, l5, l6, l7] [] (mkH X h0 m (uA A 14 f) Z) Q := by
        intro g1 g2 g3
        rw [if_neg (by omega), if_neg (by omega)] at hr
        obtain ⟨mm, hm, em⟩ := byN (hb pl g1)
        have zmm : (nI mm).toInt = mm := nI_toInt (by omega)
        rw [em] at g2 g3
        have ymm : (bs pl).toInt.toNat = mm := by rw [em]; omega
        have e0 : (1 : Int32) + bs 0 = nI ea := by
          rw [hea]; unfold rdE
          rcases h0b with z | z <;> rw [z] <;> decide
        have nxt : ∀ v, v = tpV bs ea pl → ¬ len ≤ pl + ea → ∀ l6 : Option Value, G (kx X) mt_Mo_fault (d + 2) b 151 [some (.ref m), some (.int (nI all)), some (.int (nI pl)), some (.int (nI i)), some (.int (nI mm)), some (.int (nI ea)), l6, l7] [.int v] (mkH X h0 m (uA A 14 f) Z) Q := by
          intro v hv g4 l6
          rw [if_neg g4, ymm, ← hv] at hr
          refine gk_istore6 dX11_fault_151 (pc' := 153) rfl (by decide) rfl ?_
          refine gk_iconst (v := 0) dX11_fault_153 (pc' := 154) rfl (by decide) ?_
          refine gk_istore7 dX11_fault_154 (pc' := 156) rfl (by decide) rfl ?_
          have q := lp_Mo_faultF (X := X) (h0 := h0) (m := m) (A := A) (Z := Z) (d := d) (b := b) (Q := Q) (i := i) (mm := mm) (v := v) (l1 := some (.int (nI all))) (l2 := some (.int (nI pl))) (l5 := nI ea) (f := f) (by omega) (fun l7 => by
            refine gk_iload3 dX11_fault_180 (pc' := 181) rfl ?_
            refine gk_iload4 dX11_fault_181 (pc' := 183) rfl ?_
            refine gk_iaddN dX11_fault_183 (pc' := 184) rfl ?_
            refine gk_istore3 dX11_fault_184 (pc' := 185) rfl (by decide) rfl ?_
            refine gk_iload2 dX11_fault_185 (pc' := 186) rfl ?_
            refine gk_iconst (v := nI 1) dX11_fault_186 (pc' := 187) rfl (by decide) ?_
            refine gk_iload5 dX11_fault_187 (pc' := 189) rfl ?_
            refine gk_iaddN dX11_fault_189 (pc' := 190) rfl ?_
            refine gk_iaddN dX11_fault_190 (pc' := 191) rfl ?_
            refine gk_istore2 dX11_fault_191 (pc' := 192) rfl (by decide) rfl ?_
            refine gk_goto dX11_fault_192 (tgt := 56) (by decide) ?_
            refine ih (pl + (1 + ea)) (i + mm) _ _ _ _ _ _ (by omega) (by omega) (by omega) (fun j hj => ?_) (by rw [← Nat.add_assoc]; exact hr)
            show fdF f i mm (fun _ => v) j = if i ≤ j ∧ j < i + mm then v else x j
            unfold fdF
            by_cases e : i ≤ j ∧ j < i + mm
            · rw [if_pos e, if_pos e]
            · rw [if_neg e, if_neg e]; exact hf j (by omega)) mm 0 (by omega)
          rw [fdF_0] at q
          exact q
        refine gk_aload0 dX11_fault_75 (pc' := 76) rfl ?_
        refine gk_getf (fs := [_, _, _, _, _, _, _, _, _, _, _, _, _, _, _, _, _, _, _, _, _, _, _, _, _, _]) gF_Mo_32 dX11_fault_76 (pc' := 79) rfl (by exact (mkJ)) rfl ?_
        refine gk_iload2 dX11_fault_79 (pc' := 80) rfl ?_
        refine gk_iald (t0 := 0) rfl dX11_fault_80 (pc' := 81) rfl (by exact (mkA8)) (vp_in_nI (by omega) (by decide)) ?_
        rw [nI_clamp (by omega)]
        rw [h8' pl g1, em]
        refine gk_istore4 dX11_fault_81 (pc' := 83) rfl (by decide) rfl ?_
        refine gk_iconst (v := 1) dX11_fault_83 (pc' := 84) rfl (by decide) ?_
        refine gk_aload0 dX11_fault_84 (pc' := 85) rfl ?_
        refine gk_getf (fs := [_, _, _, _, _, _, _, _, _, _, _, _, _, _, _, _, _, _, _, _, _, _, _, _, _, _]) gF_Mo_32 dX11_fault_85 (pc' := 88) rfl (by exact (mkJ)) rfl ?_
        refine gk_iconst (v := nI 0) dX11_fault_88 (pc' := 89) rfl (by decide) ?_
        refine gk_iald (t0 := 0) rfl dX11_fault_89 (pc' := 90) rfl (by exact (mkA8)) (vp_in_nI (by omega) (by decide)) ?_
        rw [nI_clamp (by omega)]
        rw [h8' 0 (by omega)]
        refine gk_iadd dX11_fault_90 (pc' := 91) rfl ?_
        rw [e0]
        refine gk_istore5 dX11_fault_91 (pc' := 93) rfl (by decide) rfl ?_
        refine gk_iload2 dX11_fault_93 (pc' := 94) rfl ?_
        refine gk_iload5 dX11_fault_94 (pc' := 96) rfl ?_
        refine gk_iaddN dX11_fault_96 (pc' := 97) rfl ?_
        refine gk_aload0 dX11_fault_97 (pc' := 98) rfl ?_
        refine gk_getf (fs := [_, _, _, _, _, _, _, _, _, _, _, _, _, _, _, _, _, _, _, _, _, _, _, _, _, _]) gF_Mo_266 dX11_fault_98 (pc' := 101) rfl (by exact (mkJ)) rfl ?_
        rw [hz]
        refine gk_icmp_lt dX11_fault_101 (tgt := 109) (pc' := 104) (by decide) rfl (fun c101 => ?_) (fun c101 => ?_)
        · have g4 : ¬ len ≤ pl + ea := by rw [pu_lt, nI_toInt (by omega), nI_toInt (by omega)] at c101; omega
          refine gk_aload0 dX11_fault_109 (pc' := 110) rfl ?_
          refine gk_getf (fs := [_, _, _, _, _, _, _, _, _, _, _, _, _, _, _, _, _, _, _, _, _, _, _, _, _, _]) gF_Mo_32 dX11_fault_110 (pc' := 113) rfl (by exact (mkJ)) rfl ?_
          refine gk_iconst (v := nI 0) dX11_fault_113 (pc' := 114) rfl (by decide) ?_
          refine gk_iald (t0 := 0) rfl dX11_fault_114 (pc' := 115) rfl (by exact (mkA8)) (vp_in_nI (by omega) (by decide)) ?_
          rw [nI_clamp (by omega)]
          rw [h8' 0 (by omega)]
          refine gk_if_ne dX11_fault_115 (tgt := 129) (pc' := 118) (by decide) rfl (fun c115 => ?_) (fun c115 => ?_)
          · have b0 : bs 0 = 1 := h0b.resolve_left c115
            have e2 : ea = 2 := by rw [hea]; unfold rdE; rw [if_pos b0]
            obtain ⟨x1, hx1, ex1⟩ := byN (hb (pl + 1) (by omega))
            obtain ⟨x2, hx2, ex2⟩ := byN (hb (pl + 2) (by omega))
            refine gk_sipush (v := 256) dX11_fault_129 (pc' := 132) rfl (by decide) ?_
            refine gk_aload0 dX11_fault_132 (pc' := 133) rfl ?_
            refine gk_getf (fs := [_, _, _, _, _, _, _, _, _, _, _, _, _, _, _, _, _, _, _, _, _, _, _, _, _, _]) gF_Mo_32 dX11_fault_133 (pc' := 136) rfl (by exact (mkJ)) rfl ?_
            refine gk_iload2 dX11_fault_136 (pc' := 137) rfl ?_
            refine gk_iconst (v := nI 1) dX11_fault_137 (pc' := 138) rfl (by decide) ?_
            refine gk_iaddN dX11_fault_138 (pc' := 139) rfl ?_
            refine gk_iald (t0 := 0) rfl dX11_fault_139 (pc' := 140) rfl (by exact (mkA8)) (vp_in_nI (by omega) (by decide)) ?_
            rw [nI_clamp (by omega)]
            rw [h8' (pl + 1) (by omega)]
            refine gk_imul dX11_fault_140 (pc' := 141) rfl ?_
            refine gk_aload0 dX11_fault_141 (pc' := 142) rfl ?_
            refine gk_getf (fs := [_, _, _, _, _, _, _, _, _, _, _, _, _, _, _, _, _, _, _, _, _, _, _, _, _, _]) gF_Mo_32 dX11_fault_142 (pc' := 145) rfl (by exact (mkJ)) rfl ?_
            refine gk_iload2 dX11_fault_145 (pc' := 146) rfl ?_
            refine gk_iconst (v := nI 2) dX11_fault_146 (pc' := 147) rfl (by decide) ?_
            refine gk_iaddN dX11_fault_147 (pc' := 148) rfl ?_
            refine gk_iald (t0 := 0) rfl dX11_fault_148 (pc' := 149) rfl (by exact (mkA8)) (vp_in_nI (by omega) (by decide)) ?_
            rw [nI_clamp (by omega)]
            rw [h8' (pl + 2) (by omega), ex1, ex2]
            refine gk_iadd dX11_fault_149 (pc' := 150) rfl ?_
            rw [sh8 hx1 hx2]
            refine gk_i2s dX11_fault_150 (pc' := 151) rfl ?_
            first | exact nxt _ (by unfold tpV; rw [if_pos e1]) g4 _ | exact nxt _ (by unfold tpV; rw [if_neg (by omega), ex1, ex2]) g4 _
          · have b0 : bs 0 = 0 := c115
            have e1 : ea = 1 := by rw [hea]; unfold rdE; rw [if_neg (by rw [b0]; decide)]
            refine gk_aload0 dX11_fault_118 (pc' := 119) rfl ?_
            refine gk_getf (fs := [_, _, _, _, _, _, _, _, _, _, _, _, _, _, _, _, _, _, _, _, _, _, _, _, _, _]) gF_Mo_32 dX11_fault_119 (pc' := 122) rfl (by exact (mkJ)) rfl ?_
            refine gk_iload2 dX11_fault_122 (pc' := 123) rfl ?_
            refine gk_iconst (v := nI 1) dX11_fault_123 (pc' := 124) rfl (by decide) ?_
            refine gk_iaddN dX11_fault_124 (pc' := 125) rfl ?_
            refine gk_iald (t0 := 0) rfl dX11_fault_125 (pc' := 126) rfl (by exact (mkA8)) (vp_in_nI (by omega) (by decide)) ?_
            rw [nI_clamp (by omega)]
            rw [h8' (pl + 1) (by omega)]
            refine gk_goto dX11_fault_126 (tgt := 151) (by decide) ?_
            first | exact nxt _ (by unfold tpV; rw [if_pos e1]) g4 _ | exact nxt _ (by unfold tpV; rw [if_neg (by omega), ex1, ex2]) g4 _
        · have g4 : len ≤ pl + ea := by rw [pu_lt, nI_toInt (by omega), nI_toInt (by omega)] at c101; omega
          rw [if_pos g4] at hr
          refine gk_aload0 dX11_fault_104 (pc' := 105) rfl ?_
          refine gk_getf (fs := [_, _, _, _, _, _, _, _, _, _, _, _, _, _, _, _, _, _, _, _, _, _, _, _, _, _]) gF_Mo_266 dX11_fault_105 (pc' := 108) rfl (by exact (mkJ)) rfl ?_
          rw [hz]
          refine gk_iret dX11_fault_108 rfl (hQ f _ (fun h => by rw [← hr] at h; cases h) (fun e he => by rw [← hr] at he; cases he; exact ⟨len, rfl, by omega, by omega⟩))
      refine gk_iload3 dX11_fault_56 (pc' := 57) rfl ?_
      refine gk_iload1 dX11_fault_57 (pc' := 58) rfl ?_
      refine gk_icmp_ge dX11_fault_58 (tgt := 195) (pc' := 61) (by decide) rfl (fun c58 => absurd c58 (nI_ge (by omega) (by omega))) (fun c58 => ?_)
      refine gk_aload0 dX11_fault_61 (pc' := 62) rfl ?_
      refine gk_iload2 dX11_fault_62 (pc' := 63) rfl ?_
      refine gk_iconst (v := 1) dX11_fault_63 (pc' := 64) rfl (by decide) ?_
      refine gk_iload1 dX11_fault_64 (pc' := 65) rfl ?_
      refine gk_iload3 dX11_fault_65 (pc' := 66) rfl ?_
      refine gk_isub dX11_fault_66 (pc' := 67) rfl ?_
      refine gk_cV1_3 mv_Mo_isByte gw_1147 dX11_fault_67 (pc' := 70) rfl (Nat.le_of_ble_eq_true rfl) (by exact (mkJ)) (sp_Mo_isByte (bs := bs) hz hl h8' (by omega) (fun u v w => ?_) (fun n67 => ?_))
      · refine ⟨_, rfl, ?_⟩
        refine gk_if_ne dX11_fault_70 (tgt := 75) (pc' := 73) (by decide) rfl (fun _ => ?_) (fun c => absurd c (by decide))
        exact body u (by omega) (by omega)
      · refine ⟨_, rfl, ?_⟩
        rw [z1, zal] at n67
        refine gk_if_ne dX11_fault_70 (tgt := 75) (pc' := 73) (by decide) rfl (fun c => absurd c (by decide)) (fun _ => ?_)
        refine gk_iload2 dX11_fault_73 (pc' := 74) rfl ?_
        refine gk_iret dX11_fault_74 rfl (by
          by_cases g : len ≤ pl
          · rw [if_pos g] at hr
            exact hQ f _ (fun h => by rw [← hr] at h; cases h) (fun e he => by rw [← hr] at he; cases he; exact ⟨pl, rfl, by omega, by omega⟩)
          · rw [if_neg g, if_pos (by omega)] at hr
            exact hQ f _ (fun h => by rw [← hr] at h; cases h) (fun e he => by rw [← hr] at he; cases he; exact ⟨pl, rfl, by omega, by omega⟩))
theorem sp_Mo_fault {len : Nat} {bs : Nat → Int32} (hz : Z 3 = nI len) (hl : len ≤ 800) (h8 : ∀ i, i < len → A 8 i = bs i) (hb : ∀ i, i < len → 0 ≤ (bs i).toInt ∧ (bs i).toInt ≤ 255)
    (hQ : ∀ f' rr, ((rdS bs len).1 = none → rr = -1 ∧ ∀ j, j < rdW bs * rdT bs → f' j = (rdS bs len).2 j) → (∀ e, (rdS bs len).1 = some e → ∃ z, rr = nI z ∧ min z len = e ∧ z < 100000) → Q (some (.int rr)) (mkH X h0 m (uA A 14 f') Z)) : Gm (kx X) mt_Mo_fault (d + 2) b [.ref m] (mkH X h0 m A Z) Q := by
  have z0 : (0 : Int32).toInt = 0 := rfl
  have z1 : (1 : Int32).toInt = 1 := rfl
  have z16 : (16 : Int32).toInt = 16 := rfl
  have hd : ∀ e, hdN bs len = e → e < 3 → e ≤ len → Q (some (.int (nI e))) (mkH X h0 m A Z) := fun e he h3 hle => by
    have q := hQ (A 14) (nI e) (fun h => by unfold rdS at h; rw [if_pos (by omega)] at h; cases h) (fun e' h => by unfold rdS at h; rw [if_pos (by omega), he] at h; cases h; exact ⟨e, rfl, by omega, by omega⟩)
    rw [uA_i] at q
    exact q
  refine Gm.enter (L := [some (.ref m), none, none, none, none, none, none, none]) (by decide) (fun _ => trivial) (Nat.le_of_ble_eq_true rfl) rfl ?_
  refine gk_aload0 dX11_fault_0 (pc' := 1) rfl ?_
  refine gk_iconst (v := nI 0) dX11_fault_1 (pc' := 2) rfl (by decide) ?_
  refine gk_iconst (v := 0) dX11_fault_2 (pc' := 3) rfl (by decide) ?_
  refine gk_iconst (v := 1) dX11_fault_3 (pc' := 4) rfl (by decide) ?_
  refine gk_cV1_3 mv_Mo_isByte gw_1147 dX11_fault_4 (pc' := 7) rfl (Nat.le_of_ble_eq_true rfl) (by exact (mkJ)) (sp_Mo_isByte (bs := bs) hz hl h8 (by omega) (fun u4 v4 w4 => ?_) (fun n4 => ?_))
  · refine ⟨_, rfl, ?_⟩
    refine gk_if_ne dX11_fault_7 (tgt := 12) (pc' := 10) (by decide) rfl (fun _ => ?_) (fun c => absurd c (by decide))
    refine gk_aload0 dX11_fault_12 (pc' := 13) rfl ?_
    refine gk_iconst (v := nI 1) dX11_fault_13 (pc' := 14) rfl (by decide) ?_
    refine gk_iconst (v := 1) dX11_fault_14 (pc' := 15) rfl (by decide) ?_
    refine gk_bipush (v := 16) dX11_fault_15 (pc' := 17) rfl (by decide) ?_
    refine gk_cV1_3 mv_Mo_isByte gw_1147 dX11_fault_17 (pc' := 20) rfl (Nat.le_of_ble_eq_true rfl) (by exact (mkJ)) (sp_Mo_isByte (bs := bs) hz hl h8 (by omega) (fun u17 v17 w17 => ?_) (fun n17 => ?_))
    · refine ⟨_, rfl, ?_⟩
      refine gk_if_ne dX11_fault_20 (tgt := 25) (pc' := 23) (by decide) rfl (fun _ => ?_) (fun c => absurd c (by decide))
      refine gk_aload0 dX11_fault_25 (pc' := 26) rfl ?_
      refine gk_iconst (v := nI 2) dX11_fault_26 (pc' := 27) rfl (by decide) ?_
      refine gk_iconst (v := 1) dX11_fault_27 (pc' := 28) rfl (by decide) ?_
      refine gk_bipush (v := 16) dX11_fault_28 (pc' := 30) rfl (by decide) ?_
      refine gk_cV1_3 mv_Mo_isByte gw_1147 dX11_fault_30 (pc' := 33) rfl (Nat.le_of_ble_eq_true rfl) (by exact (mkJ)) (sp_Mo_isByte (bs := bs) hz hl h8 (by omega) (fun u30 v30 w30 => ?_) (fun n30 => ?_))
      · refine ⟨_, rfl, ?_⟩
        refine gk_if_ne dX11_fault_33 (tgt := 38) (pc' := 36) (by decide) rfl (fun _ => ?_) (fun c => absurd c (by decide))
        refine gk_aload0 dX11_fault_38 (pc' := 39) rfl ?_
        refine gk_getf (fs := [_, _, _, _, _, _, _, _, _, _, _, _, _, _, _, _, _, _, _, _, _, _, _, _, _, _]) gF_Mo_32 dX11_fault_39 (pc' := 42) rfl (by exact (mkJ)) rfl ?_
        refine gk_iconst (v := nI 1) dX11_fault_42 (pc' := 43) rfl (by decide) ?_
        refine gk_iald (t0 := 0) rfl dX11_fault_43 (pc' := 44) rfl (by exact (mkA8)) (vp_in_nI (by omega) (by decide)) ?_
        rw [nI_clamp (by omega)]
        rw [h8 1 (by omega), show bs 1 = nI (rdW bs) from pu_nI (by unfold rdW; omega) (by unfold rdW; omega)]
        refine gk_aload0 dX11_fault_44 (pc' := 45) rfl ?_
        refine gk_getf (fs := [_, _, _, _, _, _, _, _, _, _, _, _, _, _, _, _, _, _, _, _, _, _, _, _, _, _]) gF_Mo_32 dX11_fault_45 (pc' := 48) rfl (by exact (mkJ)) rfl ?_
        refine gk_iconst (v := nI 2) dX11_fault_48 (pc' := 49) rfl (by decide) ?_
        refine gk_iald (t0 := 0) rfl dX11_fault_49 (pc' := 50) rfl (by exact (mkA8)) (vp_in_nI (by omega) (by decide)) ?_
        rw [nI_clamp (by omega)]
        rw [h8 2 (by omega), show bs 2 = nI (rdT bs) from pu_nI (by unfold rdT; omega) (by unfold rdT; omega)]
        refine gk_imulN dX11_fault_50 (pc' := 51) rfl ?_
        refine gk_istore1 dX11_fault_51 (pc' := 52) rfl (by decide) rfl ?_
        refine gk_iconst (v := nI 3) dX11_fault_52 (pc' := 53) rfl (by decide) ?_
        refine gk_istore2 dX11_fault_53 (pc' := 54) rfl (by decide) rfl ?_
        refine gk_iconst (v := nI 0) dX11_fault_54 (pc' := 55) rfl (by decide) ?_
        refine gk_istore3 dX11_fault_55 (pc' := 56) rfl (by decide) rfl ?_
        have ha : rdW bs * rdT bs ≤ 256 := area_le (by unfold rdW; omega) (by unfold rdT; omega)
        have h0b : bs 0 = 0 ∨ bs 0 = 1 := k_in (by omega) (by omega) (fun e => by rw [e] at v4; exact absurd v4 (by decide))
        have er : rdS bs len = rdF bs len (rdW bs * rdT bs) (rdE bs) (rdW bs * rdT bs + 1) 3 0 (fun _ => 0) := by unfold rdS; rw [if_neg (by unfold hdN; rw [if_neg (by omega), if_neg (by omega), if_neg (by omega)]; omega)]
        have q := lp_Mo_fault (X := X) (h0 := h0) (m := m) (A := A) (Z := Z) (d := d) (b := b) (Q := Q) (r := rdS bs len) hz hl h8 hb h0b (by omega) rfl ha hQ (rdW bs * rdT bs + 1) 3 0 (A 14) (fun _ => 0) none none none none (by omega) (by omega) (by omega) (fun j hj => absurd hj (by omega)) er.symm
        rw [uA_i] at q
        exact q
      · refine ⟨_, rfl, ?_⟩
        refine gk_if_ne dX11_fault_33 (tgt := 38) (pc' := 36) (by decide) rfl (fun c => absurd c (by decide)) (fun _ => ?_)
        refine gk_iconst (v := 2) dX11_fault_36 (pc' := 37) rfl (by decide) ?_
        refine gk_iret dX11_fault_37 rfl (hd 2 (by unfold hdN; rw [if_neg (by omega), if_neg (by omega), if_pos (by omega)]) (by omega) (by omega))
    · refine ⟨_, rfl, ?_⟩
      refine gk_if_ne dX11_fault_20 (tgt := 25) (pc' := 23) (by decide) rfl (fun c => absurd c (by decide)) (fun _ => ?_)
      refine gk_iconst (v := 1) dX11_fault_23 (pc' := 24) rfl (by decide) ?_
      refine gk_iret dX11_fault_24 rfl (hd 1 (by unfold hdN; rw [if_neg (by omega), if_pos (by omega)]) (by omega) (by omega))
  · refine ⟨_, rfl, ?_⟩
    refine gk_if_ne dX11_fault_7 (tgt := 12) (pc' := 10) (by decide) rfl (fun c => absurd c (by decide)) (fun _ => ?_)
    refine gk_iconst (v := 0) dX11_fault_10 (pc' := 11) rfl (by decide) ?_
    refine gk_iret dX11_fault_11 rfl (hd 0 (by unfold hdN; rw [if_pos (by omega)]) (by omega) (by omega))
theorem rdEnd {z len e : Nat} {l1 : Option Value} (go : Q (some (.int (-1 - nI e))) (mkH X h0 m A Z)) (hz : z < 100000) (hl : len ≤ 800) (em : min z len = e) : G (kx X) mt_Mo_read (d + 10) b 25 [some (.ref m), l1, some (.int (nI z)), some (.int (nI len)), none, none] [] (mkH X h0 m A Z) Q := by
  refine gk_iload2 dX11_read_25 (pc' := 26) rfl ?_
  refine gk_if_lt dX11_read_26 (tgt := 42) (pc' := 29) (by decide) rfl (fun c26 => absurd c26 (nI_pos (by omega))) (fun c26 => ?_)
  refine gk_iconst (v := -1) dX11_read_29 (pc' := 30) rfl (by decide) ?_
  refine gk_iload2 dX11_read_30 (pc' := 31) rfl ?_
  refine gk_iload3 dX11_read_31 (pc' := 32) rfl ?_
  refine gk_icmp_ge dX11_read_32 (tgt := 39) (pc' := 35) (by decide) rfl (fun c32 => ?_) (fun c32 => ?_)
  · have q := (nI_leI (by omega) (by omega)).mp c32
    refine gk_iload3 dX11_read_39 (pc' := 40) rfl ?_
    refine gk_isub dX11_read_40 (pc' := 41) rfl ?_
    refine gk_iret dX11_read_41 rfl (by first | (rw [show e = z by omega] at go; exact go) | (rw [show e = len by omega] at go; exact go))
  · have q : ¬ len ≤ z := fun q => c32 (nI_le q (by omega))
    refine gk_iload2 dX11_read_35 (pc' := 36) rfl ?_
    refine gk_goto dX11_read_36 (tgt := 40) (by decide) ?_
    refine gk_isub dX11_read_40 (pc' := 41) rfl ?_
    refine gk_iret dX11_read_41 rfl (by first | (rw [show e = z by omega] at go; exact go) | (rw [show e = len by omega] at go; exact go))
theorem lp_Mo_read {j n : Nat} {l2 l3 : Option Value} {l4 : Int32} (hj : j < 8) (hn : n ≤ 256) (e4 : l4 = nI n) (hQ : Q (some (.int (nI n))) (mkH X h0 m (uA A 1 (fdF (A 1) (259 * j + 3) n (A 14))) Z)) : ∀ f i, i + f = n → G (kx X) mt_Mo_read (d + 10) b 79 [some (.ref m), some (.int (nI j)), l2, l3, some (.int l4), some (.int (nI i))] [] (mkH X h0 m (uA A 1 (fdF (A 1) (259 * j + 3) i (A 14))) Z) Q := by
  subst e4
  intro f
  induction f with
  | zero =>
    intro i hi
    have e : i = n := by omega
    subst e
    refine gk_iload5 dX11_read_79 (pc' := 81) rfl ?_
    refine gk_iload4 dX11_read_81 (pc' := 83) rfl ?_
    refine gk_icmp_ge dX11_read_83 (tgt := 114) (pc' := 86) (by decide) rfl (fun c83 => ?_) (fun c83 => absurd (nI_le (Nat.le_refl _) (by omega)) c83)
    refine gk_iload4 dX11_read_114 (pc' := 116) rfl ?_
    refine gk_iret dX11_read_116 rfl hQ
  | succ f ih =>
    intro i hi
    refine gk_iload5 dX11_read_79 (pc' := 81) rfl ?_
    refine gk_iload4 dX11_read_81 (pc' := 83) rfl ?_
    refine gk_icmp_ge dX11_read_83 (tgt := 114) (pc' := 86) (by decide) rfl (fun c83 => absurd c83 (nI_ge (by omega) (by omega))) (fun c83 => ?_)
    refine gk_aload0 dX11_read_86 (pc' := 87) rfl ?_
    refine gk_getf (fs := [_, _, _, _, _, _, _, _, _, _, _, _, _, _, _, _, _, _, _, _, _, _, _, _, _, _]) gF_Mo_7 dX11_read_87 (pc' := 90) rfl (by exact (mkJ)) rfl ?_
    refine gk_sipush (v := nI 259) dX11_read_90 (pc' := 93) rfl (by decide) ?_
    refine gk_iload1 dX11_read_93 (pc' := 94) rfl ?_
    refine gk_imulN dX11_read_94 (pc' := 95) rfl ?_
    refine gk_iconst (v := nI 3) dX11_read_95 (pc' := 96) rfl (by decide) ?_
    refine gk_iaddN dX11_read_96 (pc' := 97) rfl ?_
    refine gk_iload5 dX11_read_97 (pc' := 99) rfl ?_
    refine gk_iaddN dX11_read_99 (pc' := 100) rfl ?_
    refine gk_aload0 dX11_read_100 (pc' := 101) rfl ?_
    refine gk_getf (fs := [_, _, _, _, _, _, _, _, _, _, _, _, _, _, _, _, _, _, _, _, _, _, _, _, _, _]) gF_Mo_50 dX11_read_101 (pc' := 104) rfl (by exact (mkJ)) rfl ?_
    refine gk_iload5 dX11_read_104 (pc' := 106) rfl ?_
    refine gk_iald (t0 := 0) rfl dX11_read_106 (pc' := 107) rfl (by exact (mkA14)) (vp_in_nI (by omega) (by decide)) ?_
    rw [nI_clamp (by omega)]
    refine gk_iast (t0 := 0) rfl dX11_read_107 (pc' := 108) rfl (by exact (mkA1)) (vp_in_nI (by omega) (by decide)) ?_
    rw [nI_clamp (by omega), mkS1]
    refine gk_iinc5 (v := 1) dX11_read_108 (pc' := 111) rfl (by decide) (by decide) rfl ?_
    refine gk_goto dX11_read_111 (tgt := 79) (by decide) ?_
    rw [← nI_succ, uA_s, uA_n (show 14 ≠ 1 by decide), uA_u, fdF_s (V := A 14) rfl]
    exact ih (i + 1) (by omega)
theorem mo_read {p : Int32} (hM : Mod X h m S) (hw : wfS S) (hQ : ∀ h', Mod X h' m (oRead S p).2 → frO m h h' → Q (some (.int (oRead S p).1)) h') : Gm (kx X) mt_Mo_read (d + 10) b [.ref m, .int p] h Q := by
  obtain ⟨h0, A, Z, rfl, hS⟩ := hM
  have hE : ∀ a0 S' A' Z', oRead S p = (a0, S') → MoS A' Z' S' → Q (some (.int a0)) (mkH X h0 m A' Z') := fun a0 S' A' Z' e0 h1 => by
    have q := hQ (mkH X h0 m A' Z')
    rw [e0] at q
    exact q ⟨h0, A', Z', rfl, h1⟩ mk_fr
  have hB : ∀ a0, oRead S p = (a0, S) → Q (some (.int a0)) (mkH X h0 m A Z) := fun a0 e0 => hE a0 S A Z e0 hS
  obtain ⟨s1, s2, ⟨s3, s4, s5, s6⟩, s7, s8⟩ := id hS
  have l800 := hw.2.2.1
  have hbt := hw.2.2.2
  have z0 : (0 : Int32).toInt = 0 := rfl
  have fin : ∀ j1 (f' : Nat → Int32), j1 < 8 → p = nI j1 → (rdS S.2.2.1 S.2.2.2).1 = none → (∀ j, j < rdW S.2.2.1 * rdT S.2.2.1 → f' j = (rdS S.2.2.1 S.2.2.2).2 j) → ∀ l2 l3, G (kx X) mt_Mo_read (d + 10) b 42 [some (.ref m), some (.int p), some (.int l2), some (.int l3), none, none] [] (mkH X h0 m (uA A 14 f') (upd Z 3 0)) Q := by
    intro j1 f' hj1 ep hr hf' l2 l3
    subst ep
    have zj1 : (nI j1).toInt = j1 := nI_toInt (by omega)
    have okR := rdS_ok hbt hr
    have ar := okR.ar
    have hh : 3 ≤ S.2.2.2 ∧ (1 ≤ (S.2.2.1 1).toInt ∧ (S.2.2.1 1).toInt ≤ 16) ∧ (1 ≤ (S.2.2.1 2).toInt ∧ (S.2.2.1 2).toInt ≤ 16) := by
      unfold rdS at hr
      split at hr
      · cases hr
      · rename_i q
        unfold hdN at q
        split at q
        · omega
        · split at q
          · omega
          · split at q <;> omega
    have mS1 : MoS (uA A 14 f') (upd Z 3 0) (S.1, S.2.1, (S.2.2.1, 0)) := ⟨s1, s2, ⟨s3, s4, s5, rfl⟩, s7, fun i hi => absurd hi (Nat.not_lt_zero _)⟩
    refine gk_aload0 dX11_read_42 (pc' := 43) rfl ?_
    refine gk_cV0_0 mv_Mo_begin gw_892 dX11_read_43 (pc' := 46) rfl (Nat.le_of_ble_eq_true rfl) (by exact (mkJ)) (sp_Mo_begin mS1 hw.1 (fun A1 Z1 a1 a2 hBg => ?_))
    refine ⟨rfl, ?_⟩
    have e8 : ∀ i, i < S.2.2.2 → A1 8 i = S.2.2.1 i := fun i hi => by rw [a1 8 (by decide), uA_n (by decide)]; exact s8 i hi
    refine gk_aload0 dX11_read_46 (pc' := 47) rfl ?_
    refine gk_iload1 dX11_read_47 (pc' := 48) rfl ?_
    refine gk_aload0 dX11_read_48 (pc' := 49) rfl ?_
    refine gk_getf (fs := [_, _, _, _, _, _, _, _, _, _, _, _, _, _, _, _, _, _, _, _, _, _, _, _, _, _]) gF_Mo_32 dX11_read_49 (pc' := 52) rfl (by exact (mkJ)) rfl ?_
    refine gk_iconst (v := nI 0) dX11_read_52 (pc' := 53) rfl (by decide) ?_
    refine gk_iald (t0 := 0) rfl dX11_read_53 (pc' := 54) rfl (by exact (mkA8)) (vp_in_nI (by omega) (by decide)) ?_
    rw [nI_clamp (by omega)]
    rw [e8 0 (by omega)]
    refine gk_aload0 dX11_read_54 (pc' := 55) rfl ?_
    refine gk_getf (fs := [_, _, _, _, _, _, _, _, _, _, _, _, _, _, _, _, _, _, _, _, _, _, _, _, _, _]) gF_Mo_32 dX11_read_55 (pc' := 58) rfl (by exact (mkJ)) rfl ?_
    refine gk_iconst (v := nI 1) dX11_read_58 (pc' := 59) rfl (by decide) ?_
    refine gk_iald (t0 := 0) rfl dX11_read_59 (pc' := 60) rfl (by exact (mkA8)) (vp_in_nI (by omega) (by decide)) ?_
    rw [nI_clamp (by omega)]
    rw [e8 1 (by omega), show S.2.2.1 1 = nI (rdW S.2.2.1) from pu_nI (by unfold rdW; omega) (by unfold rdW; omega)]
    refine gk_aload0 dX11_read_60 (pc' := 61) rfl ?_
    refine gk_getf (fs := [_, _, _, _, _, _, _, _, _, _, _, _, _, _, _, _, _, _, _, _, _, _, _, _, _, _]) gF_Mo_32 dX11_read_61 (pc' := 64) rfl (by exact (mkJ)) rfl ?_
    refine gk_iconst (v := nI 2) dX11_read_64 (pc' := 65) rfl (by decide) ?_
    refine gk_iald (t0 := 0) rfl dX11_read_65 (pc' := 66) rfl (by exact (mkA8)) (vp_in_nI (by omega) (by decide)) ?_
    rw [nI_clamp (by omega)]
    rw [e8 2 (by omega), show S.2.2.1 2 = nI (rdT S.2.2.1) from pu_nI (by unfold rdT; omega) (by unfold rdT; omega)]
    refine gk_cV0_4 mv_Mo_become gw_897 dX11_read_66 (pc' := 69) rfl (Nat.le_of_ble_eq_true rfl) (by exact (mkJ)) (sp_Mo_become hj1 ?_)
    refine ⟨rfl, ?_⟩
    refine gk_aload0 dX11_read_69 (pc' := 70) rfl ?_
    refine gk_iload1 dX11_read_70 (pc' := 71) rfl ?_
    refine gk_cV1_1 mv_Mo_pixels gw_940 dX11_read_71 (pc' := 74) rfl (Nat.le_of_ble_eq_true rfl) (by exact (mkJ)) (sp_Mo_pixels (c := (S.2.2.1 0, rdW S.2.2.1, rdT S.2.2.1, fun _ => 0)) (by rw [uA_s]; exact bcF_row ar) hj1 ?_)
    refine ⟨_, rfl, ?_⟩
    refine gk_istore4 dX11_read_74 (pc' := 76) rfl (by decide) rfl ?_
    refine gk_iconst (v := 0) dX11_read_76 (pc' := 77) rfl (by decide) ?_
    refine gk_istore5 dX11_read_77 (pc' := 79) rfl (by decide) rfl ?_
    have q := lp_Mo_read (X := X) (h0 := h0) (m := m) (A := uA A1 1 (bcF (A1 1) j1 (S.2.2.1 0) (nI (rdW S.2.2.1)) (nI (rdT S.2.2.1)))) (Z := Z1) (d := d) (b := b) (Q := Q) (j := j1) (n := rdW S.2.2.1 * rdT S.2.2.1) (l2 := some (.int l2)) (l3 := some (.int l3)) hj1 ar rfl (by
      rw [uA_u, uA_s, show (uA A1 1 (bcF (A1 1) j1 (S.2.2.1 0) (nI (rdW S.2.2.1)) (nI (rdT S.2.2.1)))) 14 = f' by rw [uA_n (by decide), a1 14 (by decide), uA_s]]
      exact hE _ (pshP S.1 j1 (S.2.2.1 0, rdW S.2.2.1, rdT S.2.2.1, (rdS S.2.2.1 S.2.2.2).2), S.2.1, (S.2.2.1, 0)) _ _ (by unfold oRead; rw [if_pos (by omega), hr, nI_nat (j := j1) (by omega)]) (hBg.actP hw.1 (by rw [a1 1 (by decide), uA_n (by decide)]; exact s1) (fun i h1 h2 => uA_n (by omega)) (fun i hi => rfl) hj1 (by rw [uA_s]; exact (fd_row (c := (S.2.2.1 0, rdW S.2.2.1, rdT S.2.2.1, fun _ => 0)) (bcF_row ar)).congr hf') (fun q hq => by rw [uA_s, fd_out ar q hq, bcF_out q hq]))) (rdW S.2.2.1 * rdT S.2.2.1) 0 (by omega)
    rw [fdF_0, uA_i] at q
    exact q
  refine Gm.enter (L := [some (.ref m), some (.int p), none, none, none, none]) (by decide) (fun _ => trivial) (Nat.le_of_ble_eq_true rfl) rfl ?_
  refine gk_iload1 dX11_read_0 (pc' := 1) rfl ?_
  refine gk_cS1_1 mz_Mo_isPicture gw_882 dX11_read_1 (pc' := 4) rfl (Nat.le_of_ble_eq_true rfl) (sp_Mo_isPicture (fun j1 hj1 ej1 => ?_) (fun n1 => ?_))
  · refine ⟨_, rfl, ?_⟩
    subst ej1
    have zj1 : (nI j1).toInt = j1 := nI_toInt (by omega)
    have yj1 : (nI j1).toInt.toNat = j1 := by omega
    have pr1 := hS.picS hj1
    have ok1 := hw.okp hj1
    have wt1 := ok1.wt
    have ar1 := ok1.ar
    refine gk_if_ne dX11_read_4 (tgt := 10) (pc' := 7) (by decide) rfl (fun _ => ?_) (fun c => absurd c (by decide))
    refine gk_aload0 dX11_read_10 (pc' := 11) rfl ?_
    refine gk_cV1_0 mv_Mo_fault gw_1143 dX11_read_11 (pc' := 14) rfl (Nat.le_of_ble_eq_true rfl) (by exact (mkJ)) (sp_Mo_fault (bs := S.2.2.1) s6 l800 s8 hbt (fun f' rr r1 r2 => ?_))
    refine ⟨_, rfl, ?_⟩
    refine gk_istore2 dX11_read_14 (pc' := 15) rfl (by decide) rfl ?_
    refine gk_aload0 dX11_read_15 (pc' := 16) rfl ?_
    refine gk_getf (fs := [_, _, _, _, _, _, _, _, _, _, _, _, _, _, _, _, _, _, _, _, _, _, _, _, _, _]) gF_Mo_266 dX11_read_16 (pc' := 19) rfl (by exact (mkJ)) rfl ?_
    rw [s6]
    refine gk_istore3 dX11_read_19 (pc' := 20) rfl (by decide) rfl ?_
    refine gk_aload0 dX11_read_20 (pc' := 21) rfl ?_
    refine gk_iconst (v := 0) dX11_read_21 (pc' := 22) rfl (by decide) ?_
    refine gk_putf (fs := [_, _, _, _, _, _, _, _, _, _, _, _, _, _, _, _, _, _, _, _, _, _, _, _, _, _]) gP_Mo_266 dX11_read_22 (pc' := 25) rfl (by exact (mkJ)) rfl rfl (Nat.le_of_ble_eq_true rfl) ?_
    rw [mkP3]
    cases hr : (rdS S.2.2.1 S.2.2.2).1 with
    | none =>
      have e := (r1 hr).1
      subst e
      refine gk_iload2 dX11_read_25 (pc' := 26) rfl ?_
      refine gk_if_lt dX11_read_26 (tgt := 42) (pc' := 29) (by decide) rfl (fun _ => ?_) (fun c => absurd (by decide) c)
      exact fin j1 f' hj1 rfl hr (r1 hr).2 _ _
    | some e =>
      obtain ⟨z, ez, em, hz⟩ := r2 e hr
      subst ez
      have mS1 : MoS (uA A 14 f') (upd Z 3 0) (S.1, S.2.1, (S.2.2.1, 0)) := ⟨s1, s2, ⟨s3, s4, s5, rfl⟩, s7, fun i hi => absurd hi (Nat.not_lt_zero _)⟩
      have go : Q (some (.int (-1 - nI e))) (mkH X h0 m (uA A 14 f') (upd Z 3 0)) := hE _ (S.1, S.2.1, (S.2.2.1, 0)) _ _ (by unfold oRead; rw [if_pos (by omega), hr]) mS1
      exact rdEnd go hz l800 em
  · refine ⟨_, rfl, ?_⟩
    refine gk_if_ne dX11_read_4 (tgt := 10) (pc' := 7) (by decide) rfl (fun c => absurd c (by decide)) (fun _ => ?_)
    refine gk_ldc dX11_read_7 (pc' := 9) rfl gw_891 ?_
    refine gk_iret dX11_read_9 rfl (hB _ (if_neg (by omega)))
end MoM
