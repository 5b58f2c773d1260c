/-! ===== the reference: what a single filter makes ===== -/
theorem kpt_in {k v : Int32} (h : inK k v) : kpt k v.toInt = v := by
  unfold inK at h
  refine (kpt_of (r := v) (k := k) (z := v.toInt) ?_).symm
  omega
theorem nin_congr {w t : Nat} {p q : Nat → Int32} {x y : Int} {e : Int32} (h1 : 1 ≤ w) (h2 : 1 ≤ t) (he : ∀ i, i < w * t → p i = q i) : nin w t p x y e = nin w t q x y e := funext fun i => sn_congr h1 h2 he
theorem wsm_congr {g wt wt' : Nat → Int32} : ∀ n, (∀ i, i < n → wt i = wt' i) → wsm g wt n = wsm g wt' n
  | 0, _ => rfl
  | n + 1, h => by
    unfold wsm
    rw [wsm_congr n (fun i hi => h i (by omega)), h n (by omega)]
theorem wsm_g {g g' wt : Nat → Int32} : ∀ n, (∀ i, i < n → g i = g' i) → wsm g wt n = wsm g' wt n
  | 0, _ => rfl
  | n + 1, h => by
    unfold wsm
    rw [wsm_g n (fun i hi => h i (by omega)), h n (by omega)]
theorem wsmR {g wt : Nat → Int32} : ∀ n, (∀ i, i < n → -40000 ≤ (g i).toInt ∧ (g i).toInt ≤ 40000) → (∀ i, i < n → -1000 ≤ (wt i).toInt ∧ (wt i).toInt ≤ 1000) → -(40000000 * n : Int) ≤ wsm g wt n ∧ wsm g wt n ≤ 40000000 * n
  | 0, _, _ => by show -(40000000 * (0 : Nat) : Int) ≤ 0 ∧ (0 : Int) ≤ 40000000 * (0 : Nat); omega
  | n + 1, h1, h2 => by
    have ih := wsmR n (fun i hi => h1 i (by omega)) (fun i hi => h2 i (by omega))
    have := mulB4 (h1 n (by omega)) (h2 n (by omega))
    unfold wsm
    omega
theorem srt_congr {f g : Nat → Int32} : ∀ mm, mm < 9 → (∀ j, j < 9 → f j = g j) → ∀ j, j < 9 → srt f mm j = srt g mm j
  | 0, _, h => h
  | mm + 1, hm, h => fun j hj => by
    have ih := srt_congr mm (by omega) h
    show ins (srt f mm (mm + 1)) (mm + 1) (srt f mm) j = ins (srt g mm (mm + 1)) (mm + 1) (srt g mm) j
    rw [ih (mm + 1) hm]
    exact ins_congr (mm + 1) _ _ 9 hm ih j hj
section MoT
variable {X : gX} {d : Nat} {b : Nat × Nat} {h h0 : gk_H} {m : Nat} {A : MoA} {Z : MoZ} {Q : Option Value → gk_H → Prop} {S : St}
theorem lp_Mo_insert {i : Nat} {k1 v : Int32} (hi9 : i < 9) : ∀ at' g, at' ≤ i → (∀ l4 : Option Value, G (kx X) mt_Mo_ranked d b 66 [some (.ref m), some (.int k1), some (.int (nI i)), some (.int v), l4] [] (mkH X h0 m (uA A 15 (ins v at' g)) Z) Q) → G (kx X) mt_Mo_ranked d b 18 [some (.ref m), some (.int k1), some (.int (nI i)), some (.int v), some (.int (nI at'))] [] (mkH X h0 m (uA A 15 g) Z) Q := by
  intro at'
  induction at' with
  | zero =>
    intro g hle hQ
    refine gk_iload4 dX11_ranked_18 (pc' := 20) rfl ?_
    refine gk_if_le dX11_ranked_20 (tgt := 58) (pc' := 23) (by decide) rfl (fun c20 => ?_) (fun c20 => absurd (by decide) c20)
    refine gk_aload0 dX11_ranked_58 (pc' := 59) rfl ?_
    refine gk_getf (fs := [_, _, _, _, _, _, _, _, _, _, _, _, _, _, _, _, _, _, _, _, _, _, _, _, _, _]) gF_Mo_53 dX11_ranked_59 (pc' := 62) rfl (by exact (mkJ)) rfl ?_
    refine gk_iload4 dX11_ranked_62 (pc' := 64) rfl ?_
    refine gk_iload3 dX11_ranked_64 (pc' := 65) rfl ?_
    refine gk_iast (t0 := 0) rfl dX11_ranked_65 (pc' := 66) rfl (by exact (mkA15)) (vp_in_nI (by omega) (by decide)) ?_
    rw [nI_clamp (by omega), mkS15]
    rw [uA_s, uA_u]
    exact hQ _
  | succ at' ih =>
    intro g hle hQ
    refine gk_iload4 dX11_ranked_18 (pc' := 20) rfl ?_
    refine gk_if_le dX11_ranked_20 (tgt := 58) (pc' := 23) (by decide) rfl (fun c20 => absurd c20 (nI_nle (by omega) (by omega))) (fun c20 => ?_)
    refine gk_aload0 dX11_ranked_23 (pc' := 24) rfl ?_
    refine gk_getf (fs := [_, _, _, _, _, _, _, _, _, _, _, _, _, _, _, _, _, _, _, _, _, _, _, _, _, _]) gF_Mo_53 dX11_ranked_24 (pc' := 27) rfl (by exact (mkJ)) rfl ?_
    refine gk_iload4 dX11_ranked_27 (pc' := 29) rfl ?_
    refine gk_iconst (v := nI 1) dX11_ranked_29 (pc' := 30) rfl (by decide) ?_
    refine gk_isubN dX11_ranked_30 (pc' := 31) rfl (by omega) ?_
    rw [Nat.add_sub_cancel]
    refine gk_iald (t0 := 0) rfl dX11_ranked_31 (pc' := 32) rfl (by exact (mkA15)) (vp_in_nI (by omega) (by decide)) ?_
    rw [nI_clamp (by omega)]
    rw [uA_s]
    refine gk_iload3 dX11_ranked_32 (pc' := 33) rfl ?_
    refine gk_icmp_le dX11_ranked_33 (tgt := 58) (pc' := 36) (by decide) rfl (fun c33 => ?_) (fun c33 => ?_)
    · rw [ins, if_neg (Int32.not_lt.mpr c33)] at hQ
      refine gk_aload0 dX11_ranked_58 (pc' := 59) rfl ?_
      refine gk_getf (fs := [_, _, _, _, _, _, _, _, _, _, _, _, _, _, _, _, _, _, _, _, _, _, _, _, _, _]) gF_Mo_53 dX11_ranked_59 (pc' := 62) rfl (by exact (mkJ)) rfl ?_
      refine gk_iload4 dX11_ranked_62 (pc' := 64) rfl ?_
      refine gk_iload3 dX11_ranked_64 (pc' := 65) rfl ?_
      refine gk_iast (t0 := 0) rfl dX11_ranked_65 (pc' := 66) rfl (by exact (mkA15)) (vp_in_nI (by omega) (by decide)) ?_
      rw [nI_clamp (by omega), mkS15]
      rw [uA_s, uA_u]
      exact hQ _
    · refine gk_aload0 dX11_ranked_36 (pc' := 37) rfl ?_
      refine gk_getf (fs := [_, _, _, _, _, _, _, _, _, _, _, _, _, _, _, _, _, _, _, _, _, _, _, _, _, _]) gF_Mo_53 dX11_ranked_37 (pc' := 40) rfl (by exact (mkJ)) rfl ?_
      refine gk_iload4 dX11_ranked_40 (pc' := 42) rfl ?_
      refine gk_aload0 dX11_ranked_42 (pc' := 43) rfl ?_
      refine gk_getf (fs := [_, _, _, _, _, _, _, _, _, _, _, _, _, _, _, _, _, _, _, _, _, _, _, _, _, _]) gF_Mo_53 dX11_ranked_43 (pc' := 46) rfl (by exact (mkJ)) rfl ?_
      refine gk_iload4 dX11_ranked_46 (pc' := 48) rfl ?_
      refine gk_iconst (v := nI 1) dX11_ranked_48 (pc' := 49) rfl (by decide) ?_
      refine gk_isubN dX11_ranked_49 (pc' := 50) rfl (by omega) ?_
      rw [Nat.add_sub_cancel]
      refine gk_iald (t0 := 0) rfl dX11_ranked_50 (pc' := 51) rfl (by exact (mkA15)) (vp_in_nI (by omega) (by decide)) ?_
      rw [nI_clamp (by omega)]
      rw [uA_s]
      refine gk_iast (t0 := 0) rfl dX11_ranked_51 (pc' := 52) rfl (by exact (mkA15)) (vp_in_nI (by omega) (by decide)) ?_
      rw [nI_clamp (by omega), mkS15]
      rw [uA_s, uA_u]
      refine gk_iinc4 (v := -1) dX11_ranked_52 (pc' := 55) rfl (by decide) (by decide) rfl ?_
      refine gk_goto dX11_ranked_55 (tgt := 18) (by decide) ?_
      rw [nI_predm (by omega)]
      rw [ins, if_pos (Int32.not_le.mp c33)] at hQ
      exact ih _ (by omega) hQ
theorem lp_Mo_ranked {kn : Nat} {g0 : Nat → Int32} (hk : kn < 9) (hQ : ∀ g', Q (some (.int (srt g0 8 kn))) (mkH X h0 m (uA A 15 g') Z)) : ∀ f mm (l3 l4 : Option Value), mm + f = 8 → G (kx X) mt_Mo_ranked d b 2 [some (.ref m), some (.int (nI kn)), some (.int (nI (mm + 1))), l3, l4] [] (mkH X h0 m (uA A 15 (srt g0 mm)) Z) Q := by
  intro f
  induction f with
  | zero =>
    intro mm l3 l4 hm
    have e : mm = 8 := by omega
    subst e
    refine gk_iload2 dX11_ranked_2 (pc' := 3) rfl ?_
    refine gk_bipush (v := 9) dX11_ranked_3 (pc' := 5) rfl (by decide) ?_
    refine gk_icmp_ge dX11_ranked_5 (tgt := 72) (pc' := 8) (by decide) rfl (fun c5 => ?_) (fun c5 => absurd (by decide) c5)
    refine gk_aload0 dX11_ranked_72 (pc' := 73) rfl ?_
    refine gk_getf (fs := [_, _, _, _, _, _, _, _, _, _, _, _, _, _, _, _, _, _, _, _, _, _, _, _, _, _]) gF_Mo_53 dX11_ranked_73 (pc' := 76) rfl (by exact (mkJ)) rfl ?_
    refine gk_iload1 dX11_ranked_76 (pc' := 77) rfl ?_
    refine gk_iald (t0 := 0) rfl dX11_ranked_77 (pc' := 78) rfl (by exact (mkA15)) (vp_in_nI (by omega) (by decide)) ?_
    rw [nI_clamp (by omega)]
    rw [uA_s]
    refine gk_iret dX11_ranked_78 rfl (hQ _)
  | succ f ih =>
    intro mm l3 l4 hm
    refine gk_iload2 dX11_ranked_2 (pc' := 3) rfl ?_
    refine gk_bipush (v := 9) dX11_ranked_3 (pc' := 5) rfl (by decide) ?_
    refine gk_icmp_ge dX11_ranked_5 (tgt := 72) (pc' := 8) (by decide) rfl (fun c5 => absurd c5 (nI_ge (b := 9) (by omega) (by decide))) (fun c5 => ?_)
    refine gk_aload0 dX11_ranked_8 (pc' := 9) rfl ?_
    refine gk_getf (fs := [_, _, _, _, _, _, _, _, _, _, _, _, _, _, _, _, _, _, _, _, _, _, _, _, _, _]) gF_Mo_53 dX11_ranked_9 (pc' := 12) rfl (by exact (mkJ)) rfl ?_
    refine gk_iload2 dX11_ranked_12 (pc' := 13) rfl ?_
    refine gk_iald (t0 := 0) rfl dX11_ranked_13 (pc' := 14) rfl (by exact (mkA15)) (vp_in_nI (by omega) (by decide)) ?_
    rw [nI_clamp (by omega)]
    rw [uA_s]
    refine gk_istore3 dX11_ranked_14 (pc' := 15) rfl (by decide) rfl ?_
    refine gk_iload2 dX11_ranked_15 (pc' := 16) rfl ?_
    refine gk_istore4 dX11_ranked_16 (pc' := 18) rfl (by decide) rfl ?_
    refine lp_Mo_insert (by omega) (mm + 1) _ (Nat.le_refl _) (fun l4 => ?_)
    refine gk_iinc2 (v := 1) dX11_ranked_66 (pc' := 69) rfl (by decide) (by decide) rfl ?_
    refine gk_goto dX11_ranked_69 (tgt := 2) (by decide) ?_
    rw [← nI_succ]
    exact ih (mm + 1) _ _ (by omega)
theorem sp_Mo_ranked {kn : Nat} (hk : kn < 9) (hQ : ∀ g', Q (some (.int (srt (A 15) 8 kn))) (mkH X h0 m (uA A 15 g') Z)) : Gm (kx X) mt_Mo_ranked d b [.ref m, .int (nI kn)] (mkH X h0 m A Z) Q := by
  have q := lp_Mo_ranked (d := d) (b := b) (A := A) hk hQ 8 0 none none (by omega)
  rw [show srt (A 15) 0 = A 15 from rfl, uA_i] at q
  refine Gm.enter (L := [some (.ref m), some (.int (nI kn)), none, none, none]) (by decide) (fun _ => trivial) (Nat.le_of_ble_eq_true rfl) rfl ?_
  refine gk_iconst (v := 1) dX11_ranked_0 (pc' := 1) rfl (by decide) ?_
  refine gk_istore2 dX11_ranked_1 (pc' := 2) rfl (by decide) rfl ?_
  exact q
/-- what single() answers: of the seen p -/
def sgl (fk fa fb : Int32) (wt : Nat → Int32) (k : Int32) (w t : Nat) (p : Nat → Int32) (e : Int32) (i : Nat) : Int32 := if fk = 4 ∨ fk = 5 then arF fk fa wt k w t p e i else mdF fk fa fb k (p i)
theorem lp_Mo_single {w t f x y : Nat} {e of : Int32} {l6 l7 : Option Value} (hZ : Z 4 = nI w ∧ Z 5 = nI t) (hw : 1 ≤ w ∧ w ≤ 16) (ht : 1 ≤ t ∧ t ≤ 16) (hf : f < 24) (hx : x < w) (hy : y < t) (he : 0 ≤ e.toInt ∧ e.toInt ≤ 3) (L6 L7 : Int32) (e6 : l6 = some (.int L6)) (e7 : l7 = some (.int L7)) (hr : ∀ i, i < w * t → -32768 ≤ (A 9 i).toInt ∧ (A 9 i).toInt ≤ 32767) (hwt : A 3 f = 4 → ∀ i, i < 9 → -1000 ≤ (A 7 (9 * f + i)).toInt ∧ (A 7 (9 * f + i)).toInt ≤ 1000) (hQ : ∀ (g : Nat → Int32) (sm : Int64) (l10 : Option Value), (∀ i, i < 9 → g i = nin w t (A 9) x y e i) → (A 3 f = 4 → sm.toInt = wsm (nin w t (A 9) x y e) (fun i => A 7 (9 * f + i)) 9) → G (kx X) mt_Mo_single (d + 2) b 216 [some (.ref m), some (.int (nI f)), some (.int of), some (.int (nI x)), some (.int (nI y)), some (.int e), l6, l7, some (.long sm), none, l10] [] (mkH X h0 m (uA A 15 g) Z) Q) :
    ∀ n i (g : Nat → Int32) (sm : Int64), i + n = 9 → (∀ q, q < i → g q = nin w t (A 9) x y e q) → (A 3 f = 4 → sm.toInt = wsm (nin w t (A 9) x y e) (fun i => A 7 (9 * f + i)) i) → G (kx X) mt_Mo_single (d + 2) b 146 [some (.ref m), some (.int (nI f)), some (.int of), some (.int (nI x)), some (.int (nI y)), some (.int e), l6, l7, some (.long sm), none, some (.int (nI i))] [] (mkH X h0 m (uA A 15 g) Z) Q := by
  subst e6 e7
  have z1 : (1 : Int32).toInt = 1 := rfl
  intro n
  induction n with
  | zero =>
    intro i g sm hi hg hs
    have e : i = 9 := by omega
    subst e
    refine gk_iload10 dX11_single_146 (pc' := 148) rfl ?_
    refine gk_bipush (v := 9) dX11_single_148 (pc' := 150) rfl (by decide) ?_
    refine gk_icmp_ge dX11_single_150 (tgt := 216) (pc' := 153) (by decide) rfl (fun c150 => ?_) (fun c150 => absurd (by decide) c150)
    exact hQ g sm _ hg hs
  | succ n ih =>
    intro i g sm hi hg hs
    have ex : (nI (x + i % 3) - 1).toInt = (x : Int) + (i % 3 : Nat) - 1 := by rw [Jvm.Kit.i32_sub (by rw [nI_toInt (by omega)]; omega) (by rw [nI_toInt (by omega)]; omega), nI_toInt (by omega), z1]; omega
    have ey : (nI (y + i / 3) - 1).toInt = (y : Int) + (i / 3 : Nat) - 1 := by rw [Jvm.Kit.i32_sub (by rw [nI_toInt (by omega)]; omega) (by rw [nI_toInt (by omega)]; omega), nI_toInt (by omega), z1]; omega
    have en : sn w t (A 9) ((x : Int) + (i % 3 : Nat) - 1) ((y : Int) + (i / 3 : Nat) - 1) e = nin w t (A 9) x y e i := rfl
    have rn := sn_rng (x := (x : Int) + (i % 3 : Nat) - 1) (y := (y : Int) + (i / 3 : Nat) - 1) (e := e) hw.1 ht.1 hr
    rw [en] at rn
    have rall : ∀ q, q < i → -40000 ≤ (nin w t (A 9) x y e q).toInt ∧ (nin w t (A 9) x y e q).toInt ≤ 40000 := fun q _ => by
      have := sn_rng (x := (x : Int) + (q % 3 : Nat) - 1) (y := (y : Int) + (q / 3 : Nat) - 1) (e := e) hw.1 ht.1 hr
      show -40000 ≤ (sn _ _ _ _ _ _).toInt ∧ (sn _ _ _ _ _ _).toInt ≤ 40000
      omega
    have hs' : A 3 f = 4 → (sm + (nin w t (A 9) x y e i).toInt64 * (A 7 (9 * f + i)).toInt64).toInt = wsm (nin w t (A 9) x y e) (fun i => A 7 (9 * f + i)) (i + 1) := fun h4 => by
      have w1 := hwt h4 i (by omega)
      have mb := mulB4 (x := (nin w t (A 9) x y e i).toInt) (y := (A 7 (9 * f + i)).toInt) (by omega) w1
      have wr := wsmR i rall (fun q hq => hwt h4 q (by omega))
      have mm : ((nin w t (A 9) x y e i).toInt64 * (A 7 (9 * f + i)).toInt64).toInt = (nin w t (A 9) x y e i).toInt * (A 7 (9 * f + i)).toInt := by rw [Jvm.Kit.i64_mul (by rw [i2l_i, i2l_i]; omega) (by rw [i2l_i, i2l_i]; omega), i2l_i, i2l_i]
      rw [Jvm.Kit.i64_add (by rw [mm, hs h4]; omega) (by rw [mm, hs h4]; omega), mm, hs h4, wsm]
    refine gk_iload10 dX11_single_146 (pc' := 148) rfl ?_
    refine gk_bipush (v := 9) dX11_single_148 (pc' := 150) rfl (by decide) ?_
    refine gk_icmp_ge dX11_single_150 (tgt := 216) (pc' := 153) (by decide) rfl (fun c150 => absurd c150 (nI_ge (b := 9) (by omega) (by omega))) (fun c150 => ?_)
    refine gk_aload0 dX11_single_153 (pc' := 154) rfl ?_
    refine gk_getf (fs := [_, _, _, _, _, _, _, _, _, _, _, _, _, _, _, _, _, _, _, _, _, _, _, _, _, _]) gF_Mo_53 dX11_single_154 (pc' := 157) rfl (by exact (mkJ)) rfl ?_
    refine gk_iload10 dX11_single_157 (pc' := 159) rfl ?_
    refine gk_aload0 dX11_single_159 (pc' := 160) rfl ?_
    refine gk_iload3 dX11_single_160 (pc' := 161) rfl ?_
    refine gk_iload10 dX11_single_161 (pc' := 163) rfl ?_
    refine gk_iconst (v := nI 3) dX11_single_163 (pc' := 164) rfl (by decide) ?_
    refine gk_iremN dX11_single_164 (pc' := 165) rfl (by omega) (by omega) (by omega) ?_
    refine gk_iaddN dX11_single_165 (pc' := 166) rfl ?_
    refine gk_iconst (v := 1) dX11_single_166 (pc' := 167) rfl (by decide) ?_
    refine gk_isub dX11_single_167 (pc' := 168) rfl ?_
    refine gk_iload4 dX11_single_168 (pc' := 170) rfl ?_
    refine gk_iload10 dX11_single_170 (pc' := 172) rfl ?_
    refine gk_iconst (v := nI 3) dX11_single_172 (pc' := 173) rfl (by decide) ?_
    refine gk_idivN dX11_single_173 (pc' := 174) rfl (by omega) (by omega) (by omega) ?_
    refine gk_iaddN dX11_single_174 (pc' := 175) rfl ?_
    refine gk_iconst (v := 1) dX11_single_175 (pc' := 176) rfl (by decide) ?_
    refine gk_isub dX11_single_176 (pc' := 177) rfl ?_
    refine gk_iload5 dX11_single_177 (pc' := 179) rfl ?_
    refine gk_cV1_3 mv_Mo_seenAt gw_956 dX11_single_179 (pc' := 182) rfl (Nat.le_of_ble_eq_true rfl) (by exact (mkJ)) (sp_Mo_seenAt (w := w) (t := t) hZ hw.1 ht.1 hw.2 ht.2 (by omega) (by omega) he ?_)
    refine ⟨_, rfl, ?_⟩
    rw [ex, ey, show uA A 15 g 9 = A 9 from uA_n (by decide), en]
    refine gk_iast (t0 := 0) rfl dX11_single_182 (pc' := 183) rfl (by exact (mkA15)) (vp_in_nI (by omega) (by decide)) ?_
    rw [nI_clamp (by omega), mkS15]
    rw [uA_s, uA_u]
    refine gk_lload8 dX11_single_183 (pc' := 185) rfl ?_
    refine gk_aload0 dX11_single_185 (pc' := 186) rfl ?_
    refine gk_getf (fs := [_, _, _, _, _, _, _, _, _, _, _, _, _, _, _, _, _, _, _, _, _, _, _, _, _, _]) gF_Mo_53 dX11_single_186 (pc' := 189) rfl (by exact (mkJ)) rfl ?_
    refine gk_iload10 dX11_single_189 (pc' := 191) rfl ?_
    refine gk_iald (t0 := 0) rfl dX11_single_191 (pc' := 192) rfl (by exact (mkA15)) (vp_in_nI (by omega) (by decide)) ?_
    rw [nI_clamp (by omega)]
    rw [uA_s, pk_us]
    refine gk_i2l dX11_single_192 (pc' := 193) rfl ?_
    refine gk_aload0 dX11_single_193 (pc' := 194) rfl ?_
    refine gk_getf (fs := [_, _, _, _, _, _, _, _, _, _, _, _, _, _, _, _, _, _, _, _, _, _, _, _, _, _]) gF_Mo_29 dX11_single_194 (pc' := 197) rfl (by exact (mkJ)) rfl ?_
    refine gk_bipush (v := nI 9) dX11_single_197 (pc' := 199) rfl (by decide) ?_
    refine gk_iload1 dX11_single_199 (pc' := 200) rfl ?_
    refine gk_imulN dX11_single_200 (pc' := 201) rfl ?_
    refine gk_iload10 dX11_single_201 (pc' := 203) rfl ?_
    refine gk_iaddN dX11_single_203 (pc' := 204) rfl ?_
    refine gk_iald (t0 := 0) rfl dX11_single_204 (pc' := 205) rfl (by exact (mkA7)) (vp_in_nI (by omega) (by decide)) ?_
    rw [nI_clamp (by omega)]
    rw [uA_n (show 7 ≠ 15 by decide)]
    refine gk_i2l dX11_single_205 (pc' := 206) rfl ?_
    refine gk_lmul dX11_single_206 (pc' := 207) rfl ?_
    refine gk_ladd dX11_single_207 (pc' := 208) rfl ?_
    refine gk_lstore8 dX11_single_208 (pc' := 210) rfl (by decide) rfl ?_
    refine gk_iinc10 (v := 1) dX11_single_210 (pc' := 213) rfl (by decide) (by decide) rfl ?_
    refine gk_goto dX11_single_213 (tgt := 146) (by decide) ?_
    rw [← nI_succ]
    exact ih (i + 1) _ _ (by omega) (upd_lt hg rfl) hs'
theorem sp_Mo_single {w t f x y : Nat} {fk fa fb e of : Int32} (hZ : Z 4 = nI w ∧ Z 5 = nI t) (hw : 1 ≤ w ∧ w ≤ 16) (ht : 1 ≤ t ∧ t ≤ 16) (hf : f < 24) (hx : x < w) (hy : y < t) (he : 0 ≤ e.toInt ∧ e.toInt ≤ 3) (ho : of = 0 ∨ of = 1) (hA3 : A 3 f = fk) (hA4 : A 4 f = fa) (hA5 : A 5 f = fb) (hr : ∀ i, i < w * t → inK of (A 9 i)) (hk : (fk = 0 ∨ fk = 1 ∨ fk = 2) ∨ (fk = 3 ∧ (-100000 ≤ fa.toInt ∧ fa.toInt ≤ 100000) ∧ 1 ≤ fb.toInt ∧ fb.toInt ≤ 1000) ∨ (fk = 4 ∧ 1 ≤ fa.toInt ∧ fa.toInt ≤ 1000 ∧ ∀ j, j < 9 → -1000 ≤ (A 7 (9 * f + j)).toInt ∧ (A 7 (9 * f + j)).toInt ≤ 1000) ∨ (fk = 5 ∧ 0 ≤ fa.toInt ∧ fa.toInt ≤ 8)) (hQ : ∀ g, Q (some (.int (sgl fk fa fb (fun j => A 7 (9 * f + j)) of w t (A 9) e (y * w + x)))) (mkH X h0 m (uA A 15 g) Z)) : Gm (kx X) mt_Mo_single (d + 3) b [.ref m, .int (nI f), .int of, .int (nI x), .int (nI y), .int e] (mkH X h0 m A Z) Q := by
  have ar := area_le hw.2 ht.2
  have pl := place_lt hx hy
  have d1 := dm (y := y) hx
  have vr := hr _ pl
  have vr2 := inK_r vr
  have lo := loK_rng of
  have hi := hiK_rng of
  have zl := i2l_i (loK of)
  have zh := i2l_i (hiK of)
  have zv := i2l_i (A 9 (y * w + x))
  have za := i2l_i fa
  have ra := pu_rng fa
  have hQ0 := hQ (A 15)
  rw [uA_i] at hQ0
  have kv : ∀ v : Int64, kpt of v.toInt = sgl fk fa fb (fun j => A 7 (9 * f + j)) of w t (A 9) e (y * w + x) → ∀ l8 l9 l10 : Option Value, G (kx X) mt_Mo_single (d + 3) b 131 [some (.ref m), some (.int (nI f)), some (.int of), some (.int (nI x)), some (.int (nI y)), some (.int e), some (.int (A 9 (y * w + x))), some (.int fa), l8, l9, l10] [.long v] (mkH X h0 m A Z) Q := by
    intro v hv l8 l9 l10
    refine gk_lstore8 dX11_single_131 (pc' := 133) rfl (by decide) rfl ?_
    refine gk_iload2 dX11_single_133 (pc' := 134) rfl ?_
    refine gk_lload8 dX11_single_134 (pc' := 136) rfl ?_
    refine gk_cS1_2 mz_Mo_keptIn gw_973 dX11_single_136 (pc' := 139) rfl (Nat.le_of_ble_eq_true rfl) (sp_Mo_keptIn ho ?_)
    refine ⟨_, rfl, ?_⟩
    refine gk_iret dX11_single_139 rfl (by rw [hv]; exact hQ0)
  have sm4 : ¬ (fk = 4 ∨ fk = 5) → sgl fk fa fb (fun j => A 7 (9 * f + j)) of w t (A 9) e (y * w + x) = mdF fk fa fb of (A 9 (y * w + x)) := fun n => if_neg n
  by_cases k45 : fk = 4 ∨ fk = 5
  · have n4 : (4 : Int32) ≤ fk := by rcases k45 with z | z <;> rw [z] <;> decide
    have sg : sgl fk fa fb (fun j => A 7 (9 * f + j)) of w t (A 9) e (y * w + x) = arF fk fa (fun j => A 7 (9 * f + j)) of w t (A 9) e (y * w + x) := if_pos k45
    have fin : ∀ (g : Nat → Int32) (sm : Int64) (l10 : Option Value), (∀ i, i < 9 → g i = nin w t (A 9) x y e i) → (A 3 f = 4 → sm.toInt = wsm (nin w t (A 9) x y e) (fun i => A 7 (9 * f + i)) 9) → G (kx X) mt_Mo_single (d + 3) b 216 [some (.ref m), some (.int (nI f)), some (.int of), some (.int (nI x)), some (.int (nI y)), some (.int e), some (.int (A 9 (y * w + x))), some (.int fa), some (.long sm), none, l10] [] (mkH X h0 m (uA A 15 g) Z) Q := by
      intro g sm l10 hg hs
      rcases k45 with k4 | k5
      · have h4 := hk.resolve_left (fun z => by rcases z with z | z | z <;> rw [k4] at z <;> exact absurd z (by decide))
        have h4 := h4.resolve_left (fun z => by have := z.1; rw [k4] at this; exact absurd this (by decide))
        have h4 := h4.resolve_right (fun z => by have := z.1; rw [k4] at this; exact absurd this (by decide))
        have hs := hs (by rw [hA3]; exact k4)
        have rall : ∀ q, q < 9 → -40000 ≤ (nin w t (A 9) x y e q).toInt ∧ (nin w t (A 9) x y e q).toInt ≤ 40000 := fun q _ => by
          have := sn_rng (x := (x : Int) + (q % 3 : Nat) - 1) (y := (y : Int) + (q / 3 : Nat) - 1) (e := e) hw.1 ht.1 (fun i hi => inK_r (hr i hi))
          show -40000 ≤ (sn _ _ _ _ _ _).toInt ∧ (sn _ _ _ _ _ _).toInt ≤ 40000
          omega
        have wr := wsmR 9 rall (fun q hq => h4.2.2.2 q hq)
        have ev : arF fk fa (fun j => A 7 (9 * f + j)) of w t (A 9) e (y * w + x) = kpt of (rnd sm.toInt fa.toInt64.toInt) := by unfold arF; rw [if_pos k4, d1.1, d1.2, hs, za]
        refine gk_aload0 dX11_single_216 (pc' := 217) rfl ?_
        refine gk_getf (fs := [_, _, _, _, _, _, _, _, _, _, _, _, _, _, _, _, _, _, _, _, _, _, _, _, _, _]) gF_Mo_17 dX11_single_217 (pc' := 220) rfl (by exact (mkJ)) rfl ?_
        refine gk_iload1 dX11_single_220 (pc' := 221) rfl ?_
        refine gk_iald (t0 := 0) rfl dX11_single_221 (pc' := 222) rfl (by exact (mkA3)) (vp_in_nI (by omega) (by decide)) ?_
        rw [nI_clamp (by omega)]
        rw [uA_n (show 3 ≠ 15 by decide), hA3]
        refine gk_iconst (v := 4) dX11_single_222 (pc' := 223) rfl (by decide) ?_
        refine gk_icmp_ne dX11_single_223 (tgt := 241) (pc' := 226) (by decide) rfl (fun c223 => absurd k4 c223) (fun c223 => ?_)
        refine gk_iload2 dX11_single_226 (pc' := 227) rfl ?_
        refine gk_lload8 dX11_single_227 (pc' := 229) rfl ?_
        refine gk_iload7 dX11_single_229 (pc' := 231) rfl ?_
        refine gk_i2l dX11_single_231 (pc' := 232) rfl ?_
        refine gk_cS1_2 mz_Mo_rounded gw_1025 dX11_single_232 (pc' := 235) rfl (Nat.le_of_ble_eq_true rfl) (sp_Mo_rounded (by omega) (by omega) (by omega) (by omega) (fun r hrr => ?_))
        refine ⟨_, rfl, ?_⟩
        refine gk_cS1_2 mz_Mo_keptIn gw_973 dX11_single_235 (pc' := 238) rfl (Nat.le_of_ble_eq_true rfl) (sp_Mo_keptIn ho ?_)
        refine ⟨_, rfl, ?_⟩
        refine gk_goto dX11_single_238 (tgt := 247) (by decide) ?_
        refine gk_iret dX11_single_247 rfl (by rw [hrr, ← ev, ← sg]; exact hQ g)
      · have h5 := hk.resolve_left (fun z => by rcases z with z | z | z <;> rw [k5] at z <;> exact absurd z (by decide))
        have h5 := h5.resolve_left (fun z => by have := z.1; rw [k5] at this; exact absurd this (by decide))
        have h5 := h5.resolve_left (fun z => by have := z.1; rw [k5] at this; exact absurd this (by decide))
        obtain ⟨ka, hka, eka⟩ := pu_of (x := fa) (n := 9) (by omega) (by omega) (by omega)
        subst eka
        have ev : arF fk (nI ka) (fun j => A 7 (9 * f + j)) of w t (A 9) e (y * w + x) = srt g 8 ka := by unfold arF; rw [if_neg (by rw [k5]; decide), d1.1, d1.2, nI_nat (by omega)]; exact (srt_congr 8 (by omega) hg ka hka).symm
        refine gk_aload0 dX11_single_216 (pc' := 217) rfl ?_
        refine gk_getf (fs := [_, _, _, _, _, _, _, _, _, _, _, _, _, _, _, _, _, _, _, _, _, _, _, _, _, _]) gF_Mo_17 dX11_single_217 (pc' := 220) rfl (by exact (mkJ)) rfl ?_
        refine gk_iload1 dX11_single_220 (pc' := 221) rfl ?_
        refine gk_iald (t0 := 0) rfl dX11_single_221 (pc' := 222) rfl (by exact (mkA3)) (vp_in_nI (by omega) (by decide)) ?_
        rw [nI_clamp (by omega)]
        rw [uA_n (show 3 ≠ 15 by decide), hA3]
        refine gk_iconst (v := 4) dX11_single_222 (pc' := 223) rfl (by decide) ?_
        refine gk_icmp_ne dX11_single_223 (tgt := 241) (pc' := 226) (by decide) rfl (fun c223 => ?_) (fun c223 => absurd c223 (by rw [k5]; decide))
        refine gk_aload0 dX11_single_241 (pc' := 242) rfl ?_
        refine gk_iload7 dX11_single_242 (pc' := 244) rfl ?_
        refine gk_cV1_1 mv_Mo_ranked gw_1032 dX11_single_244 (pc' := 247) rfl (Nat.le_of_ble_eq_true rfl) (by exact (mkJ)) (sp_Mo_ranked hka (fun g' => ?_))
        refine ⟨_, rfl, ?_⟩
        refine gk_iret dX11_single_247 rfl (by rw [uA_s, uA_u, ← ev, ← sg]; exact hQ g')
    refine Gm.enter (L := [some (.ref m), some (.int (nI f)), some (.int of), some (.int (nI x)), some (.int (nI y)), some (.int e), none, none, none, none, none]) (by decide) (fun _ => trivial) (Nat.le_of_ble_eq_true rfl) rfl ?_
    refine gk_aload0 dX11_single_0 (pc' := 1) rfl ?_
    refine gk_getf (fs := [_, _, _, _, _, _, _, _, _, _, _, _, _, _, _, _, _, _, _, _, _, _, _, _, _, _]) gF_Mo_35 dX11_single_1 (pc' := 4) rfl (by exact (mkJ)) rfl ?_
    refine gk_iload4 dX11_single_4 (pc' := 6) rfl ?_
    refine gk_aload0 dX11_single_6 (pc' := 7) rfl ?_
    refine gk_getf (fs := [_, _, _, _, _, _, _, _, _, _, _, _, _, _, _, _, _, _, _, _, _, _, _, _, _, _]) gF_Mo_138 dX11_single_7 (pc' := 10) rfl (by exact (mkJ)) rfl ?_
    rw [hZ.1]
    refine gk_imulN dX11_single_10 (pc' := 11) rfl ?_
    refine gk_iload3 dX11_single_11 (pc' := 12) rfl ?_
    refine gk_iaddN dX11_single_12 (pc' := 13) rfl ?_
    refine gk_iald (t0 := 0) rfl dX11_single_13 (pc' := 14) rfl (by exact (mkA9)) (vp_in_nI (by omega) (by decide)) ?_
    rw [nI_clamp (by omega)]
    refine gk_istore6 dX11_single_14 (pc' := 16) rfl (by decide) rfl ?_
    refine gk_aload0 dX11_single_16 (pc' := 17) rfl ?_
    refine gk_getf (fs := [_, _, _, _, _, _, _, _, _, _, _, _, _, _, _, _, _, _, _, _, _, _, _, _, _, _]) gF_Mo_20 dX11_single_17 (pc' := 20) rfl (by exact (mkJ)) rfl ?_
    refine gk_iload1 dX11_single_20 (pc' := 21) rfl ?_
    refine gk_iald (t0 := 0) rfl dX11_single_21 (pc' := 22) rfl (by exact (mkA4)) (vp_in_nI (by omega) (by decide)) ?_
    rw [nI_clamp (by omega)]
    rw [hA4]
    refine gk_istore7 dX11_single_22 (pc' := 24) rfl (by decide) rfl ?_
    refine gk_aload0 dX11_single_24 (pc' := 25) rfl ?_
    refine gk_getf (fs := [_, _, _, _, _, _, _, _, _, _, _, _, _, _, _, _, _, _, _, _, _, _, _, _, _, _]) gF_Mo_17 dX11_single_25 (pc' := 28) rfl (by exact (mkJ)) rfl ?_
    refine gk_iload1 dX11_single_28 (pc' := 29) rfl ?_
    refine gk_iald (t0 := 0) rfl dX11_single_29 (pc' := 30) rfl (by exact (mkA3)) (vp_in_nI (by omega) (by decide)) ?_
    rw [nI_clamp (by omega)]
    rw [hA3]
    refine gk_iconst (v := 4) dX11_single_30 (pc' := 31) rfl (by decide) ?_
    refine gk_icmp_ge dX11_single_31 (tgt := 140) (pc' := 34) (by decide) rfl (fun c31 => ?_) (fun c31 => absurd n4 c31)
    refine gk_lconst (v := 0) dX11_single_140 (pc' := 141) rfl (by decide) ?_
    refine gk_lstore8 dX11_single_141 (pc' := 143) rfl (by decide) rfl ?_
    refine gk_iconst (v := 0) dX11_single_143 (pc' := 144) rfl (by decide) ?_
    refine gk_istore10 dX11_single_144 (pc' := 146) rfl (by decide) rfl ?_
    have q := lp_Mo_single (X := X) (h0 := h0) (m := m) (A := A) (Z := Z) (d := d + 1) (b := b) (Q := Q) (w := w) (t := t) (f := f) (x := x) (y := y) (e := e) (of := of) (l6 := some (.int (A 9 (y * w + x)))) (l7 := some (.int fa)) hZ hw ht hf hx hy he _ _ rfl rfl (fun i hi => inK_r (hr i hi)) (fun h4 => by rcases hk with z | z | z | z; rcases z with z | z | z <;> rw [← hA3, h4] at z <;> exact absurd z (by decide); rw [← hA3, h4] at z; exact absurd z.1 (by decide); exact z.2.2.2; rw [← hA3, h4] at z; exact absurd z.1 (by decide)) fin 9 0 (A 15) 0 (by omega) (fun q hq => absurd hq (by omega)) (fun _ => rfl)
    rw [uA_i] at q
    exact q
  · have sg := sm4 k45
    have h3 : (fk = 0 ∨ fk = 1 ∨ fk = 2) ∨ (fk = 3 ∧ (-100000 ≤ fa.toInt ∧ fa.toInt ≤ 100000) ∧ 1 ≤ fb.toInt ∧ fb.toInt ≤ 1000) := by
      rcases hk with z | z | z | z
      · exact Or.inl z
      · exact Or.inr z
      · exact absurd (Or.inl z.1) k45
      · exact absurd (Or.inr z.1) k45
    have n4 : ¬ (4 : Int32) ≤ fk := by rcases h3 with (z | z | z) | ⟨z, -⟩ <;> rw [z] <;> decide
    have fb' := i2l_i fb
    refine Gm.enter (L := [some (.ref m), some (.int (nI f)), some (.int of), some (.int (nI x)), some (.int (nI y)), some (.int e), none, none, none, none, none]) (by decide) (fun _ => trivial) (Nat.le_of_ble_eq_true rfl) rfl ?_
    refine gk_aload0 dX11_single_0 (pc' := 1) rfl ?_
    refine gk_getf (fs := [_, _, _, _, _, _, _, _, _, _, _, _, _, _, _, _, _, _, _, _, _, _, _, _, _, _]) gF_Mo_35 dX11_single_1 (pc' := 4) rfl (by exact (mkJ)) rfl ?_
    refine gk_iload4 dX11_single_4 (pc' := 6) rfl ?_
    refine gk_aload0 dX11_single_6 (pc' := 7) rfl ?_
    refine gk_getf (fs := [_, _, _, _, _, _, _, _, _, _, _, _, _, _, _, _, _, _, _, _, _, _, _, _, _, _]) gF_Mo_138 dX11_single_7 (pc' := 10) rfl (by exact (mkJ)) rfl ?_
    rw [hZ.1]
    refine gk_imulN dX11_single_10 (pc' := 11) rfl ?_
    refine gk_iload3 dX11_single_11 (pc' := 12) rfl ?_
    refine gk_iaddN dX11_single_12 (pc' := 13) rfl ?_
    refine gk_iald (t0 := 0) rfl dX11_single_13 (pc' := 14) rfl (by exact (mkA9)) (vp_in_nI (by omega) (by decide)) ?_
    rw [nI_clamp (by omega)]
    refine gk_istore6 dX11_single_14 (pc' := 16) rfl (by decide) rfl ?_
    refine gk_aload0 dX11_single_16 (pc' := 17) rfl ?_
    refine gk_getf (fs := [_, _, _, _, _, _, _, _, _, _, _, _, _, _, _, _, _, _, _, _, _, _, _, _, _, _]) gF_Mo_20 dX11_single_17 (pc' := 20) rfl (by exact (mkJ)) rfl ?_
    refine gk_iload1 dX11_single_20 (pc' := 21) rfl ?_
    refine gk_iald (t0 := 0) rfl dX11_single_21 (pc' := 22) rfl (by exact (mkA4)) (vp_in_nI (by omega) (by decide)) ?_
    rw [nI_clamp (by omega)]
    rw [hA4]
    refine gk_istore7 dX11_single_22 (pc' := 24) rfl (by decide) rfl ?_
    refine gk_aload0 dX11_single_24 (pc' := 25) rfl ?_
    refine gk_getf (fs := [_, _, _, _, _, _, _, _, _, _, _, _, _, _, _, _, _, _, _, _, _, _, _, _, _, _]) gF_Mo_17 dX11_single_25 (pc' := 28) rfl (by exact (mkJ)) rfl ?_
    refine gk_iload1 dX11_single_28 (pc' := 29) rfl ?_
    refine gk_iald (t0 := 0) rfl dX11_single_29 (pc' := 30) rfl (by exact (mkA3)) (vp_in_nI (by omega) (by decide)) ?_
    rw [nI_clamp (by omega)]
    rw [hA3]
    refine gk_iconst (v := 4) dX11_single_30 (pc' := 31) rfl (by decide) ?_
    refine gk_icmp_ge dX11_single_31 (tgt := 140) (pc' := 34) (by decide) rfl (fun c31 => absurd c31 n4) (fun c31 => ?_)
    refine gk_aload0 dX11_single_34 (pc' := 35) rfl ?_
    refine gk_getf (fs := [_, _, _, _, _, _, _, _, _, _, _, _, _, _, _, _, _, _, _, _, _, _, _, _, _, _]) gF_Mo_17 dX11_single_35 (pc' := 38) rfl (by exact (mkJ)) rfl ?_
    refine gk_iload1 dX11_single_38 (pc' := 39) rfl ?_
    refine gk_iald (t0 := 0) rfl dX11_single_39 (pc' := 40) rfl (by exact (mkA3)) (vp_in_nI (by omega) (by decide)) ?_
    rw [nI_clamp (by omega)]
    rw [hA3]
    refine gk_if_ne dX11_single_40 (tgt := 53) (pc' := 43) (by decide) rfl (fun c40 => ?_) (fun c40 => ?_)
    · have c40 : ¬ fk = 0 := c40
      refine gk_aload0 dX11_single_53 (pc' := 54) rfl ?_
      refine gk_getf (fs := [_, _, _, _, _, _, _, _, _, _, _, _, _, _, _, _, _, _, _, _, _, _, _, _, _, _]) gF_Mo_17 dX11_single_54 (pc' := 57) rfl (by exact (mkJ)) rfl ?_
      refine gk_iload1 dX11_single_57 (pc' := 58) rfl ?_
      refine gk_iald (t0 := 0) rfl dX11_single_58 (pc' := 59) rfl (by exact (mkA3)) (vp_in_nI (by omega) (by decide)) ?_
      rw [nI_clamp (by omega)]
      rw [hA3]
      refine gk_iconst (v := 1) dX11_single_59 (pc' := 60) rfl (by decide) ?_
      refine gk_icmp_ne dX11_single_60 (tgt := 81) (pc' := 63) (by decide) rfl (fun c60 => ?_) (fun c60 => ?_)
      · have c60 : ¬ fk = 1 := c60
        refine gk_aload0 dX11_single_81 (pc' := 82) rfl ?_
        refine gk_getf (fs := [_, _, _, _, _, _, _, _, _, _, _, _, _, _, _, _, _, _, _, _, _, _, _, _, _, _]) gF_Mo_17 dX11_single_82 (pc' := 85) rfl (by exact (mkJ)) rfl ?_
        refine gk_iload1 dX11_single_85 (pc' := 86) rfl ?_
        refine gk_iald (t0 := 0) rfl dX11_single_86 (pc' := 87) rfl (by exact (mkA3)) (vp_in_nI (by omega) (by decide)) ?_
        rw [nI_clamp (by omega)]
        rw [hA3]
        refine gk_iconst (v := 2) dX11_single_87 (pc' := 88) rfl (by decide) ?_
        refine gk_icmp_ne dX11_single_88 (tgt := 114) (pc' := 91) (by decide) rfl (fun c88 => ?_) (fun c88 => ?_)
        · have c88 : fk = 3 := by rcases h3 with (z | z | z) | ⟨z, -⟩; exact absurd z c40; exact absurd z c60; exact absurd z c88; exact z
          have ev : mdF fk fa fb of (A 9 (y * w + x)) = kpt of (rnd ((A 9 (y * w + x)).toInt * fa.toInt) fb.toInt) := by unfold mdF; rw [if_neg (by rw [c88]; decide), if_neg (by rw [c88]; decide), if_neg (by rw [c88]; decide)]
          have h3 := h3.resolve_left (fun z => by rcases z with z | z | z <;> rw [c88] at z <;> exact absurd z (by decide))
          have mb := mulB5 vr2 h3.2.1
          have mv : ((A 9 (y * w + x)).toInt64 * fa.toInt64).toInt = (A 9 (y * w + x)).toInt * fa.toInt := by rw [Jvm.Kit.i64_mul (by rw [zv, za]; omega) (by rw [zv, za]; omega), zv, za]
          refine gk_iload6 dX11_single_114 (pc' := 116) rfl ?_
          refine gk_i2l dX11_single_116 (pc' := 117) rfl ?_
          refine gk_iload7 dX11_single_117 (pc' := 119) rfl ?_
          refine gk_i2l dX11_single_119 (pc' := 120) rfl ?_
          refine gk_lmul dX11_single_120 (pc' := 121) rfl ?_
          refine gk_aload0 dX11_single_121 (pc' := 122) rfl ?_
          refine gk_getf (fs := [_, _, _, _, _, _, _, _, _, _, _, _, _, _, _, _, _, _, _, _, _, _, _, _, _, _]) gF_Mo_23 dX11_single_122 (pc' := 125) rfl (by exact (mkJ)) rfl ?_
          refine gk_iload1 dX11_single_125 (pc' := 126) rfl ?_
          refine gk_iald (t0 := 0) rfl dX11_single_126 (pc' := 127) rfl (by exact (mkA5)) (vp_in_nI (by omega) (by decide)) ?_
          rw [nI_clamp (by omega)]
          rw [hA5]
          refine gk_i2l dX11_single_127 (pc' := 128) rfl ?_
          refine gk_cS1_2 mz_Mo_rounded gw_1025 dX11_single_128 (pc' := 131) rfl (Nat.le_of_ble_eq_true rfl) (sp_Mo_rounded (by omega) (by omega) (by rw [mv]; omega) (by rw [mv]; omega) (fun r hrr => ?_))
          refine ⟨_, rfl, ?_⟩
          rw [mv, fb'] at hrr
          first
          | exact kv _ (by rw [sg, ev, Jvm.Kit.i64_add (by rw [zv, za]; omega) (by rw [zv, za]; omega), zv, za]) _ _ _
          | (refine kv _ ?_ _ _ _
             have e1 : ((loK of).toInt64 + (hiK of).toInt64).toInt = (loK of).toInt + (hiK of).toInt := by rw [Jvm.Kit.i64_add (by rw [zl, zh]; omega) (by rw [zl, zh]; omega), zl, zh]
             have e2 : ((loK of).toInt64 + (hiK of).toInt64 - (A 9 (y * w + x)).toInt64).toInt = (loK of).toInt + (hiK of).toInt - (A 9 (y * w + x)).toInt := by rw [Jvm.Kit.i64_sub (by rw [e1, zv]; omega) (by rw [e1, zv]; omega), e1, zv]
             have e3 : (loK of + hiK of).toInt = (loK of).toInt + (hiK of).toInt := Jvm.Kit.i32_add (by omega) (by omega)
             have e4 : (loK of + hiK of - A 9 (y * w + x)).toInt = (loK of).toInt + (hiK of).toInt - (A 9 (y * w + x)).toInt := by rw [Jvm.Kit.i32_sub (by rw [e3]; omega) (by rw [e3]; omega), e3]
             rw [sg, ev, e2, ← e4]
             exact kpt_in (by unfold inK at vr ⊢; omega))
          | exact kv _ (by rw [sg, ev, zl]; exact kpt_in (by unfold inK; omega)) _ _ _
          | exact kv _ (by rw [sg, ev, zh]; exact kpt_in (by unfold inK; omega)) _ _ _
          | exact kv _ (by rw [sg, ev, hrr]) _ _ _
        · have c88 : fk = 2 := c88
          have ev : mdF fk fa fb of (A 9 (y * w + x)) = if A 9 (y * w + x) < fa then loK of else hiK of := by unfold mdF; rw [if_neg c40, if_neg c60, if_pos c88]
          refine gk_iload6 dX11_single_91 (pc' := 93) rfl ?_
          refine gk_iload7 dX11_single_93 (pc' := 95) rfl ?_
          refine gk_icmp_lt dX11_single_95 (tgt := 106) (pc' := 98) (by decide) rfl (fun c95 => ?_) (fun c95 => ?_)
          · rw [if_pos c95] at ev
            refine gk_iload2 dX11_single_106 (pc' := 107) rfl ?_
            refine gk_cS1_1 mz_Mo_least gw_925 dX11_single_107 (pc' := 110) rfl (Nat.le_of_ble_eq_true rfl) (sp_Mo_least ho ?_)
            refine ⟨_, rfl, ?_⟩
            refine gk_i2l dX11_single_110 (pc' := 111) rfl ?_
            refine gk_goto dX11_single_111 (tgt := 131) (by decide) ?_
            first
            | exact kv _ (by rw [sg, ev, Jvm.Kit.i64_add (by rw [zv, za]; omega) (by rw [zv, za]; omega), zv, za]) _ _ _
            | (refine kv _ ?_ _ _ _
               have e1 : ((loK of).toInt64 + (hiK of).toInt64).toInt = (loK of).toInt + (hiK of).toInt := by rw [Jvm.Kit.i64_add (by rw [zl, zh]; omega) (by rw [zl, zh]; omega), zl, zh]
               have e2 : ((loK of).toInt64 + (hiK of).toInt64 - (A 9 (y * w + x)).toInt64).toInt = (loK of).toInt + (hiK of).toInt - (A 9 (y * w + x)).toInt := by rw [Jvm.Kit.i64_sub (by rw [e1, zv]; omega) (by rw [e1, zv]; omega), e1, zv]
               have e3 : (loK of + hiK of).toInt = (loK of).toInt + (hiK of).toInt := Jvm.Kit.i32_add (by omega) (by omega)
               have e4 : (loK of + hiK of - A 9 (y * w + x)).toInt = (loK of).toInt + (hiK of).toInt - (A 9 (y * w + x)).toInt := by rw [Jvm.Kit.i32_sub (by rw [e3]; omega) (by rw [e3]; omega), e3]
               rw [sg, ev, e2, ← e4]
               exact kpt_in (by unfold inK at vr ⊢; omega))
            | exact kv _ (by rw [sg, ev, zl]; exact kpt_in (by unfold inK; omega)) _ _ _
            | exact kv _ (by rw [sg, ev, zh]; exact kpt_in (by unfold inK; omega)) _ _ _
            | exact kv _ (by rw [sg, ev, hrr]) _ _ _
          · rw [if_neg c95] at ev
            refine gk_iload2 dX11_single_98 (pc' := 99) rfl ?_
            refine gk_cS1_1 mz_Mo_greatest gw_928 dX11_single_99 (pc' := 102) rfl (Nat.le_of_ble_eq_true rfl) (sp_Mo_greatest ho ?_)
            refine ⟨_, rfl, ?_⟩
            refine gk_i2l dX11_single_102 (pc' := 103) rfl ?_
            refine gk_goto dX11_single_103 (tgt := 131) (by decide) ?_
            first
            | exact kv _ (by rw [sg, ev, Jvm.Kit.i64_add (by rw [zv, za]; omega) (by rw [zv, za]; omega), zv, za]) _ _ _
            | (refine kv _ ?_ _ _ _
               have e1 : ((loK of).toInt64 + (hiK of).toInt64).toInt = (loK of).toInt + (hiK of).toInt := by rw [Jvm.Kit.i64_add (by rw [zl, zh]; omega) (by rw [zl, zh]; omega), zl, zh]
               have e2 : ((loK of).toInt64 + (hiK of).toInt64 - (A 9 (y * w + x)).toInt64).toInt = (loK of).toInt + (hiK of).toInt - (A 9 (y * w + x)).toInt := by rw [Jvm.Kit.i64_sub (by rw [e1, zv]; omega) (by rw [e1, zv]; omega), e1, zv]
               have e3 : (loK of + hiK of).toInt = (loK of).toInt + (hiK of).toInt := Jvm.Kit.i32_add (by omega) (by omega)
               have e4 : (loK of + hiK of - A 9 (y * w + x)).toInt = (loK of).toInt + (hiK of).toInt - (A 9 (y * w + x)).toInt := by rw [Jvm.Kit.i32_sub (by rw [e3]; omega) (by rw [e3]; omega), e3]
               rw [sg, ev, e2, ← e4]
               exact kpt_in (by unfold inK at vr ⊢; omega))
            | exact kv _ (by rw [sg, ev, zl]; exact kpt_in (by unfold inK; omega)) _ _ _
            | exact kv _ (by rw [sg, ev, zh]; exact kpt_in (by unfold inK; omega)) _ _ _
            | exact kv _ (by rw [sg, ev, hrr]) _ _ _
      · have c60 : fk = 1 := c60
        have ev : mdF fk fa fb of (A 9 (y * w + x)) = loK of + hiK of - A 9 (y * w + x) := by unfold mdF; rw [if_neg c40, if_pos c60]
        refine gk_iload2 dX11_single_63 (pc' := 64) rfl ?_
        refine gk_cS1_1 mz_Mo_least gw_925 dX11_single_64 (pc' := 67) rfl (Nat.le_of_ble_eq_true rfl) (sp_Mo_least ho ?_)
        refine ⟨_, rfl, ?_⟩
        refine gk_i2l dX11_single_67 (pc' := 68) rfl ?_
        refine gk_iload2 dX11_single_68 (pc' := 69) rfl ?_
        refine gk_cS1_1 mz_Mo_greatest gw_928 dX11_single_69 (pc' := 72) rfl (Nat.le_of_ble_eq_true rfl) (sp_Mo_greatest ho ?_)
        refine ⟨_, rfl, ?_⟩
        refine gk_i2l dX11_single_72 (pc' := 73) rfl ?_
        refine gk_ladd dX11_single_73 (pc' := 74) rfl ?_
        refine gk_iload6 dX11_single_74 (pc' := 76) rfl ?_
        refine gk_i2l dX11_single_76 (pc' := 77) rfl ?_
        refine gk_lsub dX11_single_77 (pc' := 78) rfl ?_
        refine gk_goto dX11_single_78 (tgt := 131) (by decide) ?_
        first
        | exact kv _ (by rw [sg, ev, Jvm.Kit.i64_add (by rw [zv, za]; omega) (by rw [zv, za]; omega), zv, za]) _ _ _
        | (refine kv _ ?_ _ _ _
           have e1 : ((loK of).toInt64 + (hiK of).toInt64).toInt = (loK of).toInt + (hiK of).toInt := by rw [Jvm.Kit.i64_add (by rw [zl, zh]; omega) (by rw [zl, zh]; omega), zl, zh]
           have e2 : ((loK of).toInt64 + (hiK of).toInt64 - (A 9 (y * w + x)).toInt64).toInt = (loK of).toInt + (hiK of).toInt - (A 9 (y * w + x)).toInt := by rw [Jvm.Kit.i64_sub (by rw [e1, zv]; omega) (by rw [e1, zv]; omega), e1, zv]
           have e3 : (loK of + hiK of).toInt = (loK of).toInt + (hiK of).toInt := Jvm.Kit.i32_add (by omega) (by omega)
           have e4 : (loK of + hiK of - A 9 (y * w + x)).toInt = (loK of).toInt + (hiK of).toInt - (A 9 (y * w + x)).toInt := by rw [Jvm.Kit.i32_sub (by rw [e3]; omega) (by rw [e3]; omega), e3]
           rw [sg, ev, e2, ← e4]
           exact kpt_in (by unfold inK at vr ⊢; omega))
        | exact kv _ (by rw [sg, ev, zl]; exact kpt_in (by unfold inK; omega)) _ _ _
        | exact kv _ (by rw [sg, ev, zh]; exact kpt_in (by unfold inK; omega)) _ _ _
        | exact kv _ (by rw [sg, ev, hrr]) _ _ _
    · have c40 : fk = 0 := c40
      have ev : mdF fk fa fb of (A 9 (y * w + x)) = kpt of ((A 9 (y * w + x)).toInt + fa.toInt) := by unfold mdF; rw [if_pos c40]
      refine gk_iload6 dX11_single_43 (pc' := 45) rfl ?_
      refine gk_i2l dX11_single_45 (pc' := 46) rfl ?_
      refine gk_iload7 dX11_single_46 (pc' := 48) rfl ?_
      refine gk_i2l dX11_single_48 (pc' := 49) rfl ?_
      refine gk_ladd dX11_single_49 (pc' := 50) rfl ?_
      refine gk_goto dX11_single_50 (tgt := 131) (by decide) ?_
      first
      | exact kv _ (by rw [sg, ev, Jvm.Kit.i64_add (by rw [zv, za]; omega) (by rw [zv, za]; omega), zv, za]) _ _ _
      | (refine kv _ ?_ _ _ _
         have e1 : ((loK of).toInt64 + (hiK of).toInt64).toInt = (loK of).toInt + (hiK of).toInt := by rw [Jvm.Kit.i64_add (by rw [zl, zh]; omega) (by rw [zl, zh]; omega), zl, zh]
         have e2 : ((loK of).toInt64 + (hiK of).toInt64 - (A 9 (y * w + x)).toInt64).toInt = (loK of).toInt + (hiK of).toInt - (A 9 (y * w + x)).toInt := by rw [Jvm.Kit.i64_sub (by rw [e1, zv]; omega) (by rw [e1, zv]; omega), e1, zv]
         have e3 : (loK of + hiK of).toInt = (loK of).toInt + (hiK of).toInt := Jvm.Kit.i32_add (by omega) (by omega)
         have e4 : (loK of + hiK of - A 9 (y * w + x)).toInt = (loK of).toInt + (hiK of).toInt - (A 9 (y * w + x)).toInt := by rw [Jvm.Kit.i32_sub (by rw [e3]; omega) (by rw [e3]; omega), e3]
         rw [sg, ev, e2, ← e4]
         exact kpt_in (by unfold inK at vr ⊢; omega))
      | exact kv _ (by rw [sg, ev, zl]; exact kpt_in (by unfold inK; omega)) _ _ _
      | exact kv _ (by rw [sg, ev, zh]; exact kpt_in (by unfold inK; omega)) _ _ _
      | exact kv _ (by rw [sg, ev, hrr]) _ _ _
end MoT
