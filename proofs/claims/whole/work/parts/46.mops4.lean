/-! ===== the reference: turn, filter ===== -/
def uF (w : Nat) (mm : Bool) (x : Nat) : Nat := if mm then w - 1 - x else x
def nxF (w t q : Nat) (mm : Bool) (x y : Nat) : Nat := if q = 0 then uF w mm x else if q = 1 then t - 1 - y else if q = 2 then w - 1 - uF w mm x else y
def nyF (w t q : Nat) (mm : Bool) (x y : Nat) : Nat := if q = 0 then y else if q = 1 then uF w mm x else if q = 2 then t - 1 - y else w - 1 - uF w mm x
theorem trT {w t q x y : Nat} {mm : Bool} (hq : q < 4) (hx : x < w) (hy : y < t) : nxF w t q mm x y < trW w t q ∧ nyF w t q mm x y < trW t w q ∧ trF w t q mm (nxF w t q mm x y) (nyF w t q mm x y) = y * w + x := by
  unfold nxF nyF trW trF uF
  rcases (show q = 0 ∨ q = 1 ∨ q = 2 ∨ q = 3 by omega) with rfl | rfl | rfl | rfl <;> cases mm <;> simp
  · exact ⟨hx, hy⟩
  · exact ⟨by omega, hy, by omega⟩
  · exact ⟨by omega, hx, by rw [show t - 1 - (t - 1 - y) = y by omega]⟩
  · refine ⟨by omega, by omega, ?_⟩
    rw [show t - 1 - (t - 1 - y) = y by omega]; omega
  · refine ⟨by omega, by omega, ?_⟩
    rw [show t - 1 - (t - 1 - y) = y by omega]; omega
  · refine ⟨by omega, by omega, ?_⟩
    rw [show t - 1 - (t - 1 - y) = y by omega]; omega
  · exact ⟨hy, by omega, by omega⟩
  · exact ⟨hy, by omega, by omega⟩
theorem tr_inj {w a b y x : Nat} (ha : a < w) (hx : x < w) (e : b * w + a = y * w + x) : a = x ∧ b = y := by
  have d1 := dm (y := b) ha
  have d2 := dm (y := y) hx
  rw [e] at d1
  exact ⟨d1.1.symm.trans d2.1, d1.2.symm.trans d2.2⟩
theorem trI {w t q x y a c : Nat} {mm : Bool} (hq : q < 4) (hx : x < w) (hy : y < t) (ha : a < trW w t q) (hc : c < trW t w q) (e : trF w t q mm a c = y * w + x) : a = nxF w t q mm x y ∧ c = nyF w t q mm x y := by
  unfold trF at e
  unfold trW at ha hc
  unfold nxF nyF uF
  rcases (show q = 0 ∨ q = 1 ∨ q = 2 ∨ q = 3 by omega) with rfl | rfl | rfl | rfl <;> cases mm <;> simp at e ha hc ⊢
  all_goals (have := tr_inj (by omega) hx e; omega)
/-- the turned picture, as far as the first n pixels of the old one are laid -/
def trInv (A : MoA) (f0 f : Nat → Int32) (j2 : Nat) (k : Int32) (w t q : Nat) (mm : Bool) (n : Nat) : Prop := f (259 * j2) = k ∧ f (259 * j2 + 1) = nI (trW w t q) ∧ f (259 * j2 + 2) = nI (trW t w q) ∧ (∀ i, i < trW w t q * trW t w q → trF w t q mm (i % trW w t q) (i / trW w t q) < n → f (259 * j2 + 3 + i) = A 9 (trF w t q mm (i % trW w t q) (i / trW w t q))) ∧ ∀ i, (i < 259 * j2 ∨ 259 * j2 + 259 ≤ i) → f i = f0 i
theorem trInv.step {A : MoA} {f0 f : Nat → Int32} {j2 : Nat} {k : Int32} {w t q x y : Nat} {mm : Bool} (hq : q < 4) (hx : x < w) (hy : y < t) (hw : w ≤ 16) (ht : t ≤ 16) (h : trInv A f0 f j2 k w t q mm (y * w + x)) : trInv A f0 (upd f (259 * j2 + 3 + nyF w t q mm x y * trW w t q + nxF w t q mm x y) (A 9 (y * w + x))) j2 k w t q mm (y * w + x + 1) := by
  obtain ⟨t1, t2, t3⟩ := trT (mm := mm) hq hx hy
  have pl := place_lt t1 t2
  have ar : trW w t q * trW t w q ≤ 256 := area_le (by unfold trW; split <;> omega) (by unfold trW; split <;> omega)
  obtain ⟨h1, h2, h3, h4, h5⟩ := h
  refine ⟨?_, ?_, ?_, fun i hi hn => ?_, fun i hi => ?_⟩
  · rw [pk_un (by omega)]; exact h1
  · rw [pk_un (by omega)]; exact h2
  · rw [pk_un (by omega)]; exact h3
  · have wp : 0 < trW w t q := by omega
    have im : i % trW w t q < trW w t q := Nat.mod_lt _ wp
    have id : i / trW w t q < trW t w q := (Nat.div_lt_iff_lt_mul wp).mpr (by rw [Nat.mul_comm]; exact hi)
    have ei : i / trW w t q * trW w t q + i % trW w t q = i := by rw [Nat.mul_comm]; exact Nat.div_add_mod _ _
    by_cases e : trF w t q mm (i % trW w t q) (i / trW w t q) = y * w + x
    · have := trI hq hx hy im id e
      rw [e, ← this.1, ← this.2, Nat.add_assoc (259 * j2 + 3), ei, pk_us]
    · have hne : i ≠ nyF w t q mm x y * trW w t q + nxF w t q mm x y := fun z => e (by
        have d := dm (y := nyF w t q mm x y) t1
        rw [z, d.1, d.2]
        exact t3)
      rw [pk_un (by omega)]
      exact h4 i hi (by omega)
  · rw [pk_un (by omega)]; exact h5 i hi
section MoH
variable {X : gX} {d : Nat} {b : Nat × Nat} {h h0 : gk_H} {m : Nat} {A : MoA} {Z : MoZ} {Q : Option Value → gk_H → Prop} {S : St}
theorem lp_Mo_turnX {j1 j2 jh w t y : Nat} {k : Int32} {ly : Int32} {f0 : Nat → Int32} (h2 : j2 < 8) (hh : jh < 8) (hw : 1 ≤ w ∧ w ≤ 16) (ht : 1 ≤ t ∧ t ≤ 16) (hy : y < t) (hQ : ∀ f l8 l9 l10 l11, trInv A f0 f j2 k w t (jh % 4) (decide (4 ≤ jh)) ((y + 1) * w) → G (kx X) mt_Mo_turn (d + 10) b 279 [some (.ref m), some (.int (nI j1)), some (.int (nI j2)), some (.int (nI jh)), some (.int (nI w)), some (.int (nI t)), some (.int ly), some (.int (nI y)), l8, l9, l10, l11] [] (mkH X h0 m (uA A 1 f) Z) Q) :
    ∀ n x f l9 l10 l11, x + n = w → trInv A f0 f j2 k w t (jh % 4) (decide (4 ≤ jh)) (y * w + x) → G (kx X) mt_Mo_turn (d + 10) b 122 [some (.ref m), some (.int (nI j1)), some (.int (nI j2)), some (.int (nI jh)), some (.int (nI w)), some (.int (nI t)), some (.int ly), some (.int (nI y)), some (.int (nI x)), l9, l10, l11] [] (mkH X h0 m (uA A 1 f) Z) Q := by
  intro n
  induction n with
  | zero =>
    intro x f l9 l10 l11 hx hf
    refine gk_iload8 dX11_turn_122 (pc' := 124) rfl ?_
    refine gk_iload4 dX11_turn_124 (pc' := 126) rfl ?_
    refine gk_icmp_ge dX11_turn_126 (tgt := 279) (pc' := 129) (by decide) rfl (fun c126 => ?_) (fun c126 => absurd (nI_le (by omega) (by omega)) c126)
    refine hQ f _ _ _ _ ?_
    rw [show (y + 1) * w = y * w + x by rw [Nat.add_mul, Nat.one_mul]; omega]
    exact hf
  | succ n ih =>
    intro x f l9 l10 l11 hx hf
    have hxw : x < w := by omega
    have hq4 : jh % 4 < 4 := by omega
    have ar := area_le hw.2 ht.2
    have pl := place_lt hxw hy
    obtain ⟨t1, t2, t3⟩ := trT (mm := decide (4 ≤ jh)) hq4 hxw hy
    have wW : trW w t (jh % 4) ≤ 16 ∧ trW t w (jh % 4) ≤ 16 := by unfold trW; constructor <;> split <;> omega
    have ar2 := area_le wW.1 wW.2
    have pl2 := place_lt t1 t2
    have st := hf.step hq4 hxw hy hw.2 ht.2
    obtain ⟨cP, eP, pr⟩ : ∃ c : Pc, c.2.1 = trW w t (jh % 4) ∧ pRow (uA A 1 f 1) (259 * j2) c := ⟨(k, trW w t (jh % 4), trW t w (jh % 4), fun i => f (259 * j2 + 3 + i)), rfl, by rw [uA_s]; exact ⟨hf.1, hf.2.1, hf.2.2.1, fun i _ => rfl⟩⟩
    have hu : uF w (decide (4 ≤ jh)) x < w := by unfold uF; split <;> omega
    generalize hN : nxF w t (jh % 4) (decide (4 ≤ jh)) x y = nx at *
    generalize hM : nyF w t (jh % 4) (decide (4 ≤ jh)) x y = ny at *
    unfold nxF at hN
    unfold nyF at hM
    generalize hU : uF w (decide (4 ≤ jh)) x = u at *
    have key3 : G (kx X) mt_Mo_turn (d + 10) b 244 [some (.ref m), some (.int (nI j1)), some (.int (nI j2)), some (.int (nI jh)), some (.int (nI w)), some (.int (nI t)), some (.int ly), some (.int (nI y)), some (.int (nI x)), some (.int (nI u)), some (.int (nI nx)), l11] [.int (nI ny)] (mkH X h0 m (uA A 1 f) Z) Q := by
      refine gk_istore11 dX11_turn_244 (pc' := 246) rfl (by decide) rfl ?_
      refine gk_aload0 dX11_turn_246 (pc' := 247) rfl ?_
      refine gk_getf (fs := [_, _, _, _, _, _, _, _, _, _, _, _, _, _, _, _, _, _, _, _, _, _, _, _, _, _]) gF_Mo_7 dX11_turn_247 (pc' := 250) rfl (by exact (mkJ)) rfl ?_
      refine gk_aload0 dX11_turn_250 (pc' := 251) rfl ?_
      refine gk_iload2 dX11_turn_251 (pc' := 252) rfl ?_
      refine gk_iload10 dX11_turn_252 (pc' := 254) rfl ?_
      refine gk_iload11 dX11_turn_254 (pc' := 256) rfl ?_
      refine gk_cV1_3 mv_Mo_pixelAt gw_931 dX11_turn_256 (pc' := 259) rfl (Nat.le_of_ble_eq_true rfl) (by exact (mkJ)) (sp_Mo_pixelAt pr h2 ?_)
      refine ⟨_, rfl, ?_⟩
      rw [eP]
      refine gk_aload0 dX11_turn_259 (pc' := 260) rfl ?_
      refine gk_getf (fs := [_, _, _, _, _, _, _, _, _, _, _, _, _, _, _, _, _, _, _, _, _, _, _, _, _, _]) gF_Mo_35 dX11_turn_260 (pc' := 263) rfl (by exact (mkJ)) rfl ?_
      refine gk_iload7 dX11_turn_263 (pc' := 265) rfl ?_
      refine gk_iload4 dX11_turn_265 (pc' := 267) rfl ?_
      refine gk_imulN dX11_turn_267 (pc' := 268) rfl ?_
      refine gk_iload8 dX11_turn_268 (pc' := 270) rfl ?_
      refine gk_iaddN dX11_turn_270 (pc' := 271) rfl ?_
      refine gk_iald (t0 := 0) rfl dX11_turn_271 (pc' := 272) rfl (by exact (mkA9)) (vp_in_nI (by omega) (by decide)) ?_
      rw [nI_clamp (by omega)]
      rw [uA_n (show 9 ≠ 1 by decide)]
      refine gk_iast (t0 := 0) rfl dX11_turn_272 (pc' := 273) rfl (by exact (mkA1)) (vp_in_nI (by omega) (by decide)) ?_
      rw [nI_clamp (by omega), mkS1]
      rw [uA_s, uA_u]
      refine gk_iinc8 (v := 1) dX11_turn_273 (pc' := 276) rfl (by decide) (by decide) rfl ?_
      refine gk_goto dX11_turn_276 (tgt := 122) (by decide) ?_
      rw [← nI_succ]
      exact ih (x + 1) _ _ _ _ (by omega) st
    have key2 : G (kx X) mt_Mo_turn (d + 10) b 195 [some (.ref m), some (.int (nI j1)), some (.int (nI j2)), some (.int (nI jh)), some (.int (nI w)), some (.int (nI t)), some (.int ly), some (.int (nI y)), some (.int (nI x)), some (.int (nI u)), l10, l11] [.int (nI nx)] (mkH X h0 m (uA A 1 f) Z) Q := by
      refine gk_istore10 dX11_turn_195 (pc' := 197) rfl (by decide) rfl ?_
      refine gk_iload3 dX11_turn_197 (pc' := 198) rfl ?_
      refine gk_iconst (v := nI 4) dX11_turn_198 (pc' := 199) rfl (by decide) ?_
      refine gk_iremN dX11_turn_199 (pc' := 200) rfl (by omega) (by omega) (by omega) ?_
      refine gk_if_ne dX11_turn_200 (tgt := 208) (pc' := 203) (by decide) rfl (fun c200 => ?_) (fun c200 => ?_)
      · have q0 : ¬ jh % 4 = 0 := fun e => c200 (by rw [e]; rfl)
        refine gk_iload3 dX11_turn_208 (pc' := 209) rfl ?_
        refine gk_iconst (v := nI 4) dX11_turn_209 (pc' := 210) rfl (by decide) ?_
        refine gk_iremN dX11_turn_210 (pc' := 211) rfl (by omega) (by omega) (by omega) ?_
        refine gk_iconst (v := 1) dX11_turn_211 (pc' := 212) rfl (by decide) ?_
        refine gk_icmp_ne dX11_turn_212 (tgt := 220) (pc' := 215) (by decide) rfl (fun c212 => ?_) (fun c212 => ?_)
        · have q1 : ¬ jh % 4 = 1 := fun e => c212 (by rw [e]; rfl)
          refine gk_iload3 dX11_turn_220 (pc' := 221) rfl ?_
          refine gk_iconst (v := nI 4) dX11_turn_221 (pc' := 222) rfl (by decide) ?_
          refine gk_iremN dX11_turn_222 (pc' := 223) rfl (by omega) (by omega) (by omega) ?_
          refine gk_iconst (v := 2) dX11_turn_223 (pc' := 224) rfl (by decide) ?_
          refine gk_icmp_ne dX11_turn_224 (tgt := 237) (pc' := 227) (by decide) rfl (fun c224 => ?_) (fun c224 => ?_)
          · have q2 : ¬ jh % 4 = 2 := fun e => c224 (by rw [e]; rfl)
            refine gk_iload4 dX11_turn_237 (pc' := 239) rfl ?_
            refine gk_iconst (v := 1) dX11_turn_239 (pc' := 240) rfl (by decide) ?_
            refine gk_isub dX11_turn_240 (pc' := 241) rfl ?_
            refine gk_iload9 dX11_turn_241 (pc' := 243) rfl ?_
            refine gk_isub dX11_turn_243 (pc' := 244) rfl ?_
            rw [nI_sub1 (by omega)]
            first | (rw [if_pos q0] at hM; subst hM; exact key3) | (rw [if_neg q0, if_pos q1] at hM; subst hM; exact key3) | (rw [if_neg q0, if_neg q1, if_pos q2] at hM; subst hM; exact key3) | (rw [if_neg q0, if_neg q1, if_neg q2] at hM; subst hM; exact key3)
          · have q2 : jh % 4 = 2 := nI_inj (c := 2) (by omega) (by omega) c224
            refine gk_iload5 dX11_turn_227 (pc' := 229) rfl ?_
            refine gk_iconst (v := 1) dX11_turn_229 (pc' := 230) rfl (by decide) ?_
            refine gk_isub dX11_turn_230 (pc' := 231) rfl ?_
            refine gk_iload7 dX11_turn_231 (pc' := 233) rfl ?_
            refine gk_isub dX11_turn_233 (pc' := 234) rfl ?_
            rw [nI_sub1 (by omega)]
            refine gk_goto dX11_turn_234 (tgt := 244) (by decide) ?_
            first | (rw [if_pos q0] at hM; subst hM; exact key3) | (rw [if_neg q0, if_pos q1] at hM; subst hM; exact key3) | (rw [if_neg q0, if_neg q1, if_pos q2] at hM; subst hM; exact key3) | (rw [if_neg q0, if_neg q1, if_neg q2] at hM; subst hM; exact key3)
        · have q1 : jh % 4 = 1 := nI_inj (c := 1) (by omega) (by omega) c212
          refine gk_iload9 dX11_turn_215 (pc' := 217) rfl ?_
          refine gk_goto dX11_turn_217 (tgt := 244) (by decide) ?_
          first | (rw [if_pos q0] at hM; subst hM; exact key3) | (rw [if_neg q0, if_pos q1] at hM; subst hM; exact key3) | (rw [if_neg q0, if_neg q1, if_pos q2] at hM; subst hM; exact key3) | (rw [if_neg q0, if_neg q1, if_neg q2] at hM; subst hM; exact key3)
      · have q0 : jh % 4 = 0 := nI_inj (c := 0) (by omega) (by omega) c200
        refine gk_iload7 dX11_turn_203 (pc' := 205) rfl ?_
        refine gk_goto dX11_turn_205 (tgt := 244) (by decide) ?_
        first | (rw [if_pos q0] at hM; subst hM; exact key3) | (rw [if_neg q0, if_pos q1] at hM; subst hM; exact key3) | (rw [if_neg q0, if_neg q1, if_pos q2] at hM; subst hM; exact key3) | (rw [if_neg q0, if_neg q1, if_neg q2] at hM; subst hM; exact key3)
    have key1 : G (kx X) mt_Mo_turn (d + 10) b 146 [some (.ref m), some (.int (nI j1)), some (.int (nI j2)), some (.int (nI jh)), some (.int (nI w)), some (.int (nI t)), some (.int ly), some (.int (nI y)), some (.int (nI x)), l9, l10, l11] [.int (nI u)] (mkH X h0 m (uA A 1 f) Z) Q := by
      refine gk_istore9 dX11_turn_146 (pc' := 148) rfl (by decide) rfl ?_
      refine gk_iload3 dX11_turn_148 (pc' := 149) rfl ?_
      refine gk_iconst (v := nI 4) dX11_turn_149 (pc' := 150) rfl (by decide) ?_
      refine gk_iremN dX11_turn_150 (pc' := 151) rfl (by omega) (by omega) (by omega) ?_
      refine gk_if_ne dX11_turn_151 (tgt := 159) (pc' := 154) (by decide) rfl (fun c151 => ?_) (fun c151 => ?_)
      · have q0 : ¬ jh % 4 = 0 := fun e => c151 (by rw [e]; rfl)
        refine gk_iload3 dX11_turn_159 (pc' := 160) rfl ?_
        refine gk_iconst (v := nI 4) dX11_turn_160 (pc' := 161) rfl (by decide) ?_
        refine gk_iremN dX11_turn_161 (pc' := 162) rfl (by omega) (by omega) (by omega) ?_
        refine gk_iconst (v := 1) dX11_turn_162 (pc' := 163) rfl (by decide) ?_
        refine gk_icmp_ne dX11_turn_163 (tgt := 176) (pc' := 166) (by decide) rfl (fun c163 => ?_) (fun c163 => ?_)
        · have q1 : ¬ jh % 4 = 1 := fun e => c163 (by rw [e]; rfl)
          refine gk_iload3 dX11_turn_176 (pc' := 177) rfl ?_
          refine gk_iconst (v := nI 4) dX11_turn_177 (pc' := 178) rfl (by decide) ?_
          refine gk_iremN dX11_turn_178 (pc' := 179) rfl (by omega) (by omega) (by omega) ?_
          refine gk_iconst (v := 2) dX11_turn_179 (pc' := 180) rfl (by decide) ?_
          refine gk_icmp_ne dX11_turn_180 (tgt := 193) (pc' := 183) (by decide) rfl (fun c180 => ?_) (fun c180 => ?_)
          · have q2 : ¬ jh % 4 = 2 := fun e => c180 (by rw [e]; rfl)
            refine gk_iload7 dX11_turn_193 (pc' := 195) rfl ?_
            first | (rw [if_pos q0] at hN; subst hN; exact key2) | (rw [if_neg q0, if_pos q1] at hN; subst hN; exact key2) | (rw [if_neg q0, if_neg q1, if_pos q2] at hN; subst hN; exact key2) | (rw [if_neg q0, if_neg q1, if_neg q2] at hN; subst hN; exact key2)
          · have q2 : jh % 4 = 2 := nI_inj (c := 2) (by omega) (by omega) c180
            refine gk_iload4 dX11_turn_183 (pc' := 185) rfl ?_
            refine gk_iconst (v := 1) dX11_turn_185 (pc' := 186) rfl (by decide) ?_
            refine gk_isub dX11_turn_186 (pc' := 187) rfl ?_
            refine gk_iload9 dX11_turn_187 (pc' := 189) rfl ?_
            refine gk_isub dX11_turn_189 (pc' := 190) rfl ?_
            rw [nI_sub1 (by omega)]
            refine gk_goto dX11_turn_190 (tgt := 195) (by decide) ?_
            first | (rw [if_pos q0] at hN; subst hN; exact key2) | (rw [if_neg q0, if_pos q1] at hN; subst hN; exact key2) | (rw [if_neg q0, if_neg q1, if_pos q2] at hN; subst hN; exact key2) | (rw [if_neg q0, if_neg q1, if_neg q2] at hN; subst hN; exact key2)
        · have q1 : jh % 4 = 1 := nI_inj (c := 1) (by omega) (by omega) c163
          refine gk_iload5 dX11_turn_166 (pc' := 168) rfl ?_
          refine gk_iconst (v := 1) dX11_turn_168 (pc' := 169) rfl (by decide) ?_
          refine gk_isub dX11_turn_169 (pc' := 170) rfl ?_
          refine gk_iload7 dX11_turn_170 (pc' := 172) rfl ?_
          refine gk_isub dX11_turn_172 (pc' := 173) rfl ?_
          rw [nI_sub1 (by omega)]
          refine gk_goto dX11_turn_173 (tgt := 195) (by decide) ?_
          first | (rw [if_pos q0] at hN; subst hN; exact key2) | (rw [if_neg q0, if_pos q1] at hN; subst hN; exact key2) | (rw [if_neg q0, if_neg q1, if_pos q2] at hN; subst hN; exact key2) | (rw [if_neg q0, if_neg q1, if_neg q2] at hN; subst hN; exact key2)
      · have q0 : jh % 4 = 0 := nI_inj (c := 0) (by omega) (by omega) c151
        refine gk_iload9 dX11_turn_154 (pc' := 156) rfl ?_
        refine gk_goto dX11_turn_156 (tgt := 195) (by decide) ?_
        first | (rw [if_pos q0] at hN; subst hN; exact key2) | (rw [if_neg q0, if_pos q1] at hN; subst hN; exact key2) | (rw [if_neg q0, if_neg q1, if_pos q2] at hN; subst hN; exact key2) | (rw [if_neg q0, if_neg q1, if_neg q2] at hN; subst hN; exact key2)
    refine gk_iload8 dX11_turn_122 (pc' := 124) rfl ?_
    refine gk_iload4 dX11_turn_124 (pc' := 126) rfl ?_
    refine gk_icmp_ge dX11_turn_126 (tgt := 279) (pc' := 129) (by decide) rfl (fun c126 => absurd c126 (nI_ge (by omega) (by omega))) (fun c126 => ?_)
    refine gk_iload3 dX11_turn_129 (pc' := 130) rfl ?_
    refine gk_iconst (v := 4) dX11_turn_130 (pc' := 131) rfl (by decide) ?_
    refine gk_icmp_ge dX11_turn_131 (tgt := 139) (pc' := 134) (by decide) rfl (fun c131 => ?_) (fun c131 => ?_)
    · have q4 : 4 ≤ jh := (nI_leI (a := 4) (by omega) (by omega)).mp c131
      unfold uF at hU
      rw [decide_eq_true q4, if_pos rfl] at hU
      refine gk_iload4 dX11_turn_139 (pc' := 141) rfl ?_
      refine gk_iconst (v := 1) dX11_turn_141 (pc' := 142) rfl (by decide) ?_
      refine gk_isub dX11_turn_142 (pc' := 143) rfl ?_
      refine gk_iload8 dX11_turn_143 (pc' := 145) rfl ?_
      refine gk_isub dX11_turn_145 (pc' := 146) rfl ?_
      rw [nI_sub1 (by omega)]
      rw [← hU] at key1
      exact key1
    · have q4 : ¬ 4 ≤ jh := fun q => c131 (nI_le (a := 4) q (by omega))
      unfold uF at hU
      rw [decide_eq_false q4, if_neg (by decide)] at hU
      refine gk_iload8 dX11_turn_134 (pc' := 136) rfl ?_
      refine gk_goto dX11_turn_136 (tgt := 146) (by decide) ?_
      rw [← hU] at key1
      exact key1
theorem lp_Mo_turnY {j1 j2 jh w t : Nat} {k : Int32} {ly : Int32} {f0 : Nat → Int32} (h2 : j2 < 8) (hh : jh < 8) (hw : 1 ≤ w ∧ w ≤ 16) (ht : 1 ≤ t ∧ t ≤ 16) (hQ : ∀ f, trInv A f0 f j2 k w t (jh % 4) (decide (4 ≤ jh)) (t * w) → Q (some (.int 0)) (mkH X h0 m (uA A 1 f) Z)) :
    ∀ n y f l8 l9 l10 l11, y + n = t → trInv A f0 f j2 k w t (jh % 4) (decide (4 ≤ jh)) (y * w) → G (kx X) mt_Mo_turn (d + 10) b 112 [some (.ref m), some (.int (nI j1)), some (.int (nI j2)), some (.int (nI jh)), some (.int (nI w)), some (.int (nI t)), some (.int ly), some (.int (nI y)), l8, l9, l10, l11] [] (mkH X h0 m (uA A 1 f) Z) Q := by
  intro n
  induction n with
  | zero =>
    intro y f l8 l9 l10 l11 hy hf
    refine gk_iload7 dX11_turn_112 (pc' := 114) rfl ?_
    refine gk_iload5 dX11_turn_114 (pc' := 116) rfl ?_
    refine gk_icmp_ge dX11_turn_116 (tgt := 285) (pc' := 119) (by decide) rfl (fun c116 => ?_) (fun c116 => absurd (nI_le (by omega) (by omega)) c116)
    refine gk_iconst (v := 0) dX11_turn_285 (pc' := 286) rfl (by decide) ?_
    refine gk_iret dX11_turn_286 rfl (hQ f (by rw [show t * w = y * w by rw [show y = t by omega]]; exact hf))
  | succ n ih =>
    intro y f l8 l9 l10 l11 hy hf
    refine gk_iload7 dX11_turn_112 (pc' := 114) rfl ?_
    refine gk_iload5 dX11_turn_114 (pc' := 116) rfl ?_
    refine gk_icmp_ge dX11_turn_116 (tgt := 285) (pc' := 119) (by decide) rfl (fun c116 => absurd c116 (nI_ge (by omega) (by omega))) (fun c116 => ?_)
    refine gk_iconst (v := 0) dX11_turn_119 (pc' := 120) rfl (by decide) ?_
    refine gk_istore8 dX11_turn_120 (pc' := 122) rfl (by decide) rfl ?_
    refine lp_Mo_turnX h2 hh hw ht (by omega) (fun f' l8 l9 l10 l11 hf' => ?_) w 0 f _ _ _ (by omega) hf
    refine gk_iinc7 (v := 1) dX11_turn_279 (pc' := 282) rfl (by decide) (by decide) rfl ?_
    refine gk_goto dX11_turn_282 (tgt := 112) (by decide) ?_
    rw [← nI_succ]
    exact ih (y + 1) f' _ _ _ _ (by omega) hf'
theorem mo_turn {p q how : Int32} (hM : Mod X h m S) (hw : wfS S) (hQ : ∀ h', Mod X h' m (oTurn S p q how).2 → frO m h h' → Q (some (.int (oTurn S p q how).1)) h') : Gm (kx X) mt_Mo_turn (d + 10) b [.ref m, .int p, .int q, .int how] h Q := by
  obtain ⟨h0, A, Z, rfl, hS⟩ := hM
  have hE : ∀ a0 S' A' Z', oTurn S p q how = (a0, S') → MoS A' Z' S' → Q (some (.int a0)) (mkH X h0 m A' Z') := fun a0 S' A' Z' e0 h1 => by
    have q := hQ (mkH X h0 m A' Z')
    rw [e0] at q
    exact q ⟨h0, A', Z', rfl, h1⟩ mk_fr
  have hB : ∀ a0, oTurn S p q how = (a0, S) → Q (some (.int a0)) (mkH X h0 m A Z) := fun a0 e0 => hE a0 S A Z e0 hS
  have zh := i2l_i how
  have z0 : (0 : Int64).toInt = 0 := rfl
  have z7 : (7 : Int64).toInt = 7 := rfl
  have fin : ∀ j1 j8 jh (ly : Int32) (A1 : MoA) (Z1 : MoZ), j1 < 8 → j8 < 8 → jh < 8 → p = nI j1 → q = nI j8 → how = nI jh → ¬ (pcS S p).1 = -1 → (∀ i, i ≠ 2 → A1 i = A i) → Bg A1 Z1 S → G (kx X) mt_Mo_turn (d + 10) b 106 [some (.ref m), some (.int p), some (.int q), some (.int how), some (.int (nI (pcS S p).2.1)), some (.int (nI (pcS S p).2.2.1)), some (.int ly), none, none, none, none, none] [.int (nI (trW (pcS S p).2.2.1 (pcS S p).2.1 (jh % 4))), .int (nI (trW (pcS S p).2.1 (pcS S p).2.2.1 (jh % 4))), .int (pcS S p).1, .int (nI j8), .ref m] (mkH X h0 m (lkA A1 j1) (lkZ Z1 (pcS S p).2.1 (pcS S p).2.2.1)) Q := by
    intro j1 j8 jh ly A1 Z1 hj1 hj8 hjh ep eq eh hk a1 hBg
    subst ep eq eh
    have z1 : (nI j1).toInt = j1 := nI_toInt (by omega)
    have z8 : (nI j8).toInt = j8 := nI_toInt (by omega)
    have zjh : (nI jh).toInt = jh := nI_toInt (by omega)
    have ok1 := hw.okp hj1
    have okk := ok1.kind hk
    have ar1 := ok1.ar
    have pr2 : pRow (A1 1) (259 * j1) (pcS S (nI j1)) := by rw [a1 1 (by decide)]; exact hS.picS hj1
    have wW : trW (pcS S (nI j1)).2.1 (pcS S (nI j1)).2.2.1 (jh % 4) ≤ 16 ∧ trW (pcS S (nI j1)).2.2.1 (pcS S (nI j1)).2.1 (jh % 4) ≤ 16 := by
      have := okk.2.1
      have := okk.2.2.1
      unfold trW; constructor <;> split <;> omega
    have ar2 := area_le wW.1 wW.2
    refine gk_cV0_4 mv_Mo_become gw_897 dX11_turn_106 (pc' := 109) rfl (Nat.le_of_ble_eq_true rfl) (by exact (mkJ)) (sp_Mo_become hj8 ?_)
    refine ⟨rfl, ?_⟩
    refine gk_iconst (v := 0) dX11_turn_109 (pc' := 110) rfl (by decide) ?_
    refine gk_istore7 dX11_turn_110 (pc' := 112) rfl (by decide) rfl ?_
    refine lp_Mo_turnY (f0 := A1 1) (k := (pcS S (nI j1)).1) hj8 hjh okk.2.1 okk.2.2.1 (fun f hf => ?_) (pcS S (nI j1)).2.2.1 0 _ _ _ _ _ (by omega) ?_
    · refine hE _ (kP S j8 ((pcS S (nI j1)).1, trW (pcS S (nI j1)).2.1 (pcS S (nI j1)).2.2.1 (jh % 4), trW (pcS S (nI j1)).2.2.1 (pcS S (nI j1)).2.1 (jh % 4), trn (pcS S (nI j1)).2.1 (pcS S (nI j1)).2.2.1 (pcS S (nI j1)).2.2.2 (jh % 4) (decide (4 ≤ jh)))) _ _ ((if_pos ⟨by omega, by omega, by omega⟩).trans ((if_neg hk).trans (by rw [nI_nat (j := j8) (by omega), nI_nat (j := jh) (by omega)]))) (hBg.actP hw.1 (by rw [a1 1 (by decide)]; exact hS.1) (fun i h1 h2 => uA_n (by omega)) (fun i hi => lkZ_n hi) hj8 ?_ (fun q hq => by rw [uA_s]; exact hf.2.2.2.2 q hq))
      rw [uA_s]
      refine ⟨hf.1, hf.2.1, hf.2.2.1, fun i hi => ?_⟩
      have hi : i < trW (pcS S (nI j1)).2.1 (pcS S (nI j1)).2.2.1 (jh % 4) * trW (pcS S (nI j1)).2.2.1 (pcS S (nI j1)).2.1 (jh % 4) := hi
      have wp : 0 < trW (pcS S (nI j1)).2.1 (pcS S (nI j1)).2.2.1 (jh % 4) := by
        rcases Nat.eq_zero_or_pos (trW (pcS S (nI j1)).2.1 (pcS S (nI j1)).2.2.1 (jh % 4)) with z | z
        · rw [z, Nat.zero_mul] at hi; omega
        · exact z
      have hlt := trF_lt (m := decide (4 ≤ jh)) (show jh % 4 < 4 by omega) (Nat.mod_lt i wp) ((Nat.div_lt_iff_lt_mul wp).mpr (by rw [Nat.mul_comm]; exact hi))
      rw [hf.2.2.2.1 i hi (by rw [Nat.mul_comm]; exact hlt)]
      exact lk_px pr2 ar1 hlt
    · refine ⟨?_, ?_, ?_, fun i hi hn => absurd hn (by omega), fun i hi => ?_⟩
      · exact (bcF_row (j := j8) (k := (pcS S (nI j1)).1) (f := lkA A1 j1 1) ar2).1
      · exact (bcF_row (j := j8) (k := (pcS S (nI j1)).1) (f := lkA A1 j1 1) ar2).2.1
      · exact (bcF_row (j := j8) (k := (pcS S (nI j1)).1) (f := lkA A1 j1 1) ar2).2.2.1
      · rw [bcF_out i hi]; rfl
  refine Gm.enter (L := [some (.ref m), some (.int p), some (.int q), some (.int how), none, none, none, none, none, none, none, none]) (by decide) (fun _ => trivial) (Nat.le_of_ble_eq_true rfl) rfl ?_
  refine gk_iload1 dX11_turn_0 (pc' := 1) rfl ?_
  refine gk_cS1_1 mz_Mo_isPicture gw_882 dX11_turn_1 (pc' := 4) rfl (Nat.le_of_ble_eq_true rfl) (sp_Mo_isPicture (fun j1 hj1 ej1 => ?_) (fun n1 => ?_))
  · refine ⟨_, rfl, ?_⟩
    subst ej1
    have zj1 : (nI j1).toInt = j1 := nI_toInt (by omega)
    have yj1 : (nI j1).toInt.toNat = j1 := by omega
    have pr1 := hS.picS hj1
    have ok1 := hw.okp hj1
    have wt1 := ok1.wt
    have ar1 := ok1.ar
    refine gk_if_eq dX11_turn_4 (tgt := 26) (pc' := 7) (by decide) rfl (fun c => absurd c (by decide)) (fun _ => ?_)
    refine gk_iload2 dX11_turn_7 (pc' := 8) rfl ?_
    refine gk_cS1_1 mz_Mo_isPicture gw_882 dX11_turn_8 (pc' := 11) rfl (Nat.le_of_ble_eq_true rfl) (sp_Mo_isPicture (fun j8 hj8 ej8 => ?_) (fun n8 => ?_))
    · refine ⟨_, rfl, ?_⟩
      subst ej8
      have zj8 : (nI j8).toInt = j8 := nI_toInt (by omega)
      have yj8 : (nI j8).toInt.toNat = j8 := by omega
      have pr8 := hS.picS hj8
      have ok8 := hw.okp hj8
      have wt8 := ok8.wt
      have ar8 := ok8.ar
      refine gk_if_eq dX11_turn_11 (tgt := 26) (pc' := 14) (by decide) rfl (fun c => absurd c (by decide)) (fun _ => ?_)
      refine gk_iload3 dX11_turn_14 (pc' := 15) rfl ?_
      refine gk_i2l dX11_turn_15 (pc' := 16) rfl ?_
      refine gk_lconst (v := 0) dX11_turn_16 (pc' := 17) rfl (by decide) ?_
      refine gk_ldc2 dX11_turn_17 (pc' := 20) rfl gw_885 ?_
      refine gk_cS1_3 mz_Mo_in gw_886 dX11_turn_20 (pc' := 23) rfl (Nat.le_of_ble_eq_true rfl) (sp_Mo_in (fun u20 v20 => ?_) (fun n20 => ?_))
      · refine ⟨_, rfl, ?_⟩
        obtain ⟨jh, hjh, rfl⟩ := pu_of (x := how) (n := 8) (by omega) (by omega) (by omega)
        refine gk_if_ne dX11_turn_23 (tgt := 29) (pc' := 26) (by decide) rfl (fun _ => ?_) (fun c => absurd c (by decide))
        refine gk_aload0 dX11_turn_29 (pc' := 30) rfl ?_
        refine gk_iload1 dX11_turn_30 (pc' := 31) rfl ?_
        refine gk_cV1_1 mv_Mo_isThere gw_905 dX11_turn_31 (pc' := 34) rfl (Nat.le_of_ble_eq_true rfl) (by exact (mkJ)) (sp_Mo_isThere pr1 hj1 ok1 (fun k31 => ?_) (fun k31 => ?_))
        · refine ⟨_, rfl, ?_⟩
          refine gk_if_ne dX11_turn_34 (tgt := 40) (pc' := 37) (by decide) rfl (fun _ => ?_) (fun c => absurd c (by decide))
          refine gk_aload0 dX11_turn_40 (pc' := 41) rfl ?_
          refine gk_cV0_0 mv_Mo_begin gw_892 dX11_turn_41 (pc' := 44) rfl (Nat.le_of_ble_eq_true rfl) (by exact (mkJ)) (sp_Mo_begin hS hw.1 (fun A1 Z1 a1 a2 hBg => ?_))
          refine ⟨rfl, ?_⟩
          have pr2 : pRow (A1 1) (259 * j1) (pcS S (nI j1)) := by rw [a1 1 (by decide)]; exact pr1
          refine gk_aload0 dX11_turn_44 (pc' := 45) rfl ?_
          refine gk_iload1 dX11_turn_45 (pc' := 46) rfl ?_
          refine gk_cV0_1 mv_Mo_look gw_952 dX11_turn_46 (pc' := 49) rfl (Nat.le_of_ble_eq_true rfl) (by exact (mkJ)) (sp_Mo_look pr2 hj1 ?_)
          refine ⟨rfl, ?_⟩
          refine gk_aload0 dX11_turn_49 (pc' := 50) rfl ?_
          refine gk_getf (fs := [_, _, _, _, _, _, _, _, _, _, _, _, _, _, _, _, _, _, _, _, _, _, _, _, _, _]) gF_Mo_138 dX11_turn_50 (pc' := 53) rfl (by exact (mkJ)) rfl ?_
          rw [show lkZ Z1 (pcS S (nI j1)).2.1 (pcS S (nI j1)).2.2.1 4 = nI (pcS S (nI j1)).2.1 from rfl]
          refine gk_istore4 dX11_turn_53 (pc' := 55) rfl (by decide) rfl ?_
          refine gk_aload0 dX11_turn_55 (pc' := 56) rfl ?_
          refine gk_getf (fs := [_, _, _, _, _, _, _, _, _, _, _, _, _, _, _, _, _, _, _, _, _, _, _, _, _, _]) gF_Mo_141 dX11_turn_56 (pc' := 59) rfl (by exact (mkJ)) rfl ?_
          rw [show lkZ Z1 (pcS S (nI j1)).2.1 (pcS S (nI j1)).2.2.1 5 = nI (pcS S (nI j1)).2.2.1 from rfl]
          refine gk_istore5 dX11_turn_59 (pc' := 61) rfl (by decide) rfl ?_
          refine gk_iload3 dX11_turn_61 (pc' := 62) rfl ?_
          refine gk_iconst (v := nI 2) dX11_turn_62 (pc' := 63) rfl (by decide) ?_
          refine gk_iremN dX11_turn_63 (pc' := 64) rfl (by omega) (by omega) (by omega) ?_
          refine gk_iconst (v := 1) dX11_turn_64 (pc' := 65) rfl (by decide) ?_
          refine gk_icmp_ne dX11_turn_65 (tgt := 72) (pc' := 68) (by decide) rfl (fun c65 => ?_) (fun c65 => ?_)
          · have q0 : ¬ jh % 4 % 2 = 1 := fun e => c65 (by rw [show jh % 2 = 1 by omega]; rfl)
            have eW : nI (trW (pcS S (nI j1)).2.1 (pcS S (nI j1)).2.2.1 (jh % 4)) = nI (pcS S (nI j1)).2.1 := by unfold trW; rw [if_neg q0]
            have eT : nI (trW (pcS S (nI j1)).2.2.1 (pcS S (nI j1)).2.1 (jh % 4)) = nI (pcS S (nI j1)).2.2.1 := by unfold trW; rw [if_neg q0]
            refine gk_iconst (v := 0) dX11_turn_72 (pc' := 73) rfl (by decide) ?_
            refine gk_istore6 dX11_turn_73 (pc' := 75) rfl (by decide) rfl ?_
            refine gk_aload0 dX11_turn_75 (pc' := 76) rfl ?_
            refine gk_iload2 dX11_turn_76 (pc' := 77) rfl ?_
            refine gk_aload0 dX11_turn_77 (pc' := 78) rfl ?_
            refine gk_iload1 dX11_turn_78 (pc' := 79) rfl ?_
            refine gk_cV1_1 mv_Mo_kindOf gw_921 dX11_turn_79 (pc' := 82) rfl (Nat.le_of_ble_eq_true rfl) (by exact (mkJ)) (sp_Mo_kindOf (c := pcS S (nI j1)) pr2 hj1 ?_)
            refine ⟨_, rfl, ?_⟩
            refine gk_iload6 dX11_turn_82 (pc' := 84) rfl ?_
            refine gk_if_eq dX11_turn_84 (tgt := 92) (pc' := 87) (by decide) rfl (fun _ => ?_) (fun c => absurd c (by decide))
            refine gk_iload4 dX11_turn_92 (pc' := 94) rfl ?_
            refine gk_iload6 dX11_turn_94 (pc' := 96) rfl ?_
            refine gk_if_eq dX11_turn_96 (tgt := 104) (pc' := 99) (by decide) rfl (fun _ => ?_) (fun c => absurd c (by decide))
            refine gk_iload5 dX11_turn_104 (pc' := 106) rfl ?_
            have q := fun ly => fin j1 j8 jh ly A1 Z1 hj1 hj8 hjh rfl rfl rfl k31 a1 hBg
            rw [eW, eT] at q
            exact q _
          · have q0 : jh % 4 % 2 = 1 := by have := nI_inj (a := jh % 2) (c := 1) (by omega) (by omega) c65; omega
            have eW : nI (trW (pcS S (nI j1)).2.1 (pcS S (nI j1)).2.2.1 (jh % 4)) = nI (pcS S (nI j1)).2.2.1 := by unfold trW; rw [if_pos q0]
            have eT : nI (trW (pcS S (nI j1)).2.2.1 (pcS S (nI j1)).2.1 (jh % 4)) = nI (pcS S (nI j1)).2.1 := by unfold trW; rw [if_pos q0]
            refine gk_iconst (v := 1) dX11_turn_68 (pc' := 69) rfl (by decide) ?_
            refine gk_goto dX11_turn_69 (tgt := 73) (by decide) ?_
            refine gk_istore6 dX11_turn_73 (pc' := 75) rfl (by decide) rfl ?_
            refine gk_aload0 dX11_turn_75 (pc' := 76) rfl ?_
            refine gk_iload2 dX11_turn_76 (pc' := 77) rfl ?_
            refine gk_aload0 dX11_turn_77 (pc' := 78) rfl ?_
            refine gk_iload1 dX11_turn_78 (pc' := 79) rfl ?_
            refine gk_cV1_1 mv_Mo_kindOf gw_921 dX11_turn_79 (pc' := 82) rfl (Nat.le_of_ble_eq_true rfl) (by exact (mkJ)) (sp_Mo_kindOf (c := pcS S (nI j1)) pr2 hj1 ?_)
            refine ⟨_, rfl, ?_⟩
            refine gk_iload6 dX11_turn_82 (pc' := 84) rfl ?_
            refine gk_if_eq dX11_turn_84 (tgt := 92) (pc' := 87) (by decide) rfl (fun c => absurd c (by decide)) (fun _ => ?_)
            refine gk_iload5 dX11_turn_87 (pc' := 89) rfl ?_
            refine gk_goto dX11_turn_89 (tgt := 94) (by decide) ?_
            refine gk_iload6 dX11_turn_94 (pc' := 96) rfl ?_
            refine gk_if_eq dX11_turn_96 (tgt := 104) (pc' := 99) (by decide) rfl (fun c => absurd c (by decide)) (fun _ => ?_)
            refine gk_iload4 dX11_turn_99 (pc' := 101) rfl ?_
            refine gk_goto dX11_turn_101 (tgt := 106) (by decide) ?_
            have q := fun ly => fin j1 j8 jh ly A1 Z1 hj1 hj8 hjh rfl rfl rfl k31 a1 hBg
            rw [eW, eT] at q
            exact q _
        · refine ⟨_, rfl, ?_⟩
          refine gk_if_ne dX11_turn_34 (tgt := 40) (pc' := 37) (by decide) rfl (fun c => absurd c (by decide)) (fun _ => ?_)
          refine gk_ldc dX11_turn_37 (pc' := 39) rfl gw_869 ?_
          refine gk_iret dX11_turn_39 rfl (hB _ ((if_pos (by omega)).trans (if_pos k31)))
      · refine ⟨_, rfl, ?_⟩
        refine gk_if_ne dX11_turn_23 (tgt := 29) (pc' := 26) (by decide) rfl (fun c => absurd c (by decide)) (fun _ => ?_)
        refine gk_ldc dX11_turn_26 (pc' := 28) rfl gw_891 ?_
        refine gk_iret dX11_turn_28 rfl (hB _ (if_neg (by omega)))
    · refine ⟨_, rfl, ?_⟩
      refine gk_if_eq dX11_turn_11 (tgt := 26) (pc' := 14) (by decide) rfl (fun _ => ?_) (fun c => absurd c (by decide))
      refine gk_ldc dX11_turn_26 (pc' := 28) rfl gw_891 ?_
      refine gk_iret dX11_turn_28 rfl (hB _ (if_neg (by omega)))
  · refine ⟨_, rfl, ?_⟩
    refine gk_if_eq dX11_turn_4 (tgt := 26) (pc' := 7) (by decide) rfl (fun _ => ?_) (fun c => absurd c (by decide))
    refine gk_ldc dX11_turn_26 (pc' := 28) rfl gw_891 ?_
    refine gk_iret dX11_turn_28 rfl (hB _ (if_neg (by omega)))
end MoH
