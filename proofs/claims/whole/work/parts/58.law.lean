/-! ===== the law's loop ===== -/
abbrev lawM (nm : String) (b0 L : Nat) (xs : Nat → Int32) : gk_M := (⟨"DarkRoomLaw", nm, "([I)Z"⟩, cL_law, 4, some .boolean, fun U => va_X b0 L xs U U.heap ∧ b0 < U.heap.size)
def LawI (X : gX) (h : gk_H) (r : Nat) (S : St) : Prop := Room X h r (r + 160) S ∧ Mod X h (r + 140) S ∧ nnF S.2.1
theorem and31 (x : Int32) : ∃ j, j < 32 ∧ x &&& 31 = nI j := by
  refine ⟨(x &&& 31).toBitVec.toNat, ?_, ?_⟩
  · rw [Int32.toBitVec_and, BitVec.toNat_and]
    exact Nat.lt_of_le_of_lt Nat.and_le_right (by decide)
  · apply Int32.toBitVec_inj.mp
    apply BitVec.eq_of_toNat_eq
    rw [show (nI (x &&& 31).toBitVec.toNat).toBitVec = BitVec.ofNat 32 (x &&& 31).toBitVec.toNat from rfl, BitVec.toNat_ofNat, Nat.mod_eq_of_lt (BitVec.isLt _)]
section Law
variable {X : gX} {K : gk_K} {d bc bs : Nat} {b : Nat × Nat} {h h' : gk_H} {Q : Option Value → gk_H → Prop} {r k b0 L pc pc' : Nat} {xs : Nat → Int32} {nm : String} {S : St} {Ls : List (Option Value)} {st : List Value}
theorem gk_sld {i : Int32} (hb : b0 < K.2.2.2) (hd : decode cL_law pc = .ok (.iaload, 1)) (hp : pc + 1 = pc') (hin : vp_in i L) (k : G K (lawM nm b0 L xs) d b pc' Ls (.int (xs i.toNatClampNeg) :: st) h Q) : G K (lawM nm b0 L xs) d b pc Ls (.int i :: .ref b0 :: st) h Q := by
  subst hp
  intro p e s m args below meth c H locs cells slots mc ms ls C hR hS hL h1 h2
  obtain ⟨c1, c2, c3, c4, c5, c6, c7, c8, c9, c10, c11, hX, hbl⟩ := id C
  exact va_sld c1 c2 hX hbl (Nat.not_le.mpr hb) hS hin hd (k p e s m args below meth c H locs cells slots mc ms ls C hR hS hL h1 h2)
theorem gk_slen (hb : b0 < K.2.2.2) (hd : decode cL_law pc = .ok (.arraylength, 1)) (hp : pc + 1 = pc') (k : G K (lawM nm b0 L xs) d b pc' Ls (.int (Int32.ofNat L) :: st) h Q) : G K (lawM nm b0 L xs) d b pc Ls (.ref b0 :: st) h Q := by
  subst hp
  intro p e s m args below meth c H locs cells slots mc ms ls C hR hS hL h1 h2
  obtain ⟨c1, c2, c3, c4, c5, c6, c7, c8, c9, c10, c11, hX, hbl⟩ := id C
  exact va_slen c1 c2 hX hbl (Nat.not_le.mpr hb) hS hd (k p e s m args below meth c H locs cells slots mc ms ls C hR hS hL h1 h2)
theorem gk_argI {j : Nat} {n : Int} {l1 l2 : Option Value} (hb : b0 < K.2.2.2) (hk : 8 * k + 8 ≤ L) (hL : L ≤ 4096) (hj : j < 8) (hv : Int32.ofInt n = nI j) (hp : pc + 5 = pc') (h1 : decode cL_law pc = .ok (.aload_n 0, 1)) (h2 : decode cL_law (pc + 1) = .ok (.iload_n 3, 1)) (h3 : decode cL_law (pc + 2) = .ok (.iconst n, 1)) (h4 : decode cL_law (pc + 3) = .ok (.iadd, 1)) (h5 : decode cL_law (pc + 4) = .ok (.iaload, 1)) (kk : G K (lawM nm b0 L xs) d b pc' [some (.ref b0), l1, l2, some (.int (nI (8 * k)))] (.int (xs (8 * k + j)) :: st) h Q) : G K (lawM nm b0 L xs) d b pc [some (.ref b0), l1, l2, some (.int (nI (8 * k)))] st h Q := by
  refine gk_aload0 h1 rfl ?_
  refine gk_iload3 h2 rfl ?_
  refine gk_iconst (v := nI j) h3 rfl hv ?_
  refine gk_iaddN h4 rfl ?_
  refine gk_sld hb h5 (by omega) (vp_in_nI (by omega) (by omega)) ?_
  rw [nI_clamp (by omega)]
  exact kk
theorem gk_argB {j : Nat} {n : Int} {l1 l2 : Option Value} (hb : b0 < K.2.2.2) (hk : 8 * k + 8 ≤ L) (hL : L ≤ 4096) (hj : j < 8) (hv : (Int8.ofInt n).toInt32 = nI j) (hp : pc + 6 = pc') (h1 : decode cL_law pc = .ok (.aload_n 0, 1)) (h2 : decode cL_law (pc + 1) = .ok (.iload_n 3, 1)) (h3 : decode cL_law (pc + 2) = .ok (.bipush n, 2)) (h4 : decode cL_law (pc + 4) = .ok (.iadd, 1)) (h5 : decode cL_law (pc + 5) = .ok (.iaload, 1)) (kk : G K (lawM nm b0 L xs) d b pc' [some (.ref b0), l1, l2, some (.int (nI (8 * k)))] (.int (xs (8 * k + j)) :: st) h Q) : G K (lawM nm b0 L xs) d b pc [some (.ref b0), l1, l2, some (.int (nI (8 * k)))] st h Q := by
  refine gk_aload0 h1 rfl ?_
  refine gk_iload3 h2 rfl ?_
  refine gk_bipush (v := nI j) h3 rfl hv ?_
  refine gk_iaddN h4 rfl ?_
  refine gk_sld hb h5 (by omega) (vp_in_nI (by omega) (by omega)) ?_
  rw [nI_clamp (by omega)]
  exact kk
theorem Room.wf (hR : Room X h r (r + 160) S) : wfS S := by
  obtain ⟨hF, pc, mc, hR, hc, hm, hS, hT⟩ := hR
  exact ⟨hR.2.2.2.2.2.1, hR.2.2.2.2.2.2, hT.1, hT.2.1⟩
theorem Room.obj (hR : Room X h r (r + 160) S) : ∃ fs, h.1 r = some (.inr (10, fs)) := by
  obtain ⟨hF, pc, mc, hR, hc, hm, hS, hT⟩ := hR
  exact ⟨_, hR.obj⟩
theorem Mod.obj {m : Nat} (hM : Mod X h m S) : ∃ fs, h.1 m = some (.inr (11, fs)) := by
  obtain ⟨h0, A, Z, rfl, hS⟩ := hM
  exact ⟨_, mkJ⟩
theorem Room.mo (hR : Room X h r (r + 160) S) (hf : frO (r + 140) h h') : Room X h' r (r + 160) S := by
  obtain ⟨hF, pc, mc, hR, ⟨c, hc⟩, ⟨R, hm⟩, hS, hT⟩ := hR
  have x1 := (hR.I.1 8 (by decide)).fx
  have x2 := (hR.I.2.2.1 6 (by decide)).fx
  refine ⟨hF, pc, mc, hR.keep hF hf.1 (fun c n => hf.2 c (by unfold rmK at n; omega)), ⟨c, hc.kept (hf.2 _ (by omega)) (hf.2 _ (by omega))⟩, ⟨R, hm.kept (hf.2 _ (by omega)) (hf.2 _ (by omega))⟩, hS.kept (fun c c1 c2 => hf.2 _ (by omega)), hT.kept (hf.2 _ (by omega)) (hf.2 _ (by omega))⟩
theorem LawI.cl (hI : LawI X h r S) (f : frC r (r + 160) h h') : Mod X h' (r + 140) S := hI.2.1.kept (fun c c1 c2 => f c (Or.inr ⟨c1, by omega⟩))
theorem nn_picture {p : Int32} {k : Int32} {w : Int32} {t : Int32} (hn : nnF S.2.1) : nnF (oPicture S p k w t).2.2.1 := by
  unfold oPicture
  (repeat' split) <;> exact hn
theorem nn_put {p : Int32} {x : Int32} {y : Int32} {v : Int32} (hn : nnF S.2.1) : nnF (oPut S p x y v).2.2.1 := by
  unfold oPut
  (repeat' split) <;> exact hn
theorem nn_feed {p : Int32} {x : Int32} {y : Int32} {lw : Int64} {n : Int32} (hn : nnF S.2.1) : nnF (oFeed S p x y lw n).2.2.1 := by
  unfold oFeed
  (repeat' split) <;> exact hn
theorem nn_at {p : Int32} {x : Int32} {y : Int32} {e : Int32} (hn : nnF S.2.1) : nnF (oAt S p x y e).2.2.1 := by
  unfold oAt
  (repeat' split) <;> exact hn
theorem nn_about {p : Int32} {w : Int32} (hn : nnF S.2.1) : nnF (oAbout S p w).2.2.1 := by
  unfold oAbout
  (repeat' split) <;> exact hn
theorem nn_convert {p : Int32} {q : Int32} {k : Int32} {rule : Int32} (hn : nnF S.2.1) : nnF (oConvert S p q k rule).2.2.1 := by
  unfold oConvert
  (repeat' split) <;> exact hn
theorem nn_cut {p : Int32} {q : Int32} {x : Int32} {y : Int32} {w : Int32} {t : Int32} {e : Int32} (hn : nnF S.2.1) : nnF (oCut S p q x y w t e).2.2.1 := by
  unfold oCut
  (repeat' split) <;> exact hn
theorem nn_turn {p : Int32} {q : Int32} {how : Int32} (hn : nnF S.2.1) : nnF (oTurn S p q how).2.2.1 := by
  unfold oTurn
  (repeat' split) <;> exact hn
theorem nn_unlike {p : Int32} {q : Int32} (hn : nnF S.2.1) : nnF (oUnlike S p q).2.2.1 := by
  unfold oUnlike
  (repeat' split) <;> exact hn
theorem nn_filter {k : Int32} {a : Int32} {c : Int32} (hn : nnF S.2.1) : nnF (oFilter S k a c).2.2.1 := by
  unfold oFilter
  split
  · rename_i ok
    split
    · exact hn
    · intro i hi
      have hi : i < S.2.1.1 + 1 := hi
      by_cases e : i = S.2.1.1
      · subst e
        show ((upd S.2.1.2.1 S.2.1.1 k) S.2.1.1 = 6 ∨ (upd S.2.1.2.1 S.2.1.1 k) S.2.1.1 = 8 → 0 ≤ ((upd S.2.1.2.2.1 S.2.1.1 a) S.2.1.1).toInt ∧ 0 ≤ ((upd S.2.1.2.2.2.1 S.2.1.1 c) S.2.1.1).toInt) ∧ ((upd S.2.1.2.1 S.2.1.1 k) S.2.1.1 = 7 → 0 ≤ ((upd S.2.1.2.2.2.1 S.2.1.1 c) S.2.1.1).toInt)
        rw [pk_us, pk_us, pk_us]
        have o1 := ok.1
        refine ⟨fun k68 => ?_, fun k7 => ?_⟩
        · rcases o1 with ⟨z | z, z2⟩ | z | ⟨z, z2⟩ | ⟨z, z2⟩ | ⟨z, z2⟩ | ⟨z, z2, z3⟩ | ⟨z, z2, z3⟩
          · rw [z] at k68; exact absurd k68 (by decide)
          · rw [z] at k68; exact absurd k68 (by decide)
          · rw [z] at k68; exact absurd k68 (by decide)
          · rw [z] at k68; exact absurd k68 (by decide)
          · rw [z] at k68; exact absurd k68 (by decide)
          · rw [z] at k68; exact absurd k68 (by decide)
          · exact ⟨z2.1, z3.1⟩
          · rw [z] at k68; exact absurd k68 (by decide)
        · rcases o1 with ⟨z | z, z2⟩ | z | ⟨z, z2⟩ | ⟨z, z2⟩ | ⟨z, z2⟩ | ⟨z | z, z2, z3⟩ | ⟨z, z2, z3⟩
          · rw [z] at k7; exact absurd k7 (by decide)
          · rw [z] at k7; exact absurd k7 (by decide)
          · rw [z] at k7; exact absurd k7 (by decide)
          · rw [z] at k7; exact absurd k7 (by decide)
          · rw [z] at k7; exact absurd k7 (by decide)
          · rw [z] at k7; exact absurd k7 (by decide)
          · rw [z] at k7; exact absurd k7 (by decide)
          · rw [z] at k7; exact absurd k7 (by decide)
          · exact z3.1
      · show ((upd S.2.1.2.1 S.2.1.1 k) i = 6 ∨ (upd S.2.1.2.1 S.2.1.1 k) i = 8 → 0 ≤ ((upd S.2.1.2.2.1 S.2.1.1 a) i).toInt ∧ 0 ≤ ((upd S.2.1.2.2.2.1 S.2.1.1 c) i).toInt) ∧ ((upd S.2.1.2.1 S.2.1.1 k) i = 7 → 0 ≤ ((upd S.2.1.2.2.2.1 S.2.1.1 c) i).toInt)
        rw [pk_un e, pk_un e, pk_un e]
        exact hn i (by omega)
  · exact hn
theorem nn_weight {f : Int32} {i : Int32} {v : Int32} (hn : nnF S.2.1) : nnF (oWeight S f i v).2.2.1 := by
  unfold oWeight
  (repeat' split) <;> exact hn
theorem nn_apply {p : Int32} {f : Int32} {e : Int32} (hn : nnF S.2.1) : nnF (oApply S p f e).2.2.1 := by
  unfold oApply
  (repeat' split) <;> exact hn
theorem nn_mask {m : Int32} {x : Int32} {y : Int32} {on : Bool} (hn : nnF S.2.1) : nnF (oMask S m x y on).2.2.1 := by
  unfold oMask
  (repeat' split) <;> exact hn
theorem nn_maskOf {m : Int32} {p : Int32} {lo : Int32} {hi : Int32} (hn : nnF S.2.1) : nnF (oMaskOf S m p lo hi).2.2.1 := by
  unfold oMaskOf
  (repeat' split) <;> exact hn
theorem nn_maskBy {m : Int32} {n : Int32} {how : Int32} (hn : nnF S.2.1) : nnF (oMaskBy S m n how).2.2.1 := by
  unfold oMaskBy
  (repeat' split) <;> exact hn
theorem nn_isOn {p : Int32} {x : Int32} {y : Int32} (hn : nnF S.2.1) : nnF (oIsOn S p x y).2.2.1 := by
  unfold oIsOn
  (repeat' split) <;> exact hn
theorem nn_fill {p : Int32} {x : Int32} {y : Int32} {t : Int32} {v : Int32} (hn : nnF S.2.1) : nnF (oFill S p x y t v).2.2.1 := by
  unfold oFill
  (repeat' split) <;> exact hn
theorem nn_dither {p : Int32} {n : Int32} (hn : nnF S.2.1) : nnF (oDither S p n).2.2.1 := by
  unfold oDither
  (repeat' split) <;> exact hn
theorem nn_even {p : Int32} (hn : nnF S.2.1) : nnF (oEven S p).2.2.1 := by
  unfold oEven
  (repeat' split) <;> exact hn
theorem nn_energy {p : Int32} {x : Int32} {y : Int32} (hn : nnF S.2.1) : nnF (oEnergy S p x y).2.2.1 := by
  unfold oEnergy
  (repeat' split) <;> exact hn
theorem nn_seam {p : Int32} {y : Int32} (hn : nnF S.2.1) : nnF (oSeam S p y).2.2.1 := by
  unfold oSeam
  (repeat' split) <;> exact hn
theorem nn_seamGoes {p : Int32} {how : Int32} (hn : nnF S.2.1) : nnF (oSeamGoes S p how).2.2.1 := by
  unfold oSeamGoes
  (repeat' split) <;> exact hn
theorem nn_runs {p : Int32} {i : Int32} (hn : nnF S.2.1) : nnF (oRuns S p i).2.2.1 := by
  unfold oRuns
  (repeat' split) <;> exact hn
theorem nn_read {p : Int32} (hn : nnF S.2.1) : nnF (oRead S p).2.2.1 := by
  unfold oRead
  (repeat' split) <;> exact hn
theorem nn_byteTo {v : Int32} (hn : nnF S.2.1) : nnF (oByteTo S v).2.2.1 := by
  unfold oByteTo
  (repeat' split) <;> exact hn
theorem nn_undo  (hn : nnF S.2.1) : nnF (oUndo S ).2.2.1 := by
  unfold oUndo
  (repeat' split) <;> exact hn
theorem nn_redo  (hn : nnF S.2.1) : nnF (oRedo S ).2.2.1 := by
  unfold oRedo
  (repeat' split) <;> exact hn
theorem nn_count {w : Int32} (hn : nnF S.2.1) : nnF (oCount S w).2.2.1 := by
  unfold oCount
  (repeat' split) <;> exact hn
theorem lc_picture (hb : b0 < X.2.2.2) (hk : 8 * k + 8 ≤ L) (hL : L ≤ 4096) (hI : LawI X h r S) (hN : ∀ h', LawI X h' r (oPicture S (xs (8 * k + 1)) (xs (8 * k + 2)) (xs (8 * k + 3)) (xs (8 * k + 4))).2 → G (kx X) (lawM nm b0 L xs) (d + 13) (bc, bs) 1356 [some (.ref b0), some (.ref r), some (.ref (r + 140)), some (.int (nI (8 * k)))] [] h' Q) : G (kx X) (lawM nm b0 L xs) (d + 13) (bc + 2, bs + 16) 160 [some (.ref b0), some (.ref r), some (.ref (r + 140)), some (.int (nI (8 * k)))] [] h Q := by
  obtain ⟨fo, ho⟩ := hI.1.obj
  refine gk_aload1 dL_law_160 (pc' := 161) rfl ?_
  refine gk_argI (j := 1) (pc' := 166) hb hk hL (by decide) (by decide) rfl dL_law_161 dL_law_162 dL_law_163 dL_law_164 dL_law_165 ?_
  refine gk_argI (j := 2) (pc' := 171) hb hk hL (by decide) (by decide) rfl dL_law_166 dL_law_167 dL_law_168 dL_law_169 dL_law_170 ?_
  refine gk_argI (j := 3) (pc' := 176) hb hk hL (by decide) (by decide) rfl dL_law_171 dL_law_172 dL_law_173 dL_law_174 dL_law_175 ?_
  refine gk_argI (j := 4) (pc' := 181) hb hk hL (by decide) (by decide) rfl dL_law_176 dL_law_177 dL_law_178 dL_law_179 dL_law_180 ?_
  refine gk_cV1_4 mv_Room_picture gw_233 dL_law_181 (pc' := 184) rfl (Nat.le_of_ble_eq_true rfl) ho (cl_picture hI.1 (fun h1 R1 f1 => ?_))
  refine ⟨_, rfl, ?_⟩
  have M1 := hI.cl f1
  obtain ⟨fm, hm⟩ := M1.obj
  refine gk_aload2 dL_law_184 (pc' := 185) rfl ?_
  refine gk_argI (j := 1) (pc' := 190) hb hk hL (by decide) (by decide) rfl dL_law_185 dL_law_186 dL_law_187 dL_law_188 dL_law_189 ?_
  refine gk_argI (j := 2) (pc' := 195) hb hk hL (by decide) (by decide) rfl dL_law_190 dL_law_191 dL_law_192 dL_law_193 dL_law_194 ?_
  refine gk_argI (j := 3) (pc' := 200) hb hk hL (by decide) (by decide) rfl dL_law_195 dL_law_196 dL_law_197 dL_law_198 dL_law_199 ?_
  refine gk_argI (j := 4) (pc' := 205) hb hk hL (by decide) (by decide) rfl dL_law_200 dL_law_201 dL_law_202 dL_law_203 dL_law_204 ?_
  refine gk_cV1_4 mv_Mo_picture gw_878 dL_law_205 (pc' := 208) rfl (Nat.le_of_ble_eq_true rfl) hm (mo_picture M1 hI.1.wf (fun h2 M2 f2 => ?_))
  refine ⟨_, rfl, ?_⟩
  exact gk_icmp_eq dL_law_208 (tgt := 1356) (pc' := 211) (by decide) rfl (fun _ => G.bud (b' := (bc, bs)) (Nat.le_add_right bc 2) (Nat.le_add_right bs 16) (hN h2 ⟨R1.mo f2, M2, nn_picture hI.2.2⟩)) (fun c => absurd rfl c)
theorem lc_put (hb : b0 < X.2.2.2) (hk : 8 * k + 8 ≤ L) (hL : L ≤ 4096) (hI : LawI X h r S) (hN : ∀ h', LawI X h' r (oPut S (xs (8 * k + 1)) (xs (8 * k + 2)) (xs (8 * k + 3)) (xs (8 * k + 4))).2 → G (kx X) (lawM nm b0 L xs) (d + 13) (bc, bs) 1356 [some (.ref b0), some (.ref r), some (.ref (r + 140)), some (.int (nI (8 * k)))] [] h' Q) : G (kx X) (lawM nm b0 L xs) (d + 13) (bc + 2, bs + 16) 213 [some (.ref b0), some (.ref r), some (.ref (r + 140)), some (.int (nI (8 * k)))] [] h Q := by
  obtain ⟨fo, ho⟩ := hI.1.obj
  refine gk_aload1 dL_law_213 (pc' := 214) rfl ?_
  refine gk_argI (j := 1) (pc' := 219) hb hk hL (by decide) (by decide) rfl dL_law_214 dL_law_215 dL_law_216 dL_law_217 dL_law_218 ?_
  refine gk_argI (j := 2) (pc' := 224) hb hk hL (by decide) (by decide) rfl dL_law_219 dL_law_220 dL_law_221 dL_law_222 dL_law_223 ?_
  refine gk_argI (j := 3) (pc' := 229) hb hk hL (by decide) (by decide) rfl dL_law_224 dL_law_225 dL_law_226 dL_law_227 dL_law_228 ?_
  refine gk_argI (j := 4) (pc' := 234) hb hk hL (by decide) (by decide) rfl dL_law_229 dL_law_230 dL_law_231 dL_law_232 dL_law_233 ?_
  refine gk_cV1_4 mv_Room_put gw_277 dL_law_234 (pc' := 237) rfl (Nat.le_of_ble_eq_true rfl) ho (cl_put hI.1 (fun h1 R1 f1 => ?_))
  refine ⟨_, rfl, ?_⟩
  have M1 := hI.cl f1
  obtain ⟨fm, hm⟩ := M1.obj
  refine gk_aload2 dL_law_237 (pc' := 238) rfl ?_
  refine gk_argI (j := 1) (pc' := 243) hb hk hL (by decide) (by decide) rfl dL_law_238 dL_law_239 dL_law_240 dL_law_241 dL_law_242 ?_
  refine gk_argI (j := 2) (pc' := 248) hb hk hL (by decide) (by decide) rfl dL_law_243 dL_law_244 dL_law_245 dL_law_246 dL_law_247 ?_
  refine gk_argI (j := 3) (pc' := 253) hb hk hL (by decide) (by decide) rfl dL_law_248 dL_law_249 dL_law_250 dL_law_251 dL_law_252 ?_
  refine gk_argI (j := 4) (pc' := 258) hb hk hL (by decide) (by decide) rfl dL_law_253 dL_law_254 dL_law_255 dL_law_256 dL_law_257 ?_
  refine gk_cV1_4 mv_Mo_put gw_901 dL_law_258 (pc' := 261) rfl (Nat.le_of_ble_eq_true rfl) hm (mo_put M1 hI.1.wf (fun h2 M2 f2 => ?_))
  refine ⟨_, rfl, ?_⟩
  exact gk_icmp_eq dL_law_261 (tgt := 1356) (pc' := 264) (by decide) rfl (fun _ => G.bud (b' := (bc, bs)) (Nat.le_add_right bc 2) (Nat.le_add_right bs 16) (hN h2 ⟨R1.mo f2, M2, nn_put hI.2.2⟩)) (fun c => absurd rfl c)
theorem lc_feed (hb : b0 < X.2.2.2) (hk : 8 * k + 8 ≤ L) (hL : L ≤ 4096) (hI : LawI X h r S) (hN : ∀ h', LawI X h' r (oFeed S (xs (8 * k + 1)) (xs (8 * k + 2)) (xs (8 * k + 3)) (((xs (8 * k + 4)).toInt64 <<< ((32 : Int32).toInt64 &&& 63)) ||| ((xs (8 * k + 5)).toInt64 &&& 4294967295)) (xs (8 * k + 6))).2 → G (kx X) (lawM nm b0 L xs) (d + 13) (bc, bs) 1356 [some (.ref b0), some (.ref r), some (.ref (r + 140)), some (.int (nI (8 * k)))] [] h' Q) : G (kx X) (lawM nm b0 L xs) (d + 13) (bc + 2, bs + 16) 266 [some (.ref b0), some (.ref r), some (.ref (r + 140)), some (.int (nI (8 * k)))] [] h Q := by
  obtain ⟨fo, ho⟩ := hI.1.obj
  refine gk_aload1 dL_law_266 (pc' := 267) rfl ?_
  refine gk_argI (j := 1) (pc' := 272) hb hk hL (by decide) (by decide) rfl dL_law_267 dL_law_268 dL_law_269 dL_law_270 dL_law_271 ?_
  refine gk_argI (j := 2) (pc' := 277) hb hk hL (by decide) (by decide) rfl dL_law_272 dL_law_273 dL_law_274 dL_law_275 dL_law_276 ?_
  refine gk_argI (j := 3) (pc' := 282) hb hk hL (by decide) (by decide) rfl dL_law_277 dL_law_278 dL_law_279 dL_law_280 dL_law_281 ?_
  refine gk_argI (j := 4) (pc' := 287) hb hk hL (by decide) (by decide) rfl dL_law_282 dL_law_283 dL_law_284 dL_law_285 dL_law_286 ?_
  refine gk_i2l dL_law_287 (pc' := 288) rfl ?_
  refine gk_bipush (v := 32) dL_law_288 (pc' := 290) rfl (by decide) ?_
  refine gk_lshl dL_law_290 (pc' := 291) rfl ?_
  refine gk_argI (j := 5) (pc' := 296) hb hk hL (by decide) (by decide) rfl dL_law_291 dL_law_292 dL_law_293 dL_law_294 dL_law_295 ?_
  refine gk_i2l dL_law_296 (pc' := 297) rfl ?_
  refine gk_ldc2 dL_law_297 (pc' := 300) rfl gw_1159 ?_
  refine gk_land dL_law_300 (pc' := 301) rfl ?_
  refine gk_lor dL_law_301 (pc' := 302) rfl ?_
  refine gk_argB (j := 6) (pc' := 308) hb hk hL (by decide) (by decide) rfl dL_law_302 dL_law_303 dL_law_304 dL_law_306 dL_law_307 ?_
  refine gk_cV1_5 mv_Room_feed gw_318 dL_law_308 (pc' := 311) rfl (Nat.le_of_ble_eq_true rfl) ho (cl_feed hI.1 (fun h1 R1 f1 => ?_))
  refine ⟨_, rfl, ?_⟩
  have M1 := hI.cl f1
  obtain ⟨fm, hm⟩ := M1.obj
  refine gk_aload2 dL_law_311 (pc' := 312) rfl ?_
  refine gk_argI (j := 1) (pc' := 317) hb hk hL (by decide) (by decide) rfl dL_law_312 dL_law_313 dL_law_314 dL_law_315 dL_law_316 ?_
  refine gk_argI (j := 2) (pc' := 322) hb hk hL (by decide) (by decide) rfl dL_law_317 dL_law_318 dL_law_319 dL_law_320 dL_law_321 ?_
  refine gk_argI (j := 3) (pc' := 327) hb hk hL (by decide) (by decide) rfl dL_law_322 dL_law_323 dL_law_324 dL_law_325 dL_law_326 ?_
  refine gk_argI (j := 4) (pc' := 332) hb hk hL (by decide) (by decide) rfl dL_law_327 dL_law_328 dL_law_329 dL_law_330 dL_law_331 ?_
  refine gk_i2l dL_law_332 (pc' := 333) rfl ?_
  refine gk_bipush (v := 32) dL_law_333 (pc' := 335) rfl (by decide) ?_
  refine gk_lshl dL_law_335 (pc' := 336) rfl ?_
  refine gk_argI (j := 5) (pc' := 341) hb hk hL (by decide) (by decide) rfl dL_law_336 dL_law_337 dL_law_338 dL_law_339 dL_law_340 ?_
  refine gk_i2l dL_law_341 (pc' := 342) rfl ?_
  refine gk_ldc2 dL_law_342 (pc' := 345) rfl gw_1159 ?_
  refine gk_land dL_law_345 (pc' := 346) rfl ?_
  refine gk_lor dL_law_346 (pc' := 347) rfl ?_
  refine gk_argB (j := 6) (pc' := 353) hb hk hL (by decide) (by decide) rfl dL_law_347 dL_law_348 dL_law_349 dL_law_351 dL_law_352 ?_
  refine gk_cV1_5 mv_Mo_feed gw_935 dL_law_353 (pc' := 356) rfl (Nat.le_of_ble_eq_true rfl) hm (mo_feed M1 hI.1.wf (fun h2 M2 f2 => ?_))
  refine ⟨_, rfl, ?_⟩
  exact gk_icmp_eq dL_law_356 (tgt := 1356) (pc' := 359) (by decide) rfl (fun _ => G.bud (b' := (bc, bs)) (Nat.le_add_right bc 2) (Nat.le_add_right bs 16) (hN h2 ⟨R1.mo f2, M2, nn_feed hI.2.2⟩)) (fun c => absurd rfl c)
theorem lc_at (hb : b0 < X.2.2.2) (hk : 8 * k + 8 ≤ L) (hL : L ≤ 4096) (hI : LawI X h r S) (hN : ∀ h', LawI X h' r (oAt S (xs (8 * k + 1)) (xs (8 * k + 2)) (xs (8 * k + 3)) (xs (8 * k + 4))).2 → G (kx X) (lawM nm b0 L xs) (d + 13) (bc, bs) 1356 [some (.ref b0), some (.ref r), some (.ref (r + 140)), some (.int (nI (8 * k)))] [] h' Q) : G (kx X) (lawM nm b0 L xs) (d + 13) (bc + 2, bs + 16) 361 [some (.ref b0), some (.ref r), some (.ref (r + 140)), some (.int (nI (8 * k)))] [] h Q := by
  obtain ⟨fo, ho⟩ := hI.1.obj
  refine gk_aload1 dL_law_361 (pc' := 362) rfl ?_
  refine gk_argI (j := 1) (pc' := 367) hb hk hL (by decide) (by decide) rfl dL_law_362 dL_law_363 dL_law_364 dL_law_365 dL_law_366 ?_
  refine gk_argI (j := 2) (pc' := 372) hb hk hL (by decide) (by decide) rfl dL_law_367 dL_law_368 dL_law_369 dL_law_370 dL_law_371 ?_
  refine gk_argI (j := 3) (pc' := 377) hb hk hL (by decide) (by decide) rfl dL_law_372 dL_law_373 dL_law_374 dL_law_375 dL_law_376 ?_
  refine gk_argI (j := 4) (pc' := 382) hb hk hL (by decide) (by decide) rfl dL_law_377 dL_law_378 dL_law_379 dL_law_380 dL_law_381 ?_
  refine gk_cV1_4 mv_Room_at gw_326 dL_law_382 (pc' := 385) rfl (Nat.le_of_ble_eq_true rfl) ho (cl_at hI.1 (fun h1 R1 f1 => ?_))
  refine ⟨_, rfl, ?_⟩
  have M1 := hI.cl f1
  obtain ⟨fm, hm⟩ := M1.obj
  refine gk_aload2 dL_law_385 (pc' := 386) rfl ?_
  refine gk_argI (j := 1) (pc' := 391) hb hk hL (by decide) (by decide) rfl dL_law_386 dL_law_387 dL_law_388 dL_law_389 dL_law_390 ?_
  refine gk_argI (j := 2) (pc' := 396) hb hk hL (by decide) (by decide) rfl dL_law_391 dL_law_392 dL_law_393 dL_law_394 dL_law_395 ?_
  refine gk_argI (j := 3) (pc' := 401) hb hk hL (by decide) (by decide) rfl dL_law_396 dL_law_397 dL_law_398 dL_law_399 dL_law_400 ?_
  refine gk_argI (j := 4) (pc' := 406) hb hk hL (by decide) (by decide) rfl dL_law_401 dL_law_402 dL_law_403 dL_law_404 dL_law_405 ?_
  refine gk_cV1_4 mv_Mo_at gw_945 dL_law_406 (pc' := 409) rfl (Nat.le_of_ble_eq_true rfl) hm (mo_at M1 hI.1.wf (fun h2 M2 f2 => ?_))
  refine ⟨_, rfl, ?_⟩
  exact gk_icmp_eq dL_law_409 (tgt := 1356) (pc' := 412) (by decide) rfl (fun _ => G.bud (b' := (bc, bs)) (Nat.le_add_right bc 2) (Nat.le_add_right bs 16) (hN h2 ⟨R1.mo f2, M2, nn_at hI.2.2⟩)) (fun c => absurd rfl c)
theorem lc_about (hb : b0 < X.2.2.2) (hk : 8 * k + 8 ≤ L) (hL : L ≤ 4096) (hI : LawI X h r S) (hN : ∀ h', LawI X h' r (oAbout S (xs (8 * k + 1)) (xs (8 * k + 2))).2 → G (kx X) (lawM nm b0 L xs) (d + 13) (bc, bs) 1356 [some (.ref b0), some (.ref r), some (.ref (r + 140)), some (.int (nI (8 * k)))] [] h' Q) : G (kx X) (lawM nm b0 L xs) (d + 13) (bc + 2, bs + 16) 414 [some (.ref b0), some (.ref r), some (.ref (r + 140)), some (.int (nI (8 * k)))] [] h Q := by
  obtain ⟨fo, ho⟩ := hI.1.obj
  refine gk_aload1 dL_law_414 (pc' := 415) rfl ?_
  refine gk_argI (j := 1) (pc' := 420) hb hk hL (by decide) (by decide) rfl dL_law_415 dL_law_416 dL_law_417 dL_law_418 dL_law_419 ?_
  refine gk_argI (j := 2) (pc' := 425) hb hk hL (by decide) (by decide) rfl dL_law_420 dL_law_421 dL_law_422 dL_law_423 dL_law_424 ?_
  refine gk_cV1_2 mv_Room_about gw_354 dL_law_425 (pc' := 428) rfl (Nat.le_of_ble_eq_true rfl) ho (cl_about hI.1 (fun h1 R1 f1 => ?_))
  refine ⟨_, rfl, ?_⟩
  have M1 := hI.cl f1
  obtain ⟨fm, hm⟩ := M1.obj
  refine gk_aload2 dL_law_428 (pc' := 429) rfl ?_
  refine gk_argI (j := 1) (pc' := 434) hb hk hL (by decide) (by decide) rfl dL_law_429 dL_law_430 dL_law_431 dL_law_432 dL_law_433 ?_
  refine gk_argI (j := 2) (pc' := 439) hb hk hL (by decide) (by decide) rfl dL_law_434 dL_law_435 dL_law_436 dL_law_437 dL_law_438 ?_
  refine gk_cV1_2 mv_Mo_about gw_963 dL_law_439 (pc' := 442) rfl (Nat.le_of_ble_eq_true rfl) hm (mo_about M1 hI.1.wf (fun h2 M2 f2 => ?_))
  refine ⟨_, rfl, ?_⟩
  exact gk_icmp_eq dL_law_442 (tgt := 1356) (pc' := 445) (by decide) rfl (fun _ => G.bud (b' := (bc, bs)) (Nat.le_add_right bc 2) (Nat.le_add_right bs 16) (hN h2 ⟨R1.mo f2, M2, nn_about hI.2.2⟩)) (fun c => absurd rfl c)
theorem lc_convert (hb : b0 < X.2.2.2) (hk : 8 * k + 8 ≤ L) (hL : L ≤ 4096) (hI : LawI X h r S) (hN : ∀ h', LawI X h' r (oConvert S (xs (8 * k + 1)) (xs (8 * k + 2)) (xs (8 * k + 3)) (xs (8 * k + 4))).2 → G (kx X) (lawM nm b0 L xs) (d + 13) (bc, bs) 1356 [some (.ref b0), some (.ref r), some (.ref (r + 140)), some (.int (nI (8 * k)))] [] h' Q) : G (kx X) (lawM nm b0 L xs) (d + 13) (bc + 2, bs + 16) 447 [some (.ref b0), some (.ref r), some (.ref (r + 140)), some (.int (nI (8 * k)))] [] h Q := by
  obtain ⟨fo, ho⟩ := hI.1.obj
  refine gk_aload1 dL_law_447 (pc' := 448) rfl ?_
  refine gk_argI (j := 1) (pc' := 453) hb hk hL (by decide) (by decide) rfl dL_law_448 dL_law_449 dL_law_450 dL_law_451 dL_law_452 ?_
  refine gk_argI (j := 2) (pc' := 458) hb hk hL (by decide) (by decide) rfl dL_law_453 dL_law_454 dL_law_455 dL_law_456 dL_law_457 ?_
  refine gk_argI (j := 3) (pc' := 463) hb hk hL (by decide) (by decide) rfl dL_law_458 dL_law_459 dL_law_460 dL_law_461 dL_law_462 ?_
  refine gk_argI (j := 4) (pc' := 468) hb hk hL (by decide) (by decide) rfl dL_law_463 dL_law_464 dL_law_465 dL_law_466 dL_law_467 ?_
  refine gk_cV1_4 mv_Room_convert gw_372 dL_law_468 (pc' := 471) rfl (Nat.le_of_ble_eq_true rfl) ho (cl_convert hI.1 (fun h1 R1 f1 => ?_))
  refine ⟨_, rfl, ?_⟩
  have M1 := hI.cl f1
  obtain ⟨fm, hm⟩ := M1.obj
  refine gk_aload2 dL_law_471 (pc' := 472) rfl ?_
  refine gk_argI (j := 1) (pc' := 477) hb hk hL (by decide) (by decide) rfl dL_law_472 dL_law_473 dL_law_474 dL_law_475 dL_law_476 ?_
  refine gk_argI (j := 2) (pc' := 482) hb hk hL (by decide) (by decide) rfl dL_law_477 dL_law_478 dL_law_479 dL_law_480 dL_law_481 ?_
  refine gk_argI (j := 3) (pc' := 487) hb hk hL (by decide) (by decide) rfl dL_law_482 dL_law_483 dL_law_484 dL_law_485 dL_law_486 ?_
  refine gk_argI (j := 4) (pc' := 492) hb hk hL (by decide) (by decide) rfl dL_law_487 dL_law_488 dL_law_489 dL_law_490 dL_law_491 ?_
  refine gk_cV1_4 mv_Mo_convert gw_969 dL_law_492 (pc' := 495) rfl (Nat.le_of_ble_eq_true rfl) hm (mo_convert M1 hI.1.wf (fun h2 M2 f2 => ?_))
  refine ⟨_, rfl, ?_⟩
  exact gk_icmp_eq dL_law_495 (tgt := 1356) (pc' := 498) (by decide) rfl (fun _ => G.bud (b' := (bc, bs)) (Nat.le_add_right bc 2) (Nat.le_add_right bs 16) (hN h2 ⟨R1.mo f2, M2, nn_convert hI.2.2⟩)) (fun c => absurd rfl c)
theorem lc_cut (hb : b0 < X.2.2.2) (hk : 8 * k + 8 ≤ L) (hL : L ≤ 4096) (hI : LawI X h r S) (hN : ∀ h', LawI X h' r (oCut S (xs (8 * k + 1)) (xs (8 * k + 2)) (xs (8 * k + 3)) (xs (8 * k + 4)) (xs (8 * k + 5)) (xs (8 * k + 6)) (xs (8 * k + 7))).2 → G (kx X) (lawM nm b0 L xs) (d + 13) (bc, bs) 1356 [some (.ref b0), some (.ref r), some (.ref (r + 140)), some (.int (nI (8 * k)))] [] h' Q) : G (kx X) (lawM nm b0 L xs) (d + 13) (bc + 2, bs + 16) 500 [some (.ref b0), some (.ref r), some (.ref (r + 140)), some (.int (nI (8 * k)))] [] h Q := by
  obtain ⟨fo, ho⟩ := hI.1.obj
  refine gk_aload1 dL_law_500 (pc' := 501) rfl ?_
  refine gk_argI (j := 1) (pc' := 506) hb hk hL (by decide) (by decide) rfl dL_law_501 dL_law_502 dL_law_503 dL_law_504 dL_law_505 ?_
  refine gk_argI (j := 2) (pc' := 511) hb hk hL (by decide) (by decide) rfl dL_law_506 dL_law_507 dL_law_508 dL_law_509 dL_law_510 ?_
  refine gk_argI (j := 3) (pc' := 516) hb hk hL (by decide) (by decide) rfl dL_law_511 dL_law_512 dL_law_513 dL_law_514 dL_law_515 ?_
  refine gk_argI (j := 4) (pc' := 521) hb hk hL (by decide) (by decide) rfl dL_law_516 dL_law_517 dL_law_518 dL_law_519 dL_law_520 ?_
  refine gk_argI (j := 5) (pc' := 526) hb hk hL (by decide) (by decide) rfl dL_law_521 dL_law_522 dL_law_523 dL_law_524 dL_law_525 ?_
  refine gk_argB (j := 6) (pc' := 532) hb hk hL (by decide) (by decide) rfl dL_law_526 dL_law_527 dL_law_528 dL_law_530 dL_law_531 ?_
  refine gk_argB (j := 7) (pc' := 538) hb hk hL (by decide) (by decide) rfl dL_law_532 dL_law_533 dL_law_534 dL_law_536 dL_law_537 ?_
  refine gk_cV1_7 mv_Room_cut gw_390 dL_law_538 (pc' := 541) rfl (Nat.le_of_ble_eq_true rfl) ho (cl_cut hI.1 (fun h1 R1 f1 => ?_))
  refine ⟨_, rfl, ?_⟩
  have M1 := hI.cl f1
  obtain ⟨fm, hm⟩ := M1.obj
  refine gk_aload2 dL_law_541 (pc' := 542) rfl ?_
  refine gk_argI (j := 1) (pc' := 547) hb hk hL (by decide) (by decide) rfl dL_law_542 dL_law_543 dL_law_544 dL_law_545 dL_law_546 ?_
  refine gk_argI (j := 2) (pc' := 552) hb hk hL (by decide) (by decide) rfl dL_law_547 dL_law_548 dL_law_549 dL_law_550 dL_law_551 ?_
  refine gk_argI (j := 3) (pc' := 557) hb hk hL (by decide) (by decide) rfl dL_law_552 dL_law_553 dL_law_554 dL_law_555 dL_law_556 ?_
  refine gk_argI (j := 4) (pc' := 562) hb hk hL (by decide) (by decide) rfl dL_law_557 dL_law_558 dL_law_559 dL_law_560 dL_law_561 ?_
  refine gk_argI (j := 5) (pc' := 567) hb hk hL (by decide) (by decide) rfl dL_law_562 dL_law_563 dL_law_564 dL_law_565 dL_law_566 ?_
  refine gk_argB (j := 6) (pc' := 573) hb hk hL (by decide) (by decide) rfl dL_law_567 dL_law_568 dL_law_569 dL_law_571 dL_law_572 ?_
  refine gk_argB (j := 7) (pc' := 579) hb hk hL (by decide) (by decide) rfl dL_law_573 dL_law_574 dL_law_575 dL_law_577 dL_law_578 ?_
  refine gk_cV1_7 mv_Mo_cut gw_976 dL_law_579 (pc' := 582) rfl (Nat.le_of_ble_eq_true rfl) hm (mo_cut M1 hI.1.wf (fun h2 M2 f2 => ?_))
  refine ⟨_, rfl, ?_⟩
  exact gk_icmp_eq dL_law_582 (tgt := 1356) (pc' := 585) (by decide) rfl (fun _ => G.bud (b' := (bc, bs)) (Nat.le_add_right bc 2) (Nat.le_add_right bs 16) (hN h2 ⟨R1.mo f2, M2, nn_cut hI.2.2⟩)) (fun c => absurd rfl c)
theorem lc_turn (hb : b0 < X.2.2.2) (hk : 8 * k + 8 ≤ L) (hL : L ≤ 4096) (hI : LawI X h r S) (hN : ∀ h', LawI X h' r (oTurn S (xs (8 * k + 1)) (xs (8 * k + 2)) (xs (8 * k + 3))).2 → G (kx X) (lawM nm b0 L xs) (d + 13) (bc, bs) 1356 [some (.ref b0), some (.ref r), some (.ref (r + 140)), some (.int (nI (8 * k)))] [] h' Q) : G (kx X) (lawM nm b0 L xs) (d + 13) (bc + 2, bs + 16) 587 [some (.ref b0), some (.ref r), some (.ref (r + 140)), some (.int (nI (8 * k)))] [] h Q := by
  obtain ⟨fo, ho⟩ := hI.1.obj
  refine gk_aload1 dL_law_587 (pc' := 588) rfl ?_
  refine gk_argI (j := 1) (pc' := 593) hb hk hL (by decide) (by decide) rfl dL_law_588 dL_law_589 dL_law_590 dL_law_591 dL_law_592 ?_
  refine gk_argI (j := 2) (pc' := 598) hb hk hL (by decide) (by decide) rfl dL_law_593 dL_law_594 dL_law_595 dL_law_596 dL_law_597 ?_
  refine gk_argI (j := 3) (pc' := 603) hb hk hL (by decide) (by decide) rfl dL_law_598 dL_law_599 dL_law_600 dL_law_601 dL_law_602 ?_
  refine gk_cV1_3 mv_Room_turn gw_394 dL_law_603 (pc' := 606) rfl (Nat.le_of_ble_eq_true rfl) ho (cl_turn hI.1 (fun h1 R1 f1 => ?_))
  refine ⟨_, rfl, ?_⟩
  have M1 := hI.cl f1
  obtain ⟨fm, hm⟩ := M1.obj
  refine gk_aload2 dL_law_606 (pc' := 607) rfl ?_
  refine gk_argI (j := 1) (pc' := 612) hb hk hL (by decide) (by decide) rfl dL_law_607 dL_law_608 dL_law_609 dL_law_610 dL_law_611 ?_
  refine gk_argI (j := 2) (pc' := 617) hb hk hL (by decide) (by decide) rfl dL_law_612 dL_law_613 dL_law_614 dL_law_615 dL_law_616 ?_
  refine gk_argI (j := 3) (pc' := 622) hb hk hL (by decide) (by decide) rfl dL_law_617 dL_law_618 dL_law_619 dL_law_620 dL_law_621 ?_
  refine gk_cV1_3 mv_Mo_turn gw_982 dL_law_622 (pc' := 625) rfl (Nat.le_of_ble_eq_true rfl) hm (mo_turn M1 hI.1.wf (fun h2 M2 f2 => ?_))
  refine ⟨_, rfl, ?_⟩
  exact gk_icmp_eq dL_law_625 (tgt := 1356) (pc' := 628) (by decide) rfl (fun _ => G.bud (b' := (bc, bs)) (Nat.le_add_right bc 2) (Nat.le_add_right bs 16) (hN h2 ⟨R1.mo f2, M2, nn_turn hI.2.2⟩)) (fun c => absurd rfl c)
theorem lc_unlike (hb : b0 < X.2.2.2) (hk : 8 * k + 8 ≤ L) (hL : L ≤ 4096) (hI : LawI X h r S) (hN : ∀ h', LawI X h' r (oUnlike S (xs (8 * k + 1)) (xs (8 * k + 2))).2 → G (kx X) (lawM nm b0 L xs) (d + 13) (bc, bs) 1356 [some (.ref b0), some (.ref r), some (.ref (r + 140)), some (.int (nI (8 * k)))] [] h' Q) : G (kx X) (lawM nm b0 L xs) (d + 13) (bc + 2, bs + 16) 630 [some (.ref b0), some (.ref r), some (.ref (r + 140)), some (.int (nI (8 * k)))] [] h Q := by
  obtain ⟨fo, ho⟩ := hI.1.obj
  refine gk_aload1 dL_law_630 (pc' := 631) rfl ?_
  refine gk_argI (j := 1) (pc' := 636) hb hk hL (by decide) (by decide) rfl dL_law_631 dL_law_632 dL_law_633 dL_law_634 dL_law_635 ?_
  refine gk_argI (j := 2) (pc' := 641) hb hk hL (by decide) (by decide) rfl dL_law_636 dL_law_637 dL_law_638 dL_law_639 dL_law_640 ?_
  refine gk_cV1_2 mv_Room_unlike gw_403 dL_law_641 (pc' := 644) rfl (Nat.le_of_ble_eq_true rfl) ho (cl_unlike hI.1 (fun h1 R1 f1 => ?_))
  refine ⟨_, rfl, ?_⟩
  have M1 := hI.cl f1
  obtain ⟨fm, hm⟩ := M1.obj
  refine gk_aload2 dL_law_644 (pc' := 645) rfl ?_
  refine gk_argI (j := 1) (pc' := 650) hb hk hL (by decide) (by decide) rfl dL_law_645 dL_law_646 dL_law_647 dL_law_648 dL_law_649 ?_
  refine gk_argI (j := 2) (pc' := 655) hb hk hL (by decide) (by decide) rfl dL_law_650 dL_law_651 dL_law_652 dL_law_653 dL_law_654 ?_
  refine gk_cV1_2 mv_Mo_unlike gw_986 dL_law_655 (pc' := 658) rfl (Nat.le_of_ble_eq_true rfl) hm (mo_unlike M1 hI.1.wf (fun h2 M2 f2 => ?_))
  refine ⟨_, rfl, ?_⟩
  exact gk_icmp_eq dL_law_658 (tgt := 1356) (pc' := 661) (by decide) rfl (fun _ => G.bud (b' := (bc, bs)) (Nat.le_add_right bc 2) (Nat.le_add_right bs 16) (hN h2 ⟨R1.mo f2, M2, nn_unlike hI.2.2⟩)) (fun c => absurd rfl c)
theorem lc_filter (hb : b0 < X.2.2.2) (hk : 8 * k + 8 ≤ L) (hL : L ≤ 4096) (hI : LawI X h r S) (hN : ∀ h', LawI X h' r (oFilter S (xs (8 * k + 1)) (xs (8 * k + 2)) (xs (8 * k + 3))).2 → G (kx X) (lawM nm b0 L xs) (d + 13) (bc, bs) 1356 [some (.ref b0), some (.ref r), some (.ref (r + 140)), some (.int (nI (8 * k)))] [] h' Q) : G (kx X) (lawM nm b0 L xs) (d + 13) (bc + 2, bs + 16) 663 [some (.ref b0), some (.ref r), some (.ref (r + 140)), some (.int (nI (8 * k)))] [] h Q := by
  obtain ⟨fo, ho⟩ := hI.1.obj
  refine gk_aload1 dL_law_663 (pc' := 664) rfl ?_
  refine gk_argI (j := 1) (pc' := 669) hb hk hL (by decide) (by decide) rfl dL_law_664 dL_law_665 dL_law_666 dL_law_667 dL_law_668 ?_
  refine gk_argI (j := 2) (pc' := 674) hb hk hL (by decide) (by decide) rfl dL_law_669 dL_law_670 dL_law_671 dL_law_672 dL_law_673 ?_
  refine gk_argI (j := 3) (pc' := 679) hb hk hL (by decide) (by decide) rfl dL_law_674 dL_law_675 dL_law_676 dL_law_677 dL_law_678 ?_
  refine gk_cVb1_3 (b' := (2, 16)) (b2 := (bc, bs)) mv_Room_filter gw_407 dL_law_679 (pc' := 682) rfl (Nat.le_of_ble_eq_true rfl) (by show 2 + bc ≤ bc + 2; omega) (by show 16 + bs ≤ bs + 16; omega) ho (cl_filter hI.1 (fun h1 R1 f1 => ?_))
  refine ⟨_, rfl, ?_⟩
  have M1 := hI.cl f1
  obtain ⟨fm, hm⟩ := M1.obj
  refine gk_aload2 dL_law_682 (pc' := 683) rfl ?_
  refine gk_argI (j := 1) (pc' := 688) hb hk hL (by decide) (by decide) rfl dL_law_683 dL_law_684 dL_law_685 dL_law_686 dL_law_687 ?_
  refine gk_argI (j := 2) (pc' := 693) hb hk hL (by decide) (by decide) rfl dL_law_688 dL_law_689 dL_law_690 dL_law_691 dL_law_692 ?_
  refine gk_argI (j := 3) (pc' := 698) hb hk hL (by decide) (by decide) rfl dL_law_693 dL_law_694 dL_law_695 dL_law_696 dL_law_697 ?_
  refine gk_cV1_3 mv_Mo_filter gw_990 dL_law_698 (pc' := 701) rfl (Nat.le_of_ble_eq_true rfl) hm (mo_filter M1 hI.1.wf (fun h2 M2 f2 => ?_))
  refine ⟨_, rfl, ?_⟩
  exact gk_icmp_eq dL_law_701 (tgt := 1356) (pc' := 704) (by decide) rfl (fun _ => hN h2 ⟨R1.mo f2, M2, nn_filter hI.2.2⟩) (fun c => absurd rfl c)
theorem lc_weight (hb : b0 < X.2.2.2) (hk : 8 * k + 8 ≤ L) (hL : L ≤ 4096) (hI : LawI X h r S) (hN : ∀ h', LawI X h' r (oWeight S (xs (8 * k + 1)) (xs (8 * k + 2)) (xs (8 * k + 3))).2 → G (kx X) (lawM nm b0 L xs) (d + 13) (bc, bs) 1356 [some (.ref b0), some (.ref r), some (.ref (r + 140)), some (.int (nI (8 * k)))] [] h' Q) : G (kx X) (lawM nm b0 L xs) (d + 13) (bc + 2, bs + 16) 706 [some (.ref b0), some (.ref r), some (.ref (r + 140)), some (.int (nI (8 * k)))] [] h Q := by
  obtain ⟨fo, ho⟩ := hI.1.obj
  refine gk_aload1 dL_law_706 (pc' := 707) rfl ?_
  refine gk_argI (j := 1) (pc' := 712) hb hk hL (by decide) (by decide) rfl dL_law_707 dL_law_708 dL_law_709 dL_law_710 dL_law_711 ?_
  refine gk_argI (j := 2) (pc' := 717) hb hk hL (by decide) (by decide) rfl dL_law_712 dL_law_713 dL_law_714 dL_law_715 dL_law_716 ?_
  refine gk_argI (j := 3) (pc' := 722) hb hk hL (by decide) (by decide) rfl dL_law_717 dL_law_718 dL_law_719 dL_law_720 dL_law_721 ?_
  refine gk_cV1_3 mv_Room_weight gw_460 dL_law_722 (pc' := 725) rfl (Nat.le_of_ble_eq_true rfl) ho (cl_weight hI.1 (fun h1 R1 f1 => ?_))
  refine ⟨_, rfl, ?_⟩
  have M1 := hI.cl f1
  obtain ⟨fm, hm⟩ := M1.obj
  refine gk_aload2 dL_law_725 (pc' := 726) rfl ?_
  refine gk_argI (j := 1) (pc' := 731) hb hk hL (by decide) (by decide) rfl dL_law_726 dL_law_727 dL_law_728 dL_law_729 dL_law_730 ?_
  refine gk_argI (j := 2) (pc' := 736) hb hk hL (by decide) (by decide) rfl dL_law_731 dL_law_732 dL_law_733 dL_law_734 dL_law_735 ?_
  refine gk_argI (j := 3) (pc' := 741) hb hk hL (by decide) (by decide) rfl dL_law_736 dL_law_737 dL_law_738 dL_law_739 dL_law_740 ?_
  refine gk_cV1_3 mv_Mo_weight gw_1005 dL_law_741 (pc' := 744) rfl (Nat.le_of_ble_eq_true rfl) hm (mo_weight M1 hI.1.wf (fun h2 M2 f2 => ?_))
  refine ⟨_, rfl, ?_⟩
  exact gk_icmp_eq dL_law_744 (tgt := 1356) (pc' := 747) (by decide) rfl (fun _ => G.bud (b' := (bc, bs)) (Nat.le_add_right bc 2) (Nat.le_add_right bs 16) (hN h2 ⟨R1.mo f2, M2, nn_weight hI.2.2⟩)) (fun c => absurd rfl c)
theorem lc_apply (hb : b0 < X.2.2.2) (hk : 8 * k + 8 ≤ L) (hL : L ≤ 4096) (hI : LawI X h r S) (hN : ∀ h', LawI X h' r (oApply S (xs (8 * k + 1)) (xs (8 * k + 2)) (xs (8 * k + 3))).2 → G (kx X) (lawM nm b0 L xs) (d + 13) (bc, bs) 1356 [some (.ref b0), some (.ref r), some (.ref (r + 140)), some (.int (nI (8 * k)))] [] h' Q) : G (kx X) (lawM nm b0 L xs) (d + 13) (bc + 2, bs + 16) 749 [some (.ref b0), some (.ref r), some (.ref (r + 140)), some (.int (nI (8 * k)))] [] h Q := by
  obtain ⟨fo, ho⟩ := hI.1.obj
  refine gk_aload1 dL_law_749 (pc' := 750) rfl ?_
  refine gk_argI (j := 1) (pc' := 755) hb hk hL (by decide) (by decide) rfl dL_law_750 dL_law_751 dL_law_752 dL_law_753 dL_law_754 ?_
  refine gk_argI (j := 2) (pc' := 760) hb hk hL (by decide) (by decide) rfl dL_law_755 dL_law_756 dL_law_757 dL_law_758 dL_law_759 ?_
  refine gk_argI (j := 3) (pc' := 765) hb hk hL (by decide) (by decide) rfl dL_law_760 dL_law_761 dL_law_762 dL_law_763 dL_law_764 ?_
  refine gk_cV1_3 mv_Room_apply gw_472 dL_law_765 (pc' := 768) rfl (Nat.le_of_ble_eq_true rfl) ho (cl_apply hI.1 (fun h1 R1 f1 => ?_))
  refine ⟨_, rfl, ?_⟩
  have M1 := hI.cl f1
  obtain ⟨fm, hm⟩ := M1.obj
  refine gk_aload2 dL_law_768 (pc' := 769) rfl ?_
  refine gk_argI (j := 1) (pc' := 774) hb hk hL (by decide) (by decide) rfl dL_law_769 dL_law_770 dL_law_771 dL_law_772 dL_law_773 ?_
  refine gk_argI (j := 2) (pc' := 779) hb hk hL (by decide) (by decide) rfl dL_law_774 dL_law_775 dL_law_776 dL_law_777 dL_law_778 ?_
  refine gk_argI (j := 3) (pc' := 784) hb hk hL (by decide) (by decide) rfl dL_law_779 dL_law_780 dL_law_781 dL_law_782 dL_law_783 ?_
  refine gk_cV1_3 mv_Mo_apply gw_1009 dL_law_784 (pc' := 787) rfl (Nat.le_of_ble_eq_true rfl) hm (mo_apply M1 hI.1.wf hI.2.2 (fun h2 M2 f2 => ?_))
  refine ⟨_, rfl, ?_⟩
  exact gk_icmp_eq dL_law_787 (tgt := 1356) (pc' := 790) (by decide) rfl (fun _ => G.bud (b' := (bc, bs)) (Nat.le_add_right bc 2) (Nat.le_add_right bs 16) (hN h2 ⟨R1.mo f2, M2, nn_apply hI.2.2⟩)) (fun c => absurd rfl c)
theorem lc_maskT (hb : b0 < X.2.2.2) (hk : 8 * k + 8 ≤ L) (hL : L ≤ 4096) (hI : LawI X h r S) (cn : ¬ xs (8 * k + 4) = 0) (hN : ∀ h', LawI X h' r (oMask S (xs (8 * k + 1)) (xs (8 * k + 2)) (xs (8 * k + 3)) true).2 → G (kx X) (lawM nm b0 L xs) (d + 13) (bc, bs) 1356 [some (.ref b0), some (.ref r), some (.ref (r + 140)), some (.int (nI (8 * k)))] [] h' Q) : G (kx X) (lawM nm b0 L xs) (d + 13) (bc + 2, bs + 16) 792 [some (.ref b0), some (.ref r), some (.ref (r + 140)), some (.int (nI (8 * k)))] [] h Q := by
  obtain ⟨fo, ho⟩ := hI.1.obj
  refine gk_aload1 dL_law_792 (pc' := 793) rfl ?_
  refine gk_argI (j := 1) (pc' := 798) hb hk hL (by decide) (by decide) rfl dL_law_793 dL_law_794 dL_law_795 dL_law_796 dL_law_797 ?_
  refine gk_argI (j := 2) (pc' := 803) hb hk hL (by decide) (by decide) rfl dL_law_798 dL_law_799 dL_law_800 dL_law_801 dL_law_802 ?_
  refine gk_argI (j := 3) (pc' := 808) hb hk hL (by decide) (by decide) rfl dL_law_803 dL_law_804 dL_law_805 dL_law_806 dL_law_807 ?_
  refine gk_argI (j := 4) (pc' := 813) hb hk hL (by decide) (by decide) rfl dL_law_808 dL_law_809 dL_law_810 dL_law_811 dL_law_812 ?_
  refine gk_if_eq dL_law_813 (tgt := 820) (pc' := 816) (by decide) rfl (fun z => absurd z cn) (fun _ => ?_)
  refine gk_iconst (v := 1) dL_law_816 (pc' := 817) rfl (by decide) ?_
  refine gk_goto dL_law_817 (tgt := 821) (by decide) ?_
  refine gk_cV1_4 mv_Room_mask gw_533 dL_law_821 (pc' := 824) rfl (Nat.le_of_ble_eq_true rfl) ho (cl_mask (on := true) hI.1 (fun h1 R1 f1 => ?_))
  refine ⟨_, rfl, ?_⟩
  have M1 := hI.cl f1
  obtain ⟨fm, hm⟩ := M1.obj
  refine gk_aload2 dL_law_824 (pc' := 825) rfl ?_
  refine gk_argI (j := 1) (pc' := 830) hb hk hL (by decide) (by decide) rfl dL_law_825 dL_law_826 dL_law_827 dL_law_828 dL_law_829 ?_
  refine gk_argI (j := 2) (pc' := 835) hb hk hL (by decide) (by decide) rfl dL_law_830 dL_law_831 dL_law_832 dL_law_833 dL_law_834 ?_
  refine gk_argI (j := 3) (pc' := 840) hb hk hL (by decide) (by decide) rfl dL_law_835 dL_law_836 dL_law_837 dL_law_838 dL_law_839 ?_
  refine gk_argI (j := 4) (pc' := 845) hb hk hL (by decide) (by decide) rfl dL_law_840 dL_law_841 dL_law_842 dL_law_843 dL_law_844 ?_
  refine gk_if_eq dL_law_845 (tgt := 852) (pc' := 848) (by decide) rfl (fun z => absurd z cn) (fun _ => ?_)
  refine gk_iconst (v := 1) dL_law_848 (pc' := 849) rfl (by decide) ?_
  refine gk_goto dL_law_849 (tgt := 853) (by decide) ?_
  refine gk_cV1_4 mv_Mo_mask gw_1040 dL_law_853 (pc' := 856) rfl (Nat.le_of_ble_eq_true rfl) hm (mo_mask (on := true) M1 hI.1.wf (fun h2 M2 f2 => ?_))
  refine ⟨_, rfl, ?_⟩
  exact gk_icmp_eq dL_law_856 (tgt := 1356) (pc' := 859) (by decide) rfl (fun _ => G.bud (b' := (bc, bs)) (Nat.le_add_right bc 2) (Nat.le_add_right bs 16) (hN h2 ⟨R1.mo f2, M2, nn_mask hI.2.2⟩)) (fun c => absurd rfl c)
theorem lc_maskF (hb : b0 < X.2.2.2) (hk : 8 * k + 8 ≤ L) (hL : L ≤ 4096) (hI : LawI X h r S) (cn : xs (8 * k + 4) = 0) (hN : ∀ h', LawI X h' r (oMask S (xs (8 * k + 1)) (xs (8 * k + 2)) (xs (8 * k + 3)) false).2 → G (kx X) (lawM nm b0 L xs) (d + 13) (bc, bs) 1356 [some (.ref b0), some (.ref r), some (.ref (r + 140)), some (.int (nI (8 * k)))] [] h' Q) : G (kx X) (lawM nm b0 L xs) (d + 13) (bc + 2, bs + 16) 792 [some (.ref b0), some (.ref r), some (.ref (r + 140)), some (.int (nI (8 * k)))] [] h Q := by
  obtain ⟨fo, ho⟩ := hI.1.obj
  refine gk_aload1 dL_law_792 (pc' := 793) rfl ?_
  refine gk_argI (j := 1) (pc' := 798) hb hk hL (by decide) (by decide) rfl dL_law_793 dL_law_794 dL_law_795 dL_law_796 dL_law_797 ?_
  refine gk_argI (j := 2) (pc' := 803) hb hk hL (by decide) (by decide) rfl dL_law_798 dL_law_799 dL_law_800 dL_law_801 dL_law_802 ?_
  refine gk_argI (j := 3) (pc' := 808) hb hk hL (by decide) (by decide) rfl dL_law_803 dL_law_804 dL_law_805 dL_law_806 dL_law_807 ?_
  refine gk_argI (j := 4) (pc' := 813) hb hk hL (by decide) (by decide) rfl dL_law_808 dL_law_809 dL_law_810 dL_law_811 dL_law_812 ?_
  refine gk_if_eq dL_law_813 (tgt := 820) (pc' := 816) (by decide) rfl (fun _ => ?_) (fun z => absurd cn z)
  refine gk_iconst (v := 0) dL_law_820 (pc' := 821) rfl (by decide) ?_
  refine gk_cV1_4 mv_Room_mask gw_533 dL_law_821 (pc' := 824) rfl (Nat.le_of_ble_eq_true rfl) ho (cl_mask (on := false) hI.1 (fun h1 R1 f1 => ?_))
  refine ⟨_, rfl, ?_⟩
  have M1 := hI.cl f1
  obtain ⟨fm, hm⟩ := M1.obj
  refine gk_aload2 dL_law_824 (pc' := 825) rfl ?_
  refine gk_argI (j := 1) (pc' := 830) hb hk hL (by decide) (by decide) rfl dL_law_825 dL_law_826 dL_law_827 dL_law_828 dL_law_829 ?_
  refine gk_argI (j := 2) (pc' := 835) hb hk hL (by decide) (by decide) rfl dL_law_830 dL_law_831 dL_law_832 dL_law_833 dL_law_834 ?_
  refine gk_argI (j := 3) (pc' := 840) hb hk hL (by decide) (by decide) rfl dL_law_835 dL_law_836 dL_law_837 dL_law_838 dL_law_839 ?_
  refine gk_argI (j := 4) (pc' := 845) hb hk hL (by decide) (by decide) rfl dL_law_840 dL_law_841 dL_law_842 dL_law_843 dL_law_844 ?_
  refine gk_if_eq dL_law_845 (tgt := 852) (pc' := 848) (by decide) rfl (fun _ => ?_) (fun z => absurd cn z)
  refine gk_iconst (v := 0) dL_law_852 (pc' := 853) rfl (by decide) ?_
  refine gk_cV1_4 mv_Mo_mask gw_1040 dL_law_853 (pc' := 856) rfl (Nat.le_of_ble_eq_true rfl) hm (mo_mask (on := false) M1 hI.1.wf (fun h2 M2 f2 => ?_))
  refine ⟨_, rfl, ?_⟩
  exact gk_icmp_eq dL_law_856 (tgt := 1356) (pc' := 859) (by decide) rfl (fun _ => G.bud (b' := (bc, bs)) (Nat.le_add_right bc 2) (Nat.le_add_right bs 16) (hN h2 ⟨R1.mo f2, M2, nn_mask hI.2.2⟩)) (fun c => absurd rfl c)
theorem lc_maskOf (hb : b0 < X.2.2.2) (hk : 8 * k + 8 ≤ L) (hL : L ≤ 4096) (hI : LawI X h r S) (hN : ∀ h', LawI X h' r (oMaskOf S (xs (8 * k + 1)) (xs (8 * k + 2)) (xs (8 * k + 3)) (xs (8 * k + 4))).2 → G (kx X) (lawM nm b0 L xs) (d + 13) (bc, bs) 1356 [some (.ref b0), some (.ref r), some (.ref (r + 140)), some (.int (nI (8 * k)))] [] h' Q) : G (kx X) (lawM nm b0 L xs) (d + 13) (bc + 2, bs + 16) 861 [some (.ref b0), some (.ref r), some (.ref (r + 140)), some (.int (nI (8 * k)))] [] h Q := by
  obtain ⟨fo, ho⟩ := hI.1.obj
  refine gk_aload1 dL_law_861 (pc' := 862) rfl ?_
  refine gk_argI (j := 1) (pc' := 867) hb hk hL (by decide) (by decide) rfl dL_law_862 dL_law_863 dL_law_864 dL_law_865 dL_law_866 ?_
  refine gk_argI (j := 2) (pc' := 872) hb hk hL (by decide) (by decide) rfl dL_law_867 dL_law_868 dL_law_869 dL_law_870 dL_law_871 ?_
  refine gk_argI (j := 3) (pc' := 877) hb hk hL (by decide) (by decide) rfl dL_law_872 dL_law_873 dL_law_874 dL_law_875 dL_law_876 ?_
  refine gk_argI (j := 4) (pc' := 882) hb hk hL (by decide) (by decide) rfl dL_law_877 dL_law_878 dL_law_879 dL_law_880 dL_law_881 ?_
  refine gk_cV1_4 mv_Room_maskOf gw_552 dL_law_882 (pc' := 885) rfl (Nat.le_of_ble_eq_true rfl) ho (cl_maskOf hI.1 (fun h1 R1 f1 => ?_))
  refine ⟨_, rfl, ?_⟩
  have M1 := hI.cl f1
  obtain ⟨fm, hm⟩ := M1.obj
  refine gk_aload2 dL_law_885 (pc' := 886) rfl ?_
  refine gk_argI (j := 1) (pc' := 891) hb hk hL (by decide) (by decide) rfl dL_law_886 dL_law_887 dL_law_888 dL_law_889 dL_law_890 ?_
  refine gk_argI (j := 2) (pc' := 896) hb hk hL (by decide) (by decide) rfl dL_law_891 dL_law_892 dL_law_893 dL_law_894 dL_law_895 ?_
  refine gk_argI (j := 3) (pc' := 901) hb hk hL (by decide) (by decide) rfl dL_law_896 dL_law_897 dL_law_898 dL_law_899 dL_law_900 ?_
  refine gk_argI (j := 4) (pc' := 906) hb hk hL (by decide) (by decide) rfl dL_law_901 dL_law_902 dL_law_903 dL_law_904 dL_law_905 ?_
  refine gk_cV1_4 mv_Mo_maskOf gw_1054 dL_law_906 (pc' := 909) rfl (Nat.le_of_ble_eq_true rfl) hm (mo_maskOf M1 hI.1.wf (fun h2 M2 f2 => ?_))
  refine ⟨_, rfl, ?_⟩
  exact gk_icmp_eq dL_law_909 (tgt := 1356) (pc' := 912) (by decide) rfl (fun _ => G.bud (b' := (bc, bs)) (Nat.le_add_right bc 2) (Nat.le_add_right bs 16) (hN h2 ⟨R1.mo f2, M2, nn_maskOf hI.2.2⟩)) (fun c => absurd rfl c)
theorem lc_maskBy (hb : b0 < X.2.2.2) (hk : 8 * k + 8 ≤ L) (hL : L ≤ 4096) (hI : LawI X h r S) (hN : ∀ h', LawI X h' r (oMaskBy S (xs (8 * k + 1)) (xs (8 * k + 2)) (xs (8 * k + 3))).2 → G (kx X) (lawM nm b0 L xs) (d + 13) (bc, bs) 1356 [some (.ref b0), some (.ref r), some (.ref (r + 140)), some (.int (nI (8 * k)))] [] h' Q) : G (kx X) (lawM nm b0 L xs) (d + 13) (bc + 2, bs + 16) 914 [some (.ref b0), some (.ref r), some (.ref (r + 140)), some (.int (nI (8 * k)))] [] h Q := by
  obtain ⟨fo, ho⟩ := hI.1.obj
  refine gk_aload1 dL_law_914 (pc' := 915) rfl ?_
  refine gk_argI (j := 1) (pc' := 920) hb hk hL (by decide) (by decide) rfl dL_law_915 dL_law_916 dL_law_917 dL_law_918 dL_law_919 ?_
  refine gk_argI (j := 2) (pc' := 925) hb hk hL (by decide) (by decide) rfl dL_law_920 dL_law_921 dL_law_922 dL_law_923 dL_law_924 ?_
  refine gk_argI (j := 3) (pc' := 930) hb hk hL (by decide) (by decide) rfl dL_law_925 dL_law_926 dL_law_927 dL_law_928 dL_law_929 ?_
  refine gk_cV1_3 mv_Room_maskBy gw_571 dL_law_930 (pc' := 933) rfl (Nat.le_of_ble_eq_true rfl) ho (cl_maskBy hI.1 (fun h1 R1 f1 => ?_))
  refine ⟨_, rfl, ?_⟩
  have M1 := hI.cl f1
  obtain ⟨fm, hm⟩ := M1.obj
  refine gk_aload2 dL_law_933 (pc' := 934) rfl ?_
  refine gk_argI (j := 1) (pc' := 939) hb hk hL (by decide) (by decide) rfl dL_law_934 dL_law_935 dL_law_936 dL_law_937 dL_law_938 ?_
  refine gk_argI (j := 2) (pc' := 944) hb hk hL (by decide) (by decide) rfl dL_law_939 dL_law_940 dL_law_941 dL_law_942 dL_law_943 ?_
  refine gk_argI (j := 3) (pc' := 949) hb hk hL (by decide) (by decide) rfl dL_law_944 dL_law_945 dL_law_946 dL_law_947 dL_law_948 ?_
  refine gk_cV1_3 mv_Mo_maskBy gw_1062 dL_law_949 (pc' := 952) rfl (Nat.le_of_ble_eq_true rfl) hm (mo_maskBy M1 hI.1.wf (fun h2 M2 f2 => ?_))
  refine ⟨_, rfl, ?_⟩
  exact gk_icmp_eq dL_law_952 (tgt := 1356) (pc' := 955) (by decide) rfl (fun _ => G.bud (b' := (bc, bs)) (Nat.le_add_right bc 2) (Nat.le_add_right bs 16) (hN h2 ⟨R1.mo f2, M2, nn_maskBy hI.2.2⟩)) (fun c => absurd rfl c)
theorem lc_isOn (hb : b0 < X.2.2.2) (hk : 8 * k + 8 ≤ L) (hL : L ≤ 4096) (hI : LawI X h r S) (hN : ∀ h', LawI X h' r (oIsOn S (xs (8 * k + 1)) (xs (8 * k + 2)) (xs (8 * k + 3))).2 → G (kx X) (lawM nm b0 L xs) (d + 13) (bc, bs) 1356 [some (.ref b0), some (.ref r), some (.ref (r + 140)), some (.int (nI (8 * k)))] [] h' Q) : G (kx X) (lawM nm b0 L xs) (d + 13) (bc + 2, bs + 16) 957 [some (.ref b0), some (.ref r), some (.ref (r + 140)), some (.int (nI (8 * k)))] [] h Q := by
  obtain ⟨fo, ho⟩ := hI.1.obj
  refine gk_aload1 dL_law_957 (pc' := 958) rfl ?_
  refine gk_argI (j := 1) (pc' := 963) hb hk hL (by decide) (by decide) rfl dL_law_958 dL_law_959 dL_law_960 dL_law_961 dL_law_962 ?_
  refine gk_argI (j := 2) (pc' := 968) hb hk hL (by decide) (by decide) rfl dL_law_963 dL_law_964 dL_law_965 dL_law_966 dL_law_967 ?_
  refine gk_argI (j := 3) (pc' := 973) hb hk hL (by decide) (by decide) rfl dL_law_968 dL_law_969 dL_law_970 dL_law_971 dL_law_972 ?_
  refine gk_cV1_3 mv_Room_isOn gw_588 dL_law_973 (pc' := 976) rfl (Nat.le_of_ble_eq_true rfl) ho (cl_isOn hI.1 (fun h1 R1 f1 => ?_))
  refine ⟨_, rfl, ?_⟩
  have M1 := hI.cl f1
  obtain ⟨fm, hm⟩ := M1.obj
  refine gk_aload2 dL_law_976 (pc' := 977) rfl ?_
  refine gk_argI (j := 1) (pc' := 982) hb hk hL (by decide) (by decide) rfl dL_law_977 dL_law_978 dL_law_979 dL_law_980 dL_law_981 ?_
  refine gk_argI (j := 2) (pc' := 987) hb hk hL (by decide) (by decide) rfl dL_law_982 dL_law_983 dL_law_984 dL_law_985 dL_law_986 ?_
  refine gk_argI (j := 3) (pc' := 992) hb hk hL (by decide) (by decide) rfl dL_law_987 dL_law_988 dL_law_989 dL_law_990 dL_law_991 ?_
  refine gk_cV1_3 mv_Mo_isOn gw_1071 dL_law_992 (pc' := 995) rfl (Nat.le_of_ble_eq_true rfl) hm (mo_isOn M1 hI.1.wf (fun h2 M2 f2 => ?_))
  refine ⟨_, rfl, ?_⟩
  exact gk_icmp_eq dL_law_995 (tgt := 1356) (pc' := 998) (by decide) rfl (fun _ => G.bud (b' := (bc, bs)) (Nat.le_add_right bc 2) (Nat.le_add_right bs 16) (hN h2 ⟨R1.mo f2, M2, nn_isOn hI.2.2⟩)) (fun c => absurd rfl c)
theorem lc_fill (hb : b0 < X.2.2.2) (hk : 8 * k + 8 ≤ L) (hL : L ≤ 4096) (hI : LawI X h r S) (hN : ∀ h', LawI X h' r (oFill S (xs (8 * k + 1)) (xs (8 * k + 2)) (xs (8 * k + 3)) (xs (8 * k + 4)) (xs (8 * k + 5))).2 → G (kx X) (lawM nm b0 L xs) (d + 13) (bc, bs) 1356 [some (.ref b0), some (.ref r), some (.ref (r + 140)), some (.int (nI (8 * k)))] [] h' Q) : G (kx X) (lawM nm b0 L xs) (d + 13) (bc + 2, bs + 16) 1000 [some (.ref b0), some (.ref r), some (.ref (r + 140)), some (.int (nI (8 * k)))] [] h Q := by
  obtain ⟨fo, ho⟩ := hI.1.obj
  refine gk_aload1 dL_law_1000 (pc' := 1001) rfl ?_
  refine gk_argI (j := 1) (pc' := 1006) hb hk hL (by decide) (by decide) rfl dL_law_1001 dL_law_1002 dL_law_1003 dL_law_1004 dL_law_1005 ?_
  refine gk_argI (j := 2) (pc' := 1011) hb hk hL (by decide) (by decide) rfl dL_law_1006 dL_law_1007 dL_law_1008 dL_law_1009 dL_law_1010 ?_
  refine gk_argI (j := 3) (pc' := 1016) hb hk hL (by decide) (by decide) rfl dL_law_1011 dL_law_1012 dL_law_1013 dL_law_1014 dL_law_1015 ?_
  refine gk_argI (j := 4) (pc' := 1021) hb hk hL (by decide) (by decide) rfl dL_law_1016 dL_law_1017 dL_law_1018 dL_law_1019 dL_law_1020 ?_
  refine gk_argI (j := 5) (pc' := 1026) hb hk hL (by decide) (by decide) rfl dL_law_1021 dL_law_1022 dL_law_1023 dL_law_1024 dL_law_1025 ?_
  refine gk_cV1_5 mv_Room_fill gw_592 dL_law_1026 (pc' := 1029) rfl (Nat.le_of_ble_eq_true rfl) ho (cl_fill hI.1 (fun h1 R1 f1 => ?_))
  refine ⟨_, rfl, ?_⟩
  have M1 := hI.cl f1
  obtain ⟨fm, hm⟩ := M1.obj
  refine gk_aload2 dL_law_1029 (pc' := 1030) rfl ?_
  refine gk_argI (j := 1) (pc' := 1035) hb hk hL (by decide) (by decide) rfl dL_law_1030 dL_law_1031 dL_law_1032 dL_law_1033 dL_law_1034 ?_
  refine gk_argI (j := 2) (pc' := 1040) hb hk hL (by decide) (by decide) rfl dL_law_1035 dL_law_1036 dL_law_1037 dL_law_1038 dL_law_1039 ?_
  refine gk_argI (j := 3) (pc' := 1045) hb hk hL (by decide) (by decide) rfl dL_law_1040 dL_law_1041 dL_law_1042 dL_law_1043 dL_law_1044 ?_
  refine gk_argI (j := 4) (pc' := 1050) hb hk hL (by decide) (by decide) rfl dL_law_1045 dL_law_1046 dL_law_1047 dL_law_1048 dL_law_1049 ?_
  refine gk_argI (j := 5) (pc' := 1055) hb hk hL (by decide) (by decide) rfl dL_law_1050 dL_law_1051 dL_law_1052 dL_law_1053 dL_law_1054 ?_
  refine gk_cV1_5 mv_Mo_fill gw_1075 dL_law_1055 (pc' := 1058) rfl (Nat.le_of_ble_eq_true rfl) hm (mo_fill M1 hI.1.wf (fun h2 M2 f2 => ?_))
  refine ⟨_, rfl, ?_⟩
  exact gk_icmp_eq dL_law_1058 (tgt := 1356) (pc' := 1061) (by decide) rfl (fun _ => G.bud (b' := (bc, bs)) (Nat.le_add_right bc 2) (Nat.le_add_right bs 16) (hN h2 ⟨R1.mo f2, M2, nn_fill hI.2.2⟩)) (fun c => absurd rfl c)
theorem lc_dither (hb : b0 < X.2.2.2) (hk : 8 * k + 8 ≤ L) (hL : L ≤ 4096) (hI : LawI X h r S) (hN : ∀ h', LawI X h' r (oDither S (xs (8 * k + 1)) (xs (8 * k + 2))).2 → G (kx X) (lawM nm b0 L xs) (d + 13) (bc, bs) 1356 [some (.ref b0), some (.ref r), some (.ref (r + 140)), some (.int (nI (8 * k)))] [] h' Q) : G (kx X) (lawM nm b0 L xs) (d + 13) (bc + 2, bs + 16) 1063 [some (.ref b0), some (.ref r), some (.ref (r + 140)), some (.int (nI (8 * k)))] [] h Q := by
  obtain ⟨fo, ho⟩ := hI.1.obj
  refine gk_aload1 dL_law_1063 (pc' := 1064) rfl ?_
  refine gk_argI (j := 1) (pc' := 1069) hb hk hL (by decide) (by decide) rfl dL_law_1064 dL_law_1065 dL_law_1066 dL_law_1067 dL_law_1068 ?_
  refine gk_argI (j := 2) (pc' := 1074) hb hk hL (by decide) (by decide) rfl dL_law_1069 dL_law_1070 dL_law_1071 dL_law_1072 dL_law_1073 ?_
  refine gk_cV1_2 mv_Room_dither gw_614 dL_law_1074 (pc' := 1077) rfl (Nat.le_of_ble_eq_true rfl) ho (cl_dither hI.1 (fun h1 R1 f1 => ?_))
  refine ⟨_, rfl, ?_⟩
  have M1 := hI.cl f1
  obtain ⟨fm, hm⟩ := M1.obj
  refine gk_aload2 dL_law_1077 (pc' := 1078) rfl ?_
  refine gk_argI (j := 1) (pc' := 1083) hb hk hL (by decide) (by decide) rfl dL_law_1078 dL_law_1079 dL_law_1080 dL_law_1081 dL_law_1082 ?_
  refine gk_argI (j := 2) (pc' := 1088) hb hk hL (by decide) (by decide) rfl dL_law_1083 dL_law_1084 dL_law_1085 dL_law_1086 dL_law_1087 ?_
  refine gk_cV1_2 mv_Mo_dither gw_1083 dL_law_1088 (pc' := 1091) rfl (Nat.le_of_ble_eq_true rfl) hm (mo_dither M1 hI.1.wf (fun h2 M2 f2 => ?_))
  refine ⟨_, rfl, ?_⟩
  exact gk_icmp_eq dL_law_1091 (tgt := 1356) (pc' := 1094) (by decide) rfl (fun _ => G.bud (b' := (bc, bs)) (Nat.le_add_right bc 2) (Nat.le_add_right bs 16) (hN h2 ⟨R1.mo f2, M2, nn_dither hI.2.2⟩)) (fun c => absurd rfl c)
theorem lc_even (hb : b0 < X.2.2.2) (hk : 8 * k + 8 ≤ L) (hL : L ≤ 4096) (hI : LawI X h r S) (hN : ∀ h', LawI X h' r (oEven S (xs (8 * k + 1))).2 → G (kx X) (lawM nm b0 L xs) (d + 13) (bc, bs) 1356 [some (.ref b0), some (.ref r), some (.ref (r + 140)), some (.int (nI (8 * k)))] [] h' Q) : G (kx X) (lawM nm b0 L xs) (d + 13) (bc + 2, bs + 16) 1096 [some (.ref b0), some (.ref r), some (.ref (r + 140)), some (.int (nI (8 * k)))] [] h Q := by
  obtain ⟨fo, ho⟩ := hI.1.obj
  refine gk_aload1 dL_law_1096 (pc' := 1097) rfl ?_
  refine gk_argI (j := 1) (pc' := 1102) hb hk hL (by decide) (by decide) rfl dL_law_1097 dL_law_1098 dL_law_1099 dL_law_1100 dL_law_1101 ?_
  refine gk_cV1_1 mv_Room_even gw_640 dL_law_1102 (pc' := 1105) rfl (Nat.le_of_ble_eq_true rfl) ho (cl_even hI.1 (fun h1 R1 f1 => ?_))
  refine ⟨_, rfl, ?_⟩
  have M1 := hI.cl f1
  obtain ⟨fm, hm⟩ := M1.obj
  refine gk_aload2 dL_law_1105 (pc' := 1106) rfl ?_
  refine gk_argI (j := 1) (pc' := 1111) hb hk hL (by decide) (by decide) rfl dL_law_1106 dL_law_1107 dL_law_1108 dL_law_1109 dL_law_1110 ?_
  refine gk_cV1_1 mv_Mo_even gw_1091 dL_law_1111 (pc' := 1114) rfl (Nat.le_of_ble_eq_true rfl) hm (mo_even M1 hI.1.wf (fun h2 M2 f2 => ?_))
  refine ⟨_, rfl, ?_⟩
  exact gk_icmp_eq dL_law_1114 (tgt := 1356) (pc' := 1117) (by decide) rfl (fun _ => G.bud (b' := (bc, bs)) (Nat.le_add_right bc 2) (Nat.le_add_right bs 16) (hN h2 ⟨R1.mo f2, M2, nn_even hI.2.2⟩)) (fun c => absurd rfl c)
theorem lc_energy (hb : b0 < X.2.2.2) (hk : 8 * k + 8 ≤ L) (hL : L ≤ 4096) (hI : LawI X h r S) (hN : ∀ h', LawI X h' r (oEnergy S (xs (8 * k + 1)) (xs (8 * k + 2)) (xs (8 * k + 3))).2 → G (kx X) (lawM nm b0 L xs) (d + 13) (bc, bs) 1356 [some (.ref b0), some (.ref r), some (.ref (r + 140)), some (.int (nI (8 * k)))] [] h' Q) : G (kx X) (lawM nm b0 L xs) (d + 13) (bc + 2, bs + 16) 1119 [some (.ref b0), some (.ref r), some (.ref (r + 140)), some (.int (nI (8 * k)))] [] h Q := by
  obtain ⟨fo, ho⟩ := hI.1.obj
  refine gk_aload1 dL_law_1119 (pc' := 1120) rfl ?_
  refine gk_argI (j := 1) (pc' := 1125) hb hk hL (by decide) (by decide) rfl dL_law_1120 dL_law_1121 dL_law_1122 dL_law_1123 dL_law_1124 ?_
  refine gk_argI (j := 2) (pc' := 1130) hb hk hL (by decide) (by decide) rfl dL_law_1125 dL_law_1126 dL_law_1127 dL_law_1128 dL_law_1129 ?_
  refine gk_argI (j := 3) (pc' := 1135) hb hk hL (by decide) (by decide) rfl dL_law_1130 dL_law_1131 dL_law_1132 dL_law_1133 dL_law_1134 ?_
  refine gk_cV1_3 mv_Room_energy gw_659 dL_law_1135 (pc' := 1138) rfl (Nat.le_of_ble_eq_true rfl) ho (cl_energy hI.1 (fun h1 R1 f1 => ?_))
  refine ⟨_, rfl, ?_⟩
  have M1 := hI.cl f1
  obtain ⟨fm, hm⟩ := M1.obj
  refine gk_aload2 dL_law_1138 (pc' := 1139) rfl ?_
  refine gk_argI (j := 1) (pc' := 1144) hb hk hL (by decide) (by decide) rfl dL_law_1139 dL_law_1140 dL_law_1141 dL_law_1142 dL_law_1143 ?_
  refine gk_argI (j := 2) (pc' := 1149) hb hk hL (by decide) (by decide) rfl dL_law_1144 dL_law_1145 dL_law_1146 dL_law_1147 dL_law_1148 ?_
  refine gk_argI (j := 3) (pc' := 1154) hb hk hL (by decide) (by decide) rfl dL_law_1149 dL_law_1150 dL_law_1151 dL_law_1152 dL_law_1153 ?_
  refine gk_cV1_3 mv_Mo_energy gw_1100 dL_law_1154 (pc' := 1157) rfl (Nat.le_of_ble_eq_true rfl) hm (mo_energy M1 hI.1.wf (fun h2 M2 f2 => ?_))
  refine ⟨_, rfl, ?_⟩
  exact gk_icmp_eq dL_law_1157 (tgt := 1356) (pc' := 1160) (by decide) rfl (fun _ => G.bud (b' := (bc, bs)) (Nat.le_add_right bc 2) (Nat.le_add_right bs 16) (hN h2 ⟨R1.mo f2, M2, nn_energy hI.2.2⟩)) (fun c => absurd rfl c)
theorem lc_seam (hb : b0 < X.2.2.2) (hk : 8 * k + 8 ≤ L) (hL : L ≤ 4096) (hI : LawI X h r S) (hN : ∀ h', LawI X h' r (oSeam S (xs (8 * k + 1)) (xs (8 * k + 2))).2 → G (kx X) (lawM nm b0 L xs) (d + 13) (bc, bs) 1356 [some (.ref b0), some (.ref r), some (.ref (r + 140)), some (.int (nI (8 * k)))] [] h' Q) : G (kx X) (lawM nm b0 L xs) (d + 13) (bc + 2, bs + 16) 1162 [some (.ref b0), some (.ref r), some (.ref (r + 140)), some (.int (nI (8 * k)))] [] h Q := by
  obtain ⟨fo, ho⟩ := hI.1.obj
  refine gk_aload1 dL_law_1162 (pc' := 1163) rfl ?_
  refine gk_argI (j := 1) (pc' := 1168) hb hk hL (by decide) (by decide) rfl dL_law_1163 dL_law_1164 dL_law_1165 dL_law_1166 dL_law_1167 ?_
  refine gk_argI (j := 2) (pc' := 1173) hb hk hL (by decide) (by decide) rfl dL_law_1168 dL_law_1169 dL_law_1170 dL_law_1171 dL_law_1172 ?_
  refine gk_cV1_2 mv_Room_seam gw_669 dL_law_1173 (pc' := 1176) rfl (Nat.le_of_ble_eq_true rfl) ho (cl_seam hI.1 (fun h1 R1 f1 => ?_))
  refine ⟨_, rfl, ?_⟩
  have M1 := hI.cl f1
  obtain ⟨fm, hm⟩ := M1.obj
  refine gk_aload2 dL_law_1176 (pc' := 1177) rfl ?_
  refine gk_argI (j := 1) (pc' := 1182) hb hk hL (by decide) (by decide) rfl dL_law_1177 dL_law_1178 dL_law_1179 dL_law_1180 dL_law_1181 ?_
  refine gk_argI (j := 2) (pc' := 1187) hb hk hL (by decide) (by decide) rfl dL_law_1182 dL_law_1183 dL_law_1184 dL_law_1185 dL_law_1186 ?_
  refine gk_cV1_2 mv_Mo_seam gw_1111 dL_law_1187 (pc' := 1190) rfl (Nat.le_of_ble_eq_true rfl) hm (mo_seam M1 hI.1.wf (fun h2 M2 f2 => ?_))
  refine ⟨_, rfl, ?_⟩
  exact gk_icmp_eq dL_law_1190 (tgt := 1356) (pc' := 1193) (by decide) rfl (fun _ => G.bud (b' := (bc, bs)) (Nat.le_add_right bc 2) (Nat.le_add_right bs 16) (hN h2 ⟨R1.mo f2, M2, nn_seam hI.2.2⟩)) (fun c => absurd rfl c)
theorem lc_seamGoes (hb : b0 < X.2.2.2) (hk : 8 * k + 8 ≤ L) (hL : L ≤ 4096) (hI : LawI X h r S) (hN : ∀ h', LawI X h' r (oSeamGoes S (xs (8 * k + 1)) (xs (8 * k + 2))).2 → G (kx X) (lawM nm b0 L xs) (d + 13) (bc, bs) 1356 [some (.ref b0), some (.ref r), some (.ref (r + 140)), some (.int (nI (8 * k)))] [] h' Q) : G (kx X) (lawM nm b0 L xs) (d + 13) (bc + 2, bs + 16) 1195 [some (.ref b0), some (.ref r), some (.ref (r + 140)), some (.int (nI (8 * k)))] [] h Q := by
  obtain ⟨fo, ho⟩ := hI.1.obj
  refine gk_aload1 dL_law_1195 (pc' := 1196) rfl ?_
  refine gk_argI (j := 1) (pc' := 1201) hb hk hL (by decide) (by decide) rfl dL_law_1196 dL_law_1197 dL_law_1198 dL_law_1199 dL_law_1200 ?_
  refine gk_argI (j := 2) (pc' := 1206) hb hk hL (by decide) (by decide) rfl dL_law_1201 dL_law_1202 dL_law_1203 dL_law_1204 dL_law_1205 ?_
  refine gk_cV1_2 mv_Room_seamGoes gw_696 dL_law_1206 (pc' := 1209) rfl (Nat.le_of_ble_eq_true rfl) ho (cl_seamGoes hI.1 (fun h1 R1 f1 => ?_))
  refine ⟨_, rfl, ?_⟩
  have M1 := hI.cl f1
  obtain ⟨fm, hm⟩ := M1.obj
  refine gk_aload2 dL_law_1209 (pc' := 1210) rfl ?_
  refine gk_argI (j := 1) (pc' := 1215) hb hk hL (by decide) (by decide) rfl dL_law_1210 dL_law_1211 dL_law_1212 dL_law_1213 dL_law_1214 ?_
  refine gk_argI (j := 2) (pc' := 1220) hb hk hL (by decide) (by decide) rfl dL_law_1215 dL_law_1216 dL_law_1217 dL_law_1218 dL_law_1219 ?_
  refine gk_cV1_2 mv_Mo_seamGoes gw_1123 dL_law_1220 (pc' := 1223) rfl (Nat.le_of_ble_eq_true rfl) hm (mo_seamGoes M1 hI.1.wf (fun h2 M2 f2 => ?_))
  refine ⟨_, rfl, ?_⟩
  exact gk_icmp_eq dL_law_1223 (tgt := 1356) (pc' := 1226) (by decide) rfl (fun _ => G.bud (b' := (bc, bs)) (Nat.le_add_right bc 2) (Nat.le_add_right bs 16) (hN h2 ⟨R1.mo f2, M2, nn_seamGoes hI.2.2⟩)) (fun c => absurd rfl c)
theorem lc_runs (hb : b0 < X.2.2.2) (hk : 8 * k + 8 ≤ L) (hL : L ≤ 4096) (hI : LawI X h r S) (hN : ∀ h', LawI X h' r (oRuns S (xs (8 * k + 1)) (xs (8 * k + 2))).2 → G (kx X) (lawM nm b0 L xs) (d + 13) (bc, bs) 1356 [some (.ref b0), some (.ref r), some (.ref (r + 140)), some (.int (nI (8 * k)))] [] h' Q) : G (kx X) (lawM nm b0 L xs) (d + 13) (bc + 2, bs + 16) 1228 [some (.ref b0), some (.ref r), some (.ref (r + 140)), some (.int (nI (8 * k)))] [] h Q := by
  obtain ⟨fo, ho⟩ := hI.1.obj
  refine gk_aload1 dL_law_1228 (pc' := 1229) rfl ?_
  refine gk_argI (j := 1) (pc' := 1234) hb hk hL (by decide) (by decide) rfl dL_law_1229 dL_law_1230 dL_law_1231 dL_law_1232 dL_law_1233 ?_
  refine gk_argI (j := 2) (pc' := 1239) hb hk hL (by decide) (by decide) rfl dL_law_1234 dL_law_1235 dL_law_1236 dL_law_1237 dL_law_1238 ?_
  refine gk_cV1_2 mv_Room_runs gw_700 dL_law_1239 (pc' := 1242) rfl (Nat.le_of_ble_eq_true rfl) ho (cl_runs hI.1 (fun h1 R1 f1 => ?_))
  refine ⟨_, rfl, ?_⟩
  have M1 := hI.cl f1
  obtain ⟨fm, hm⟩ := M1.obj
  refine gk_aload2 dL_law_1242 (pc' := 1243) rfl ?_
  refine gk_argI (j := 1) (pc' := 1248) hb hk hL (by decide) (by decide) rfl dL_law_1243 dL_law_1244 dL_law_1245 dL_law_1246 dL_law_1247 ?_
  refine gk_argI (j := 2) (pc' := 1253) hb hk hL (by decide) (by decide) rfl dL_law_1248 dL_law_1249 dL_law_1250 dL_law_1251 dL_law_1252 ?_
  refine gk_cV1_2 mv_Mo_runs gw_1127 dL_law_1253 (pc' := 1256) rfl (Nat.le_of_ble_eq_true rfl) hm (mo_runs M1 hI.1.wf (fun h2 M2 f2 => ?_))
  refine ⟨_, rfl, ?_⟩
  exact gk_icmp_eq dL_law_1256 (tgt := 1356) (pc' := 1259) (by decide) rfl (fun _ => G.bud (b' := (bc, bs)) (Nat.le_add_right bc 2) (Nat.le_add_right bs 16) (hN h2 ⟨R1.mo f2, M2, nn_runs hI.2.2⟩)) (fun c => absurd rfl c)
theorem lc_read (hb : b0 < X.2.2.2) (hk : 8 * k + 8 ≤ L) (hL : L ≤ 4096) (hI : LawI X h r S) (hN : ∀ h', LawI X h' r (oRead S (xs (8 * k + 1))).2 → G (kx X) (lawM nm b0 L xs) (d + 13) (bc, bs) 1356 [some (.ref b0), some (.ref r), some (.ref (r + 140)), some (.int (nI (8 * k)))] [] h' Q) : G (kx X) (lawM nm b0 L xs) (d + 13) (bc + 2, bs + 16) 1261 [some (.ref b0), some (.ref r), some (.ref (r + 140)), some (.int (nI (8 * k)))] [] h Q := by
  obtain ⟨fo, ho⟩ := hI.1.obj
  refine gk_aload1 dL_law_1261 (pc' := 1262) rfl ?_
  refine gk_argI (j := 1) (pc' := 1267) hb hk hL (by decide) (by decide) rfl dL_law_1262 dL_law_1263 dL_law_1264 dL_law_1265 dL_law_1266 ?_
  refine gk_cV1_1 mv_Room_read gw_721 dL_law_1267 (pc' := 1270) rfl (Nat.le_of_ble_eq_true rfl) ho (cl_read hI.1 (fun h1 R1 f1 => ?_))
  refine ⟨_, rfl, ?_⟩
  have M1 := hI.cl f1
  obtain ⟨fm, hm⟩ := M1.obj
  refine gk_aload2 dL_law_1270 (pc' := 1271) rfl ?_
  refine gk_argI (j := 1) (pc' := 1276) hb hk hL (by decide) (by decide) rfl dL_law_1271 dL_law_1272 dL_law_1273 dL_law_1274 dL_law_1275 ?_
  refine gk_cV1_1 mv_Mo_read gw_1139 dL_law_1276 (pc' := 1279) rfl (Nat.le_of_ble_eq_true rfl) hm (mo_read M1 hI.1.wf (fun h2 M2 f2 => ?_))
  refine ⟨_, rfl, ?_⟩
  exact gk_icmp_eq dL_law_1279 (tgt := 1356) (pc' := 1282) (by decide) rfl (fun _ => G.bud (b' := (bc, bs)) (Nat.le_add_right bc 2) (Nat.le_add_right bs 16) (hN h2 ⟨R1.mo f2, M2, nn_read hI.2.2⟩)) (fun c => absurd rfl c)
theorem lc_byteTo (hb : b0 < X.2.2.2) (hk : 8 * k + 8 ≤ L) (hL : L ≤ 4096) (hI : LawI X h r S) (hN : ∀ h', LawI X h' r (oByteTo S (xs (8 * k + 1))).2 → G (kx X) (lawM nm b0 L xs) (d + 13) (bc, bs) 1356 [some (.ref b0), some (.ref r), some (.ref (r + 140)), some (.int (nI (8 * k)))] [] h' Q) : G (kx X) (lawM nm b0 L xs) (d + 13) (bc + 2, bs + 16) 1284 [some (.ref b0), some (.ref r), some (.ref (r + 140)), some (.int (nI (8 * k)))] [] h Q := by
  obtain ⟨fo, ho⟩ := hI.1.obj
  refine gk_aload1 dL_law_1284 (pc' := 1285) rfl ?_
  refine gk_argI (j := 1) (pc' := 1290) hb hk hL (by decide) (by decide) rfl dL_law_1285 dL_law_1286 dL_law_1287 dL_law_1288 dL_law_1289 ?_
  refine gk_cV1_1 mv_Room_byteTo gw_743 dL_law_1290 (pc' := 1293) rfl (Nat.le_of_ble_eq_true rfl) ho (cl_byteTo hI.1 (fun h1 R1 f1 => ?_))
  refine ⟨_, rfl, ?_⟩
  have M1 := hI.cl f1
  obtain ⟨fm, hm⟩ := M1.obj
  refine gk_aload2 dL_law_1293 (pc' := 1294) rfl ?_
  refine gk_argI (j := 1) (pc' := 1299) hb hk hL (by decide) (by decide) rfl dL_law_1294 dL_law_1295 dL_law_1296 dL_law_1297 dL_law_1298 ?_
  refine gk_cV1_1 mv_Mo_byteTo gw_1151 dL_law_1299 (pc' := 1302) rfl (Nat.le_of_ble_eq_true rfl) hm (mo_byteTo M1 hI.1.wf (fun h2 M2 f2 => ?_))
  refine ⟨_, rfl, ?_⟩
  exact gk_icmp_eq dL_law_1302 (tgt := 1356) (pc' := 1305) (by decide) rfl (fun _ => G.bud (b' := (bc, bs)) (Nat.le_add_right bc 2) (Nat.le_add_right bs 16) (hN h2 ⟨R1.mo f2, M2, nn_byteTo hI.2.2⟩)) (fun c => absurd rfl c)
theorem lc_undo (hb : b0 < X.2.2.2) (hk : 8 * k + 8 ≤ L) (hL : L ≤ 4096) (hI : LawI X h r S) (hN : ∀ h', LawI X h' r (oUndo S).2 → G (kx X) (lawM nm b0 L xs) (d + 13) (bc, bs) 1356 [some (.ref b0), some (.ref r), some (.ref (r + 140)), some (.int (nI (8 * k)))] [] h' Q) : G (kx X) (lawM nm b0 L xs) (d + 13) (bc + 2, bs + 16) 1307 [some (.ref b0), some (.ref r), some (.ref (r + 140)), some (.int (nI (8 * k)))] [] h Q := by
  obtain ⟨fo, ho⟩ := hI.1.obj
  refine gk_aload1 dL_law_1307 (pc' := 1308) rfl ?_
  refine gk_cV1_0 mv_Room_undo gw_751 dL_law_1308 (pc' := 1311) rfl (Nat.le_of_ble_eq_true rfl) ho (cl_undo hI.1 (fun h1 R1 f1 => ?_))
  refine ⟨_, rfl, ?_⟩
  have M1 := hI.cl f1
  obtain ⟨fm, hm⟩ := M1.obj
  refine gk_aload2 dL_law_1311 (pc' := 1312) rfl ?_
  refine gk_cV1_0 mv_Mo_undo gw_865 dL_law_1312 (pc' := 1315) rfl (Nat.le_of_ble_eq_true rfl) hm (mo_undo M1 hI.1.wf (fun h2 M2 f2 => ?_))
  refine ⟨_, rfl, ?_⟩
  exact gk_icmp_eq dL_law_1315 (tgt := 1356) (pc' := 1318) (by decide) rfl (fun _ => G.bud (b' := (bc, bs)) (Nat.le_add_right bc 2) (Nat.le_add_right bs 16) (hN h2 ⟨R1.mo f2, M2, nn_undo hI.2.2⟩)) (fun c => absurd rfl c)
theorem lc_redo (hb : b0 < X.2.2.2) (hk : 8 * k + 8 ≤ L) (hL : L ≤ 4096) (hI : LawI X h r S) (hN : ∀ h', LawI X h' r (oRedo S).2 → G (kx X) (lawM nm b0 L xs) (d + 13) (bc, bs) 1356 [some (.ref b0), some (.ref r), some (.ref (r + 140)), some (.int (nI (8 * k)))] [] h' Q) : G (kx X) (lawM nm b0 L xs) (d + 13) (bc + 2, bs + 16) 1320 [some (.ref b0), some (.ref r), some (.ref (r + 140)), some (.int (nI (8 * k)))] [] h Q := by
  obtain ⟨fo, ho⟩ := hI.1.obj
  refine gk_aload1 dL_law_1320 (pc' := 1321) rfl ?_
  refine gk_cV1_0 mv_Room_redo gw_763 dL_law_1321 (pc' := 1324) rfl (Nat.le_of_ble_eq_true rfl) ho (cl_redo hI.1 (fun h1 R1 f1 => ?_))
  refine ⟨_, rfl, ?_⟩
  have M1 := hI.cl f1
  obtain ⟨fm, hm⟩ := M1.obj
  refine gk_aload2 dL_law_1324 (pc' := 1325) rfl ?_
  refine gk_cV1_0 mv_Mo_redo gw_874 dL_law_1325 (pc' := 1328) rfl (Nat.le_of_ble_eq_true rfl) hm (mo_redo M1 hI.1.wf (fun h2 M2 f2 => ?_))
  refine ⟨_, rfl, ?_⟩
  exact gk_icmp_eq dL_law_1328 (tgt := 1356) (pc' := 1331) (by decide) rfl (fun _ => G.bud (b' := (bc, bs)) (Nat.le_add_right bc 2) (Nat.le_add_right bs 16) (hN h2 ⟨R1.mo f2, M2, nn_redo hI.2.2⟩)) (fun c => absurd rfl c)
theorem lc_count (hb : b0 < X.2.2.2) (hk : 8 * k + 8 ≤ L) (hL : L ≤ 4096) (hI : LawI X h r S) (hN : ∀ h', LawI X h' r (oCount S (xs (8 * k + 1))).2 → G (kx X) (lawM nm b0 L xs) (d + 13) (bc, bs) 1356 [some (.ref b0), some (.ref r), some (.ref (r + 140)), some (.int (nI (8 * k)))] [] h' Q) : G (kx X) (lawM nm b0 L xs) (d + 13) (bc + 2, bs + 16) 1333 [some (.ref b0), some (.ref r), some (.ref (r + 140)), some (.int (nI (8 * k)))] [] h Q := by
  obtain ⟨fo, ho⟩ := hI.1.obj
  refine gk_aload1 dL_law_1333 (pc' := 1334) rfl ?_
  refine gk_argI (j := 1) (pc' := 1339) hb hk hL (by decide) (by decide) rfl dL_law_1334 dL_law_1335 dL_law_1336 dL_law_1337 dL_law_1338 ?_
  refine gk_cV1_1 mv_Room_count gw_771 dL_law_1339 (pc' := 1342) rfl (Nat.le_of_ble_eq_true rfl) ho (cl_count hI.1 (fun h1 R1 f1 => ?_))
  refine ⟨_, rfl, ?_⟩
  have M1 := hI.cl f1
  obtain ⟨fm, hm⟩ := M1.obj
  refine gk_aload2 dL_law_1342 (pc' := 1343) rfl ?_
  refine gk_argI (j := 1) (pc' := 1348) hb hk hL (by decide) (by decide) rfl dL_law_1343 dL_law_1344 dL_law_1345 dL_law_1346 dL_law_1347 ?_
  refine gk_cV1_1 mv_Mo_count gw_1155 dL_law_1348 (pc' := 1351) rfl (Nat.le_of_ble_eq_true rfl) hm (mo_count M1 hI.1.wf (fun h2 M2 f2 => ?_))
  refine ⟨_, rfl, ?_⟩
  exact gk_icmp_eq dL_law_1351 (tgt := 1356) (pc' := 1354) (by decide) rfl (fun _ => G.bud (b' := (bc, bs)) (Nat.le_add_right bc 2) (Nat.le_add_right bs 16) (hN h2 ⟨R1.mo f2, M2, nn_count hI.2.2⟩)) (fun c => absurd rfl c)
theorem law_one (hb : b0 < X.2.2.2) (hk : 8 * k + 8 ≤ L) (hL : L ≤ 4096) (hI : LawI X h r S) (hN : ∀ h' S', LawI X h' r S' → G (kx X) (lawM nm b0 L xs) (d + 13) (bc, bs) 1356 [some (.ref b0), some (.ref r), some (.ref (r + 140)), some (.int (nI (8 * k)))] [] h' Q) : G (kx X) (lawM nm b0 L xs) (d + 13) (bc + 2, bs + 16) 27 [some (.ref b0), some (.ref r), some (.ref (r + 140)), some (.int (nI (8 * k)))] [] h Q := by
  refine gk_aload0 dL_law_27 (pc' := 28) rfl ?_
  refine gk_iload3 dL_law_28 (pc' := 29) rfl ?_
  refine gk_sld hb dL_law_29 (pc' := 30) rfl (vp_in_nI (by omega) (by omega)) ?_
  rw [nI_clamp (by omega)]
  refine gk_bipush (v := 31) dL_law_30 (pc' := 32) rfl (by decide) ?_
  refine gk_iand dL_law_32 (pc' := 33) rfl ?_
  obtain ⟨j, hj, ej⟩ := and31 (xs (8 * k))
  rw [ej]
  match j, hj with
  | 0, _ => exact gk_tableIn dL_law_33 (tgt := 160) (off := 127) (by decide) (by decide) (by decide +kernel) (by decide) (lc_picture hb hk hL hI (fun h' I => hN h' _ I))
  | 1, _ => exact gk_tableIn dL_law_33 (tgt := 213) (off := 180) (by decide) (by decide) (by decide +kernel) (by decide) (lc_put hb hk hL hI (fun h' I => hN h' _ I))
  | 2, _ => exact gk_tableIn dL_law_33 (tgt := 266) (off := 233) (by decide) (by decide) (by decide +kernel) (by decide) (lc_feed hb hk hL hI (fun h' I => hN h' _ I))
  | 3, _ => exact gk_tableIn dL_law_33 (tgt := 361) (off := 328) (by decide) (by decide) (by decide +kernel) (by decide) (lc_at hb hk hL hI (fun h' I => hN h' _ I))
  | 4, _ => exact gk_tableIn dL_law_33 (tgt := 414) (off := 381) (by decide) (by decide) (by decide +kernel) (by decide) (lc_about hb hk hL hI (fun h' I => hN h' _ I))
  | 5, _ => exact gk_tableIn dL_law_33 (tgt := 447) (off := 414) (by decide) (by decide) (by decide +kernel) (by decide) (lc_convert hb hk hL hI (fun h' I => hN h' _ I))
  | 6, _ => exact gk_tableIn dL_law_33 (tgt := 500) (off := 467) (by decide) (by decide) (by decide +kernel) (by decide) (lc_cut hb hk hL hI (fun h' I => hN h' _ I))
  | 7, _ => exact gk_tableIn dL_law_33 (tgt := 587) (off := 554) (by decide) (by decide) (by decide +kernel) (by decide) (lc_turn hb hk hL hI (fun h' I => hN h' _ I))
  | 8, _ => exact gk_tableIn dL_law_33 (tgt := 630) (off := 597) (by decide) (by decide) (by decide +kernel) (by decide) (lc_unlike hb hk hL hI (fun h' I => hN h' _ I))
  | 9, _ => exact gk_tableIn dL_law_33 (tgt := 663) (off := 630) (by decide) (by decide) (by decide +kernel) (by decide) (lc_filter hb hk hL hI (fun h' I => hN h' _ I))
  | 10, _ => exact gk_tableIn dL_law_33 (tgt := 706) (off := 673) (by decide) (by decide) (by decide +kernel) (by decide) (lc_weight hb hk hL hI (fun h' I => hN h' _ I))
  | 11, _ => exact gk_tableIn dL_law_33 (tgt := 749) (off := 716) (by decide) (by decide) (by decide +kernel) (by decide) (lc_apply hb hk hL hI (fun h' I => hN h' _ I))
  | 12, _ => exact gk_tableIn dL_law_33 (tgt := 792) (off := 759) (by decide) (by decide) (by decide +kernel) (by decide) (by by_cases cn : xs (8 * k + 4) = 0; exact lc_maskF hb hk hL hI cn (fun h' I => hN h' _ I); exact lc_maskT hb hk hL hI cn (fun h' I => hN h' _ I))
  | 13, _ => exact gk_tableIn dL_law_33 (tgt := 861) (off := 828) (by decide) (by decide) (by decide +kernel) (by decide) (lc_maskOf hb hk hL hI (fun h' I => hN h' _ I))
  | 14, _ => exact gk_tableIn dL_law_33 (tgt := 914) (off := 881) (by decide) (by decide) (by decide +kernel) (by decide) (lc_maskBy hb hk hL hI (fun h' I => hN h' _ I))
  | 15, _ => exact gk_tableIn dL_law_33 (tgt := 957) (off := 924) (by decide) (by decide) (by decide +kernel) (by decide) (lc_isOn hb hk hL hI (fun h' I => hN h' _ I))
  | 16, _ => exact gk_tableIn dL_law_33 (tgt := 1000) (off := 967) (by decide) (by decide) (by decide +kernel) (by decide) (lc_fill hb hk hL hI (fun h' I => hN h' _ I))
  | 17, _ => exact gk_tableIn dL_law_33 (tgt := 1063) (off := 1030) (by decide) (by decide) (by decide +kernel) (by decide) (lc_dither hb hk hL hI (fun h' I => hN h' _ I))
  | 18, _ => exact gk_tableIn dL_law_33 (tgt := 1096) (off := 1063) (by decide) (by decide) (by decide +kernel) (by decide) (lc_even hb hk hL hI (fun h' I => hN h' _ I))
  | 19, _ => exact gk_tableIn dL_law_33 (tgt := 1119) (off := 1086) (by decide) (by decide) (by decide +kernel) (by decide) (lc_energy hb hk hL hI (fun h' I => hN h' _ I))
  | 20, _ => exact gk_tableIn dL_law_33 (tgt := 1162) (off := 1129) (by decide) (by decide) (by decide +kernel) (by decide) (lc_seam hb hk hL hI (fun h' I => hN h' _ I))
  | 21, _ => exact gk_tableIn dL_law_33 (tgt := 1195) (off := 1162) (by decide) (by decide) (by decide +kernel) (by decide) (lc_seamGoes hb hk hL hI (fun h' I => hN h' _ I))
  | 22, _ => exact gk_tableIn dL_law_33 (tgt := 1228) (off := 1195) (by decide) (by decide) (by decide +kernel) (by decide) (lc_runs hb hk hL hI (fun h' I => hN h' _ I))
  | 23, _ => exact gk_tableIn dL_law_33 (tgt := 1261) (off := 1228) (by decide) (by decide) (by decide +kernel) (by decide) (lc_read hb hk hL hI (fun h' I => hN h' _ I))
  | 24, _ => exact gk_tableIn dL_law_33 (tgt := 1284) (off := 1251) (by decide) (by decide) (by decide +kernel) (by decide) (lc_byteTo hb hk hL hI (fun h' I => hN h' _ I))
  | 25, _ => exact gk_tableIn dL_law_33 (tgt := 1307) (off := 1274) (by decide) (by decide) (by decide +kernel) (by decide) (lc_undo hb hk hL hI (fun h' I => hN h' _ I))
  | 26, _ => exact gk_tableIn dL_law_33 (tgt := 1320) (off := 1287) (by decide) (by decide) (by decide +kernel) (by decide) (lc_redo hb hk hL hI (fun h' I => hN h' _ I))
  | 27, _ => exact gk_tableIn dL_law_33 (tgt := 1333) (off := 1300) (by decide) (by decide) (by decide +kernel) (by decide) (lc_count hb hk hL hI (fun h' I => hN h' _ I))
  | j + 28, hj =>
    refine gk_tableOut dL_law_33 (tgt := 1356) (Or.inr ?_) (by decide) (G.bud (b' := (bc, bs)) (Nat.le_add_right bc 2) (Nat.le_add_right bs 16) (hN h S hI))
    rw [nI_toInt (by omega)]
    omega
theorem law_loop (hb : b0 < X.2.2.2) (hL : L ≤ 4096) (hQ : ∀ h', Q (some (.int 1)) h') : ∀ n k h S, L < 8 * (k + n) + 8 → k ≤ 512 → LawI X h r S → G (kx X) (lawM nm b0 L xs) (d + 13) (2 * n, 16 * n) 18 [some (.ref b0), some (.ref r), some (.ref (r + 140)), some (.int (nI (8 * k)))] [] h Q := by
  have out : ∀ k h n, G (kx X) (lawM nm b0 L xs) (d + 13) (2 * n, 16 * n) 1362 [some (.ref b0), some (.ref r), some (.ref (r + 140)), some (.int (nI (8 * k)))] [] h Q := by
    intro k h n
    refine gk_iconst (v := 1) dL_law_1362 (pc' := 1363) rfl (by decide) ?_
    exact gk_zret dL_law_1363 rfl rfl (hQ h)
  have zL : (Int32.ofNat L - 8).toInt = (L : Int) - 8 := by
    have z8 : (8 : Int32).toInt = 8 := rfl
    have zz : (Int32.ofNat L).toInt = L := nI_toInt (by omega)
    rw [Jvm.Kit.i32_sub (by omega) (by omega), zz, z8]
  have go : ∀ n k h, k ≤ 512 → (8 * k + 8 ≤ L → G (kx X) (lawM nm b0 L xs) (d + 13) (2 * n, 16 * n) 27 [some (.ref b0), some (.ref r), some (.ref (r + 140)), some (.int (nI (8 * k)))] [] h Q) → G (kx X) (lawM nm b0 L xs) (d + 13) (2 * n, 16 * n) 18 [some (.ref b0), some (.ref r), some (.ref (r + 140)), some (.int (nI (8 * k)))] [] h Q := by
    intro n k h hk g
    have zk : (nI (8 * k)).toInt = 8 * k := by rw [nI_toInt (by omega)]; omega
    refine gk_iload3 dL_law_18 (pc' := 19) rfl ?_
    refine gk_aload0 dL_law_19 (pc' := 20) rfl ?_
    refine gk_slen hb dL_law_20 (pc' := 21) rfl ?_
    refine gk_bipush (v := 8) dL_law_21 (pc' := 23) rfl (by decide) ?_
    refine gk_isub dL_law_23 (pc' := 24) rfl ?_
    refine gk_icmp_gt dL_law_24 (tgt := 1362) (pc' := 27) (by decide) rfl (fun _ => out k h n) (fun c => g ?_)
    rw [pu_lt, zL, zk] at c
    omega
  intro n
  induction n with
  | zero =>
    intro k h S hn hk hI
    exact go 0 k h hk (fun hl => absurd hl (by omega))
  | succ n ih =>
    intro k h S hn hk hI
    refine go (n + 1) k h hk (fun hl => ?_)
    refine law_one (bc := 2 * n) (bs := 16 * n) hb hl hL hI (fun h' S' I' => ?_)
    refine gk_iinc3 (v := 8) dL_law_1356 (pc' := 1359) rfl (by decide) (show 3 < 4 by decide) rfl ?_
    refine gk_goto dL_law_1359 (tgt := 18) (by decide) ?_
    rw [show nI (8 * k) + 8 = nI (8 * (k + 1)) by rw [show (8 : Int32) = nI 8 from rfl, nI_add, Nat.mul_add]]
    exact ih (k + 1) h' S' (by omega) (by omega) I'
end Law
