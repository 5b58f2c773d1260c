/-! ===== the law's beginning ===== -/
theorem gC_any {own : String} {idx ci N : Nat} {fs : List Value} {s : State} {args : Array Value} (hC : gk_C own idx ci N fs) (hts : ∀ w ∈ gk_good, w.before args s = true) : ∃ (cC : ClassId) (iS : Nat → Nat), ∀ q : vw_C, vwCl[ci]? = some q → u_Kn s q.1 q.2.1 q.2.2 cC iS := by
  obtain ⟨C, T, ty, h1, h2, h3, h4, h5, h6, h7⟩ := hC
  obtain ⟨cC, iS, hk⟩ := u_known (C := C) (T := T) (N := N) (n := N) hts h2 (hts _ h5)
  exact ⟨cC, iS, fun q hq => by rw [h1] at hq; cases hq; exact hk⟩
theorem cls_any {s : State} {args : Array Value} (hts : ∀ w ∈ gk_good, w.before args s = true) : ∀ c : Nat, ∃ (cC : ClassId) (iS : Nat → Nat), ∀ q : vw_C, vwCl[c]? = some q → u_Kn s q.1 q.2.1 q.2.2 cC iS
  | 0 => gC_any gC_History_9 hts
  | 1 => gC_any gC_Room_48 hts
  | 2 => gC_any gC_Room_21 hts
  | 3 => gC_any gC_Room_55 hts
  | 4 => gC_any gC_Room_41 hts
  | 5 => gC_any gC_Room_15 hts
  | 6 => gC_any gC_Room_9 hts
  | 7 => gC_any gC_Room_69 hts
  | 8 => gC_any gC_Room_76 hts
  | 9 => gC_any gC_Room_62 hts
  | 10 => gC_any gC_Law_7 hts
  | 11 => gC_any gC_Law_10 hts
  | c + 12 => ⟨0, fun _ => 0, fun q hq => by simp [vwCl] at hq⟩
theorem arr_int {s : State} {args : Array Value} (h : (Cond.arrayClass .int).before args s = true) : ∃ cA : ClassId, ArrOfT s cA .int ∧ va_RA s cA .int := by
  obtain ⟨c, k, comp, h1, h2, h3⟩ := Cond.arrayClass_spec h
  exact ⟨c, fun n z => ⟨(fun k h => by cases h), k, h2, comp, h3⟩, h1⟩
theorem arr_bool {s : State} {args : Array Value} (h : (Cond.arrayClass .boolean).before args s = true) : ∃ cA : ClassId, ArrOfT s cA .boolean ∧ va_RA s cA .boolean := by
  obtain ⟨c, k, comp, h1, h2, h3⟩ := Cond.arrayClass_spec h
  exact ⟨c, fun n z => ⟨(fun k h => by cases h), k, h2, comp, h3⟩, h1⟩
theorem arr_obj {s : State} {C : String} (h : va_AO C s) : ∃ cA : ClassId, ArrOfT s cA (.object C) ∧ va_RA s cA (.object C) := by
  obtain ⟨comp, c, k, h1, h2, h3, h4, h5⟩ := Cond.arrayOver_spec h
  exact ⟨c, fun N z => ⟨(fun k h => by cases h), k, h3, comp, h4⟩, k, comp, h3, h4, h1, h5⟩
theorem nest_in : ∀ q ∈ gk_nest, Cond.methodLinkNest q.1 q.2.1 q.2.2.1 q.2.2.2 ∈ lw_tbl := by decide +kernel
theorem over_in : ∀ C ∈ gk_over, Cond.arrayOver (.object C) ∈ lw_tbl := by decide +kernel
theorem kx_any {s : State} {args : Array Value} (l : Launch) (hts : ∀ w ∈ lw_tbl, w.before args s = true) : ∃ X : gX, X.1 = l ∧ X.2.2.2 = s.heap.size ∧ va_K (kx X).2.1 vwCl (kx X).2.2.1 s ∧ gk_N s := by
  have hg : ∀ w ∈ gk_good, w.before args s = true := fun w hw => hts w (List.mem_filter.mp hw).1
  have hN : gk_N s := ⟨fun q hq => va_Nw.of rfl (hts _ (nest_in q hq)), fun C hC => va_AO.of (hts _ (over_in C hC))⟩
  obtain ⟨a0, i0⟩ := arr_int (hts (.arrayClass .int) (by decide +kernel))
  obtain ⟨a1, i1⟩ := arr_bool (hts (.arrayClass .boolean) (by decide +kernel))
  obtain ⟨a2, i2⟩ := arr_obj (hN.2 "DarkRoom$Picture" (by decide))
  obtain ⟨a3, i3⟩ := arr_obj (hN.2 "DarkRoom$Mask" (by decide))
  obtain ⟨a4, i4⟩ := arr_obj (hN.2 "DarkRoom$Filter" (by decide))
  obtain ⟨a5, i5⟩ := arr_obj (hN.2 "DarkRoom$Act" (by decide))
  have ex := cls_any hg
  refine ⟨(l, (fun c => (ex c).choose, fun c => (ex c).choose_spec.choose), (fun i => match i with | 0 => a0 | 1 => a1 | 2 => a2 | 3 => a3 | 4 => a4 | _ => a5), s.heap.size), rfl, rfl, ⟨fun c q hq => (ex c).choose_spec.choose_spec q hq, fun k q hq => ?_⟩, hN⟩
  match k, hq with
  | 0, hq => cases hq; exact i0
  | 1, hq => cases hq; exact i1
  | 2, hq => cases hq; exact i2
  | 3, hq => cases hq; exact i3
  | 4, hq => cases hq; exact i4
  | 5, hq => cases hq; exact i5
  | k + 6, hq => simp at hq
theorem roomLess {s : State} {pl : Platform} {r r' : Jvm.Room} (h : s.hasRoom pl r = true) (f1 : r'.frames ≤ r.frames) (f2 : r'.cells ≤ r.cells) (f3 : r'.slots ≤ r.slots) (f4 : r'.locals ≤ r.locals) : s.hasRoom pl r' = true := by
  simp only [State.hasRoom, Bool.and_eq_true, decide_eq_true_eq] at h ⊢
  obtain ⟨⟨⟨⟨h5, h1, h1', h4, h4', hb⟩, h2⟩, h3⟩, h0⟩ := h
  exact ⟨⟨⟨⟨by omega, by omega, by omega, by omega, by omega, hb⟩, by omega⟩, by omega⟩, h0⟩
section LawS
variable {X : gX} {d : Nat} {h : gk_H} {Q : Option Value → gk_H → Prop} {r b0 L : Nat} {xs : Nat → Int32} {nm : String}
theorem law_start (hs : h.2 = r) (hb : b0 < X.2.2.2) (hL : L ≤ 4096) (hQ : ∀ h', Q (some (.int 1)) h') : G (kx X) (lawM nm b0 L xs) (d + 13) (1184, 88365) 0 [some (.ref b0), none, none, none] [] h Q := by
  refine gk_newcA (bc := 1183) (bs := 88353) (N := 12) hs gC_Law_7 dL_law_0 (pc' := 3) rfl ?_
  refine gk_dup dL_law_3 (pc' := 4) rfl rfl ?_
  refine gk_cI_0 (b' := (139, 10174)) (b2 := (1044, 78179)) mi_Room_init gw_19 dL_law_4 (pc' := 7) rfl (Nat.le_of_ble_eq_true rfl) (by decide) (by decide) (sp_Room_init (by rw [← hs]; exact gk_new_self) (by show h.2 + 1 = r + 1; omega) (fun h1 z1 R1 f1 => ?_))
  refine ⟨rfl, ?_⟩
  refine gk_astore1 dL_law_7 (pc' := 8) rfl (show 1 < 4 by decide) rfl ?_
  refine gk_newcA (bc := 1043) (bs := 78153) (N := 26) z1 gC_Law_10 dL_law_8 (pc' := 11) rfl ?_
  refine gk_dup dL_law_11 (pc' := 12) rfl rfl ?_
  refine gk_cI_0 (b' := (19, 69961)) (b2 := (1024, 8192)) mi_Mo_init gw_781 dL_law_12 (pc' := 15) rfl (Nat.le_of_ble_eq_true rfl) (by decide) (by decide) (sp_Mo_init (m := r + 140) (by rw [← z1]; exact gk_new_self) (by show h1.2 + 1 = _; omega) (fun h2 M2 f2 z2 => ?_))
  refine ⟨rfl, ?_⟩
  refine gk_astore2 dL_law_15 (pc' := 16) rfl (show 2 < 4 by decide) rfl ?_
  refine gk_iconst (v := 0) dL_law_16 (pc' := 17) rfl (by decide) ?_
  refine gk_istore3 dL_law_17 (pc' := 18) rfl (show 3 < 4 by decide) rfl ?_
  exact law_loop hb hL hQ 512 0 h2 S0 (by omega) (by omega) ⟨R1 h2 (by omega) (fun c c1 c2 => (f2 c c2).trans (gk_new_ne (by omega))), M2, fun i hi => absurd hi (Nat.not_lt_zero _)⟩
end LawS
