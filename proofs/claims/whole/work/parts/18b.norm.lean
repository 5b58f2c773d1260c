/-! ===== the same heap, said otherwise: an array counts only within its length ===== -/
theorem arrV_same {c : ClassId} {n : Nat} {f g : Nat → Value} (e : ∀ i, i < n → f i = g i) : arrV c n f = arrV c n g := by
  unfold arrV
  congr 2
  funext j
  exact e j.val j.isLt
theorem rep_same {K : gk_K} {h : gk_H} {c n : Nat} {cA : ClassId} {f g : Nat → Int32} (hc : h.1 c = some (.inl (cA, n, .inl f))) (e : ∀ i, i < n → f i = g i) (H : Heap) (r : gk_rep K h H) : gk_rep K (gk_set h c (.inl (cA, n, .inl g))) H := by
  refine r.set hc rfl ?_ (fun _ _ => rfl)
  have h1 : H[c]? = some (vp_cell cA (n, .inl f)) := (r.2 c _ hc).2
  show H[c]? = some (vp_cell cA (n, .inl g))
  rw [h1, vp_cell_i, vp_cell_i, arrV_same (fun i hi => by rw [e i hi])]
theorem G.norm {K : gk_K} {M : gk_M} {d : Nat} {b : Nat × Nat} {pc : Nat} {L : List (Option Value)} {st : List Value} {h h' : gk_H} {Q : Option Value → gk_H → Prop} (hn : ∀ H, gk_rep K h H → gk_rep K h' H) (k : G K M d b pc L st h' Q) : G K M d b pc L st h Q := by
  intro p e s m args below meth c H locs cells slots mc ms ls C hR hS hL h1 h2
  exact k p e s m args below meth c H locs cells slots mc ms ls C (hn H hR) hS hL h1 h2
theorem Gm.norm {K : gk_K} {M : gk_M} {d : Nat} {b : Nat × Nat} {av : List Value} {h : gk_H} {Q Q' : Option Value → gk_H → Prop} (hc : ∀ v h', Q' v h' → ∃ h'', Q v h'' ∧ ∀ H, gk_rep K h' H → gk_rep K h'' H) (k : Gm K M d b av h Q') : Gm K M d b av h Q := by
  unfold Gm Met at k ⊢
  refine MetFree.mono k (fun _ _ q => q) (fun _ _ _ _ _ q => q) (fun a s o t _ q => ?_)
  obtain ⟨⟨⟨v, h', e1, e2, e3⟩, e4⟩, e5⟩ := q
  obtain ⟨h'', g1, g2⟩ := hc v h' e2
  exact ⟨⟨⟨v, h'', e1, g1, g2 _ e3⟩, e4⟩, e5⟩
theorem fr.eq {h h' : gk_H} {c : Nat} {e : va_E} (hf : fr (fun z => z = c) h h') : gk_set h' c e = gk_set h c e := by
  refine Prod.ext (funext fun z => ?_) hf.1
  by_cases q : z = c
  · rw [q, gk_set_self, gk_set_self]
  · rw [gk_set_ne q, gk_set_ne q]
    exact hf.2 z q
theorem sp_Arrays_fillE {X : gX} {d : Nat} {b : Nat × Nat} {h : gk_H} {Q : Option Value → gk_H → Prop} {c n : Nat} {v : Int32} {f : Nat → Int32} (hc : h.1 c = some (cI X n f)) (hn : n < 100000) (hQ : Q none (gk_set h c (cI X n (fun _ => v)))) : Gm (kx X) mt_Arrays_fill d b [.ref c, .int v] h Q := by
  refine Gm.norm (fun _ _ q => q) (sp_Arrays_fill hc hn (fun h' g q1 q2 q3 => ?_))
  exact ⟨gk_set h' c (cI X n (fun _ => v)), by rw [q3.eq]; exact hQ, fun H r => rep_same q1 q2 H r⟩
