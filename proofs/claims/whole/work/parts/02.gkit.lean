
/-! ===== my world: a heap as a function from addresses to what stands there, and its size ===== -/
abbrev gk_H : Type := (Nat → Option va_E) × Nat
abbrev gk_K : Type := Launch × va_G × List (ClassId × FieldType) × Nat
abbrev gk_M : Type := MethodName × ByteArray × Nat × Option FieldType × (State → Prop)
def gk_good : List Cond := lw_tbl.filter goodWord
theorem gk_in {w : Cond} (i : Nat) (h : lw_tbl[i]? = some w) (hg : goodWord w = true) : w ∈ gk_good := List.mem_filter.mpr ⟨List.mem_of_getElem? h, hg⟩
theorem gk_isgood {w : Cond} (h : w ∈ gk_good) : (w.onTables && w.keeps) = true ∨ ∃ ty, w = .arrayClass ty := good_of_word (List.mem_filter.mp h).2
def gk_N (U : State) : Prop := (∀ q ∈ gk_nest, va_Nw (.methodLinkNest q.1 q.2.1 q.2.2.1 q.2.2.2) U) ∧ ∀ C ∈ gk_over, va_AO C U
theorem gk_N.warm {s U : State} (hW : s.WarmedH U.vm) (h : gk_N s) : gk_N U := ⟨fun q hq => va_Nw.warmM hW (h.1 q hq), fun C hC => va_AO.moved hW.alike (h.2 C hC)⟩
theorem gk_N.same {s U : State} (hv : s.vm = U.vm) (h : gk_N s) : gk_N U := ⟨fun q hq => va_Nw.same rfl hv (h.1 q hq), fun C hC => va_AO.moved (by rw [hv]; exact Vm.Alike.refl _) (h.2 C hC)⟩
def gk_R (d mc ms : Nat) : Room := { frames := d, cells := mc, slots := ms, locals := 64 * d }
def gk_A (K : gk_K) : Nat → Prop := fun q => K.2.2.2 ≤ q
def gk_rep (K : gk_K) (h : gk_H) (H : Heap) : Prop := H.size = h.2 ∧ ∀ (a : Nat) (e : va_E), h.1 a = some e → K.2.2.2 ≤ a ∧ va_at K.2.1 vwCl (a, e) H
def gk_set (h : gk_H) (a : Nat) (e : va_E) : gk_H := (va_up h.1 a (some e), h.2)
def gk_new (h : gk_H) (e : va_E) : gk_H := (va_up h.1 h.2 (some e), h.2 + 1)
theorem gk_set_at (h : gk_H) (a b : Nat) (e : va_E) : (gk_set h a e).1 b = if b = a then some e else h.1 b := rfl
theorem gk_set_sz (h : gk_H) (a : Nat) (e : va_E) : (gk_set h a e).2 = h.2 := rfl
theorem gk_new_at (h : gk_H) (b : Nat) (e : va_E) : (gk_new h e).1 b = if b = h.2 then some e else h.1 b := rfl
theorem gk_new_sz (h : gk_H) (e : va_E) : (gk_new h e).2 = h.2 + 1 := rfl
theorem gk_set_self {h : gk_H} {a : Nat} {e : va_E} : (gk_set h a e).1 a = some e := by rw [gk_set_at, if_pos rfl]
theorem gk_set_ne {h : gk_H} {a b : Nat} {e : va_E} (n : b ≠ a) : (gk_set h a e).1 b = h.1 b := by rw [gk_set_at, if_neg n]
theorem gk_new_self {h : gk_H} {e : va_E} : (gk_new h e).1 h.2 = some e := by rw [gk_new_at, if_pos rfl]
theorem gk_new_ne {h : gk_H} {b : Nat} {e : va_E} (n : b ≠ h.2) : (gk_new h e).1 b = h.1 b := by rw [gk_new_at, if_neg n]
theorem gk_rep.lt {K : gk_K} {h : gk_H} {H : Heap} (r : gk_rep K h H) {a : Nat} {e : va_E} (ha : h.1 a = some e) : a < h.2 := by rw [← r.1]; exact (r.2 a e ha).2.lt
theorem gk_rep.set {K : gk_K} {h : gk_H} {H H1 : Heap} (r : gk_rep K h H) {a : Nat} {e e0 : va_E} (h0 : h.1 a = some e0) (z : H1.size = H.size) (he : va_at K.2.1 vwCl (a, e) H1) (oq : ∀ q : Nat, q ≠ a → H1[q]? = H[q]?) : gk_rep K (gk_set h a e) H1 := by
  refine ⟨z.trans r.1, fun b x hb => ?_⟩
  by_cases n : b = a
  · subst n
    rw [gk_set_self] at hb
    cases hb
    exact ⟨(r.2 _ _ h0).1, he⟩
  · rw [gk_set_ne n] at hb
    exact ⟨(r.2 _ _ hb).1, (r.2 _ _ hb).2.kept (oq b n)⟩
theorem gk_rep.new {K : gk_K} {h : gk_H} {H H1 : Heap} (r : gk_rep K h H) (hb0 : K.2.2.2 ≤ H.size) {e : va_E} (z : H1.size = H.size + 1) (he : va_at K.2.1 vwCl (H.size, e) H1) (oq : ∀ q : Nat, q < H.size → H1[q]? = H[q]?) : gk_rep K (gk_new h e) H1 := by
  refine ⟨by rw [z, r.1]; rfl, fun b x hb => ?_⟩
  by_cases n : b = h.2
  · subst n
    rw [gk_new_self] at hb
    cases hb
    rw [← r.1]
    exact ⟨hb0, he⟩
  · rw [gk_new_ne n] at hb
    exact ⟨(r.2 _ _ hb).1, (r.2 _ _ hb).2.kept (oq b (r.2 _ _ hb).2.lt)⟩
/-! the locals, by place -/
def gk_L (ls : Array Slot) (nL : Nat) (L : List (Option Value)) : Prop := ls.size = nL ∧ lv_wf ls ∧ ∀ (i : Nat) (v : Value), L[i]? = some (some v) → ls[i]? = some (.val v)
def gk_as (L : List (Option Value)) : List (Nat × Value) := (List.range L.length).filterMap (fun i => match L[i]? with | some (some v) => some (i, v) | _ => none)
theorem gk_as_mem {L : List (Option Value)} {i : Nat} {v : Value} : (i, v) ∈ gk_as L ↔ L[i]? = some (some v) := by
  unfold gk_as
  rw [List.mem_filterMap]
  constructor
  · rintro ⟨j, -, hj⟩
    split at hj
    · rename_i w hw
      cases hj
      exact hw
    · cases hj
  · intro h
    exact ⟨i, List.mem_range.mpr (List.getElem?_eq_some_iff.mp h).1, by rw [h]⟩
theorem gk_L.has {ls : Array Slot} {nL : Nat} {L : List (Option Value)} (h : gk_L ls nL L) : lv_has ls nL (gk_as L) := ⟨h.1, h.2.1, fun q hq => h.2.2 q.1 q.2 (gk_as_mem.mp hq)⟩
theorem gk_L.of {ls : Array Slot} {nL : Nat} {l : List (Nat × Value)} (h : lv_has ls nL l) {L : List (Option Value)} (hs : ∀ (i : Nat) (v : Value), L[i]? = some (some v) → (i, v) ∈ l) : gk_L ls nL L := ⟨h.1, h.2.1, fun i v hi => h.2.2 (i, v) (hs i v hi)⟩
/-- no long stands just below place i -/
def gk_ok (L : List (Option Value)) : Nat → Bool
  | 0 => true
  | i + 1 => match L[i]? with
    | some (some v) => !(v.category == 2)
    | _ => true
theorem gk_L.set1 {ls' : Array Slot} {nL i : Nat} {L : List (Option Value)} {v : Value} (h' : lv_has ls' nL ((i, v) :: (gk_as L).filter (fun q => !(q.1 == i) && !(q.1 + 1 == i && q.2.category == 2)))) (hk : gk_ok L i = true) : gk_L ls' nL (L.set i (some v)) := by
  refine gk_L.of h' fun j w hj => ?_
  by_cases e : j = i
  · subst e
    have hl : j < L.length := by have := (List.getElem?_eq_some_iff.mp hj).1; rwa [List.length_set] at this
    rw [List.getElem?_set_self hl] at hj
    cases hj
    exact List.mem_cons_self
  · rw [List.getElem?_set_ne (Ne.symm e)] at hj
    refine List.mem_cons_of_mem _ (List.mem_filter.mpr ⟨gk_as_mem.mpr hj, ?_⟩)
    by_cases e1 : j + 1 = i
    · subst e1
      have hk' : (!(w.category == 2)) = true := by simpa [gk_ok, hj] using hk
      simp at hk'
      simp [hk']
    · simp [e, e1]
theorem gk_L.set2 {ls' : Array Slot} {nL i : Nat} {L : List (Option Value)} {v : Value} (h' : lv_has ls' nL ((i, v) :: (gk_as L).filter (fun q => !(q.1 == i) && (!(q.1 == i + 1) && !(q.1 + 1 == i && q.2.category == 2))))) (hk : gk_ok L i = true) : gk_L ls' nL ((L.set i (some v)).set (i + 1) none) := by
  refine gk_L.of h' fun j w hj => ?_
  by_cases e2 : j = i + 1
  · subst e2
    have hl : i + 1 < (L.set i (some v)).length := by have := (List.getElem?_eq_some_iff.mp hj).1; rwa [List.length_set] at this
    rw [List.getElem?_set_self hl] at hj
    cases hj
  · rw [List.getElem?_set_ne (Ne.symm e2)] at hj
    by_cases e : j = i
    · subst e
      have hl : j < L.length := by have := (List.getElem?_eq_some_iff.mp hj).1; rwa [List.length_set] at this
      rw [List.getElem?_set_self hl] at hj
      cases hj
      exact List.mem_cons_self
    · rw [List.getElem?_set_ne (Ne.symm e)] at hj
      refine List.mem_cons_of_mem _ (List.mem_filter.mpr ⟨gk_as_mem.mpr hj, ?_⟩)
      by_cases e1 : j + 1 = i
      · subst e1
        have hk' : (!(w.category == 2)) = true := by simpa [gk_ok, hj] using hk
        simp at hk'
        simp [e2, hk']
      · simp [e, e1, e2]
/-! the judgement -/
def gk_ctx (K : gk_K) (M : gk_M) (p : Program) (s : State) (m : MethodId) (args : Array Value) (meth : Method) (c : Code) : Prop :=
  p.tables.exec = Jvm.exec ∧ c.code = M.2.1 ∧ meth.sig.returnType = M.2.2.2.1 ∧ c.maxLocals = M.2.2.1 ∧ s.vm.findClass M.1.cls = some m.cls ∧ (∀ w ∈ gk_good, w.before args s = true) ∧ meth.locks = false ∧ meth.name = M.1.name ∧ va_K K.2.1 vwCl K.2.2.1 s ∧ gk_N s ∧ K.2.2.2 ≤ s.heap.size ∧ M.2.2.2.2 s
def gk_Q (K : gk_K) (Q : Option Value → gk_H → Prop) : Array Value → State → Outcome → State → Prop := fun _ st o t => (∃ (v : Option Value) (h : gk_H), o = .returned v ∧ Q v h ∧ gk_rep K h t.heap) ∧ va_F (gk_A K) st t
def G (K : gk_K) (M : gk_M) (d : Nat) (b : Nat × Nat) (pc : Nat) (L : List (Option Value)) (st : List Value) (h : gk_H) (Q : Option Value → gk_H → Prop) : Prop :=
  ∀ (p : Program) (e : Env) (s : State) (m : MethodId) (args : Array Value) (below : List Frame) (meth : Method) (c : Code) (H : Heap) (locs : List Loc) (cells slots mc ms : Nat) (ls : Array Slot),
    gk_ctx K M p s m args meth c → gk_rep K h H → va_S (gk_A K) s.heap H locs → gk_L ls M.2.2.1 L → cells + b.1 ≤ mc → slots + b.2 ≤ ms →
    W p K.1 e (gk_R d mc ms) s m args below meth c H locs cells slots (MQ below (gk_Q K Q) args s mc ms (gk_A K)) (F0 m pc ls st)
def gk_P (K : gk_K) (h : gk_H) (U : State) : Prop := gk_rep K h U.heap ∧ va_K K.2.1 vwCl K.2.2.1 U ∧ gk_N U ∧ K.2.2.2 ≤ U.heap.size
def Gm (K : gk_K) (M : gk_M) (d : Nat) (b : Nat × Nat) (av : List Value) (h : gk_H) (Q : Option Value → gk_H → Prop) : Prop :=
  Met K.1 M.1 (.code M.1 M.2.1 M.2.2.1 M.2.2.2.1 :: gk_good) (gk_R d b.1 b.2) (va_Pc av (gk_P K h)) (gk_Q K Q) b.1 b.2 (gk_A K)
section GKR
variable {K : gk_K} {M M' : gk_M} {d : Nat} {b b' b2 : Nat × Nat} {pc pc' tgt : Nat} {L : List (Option Value)} {st rest : List Value} {h : gk_H} {Q : Option Value → gk_H → Prop}
theorem gk_go (hstep : ∀ (p : Program) (e : Env) (R : Room) (s : State) (m : MethodId) (args : Array Value) (below : List Frame) (meth : Method) (c : Code) (H : Heap) (locs : List Loc) (cells slots : Nat) (Z : State → Prop) (ls : Array Slot), gk_ctx K M p s m args meth c → gk_L ls M.2.2.1 L →
      W p K.1 e R s m args below meth c H locs cells slots Z (F0 m pc' ls rest) → W p K.1 e R s m args below meth c H locs cells slots Z (F0 m pc ls st))
    (k : G K M d b pc' L rest h Q) : G K M d b pc L st h Q := by
  intro p e s m args below meth c H locs cells slots mc ms ls C hR hS hL h1 h2
  exact hstep _ _ _ _ _ _ _ _ _ _ _ _ _ _ _ C hL (k p e s m args below meth c H locs cells slots mc ms ls C hR hS hL h1 h2)
theorem Gm.intro {av : List Value} (hy : plainName M.1.cls = true) (hX : ∀ U, M.2.2.2.2 U) (hn : (lg_sl av).length ≤ M.2.2.1) (hL : ∀ (i : Nat) (v : Value), L[i]? = some (some v) → (i, v) ∈ lv_args 0 av) (k : G K M d b 0 L [] h Q) : Gm K M d b av h Q := by
  refine Met.ofW (cc := M.2.1) (maxL := M.2.2.1) (ret := M.2.2.2.1) hy rfl ?_
  intro p e s m args below meth c s₁ B hml hv
  obtain ⟨rfl, hR, hK, hN, hb⟩ := hv
  have hts := atoms_spec (ws := .code M.1 M.2.1 M.2.2.1 M.2.2.2.1 :: gk_good) B.pre
  have hl := lv_entry av (n := M.2.2.1) hn
  rw [lg_entry_eq]
  refine k p e s m _ below meth c s.heap [] 0 0 b.1 b.2 _ ⟨B.exec, B.bytes, B.returns, hml, findClass_of_methodNamed B.named, fun w hw => hts w (List.mem_cons_of_mem _ hw), B.notSynchronized, (name_of_methodNamed B.named B.method).1, hK, hN, hb, hX s⟩ hR va_S.rf (gk_L.of hl hL) (by omega) (by omega)

theorem gk_iadd {x y : Int32} (hd : decode M.2.1 pc = .ok (.iadd, 1)) (hp : pc + 1 = pc') (k : G K M d b pc' L (.int (x + y) :: st) h Q) : G K M d b pc L (.int y :: .int x :: st) h Q := by
  subst hp
  exact gk_go (fun _ _ _ _ _ _ _ _ _ _ _ _ _ _ _ C _ k => lv_iadd C.1 C.2.1 hd k) k
theorem gk_isub {x y : Int32} (hd : decode M.2.1 pc = .ok (.isub, 1)) (hp : pc + 1 = pc') (k : G K M d b pc' L (.int (x - y) :: st) h Q) : G K M d b pc L (.int y :: .int x :: st) h Q := by
  subst hp
  exact gk_go (fun _ _ _ _ _ _ _ _ _ _ _ _ _ _ _ C _ k => lv_isub C.1 C.2.1 hd k) k
theorem gk_imul {x y : Int32} (hd : decode M.2.1 pc = .ok (.imul, 1)) (hp : pc + 1 = pc') (k : G K M d b pc' L (.int (x * y) :: st) h Q) : G K M d b pc L (.int y :: .int x :: st) h Q := by
  subst hp
  exact gk_go (fun _ _ _ _ _ _ _ _ _ _ _ _ _ _ _ C _ k => lv_imul C.1 C.2.1 hd k) k
theorem gk_iand {x y : Int32} (hd : decode M.2.1 pc = .ok (.iand, 1)) (hp : pc + 1 = pc') (k : G K M d b pc' L (.int (x &&& y) :: st) h Q) : G K M d b pc L (.int y :: .int x :: st) h Q := by
  subst hp
  exact gk_go (fun _ _ _ _ _ _ _ _ _ _ _ _ _ _ _ C _ k => lv_iand C.1 C.2.1 hd k) k
theorem gk_ior {x y : Int32} (hd : decode M.2.1 pc = .ok (.ior, 1)) (hp : pc + 1 = pc') (k : G K M d b pc' L (.int (x ||| y) :: st) h Q) : G K M d b pc L (.int y :: .int x :: st) h Q := by
  subst hp
  exact gk_go (fun _ _ _ _ _ _ _ _ _ _ _ _ _ _ _ C _ k => lv_ior C.1 C.2.1 hd k) k
theorem gk_ixor {x y : Int32} (hd : decode M.2.1 pc = .ok (.ixor, 1)) (hp : pc + 1 = pc') (k : G K M d b pc' L (.int (x ^^^ y) :: st) h Q) : G K M d b pc L (.int y :: .int x :: st) h Q := by
  subst hp
  exact gk_go (fun _ _ _ _ _ _ _ _ _ _ _ _ _ _ _ C _ k => lv_ixor C.1 C.2.1 hd k) k
theorem gk_ishl {x y : Int32} (hd : decode M.2.1 pc = .ok (.ishl, 1)) (hp : pc + 1 = pc') (k : G K M d b pc' L (.int (x <<< (y &&& 31)) :: st) h Q) : G K M d b pc L (.int y :: .int x :: st) h Q := by
  subst hp
  exact gk_go (fun _ _ _ _ _ _ _ _ _ _ _ _ _ _ _ C _ k => lv_ishl C.1 C.2.1 hd k) k
theorem gk_ishr {x y : Int32} (hd : decode M.2.1 pc = .ok (.ishr, 1)) (hp : pc + 1 = pc') (k : G K M d b pc' L (.int (x >>> (y &&& 31)) :: st) h Q) : G K M d b pc L (.int y :: .int x :: st) h Q := by
  subst hp
  exact gk_go (fun _ _ _ _ _ _ _ _ _ _ _ _ _ _ _ C _ k => lv_ishr C.1 C.2.1 hd k) k
theorem gk_idiv {x y : Int32} (hd : decode M.2.1 pc = .ok (.idiv, 1)) (hp : pc + 1 = pc') (hne : ¬ y = 0) (k : G K M d b pc' L (.int (x / y) :: st) h Q) : G K M d b pc L (.int y :: .int x :: st) h Q := by
  subst hp
  exact gk_go (fun _ _ _ _ _ _ _ _ _ _ _ _ _ _ _ C _ k => lv_idiv C.1 C.2.1 hd hne k) k
theorem gk_irem {x y : Int32} (hd : decode M.2.1 pc = .ok (.irem, 1)) (hp : pc + 1 = pc') (hne : ¬ y = 0) (k : G K M d b pc' L (.int (x - x / y * y) :: st) h Q) : G K M d b pc L (.int y :: .int x :: st) h Q := by
  subst hp
  exact gk_go (fun _ _ _ _ _ _ _ _ _ _ _ _ _ _ _ C _ k => lv_irem C.1 C.2.1 hd hne k) k
theorem gk_ineg {x : Int32} (hd : decode M.2.1 pc = .ok (.ineg, 1)) (hp : pc + 1 = pc') (k : G K M d b pc' L (.int (-x) :: st) h Q) : G K M d b pc L (.int x :: st) h Q := by
  subst hp
  exact gk_go (fun _ _ _ _ _ _ _ _ _ _ _ _ _ _ _ C _ k => lv_ineg C.1 C.2.1 hd k) k
theorem gk_ladd {x y : Int64} (hd : decode M.2.1 pc = .ok (.ladd, 1)) (hp : pc + 1 = pc') (k : G K M d b pc' L (.long (x + y) :: st) h Q) : G K M d b pc L (.long y :: .long x :: st) h Q := by
  subst hp
  exact gk_go (fun _ _ _ _ _ _ _ _ _ _ _ _ _ _ _ C _ k => lv_ladd C.1 C.2.1 hd k) k
theorem gk_lsub {x y : Int64} (hd : decode M.2.1 pc = .ok (.lsub, 1)) (hp : pc + 1 = pc') (k : G K M d b pc' L (.long (x - y) :: st) h Q) : G K M d b pc L (.long y :: .long x :: st) h Q := by
  subst hp
  exact gk_go (fun _ _ _ _ _ _ _ _ _ _ _ _ _ _ _ C _ k => lv_lsub C.1 C.2.1 hd k) k
theorem gk_lmul {x y : Int64} (hd : decode M.2.1 pc = .ok (.lmul, 1)) (hp : pc + 1 = pc') (k : G K M d b pc' L (.long (x * y) :: st) h Q) : G K M d b pc L (.long y :: .long x :: st) h Q := by
  subst hp
  exact gk_go (fun _ _ _ _ _ _ _ _ _ _ _ _ _ _ _ C _ k => lv_lmul C.1 C.2.1 hd k) k
theorem gk_land {x y : Int64} (hd : decode M.2.1 pc = .ok (.land, 1)) (hp : pc + 1 = pc') (k : G K M d b pc' L (.long (x &&& y) :: st) h Q) : G K M d b pc L (.long y :: .long x :: st) h Q := by
  subst hp
  exact gk_go (fun _ _ _ _ _ _ _ _ _ _ _ _ _ _ _ C _ k => lv_land C.1 C.2.1 hd k) k
theorem gk_lor {x y : Int64} (hd : decode M.2.1 pc = .ok (.lor, 1)) (hp : pc + 1 = pc') (k : G K M d b pc' L (.long (x ||| y) :: st) h Q) : G K M d b pc L (.long y :: .long x :: st) h Q := by
  subst hp
  exact gk_go (fun _ _ _ _ _ _ _ _ _ _ _ _ _ _ _ C _ k => lv_lor C.1 C.2.1 hd k) k
theorem gk_lxor {x y : Int64} (hd : decode M.2.1 pc = .ok (.lxor, 1)) (hp : pc + 1 = pc') (k : G K M d b pc' L (.long (x ^^^ y) :: st) h Q) : G K M d b pc L (.long y :: .long x :: st) h Q := by
  subst hp
  exact gk_go (fun _ _ _ _ _ _ _ _ _ _ _ _ _ _ _ C _ k => lv_lxor C.1 C.2.1 hd k) k
theorem gk_ldiv {x y : Int64} (hd : decode M.2.1 pc = .ok (.ldiv, 1)) (hp : pc + 1 = pc') (hne : ¬ y = 0) (k : G K M d b pc' L (.long (x / y) :: st) h Q) : G K M d b pc L (.long y :: .long x :: st) h Q := by
  subst hp
  exact gk_go (fun _ _ _ _ _ _ _ _ _ _ _ _ _ _ _ C _ k => lv_ldiv C.1 C.2.1 hd hne k) k
theorem gk_lrem {x y : Int64} (hd : decode M.2.1 pc = .ok (.lrem, 1)) (hp : pc + 1 = pc') (hne : ¬ y = 0) (k : G K M d b pc' L (.long (x - x / y * y) :: st) h Q) : G K M d b pc L (.long y :: .long x :: st) h Q := by
  subst hp
  exact gk_go (fun _ _ _ _ _ _ _ _ _ _ _ _ _ _ _ C _ k => lv_lrem C.1 C.2.1 hd hne k) k
theorem gk_i2l {x : Int32} (hd : decode M.2.1 pc = .ok (.i2l, 1)) (hp : pc + 1 = pc') (k : G K M d b pc' L (.long x.toInt64 :: st) h Q) : G K M d b pc L (.int x :: st) h Q := by
  subst hp
  exact gk_go (fun _ _ _ _ _ _ _ _ _ _ _ _ _ _ _ C _ k => lv_i2l C.1 C.2.1 hd rfl k) k
theorem gk_l2i {x : Int64} (hd : decode M.2.1 pc = .ok (.l2i, 1)) (hp : pc + 1 = pc') (k : G K M d b pc' L (.int x.toInt32 :: st) h Q) : G K M d b pc L (.long x :: st) h Q := by
  subst hp
  exact gk_go (fun _ _ _ _ _ _ _ _ _ _ _ _ _ _ _ C _ k => lv_l2i C.1 C.2.1 hd rfl k) k
theorem gk_i2s {x : Int32} (hd : decode M.2.1 pc = .ok (.i2s, 1)) (hp : pc + 1 = pc') (k : G K M d b pc' L (.int x.toInt16.toInt32 :: st) h Q) : G K M d b pc L (.int x :: st) h Q := by
  subst hp
  exact gk_go (fun _ _ _ _ _ _ _ _ _ _ _ _ _ _ _ C _ k => lv_i2s C.1 C.2.1 hd rfl k) k
theorem gk_iushr {x y : Int32} (hd : decode M.2.1 pc = .ok (.iushr, 1)) (hp : pc + 1 = pc') (k : G K M d b pc' L (.int (x.toUInt32 >>> (y.toUInt32 &&& Int32.toUInt32 31)).toInt32 :: st) h Q) : G K M d b pc L (.int y :: .int x :: st) h Q := by
  subst hp
  exact gk_go (fun _ _ _ _ _ _ _ _ _ _ _ _ _ _ _ C _ k => lv_iushr C.1 C.2.1 hd rfl k) k
theorem gk_lshl {x : Int64} {y : Int32} (hd : decode M.2.1 pc = .ok (.lshl, 1)) (hp : pc + 1 = pc') (k : G K M d b pc' L (.long (x <<< (y.toInt64 &&& 63)) :: st) h Q) : G K M d b pc L (.int y :: .long x :: st) h Q := by
  subst hp
  exact gk_go (fun _ _ _ _ _ _ _ _ _ _ _ _ _ _ _ C _ k => lv_lshl C.1 C.2.1 hd rfl k) k
theorem gk_lshr {x : Int64} {y : Int32} (hd : decode M.2.1 pc = .ok (.lshr, 1)) (hp : pc + 1 = pc') (k : G K M d b pc' L (.long (x >>> (y.toInt64 &&& 63)) :: st) h Q) : G K M d b pc L (.int y :: .long x :: st) h Q := by
  subst hp
  exact gk_go (fun _ _ _ _ _ _ _ _ _ _ _ _ _ _ _ C _ k => lv_lshr C.1 C.2.1 hd rfl k) k
theorem gk_lcmp {x y : Int64} (hd : decode M.2.1 pc = .ok (.lcmp, 1)) (hp : pc + 1 = pc') (k : G K M d b pc' L (.int (lg_cmp x y) :: st) h Q) : G K M d b pc L (.long y :: .long x :: st) h Q := by
  subst hp
  exact gk_go (fun _ _ _ _ _ _ _ _ _ _ _ _ _ _ _ C _ k => W.lcmp C.1 C.2.1 hd k) k
theorem gk_dup {v : Value} (hd : decode M.2.1 pc = .ok (.dup, 1)) (hp : pc + 1 = pc') (hc : v.category = 1) (k : G K M d b pc' L (v :: v :: st) h Q) : G K M d b pc L (v :: st) h Q := by
  subst hp
  exact gk_go (fun _ _ _ _ _ _ _ _ _ _ _ _ _ _ _ C _ k => lv_dup C.1 C.2.1 hd hc k) k
theorem gk_dup2 {v u : Value} (hd : decode M.2.1 pc = .ok (.dup2, 1)) (hp : pc + 1 = pc') (hc : v.category = 1) (hc2 : u.category = 1) (k : G K M d b pc' L (v :: u :: v :: u :: st) h Q) : G K M d b pc L (v :: u :: st) h Q := by
  subst hp
  exact gk_go (fun _ _ _ _ _ _ _ _ _ _ _ _ _ _ _ C _ k => lv_dup2_11 C.1 C.2.1 hd hc hc2 k) k
theorem gk_iconst {n : Int} (v : Int32) (hd : decode M.2.1 pc = .ok (.iconst n, 1)) (hp : pc + 1 = pc') (hv : Int32.ofInt n = v) (k : G K M d b pc' L (.int v :: st) h Q) : G K M d b pc L (st) h Q := by
  subst hp
  exact gk_go (fun _ _ _ _ _ _ _ _ _ _ _ _ _ _ _ C _ k => lv_iconst C.1 C.2.1 hd hv k) k
theorem gk_bipush {n : Int} (v : Int32) (hd : decode M.2.1 pc = .ok (.bipush n, 2)) (hp : pc + 2 = pc') (hv : (Int8.ofInt n).toInt32 = v) (k : G K M d b pc' L (.int v :: st) h Q) : G K M d b pc L (st) h Q := by
  subst hp
  exact gk_go (fun _ _ _ _ _ _ _ _ _ _ _ _ _ _ _ C _ k => lv_bipush C.1 C.2.1 hd hv k) k
theorem gk_sipush {n : Int} (v : Int32) (hd : decode M.2.1 pc = .ok (.sipush n, 3)) (hp : pc + 3 = pc') (hv : (Int16.ofInt n).toInt32 = v) (k : G K M d b pc' L (.int v :: st) h Q) : G K M d b pc L (st) h Q := by
  subst hp
  exact gk_go (fun _ _ _ _ _ _ _ _ _ _ _ _ _ _ _ C _ k => lv_sipush C.1 C.2.1 hd hv k) k
theorem gk_lconst {n : Fin 2} (v : Int64) (hd : decode M.2.1 pc = .ok (.lconst n, 1)) (hp : pc + 1 = pc') (hv : Int64.ofNat (n : Nat) = v) (k : G K M d b pc' L (.long v :: st) h Q) : G K M d b pc L (st) h Q := by
  subst hp
  exact gk_go (fun _ _ _ _ _ _ _ _ _ _ _ _ _ _ _ C _ k => lv_lconst C.1 C.2.1 hd hv k) k
theorem gk_ldc {i : Nat} {v : Int32} (hd : decode M.2.1 pc = .ok (.ldc i, 2)) (hp : pc + 2 = pc') (hw : Cond.constant M.1.cls i v ∈ gk_good) (k : G K M d b pc' L (.int v :: st) h Q) : G K M d b pc L (st) h Q := by
  subst hp
  exact gk_go (fun _ _ _ _ _ _ _ _ _ _ _ _ _ _ _ C _ k => lv_ldc C.1 C.2.1 C.2.2.2.2.1 (C.2.2.2.2.2.1 _ hw) hd k) k
theorem gk_ldcw {i : Nat} {v : Int32} (hd : decode M.2.1 pc = .ok (.ldc_w i, 3)) (hp : pc + 3 = pc') (hw : Cond.constant M.1.cls i v ∈ gk_good) (k : G K M d b pc' L (.int v :: st) h Q) : G K M d b pc L (st) h Q := by
  subst hp
  exact gk_go (fun _ _ _ _ _ _ _ _ _ _ _ _ _ _ _ C _ k => lv_ldcw C.1 C.2.1 C.2.2.2.2.1 (C.2.2.2.2.2.1 _ hw) hd k) k
theorem gk_ldc2 {i : Nat} {v : Int64} (hd : decode M.2.1 pc = .ok (.ldc2_w i, 3)) (hp : pc + 3 = pc') (hw : Cond.constantLong M.1.cls i v ∈ gk_good) (k : G K M d b pc' L (.long v :: st) h Q) : G K M d b pc L (st) h Q := by
  subst hp
  exact gk_go (fun _ _ _ _ _ _ _ _ _ _ _ _ _ _ _ C _ k => lv_ldc2 C.1 C.2.1 C.2.2.2.2.1 (C.2.2.2.2.2.1 _ hw) hd k) k
theorem gk_null (hd : decode M.2.1 pc = .ok (.aconst_null, 1)) (hp : pc + 1 = pc') (k : G K M d b pc' L (.null :: st) h Q) : G K M d b pc L (st) h Q := by
  subst hp
  exact gk_go (fun _ _ _ _ _ _ _ _ _ _ _ _ _ _ _ C _ k => lv_null C.1 C.2.1 hd k) k
theorem gk_ifnull {x : Nat} {off : Int} (hd : decode M.2.1 pc = .ok (.ifnull off, 3)) (hp : pc + 3 = pc') (k : G K M d b pc' L (st) h Q) : G K M d b pc L (.ref x :: st) h Q := by
  subst hp
  exact gk_go (fun _ _ _ _ _ _ _ _ _ _ _ _ _ _ _ C _ k => lv_ifnull C.1 C.2.1 hd k) k
theorem gk_ifnonnullN {off : Int} (hd : decode M.2.1 pc = .ok (.ifnonnull off, 3)) (hp : pc + 3 = pc') (k : G K M d b pc' L (st) h Q) : G K M d b pc L (.null :: st) h Q := by
  subst hp
  exact gk_go (fun _ _ _ _ _ _ _ _ _ _ _ _ _ _ _ C _ k => lv_ifnonnullN C.1 C.2.1 hd k) k
theorem gk_ifnonnull {x : Nat} {off : Int} (hd : decode M.2.1 pc = .ok (.ifnonnull off, 3)) (ht : (pc : Int) + off = (tgt : Int)) (k : G K M d b tgt L st h Q) : G K M d b pc L (.ref x :: st) h Q :=
  gk_go (fun _ _ _ _ _ _ _ _ _ _ _ _ _ _ _ C _ k => lv_ifnonnull C.1 C.2.1 hd ht k) k
theorem gk_ifnullN {off : Int} (hd : decode M.2.1 pc = .ok (.ifnull off, 3)) (ht : (pc : Int) + off = (tgt : Int)) (k : G K M d b tgt L st h Q) : G K M d b pc L (.null :: st) h Q :=
  gk_go (fun _ _ _ _ _ _ _ _ _ _ _ _ _ _ _ C _ k => lv_ifnullN C.1 C.2.1 hd ht k) k
theorem gk_goto {off : Int} (hd : decode M.2.1 pc = .ok (.goto off, 3)) (ht : (pc : Int) + off = (tgt : Int)) (k : G K M d b tgt L st h Q) : G K M d b pc L (st) h Q :=
  gk_go (fun _ _ _ _ _ _ _ _ _ _ _ _ _ _ _ C _ k => lv_goto C.1 C.2.1 hd ht k) k
theorem gk_iload_n {k0 : Fin 4} {i : Nat} {x : Int32} (hd : decode M.2.1 pc = .ok (.iload_n k0, 1)) (hi : (k0 : Nat) = i) (hp : pc + 1 = pc') (hg : L[i]? = some (some (.int x))) (k : G K M d b pc' L (.int x :: st) h Q) : G K M d b pc L st h Q := by
  subst hp
  exact gk_go (fun _ _ _ _ _ _ _ _ _ _ _ _ _ _ _ C hL k => lv_iload_n C.1 C.2.1 hd hi (hL.2.2 _ _ hg) k) k
theorem gk_iload {i : Nat} {x : Int32} (hd : decode M.2.1 pc = .ok (.iload i, 2)) (hp : pc + 2 = pc') (hg : L[i]? = some (some (.int x))) (k : G K M d b pc' L (.int x :: st) h Q) : G K M d b pc L st h Q := by
  subst hp
  exact gk_go (fun _ _ _ _ _ _ _ _ _ _ _ _ _ _ _ C hL k => lv_iload C.1 C.2.1 hd (hL.2.2 _ _ hg) k) k
theorem gk_lload_n {k0 : Fin 4} {i : Nat} {x : Int64} (hd : decode M.2.1 pc = .ok (.lload_n k0, 1)) (hi : (k0 : Nat) = i) (hp : pc + 1 = pc') (hg : L[i]? = some (some (.long x))) (k : G K M d b pc' L (.long x :: st) h Q) : G K M d b pc L st h Q := by
  subst hp
  exact gk_go (fun _ _ _ _ _ _ _ _ _ _ _ _ _ _ _ C hL k => lv_lload_n C.1 C.2.1 hd hi (hL.2.2 _ _ hg) k) k
theorem gk_lload {i : Nat} {x : Int64} (hd : decode M.2.1 pc = .ok (.lload i, 2)) (hp : pc + 2 = pc') (hg : L[i]? = some (some (.long x))) (k : G K M d b pc' L (.long x :: st) h Q) : G K M d b pc L st h Q := by
  subst hp
  exact gk_go (fun _ _ _ _ _ _ _ _ _ _ _ _ _ _ _ C hL k => lv_lload C.1 C.2.1 hd (hL.2.2 _ _ hg) k) k
theorem gk_aload_n {k0 : Fin 4} {i : Nat} {x : Nat} (hd : decode M.2.1 pc = .ok (.aload_n k0, 1)) (hi : (k0 : Nat) = i) (hp : pc + 1 = pc') (hg : L[i]? = some (some (.ref x))) (k : G K M d b pc' L (.ref x :: st) h Q) : G K M d b pc L st h Q := by
  subst hp
  exact gk_go (fun _ _ _ _ _ _ _ _ _ _ _ _ _ _ _ C hL k => lv_aload_n C.1 C.2.1 hd hi (hL.2.2 _ _ hg) k) k
theorem gk_aload {i : Nat} {x : Nat} (hd : decode M.2.1 pc = .ok (.aload i, 2)) (hp : pc + 2 = pc') (hg : L[i]? = some (some (.ref x))) (k : G K M d b pc' L (.ref x :: st) h Q) : G K M d b pc L st h Q := by
  subst hp
  exact gk_go (fun _ _ _ _ _ _ _ _ _ _ _ _ _ _ _ C hL k => lv_aload C.1 C.2.1 hd (hL.2.2 _ _ hg) k) k
theorem gk_aload_nN {k0 : Fin 4} {i : Nat} (hd : decode M.2.1 pc = .ok (.aload_n k0, 1)) (hi : (k0 : Nat) = i) (hp : pc + 1 = pc') (hg : L[i]? = some (some .null)) (k : G K M d b pc' L (.null :: st) h Q) : G K M d b pc L st h Q := by
  subst hp
  exact gk_go (fun _ _ _ _ _ _ _ _ _ _ _ _ _ _ _ C hL k => lv_aload_nN C.1 C.2.1 hd hi (hL.2.2 _ _ hg) k) k
theorem gk_aloadN {i : Nat} (hd : decode M.2.1 pc = .ok (.aload i, 2)) (hp : pc + 2 = pc') (hg : L[i]? = some (some .null)) (k : G K M d b pc' L (.null :: st) h Q) : G K M d b pc L st h Q := by
  subst hp
  exact gk_go (fun _ _ _ _ _ _ _ _ _ _ _ _ _ _ _ C hL k => lv_aloadN C.1 C.2.1 hd (hL.2.2 _ _ hg) k) k
theorem gk_istore_n {k0 : Fin 4} {i : Nat} {x : Int32} {L' : List (Option Value)} (hd : decode M.2.1 pc = .ok (.istore_n k0, 1)) (hi : (k0 : Nat) = i) (hp : pc + 1 = pc') (hlt : i < M.2.2.1) (hok : gk_ok L i = true) (hL' : L.set i (some (.int x)) = L') (k : G K M d b pc' L' st h Q) : G K M d b pc L (.int x :: st) h Q := by
  subst hp
  subst hL'
  intro p e s m args below meth c H locs cells slots mc ms ls C hR hS hL h1 h2
  exact lv_istore_n C.1 C.2.1 hd hi hL.has hlt rfl (fun ls' hl' => k p e s m args below meth c H locs cells slots mc ms ls' C hR hS (gk_L.set1 hl' hok) h1 h2)
theorem gk_istore {i : Nat} {x : Int32} {L' : List (Option Value)} (hd : decode M.2.1 pc = .ok (.istore i, 2)) (hp : pc + 2 = pc') (hlt : i < M.2.2.1) (hok : gk_ok L i = true) (hL' : L.set i (some (.int x)) = L') (k : G K M d b pc' L' st h Q) : G K M d b pc L (.int x :: st) h Q := by
  subst hp
  subst hL'
  intro p e s m args below meth c H locs cells slots mc ms ls C hR hS hL h1 h2
  exact lv_istore C.1 C.2.1 hd hL.has hlt rfl (fun ls' hl' => k p e s m args below meth c H locs cells slots mc ms ls' C hR hS (gk_L.set1 hl' hok) h1 h2)
theorem gk_lstore_n {k0 : Fin 4} {i : Nat} {x : Int64} {L' : List (Option Value)} (hd : decode M.2.1 pc = .ok (.lstore_n k0, 1)) (hi : (k0 : Nat) = i) (hp : pc + 1 = pc') (hlt : i + 1 < M.2.2.1) (hok : gk_ok L i = true) (hL' : (L.set i (some (.long x))).set (i + 1) none = L') (k : G K M d b pc' L' st h Q) : G K M d b pc L (.long x :: st) h Q := by
  subst hp
  subst hL'
  intro p e s m args below meth c H locs cells slots mc ms ls C hR hS hL h1 h2
  exact lv_lstore_n C.1 C.2.1 hd hi hL.has hlt rfl (fun ls' hl' => k p e s m args below meth c H locs cells slots mc ms ls' C hR hS (gk_L.set2 hl' hok) h1 h2)
theorem gk_lstore {i : Nat} {x : Int64} {L' : List (Option Value)} (hd : decode M.2.1 pc = .ok (.lstore i, 2)) (hp : pc + 2 = pc') (hlt : i + 1 < M.2.2.1) (hok : gk_ok L i = true) (hL' : (L.set i (some (.long x))).set (i + 1) none = L') (k : G K M d b pc' L' st h Q) : G K M d b pc L (.long x :: st) h Q := by
  subst hp
  subst hL'
  intro p e s m args below meth c H locs cells slots mc ms ls C hR hS hL h1 h2
  exact lv_lstore C.1 C.2.1 hd hL.has hlt rfl (fun ls' hl' => k p e s m args below meth c H locs cells slots mc ms ls' C hR hS (gk_L.set2 hl' hok) h1 h2)
theorem gk_astore_n {k0 : Fin 4} {i : Nat} {x : Nat} {L' : List (Option Value)} (hd : decode M.2.1 pc = .ok (.astore_n k0, 1)) (hi : (k0 : Nat) = i) (hp : pc + 1 = pc') (hlt : i < M.2.2.1) (hok : gk_ok L i = true) (hL' : L.set i (some (.ref x)) = L') (k : G K M d b pc' L' st h Q) : G K M d b pc L (.ref x :: st) h Q := by
  subst hp
  subst hL'
  intro p e s m args below meth c H locs cells slots mc ms ls C hR hS hL h1 h2
  exact lv_astore_n C.1 C.2.1 hd hi hL.has hlt rfl (fun ls' hl' => k p e s m args below meth c H locs cells slots mc ms ls' C hR hS (gk_L.set1 hl' hok) h1 h2)
theorem gk_astore {i : Nat} {x : Nat} {L' : List (Option Value)} (hd : decode M.2.1 pc = .ok (.astore i, 2)) (hp : pc + 2 = pc') (hlt : i < M.2.2.1) (hok : gk_ok L i = true) (hL' : L.set i (some (.ref x)) = L') (k : G K M d b pc' L' st h Q) : G K M d b pc L (.ref x :: st) h Q := by
  subst hp
  subst hL'
  intro p e s m args below meth c H locs cells slots mc ms ls C hR hS hL h1 h2
  exact lv_astore C.1 C.2.1 hd hL.has hlt rfl (fun ls' hl' => k p e s m args below meth c H locs cells slots mc ms ls' C hR hS (gk_L.set1 hl' hok) h1 h2)
theorem gk_astore_nN {k0 : Fin 4} {i : Nat} {L' : List (Option Value)} (hd : decode M.2.1 pc = .ok (.astore_n k0, 1)) (hi : (k0 : Nat) = i) (hp : pc + 1 = pc') (hlt : i < M.2.2.1) (hok : gk_ok L i = true) (hL' : L.set i (some (.null)) = L') (k : G K M d b pc' L' st h Q) : G K M d b pc L (.null :: st) h Q := by
  subst hp
  subst hL'
  intro p e s m args below meth c H locs cells slots mc ms ls C hR hS hL h1 h2
  exact lv_astore_nN C.1 C.2.1 hd hi hL.has hlt rfl (fun ls' hl' => k p e s m args below meth c H locs cells slots mc ms ls' C hR hS (gk_L.set1 hl' hok) h1 h2)
theorem gk_astoreN {i : Nat} {L' : List (Option Value)} (hd : decode M.2.1 pc = .ok (.astore i, 2)) (hp : pc + 2 = pc') (hlt : i < M.2.2.1) (hok : gk_ok L i = true) (hL' : L.set i (some (.null)) = L') (k : G K M d b pc' L' st h Q) : G K M d b pc L (.null :: st) h Q := by
  subst hp
  subst hL'
  intro p e s m args below meth c H locs cells slots mc ms ls C hR hS hL h1 h2
  exact lv_astoreN C.1 C.2.1 hd hL.has hlt rfl (fun ls' hl' => k p e s m args below meth c H locs cells slots mc ms ls' C hR hS (gk_L.set1 hl' hok) h1 h2)
theorem gk_iinc {i : Nat} {n : Int} {x : Int32} (v : Int32) {L' : List (Option Value)} (hd : decode M.2.1 pc = .ok (.iinc i n, 3)) (hp : pc + 3 = pc') (hg : L[i]? = some (some (.int x))) (hv : x + Int32.ofInt n = v) (hlt : i < M.2.2.1) (hok : gk_ok L i = true) (hL' : L.set i (some (.int v)) = L') (k : G K M d b pc' L' st h Q) : G K M d b pc L st h Q := by
  subst hp
  subst hL'
  intro p e s m args below meth c H locs cells slots mc ms ls C hR hS hL h1 h2
  obtain ⟨j, hj⟩ := List.getElem?_of_mem (gk_as_mem.mpr hg)
  exact lv_iinc C.1 C.2.1 hd hL.has hj hv hlt rfl (fun ls' hl' => k p e s m args below meth c H locs cells slots mc ms ls' C hR hS (gk_L.set1 hl' hok) h1 h2)
theorem gk_if_eq {x : Int32} {off : Int} (hd : decode M.2.1 pc = .ok (.ifCond .eq off, 3)) (ht : (pc : Int) + off = (tgt : Int)) (hp : pc + 3 = pc') (kt : x = 0 → G K M d b tgt L st h Q) (kf : ¬ x = 0 → G K M d b pc' L st h Q) : G K M d b pc L (.int x :: st) h Q := by
  subst hp
  intro p e s m args below meth c H locs cells slots mc ms ls C hR hS hL h1 h2
  exact lv_if_eq C.1 C.2.1 hd ht (fun q => kt q p e s m args below meth c H locs cells slots mc ms ls C hR hS hL h1 h2) (fun q => kf q p e s m args below meth c H locs cells slots mc ms ls C hR hS hL h1 h2)
theorem gk_icmp_eq {x y : Int32} {off : Int} (hd : decode M.2.1 pc = .ok (.if_icmp .eq off, 3)) (ht : (pc : Int) + off = (tgt : Int)) (hp : pc + 3 = pc') (kt : x = y → G K M d b tgt L st h Q) (kf : ¬ x = y → G K M d b pc' L st h Q) : G K M d b pc L (.int y :: .int x :: st) h Q := by
  subst hp
  intro p e s m args below meth c H locs cells slots mc ms ls C hR hS hL h1 h2
  exact lv_icmp_eq C.1 C.2.1 hd ht (fun q => kt q p e s m args below meth c H locs cells slots mc ms ls C hR hS hL h1 h2) (fun q => kf q p e s m args below meth c H locs cells slots mc ms ls C hR hS hL h1 h2)
theorem gk_if_ne {x : Int32} {off : Int} (hd : decode M.2.1 pc = .ok (.ifCond .ne off, 3)) (ht : (pc : Int) + off = (tgt : Int)) (hp : pc + 3 = pc') (kt : ¬ x = 0 → G K M d b tgt L st h Q) (kf : x = 0 → G K M d b pc' L st h Q) : G K M d b pc L (.int x :: st) h Q := by
  subst hp
  intro p e s m args below meth c H locs cells slots mc ms ls C hR hS hL h1 h2
  exact lv_if_ne C.1 C.2.1 hd ht (fun q => kt q p e s m args below meth c H locs cells slots mc ms ls C hR hS hL h1 h2) (fun q => kf q p e s m args below meth c H locs cells slots mc ms ls C hR hS hL h1 h2)
theorem gk_icmp_ne {x y : Int32} {off : Int} (hd : decode M.2.1 pc = .ok (.if_icmp .ne off, 3)) (ht : (pc : Int) + off = (tgt : Int)) (hp : pc + 3 = pc') (kt : ¬ x = y → G K M d b tgt L st h Q) (kf : x = y → G K M d b pc' L st h Q) : G K M d b pc L (.int y :: .int x :: st) h Q := by
  subst hp
  intro p e s m args below meth c H locs cells slots mc ms ls C hR hS hL h1 h2
  exact lv_icmp_ne C.1 C.2.1 hd ht (fun q => kt q p e s m args below meth c H locs cells slots mc ms ls C hR hS hL h1 h2) (fun q => kf q p e s m args below meth c H locs cells slots mc ms ls C hR hS hL h1 h2)
theorem gk_if_lt {x : Int32} {off : Int} (hd : decode M.2.1 pc = .ok (.ifCond .lt off, 3)) (ht : (pc : Int) + off = (tgt : Int)) (hp : pc + 3 = pc') (kt : x < 0 → G K M d b tgt L st h Q) (kf : ¬ x < 0 → G K M d b pc' L st h Q) : G K M d b pc L (.int x :: st) h Q := by
  subst hp
  intro p e s m args below meth c H locs cells slots mc ms ls C hR hS hL h1 h2
  exact lv_if_lt C.1 C.2.1 hd ht (fun q => kt q p e s m args below meth c H locs cells slots mc ms ls C hR hS hL h1 h2) (fun q => kf q p e s m args below meth c H locs cells slots mc ms ls C hR hS hL h1 h2)
theorem gk_icmp_lt {x y : Int32} {off : Int} (hd : decode M.2.1 pc = .ok (.if_icmp .lt off, 3)) (ht : (pc : Int) + off = (tgt : Int)) (hp : pc + 3 = pc') (kt : x < y → G K M d b tgt L st h Q) (kf : ¬ x < y → G K M d b pc' L st h Q) : G K M d b pc L (.int y :: .int x :: st) h Q := by
  subst hp
  intro p e s m args below meth c H locs cells slots mc ms ls C hR hS hL h1 h2
  exact lv_icmp_lt C.1 C.2.1 hd ht (fun q => kt q p e s m args below meth c H locs cells slots mc ms ls C hR hS hL h1 h2) (fun q => kf q p e s m args below meth c H locs cells slots mc ms ls C hR hS hL h1 h2)
theorem gk_if_ge {x : Int32} {off : Int} (hd : decode M.2.1 pc = .ok (.ifCond .ge off, 3)) (ht : (pc : Int) + off = (tgt : Int)) (hp : pc + 3 = pc') (kt : 0 ≤ x → G K M d b tgt L st h Q) (kf : ¬ 0 ≤ x → G K M d b pc' L st h Q) : G K M d b pc L (.int x :: st) h Q := by
  subst hp
  intro p e s m args below meth c H locs cells slots mc ms ls C hR hS hL h1 h2
  exact lv_if_ge C.1 C.2.1 hd ht (fun q => kt q p e s m args below meth c H locs cells slots mc ms ls C hR hS hL h1 h2) (fun q => kf q p e s m args below meth c H locs cells slots mc ms ls C hR hS hL h1 h2)
theorem gk_icmp_ge {x y : Int32} {off : Int} (hd : decode M.2.1 pc = .ok (.if_icmp .ge off, 3)) (ht : (pc : Int) + off = (tgt : Int)) (hp : pc + 3 = pc') (kt : y ≤ x → G K M d b tgt L st h Q) (kf : ¬ y ≤ x → G K M d b pc' L st h Q) : G K M d b pc L (.int y :: .int x :: st) h Q := by
  subst hp
  intro p e s m args below meth c H locs cells slots mc ms ls C hR hS hL h1 h2
  exact lv_icmp_ge C.1 C.2.1 hd ht (fun q => kt q p e s m args below meth c H locs cells slots mc ms ls C hR hS hL h1 h2) (fun q => kf q p e s m args below meth c H locs cells slots mc ms ls C hR hS hL h1 h2)
theorem gk_if_gt {x : Int32} {off : Int} (hd : decode M.2.1 pc = .ok (.ifCond .gt off, 3)) (ht : (pc : Int) + off = (tgt : Int)) (hp : pc + 3 = pc') (kt : 0 < x → G K M d b tgt L st h Q) (kf : ¬ 0 < x → G K M d b pc' L st h Q) : G K M d b pc L (.int x :: st) h Q := by
  subst hp
  intro p e s m args below meth c H locs cells slots mc ms ls C hR hS hL h1 h2
  exact lv_if_gt C.1 C.2.1 hd ht (fun q => kt q p e s m args below meth c H locs cells slots mc ms ls C hR hS hL h1 h2) (fun q => kf q p e s m args below meth c H locs cells slots mc ms ls C hR hS hL h1 h2)
theorem gk_icmp_gt {x y : Int32} {off : Int} (hd : decode M.2.1 pc = .ok (.if_icmp .gt off, 3)) (ht : (pc : Int) + off = (tgt : Int)) (hp : pc + 3 = pc') (kt : y < x → G K M d b tgt L st h Q) (kf : ¬ y < x → G K M d b pc' L st h Q) : G K M d b pc L (.int y :: .int x :: st) h Q := by
  subst hp
  intro p e s m args below meth c H locs cells slots mc ms ls C hR hS hL h1 h2
  exact lv_icmp_gt C.1 C.2.1 hd ht (fun q => kt q p e s m args below meth c H locs cells slots mc ms ls C hR hS hL h1 h2) (fun q => kf q p e s m args below meth c H locs cells slots mc ms ls C hR hS hL h1 h2)
theorem gk_if_le {x : Int32} {off : Int} (hd : decode M.2.1 pc = .ok (.ifCond .le off, 3)) (ht : (pc : Int) + off = (tgt : Int)) (hp : pc + 3 = pc') (kt : x ≤ 0 → G K M d b tgt L st h Q) (kf : ¬ x ≤ 0 → G K M d b pc' L st h Q) : G K M d b pc L (.int x :: st) h Q := by
  subst hp
  intro p e s m args below meth c H locs cells slots mc ms ls C hR hS hL h1 h2
  exact lv_if_le C.1 C.2.1 hd ht (fun q => kt q p e s m args below meth c H locs cells slots mc ms ls C hR hS hL h1 h2) (fun q => kf q p e s m args below meth c H locs cells slots mc ms ls C hR hS hL h1 h2)
theorem gk_icmp_le {x y : Int32} {off : Int} (hd : decode M.2.1 pc = .ok (.if_icmp .le off, 3)) (ht : (pc : Int) + off = (tgt : Int)) (hp : pc + 3 = pc') (kt : x ≤ y → G K M d b tgt L st h Q) (kf : ¬ x ≤ y → G K M d b pc' L st h Q) : G K M d b pc L (.int y :: .int x :: st) h Q := by
  subst hp
  intro p e s m args below meth c H locs cells slots mc ms ls C hR hS hL h1 h2
  exact lv_icmp_le C.1 C.2.1 hd ht (fun q => kt q p e s m args below meth c H locs cells slots mc ms ls C hR hS hL h1 h2) (fun q => kf q p e s m args below meth c H locs cells slots mc ms ls C hR hS hL h1 h2)
theorem gk_tableOut {dflt lo hi : Int} {offs : Array Int} {len : Nat} {x : Int32} (hd : decode M.2.1 pc = .ok (.tableswitch dflt lo hi offs, len)) (hx : x.toInt < lo ∨ hi < x.toInt) (ht : (pc : Int) + dflt = (tgt : Int)) (k : G K M d b tgt L st h Q) : G K M d b pc L (.int x :: st) h Q :=
  gk_go (fun _ _ _ _ _ _ _ _ _ _ _ _ _ _ _ C _ k => lv_tableOut C.1 C.2.1 hd hx ht k) k
theorem gk_tableIn {dflt lo hi off : Int} {offs : Array Int} {len : Nat} {x : Int32} (hd : decode M.2.1 pc = .ok (.tableswitch dflt lo hi offs, len)) (h1 : ¬ x.toInt < lo) (h2 : ¬ hi < x.toInt) (ho : offs[(x.toInt - lo).toNat]? = some off) (ht : (pc : Int) + off = (tgt : Int)) (k : G K M d b tgt L st h Q) : G K M d b pc L (.int x :: st) h Q :=
  gk_go (fun _ _ _ _ _ _ _ _ _ _ _ _ _ _ _ C _ k => lv_tableIn C.1 C.2.1 hd h1 h2 ho ht k) k
theorem gk_wide {p : Program} {e : Env} {R : Room} {s : State} {m : MethodId} {args : Array Value} {below : List Frame} {meth : Method} {c : Code} {H : Heap} {locs : List Loc} {cells slots mc ms : Nat} {Z : State → Prop} {g : JFrame} (h1 : cells + b.1 ≤ mc) (h2 : slots + b.2 ≤ ms) (k : W p K.1 e R s m args below meth c H locs mc ms Z g) : W p K.1 e R s m args below meth c H locs cells slots Z g := W.widen (k := mc) (n := ms) (by omega) (by omega) k
theorem gk_end {s t : State} {H : Heap} {locs : List Loc} {args : Array Value} {v : Option Value} (hq : Q v h) (hR : gk_rep K h H) (hS : va_S (gk_A K) s.heap H locs) (ht : t.heap = H) : gk_Q K Q args s (.returned v) t := ⟨⟨v, h, rfl, hq, by rw [ht]; exact hR⟩, hS.F ht⟩
theorem gk_iret {v : Int32} (hd : decode M.2.1 pc = .ok (.ireturn, 1)) (hr : M.2.2.2.1 = some .int) (k : Q (some (.int v)) h) : G K M d b pc L [.int v] h Q := by
  intro p e s m args below meth c H locs cells slots mc ms ls C hR hS hL h1 h2
  exact gk_wide h1 h2 (W.iret C.1 C.2.1 (C.2.2.1.trans hr) (fun t ht _ => gk_end k hR hS ht) hS.2.2 hd C.2.2.2.2.2.2.1)
theorem gk_zret {v : Int32} (hd : decode M.2.1 pc = .ok (.ireturn, 1)) (hr : M.2.2.2.1 = some .boolean) (hn : narrow .boolean (.int v) = .int v) (k : Q (some (.int v)) h) : G K M d b pc L [.int v] h Q := by
  intro p e s m args below meth c H locs cells slots mc ms ls C hR hS hL h1 h2
  exact gk_wide h1 h2 (W.zret C.1 C.2.1 (C.2.2.1.trans hr) hn (fun t ht _ => gk_end k hR hS ht) hS.2.2 hd C.2.2.2.2.2.2.1)
theorem gk_vret (hd : decode M.2.1 pc = .ok (.return_, 1)) (hr : M.2.2.2.1 = none) (k : Q none h) : G K M d b pc L [] h Q := by
  intro p e s m args below meth c H locs cells slots mc ms ls C hR hS hL h1 h2
  exact gk_wide h1 h2 (W.vret C.1 C.2.1 (C.2.2.1.trans hr) (fun t ht _ => gk_end k hR hS ht) hS.2.2 hd C.2.2.2.2.2.2.1)
theorem gk_lret {v : Int64} (hd : decode M.2.1 pc = .ok (.lreturn, 1)) (hr : M.2.2.2.1 = some .long) (k : Q (some (.long v)) h) : G K M d b pc L [.long v] h Q := by
  intro p e s m args below meth c H locs cells slots mc ms ls C hR hS hL h1 h2
  exact gk_wide h1 h2 (W.lret C.1 C.2.1 (C.2.2.1.trans hr) (fun t ht _ => gk_end k hR hS ht) hS.2.2 hd C.2.2.2.2.2.2.1)
theorem gk_aret {v : Nat} {n : String} (hd : decode M.2.1 pc = .ok (.areturn, 1)) (hr : M.2.2.2.1 = some (.object n)) (k : Q (some (.ref v)) h) : G K M d b pc L [.ref v] h Q := by
  intro p e s m args below meth c H locs cells slots mc ms ls C hR hS hL h1 h2
  exact gk_wide h1 h2 (W.aret C.1 C.2.1 (C.2.2.1.trans hr) (Or.inl ⟨n, rfl⟩) (Or.inr ⟨v, rfl⟩) (fun t ht _ => gk_end k hR hS ht) hS.2.2 hd C.2.2.2.2.2.2.1)
theorem gk_aretN {n : String} (hd : decode M.2.1 pc = .ok (.areturn, 1)) (hr : M.2.2.2.1 = some (.object n)) (k : Q (some .null) h) : G K M d b pc L [.null] h Q := by
  intro p e s m args below meth c H locs cells slots mc ms ls C hR hS hL h1 h2
  exact gk_wide h1 h2 (W.aret C.1 C.2.1 (C.2.2.1.trans hr) (Or.inl ⟨n, rfl⟩) (Or.inl rfl) (fun t ht _ => gk_end k hR hS ht) hS.2.2 hd C.2.2.2.2.2.2.1)
/-! fields -/
def gk_F (own : String) (idx ci k : Nat) : Prop := ∃ (C : String) (T : u_T) (N : Nat), vwCl[ci]? = some (C, T, N) ∧ k < N ∧ (∀ w ∈ u_ws C T N, w ∈ gk_good) ∧ Cond.fieldLink own idx (T k).1 (T k).2.1 (T k).2.2.1 ∈ gk_good
def gk_FP (own : String) (idx ci k : Nat) (ty : FieldType) (fin : Bool) : Prop := ∃ (C : String) (T : u_T) (N : Nat) (ty0 : Nat → FieldType), vwCl[ci]? = some (C, T, N) ∧ k < N ∧ (∀ w ∈ u_ws C T N, w ∈ gk_good) ∧ Cond.fieldLink own idx (T k).1 (T k).2.1 (T k).2.2.1 ∈ gk_good ∧ (∀ k, k < N → parseFieldDescriptor (T k).2.2.1 = some (ty0 k)) ∧ (∀ a, a < N → ∀ b, b < N → a ≠ b → (T a).2.1 ≠ (T b).2.1) ∧ ty0 k = ty ∧ (T k).2.2.2 = fin ∧ (fin = true → (T k).1 = own)
theorem gk_one {D : va_G} {e : va_E} {a : Nat} {H : Heap} (h : va_at D vwCl (a, e) H) : va_P D vwCl [(a, e)] H := fun k q hq => by
  match k, hq with
  | 0, hq => cases hq; exact h
  | k + 1, hq => simp at hq
theorem gk_getf {idx ci k a : Nat} {fs : List Value} {v : Value} (hF : gk_F M.1.cls idx ci k) (hd : decode M.2.1 pc = .ok (.getfield idx, 3)) (hp : pc + 3 = pc') (ha : h.1 a = some (.inr (ci, fs))) (hv : fs[k]? = some v) (kk : G K M d b pc' L (v :: st) h Q) : G K M d b pc L (.ref a :: st) h Q := by
  subst hp
  obtain ⟨C0, T, N, hc, hk, hin, hl⟩ := hF
  intro p e s m args below meth c H locs cells slots mc ms ls C hR hS hL h1 h2
  obtain ⟨c1, c2, c3, c4, c5, c6, c7, c8, c9, -⟩ := id C
  exact va_get c1 c2 c6 hin c5 c9 (gk_one (hR.2 a _ ha).2) 0 rfl hc k hk (c6 _ hl) (fun _ z => z) hv hd (kk p e s m args below meth c H locs cells slots mc ms ls C hR hS hL h1 h2)
theorem gk_putf {idx ci k a : Nat} {ty : FieldType} {fs : List Value} {v : Value} (hF : gk_FP M.1.cls idx ci k ty false) (hd : decode M.2.1 pc = .ok (.putfield idx, 3)) (hp : pc + 3 = pc') (ha : h.1 a = some (.inr (ci, fs))) (hn : narrow ty v = v) (hf : fits ty v = true) (hlt : k < fs.length) (kk : G K M d b pc' L st (gk_set h a (.inr (ci, fs.set k v))) Q) : G K M d b pc L (v :: .ref a :: st) h Q := by
  subst hp
  obtain ⟨C0, T, N, ty0, hc, hk, hin, hl, hty, hnm, hyk, hfin, -⟩ := hF
  intro p e s m args below meth c H locs cells slots mc ms ls C hR hS hL h1 h2
  obtain ⟨c1, c2, c3, c4, c5, c6, c7, c8, c9, -⟩ := id C
  have hap := va_apart (own := M.1.cls) c6 hin ty0 hty hnm c9 hc
  obtain ⟨r, g1, cell, q1, q2, q3, q4⟩ := (hR.2 a _ ha).2
  cases g1.symm.trans hc
  obtain ⟨hS1, hfc, kC, hkC, hkind⟩ := c9.1 ci _ hc
  obtain ⟨cf, kf, fi, f, hi, hsl⟩ := hS1 k hk
  have hlay := c6 _ (hin _ (u_in_lay hk))
  unfold u_lay at hlay
  rw [if_neg (by rw [hfin]; decide)] at hlay
  have hst := (u_facts hfc hkC (u_lays c6 hin hk) hi).1
  have h6 := u_store hfc hkC hkind hlay hi (by rw [hty k hk, hyk]) hn hf
  refine W.putK c1 c2 (f := f) ⟨c5, c6 _ hl, ⟨_, _, _, hi⟩, hst⟩ (by rw [q2]; exact h6) q1 q3 (by rw [hsl]; exact k2_hasslot (q4 k hk)) rfl rfl hd fun H' e1 e2 e3 => ?_
  rw [hsl] at e1 ⊢
  exact kk p e s m args below meth c H' _ cells slots mc ms ls C (hR.set ha e2 ⟨_, hc, t_OB.to (V := updV (vp_V fs) k v) ⟨_, e1, q2, q3, t_set q4 hap hk v⟩ (fun j _ => vp_updV_set hlt v j)⟩ e3) (hS.put e2 e3 (hR.2 a _ ha).1) hL h1 h2
theorem gk_putF {idx ci k a : Nat} {ty : FieldType} {fs : List Value} {v : Value} (hF : gk_FP M.1.cls idx ci k ty true) (hinit : M.1.name = "<init>") (hd : decode M.2.1 pc = .ok (.putfield idx, 3)) (hp : pc + 3 = pc') (ha : h.1 a = some (.inr (ci, fs))) (hn : narrow ty v = v) (hf : fits ty v = true) (hlt : k < fs.length) (kk : G K M d b pc' L st (gk_set h a (.inr (ci, fs.set k v))) Q) : G K M d b pc L (v :: .ref a :: st) h Q := by
  subst hp
  obtain ⟨C0, T, N, ty0, hc, hk, hin, hl, hty, hnm, hyk, hfin, hdecl'⟩ := hF
  have hdecl := hdecl' rfl
  intro p e s m args below meth c H locs cells slots mc ms ls C hR hS hL h1 h2
  obtain ⟨c1, c2, c3, c4, c5, c6, c7, c8, c9, -⟩ := id C
  have hap := va_apart (own := M.1.cls) c6 hin ty0 hty hnm c9 hc
  obtain ⟨r, g1, cell, q1, q2, q3, q4⟩ := (hR.2 a _ ha).2
  cases g1.symm.trans hc
  obtain ⟨hS1, hfc, kC, hkC, hkind⟩ := c9.1 ci _ hc
  obtain ⟨cf, kf, fi, f, hi, hsl⟩ := hS1 k hk
  have hlay := c6 _ (hin _ (u_in_lay hk))
  unfold u_lay at hlay
  rw [if_pos hfin] at hlay
  have hst := (u_facts hfc hkC (u_lays c6 hin hk) hi).1
  have hcf : m.cls = cf := by
    obtain ⟨_, _, c', _, _, _, -, -, hf', -, -, -, hown2, -⟩ := Cond.laysFinal_spec hlay
    have e1 : c' = cf := by have := hi.symm.trans hf'; simp at this; exact this.1.symm
    rw [hdecl] at hown2
    rw [← e1]; exact Option.some.inj (c5.symm.trans hown2)
  have h6 := u_fits hfc hkC hkind (Or.inr hlay) hi (by rw [hty k hk, hyk]) hn hf
  refine W.putFinK c1 c2 c5 (c6 _ hl) hi hst hcf (c8.trans hinit) (by rw [q2]; exact h6) q1 q3 (by rw [hsl]; exact k2_hasslot (q4 k hk)) rfl rfl hd fun H' e1 e2 e3 => ?_
  rw [hsl] at e1 ⊢
  exact kk p e s m args below meth c H' _ cells slots mc ms ls C (hR.set ha e2 ⟨_, hc, t_OB.to (V := updV (vp_V fs) k v) ⟨_, e1, q2, q3, t_set q4 hap hk v⟩ (fun j _ => vp_updV_set hlt v j)⟩ e3) (hS.put e2 e3 (hR.2 a _ ha).1) hL h1 h2
/-! arrays: t0 is the place of the array's type among K's -/
theorem gk_iald {a t0 n : Nat} {cA : ClassId} {f : Nat → Int32} {i : Int32} (ht : K.2.2.1[t0]? = some (cA, .int)) (hd : decode M.2.1 pc = .ok (.iaload, 1)) (hp : pc + 1 = pc') (ha : h.1 a = some (.inl (cA, n, .inl f))) (hin : vp_in i n) (k : G K M d b pc' L (.int (f i.toNatClampNeg) :: st) h Q) : G K M d b pc L (.int i :: .ref a :: st) h Q := by
  subst hp
  intro p e s m args below meth c H locs cells slots mc ms ls C hR hS hL h1 h2
  obtain ⟨c1, c2, c3, c4, c5, c6, c7, c8, c9, -⟩ := id C
  exact va_iald c1 c2 c9 (gk_one (hR.2 a _ ha).2) 0 t0 rfl ht hin hd (k p e s m args below meth c H locs cells slots mc ms ls C hR hS hL h1 h2)
theorem gk_zald {a t0 n : Nat} {cA : ClassId} {f : Nat → Int32} {i : Int32} (ht : K.2.2.1[t0]? = some (cA, .boolean)) (hd : decode M.2.1 pc = .ok (.baload, 1)) (hp : pc + 1 = pc') (ha : h.1 a = some (.inl (cA, n, .inl f))) (hin : vp_in i n) (k : G K M d b pc' L (.int (f i.toNatClampNeg) :: st) h Q) : G K M d b pc L (.int i :: .ref a :: st) h Q := by
  subst hp
  intro p e s m args below meth c H locs cells slots mc ms ls C hR hS hL h1 h2
  obtain ⟨c1, c2, c3, c4, c5, c6, c7, c8, c9, -⟩ := id C
  exact va_zald c1 c2 c9 (gk_one (hR.2 a _ ha).2) 0 t0 rfl ht hin hd (k p e s m args below meth c H locs cells slots mc ms ls C hR hS hL h1 h2)
theorem gk_aald {a t0 n : Nat} {cA : ClassId} {C0 : String} {f : Nat → Option Nat} {i : Int32} (ht : K.2.2.1[t0]? = some (cA, .object C0)) (hd : decode M.2.1 pc = .ok (.aaload, 1)) (hp : pc + 1 = pc') (ha : h.1 a = some (.inl (cA, n, .inr (.inr (.inr (.inr f)))))) (hin : vp_in i n) (k : G K M d b pc' L (va_rf (f i.toNatClampNeg) :: st) h Q) : G K M d b pc L (.int i :: .ref a :: st) h Q := by
  subst hp
  intro p e s m args below meth c H locs cells slots mc ms ls C hR hS hL h1 h2
  obtain ⟨c1, c2, c3, c4, c5, c6, c7, c8, c9, -⟩ := id C
  exact va_aldq c1 c2 c9 (gk_one (hR.2 a _ ha).2) 0 t0 rfl ht hin hd (k p e s m args below meth c H locs cells slots mc ms ls C hR hS hL h1 h2)
theorem gk_alen {a t0 : Nat} {cA : ClassId} {ty : FieldType} {x : vp_A} (ht : K.2.2.1[t0]? = some (cA, ty)) (hd : decode M.2.1 pc = .ok (.arraylength, 1)) (hp : pc + 1 = pc') (ha : h.1 a = some (.inl (cA, x))) (k : G K M d b pc' L (.int (Int32.ofNat x.1) :: st) h Q) : G K M d b pc L (.ref a :: st) h Q := by
  subst hp
  intro p e s m args below meth c H locs cells slots mc ms ls C hR hS hL h1 h2
  obtain ⟨c1, c2, c3, c4, c5, c6, c7, c8, c9, -⟩ := id C
  exact va_alen c1 c2 c9 (gk_one (hR.2 a _ ha).2) 0 t0 rfl ht rfl hd (k p e s m args below meth c H locs cells slots mc ms ls C hR hS hL h1 h2)
theorem gk_iast {a t0 n : Nat} {cA : ClassId} {f : Nat → Int32} {i x : Int32} (ht : K.2.2.1[t0]? = some (cA, .int)) (hd : decode M.2.1 pc = .ok (.iastore, 1)) (hp : pc + 1 = pc') (ha : h.1 a = some (.inl (cA, n, .inl f))) (hin : vp_in i n) (k : G K M d b pc' L st (gk_set h a (.inl (cA, n, .inl (upd f i.toNatClampNeg x)))) Q) : G K M d b pc L (.int x :: .int i :: .ref a :: st) h Q := by
  subst hp
  intro p e s m args below meth c H locs cells slots mc ms ls C hR hS hL h1 h2
  obtain ⟨c1, c2, c3, c4, c5, c6, c7, c8, c9, -⟩ := id C
  refine W.iast c1 c2 (hR.2 a _ ha).2 ((c9.2 t0 _ ht).1 n (fun j => .int (f j))) (fun q => by cases q) (by show ¬ (i < 0 ∨ (arrV _ _ _).slots.size ≤ _); rw [arrV_size]; exact hin) rfl rfl hd fun H1 e1 z oq => ?_
  refine k p e s m args below meth c H1 _ cells slots mc ms ls C (hR.set ha z ?_ oq) (hS.put z oq (hR.2 a _ ha).1) hL h1 h2
  show H1[a]? = some (vp_cell _ _)
  rw [e1, vp_cell_i, vp_cell_i, arrV_store]
  congr 2
  funext q
  by_cases hq : q = i.toNatClampNeg
  · subst hq
    simp [updV, upd]
  · simp [updV, upd, hq]
theorem gk_zast {a t0 n : Nat} {cA : ClassId} {f : Nat → Int32} {i x : Int32} (ht : K.2.2.1[t0]? = some (cA, .boolean)) (hd : decode M.2.1 pc = .ok (.bastore, 1)) (hp : pc + 1 = pc') (ha : h.1 a = some (.inl (cA, n, .inl f))) (hin : vp_in i n) (k : G K M d b pc' L st (gk_set h a (.inl (cA, n, .inl (upd f i.toNatClampNeg (vp_nar .boolean x))))) Q) : G K M d b pc L (.int x :: .int i :: .ref a :: st) h Q := by
  subst hp
  intro p e s m args below meth c H locs cells slots mc ms ls C hR hS hL h1 h2
  obtain ⟨c1, c2, c3, c4, c5, c6, c7, c8, c9, -⟩ := id C
  refine W.zast c1 c2 (hR.2 a _ ha).2 ((c9.2 t0 _ ht).1 n (fun j => .int (f j))) (fun q => by cases q) (by show ¬ (i < 0 ∨ (arrV _ _ _).slots.size ≤ _); rw [arrV_size]; exact hin) rfl rfl hd fun H1 e1 z oq => ?_
  refine k p e s m args below meth c H1 _ cells slots mc ms ls C (hR.set ha z ?_ oq) (hS.put z oq (hR.2 a _ ha).1) hL h1 h2
  show H1[a]? = some (vp_cell _ _)
  rw [e1, vp_cell_i, vp_cell_i, arrV_store]
  congr 2
  funext q
  by_cases hq : q = i.toNatClampNeg
  · subst hq
    simp [updV, upd, vp_nar]
    try rfl
  · simp [updV, upd, hq]
theorem gk_aast {a t0 n v ci : Nat} {cA : ClassId} {r : vw_C} {f : Nat → Option Nat} {vs : List Value} {i : Int32} (ht : K.2.2.1[t0]? = some (cA, .object r.1)) (hc : vwCl[ci]? = some r) (hd : decode M.2.1 pc = .ok (.aastore, 1)) (hp : pc + 1 = pc') (ha : h.1 a = some (.inl (cA, n, .inr (.inr (.inr (.inr f)))))) (hv : h.1 v = some (.inr (ci, vs))) (hin : vp_in i n) (k : G K M d b pc' L st (gk_set h a (.inl (cA, n, .inr (.inr (.inr (.inr (va_up f i.toNatClampNeg (some v)))))))) Q) : G K M d b pc L (.ref v :: .int i :: .ref a :: st) h Q := by
  subst hp
  intro p e s m args below meth c H locs cells slots mc ms ls C hR hS hL h1 h2
  obtain ⟨c1, c2, c3, c4, c5, c6, c7, c8, c9, -⟩ := id C
  have hlt : i.toNatClampNeg < n := Nat.not_le.mp fun q => hin (Or.inr q)
  have h0 : ¬ i < 0 := fun q => hin (Or.inl q)
  obtain ⟨r', hr', cellV, g1, g2, g3, -⟩ := (hR.2 v _ hv).2
  have hcls := (c9.1 ci r hc).2
  obtain ⟨kA, comp, k1, k2, k3, -⟩ := (c9.2 t0 _ ht).2
  have hcomp : comp = K.2.1.1 ci := Option.some.inj (k3.symm.trans hcls.1)
  subst hcomp
  obtain ⟨kC, hkC, -⟩ := hcls.2
  refine W.aast c1 c2 (hR.2 a _ ha).2 (fun q h => by cases h) (fun h => by cases h) k1 k2 rfl hkC ⟨h0, by show _ < (arrV _ _ _).slots.size; rw [arrV_size]; exact hlt⟩ g1 (fun q h => by rw [g3] at h; cases h) (by rw [g2]; exact hkC) (by rw [g2]; exact va_assign hcls) rfl rfl hd fun H1 e1 z oq => ?_
  refine k p e s m args below meth c H1 _ cells slots mc ms ls C (hR.set ha z ?_ oq) (hS.put z oq (hR.2 a _ ha).1) hL h1 h2
  show H1[a]? = some (vp_cell _ _)
  rw [e1, vp_cell_q, vp_cell_q, arrV_store]
  congr 2
  funext q
  by_cases hq : q = i.toNatClampNeg
  · subst hq
    simp [updV, va_up, va_rf]
  · simp [updV, va_up, hq]
/-! making -/
theorem gk_Sgrow {H0 H H1 : Heap} {locs : List Loc} {A : Nat → Prop} (hS : va_S A H0 H locs) (z : H.size ≤ H1.size) (oq : ∀ q : Nat, q < H.size → H1[q]? = H[q]?) : va_S A H0 H1 locs := ⟨Nat.le_trans hS.1 z, fun x g1 g2 => (oq x (Nat.lt_of_lt_of_le g1 hS.1)).trans (hS.2.1 x g1 g2), hS.2.2⟩
def gk_C (own : String) (idx ci N : Nat) (fs : List Value) : Prop := ∃ (C : String) (T : u_T) (ty : Nat → FieldType), vwCl[ci]? = some (C, T, N) ∧ (∀ w ∈ u_ws C T N, w ∈ gk_good) ∧ (∀ k, k < N → parseFieldDescriptor (T k).2.2.1 = some (ty k)) ∧ Cond.classLink own idx C ∈ gk_good ∧ Cond.instantiable C N ∈ gk_good ∧ Cond.initialized C ∈ gk_good ∧ ∀ j, j < N → defaultValue (ty j) = vp_V fs j
theorem gk_newc {idx ci N bc bs : Nat} {fs : List Value} (hC : gk_C M.1.cls idx ci N fs) (hd : decode M.2.1 pc = .ok (.new idx, 3)) (hp : pc + 3 = pc') (k : G K M d (bc, bs) pc' L (.ref h.2 :: st) (gk_new h (.inr (ci, fs))) Q) : G K M d (bc + 1, bs + N) pc L st h Q := by
  subst hp
  obtain ⟨C0, T, ty, hc, hin, hty, hl, hi1, hi2, hfs⟩ := hC
  intro p e s m args below meth c H locs cells slots mc ms ls C hR hS hL h1 h2
  obtain ⟨c1, c2, c3, c4, c5, c6, c7, c8, c9, c10, c11, -⟩ := id C
  have hKn := c9.1 ci _ hc
  have g1 : cells + (bc + 1) ≤ mc := h1
  have g2 : slots + (bs + N) ≤ ms := h2
  refine W.newcK c1 c2 c5 (c6 _ hl) (c6 _ hi1) (c6 _ hi2) rfl hd (show cells + 1 ≤ mc by omega) (show slots + N ≤ ms by omega) hKn.2.1 hR.1 fun H1 kC hkC e1 z1 o1 => ?_
  rw [← hR.1] at e1 z1 o1
  exact k p e s m args below meth c H1 _ (cells + 1) (slots + N) mc ms ls C (hR.new (Nat.le_trans c11 hS.1) z1 ⟨_, hc, (u_born ty c6 hin hKn hkC e1 hty).to hfs⟩ o1) (gk_Sgrow hS (by omega) o1) hL (show cells + 1 + bc ≤ mc by omega) (show slots + N + bs ≤ ms by omega)
theorem gk_newi {t0 n bc bs : Nat} {cA : ClassId} {x : Int32} (ht : K.2.2.1[t0]? = some (cA, .int)) (hw : Cond.arrayClass .int ∈ gk_good) (hd : decode M.2.1 pc = .ok (.newarray .int, 2)) (hp : pc + 2 = pc') (hx : x = nI n) (hn : n < 100000) (k : G K M d (bc, bs) pc' L (.ref h.2 :: st) (gk_new h (.inl (cA, n, .inl (fun _ => 0)))) Q) : G K M d (bc + 1, bs + n) pc L (.int x :: st) h Q := by
  subst hp
  intro p e s m args below meth c H locs cells slots mc ms ls C hR hS hL h1 h2
  obtain ⟨c1, c2, c3, c4, c5, c6, c7, c8, c9, c10, c11, -⟩ := id C
  have g1 : cells + (bc + 1) ≤ mc := h1
  have g2 : slots + (bs + n) ≤ ms := h2
  refine va_newaK c1 c2 (atype := .int) (c6 _ hw) rfl hd rfl (by rw [hx]; exact nI_pos (by omega)) (N := n) (by rw [hx]; exact nI_clamp (by omega)) (by show n * 4 ≤ _; omega) (show cells + 1 ≤ mc by omega) (show slots + n ≤ ms by omega) hR.1 fun H1 cA' e1 z1 o1 hAr hNm => ?_
  rw [← hR.1] at e1 z1 o1
  have hcA : cA' = cA := Option.some.inj (hNm.symm.trans (c9.2 t0 _ ht).2)
  subst hcA
  refine k p e s m args below meth c H1 _ (cells + 1) (slots + n) mc ms ls C (hR.new (Nat.le_trans c11 hS.1) z1 ?_ o1) (gk_Sgrow hS (by omega) o1) hL (show cells + 1 + bc ≤ mc by omega) (show slots + n + bs ≤ ms by omega)
  show H1[H.size]? = some (vp_cell _ _)
  rw [vp_cell_i]
  exact e1
theorem gk_newz {t0 n bc bs : Nat} {cA : ClassId} {x : Int32} (ht : K.2.2.1[t0]? = some (cA, .boolean)) (hw : Cond.arrayClass .boolean ∈ gk_good) (hd : decode M.2.1 pc = .ok (.newarray .boolean, 2)) (hp : pc + 2 = pc') (hx : x = nI n) (hn : n < 100000) (k : G K M d (bc, bs) pc' L (.ref h.2 :: st) (gk_new h (.inl (cA, n, .inl (fun _ => 0)))) Q) : G K M d (bc + 1, bs + n) pc L (.int x :: st) h Q := by
  subst hp
  intro p e s m args below meth c H locs cells slots mc ms ls C hR hS hL h1 h2
  obtain ⟨c1, c2, c3, c4, c5, c6, c7, c8, c9, c10, c11, -⟩ := id C
  have g1 : cells + (bc + 1) ≤ mc := h1
  have g2 : slots + (bs + n) ≤ ms := h2
  refine va_newaK c1 c2 (atype := .boolean) (c6 _ hw) rfl hd rfl (by rw [hx]; exact nI_pos (by omega)) (N := n) (by rw [hx]; exact nI_clamp (by omega)) (by show n * 1 ≤ _; omega) (show cells + 1 ≤ mc by omega) (show slots + n ≤ ms by omega) hR.1 fun H1 cA' e1 z1 o1 hAr hNm => ?_
  rw [← hR.1] at e1 z1 o1
  have hcA : cA' = cA := Option.some.inj (hNm.symm.trans (c9.2 t0 _ ht).2)
  subst hcA
  refine k p e s m args below meth c H1 _ (cells + 1) (slots + n) mc ms ls C (hR.new (Nat.le_trans c11 hS.1) z1 ?_ o1) (gk_Sgrow hS (by omega) o1) hL (show cells + 1 + bc ≤ mc by omega) (show slots + n + bs ≤ ms by omega)
  show H1[H.size]? = some (vp_cell _ _)
  rw [vp_cell_i]
  exact e1
theorem gk_newa {t0 n bc bs idx : Nat} {cA : ClassId} {C0 : String} {x : Int32} (ht : K.2.2.1[t0]? = some (cA, .object C0)) (hl : Cond.classLink M.1.cls idx C0 ∈ gk_good) (ho : C0 ∈ gk_over) (hd : decode M.2.1 pc = .ok (.anewarray idx, 3)) (hp : pc + 3 = pc') (hx : x = nI n) (hn : n < 100000) (k : G K M d (bc, bs) pc' L (.ref h.2 :: st) (gk_new h (.inl (cA, n, .inr (.inr (.inr (.inr (fun _ => none))))))) Q) : G K M d (bc + 1, bs + n) pc L (.int x :: st) h Q := by
  subst hp
  intro p e s m args below meth c H locs cells slots mc ms ls C hR hS hL h1 h2
  obtain ⟨c1, c2, c3, c4, c5, c6, c7, c8, c9, c10, c11, -⟩ := id C
  have g1 : cells + (bc + 1) ≤ mc := h1
  have g2 : slots + (bs + n) ≤ ms := h2
  have hN : x.toNatClampNeg = n := by rw [hx]; exact nI_clamp (by omega)
  refine W.anew c1 c2 c5 (c6 _ hl) (va_AO.use (c10.2 _ ho)) rfl hd rfl (by rw [hx]; exact nI_pos (by omega)) (by rw [hN]; omega) (show cells + 1 ≤ mc by omega) (show slots + _ ≤ ms by rw [hN]; omega) fun cA' kA comp f1 f2 f3 f4 => ?_
  rw [hN]
  have hcA : cA' = cA := by
    obtain ⟨kA', comp', j1, j2, j3, j4⟩ := (c9.2 t0 _ ht).2
    exact Option.some.inj (f1.symm.trans j4)
  subst hcA
  generalize hH1 : H.push ({ cls := cA', slots := Array.replicate n .null, vm := .none } : Cell) = H1
  have z1 : H1.size = H.size + 1 := by rw [← hH1, Array.size_push]
  have e1 : H1[H.size]? = some (arrV cA' n (fun _ => .null)) := by rw [← hH1, Array.getElem?_push_size, ← arrV_new]
  have o1 : ∀ q : Nat, q < H.size → H1[q]? = H[q]? := fun q hq => by rw [← hH1, Array.getElem?_push, if_neg (Nat.ne_of_lt hq)]
  have k' := k p e s m args below meth c H1 locs (cells + 1) (slots + n) mc ms ls C (hR.new (Nat.le_trans c11 hS.1) z1 (by show H1[H.size]? = some (vp_cell _ _); rw [vp_cell_q]; exact e1) o1) (gk_Sgrow hS (by omega) o1) hL (show cells + 1 + bc ≤ mc by omega) (show slots + n + bs ≤ ms by omega)
  rw [← hR.1] at k'
  exact k'
/-! calls -/
theorem gk_cont {p : Program} {l : Launch} {e : Env} {R : Room} {s : State} {m : MethodId} {args av : Array Value} {below : List Frame} {meth : Method} {c : Code} {H : Heap} {locs : List Loc} {cells slots mc' ms' : Nat} {Z : State → Prop} {ls : Array Slot} {st0 : List Value} {Q' : Option Value → gk_H → Prop}
    (hr : va_Run p l e R s m args below meth c H locs cells slots mc' ms' (F0 m pc ls st0) rest (gk_Q K Q' av) (gk_A K)) (hS : va_S (gk_A K) s.heap H locs)
    (kk : ∀ (v : Option Value) (h' : gk_H) (H1 : Heap) (locs1 : List Loc), Q' v h' → gk_rep K h' H1 → va_S (gk_A K) s.heap H1 locs1 → W p l e R s m args below meth c H1 locs1 (cells + mc') (slots + ms') Z (F0 m (pc + 3) ls (v.toList ++ rest))) : W p l e R s m args below meth c H locs cells slots Z (F0 m pc ls st0) := by
  intro T hT X
  obtain ⟨v, st₀, t, T', L1, h0, X', hL, e1, e2, ⟨⟨v', h', hv, hq, hrep⟩, hz, hk⟩, st1⟩ := hr T hT X
  cases hv
  rw [h0] at hz hk
  obtain ⟨t2, a1, b1⟩ := kk v h' T'.heap (locs ++ L1) hq (by rw [e1]; exact hrep)
    ⟨Nat.le_trans hS.1 (by rw [e1]; exact hz), fun q g1 g2 => by rw [e1, hk q (Nat.lt_of_lt_of_le g1 hS.1) g2]; exact hS.2.1 q g1 g2, fun q hq => by
      rcases List.mem_append.mp hq with h | h
      · exact hS.2.2 q h
      · exact hL q h⟩ T' rfl X'
  exact ⟨t2, st1 t2 a1, b1⟩
/-- what is fixed of a callee: n parameters -/
def gk_S (M' : gk_M) (n : Nat) : Prop := Cond.code M'.1 M'.2.1 M'.2.2.1 M'.2.2.2.1 ∈ gk_good ∧ Cond.initialized M'.1.cls ∈ gk_good ∧ (M'.1.cls ≠ "java/lang/invoke/MethodHandle" ∧ M'.1.cls ≠ "java/lang/invoke/VarHandle" ∧ (parseMethodDescriptor M'.1.desc).map (fun d => d.parameters.length) = some n) ∧ M'.2.2.1 ≤ 45
theorem gk_GI (h1 : Cond.code M'.1 M'.2.1 M'.2.2.1 M'.2.2.2.1 ∈ gk_good) : GoodIn gk_good (.code M'.1 M'.2.1 M'.2.2.1 M'.2.2.2.1 :: gk_good) := fun w hw => by
  rcases List.mem_cons.mp hw with rfl | hw
  · exact ⟨h1, gk_isgood h1⟩
  · exact ⟨hw, gk_isgood hw⟩
theorem gk_P.blind {av : List Value} : FrameBlind (va_Pc av (gk_P K h)) := fun a U g mk q => by
  obtain ⟨q0, q1, q2, q3, q4⟩ := q
  exact ⟨q0, q1, va_K.moved (u := U) (U := U.calling g mk a) (Vm.Alike.refl U.vm) q2, gk_N.same (s := U) rfl q3, q4⟩
theorem gk_pre {s : State} {H : Heap} {locs : List Loc} (hK : va_K K.2.1 vwCl K.2.2.1 s) (hN : gk_N s) (hb : K.2.2.2 ≤ s.heap.size) (hR : gk_rep K h H) (hS : va_S (gk_A K) s.heap H locs) (As : List Value) : PreS s H (va_Pc As (gk_P K h)) As :=
  ⟨gk_P.blind, fun U hU hW => ⟨rfl, by rw [hU]; exact hR, va_K.moved hW.alike hK, hN.warm hW, by rw [hU]; exact Nat.le_trans hb hS.1⟩⟩

theorem gk_callV0 {n idx a ci : Nat} {fs : List Value} {As : List Value} (hs : gk_S M' n) (hl : Cond.methodLink M.1.cls idx M'.1 ∈ gk_good) (hi : Cond.instanceMethod M'.1 ∈ gk_good) (hse : Cond.selects M'.1.cls M'.1 M'.1 ∈ gk_good) (hcl : ∃ (T : u_T) (N : Nat), vwCl[ci]? = some (M'.1.cls, T, N)) (ha : h.1 a = some (.inr (ci, fs))) (hd : decode M.2.1 pc = .ok (.invokevirtual idx, 3)) (hp : pc + 3 = pc') (hn : As.length = n) (hst : st = As.reverse ++ .ref a :: rest) (hw : (rest.map fun v => v.category).sum ≤ 8) (hb1 : b'.1 + b2.1 ≤ b.1) (hb2 : b'.2 + b2.2 ≤ b.2) (k : Gm K M' d b' (.ref a :: As) h (fun v h' => v = none ∧ G K M (d + 1) b2 pc' L rest h' Q)) : G K M (d + 1) b pc L st h Q := by
  subst hp
  subst hst
  obtain ⟨s1, s2, s3, s4⟩ := hs
  intro p e s m args below meth c H locs cells slots mc ms ls C hR hS hL h1 h2
  obtain ⟨c1, c2, c3, c4, c5, c6, c7, c8, c9, c10, c11, -⟩ := id C
  obtain ⟨T0, N0, hc⟩ := hcl
  have hrc := va_recv c9 (gk_one (hR.2 a _ ha).2) (ci := ci) (q0 := 0) hc rfl
  refine gk_cont (va_runV (C := M'.1.cls) ⟨c1, c2, c4, c5, c6⟩ k ⟨(callB_of n c6 (gk_GI s1) rfl rfl rfl (c6 _ s2) (c6 _ hl) s3 ⟨show d + 1 ≤ d + 1 from Nat.le_refl _, show 8 + (M'.2.2.1 + 11) + 64 * d ≤ 64 * (d + 1) by omega⟩), c6 _ hi, c6 _ hse⟩ ⟨gk_P.blind, hrc, (gk_pre c9 c10 c11 hR hS _).2⟩ rfl hn hL.1 rfl (lv_room hw) hd ⟨show cells + b'.1 ≤ mc by omega, show slots + b'.2 ≤ ms by omega⟩) hS fun v h' H1 locs1 hq hR1 hS1 => ?_
  obtain ⟨rfl, hq⟩ := hq
  exact hq p e s m args below meth c H1 locs1 (cells + b'.1) (slots + b'.2) mc ms ls C hR1 hS1 hL (by omega) (by omega)
theorem gk_callS0 {n idx : Nat} {As : List Value} (hs : gk_S M' n) (hl : Cond.methodLink M.1.cls idx M'.1 ∈ gk_good) (hi : Cond.static M'.1 ∈ gk_good) (hd : decode M.2.1 pc = .ok (.invokestatic idx, 3)) (hp : pc + 3 = pc') (hn : As.length = n) (hst : st = As.reverse ++ rest) (hw : (rest.map fun v => v.category).sum ≤ 8) (hb1 : b'.1 + b2.1 ≤ b.1) (hb2 : b'.2 + b2.2 ≤ b.2) (k : Gm K M' d b' (As) h (fun v h' => v = none ∧ G K M (d + 1) b2 pc' L rest h' Q)) : G K M (d + 1) b pc L st h Q := by
  subst hp
  subst hst
  obtain ⟨s1, s2, s3, s4⟩ := hs
  intro p e s m args below meth c H locs cells slots mc ms ls C hR hS hL h1 h2
  obtain ⟨c1, c2, c3, c4, c5, c6, c7, c8, c9, c10, c11, -⟩ := id C
  refine gk_cont (va_runS ⟨c1, c2, c4, c5, c6⟩ k ⟨(callB_of n c6 (gk_GI s1) rfl rfl rfl (c6 _ s2) (c6 _ hl) s3 ⟨show d + 1 ≤ d + 1 from Nat.le_refl _, show 8 + (M'.2.2.1 + 11) + 64 * d ≤ 64 * (d + 1) by omega⟩), c6 _ hi⟩ (gk_pre c9 c10 c11 hR hS _) rfl hn hL.1 rfl (lv_room hw) hd ⟨show cells + b'.1 ≤ mc by omega, show slots + b'.2 ≤ ms by omega⟩) hS fun v h' H1 locs1 hq hR1 hS1 => ?_
  obtain ⟨rfl, hq⟩ := hq
  exact hq p e s m args below meth c H1 locs1 (cells + b'.1) (slots + b'.2) mc ms ls C hR1 hS1 hL (by omega) (by omega)
theorem gk_callSN0 {n idx : Nat} {host : String} {As : List Value} (hs : gk_S M' n) (hl : (M.1.cls, idx, M'.1, host) ∈ gk_nest) (hi : Cond.static M'.1 ∈ gk_good) (hd : decode M.2.1 pc = .ok (.invokestatic idx, 3)) (hp : pc + 3 = pc') (hn : As.length = n) (hst : st = As.reverse ++ rest) (hw : (rest.map fun v => v.category).sum ≤ 8) (hb1 : b'.1 + b2.1 ≤ b.1) (hb2 : b'.2 + b2.2 ≤ b.2) (k : Gm K M' d b' (As) h (fun v h' => v = none ∧ G K M (d + 1) b2 pc' L rest h' Q)) : G K M (d + 1) b pc L st h Q := by
  subst hp
  subst hst
  obtain ⟨s1, s2, s3, s4⟩ := hs
  intro p e s m args below meth c H locs cells slots mc ms ls C hR hS hL h1 h2
  obtain ⟨c1, c2, c3, c4, c5, c6, c7, c8, c9, c10, c11, -⟩ := id C
  refine gk_cont (va_runSN ⟨c1, c2, c4, c5, c6⟩ k ⟨(va_cnB n c6 (gk_GI s1) rfl rfl rfl (c10.1 _ hl) (c6 _ s2) s3 ⟨show d + 1 ≤ d + 1 from Nat.le_refl _, show 8 + (M'.2.2.1 + 11) + 64 * d ≤ 64 * (d + 1) by omega⟩), c6 _ hi, trivial⟩ (gk_pre c9 c10 c11 hR hS _) rfl hn hL.1 rfl (lv_room hw) hd ⟨show cells + b'.1 ≤ mc by omega, show slots + b'.2 ≤ ms by omega⟩) hS fun v h' H1 locs1 hq hR1 hS1 => ?_
  obtain ⟨rfl, hq⟩ := hq
  exact hq p e s m args below meth c H1 locs1 (cells + b'.1) (slots + b'.2) mc ms ls C hR1 hS1 hL (by omega) (by omega)
theorem gk_callI0 {n idx a : Nat} {As : List Value} (hs : gk_S M' n) (hret : M'.2.2.2.1 = none) (hl : Cond.methodLink M.1.cls idx M'.1 ∈ gk_good) (hi : Cond.instanceMethod M'.1 ∈ gk_good) (hy : M'.1.name = "<init>") (hd : decode M.2.1 pc = .ok (.invokespecial idx, 3)) (hp : pc + 3 = pc') (hn : As.length = n) (hst : st = As.reverse ++ .ref a :: rest) (hw : (rest.map fun v => v.category).sum ≤ 8) (hb1 : b'.1 + b2.1 ≤ b.1) (hb2 : b'.2 + b2.2 ≤ b.2) (k : Gm K M' d b' (.ref a :: As) h (fun v h' => v = none ∧ G K M (d + 1) b2 pc' L rest h' Q)) : G K M (d + 1) b pc L st h Q := by
  subst hp
  subst hst
  obtain ⟨s1, s2, s3, s4⟩ := hs
  intro p e s m args below meth c H locs cells slots mc ms ls C hR hS hL h1 h2
  obtain ⟨c1, c2, c3, c4, c5, c6, c7, c8, c9, c10, c11, -⟩ := id C
  have s1' := s1
  rw [hret] at s1'
  refine gk_cont (va_runI (bytes := M'.2.1) (maxL := M'.2.2.1) ⟨c1, c2, c4, c5, c6⟩ k ⟨callB_of n c6 (gk_GI s1) (by rw [hret]) rfl rfl (c6 _ s2) (c6 _ hl) s3 ⟨show d + 1 ≤ d + 1 from Nat.le_refl _, show 8 + (M'.2.2.1 + 11) + 64 * d ≤ 64 * (d + 1) by omega⟩, hy, c6 _ hi⟩ (gk_pre c9 c10 c11 hR hS _) rfl hn hL.1 rfl (lv_room hw) hd ⟨show cells + b'.1 ≤ mc by omega, show slots + b'.2 ≤ ms by omega⟩) hS fun v h' H1 locs1 hq hR1 hS1 => ?_
  obtain ⟨rfl, hq⟩ := hq
  exact hq p e s m args below meth c H1 locs1 (cells + b'.1) (slots + b'.2) mc ms ls C hR1 hS1 hL (by omega) (by omega)
theorem gk_callIN0 {n idx a : Nat} {host : String} {As : List Value} (hs : gk_S M' n) (hret : M'.2.2.2.1 = none) (hl : (M.1.cls, idx, M'.1, host) ∈ gk_nest) (hi : Cond.instanceMethod M'.1 ∈ gk_good) (hy : M'.1.name = "<init>") (hd : decode M.2.1 pc = .ok (.invokespecial idx, 3)) (hp : pc + 3 = pc') (hn : As.length = n) (hst : st = As.reverse ++ .ref a :: rest) (hw : (rest.map fun v => v.category).sum ≤ 8) (hb1 : b'.1 + b2.1 ≤ b.1) (hb2 : b'.2 + b2.2 ≤ b.2) (k : Gm K M' d b' (.ref a :: As) h (fun v h' => v = none ∧ G K M (d + 1) b2 pc' L rest h' Q)) : G K M (d + 1) b pc L st h Q := by
  subst hp
  subst hst
  obtain ⟨s1, s2, s3, s4⟩ := hs
  intro p e s m args below meth c H locs cells slots mc ms ls C hR hS hL h1 h2
  obtain ⟨c1, c2, c3, c4, c5, c6, c7, c8, c9, c10, c11, -⟩ := id C
  refine gk_cont (va_runIN (bytes := M'.2.1) (maxL := M'.2.2.1) ⟨c1, c2, c4, c5, c6⟩ k ⟨va_cnB n c6 (gk_GI s1) (by rw [hret]) rfl rfl (c10.1 _ hl) (c6 _ s2) s3 ⟨show d + 1 ≤ d + 1 from Nat.le_refl _, show 8 + (M'.2.2.1 + 11) + 64 * d ≤ 64 * (d + 1) by omega⟩, hy, c6 _ hi⟩ (gk_pre c9 c10 c11 hR hS _) rfl hn hL.1 rfl (lv_room hw) hd ⟨show cells + b'.1 ≤ mc by omega, show slots + b'.2 ≤ ms by omega⟩) hS fun v h' H1 locs1 hq hR1 hS1 => ?_
  obtain ⟨rfl, hq⟩ := hq
  exact hq p e s m args below meth c H1 locs1 (cells + b'.1) (slots + b'.2) mc ms ls C hR1 hS1 hL (by omega) (by omega)
theorem gk_callV1 {n idx a ci : Nat} {fs : List Value} {As : List Value} (hs : gk_S M' n) (hl : Cond.methodLink M.1.cls idx M'.1 ∈ gk_good) (hi : Cond.instanceMethod M'.1 ∈ gk_good) (hse : Cond.selects M'.1.cls M'.1 M'.1 ∈ gk_good) (hcl : ∃ (T : u_T) (N : Nat), vwCl[ci]? = some (M'.1.cls, T, N)) (ha : h.1 a = some (.inr (ci, fs))) (hd : decode M.2.1 pc = .ok (.invokevirtual idx, 3)) (hp : pc + 3 = pc') (hn : As.length = n) (hst : st = As.reverse ++ .ref a :: rest) (hw : (rest.map fun v => v.category).sum ≤ 8) (hb1 : b'.1 + b2.1 ≤ b.1) (hb2 : b'.2 + b2.2 ≤ b.2) (k : Gm K M' d b' (.ref a :: As) h (fun v h' => ∃ r : Value, v = some r ∧ G K M (d + 1) b2 pc' L (r :: rest) h' Q)) : G K M (d + 1) b pc L st h Q := by
  subst hp
  subst hst
  obtain ⟨s1, s2, s3, s4⟩ := hs
  intro p e s m args below meth c H locs cells slots mc ms ls C hR hS hL h1 h2
  obtain ⟨c1, c2, c3, c4, c5, c6, c7, c8, c9, c10, c11, -⟩ := id C
  obtain ⟨T0, N0, hc⟩ := hcl
  have hrc := va_recv c9 (gk_one (hR.2 a _ ha).2) (ci := ci) (q0 := 0) hc rfl
  refine gk_cont (va_runV (C := M'.1.cls) ⟨c1, c2, c4, c5, c6⟩ k ⟨(callB_of n c6 (gk_GI s1) rfl rfl rfl (c6 _ s2) (c6 _ hl) s3 ⟨show d + 1 ≤ d + 1 from Nat.le_refl _, show 8 + (M'.2.2.1 + 11) + 64 * d ≤ 64 * (d + 1) by omega⟩), c6 _ hi, c6 _ hse⟩ ⟨gk_P.blind, hrc, (gk_pre c9 c10 c11 hR hS _).2⟩ rfl hn hL.1 rfl (lv_room hw) hd ⟨show cells + b'.1 ≤ mc by omega, show slots + b'.2 ≤ ms by omega⟩) hS fun v h' H1 locs1 hq hR1 hS1 => ?_
  obtain ⟨r, rfl, hq⟩ := hq
  exact hq p e s m args below meth c H1 locs1 (cells + b'.1) (slots + b'.2) mc ms ls C hR1 hS1 hL (by omega) (by omega)
theorem gk_callS1 {n idx : Nat} {As : List Value} (hs : gk_S M' n) (hl : Cond.methodLink M.1.cls idx M'.1 ∈ gk_good) (hi : Cond.static M'.1 ∈ gk_good) (hd : decode M.2.1 pc = .ok (.invokestatic idx, 3)) (hp : pc + 3 = pc') (hn : As.length = n) (hst : st = As.reverse ++ rest) (hw : (rest.map fun v => v.category).sum ≤ 8) (hb1 : b'.1 + b2.1 ≤ b.1) (hb2 : b'.2 + b2.2 ≤ b.2) (k : Gm K M' d b' (As) h (fun v h' => ∃ r : Value, v = some r ∧ G K M (d + 1) b2 pc' L (r :: rest) h' Q)) : G K M (d + 1) b pc L st h Q := by
  subst hp
  subst hst
  obtain ⟨s1, s2, s3, s4⟩ := hs
  intro p e s m args below meth c H locs cells slots mc ms ls C hR hS hL h1 h2
  obtain ⟨c1, c2, c3, c4, c5, c6, c7, c8, c9, c10, c11, -⟩ := id C
  refine gk_cont (va_runS ⟨c1, c2, c4, c5, c6⟩ k ⟨(callB_of n c6 (gk_GI s1) rfl rfl rfl (c6 _ s2) (c6 _ hl) s3 ⟨show d + 1 ≤ d + 1 from Nat.le_refl _, show 8 + (M'.2.2.1 + 11) + 64 * d ≤ 64 * (d + 1) by omega⟩), c6 _ hi⟩ (gk_pre c9 c10 c11 hR hS _) rfl hn hL.1 rfl (lv_room hw) hd ⟨show cells + b'.1 ≤ mc by omega, show slots + b'.2 ≤ ms by omega⟩) hS fun v h' H1 locs1 hq hR1 hS1 => ?_
  obtain ⟨r, rfl, hq⟩ := hq
  exact hq p e s m args below meth c H1 locs1 (cells + b'.1) (slots + b'.2) mc ms ls C hR1 hS1 hL (by omega) (by omega)
theorem gk_callSN1 {n idx : Nat} {host : String} {As : List Value} (hs : gk_S M' n) (hl : (M.1.cls, idx, M'.1, host) ∈ gk_nest) (hi : Cond.static M'.1 ∈ gk_good) (hd : decode M.2.1 pc = .ok (.invokestatic idx, 3)) (hp : pc + 3 = pc') (hn : As.length = n) (hst : st = As.reverse ++ rest) (hw : (rest.map fun v => v.category).sum ≤ 8) (hb1 : b'.1 + b2.1 ≤ b.1) (hb2 : b'.2 + b2.2 ≤ b.2) (k : Gm K M' d b' (As) h (fun v h' => ∃ r : Value, v = some r ∧ G K M (d + 1) b2 pc' L (r :: rest) h' Q)) : G K M (d + 1) b pc L st h Q := by
  subst hp
  subst hst
  obtain ⟨s1, s2, s3, s4⟩ := hs
  intro p e s m args below meth c H locs cells slots mc ms ls C hR hS hL h1 h2
  obtain ⟨c1, c2, c3, c4, c5, c6, c7, c8, c9, c10, c11, -⟩ := id C
  refine gk_cont (va_runSN ⟨c1, c2, c4, c5, c6⟩ k ⟨(va_cnB n c6 (gk_GI s1) rfl rfl rfl (c10.1 _ hl) (c6 _ s2) s3 ⟨show d + 1 ≤ d + 1 from Nat.le_refl _, show 8 + (M'.2.2.1 + 11) + 64 * d ≤ 64 * (d + 1) by omega⟩), c6 _ hi, trivial⟩ (gk_pre c9 c10 c11 hR hS _) rfl hn hL.1 rfl (lv_room hw) hd ⟨show cells + b'.1 ≤ mc by omega, show slots + b'.2 ≤ ms by omega⟩) hS fun v h' H1 locs1 hq hR1 hS1 => ?_
  obtain ⟨r, rfl, hq⟩ := hq
  exact hq p e s m args below meth c H1 locs1 (cells + b'.1) (slots + b'.2) mc ms ls C hR1 hS1 hL (by omega) (by omega)
theorem gk_objInit {idx a : Nat} (hl : Cond.methodLink M.1.cls idx objectInit ∈ gk_good) (hi : Cond.instanceMethod objectInit ∈ gk_good) (hcd : Cond.code objectInit ⟨#[0xb1]⟩ 1 none ∈ gk_good) (hd : decode M.2.1 pc = .ok (.invokespecial idx, 3)) (hp : pc + 3 = pc') (hw : (st.map fun v => v.category).sum + 12 ≤ 64 * (d + 1)) (k : G K M (d + 1) b pc' L st h Q) : G K M (d + 1) b pc L (.ref a :: st) h Q := by
  subst hp
  intro p e s m args below meth c H locs cells slots mc ms ls C hR hS hL h1 h2
  obtain ⟨c1, c2, c3, c4, c5, c6, c7, c8, c9, c10, c11, -⟩ := id C
  exact W.objInit c1 c2 c5 (c6 _ hl) (c6 _ hi) (c6 _ hcd) rfl (by rw [c4]; exact hL.1) rfl hd (show 1 ≤ d + 1 by omega) (show 2 * 0 + (st.map fun v => v.category).sum + 12 ≤ 64 * (d + 1) by omega) (k p e s m args below meth c H locs cells slots mc ms ls C hR hS hL h1 h2)

theorem gk_copy {t0 n0 n1 a0 a idx : Nat} {cA : ClassId} {f g : Nat → Int32} {sp dp n : Int32} {n' sp' dp' : Nat} (ht : K.2.2.1[t0]? = some (cA, .int)) (hl : Cond.methodLink M.1.cls idx arraycopyName ∈ gk_good) (hna : Cond.native arraycopyName ∈ gk_good) (hst : Cond.static arraycopyName ∈ gk_good) (hin : Cond.initialized "java/lang/System" ∈ gk_good) (hd : decode M.2.1 pc = .ok (.invokestatic idx, 3)) (hp : pc + 3 = pc') (ha0 : h.1 a0 = some (.inl (cA, n0, .inl f))) (ha : h.1 a = some (.inl (cA, n1, .inl g))) (e1 : sp = nI sp') (e2 : dp = nI dp') (e3 : n = nI n') (q1 : sp' + n' ≤ n0) (q2 : dp' + n' ≤ n1) (q3 : n0 < 100000) (q4 : n1 < 100000) (hw : (st.map fun v => v.category).sum + (nativeFrameWords "java/lang/System" "arraycopy" 5 + 11) ≤ 64 * (d + 1)) (k : G K M (d + 1) b pc' L st (gk_set h a (.inl (cA, n1, .inl (va_cpy f g sp' dp' n')))) Q) : G K M (d + 1) b pc L (.int n :: .int dp :: .ref a :: .int sp :: .ref a0 :: st) h Q := by
  subst hp
  have nn : ∀ j, j < 100000 → (nI j).toInt = (j : Int) := fun j hj => nI_toInt (by omega)
  have cn : ∀ j, j < 100000 → (nI j).toNatClampNeg = j := fun j hj => nI_clamp (by omega)
  intro p e s m args below meth c H locs cells slots mc ms ls C hR hS hL h1 h2
  obtain ⟨c1, c2, c3, c4, c5, c6, c7, c8, c9, c10, c11, -⟩ := id C
  intro T hT X
  have hc0 : H[a0]? = some (vp_cell cA (n0, .inl f)) := (hR.2 a0 _ ha0).2
  have hc1 : H[a]? = some (vp_cell cA (n1, .inl g)) := (hR.2 a _ ha).2
  obtain ⟨-, k0, hk0, cm0, hkk0⟩ := (c9.2 t0 _ ht).1 n0 (fun j => .int (f j))
  subst e1; subst e2; subst e3
  have b1 := cn sp' (by omega)
  have b2 := cn dp' (by omega)
  have b3 := cn n' (by omega)
  obtain ⟨vm', X', step⟩ := X.arraycopy c1 c5 (c6 _ hl) (c6 _ hna) (c6 _ hst) (c6 _ hin) (src := a0) (dst := a) (cs := vp_cell cA (n0, .inl f)) (cd := vp_cell cA (n1, .inl g)) (srcPos := nI sp') (destPos := nI dp') (n := nI n') (by rw [hT]; exact hc0) (by rw [hT]; exact hc1)
    (fun _ h => by cases h) (fun _ h => by cases h) (fun h => by cases h) (fun h => by cases h) hk0 hk0 hkk0 hkk0 (by simp [refKind]) (nI_pos (by omega)) (nI_pos (by omega)) (nI_pos (by omega))
    (by rw [nn sp' (by omega), nn n' (by omega)]; show ¬ _ > ((arrV cA n0 (fun j => .int (f j))).slots.size : Int); rw [arrV_size]; omega)
    (by rw [nn dp' (by omega), nn n' (by omega)]; show ¬ _ > ((arrV cA n1 (fun j => .int (g j))).slots.size : Int); rw [arrV_size]; omega)
    (fun vm₁ _ i hi => by
      have e : (vp_cell cA (n0, .inl f)).slots.getD ((nI sp').toNatClampNeg + i) .null = .int (f (sp' + i)) := by
        rw [b1]
        show (arrV cA n0 (fun j => .int (f j))).slots.getD _ _ = _
        rw [b3] at hi
        rw [Array.getD_eq_getD_getElem?, arrV_read _ _ (by omega)]
        rfl
      rw [e]
      exact ⟨rfl, trivial⟩)
    (g := F0 m pc ls (.int (nI n') :: .int (nI dp') :: .ref a :: .int (nI sp') :: .ref a0 :: st)) rfl (by rw [c4]; exact hL.1) (rest := st) rfl (by rw [c2]; exact hd) (show 1 ≤ d + 1 by omega) (by show 2 * 0 + _ + _ ≤ 64 * (d + 1); omega)
  have e1 : copied (vp_cell cA (n0, .inl f)) (vp_cell cA (n1, .inl g)) (nI sp') (nI dp') (nI n') = vp_cell cA (n1, .inl (va_cpy f g sp' dp' n')) := by
    have := va_copied (fun z => .int z) cA cA (n0 := n0) (n1 := n1) (sp := (nI sp').toNatClampNeg) (dp := (nI dp').toNatClampNeg) (n := (nI n').toNatClampNeg) f g (by rw [b1, b3]; exact q1)
    rw [b1, b2, b3] at this
    unfold copied
    rw [b1, b2, b3]
    exact this
  rw [e1] at X' step
  have hl1 : a < H.size := (Array.getElem?_eq_some_iff.mp hc1).1
  have hheap : ((T.setVm vm').setCell a (vp_cell cA (n1, .inl (va_cpy f g sp' dp' n')))).heap = H.setIfInBounds a (vp_cell cA (n1, .inl (va_cpy f g sp' dp' n'))) := by rw [← hT]; rfl
  have oq : ∀ q : Nat, q ≠ a → (H.setIfInBounds a (vp_cell cA (n1, .inl (va_cpy f g sp' dp' n'))))[q]? = H[q]? := fun q hq => by simp [Array.getElem?_setIfInBounds, Ne.symm hq]
  obtain ⟨t, a1, b1⟩ := k p e s m args below meth c (H.setIfInBounds a (vp_cell cA (n1, .inl (va_cpy f g sp' dp' n')))) _ cells slots mc ms ls C (hR.set ha (by simp) (show (H.setIfInBounds a _)[a]? = some _ by simp [Array.getElem?_setIfInBounds, hl1]) oq) ⟨by simp; exact hS.1, fun q g1 g2 => by
      rw [oq q (fun e => g2 (by rw [e]; exact (hR.2 a _ ha).1))]
      exact hS.2.1 q g1 g2, fun q hq => by
      rcases List.mem_append.mp hq with h | h
      · exact hS.2.2 q h
      · obtain ⟨z, -, hz⟩ := List.mem_map.mp h
        rw [← hz]
        exact (hR.2 a _ ha).1⟩ hL h1 h2 _ hheap X'
  exact ⟨t, step t a1, b1⟩
theorem gk_iload0 {x : Int32} {lt : List (Option Value)} (hd : decode M.2.1 pc = .ok (.iload_n 0, 1)) (hp : pc + 1 = pc') (k : G K M d b pc' (some (.int x) :: lt) (.int x :: st) h Q) : G K M d b pc (some (.int x) :: lt) st h Q := gk_iload_n hd rfl hp rfl k
theorem gk_istore0 {x : Int32} {la : Option Value} {lt : List (Option Value)} (hd : decode M.2.1 pc = .ok (.istore_n 0, 1)) (hp : pc + 1 = pc') (hlt : 0 < M.2.2.1) (hok : gk_ok (la :: lt) 0 = true) (k : G K M d b pc' (some (.int x) :: lt) st h Q) : G K M d b pc (la :: lt) (.int x :: st) h Q := gk_istore_n hd rfl hp hlt hok rfl k
theorem gk_lload0 {x : Int64} {lt : List (Option Value)} (hd : decode M.2.1 pc = .ok (.lload_n 0, 1)) (hp : pc + 1 = pc') (k : G K M d b pc' (some (.long x) :: lt) (.long x :: st) h Q) : G K M d b pc (some (.long x) :: lt) st h Q := gk_lload_n hd rfl hp rfl k
theorem gk_lstore0 {x : Int64} {la lb : Option Value} {lt : List (Option Value)} (hd : decode M.2.1 pc = .ok (.lstore_n 0, 1)) (hp : pc + 1 = pc') (hlt : 1 < M.2.2.1) (hok : gk_ok (la :: lb :: lt) 0 = true) (k : G K M d b pc' (some (.long x) :: none :: lt) st h Q) : G K M d b pc (la :: lb :: lt) (.long x :: st) h Q := gk_lstore_n hd rfl hp hlt hok rfl k
theorem gk_aload0 {x : Nat} {lt : List (Option Value)} (hd : decode M.2.1 pc = .ok (.aload_n 0, 1)) (hp : pc + 1 = pc') (k : G K M d b pc' (some (.ref x) :: lt) (.ref x :: st) h Q) : G K M d b pc (some (.ref x) :: lt) st h Q := gk_aload_n hd rfl hp rfl k
theorem gk_astore0 {x : Nat} {la : Option Value} {lt : List (Option Value)} (hd : decode M.2.1 pc = .ok (.astore_n 0, 1)) (hp : pc + 1 = pc') (hlt : 0 < M.2.2.1) (hok : gk_ok (la :: lt) 0 = true) (k : G K M d b pc' (some (.ref x) :: lt) st h Q) : G K M d b pc (la :: lt) (.ref x :: st) h Q := gk_astore_n hd rfl hp hlt hok rfl k
theorem gk_aloadN0 {lt : List (Option Value)} (hd : decode M.2.1 pc = .ok (.aload_n 0, 1)) (hp : pc + 1 = pc') (k : G K M d b pc' (some (.null) :: lt) (.null :: st) h Q) : G K M d b pc (some (.null) :: lt) st h Q := gk_aload_nN hd rfl hp rfl k
theorem gk_astoreN0 {la : Option Value} {lt : List (Option Value)} (hd : decode M.2.1 pc = .ok (.astore_n 0, 1)) (hp : pc + 1 = pc') (hlt : 0 < M.2.2.1) (hok : gk_ok (la :: lt) 0 = true) (k : G K M d b pc' (some (.null) :: lt) st h Q) : G K M d b pc (la :: lt) (.null :: st) h Q := gk_astore_nN hd rfl hp hlt hok rfl k
theorem gk_iinc0 {n : Int} {x : Int32} (v : Int32) {lt : List (Option Value)} (hd : decode M.2.1 pc = .ok (.iinc 0 n, 3)) (hp : pc + 3 = pc') (hv : Int32.ofInt n = v) (hlt : 0 < M.2.2.1) (hok : gk_ok (some (.int x) :: lt) 0 = true) (k : G K M d b pc' (some (.int (x + v)) :: lt) st h Q) : G K M d b pc (some (.int x) :: lt) st h Q := gk_iinc (x + v) hd hp rfl (by rw [hv]) hlt hok rfl k
theorem gk_iload1 {x : Int32} {l0 : Option Value} {lt : List (Option Value)} (hd : decode M.2.1 pc = .ok (.iload_n 1, 1)) (hp : pc + 1 = pc') (k : G K M d b pc' (l0 :: some (.int x) :: lt) (.int x :: st) h Q) : G K M d b pc (l0 :: some (.int x) :: lt) st h Q := gk_iload_n hd rfl hp rfl k
theorem gk_istore1 {x : Int32} {l0 la : Option Value} {lt : List (Option Value)} (hd : decode M.2.1 pc = .ok (.istore_n 1, 1)) (hp : pc + 1 = pc') (hlt : 1 < M.2.2.1) (hok : gk_ok (l0 :: la :: lt) 1 = true) (k : G K M d b pc' (l0 :: some (.int x) :: lt) st h Q) : G K M d b pc (l0 :: la :: lt) (.int x :: st) h Q := gk_istore_n hd rfl hp hlt hok rfl k
theorem gk_lload1 {x : Int64} {l0 : Option Value} {lt : List (Option Value)} (hd : decode M.2.1 pc = .ok (.lload_n 1, 1)) (hp : pc + 1 = pc') (k : G K M d b pc' (l0 :: some (.long x) :: lt) (.long x :: st) h Q) : G K M d b pc (l0 :: some (.long x) :: lt) st h Q := gk_lload_n hd rfl hp rfl k
theorem gk_lstore1 {x : Int64} {l0 la lb : Option Value} {lt : List (Option Value)} (hd : decode M.2.1 pc = .ok (.lstore_n 1, 1)) (hp : pc + 1 = pc') (hlt : 2 < M.2.2.1) (hok : gk_ok (l0 :: la :: lb :: lt) 1 = true) (k : G K M d b pc' (l0 :: some (.long x) :: none :: lt) st h Q) : G K M d b pc (l0 :: la :: lb :: lt) (.long x :: st) h Q := gk_lstore_n hd rfl hp hlt hok rfl k
theorem gk_aload1 {x : Nat} {l0 : Option Value} {lt : List (Option Value)} (hd : decode M.2.1 pc = .ok (.aload_n 1, 1)) (hp : pc + 1 = pc') (k : G K M d b pc' (l0 :: some (.ref x) :: lt) (.ref x :: st) h Q) : G K M d b pc (l0 :: some (.ref x) :: lt) st h Q := gk_aload_n hd rfl hp rfl k
theorem gk_astore1 {x : Nat} {l0 la : Option Value} {lt : List (Option Value)} (hd : decode M.2.1 pc = .ok (.astore_n 1, 1)) (hp : pc + 1 = pc') (hlt : 1 < M.2.2.1) (hok : gk_ok (l0 :: la :: lt) 1 = true) (k : G K M d b pc' (l0 :: some (.ref x) :: lt) st h Q) : G K M d b pc (l0 :: la :: lt) (.ref x :: st) h Q := gk_astore_n hd rfl hp hlt hok rfl k
theorem gk_aloadN1 {l0 : Option Value} {lt : List (Option Value)} (hd : decode M.2.1 pc = .ok (.aload_n 1, 1)) (hp : pc + 1 = pc') (k : G K M d b pc' (l0 :: some (.null) :: lt) (.null :: st) h Q) : G K M d b pc (l0 :: some (.null) :: lt) st h Q := gk_aload_nN hd rfl hp rfl k
theorem gk_astoreN1 {l0 la : Option Value} {lt : List (Option Value)} (hd : decode M.2.1 pc = .ok (.astore_n 1, 1)) (hp : pc + 1 = pc') (hlt : 1 < M.2.2.1) (hok : gk_ok (l0 :: la :: lt) 1 = true) (k : G K M d b pc' (l0 :: some (.null) :: lt) st h Q) : G K M d b pc (l0 :: la :: lt) (.null :: st) h Q := gk_astore_nN hd rfl hp hlt hok rfl k
theorem gk_iinc1 {n : Int} {x : Int32} (v : Int32) {l0 : Option Value} {lt : List (Option Value)} (hd : decode M.2.1 pc = .ok (.iinc 1 n, 3)) (hp : pc + 3 = pc') (hv : Int32.ofInt n = v) (hlt : 1 < M.2.2.1) (hok : gk_ok (l0 :: some (.int x) :: lt) 1 = true) (k : G K M d b pc' (l0 :: some (.int (x + v)) :: lt) st h Q) : G K M d b pc (l0 :: some (.int x) :: lt) st h Q := gk_iinc (x + v) hd hp rfl (by rw [hv]) hlt hok rfl k
theorem gk_iload2 {x : Int32} {l0 l1 : Option Value} {lt : List (Option Value)} (hd : decode M.2.1 pc = .ok (.iload_n 2, 1)) (hp : pc + 1 = pc') (k : G K M d b pc' (l0 :: l1 :: some (.int x) :: lt) (.int x :: st) h Q) : G K M d b pc (l0 :: l1 :: some (.int x) :: lt) st h Q := gk_iload_n hd rfl hp rfl k
theorem gk_istore2 {x : Int32} {l0 l1 la : Option Value} {lt : List (Option Value)} (hd : decode M.2.1 pc = .ok (.istore_n 2, 1)) (hp : pc + 1 = pc') (hlt : 2 < M.2.2.1) (hok : gk_ok (l0 :: l1 :: la :: lt) 2 = true) (k : G K M d b pc' (l0 :: l1 :: some (.int x) :: lt) st h Q) : G K M d b pc (l0 :: l1 :: la :: lt) (.int x :: st) h Q := gk_istore_n hd rfl hp hlt hok rfl k
theorem gk_lload2 {x : Int64} {l0 l1 : Option Value} {lt : List (Option Value)} (hd : decode M.2.1 pc = .ok (.lload_n 2, 1)) (hp : pc + 1 = pc') (k : G K M d b pc' (l0 :: l1 :: some (.long x) :: lt) (.long x :: st) h Q) : G K M d b pc (l0 :: l1 :: some (.long x) :: lt) st h Q := gk_lload_n hd rfl hp rfl k
theorem gk_lstore2 {x : Int64} {l0 l1 la lb : Option Value} {lt : List (Option Value)} (hd : decode M.2.1 pc = .ok (.lstore_n 2, 1)) (hp : pc + 1 = pc') (hlt : 3 < M.2.2.1) (hok : gk_ok (l0 :: l1 :: la :: lb :: lt) 2 = true) (k : G K M d b pc' (l0 :: l1 :: some (.long x) :: none :: lt) st h Q) : G K M d b pc (l0 :: l1 :: la :: lb :: lt) (.long x :: st) h Q := gk_lstore_n hd rfl hp hlt hok rfl k
theorem gk_aload2 {x : Nat} {l0 l1 : Option Value} {lt : List (Option Value)} (hd : decode M.2.1 pc = .ok (.aload_n 2, 1)) (hp : pc + 1 = pc') (k : G K M d b pc' (l0 :: l1 :: some (.ref x) :: lt) (.ref x :: st) h Q) : G K M d b pc (l0 :: l1 :: some (.ref x) :: lt) st h Q := gk_aload_n hd rfl hp rfl k
theorem gk_astore2 {x : Nat} {l0 l1 la : Option Value} {lt : List (Option Value)} (hd : decode M.2.1 pc = .ok (.astore_n 2, 1)) (hp : pc + 1 = pc') (hlt : 2 < M.2.2.1) (hok : gk_ok (l0 :: l1 :: la :: lt) 2 = true) (k : G K M d b pc' (l0 :: l1 :: some (.ref x) :: lt) st h Q) : G K M d b pc (l0 :: l1 :: la :: lt) (.ref x :: st) h Q := gk_astore_n hd rfl hp hlt hok rfl k
theorem gk_aloadN2 {l0 l1 : Option Value} {lt : List (Option Value)} (hd : decode M.2.1 pc = .ok (.aload_n 2, 1)) (hp : pc + 1 = pc') (k : G K M d b pc' (l0 :: l1 :: some (.null) :: lt) (.null :: st) h Q) : G K M d b pc (l0 :: l1 :: some (.null) :: lt) st h Q := gk_aload_nN hd rfl hp rfl k
theorem gk_astoreN2 {l0 l1 la : Option Value} {lt : List (Option Value)} (hd : decode M.2.1 pc = .ok (.astore_n 2, 1)) (hp : pc + 1 = pc') (hlt : 2 < M.2.2.1) (hok : gk_ok (l0 :: l1 :: la :: lt) 2 = true) (k : G K M d b pc' (l0 :: l1 :: some (.null) :: lt) st h Q) : G K M d b pc (l0 :: l1 :: la :: lt) (.null :: st) h Q := gk_astore_nN hd rfl hp hlt hok rfl k
theorem gk_iinc2 {n : Int} {x : Int32} (v : Int32) {l0 l1 : Option Value} {lt : List (Option Value)} (hd : decode M.2.1 pc = .ok (.iinc 2 n, 3)) (hp : pc + 3 = pc') (hv : Int32.ofInt n = v) (hlt : 2 < M.2.2.1) (hok : gk_ok (l0 :: l1 :: some (.int x) :: lt) 2 = true) (k : G K M d b pc' (l0 :: l1 :: some (.int (x + v)) :: lt) st h Q) : G K M d b pc (l0 :: l1 :: some (.int x) :: lt) st h Q := gk_iinc (x + v) hd hp rfl (by rw [hv]) hlt hok rfl k
theorem gk_iload3 {x : Int32} {l0 l1 l2 : Option Value} {lt : List (Option Value)} (hd : decode M.2.1 pc = .ok (.iload_n 3, 1)) (hp : pc + 1 = pc') (k : G K M d b pc' (l0 :: l1 :: l2 :: some (.int x) :: lt) (.int x :: st) h Q) : G K M d b pc (l0 :: l1 :: l2 :: some (.int x) :: lt) st h Q := gk_iload_n hd rfl hp rfl k
theorem gk_istore3 {x : Int32} {l0 l1 l2 la : Option Value} {lt : List (Option Value)} (hd : decode M.2.1 pc = .ok (.istore_n 3, 1)) (hp : pc + 1 = pc') (hlt : 3 < M.2.2.1) (hok : gk_ok (l0 :: l1 :: l2 :: la :: lt) 3 = true) (k : G K M d b pc' (l0 :: l1 :: l2 :: some (.int x) :: lt) st h Q) : G K M d b pc (l0 :: l1 :: l2 :: la :: lt) (.int x :: st) h Q := gk_istore_n hd rfl hp hlt hok rfl k
theorem gk_lload3 {x : Int64} {l0 l1 l2 : Option Value} {lt : List (Option Value)} (hd : decode M.2.1 pc = .ok (.lload_n 3, 1)) (hp : pc + 1 = pc') (k : G K M d b pc' (l0 :: l1 :: l2 :: some (.long x) :: lt) (.long x :: st) h Q) : G K M d b pc (l0 :: l1 :: l2 :: some (.long x) :: lt) st h Q := gk_lload_n hd rfl hp rfl k
theorem gk_lstore3 {x : Int64} {l0 l1 l2 la lb : Option Value} {lt : List (Option Value)} (hd : decode M.2.1 pc = .ok (.lstore_n 3, 1)) (hp : pc + 1 = pc') (hlt : 4 < M.2.2.1) (hok : gk_ok (l0 :: l1 :: l2 :: la :: lb :: lt) 3 = true) (k : G K M d b pc' (l0 :: l1 :: l2 :: some (.long x) :: none :: lt) st h Q) : G K M d b pc (l0 :: l1 :: l2 :: la :: lb :: lt) (.long x :: st) h Q := gk_lstore_n hd rfl hp hlt hok rfl k
theorem gk_aload3 {x : Nat} {l0 l1 l2 : Option Value} {lt : List (Option Value)} (hd : decode M.2.1 pc = .ok (.aload_n 3, 1)) (hp : pc + 1 = pc') (k : G K M d b pc' (l0 :: l1 :: l2 :: some (.ref x) :: lt) (.ref x :: st) h Q) : G K M d b pc (l0 :: l1 :: l2 :: some (.ref x) :: lt) st h Q := gk_aload_n hd rfl hp rfl k
theorem gk_astore3 {x : Nat} {l0 l1 l2 la : Option Value} {lt : List (Option Value)} (hd : decode M.2.1 pc = .ok (.astore_n 3, 1)) (hp : pc + 1 = pc') (hlt : 3 < M.2.2.1) (hok : gk_ok (l0 :: l1 :: l2 :: la :: lt) 3 = true) (k : G K M d b pc' (l0 :: l1 :: l2 :: some (.ref x) :: lt) st h Q) : G K M d b pc (l0 :: l1 :: l2 :: la :: lt) (.ref x :: st) h Q := gk_astore_n hd rfl hp hlt hok rfl k
theorem gk_aloadN3 {l0 l1 l2 : Option Value} {lt : List (Option Value)} (hd : decode M.2.1 pc = .ok (.aload_n 3, 1)) (hp : pc + 1 = pc') (k : G K M d b pc' (l0 :: l1 :: l2 :: some (.null) :: lt) (.null :: st) h Q) : G K M d b pc (l0 :: l1 :: l2 :: some (.null) :: lt) st h Q := gk_aload_nN hd rfl hp rfl k
theorem gk_astoreN3 {l0 l1 l2 la : Option Value} {lt : List (Option Value)} (hd : decode M.2.1 pc = .ok (.astore_n 3, 1)) (hp : pc + 1 = pc') (hlt : 3 < M.2.2.1) (hok : gk_ok (l0 :: l1 :: l2 :: la :: lt) 3 = true) (k : G K M d b pc' (l0 :: l1 :: l2 :: some (.null) :: lt) st h Q) : G K M d b pc (l0 :: l1 :: l2 :: la :: lt) (.null :: st) h Q := gk_astore_nN hd rfl hp hlt hok rfl k
theorem gk_iinc3 {n : Int} {x : Int32} (v : Int32) {l0 l1 l2 : Option Value} {lt : List (Option Value)} (hd : decode M.2.1 pc = .ok (.iinc 3 n, 3)) (hp : pc + 3 = pc') (hv : Int32.ofInt n = v) (hlt : 3 < M.2.2.1) (hok : gk_ok (l0 :: l1 :: l2 :: some (.int x) :: lt) 3 = true) (k : G K M d b pc' (l0 :: l1 :: l2 :: some (.int (x + v)) :: lt) st h Q) : G K M d b pc (l0 :: l1 :: l2 :: some (.int x) :: lt) st h Q := gk_iinc (x + v) hd hp rfl (by rw [hv]) hlt hok rfl k
theorem gk_iload4 {x : Int32} {l0 l1 l2 l3 : Option Value} {lt : List (Option Value)} (hd : decode M.2.1 pc = .ok (.iload 4, 2)) (hp : pc + 2 = pc') (k : G K M d b pc' (l0 :: l1 :: l2 :: l3 :: some (.int x) :: lt) (.int x :: st) h Q) : G K M d b pc (l0 :: l1 :: l2 :: l3 :: some (.int x) :: lt) st h Q := gk_iload hd hp rfl k
theorem gk_istore4 {x : Int32} {l0 l1 l2 l3 la : Option Value} {lt : List (Option Value)} (hd : decode M.2.1 pc = .ok (.istore 4, 2)) (hp : pc + 2 = pc') (hlt : 4 < M.2.2.1) (hok : gk_ok (l0 :: l1 :: l2 :: l3 :: la :: lt) 4 = true) (k : G K M d b pc' (l0 :: l1 :: l2 :: l3 :: some (.int x) :: lt) st h Q) : G K M d b pc (l0 :: l1 :: l2 :: l3 :: la :: lt) (.int x :: st) h Q := gk_istore hd hp hlt hok rfl k
theorem gk_lload4 {x : Int64} {l0 l1 l2 l3 : Option Value} {lt : List (Option Value)} (hd : decode M.2.1 pc = .ok (.lload 4, 2)) (hp : pc + 2 = pc') (k : G K M d b pc' (l0 :: l1 :: l2 :: l3 :: some (.long x) :: lt) (.long x :: st) h Q) : G K M d b pc (l0 :: l1 :: l2 :: l3 :: some (.long x) :: lt) st h Q := gk_lload hd hp rfl k
theorem gk_lstore4 {x : Int64} {l0 l1 l2 l3 la lb : Option Value} {lt : List (Option Value)} (hd : decode M.2.1 pc = .ok (.lstore 4, 2)) (hp : pc + 2 = pc') (hlt : 5 < M.2.2.1) (hok : gk_ok (l0 :: l1 :: l2 :: l3 :: la :: lb :: lt) 4 = true) (k : G K M d b pc' (l0 :: l1 :: l2 :: l3 :: some (.long x) :: none :: lt) st h Q) : G K M d b pc (l0 :: l1 :: l2 :: l3 :: la :: lb :: lt) (.long x :: st) h Q := gk_lstore hd hp hlt hok rfl k
theorem gk_aload4 {x : Nat} {l0 l1 l2 l3 : Option Value} {lt : List (Option Value)} (hd : decode M.2.1 pc = .ok (.aload 4, 2)) (hp : pc + 2 = pc') (k : G K M d b pc' (l0 :: l1 :: l2 :: l3 :: some (.ref x) :: lt) (.ref x :: st) h Q) : G K M d b pc (l0 :: l1 :: l2 :: l3 :: some (.ref x) :: lt) st h Q := gk_aload hd hp rfl k
theorem gk_astore4 {x : Nat} {l0 l1 l2 l3 la : Option Value} {lt : List (Option Value)} (hd : decode M.2.1 pc = .ok (.astore 4, 2)) (hp : pc + 2 = pc') (hlt : 4 < M.2.2.1) (hok : gk_ok (l0 :: l1 :: l2 :: l3 :: la :: lt) 4 = true) (k : G K M d b pc' (l0 :: l1 :: l2 :: l3 :: some (.ref x) :: lt) st h Q) : G K M d b pc (l0 :: l1 :: l2 :: l3 :: la :: lt) (.ref x :: st) h Q := gk_astore hd hp hlt hok rfl k
theorem gk_aloadN4 {l0 l1 l2 l3 : Option Value} {lt : List (Option Value)} (hd : decode M.2.1 pc = .ok (.aload 4, 2)) (hp : pc + 2 = pc') (k : G K M d b pc' (l0 :: l1 :: l2 :: l3 :: some (.null) :: lt) (.null :: st) h Q) : G K M d b pc (l0 :: l1 :: l2 :: l3 :: some (.null) :: lt) st h Q := gk_aloadN hd hp rfl k
theorem gk_astoreN4 {l0 l1 l2 l3 la : Option Value} {lt : List (Option Value)} (hd : decode M.2.1 pc = .ok (.astore 4, 2)) (hp : pc + 2 = pc') (hlt : 4 < M.2.2.1) (hok : gk_ok (l0 :: l1 :: l2 :: l3 :: la :: lt) 4 = true) (k : G K M d b pc' (l0 :: l1 :: l2 :: l3 :: some (.null) :: lt) st h Q) : G K M d b pc (l0 :: l1 :: l2 :: l3 :: la :: lt) (.null :: st) h Q := gk_astoreN hd hp hlt hok rfl k
theorem gk_iinc4 {n : Int} {x : Int32} (v : Int32) {l0 l1 l2 l3 : Option Value} {lt : List (Option Value)} (hd : decode M.2.1 pc = .ok (.iinc 4 n, 3)) (hp : pc + 3 = pc') (hv : Int32.ofInt n = v) (hlt : 4 < M.2.2.1) (hok : gk_ok (l0 :: l1 :: l2 :: l3 :: some (.int x) :: lt) 4 = true) (k : G K M d b pc' (l0 :: l1 :: l2 :: l3 :: some (.int (x + v)) :: lt) st h Q) : G K M d b pc (l0 :: l1 :: l2 :: l3 :: some (.int x) :: lt) st h Q := gk_iinc (x + v) hd hp rfl (by rw [hv]) hlt hok rfl k
theorem gk_iload5 {x : Int32} {l0 l1 l2 l3 l4 : Option Value} {lt : List (Option Value)} (hd : decode M.2.1 pc = .ok (.iload 5, 2)) (hp : pc + 2 = pc') (k : G K M d b pc' (l0 :: l1 :: l2 :: l3 :: l4 :: some (.int x) :: lt) (.int x :: st) h Q) : G K M d b pc (l0 :: l1 :: l2 :: l3 :: l4 :: some (.int x) :: lt) st h Q := gk_iload hd hp rfl k
theorem gk_istore5 {x : Int32} {l0 l1 l2 l3 l4 la : Option Value} {lt : List (Option Value)} (hd : decode M.2.1 pc = .ok (.istore 5, 2)) (hp : pc + 2 = pc') (hlt : 5 < M.2.2.1) (hok : gk_ok (l0 :: l1 :: l2 :: l3 :: l4 :: la :: lt) 5 = true) (k : G K M d b pc' (l0 :: l1 :: l2 :: l3 :: l4 :: some (.int x) :: lt) st h Q) : G K M d b pc (l0 :: l1 :: l2 :: l3 :: l4 :: la :: lt) (.int x :: st) h Q := gk_istore hd hp hlt hok rfl k
theorem gk_lload5 {x : Int64} {l0 l1 l2 l3 l4 : Option Value} {lt : List (Option Value)} (hd : decode M.2.1 pc = .ok (.lload 5, 2)) (hp : pc + 2 = pc') (k : G K M d b pc' (l0 :: l1 :: l2 :: l3 :: l4 :: some (.long x) :: lt) (.long x :: st) h Q) : G K M d b pc (l0 :: l1 :: l2 :: l3 :: l4 :: some (.long x) :: lt) st h Q := gk_lload hd hp rfl k
theorem gk_lstore5 {x : Int64} {l0 l1 l2 l3 l4 la lb : Option Value} {lt : List (Option Value)} (hd : decode M.2.1 pc = .ok (.lstore 5, 2)) (hp : pc + 2 = pc') (hlt : 6 < M.2.2.1) (hok : gk_ok (l0 :: l1 :: l2 :: l3 :: l4 :: la :: lb :: lt) 5 = true) (k : G K M d b pc' (l0 :: l1 :: l2 :: l3 :: l4 :: some (.long x) :: none :: lt) st h Q) : G K M d b pc (l0 :: l1 :: l2 :: l3 :: l4 :: la :: lb :: lt) (.long x :: st) h Q := gk_lstore hd hp hlt hok rfl k
theorem gk_aload5 {x : Nat} {l0 l1 l2 l3 l4 : Option Value} {lt : List (Option Value)} (hd : decode M.2.1 pc = .ok (.aload 5, 2)) (hp : pc + 2 = pc') (k : G K M d b pc' (l0 :: l1 :: l2 :: l3 :: l4 :: some (.ref x) :: lt) (.ref x :: st) h Q) : G K M d b pc (l0 :: l1 :: l2 :: l3 :: l4 :: some (.ref x) :: lt) st h Q := gk_aload hd hp rfl k
theorem gk_astore5 {x : Nat} {l0 l1 l2 l3 l4 la : Option Value} {lt : List (Option Value)} (hd : decode M.2.1 pc = .ok (.astore 5, 2)) (hp : pc + 2 = pc') (hlt : 5 < M.2.2.1) (hok : gk_ok (l0 :: l1 :: l2 :: l3 :: l4 :: la :: lt) 5 = true) (k : G K M d b pc' (l0 :: l1 :: l2 :: l3 :: l4 :: some (.ref x) :: lt) st h Q) : G K M d b pc (l0 :: l1 :: l2 :: l3 :: l4 :: la :: lt) (.ref x :: st) h Q := gk_astore hd hp hlt hok rfl k
theorem gk_aloadN5 {l0 l1 l2 l3 l4 : Option Value} {lt : List (Option Value)} (hd : decode M.2.1 pc = .ok (.aload 5, 2)) (hp : pc + 2 = pc') (k : G K M d b pc' (l0 :: l1 :: l2 :: l3 :: l4 :: some (.null) :: lt) (.null :: st) h Q) : G K M d b pc (l0 :: l1 :: l2 :: l3 :: l4 :: some (.null) :: lt) st h Q := gk_aloadN hd hp rfl k
theorem gk_astoreN5 {l0 l1 l2 l3 l4 la : Option Value} {lt : List (Option Value)} (hd : decode M.2.1 pc = .ok (.astore 5, 2)) (hp : pc + 2 = pc') (hlt : 5 < M.2.2.1) (hok : gk_ok (l0 :: l1 :: l2 :: l3 :: l4 :: la :: lt) 5 = true) (k : G K M d b pc' (l0 :: l1 :: l2 :: l3 :: l4 :: some (.null) :: lt) st h Q) : G K M d b pc (l0 :: l1 :: l2 :: l3 :: l4 :: la :: lt) (.null :: st) h Q := gk_astoreN hd hp hlt hok rfl k
theorem gk_iinc5 {n : Int} {x : Int32} (v : Int32) {l0 l1 l2 l3 l4 : Option Value} {lt : List (Option Value)} (hd : decode M.2.1 pc = .ok (.iinc 5 n, 3)) (hp : pc + 3 = pc') (hv : Int32.ofInt n = v) (hlt : 5 < M.2.2.1) (hok : gk_ok (l0 :: l1 :: l2 :: l3 :: l4 :: some (.int x) :: lt) 5 = true) (k : G K M d b pc' (l0 :: l1 :: l2 :: l3 :: l4 :: some (.int (x + v)) :: lt) st h Q) : G K M d b pc (l0 :: l1 :: l2 :: l3 :: l4 :: some (.int x) :: lt) st h Q := gk_iinc (x + v) hd hp rfl (by rw [hv]) hlt hok rfl k
theorem gk_iload6 {x : Int32} {l0 l1 l2 l3 l4 l5 : Option Value} {lt : List (Option Value)} (hd : decode M.2.1 pc = .ok (.iload 6, 2)) (hp : pc + 2 = pc') (k : G K M d b pc' (l0 :: l1 :: l2 :: l3 :: l4 :: l5 :: some (.int x) :: lt) (.int x :: st) h Q) : G K M d b pc (l0 :: l1 :: l2 :: l3 :: l4 :: l5 :: some (.int x) :: lt) st h Q := gk_iload hd hp rfl k
theorem gk_istore6 {x : Int32} {l0 l1 l2 l3 l4 l5 la : Option Value} {lt : List (Option Value)} (hd : decode M.2.1 pc = .ok (.istore 6, 2)) (hp : pc + 2 = pc') (hlt : 6 < M.2.2.1) (hok : gk_ok (l0 :: l1 :: l2 :: l3 :: l4 :: l5 :: la :: lt) 6 = true) (k : G K M d b pc' (l0 :: l1 :: l2 :: l3 :: l4 :: l5 :: some (.int x) :: lt) st h Q) : G K M d b pc (l0 :: l1 :: l2 :: l3 :: l4 :: l5 :: la :: lt) (.int x :: st) h Q := gk_istore hd hp hlt hok rfl k
theorem gk_lload6 {x : Int64} {l0 l1 l2 l3 l4 l5 : Option Value} {lt : List (Option Value)} (hd : decode M.2.1 pc = .ok (.lload 6, 2)) (hp : pc + 2 = pc') (k : G K M d b pc' (l0 :: l1 :: l2 :: l3 :: l4 :: l5 :: some (.long x) :: lt) (.long x :: st) h Q) : G K M d b pc (l0 :: l1 :: l2 :: l3 :: l4 :: l5 :: some (.long x) :: lt) st h Q := gk_lload hd hp rfl k
theorem gk_lstore6 {x : Int64} {l0 l1 l2 l3 l4 l5 la lb : Option Value} {lt : List (Option Value)} (hd : decode M.2.1 pc = .ok (.lstore 6, 2)) (hp : pc + 2 = pc') (hlt : 7 < M.2.2.1) (hok : gk_ok (l0 :: l1 :: l2 :: l3 :: l4 :: l5 :: la :: lb :: lt) 6 = true) (k : G K M d b pc' (l0 :: l1 :: l2 :: l3 :: l4 :: l5 :: some (.long x) :: none :: lt) st h Q) : G K M d b pc (l0 :: l1 :: l2 :: l3 :: l4 :: l5 :: la :: lb :: lt) (.long x :: st) h Q := gk_lstore hd hp hlt hok rfl k
theorem gk_aload6 {x : Nat} {l0 l1 l2 l3 l4 l5 : Option Value} {lt : List (Option Value)} (hd : decode M.2.1 pc = .ok (.aload 6, 2)) (hp : pc + 2 = pc') (k : G K M d b pc' (l0 :: l1 :: l2 :: l3 :: l4 :: l5 :: some (.ref x) :: lt) (.ref x :: st) h Q) : G K M d b pc (l0 :: l1 :: l2 :: l3 :: l4 :: l5 :: some (.ref x) :: lt) st h Q := gk_aload hd hp rfl k
theorem gk_astore6 {x : Nat} {l0 l1 l2 l3 l4 l5 la : Option Value} {lt : List (Option Value)} (hd : decode M.2.1 pc = .ok (.astore 6, 2)) (hp : pc + 2 = pc') (hlt : 6 < M.2.2.1) (hok : gk_ok (l0 :: l1 :: l2 :: l3 :: l4 :: l5 :: la :: lt) 6 = true) (k : G K M d b pc' (l0 :: l1 :: l2 :: l3 :: l4 :: l5 :: some (.ref x) :: lt) st h Q) : G K M d b pc (l0 :: l1 :: l2 :: l3 :: l4 :: l5 :: la :: lt) (.ref x :: st) h Q := gk_astore hd hp hlt hok rfl k
theorem gk_aloadN6 {l0 l1 l2 l3 l4 l5 : Option Value} {lt : List (Option Value)} (hd : decode M.2.1 pc = .ok (.aload 6, 2)) (hp : pc + 2 = pc') (k : G K M d b pc' (l0 :: l1 :: l2 :: l3 :: l4 :: l5 :: some (.null) :: lt) (.null :: st) h Q) : G K M d b pc (l0 :: l1 :: l2 :: l3 :: l4 :: l5 :: some (.null) :: lt) st h Q := gk_aloadN hd hp rfl k
theorem gk_astoreN6 {l0 l1 l2 l3 l4 l5 la : Option Value} {lt : List (Option Value)} (hd : decode M.2.1 pc = .ok (.astore 6, 2)) (hp : pc + 2 = pc') (hlt : 6 < M.2.2.1) (hok : gk_ok (l0 :: l1 :: l2 :: l3 :: l4 :: l5 :: la :: lt) 6 = true) (k : G K M d b pc' (l0 :: l1 :: l2 :: l3 :: l4 :: l5 :: some (.null) :: lt) st h Q) : G K M d b pc (l0 :: l1 :: l2 :: l3 :: l4 :: l5 :: la :: lt) (.null :: st) h Q := gk_astoreN hd hp hlt hok rfl k
theorem gk_iinc6 {n : Int} {x : Int32} (v : Int32) {l0 l1 l2 l3 l4 l5 : Option Value} {lt : List (Option Value)} (hd : decode M.2.1 pc = .ok (.iinc 6 n, 3)) (hp : pc + 3 = pc') (hv : Int32.ofInt n = v) (hlt : 6 < M.2.2.1) (hok : gk_ok (l0 :: l1 :: l2 :: l3 :: l4 :: l5 :: some (.int x) :: lt) 6 = true) (k : G K M d b pc' (l0 :: l1 :: l2 :: l3 :: l4 :: l5 :: some (.int (x + v)) :: lt) st h Q) : G K M d b pc (l0 :: l1 :: l2 :: l3 :: l4 :: l5 :: some (.int x) :: lt) st h Q := gk_iinc (x + v) hd hp rfl (by rw [hv]) hlt hok rfl k
theorem gk_iload7 {x : Int32} {l0 l1 l2 l3 l4 l5 l6 : Option Value} {lt : List (Option Value)} (hd : decode M.2.1 pc = .ok (.iload 7, 2)) (hp : pc + 2 = pc') (k : G K M d b pc' (l0 :: l1 :: l2 :: l3 :: l4 :: l5 :: l6 :: some (.int x) :: lt) (.int x :: st) h Q) : G K M d b pc (l0 :: l1 :: l2 :: l3 :: l4 :: l5 :: l6 :: some (.int x) :: lt) st h Q := gk_iload hd hp rfl k
theorem gk_istore7 {x : Int32} {l0 l1 l2 l3 l4 l5 l6 la : Option Value} {lt : List (Option Value)} (hd : decode M.2.1 pc = .ok (.istore 7, 2)) (hp : pc + 2 = pc') (hlt : 7 < M.2.2.1) (hok : gk_ok (l0 :: l1 :: l2 :: l3 :: l4 :: l5 :: l6 :: la :: lt) 7 = true) (k : G K M d b pc' (l0 :: l1 :: l2 :: l3 :: l4 :: l5 :: l6 :: some (.int x) :: lt) st h Q) : G K M d b pc (l0 :: l1 :: l2 :: l3 :: l4 :: l5 :: l6 :: la :: lt) (.int x :: st) h Q := gk_istore hd hp hlt hok rfl k
theorem gk_lload7 {x : Int64} {l0 l1 l2 l3 l4 l5 l6 : Option Value} {lt : List (Option Value)} (hd : decode M.2.1 pc = .ok (.lload 7, 2)) (hp : pc + 2 = pc') (k : G K M d b pc' (l0 :: l1 :: l2 :: l3 :: l4 :: l5 :: l6 :: some (.long x) :: lt) (.long x :: st) h Q) : G K M d b pc (l0 :: l1 :: l2 :: l3 :: l4 :: l5 :: l6 :: some (.long x) :: lt) st h Q := gk_lload hd hp rfl k
theorem gk_lstore7 {x : Int64} {l0 l1 l2 l3 l4 l5 l6 la lb : Option Value} {lt : List (Option Value)} (hd : decode M.2.1 pc = .ok (.lstore 7, 2)) (hp : pc + 2 = pc') (hlt : 8 < M.2.2.1) (hok : gk_ok (l0 :: l1 :: l2 :: l3 :: l4 :: l5 :: l6 :: la :: lb :: lt) 7 = true) (k : G K M d b pc' (l0 :: l1 :: l2 :: l3 :: l4 :: l5 :: l6 :: some (.long x) :: none :: lt) st h Q) : G K M d b pc (l0 :: l1 :: l2 :: l3 :: l4 :: l5 :: l6 :: la :: lb :: lt) (.long x :: st) h Q := gk_lstore hd hp hlt hok rfl k
theorem gk_aload7 {x : Nat} {l0 l1 l2 l3 l4 l5 l6 : Option Value} {lt : List (Option Value)} (hd : decode M.2.1 pc = .ok (.aload 7, 2)) (hp : pc + 2 = pc') (k : G K M d b pc' (l0 :: l1 :: l2 :: l3 :: l4 :: l5 :: l6 :: some (.ref x) :: lt) (.ref x :: st) h Q) : G K M d b pc (l0 :: l1 :: l2 :: l3 :: l4 :: l5 :: l6 :: some (.ref x) :: lt) st h Q := gk_aload hd hp rfl k
theorem gk_astore7 {x : Nat} {l0 l1 l2 l3 l4 l5 l6 la : Option Value} {lt : List (Option Value)} (hd : decode M.2.1 pc = .ok (.astore 7, 2)) (hp : pc + 2 = pc') (hlt : 7 < M.2.2.1) (hok : gk_ok (l0 :: l1 :: l2 :: l3 :: l4 :: l5 :: l6 :: la :: lt) 7 = true) (k : G K M d b pc' (l0 :: l1 :: l2 :: l3 :: l4 :: l5 :: l6 :: some (.ref x) :: lt) st h Q) : G K M d b pc (l0 :: l1 :: l2 :: l3 :: l4 :: l5 :: l6 :: la :: lt) (.ref x :: st) h Q := gk_astore hd hp hlt hok rfl k
theorem gk_aloadN7 {l0 l1 l2 l3 l4 l5 l6 : Option Value} {lt : List (Option Value)} (hd : decode M.2.1 pc = .ok (.aload 7, 2)) (hp : pc + 2 = pc') (k : G K M d b pc' (l0 :: l1 :: l2 :: l3 :: l4 :: l5 :: l6 :: some (.null) :: lt) (.null :: st) h Q) : G K M d b pc (l0 :: l1 :: l2 :: l3 :: l4 :: l5 :: l6 :: some (.null) :: lt) st h Q := gk_aloadN hd hp rfl k
theorem gk_astoreN7 {l0 l1 l2 l3 l4 l5 l6 la : Option Value} {lt : List (Option Value)} (hd : decode M.2.1 pc = .ok (.astore 7, 2)) (hp : pc + 2 = pc') (hlt : 7 < M.2.2.1) (hok : gk_ok (l0 :: l1 :: l2 :: l3 :: l4 :: l5 :: l6 :: la :: lt) 7 = true) (k : G K M d b pc' (l0 :: l1 :: l2 :: l3 :: l4 :: l5 :: l6 :: some (.null) :: lt) st h Q) : G K M d b pc (l0 :: l1 :: l2 :: l3 :: l4 :: l5 :: l6 :: la :: lt) (.null :: st) h Q := gk_astoreN hd hp hlt hok rfl k
theorem gk_iinc7 {n : Int} {x : Int32} (v : Int32) {l0 l1 l2 l3 l4 l5 l6 : Option Value} {lt : List (Option Value)} (hd : decode M.2.1 pc = .ok (.iinc 7 n, 3)) (hp : pc + 3 = pc') (hv : Int32.ofInt n = v) (hlt : 7 < M.2.2.1) (hok : gk_ok (l0 :: l1 :: l2 :: l3 :: l4 :: l5 :: l6 :: some (.int x) :: lt) 7 = true) (k : G K M d b pc' (l0 :: l1 :: l2 :: l3 :: l4 :: l5 :: l6 :: some (.int (x + v)) :: lt) st h Q) : G K M d b pc (l0 :: l1 :: l2 :: l3 :: l4 :: l5 :: l6 :: some (.int x) :: lt) st h Q := gk_iinc (x + v) hd hp rfl (by rw [hv]) hlt hok rfl k
theorem gk_iload8 {x : Int32} {l0 l1 l2 l3 l4 l5 l6 l7 : Option Value} {lt : List (Option Value)} (hd : decode M.2.1 pc = .ok (.iload 8, 2)) (hp : pc + 2 = pc') (k : G K M d b pc' (l0 :: l1 :: l2 :: l3 :: l4 :: l5 :: l6 :: l7 :: some (.int x) :: lt) (.int x :: st) h Q) : G K M d b pc (l0 :: l1 :: l2 :: l3 :: l4 :: l5 :: l6 :: l7 :: some (.int x) :: lt) st h Q := gk_iload hd hp rfl k
theorem gk_istore8 {x : Int32} {l0 l1 l2 l3 l4 l5 l6 l7 la : Option Value} {lt : List (Option Value)} (hd : decode M.2.1 pc = .ok (.istore 8, 2)) (hp : pc + 2 = pc') (hlt : 8 < M.2.2.1) (hok : gk_ok (l0 :: l1 :: l2 :: l3 :: l4 :: l5 :: l6 :: l7 :: la :: lt) 8 = true) (k : G K M d b pc' (l0 :: l1 :: l2 :: l3 :: l4 :: l5 :: l6 :: l7 :: some (.int x) :: lt) st h Q) : G K M d b pc (l0 :: l1 :: l2 :: l3 :: l4 :: l5 :: l6 :: l7 :: la :: lt) (.int x :: st) h Q := gk_istore hd hp hlt hok rfl k
theorem gk_lload8 {x : Int64} {l0 l1 l2 l3 l4 l5 l6 l7 : Option Value} {lt : List (Option Value)} (hd : decode M.2.1 pc = .ok (.lload 8, 2)) (hp : pc + 2 = pc') (k : G K M d b pc' (l0 :: l1 :: l2 :: l3 :: l4 :: l5 :: l6 :: l7 :: some (.long x) :: lt) (.long x :: st) h Q) : G K M d b pc (l0 :: l1 :: l2 :: l3 :: l4 :: l5 :: l6 :: l7 :: some (.long x) :: lt) st h Q := gk_lload hd hp rfl k
theorem gk_lstore8 {x : Int64} {l0 l1 l2 l3 l4 l5 l6 l7 la lb : Option Value} {lt : List (Option Value)} (hd : decode M.2.1 pc = .ok (.lstore 8, 2)) (hp : pc + 2 = pc') (hlt : 9 < M.2.2.1) (hok : gk_ok (l0 :: l1 :: l2 :: l3 :: l4 :: l5 :: l6 :: l7 :: la :: lb :: lt) 8 = true) (k : G K M d b pc' (l0 :: l1 :: l2 :: l3 :: l4 :: l5 :: l6 :: l7 :: some (.long x) :: none :: lt) st h Q) : G K M d b pc (l0 :: l1 :: l2 :: l3 :: l4 :: l5 :: l6 :: l7 :: la :: lb :: lt) (.long x :: st) h Q := gk_lstore hd hp hlt hok rfl k
theorem gk_aload8 {x : Nat} {l0 l1 l2 l3 l4 l5 l6 l7 : Option Value} {lt : List (Option Value)} (hd : decode M.2.1 pc = .ok (.aload 8, 2)) (hp : pc + 2 = pc') (k : G K M d b pc' (l0 :: l1 :: l2 :: l3 :: l4 :: l5 :: l6 :: l7 :: some (.ref x) :: lt) (.ref x :: st) h Q) : G K M d b pc (l0 :: l1 :: l2 :: l3 :: l4 :: l5 :: l6 :: l7 :: some (.ref x) :: lt) st h Q := gk_aload hd hp rfl k
theorem gk_astore8 {x : Nat} {l0 l1 l2 l3 l4 l5 l6 l7 la : Option Value} {lt : List (Option Value)} (hd : decode M.2.1 pc = .ok (.astore 8, 2)) (hp : pc + 2 = pc') (hlt : 8 < M.2.2.1) (hok : gk_ok (l0 :: l1 :: l2 :: l3 :: l4 :: l5 :: l6 :: l7 :: la :: lt) 8 = true) (k : G K M d b pc' (l0 :: l1 :: l2 :: l3 :: l4 :: l5 :: l6 :: l7 :: some (.ref x) :: lt) st h Q) : G K M d b pc (l0 :: l1 :: l2 :: l3 :: l4 :: l5 :: l6 :: l7 :: la :: lt) (.ref x :: st) h Q := gk_astore hd hp hlt hok rfl k
theorem gk_aloadN8 {l0 l1 l2 l3 l4 l5 l6 l7 : Option Value} {lt : List (Option Value)} (hd : decode M.2.1 pc = .ok (.aload 8, 2)) (hp : pc + 2 = pc') (k : G K M d b pc' (l0 :: l1 :: l2 :: l3 :: l4 :: l5 :: l6 :: l7 :: some (.null) :: lt) (.null :: st) h Q) : G K M d b pc (l0 :: l1 :: l2 :: l3 :: l4 :: l5 :: l6 :: l7 :: some (.null) :: lt) st h Q := gk_aloadN hd hp rfl k
theorem gk_astoreN8 {l0 l1 l2 l3 l4 l5 l6 l7 la : Option Value} {lt : List (Option Value)} (hd : decode M.2.1 pc = .ok (.astore 8, 2)) (hp : pc + 2 = pc') (hlt : 8 < M.2.2.1) (hok : gk_ok (l0 :: l1 :: l2 :: l3 :: l4 :: l5 :: l6 :: l7 :: la :: lt) 8 = true) (k : G K M d b pc' (l0 :: l1 :: l2 :: l3 :: l4 :: l5 :: l6 :: l7 :: some (.null) :: lt) st h Q) : G K M d b pc (l0 :: l1 :: l2 :: l3 :: l4 :: l5 :: l6 :: l7 :: la :: lt) (.null :: st) h Q := gk_astoreN hd hp hlt hok rfl k
theorem gk_iinc8 {n : Int} {x : Int32} (v : Int32) {l0 l1 l2 l3 l4 l5 l6 l7 : Option Value} {lt : List (Option Value)} (hd : decode M.2.1 pc = .ok (.iinc 8 n, 3)) (hp : pc + 3 = pc') (hv : Int32.ofInt n = v) (hlt : 8 < M.2.2.1) (hok : gk_ok (l0 :: l1 :: l2 :: l3 :: l4 :: l5 :: l6 :: l7 :: some (.int x) :: lt) 8 = true) (k : G K M d b pc' (l0 :: l1 :: l2 :: l3 :: l4 :: l5 :: l6 :: l7 :: some (.int (x + v)) :: lt) st h Q) : G K M d b pc (l0 :: l1 :: l2 :: l3 :: l4 :: l5 :: l6 :: l7 :: some (.int x) :: lt) st h Q := gk_iinc (x + v) hd hp rfl (by rw [hv]) hlt hok rfl k
theorem gk_iload9 {x : Int32} {l0 l1 l2 l3 l4 l5 l6 l7 l8 : Option Value} {lt : List (Option Value)} (hd : decode M.2.1 pc = .ok (.iload 9, 2)) (hp : pc + 2 = pc') (k : G K M d b pc' (l0 :: l1 :: l2 :: l3 :: l4 :: l5 :: l6 :: l7 :: l8 :: some (.int x) :: lt) (.int x :: st) h Q) : G K M d b pc (l0 :: l1 :: l2 :: l3 :: l4 :: l5 :: l6 :: l7 :: l8 :: some (.int x) :: lt) st h Q := gk_iload hd hp rfl k
theorem gk_istore9 {x : Int32} {l0 l1 l2 l3 l4 l5 l6 l7 l8 la : Option Value} {lt : List (Option Value)} (hd : decode M.2.1 pc = .ok (.istore 9, 2)) (hp : pc + 2 = pc') (hlt : 9 < M.2.2.1) (hok : gk_ok (l0 :: l1 :: l2 :: l3 :: l4 :: l5 :: l6 :: l7 :: l8 :: la :: lt) 9 = true) (k : G K M d b pc' (l0 :: l1 :: l2 :: l3 :: l4 :: l5 :: l6 :: l7 :: l8 :: some (.int x) :: lt) st h Q) : G K M d b pc (l0 :: l1 :: l2 :: l3 :: l4 :: l5 :: l6 :: l7 :: l8 :: la :: lt) (.int x :: st) h Q := gk_istore hd hp hlt hok rfl k
theorem gk_lload9 {x : Int64} {l0 l1 l2 l3 l4 l5 l6 l7 l8 : Option Value} {lt : List (Option Value)} (hd : decode M.2.1 pc = .ok (.lload 9, 2)) (hp : pc + 2 = pc') (k : G K M d b pc' (l0 :: l1 :: l2 :: l3 :: l4 :: l5 :: l6 :: l7 :: l8 :: some (.long x) :: lt) (.long x :: st) h Q) : G K M d b pc (l0 :: l1 :: l2 :: l3 :: l4 :: l5 :: l6 :: l7 :: l8 :: some (.long x) :: lt) st h Q := gk_lload hd hp rfl k
theorem gk_lstore9 {x : Int64} {l0 l1 l2 l3 l4 l5 l6 l7 l8 la lb : Option Value} {lt : List (Option Value)} (hd : decode M.2.1 pc = .ok (.lstore 9, 2)) (hp : pc + 2 = pc') (hlt : 10 < M.2.2.1) (hok : gk_ok (l0 :: l1 :: l2 :: l3 :: l4 :: l5 :: l6 :: l7 :: l8 :: la :: lb :: lt) 9 = true) (k : G K M d b pc' (l0 :: l1 :: l2 :: l3 :: l4 :: l5 :: l6 :: l7 :: l8 :: some (.long x) :: none :: lt) st h Q) : G K M d b pc (l0 :: l1 :: l2 :: l3 :: l4 :: l5 :: l6 :: l7 :: l8 :: la :: lb :: lt) (.long x :: st) h Q := gk_lstore hd hp hlt hok rfl k
theorem gk_aload9 {x : Nat} {l0 l1 l2 l3 l4 l5 l6 l7 l8 : Option Value} {lt : List (Option Value)} (hd : decode M.2.1 pc = .ok (.aload 9, 2)) (hp : pc + 2 = pc') (k : G K M d b pc' (l0 :: l1 :: l2 :: l3 :: l4 :: l5 :: l6 :: l7 :: l8 :: some (.ref x) :: lt) (.ref x :: st) h Q) : G K M d b pc (l0 :: l1 :: l2 :: l3 :: l4 :: l5 :: l6 :: l7 :: l8 :: some (.ref x) :: lt) st h Q := gk_aload hd hp rfl k
theorem gk_astore9 {x : Nat} {l0 l1 l2 l3 l4 l5 l6 l7 l8 la : Option Value} {lt : List (Option Value)} (hd : decode M.2.1 pc = .ok (.astore 9, 2)) (hp : pc + 2 = pc') (hlt : 9 < M.2.2.1) (hok : gk_ok (l0 :: l1 :: l2 :: l3 :: l4 :: l5 :: l6 :: l7 :: l8 :: la :: lt) 9 = true) (k : G K M d b pc' (l0 :: l1 :: l2 :: l3 :: l4 :: l5 :: l6 :: l7 :: l8 :: some (.ref x) :: lt) st h Q) : G K M d b pc (l0 :: l1 :: l2 :: l3 :: l4 :: l5 :: l6 :: l7 :: l8 :: la :: lt) (.ref x :: st) h Q := gk_astore hd hp hlt hok rfl k
theorem gk_aloadN9 {l0 l1 l2 l3 l4 l5 l6 l7 l8 : Option Value} {lt : List (Option Value)} (hd : decode M.2.1 pc = .ok (.aload 9, 2)) (hp : pc + 2 = pc') (k : G K M d b pc' (l0 :: l1 :: l2 :: l3 :: l4 :: l5 :: l6 :: l7 :: l8 :: some (.null) :: lt) (.null :: st) h Q) : G K M d b pc (l0 :: l1 :: l2 :: l3 :: l4 :: l5 :: l6 :: l7 :: l8 :: some (.null) :: lt) st h Q := gk_aloadN hd hp rfl k
theorem gk_astoreN9 {l0 l1 l2 l3 l4 l5 l6 l7 l8 la : Option Value} {lt : List (Option Value)} (hd : decode M.2.1 pc = .ok (.astore 9, 2)) (hp : pc + 2 = pc') (hlt : 9 < M.2.2.1) (hok : gk_ok (l0 :: l1 :: l2 :: l3 :: l4 :: l5 :: l6 :: l7 :: l8 :: la :: lt) 9 = true) (k : G K M d b pc' (l0 :: l1 :: l2 :: l3 :: l4 :: l5 :: l6 :: l7 :: l8 :: some (.null) :: lt) st h Q) : G K M d b pc (l0 :: l1 :: l2 :: l3 :: l4 :: l5 :: l6 :: l7 :: l8 :: la :: lt) (.null :: st) h Q := gk_astoreN hd hp hlt hok rfl k
theorem gk_iinc9 {n : Int} {x : Int32} (v : Int32) {l0 l1 l2 l3 l4 l5 l6 l7 l8 : Option Value} {lt : List (Option Value)} (hd : decode M.2.1 pc = .ok (.iinc 9 n, 3)) (hp : pc + 3 = pc') (hv : Int32.ofInt n = v) (hlt : 9 < M.2.2.1) (hok : gk_ok (l0 :: l1 :: l2 :: l3 :: l4 :: l5 :: l6 :: l7 :: l8 :: some (.int x) :: lt) 9 = true) (k : G K M d b pc' (l0 :: l1 :: l2 :: l3 :: l4 :: l5 :: l6 :: l7 :: l8 :: some (.int (x + v)) :: lt) st h Q) : G K M d b pc (l0 :: l1 :: l2 :: l3 :: l4 :: l5 :: l6 :: l7 :: l8 :: some (.int x) :: lt) st h Q := gk_iinc (x + v) hd hp rfl (by rw [hv]) hlt hok rfl k
theorem gk_iload10 {x : Int32} {l0 l1 l2 l3 l4 l5 l6 l7 l8 l9 : Option Value} {lt : List (Option Value)} (hd : decode M.2.1 pc = .ok (.iload 10, 2)) (hp : pc + 2 = pc') (k : G K M d b pc' (l0 :: l1 :: l2 :: l3 :: l4 :: l5 :: l6 :: l7 :: l8 :: l9 :: some (.int x) :: lt) (.int x :: st) h Q) : G K M d b pc (l0 :: l1 :: l2 :: l3 :: l4 :: l5 :: l6 :: l7 :: l8 :: l9 :: some (.int x) :: lt) st h Q := gk_iload hd hp rfl k
theorem gk_istore10 {x : Int32} {l0 l1 l2 l3 l4 l5 l6 l7 l8 l9 la : Option Value} {lt : List (Option Value)} (hd : decode M.2.1 pc = .ok (.istore 10, 2)) (hp : pc + 2 = pc') (hlt : 10 < M.2.2.1) (hok : gk_ok (l0 :: l1 :: l2 :: l3 :: l4 :: l5 :: l6 :: l7 :: l8 :: l9 :: la :: lt) 10 = true) (k : G K M d b pc' (l0 :: l1 :: l2 :: l3 :: l4 :: l5 :: l6 :: l7 :: l8 :: l9 :: some (.int x) :: lt) st h Q) : G K M d b pc (l0 :: l1 :: l2 :: l3 :: l4 :: l5 :: l6 :: l7 :: l8 :: l9 :: la :: lt) (.int x :: st) h Q := gk_istore hd hp hlt hok rfl k
theorem gk_lload10 {x : Int64} {l0 l1 l2 l3 l4 l5 l6 l7 l8 l9 : Option Value} {lt : List (Option Value)} (hd : decode M.2.1 pc = .ok (.lload 10, 2)) (hp : pc + 2 = pc') (k : G K M d b pc' (l0 :: l1 :: l2 :: l3 :: l4 :: l5 :: l6 :: l7 :: l8 :: l9 :: some (.long x) :: lt) (.long x :: st) h Q) : G K M d b pc (l0 :: l1 :: l2 :: l3 :: l4 :: l5 :: l6 :: l7 :: l8 :: l9 :: some (.long x) :: lt) st h Q := gk_lload hd hp rfl k
theorem gk_lstore10 {x : Int64} {l0 l1 l2 l3 l4 l5 l6 l7 l8 l9 la lb : Option Value} {lt : List (Option Value)} (hd : decode M.2.1 pc = .ok (.lstore 10, 2)) (hp : pc + 2 = pc') (hlt : 11 < M.2.2.1) (hok : gk_ok (l0 :: l1 :: l2 :: l3 :: l4 :: l5 :: l6 :: l7 :: l8 :: l9 :: la :: lb :: lt) 10 = true) (k : G K M d b pc' (l0 :: l1 :: l2 :: l3 :: l4 :: l5 :: l6 :: l7 :: l8 :: l9 :: some (.long x) :: none :: lt) st h Q) : G K M d b pc (l0 :: l1 :: l2 :: l3 :: l4 :: l5 :: l6 :: l7 :: l8 :: l9 :: la :: lb :: lt) (.long x :: st) h Q := gk_lstore hd hp hlt hok rfl k
theorem gk_aload10 {x : Nat} {l0 l1 l2 l3 l4 l5 l6 l7 l8 l9 : Option Value} {lt : List (Option Value)} (hd : decode M.2.1 pc = .ok (.aload 10, 2)) (hp : pc + 2 = pc') (k : G K M d b pc' (l0 :: l1 :: l2 :: l3 :: l4 :: l5 :: l6 :: l7 :: l8 :: l9 :: some (.ref x) :: lt) (.ref x :: st) h Q) : G K M d b pc (l0 :: l1 :: l2 :: l3 :: l4 :: l5 :: l6 :: l7 :: l8 :: l9 :: some (.ref x) :: lt) st h Q := gk_aload hd hp rfl k
theorem gk_astore10 {x : Nat} {l0 l1 l2 l3 l4 l5 l6 l7 l8 l9 la : Option Value} {lt : List (Option Value)} (hd : decode M.2.1 pc = .ok (.astore 10, 2)) (hp : pc + 2 = pc') (hlt : 10 < M.2.2.1) (hok : gk_ok (l0 :: l1 :: l2 :: l3 :: l4 :: l5 :: l6 :: l7 :: l8 :: l9 :: la :: lt) 10 = true) (k : G K M d b pc' (l0 :: l1 :: l2 :: l3 :: l4 :: l5 :: l6 :: l7 :: l8 :: l9 :: some (.ref x) :: lt) st h Q) : G K M d b pc (l0 :: l1 :: l2 :: l3 :: l4 :: l5 :: l6 :: l7 :: l8 :: l9 :: la :: lt) (.ref x :: st) h Q := gk_astore hd hp hlt hok rfl k
theorem gk_aloadN10 {l0 l1 l2 l3 l4 l5 l6 l7 l8 l9 : Option Value} {lt : List (Option Value)} (hd : decode M.2.1 pc = .ok (.aload 10, 2)) (hp : pc + 2 = pc') (k : G K M d b pc' (l0 :: l1 :: l2 :: l3 :: l4 :: l5 :: l6 :: l7 :: l8 :: l9 :: some (.null) :: lt) (.null :: st) h Q) : G K M d b pc (l0 :: l1 :: l2 :: l3 :: l4 :: l5 :: l6 :: l7 :: l8 :: l9 :: some (.null) :: lt) st h Q := gk_aloadN hd hp rfl k
theorem gk_astoreN10 {l0 l1 l2 l3 l4 l5 l6 l7 l8 l9 la : Option Value} {lt : List (Option Value)} (hd : decode M.2.1 pc = .ok (.astore 10, 2)) (hp : pc + 2 = pc') (hlt : 10 < M.2.2.1) (hok : gk_ok (l0 :: l1 :: l2 :: l3 :: l4 :: l5 :: l6 :: l7 :: l8 :: l9 :: la :: lt) 10 = true) (k : G K M d b pc' (l0 :: l1 :: l2 :: l3 :: l4 :: l5 :: l6 :: l7 :: l8 :: l9 :: some (.null) :: lt) st h Q) : G K M d b pc (l0 :: l1 :: l2 :: l3 :: l4 :: l5 :: l6 :: l7 :: l8 :: l9 :: la :: lt) (.null :: st) h Q := gk_astoreN hd hp hlt hok rfl k
theorem gk_iinc10 {n : Int} {x : Int32} (v : Int32) {l0 l1 l2 l3 l4 l5 l6 l7 l8 l9 : Option Value} {lt : List (Option Value)} (hd : decode M.2.1 pc = .ok (.iinc 10 n, 3)) (hp : pc + 3 = pc') (hv : Int32.ofInt n = v) (hlt : 10 < M.2.2.1) (hok : gk_ok (l0 :: l1 :: l2 :: l3 :: l4 :: l5 :: l6 :: l7 :: l8 :: l9 :: some (.int x) :: lt) 10 = true) (k : G K M d b pc' (l0 :: l1 :: l2 :: l3 :: l4 :: l5 :: l6 :: l7 :: l8 :: l9 :: some (.int (x + v)) :: lt) st h Q) : G K M d b pc (l0 :: l1 :: l2 :: l3 :: l4 :: l5 :: l6 :: l7 :: l8 :: l9 :: some (.int x) :: lt) st h Q := gk_iinc (x + v) hd hp rfl (by rw [hv]) hlt hok rfl k
theorem gk_iload11 {x : Int32} {l0 l1 l2 l3 l4 l5 l6 l7 l8 l9 l10 : Option Value} {lt : List (Option Value)} (hd : decode M.2.1 pc = .ok (.iload 11, 2)) (hp : pc + 2 = pc') (k : G K M d b pc' (l0 :: l1 :: l2 :: l3 :: l4 :: l5 :: l6 :: l7 :: l8 :: l9 :: l10 :: some (.int x) :: lt) (.int x :: st) h Q) : G K M d b pc (l0 :: l1 :: l2 :: l3 :: l4 :: l5 :: l6 :: l7 :: l8 :: l9 :: l10 :: some (.int x) :: lt) st h Q := gk_iload hd hp rfl k
theorem gk_istore11 {x : Int32} {l0 l1 l2 l3 l4 l5 l6 l7 l8 l9 l10 la : Option Value} {lt : List (Option Value)} (hd : decode M.2.1 pc = .ok (.istore 11, 2)) (hp : pc + 2 = pc') (hlt : 11 < M.2.2.1) (hok : gk_ok (l0 :: l1 :: l2 :: l3 :: l4 :: l5 :: l6 :: l7 :: l8 :: l9 :: l10 :: la :: lt) 11 = true) (k : G K M d b pc' (l0 :: l1 :: l2 :: l3 :: l4 :: l5 :: l6 :: l7 :: l8 :: l9 :: l10 :: some (.int x) :: lt) st h Q) : G K M d b pc (l0 :: l1 :: l2 :: l3 :: l4 :: l5 :: l6 :: l7 :: l8 :: l9 :: l10 :: la :: lt) (.int x :: st) h Q := gk_istore hd hp hlt hok rfl k
theorem gk_lload11 {x : Int64} {l0 l1 l2 l3 l4 l5 l6 l7 l8 l9 l10 : Option Value} {lt : List (Option Value)} (hd : decode M.2.1 pc = .ok (.lload 11, 2)) (hp : pc + 2 = pc') (k : G K M d b pc' (l0 :: l1 :: l2 :: l3 :: l4 :: l5 :: l6 :: l7 :: l8 :: l9 :: l10 :: some (.long x) :: lt) (.long x :: st) h Q) : G K M d b pc (l0 :: l1 :: l2 :: l3 :: l4 :: l5 :: l6 :: l7 :: l8 :: l9 :: l10 :: some (.long x) :: lt) st h Q := gk_lload hd hp rfl k
theorem gk_lstore11 {x : Int64} {l0 l1 l2 l3 l4 l5 l6 l7 l8 l9 l10 la lb : Option Value} {lt : List (Option Value)} (hd : decode M.2.1 pc = .ok (.lstore 11, 2)) (hp : pc + 2 = pc') (hlt : 12 < M.2.2.1) (hok : gk_ok (l0 :: l1 :: l2 :: l3 :: l4 :: l5 :: l6 :: l7 :: l8 :: l9 :: l10 :: la :: lb :: lt) 11 = true) (k : G K M d b pc' (l0 :: l1 :: l2 :: l3 :: l4 :: l5 :: l6 :: l7 :: l8 :: l9 :: l10 :: some (.long x) :: none :: lt) st h Q) : G K M d b pc (l0 :: l1 :: l2 :: l3 :: l4 :: l5 :: l6 :: l7 :: l8 :: l9 :: l10 :: la :: lb :: lt) (.long x :: st) h Q := gk_lstore hd hp hlt hok rfl k
theorem gk_aload11 {x : Nat} {l0 l1 l2 l3 l4 l5 l6 l7 l8 l9 l10 : Option Value} {lt : List (Option Value)} (hd : decode M.2.1 pc = .ok (.aload 11, 2)) (hp : pc + 2 = pc') (k : G K M d b pc' (l0 :: l1 :: l2 :: l3 :: l4 :: l5 :: l6 :: l7 :: l8 :: l9 :: l10 :: some (.ref x) :: lt) (.ref x :: st) h Q) : G K M d b pc (l0 :: l1 :: l2 :: l3 :: l4 :: l5 :: l6 :: l7 :: l8 :: l9 :: l10 :: some (.ref x) :: lt) st h Q := gk_aload hd hp rfl k
theorem gk_astore11 {x : Nat} {l0 l1 l2 l3 l4 l5 l6 l7 l8 l9 l10 la : Option Value} {lt : List (Option Value)} (hd : decode M.2.1 pc = .ok (.astore 11, 2)) (hp : pc + 2 = pc') (hlt : 11 < M.2.2.1) (hok : gk_ok (l0 :: l1 :: l2 :: l3 :: l4 :: l5 :: l6 :: l7 :: l8 :: l9 :: l10 :: la :: lt) 11 = true) (k : G K M d b pc' (l0 :: l1 :: l2 :: l3 :: l4 :: l5 :: l6 :: l7 :: l8 :: l9 :: l10 :: some (.ref x) :: lt) st h Q) : G K M d b pc (l0 :: l1 :: l2 :: l3 :: l4 :: l5 :: l6 :: l7 :: l8 :: l9 :: l10 :: la :: lt) (.ref x :: st) h Q := gk_astore hd hp hlt hok rfl k
theorem gk_aloadN11 {l0 l1 l2 l3 l4 l5 l6 l7 l8 l9 l10 : Option Value} {lt : List (Option Value)} (hd : decode M.2.1 pc = .ok (.aload 11, 2)) (hp : pc + 2 = pc') (k : G K M d b pc' (l0 :: l1 :: l2 :: l3 :: l4 :: l5 :: l6 :: l7 :: l8 :: l9 :: l10 :: some (.null) :: lt) (.null :: st) h Q) : G K M d b pc (l0 :: l1 :: l2 :: l3 :: l4 :: l5 :: l6 :: l7 :: l8 :: l9 :: l10 :: some (.null) :: lt) st h Q := gk_aloadN hd hp rfl k
theorem gk_astoreN11 {l0 l1 l2 l3 l4 l5 l6 l7 l8 l9 l10 la : Option Value} {lt : List (Option Value)} (hd : decode M.2.1 pc = .ok (.astore 11, 2)) (hp : pc + 2 = pc') (hlt : 11 < M.2.2.1) (hok : gk_ok (l0 :: l1 :: l2 :: l3 :: l4 :: l5 :: l6 :: l7 :: l8 :: l9 :: l10 :: la :: lt) 11 = true) (k : G K M d b pc' (l0 :: l1 :: l2 :: l3 :: l4 :: l5 :: l6 :: l7 :: l8 :: l9 :: l10 :: some (.null) :: lt) st h Q) : G K M d b pc (l0 :: l1 :: l2 :: l3 :: l4 :: l5 :: l6 :: l7 :: l8 :: l9 :: l10 :: la :: lt) (.null :: st) h Q := gk_astoreN hd hp hlt hok rfl k
theorem gk_iinc11 {n : Int} {x : Int32} (v : Int32) {l0 l1 l2 l3 l4 l5 l6 l7 l8 l9 l10 : Option Value} {lt : List (Option Value)} (hd : decode M.2.1 pc = .ok (.iinc 11 n, 3)) (hp : pc + 3 = pc') (hv : Int32.ofInt n = v) (hlt : 11 < M.2.2.1) (hok : gk_ok (l0 :: l1 :: l2 :: l3 :: l4 :: l5 :: l6 :: l7 :: l8 :: l9 :: l10 :: some (.int x) :: lt) 11 = true) (k : G K M d b pc' (l0 :: l1 :: l2 :: l3 :: l4 :: l5 :: l6 :: l7 :: l8 :: l9 :: l10 :: some (.int (x + v)) :: lt) st h Q) : G K M d b pc (l0 :: l1 :: l2 :: l3 :: l4 :: l5 :: l6 :: l7 :: l8 :: l9 :: l10 :: some (.int x) :: lt) st h Q := gk_iinc (x + v) hd hp rfl (by rw [hv]) hlt hok rfl k
theorem gk_iload12 {x : Int32} {l0 l1 l2 l3 l4 l5 l6 l7 l8 l9 l10 l11 : Option Value} {lt : List (Option Value)} (hd : decode M.2.1 pc = .ok (.iload 12, 2)) (hp : pc + 2 = pc') (k : G K M d b pc' (l0 :: l1 :: l2 :: l3 :: l4 :: l5 :: l6 :: l7 :: l8 :: l9 :: l10 :: l11 :: some (.int x) :: lt) (.int x :: st) h Q) : G K M d b pc (l0 :: l1 :: l2 :: l3 :: l4 :: l5 :: l6 :: l7 :: l8 :: l9 :: l10 :: l11 :: some (.int x) :: lt) st h Q := gk_iload hd hp rfl k
theorem gk_istore12 {x : Int32} {l0 l1 l2 l3 l4 l5 l6 l7 l8 l9 l10 l11 la : Option Value} {lt : List (Option Value)} (hd : decode M.2.1 pc = .ok (.istore 12, 2)) (hp : pc + 2 = pc') (hlt : 12 < M.2.2.1) (hok : gk_ok (l0 :: l1 :: l2 :: l3 :: l4 :: l5 :: l6 :: l7 :: l8 :: l9 :: l10 :: l11 :: la :: lt) 12 = true) (k : G K M d b pc' (l0 :: l1 :: l2 :: l3 :: l4 :: l5 :: l6 :: l7 :: l8 :: l9 :: l10 :: l11 :: some (.int x) :: lt) st h Q) : G K M d b pc (l0 :: l1 :: l2 :: l3 :: l4 :: l5 :: l6 :: l7 :: l8 :: l9 :: l10 :: l11 :: la :: lt) (.int x :: st) h Q := gk_istore hd hp hlt hok rfl k
theorem gk_lload12 {x : Int64} {l0 l1 l2 l3 l4 l5 l6 l7 l8 l9 l10 l11 : Option Value} {lt : List (Option Value)} (hd : decode M.2.1 pc = .ok (.lload 12, 2)) (hp : pc + 2 = pc') (k : G K M d b pc' (l0 :: l1 :: l2 :: l3 :: l4 :: l5 :: l6 :: l7 :: l8 :: l9 :: l10 :: l11 :: some (.long x) :: lt) (.long x :: st) h Q) : G K M d b pc (l0 :: l1 :: l2 :: l3 :: l4 :: l5 :: l6 :: l7 :: l8 :: l9 :: l10 :: l11 :: some (.long x) :: lt) st h Q := gk_lload hd hp rfl k
theorem gk_lstore12 {x : Int64} {l0 l1 l2 l3 l4 l5 l6 l7 l8 l9 l10 l11 la lb : Option Value} {lt : List (Option Value)} (hd : decode M.2.1 pc = .ok (.lstore 12, 2)) (hp : pc + 2 = pc') (hlt : 13 < M.2.2.1) (hok : gk_ok (l0 :: l1 :: l2 :: l3 :: l4 :: l5 :: l6 :: l7 :: l8 :: l9 :: l10 :: l11 :: la :: lb :: lt) 12 = true) (k : G K M d b pc' (l0 :: l1 :: l2 :: l3 :: l4 :: l5 :: l6 :: l7 :: l8 :: l9 :: l10 :: l11 :: some (.long x) :: none :: lt) st h Q) : G K M d b pc (l0 :: l1 :: l2 :: l3 :: l4 :: l5 :: l6 :: l7 :: l8 :: l9 :: l10 :: l11 :: la :: lb :: lt) (.long x :: st) h Q := gk_lstore hd hp hlt hok rfl k
theorem gk_aload12 {x : Nat} {l0 l1 l2 l3 l4 l5 l6 l7 l8 l9 l10 l11 : Option Value} {lt : List (Option Value)} (hd : decode M.2.1 pc = .ok (.aload 12, 2)) (hp : pc + 2 = pc') (k : G K M d b pc' (l0 :: l1 :: l2 :: l3 :: l4 :: l5 :: l6 :: l7 :: l8 :: l9 :: l10 :: l11 :: some (.ref x) :: lt) (.ref x :: st) h Q) : G K M d b pc (l0 :: l1 :: l2 :: l3 :: l4 :: l5 :: l6 :: l7 :: l8 :: l9 :: l10 :: l11 :: some (.ref x) :: lt) st h Q := gk_aload hd hp rfl k
theorem gk_astore12 {x : Nat} {l0 l1 l2 l3 l4 l5 l6 l7 l8 l9 l10 l11 la : Option Value} {lt : List (Option Value)} (hd : decode M.2.1 pc = .ok (.astore 12, 2)) (hp : pc + 2 = pc') (hlt : 12 < M.2.2.1) (hok : gk_ok (l0 :: l1 :: l2 :: l3 :: l4 :: l5 :: l6 :: l7 :: l8 :: l9 :: l10 :: l11 :: la :: lt) 12 = true) (k : G K M d b pc' (l0 :: l1 :: l2 :: l3 :: l4 :: l5 :: l6 :: l7 :: l8 :: l9 :: l10 :: l11 :: some (.ref x) :: lt) st h Q) : G K M d b pc (l0 :: l1 :: l2 :: l3 :: l4 :: l5 :: l6 :: l7 :: l8 :: l9 :: l10 :: l11 :: la :: lt) (.ref x :: st) h Q := gk_astore hd hp hlt hok rfl k
theorem gk_aloadN12 {l0 l1 l2 l3 l4 l5 l6 l7 l8 l9 l10 l11 : Option Value} {lt : List (Option Value)} (hd : decode M.2.1 pc = .ok (.aload 12, 2)) (hp : pc + 2 = pc') (k : G K M d b pc' (l0 :: l1 :: l2 :: l3 :: l4 :: l5 :: l6 :: l7 :: l8 :: l9 :: l10 :: l11 :: some (.null) :: lt) (.null :: st) h Q) : G K M d b pc (l0 :: l1 :: l2 :: l3 :: l4 :: l5 :: l6 :: l7 :: l8 :: l9 :: l10 :: l11 :: some (.null) :: lt) st h Q := gk_aloadN hd hp rfl k
theorem gk_astoreN12 {l0 l1 l2 l3 l4 l5 l6 l7 l8 l9 l10 l11 la : Option Value} {lt : List (Option Value)} (hd : decode M.2.1 pc = .ok (.astore 12, 2)) (hp : pc + 2 = pc') (hlt : 12 < M.2.2.1) (hok : gk_ok (l0 :: l1 :: l2 :: l3 :: l4 :: l5 :: l6 :: l7 :: l8 :: l9 :: l10 :: l11 :: la :: lt) 12 = true) (k : G K M d b pc' (l0 :: l1 :: l2 :: l3 :: l4 :: l5 :: l6 :: l7 :: l8 :: l9 :: l10 :: l11 :: some (.null) :: lt) st h Q) : G K M d b pc (l0 :: l1 :: l2 :: l3 :: l4 :: l5 :: l6 :: l7 :: l8 :: l9 :: l10 :: l11 :: la :: lt) (.null :: st) h Q := gk_astoreN hd hp hlt hok rfl k
theorem gk_iinc12 {n : Int} {x : Int32} (v : Int32) {l0 l1 l2 l3 l4 l5 l6 l7 l8 l9 l10 l11 : Option Value} {lt : List (Option Value)} (hd : decode M.2.1 pc = .ok (.iinc 12 n, 3)) (hp : pc + 3 = pc') (hv : Int32.ofInt n = v) (hlt : 12 < M.2.2.1) (hok : gk_ok (l0 :: l1 :: l2 :: l3 :: l4 :: l5 :: l6 :: l7 :: l8 :: l9 :: l10 :: l11 :: some (.int x) :: lt) 12 = true) (k : G K M d b pc' (l0 :: l1 :: l2 :: l3 :: l4 :: l5 :: l6 :: l7 :: l8 :: l9 :: l10 :: l11 :: some (.int (x + v)) :: lt) st h Q) : G K M d b pc (l0 :: l1 :: l2 :: l3 :: l4 :: l5 :: l6 :: l7 :: l8 :: l9 :: l10 :: l11 :: some (.int x) :: lt) st h Q := gk_iinc (x + v) hd hp rfl (by rw [hv]) hlt hok rfl k
theorem gk_iload13 {x : Int32} {l0 l1 l2 l3 l4 l5 l6 l7 l8 l9 l10 l11 l12 : Option Value} {lt : List (Option Value)} (hd : decode M.2.1 pc = .ok (.iload 13, 2)) (hp : pc + 2 = pc') (k : G K M d b pc' (l0 :: l1 :: l2 :: l3 :: l4 :: l5 :: l6 :: l7 :: l8 :: l9 :: l10 :: l11 :: l12 :: some (.int x) :: lt) (.int x :: st) h Q) : G K M d b pc (l0 :: l1 :: l2 :: l3 :: l4 :: l5 :: l6 :: l7 :: l8 :: l9 :: l10 :: l11 :: l12 :: some (.int x) :: lt) st h Q := gk_iload hd hp rfl k
theorem gk_istore13 {x : Int32} {l0 l1 l2 l3 l4 l5 l6 l7 l8 l9 l10 l11 l12 la : Option Value} {lt : List (Option Value)} (hd : decode M.2.1 pc = .ok (.istore 13, 2)) (hp : pc + 2 = pc') (hlt : 13 < M.2.2.1) (hok : gk_ok (l0 :: l1 :: l2 :: l3 :: l4 :: l5 :: l6 :: l7 :: l8 :: l9 :: l10 :: l11 :: l12 :: la :: lt) 13 = true) (k : G K M d b pc' (l0 :: l1 :: l2 :: l3 :: l4 :: l5 :: l6 :: l7 :: l8 :: l9 :: l10 :: l11 :: l12 :: some (.int x) :: lt) st h Q) : G K M d b pc (l0 :: l1 :: l2 :: l3 :: l4 :: l5 :: l6 :: l7 :: l8 :: l9 :: l10 :: l11 :: l12 :: la :: lt) (.int x :: st) h Q := gk_istore hd hp hlt hok rfl k
theorem gk_lload13 {x : Int64} {l0 l1 l2 l3 l4 l5 l6 l7 l8 l9 l10 l11 l12 : Option Value} {lt : List (Option Value)} (hd : decode M.2.1 pc = .ok (.lload 13, 2)) (hp : pc + 2 = pc') (k : G K M d b pc' (l0 :: l1 :: l2 :: l3 :: l4 :: l5 :: l6 :: l7 :: l8 :: l9 :: l10 :: l11 :: l12 :: some (.long x) :: lt) (.long x :: st) h Q) : G K M d b pc (l0 :: l1 :: l2 :: l3 :: l4 :: l5 :: l6 :: l7 :: l8 :: l9 :: l10 :: l11 :: l12 :: some (.long x) :: lt) st h Q := gk_lload hd hp rfl k
theorem gk_lstore13 {x : Int64} {l0 l1 l2 l3 l4 l5 l6 l7 l8 l9 l10 l11 l12 la lb : Option Value} {lt : List (Option Value)} (hd : decode M.2.1 pc = .ok (.lstore 13, 2)) (hp : pc + 2 = pc') (hlt : 14 < M.2.2.1) (hok : gk_ok (l0 :: l1 :: l2 :: l3 :: l4 :: l5 :: l6 :: l7 :: l8 :: l9 :: l10 :: l11 :: l12 :: la :: lb :: lt) 13 = true) (k : G K M d b pc' (l0 :: l1 :: l2 :: l3 :: l4 :: l5 :: l6 :: l7 :: l8 :: l9 :: l10 :: l11 :: l12 :: some (.long x) :: none :: lt) st h Q) : G K M d b pc (l0 :: l1 :: l2 :: l3 :: l4 :: l5 :: l6 :: l7 :: l8 :: l9 :: l10 :: l11 :: l12 :: la :: lb :: lt) (.long x :: st) h Q := gk_lstore hd hp hlt hok rfl k
theorem gk_aload13 {x : Nat} {l0 l1 l2 l3 l4 l5 l6 l7 l8 l9 l10 l11 l12 : Option Value} {lt : List (Option Value)} (hd : decode M.2.1 pc = .ok (.aload 13, 2)) (hp : pc + 2 = pc') (k : G K M d b pc' (l0 :: l1 :: l2 :: l3 :: l4 :: l5 :: l6 :: l7 :: l8 :: l9 :: l10 :: l11 :: l12 :: some (.ref x) :: lt) (.ref x :: st) h Q) : G K M d b pc (l0 :: l1 :: l2 :: l3 :: l4 :: l5 :: l6 :: l7 :: l8 :: l9 :: l10 :: l11 :: l12 :: some (.ref x) :: lt) st h Q := gk_aload hd hp rfl k
theorem gk_astore13 {x : Nat} {l0 l1 l2 l3 l4 l5 l6 l7 l8 l9 l10 l11 l12 la : Option Value} {lt : List (Option Value)} (hd : decode M.2.1 pc = .ok (.astore 13, 2)) (hp : pc + 2 = pc') (hlt : 13 < M.2.2.1) (hok : gk_ok (l0 :: l1 :: l2 :: l3 :: l4 :: l5 :: l6 :: l7 :: l8 :: l9 :: l10 :: l11 :: l12 :: la :: lt) 13 = true) (k : G K M d b pc' (l0 :: l1 :: l2 :: l3 :: l4 :: l5 :: l6 :: l7 :: l8 :: l9 :: l10 :: l11 :: l12 :: some (.ref x) :: lt) st h Q) : G K M d b pc (l0 :: l1 :: l2 :: l3 :: l4 :: l5 :: l6 :: l7 :: l8 :: l9 :: l10 :: l11 :: l12 :: la :: lt) (.ref x :: st) h Q := gk_astore hd hp hlt hok rfl k
theorem gk_aloadN13 {l0 l1 l2 l3 l4 l5 l6 l7 l8 l9 l10 l11 l12 : Option Value} {lt : List (Option Value)} (hd : decode M.2.1 pc = .ok (.aload 13, 2)) (hp : pc + 2 = pc') (k : G K M d b pc' (l0 :: l1 :: l2 :: l3 :: l4 :: l5 :: l6 :: l7 :: l8 :: l9 :: l10 :: l11 :: l12 :: some (.null) :: lt) (.null :: st) h Q) : G K M d b pc (l0 :: l1 :: l2 :: l3 :: l4 :: l5 :: l6 :: l7 :: l8 :: l9 :: l10 :: l11 :: l12 :: some (.null) :: lt) st h Q := gk_aloadN hd hp rfl k
theorem gk_astoreN13 {l0 l1 l2 l3 l4 l5 l6 l7 l8 l9 l10 l11 l12 la : Option Value} {lt : List (Option Value)} (hd : decode M.2.1 pc = .ok (.astore 13, 2)) (hp : pc + 2 = pc') (hlt : 13 < M.2.2.1) (hok : gk_ok (l0 :: l1 :: l2 :: l3 :: l4 :: l5 :: l6 :: l7 :: l8 :: l9 :: l10 :: l11 :: l12 :: la :: lt) 13 = true) (k : G K M d b pc' (l0 :: l1 :: l2 :: l3 :: l4 :: l5 :: l6 :: l7 :: l8 :: l9 :: l10 :: l11 :: l12 :: some (.null) :: lt) st h Q) : G K M d b pc (l0 :: l1 :: l2 :: l3 :: l4 :: l5 :: l6 :: l7 :: l8 :: l9 :: l10 :: l11 :: l12 :: la :: lt) (.null :: st) h Q := gk_astoreN hd hp hlt hok rfl k
theorem gk_iinc13 {n : Int} {x : Int32} (v : Int32) {l0 l1 l2 l3 l4 l5 l6 l7 l8 l9 l10 l11 l12 : Option Value} {lt : List (Option Value)} (hd : decode M.2.1 pc = .ok (.iinc 13 n, 3)) (hp : pc + 3 = pc') (hv : Int32.ofInt n = v) (hlt : 13 < M.2.2.1) (hok : gk_ok (l0 :: l1 :: l2 :: l3 :: l4 :: l5 :: l6 :: l7 :: l8 :: l9 :: l10 :: l11 :: l12 :: some (.int x) :: lt) 13 = true) (k : G K M d b pc' (l0 :: l1 :: l2 :: l3 :: l4 :: l5 :: l6 :: l7 :: l8 :: l9 :: l10 :: l11 :: l12 :: some (.int (x + v)) :: lt) st h Q) : G K M d b pc (l0 :: l1 :: l2 :: l3 :: l4 :: l5 :: l6 :: l7 :: l8 :: l9 :: l10 :: l11 :: l12 :: some (.int x) :: lt) st h Q := gk_iinc (x + v) hd hp rfl (by rw [hv]) hlt hok rfl k
theorem gk_iload14 {x : Int32} {l0 l1 l2 l3 l4 l5 l6 l7 l8 l9 l10 l11 l12 l13 : Option Value} {lt : List (Option Value)} (hd : decode M.2.1 pc = .ok (.iload 14, 2)) (hp : pc + 2 = pc') (k : G K M d b pc' (l0 :: l1 :: l2 :: l3 :: l4 :: l5 :: l6 :: l7 :: l8 :: l9 :: l10 :: l11 :: l12 :: l13 :: some (.int x) :: lt) (.int x :: st) h Q) : G K M d b pc (l0 :: l1 :: l2 :: l3 :: l4 :: l5 :: l6 :: l7 :: l8 :: l9 :: l10 :: l11 :: l12 :: l13 :: some (.int x) :: lt) st h Q := gk_iload hd hp rfl k
theorem gk_istore14 {x : Int32} {l0 l1 l2 l3 l4 l5 l6 l7 l8 l9 l10 l11 l12 l13 la : Option Value} {lt : List (Option Value)} (hd : decode M.2.1 pc = .ok (.istore 14, 2)) (hp : pc + 2 = pc') (hlt : 14 < M.2.2.1) (hok : gk_ok (l0 :: l1 :: l2 :: l3 :: l4 :: l5 :: l6 :: l7 :: l8 :: l9 :: l10 :: l11 :: l12 :: l13 :: la :: lt) 14 = true) (k : G K M d b pc' (l0 :: l1 :: l2 :: l3 :: l4 :: l5 :: l6 :: l7 :: l8 :: l9 :: l10 :: l11 :: l12 :: l13 :: some (.int x) :: lt) st h Q) : G K M d b pc (l0 :: l1 :: l2 :: l3 :: l4 :: l5 :: l6 :: l7 :: l8 :: l9 :: l10 :: l11 :: l12 :: l13 :: la :: lt) (.int x :: st) h Q := gk_istore hd hp hlt hok rfl k
theorem gk_lload14 {x : Int64} {l0 l1 l2 l3 l4 l5 l6 l7 l8 l9 l10 l11 l12 l13 : Option Value} {lt : List (Option Value)} (hd : decode M.2.1 pc = .ok (.lload 14, 2)) (hp : pc + 2 = pc') (k : G K M d b pc' (l0 :: l1 :: l2 :: l3 :: l4 :: l5 :: l6 :: l7 :: l8 :: l9 :: l10 :: l11 :: l12 :: l13 :: some (.long x) :: lt) (.long x :: st) h Q) : G K M d b pc (l0 :: l1 :: l2 :: l3 :: l4 :: l5 :: l6 :: l7 :: l8 :: l9 :: l10 :: l11 :: l12 :: l13 :: some (.long x) :: lt) st h Q := gk_lload hd hp rfl k
theorem gk_lstore14 {x : Int64} {l0 l1 l2 l3 l4 l5 l6 l7 l8 l9 l10 l11 l12 l13 la lb : Option Value} {lt : List (Option Value)} (hd : decode M.2.1 pc = .ok (.lstore 14, 2)) (hp : pc + 2 = pc') (hlt : 15 < M.2.2.1) (hok : gk_ok (l0 :: l1 :: l2 :: l3 :: l4 :: l5 :: l6 :: l7 :: l8 :: l9 :: l10 :: l11 :: l12 :: l13 :: la :: lb :: lt) 14 = true) (k : G K M d b pc' (l0 :: l1 :: l2 :: l3 :: l4 :: l5 :: l6 :: l7 :: l8 :: l9 :: l10 :: l11 :: l12 :: l13 :: some (.long x) :: none :: lt) st h Q) : G K M d b pc (l0 :: l1 :: l2 :: l3 :: l4 :: l5 :: l6 :: l7 :: l8 :: l9 :: l10 :: l11 :: l12 :: l13 :: la :: lb :: lt) (.long x :: st) h Q := gk_lstore hd hp hlt hok rfl k
theorem gk_aload14 {x : Nat} {l0 l1 l2 l3 l4 l5 l6 l7 l8 l9 l10 l11 l12 l13 : Option Value} {lt : List (Option Value)} (hd : decode M.2.1 pc = .ok (.aload 14, 2)) (hp : pc + 2 = pc') (k : G K M d b pc' (l0 :: l1 :: l2 :: l3 :: l4 :: l5 :: l6 :: l7 :: l8 :: l9 :: l10 :: l11 :: l12 :: l13 :: some (.ref x) :: lt) (.ref x :: st) h Q) : G K M d b pc (l0 :: l1 :: l2 :: l3 :: l4 :: l5 :: l6 :: l7 :: l8 :: l9 :: l10 :: l11 :: l12 :: l13 :: some (.ref x) :: lt) st h Q := gk_aload hd hp rfl k
theorem gk_astore14 {x : Nat} {l0 l1 l2 l3 l4 l5 l6 l7 l8 l9 l10 l11 l12 l13 la : Option Value} {lt : List (Option Value)} (hd : decode M.2.1 pc = .ok (.astore 14, 2)) (hp : pc + 2 = pc') (hlt : 14 < M.2.2.1) (hok : gk_ok (l0 :: l1 :: l2 :: l3 :: l4 :: l5 :: l6 :: l7 :: l8 :: l9 :: l10 :: l11 :: l12 :: l13 :: la :: lt) 14 = true) (k : G K M d b pc' (l0 :: l1 :: l2 :: l3 :: l4 :: l5 :: l6 :: l7 :: l8 :: l9 :: l10 :: l11 :: l12 :: l13 :: some (.ref x) :: lt) st h Q) : G K M d b pc (l0 :: l1 :: l2 :: l3 :: l4 :: l5 :: l6 :: l7 :: l8 :: l9 :: l10 :: l11 :: l12 :: l13 :: la :: lt) (.ref x :: st) h Q := gk_astore hd hp hlt hok rfl k
theorem gk_aloadN14 {l0 l1 l2 l3 l4 l5 l6 l7 l8 l9 l10 l11 l12 l13 : Option Value} {lt : List (Option Value)} (hd : decode M.2.1 pc = .ok (.aload 14, 2)) (hp : pc + 2 = pc') (k : G K M d b pc' (l0 :: l1 :: l2 :: l3 :: l4 :: l5 :: l6 :: l7 :: l8 :: l9 :: l10 :: l11 :: l12 :: l13 :: some (.null) :: lt) (.null :: st) h Q) : G K M d b pc (l0 :: l1 :: l2 :: l3 :: l4 :: l5 :: l6 :: l7 :: l8 :: l9 :: l10 :: l11 :: l12 :: l13 :: some (.null) :: lt) st h Q := gk_aloadN hd hp rfl k
theorem gk_astoreN14 {l0 l1 l2 l3 l4 l5 l6 l7 l8 l9 l10 l11 l12 l13 la : Option Value} {lt : List (Option Value)} (hd : decode M.2.1 pc = .ok (.astore 14, 2)) (hp : pc + 2 = pc') (hlt : 14 < M.2.2.1) (hok : gk_ok (l0 :: l1 :: l2 :: l3 :: l4 :: l5 :: l6 :: l7 :: l8 :: l9 :: l10 :: l11 :: l12 :: l13 :: la :: lt) 14 = true) (k : G K M d b pc' (l0 :: l1 :: l2 :: l3 :: l4 :: l5 :: l6 :: l7 :: l8 :: l9 :: l10 :: l11 :: l12 :: l13 :: some (.null) :: lt) st h Q) : G K M d b pc (l0 :: l1 :: l2 :: l3 :: l4 :: l5 :: l6 :: l7 :: l8 :: l9 :: l10 :: l11 :: l12 :: l13 :: la :: lt) (.null :: st) h Q := gk_astoreN hd hp hlt hok rfl k
theorem gk_iinc14 {n : Int} {x : Int32} (v : Int32) {l0 l1 l2 l3 l4 l5 l6 l7 l8 l9 l10 l11 l12 l13 : Option Value} {lt : List (Option Value)} (hd : decode M.2.1 pc = .ok (.iinc 14 n, 3)) (hp : pc + 3 = pc') (hv : Int32.ofInt n = v) (hlt : 14 < M.2.2.1) (hok : gk_ok (l0 :: l1 :: l2 :: l3 :: l4 :: l5 :: l6 :: l7 :: l8 :: l9 :: l10 :: l11 :: l12 :: l13 :: some (.int x) :: lt) 14 = true) (k : G K M d b pc' (l0 :: l1 :: l2 :: l3 :: l4 :: l5 :: l6 :: l7 :: l8 :: l9 :: l10 :: l11 :: l12 :: l13 :: some (.int (x + v)) :: lt) st h Q) : G K M d b pc (l0 :: l1 :: l2 :: l3 :: l4 :: l5 :: l6 :: l7 :: l8 :: l9 :: l10 :: l11 :: l12 :: l13 :: some (.int x) :: lt) st h Q := gk_iinc (x + v) hd hp rfl (by rw [hv]) hlt hok rfl k
theorem gk_iload15 {x : Int32} {l0 l1 l2 l3 l4 l5 l6 l7 l8 l9 l10 l11 l12 l13 l14 : Option Value} {lt : List (Option Value)} (hd : decode M.2.1 pc = .ok (.iload 15, 2)) (hp : pc + 2 = pc') (k : G K M d b pc' (l0 :: l1 :: l2 :: l3 :: l4 :: l5 :: l6 :: l7 :: l8 :: l9 :: l10 :: l11 :: l12 :: l13 :: l14 :: some (.int x) :: lt) (.int x :: st) h Q) : G K M d b pc (l0 :: l1 :: l2 :: l3 :: l4 :: l5 :: l6 :: l7 :: l8 :: l9 :: l10 :: l11 :: l12 :: l13 :: l14 :: some (.int x) :: lt) st h Q := gk_iload hd hp rfl k
theorem gk_istore15 {x : Int32} {l0 l1 l2 l3 l4 l5 l6 l7 l8 l9 l10 l11 l12 l13 l14 la : Option Value} {lt : List (Option Value)} (hd : decode M.2.1 pc = .ok (.istore 15, 2)) (hp : pc + 2 = pc') (hlt : 15 < M.2.2.1) (hok : gk_ok (l0 :: l1 :: l2 :: l3 :: l4 :: l5 :: l6 :: l7 :: l8 :: l9 :: l10 :: l11 :: l12 :: l13 :: l14 :: la :: lt) 15 = true) (k : G K M d b pc' (l0 :: l1 :: l2 :: l3 :: l4 :: l5 :: l6 :: l7 :: l8 :: l9 :: l10 :: l11 :: l12 :: l13 :: l14 :: some (.int x) :: lt) st h Q) : G K M d b pc (l0 :: l1 :: l2 :: l3 :: l4 :: l5 :: l6 :: l7 :: l8 :: l9 :: l10 :: l11 :: l12 :: l13 :: l14 :: la :: lt) (.int x :: st) h Q := gk_istore hd hp hlt hok rfl k
theorem gk_lload15 {x : Int64} {l0 l1 l2 l3 l4 l5 l6 l7 l8 l9 l10 l11 l12 l13 l14 : Option Value} {lt : List (Option Value)} (hd : decode M.2.1 pc = .ok (.lload 15, 2)) (hp : pc + 2 = pc') (k : G K M d b pc' (l0 :: l1 :: l2 :: l3 :: l4 :: l5 :: l6 :: l7 :: l8 :: l9 :: l10 :: l11 :: l12 :: l13 :: l14 :: some (.long x) :: lt) (.long x :: st) h Q) : G K M d b pc (l0 :: l1 :: l2 :: l3 :: l4 :: l5 :: l6 :: l7 :: l8 :: l9 :: l10 :: l11 :: l12 :: l13 :: l14 :: some (.long x) :: lt) st h Q := gk_lload hd hp rfl k
theorem gk_lstore15 {x : Int64} {l0 l1 l2 l3 l4 l5 l6 l7 l8 l9 l10 l11 l12 l13 l14 la lb : Option Value} {lt : List (Option Value)} (hd : decode M.2.1 pc = .ok (.lstore 15, 2)) (hp : pc + 2 = pc') (hlt : 16 < M.2.2.1) (hok : gk_ok (l0 :: l1 :: l2 :: l3 :: l4 :: l5 :: l6 :: l7 :: l8 :: l9 :: l10 :: l11 :: l12 :: l13 :: l14 :: la :: lb :: lt) 15 = true) (k : G K M d b pc' (l0 :: l1 :: l2 :: l3 :: l4 :: l5 :: l6 :: l7 :: l8 :: l9 :: l10 :: l11 :: l12 :: l13 :: l14 :: some (.long x) :: none :: lt) st h Q) : G K M d b pc (l0 :: l1 :: l2 :: l3 :: l4 :: l5 :: l6 :: l7 :: l8 :: l9 :: l10 :: l11 :: l12 :: l13 :: l14 :: la :: lb :: lt) (.long x :: st) h Q := gk_lstore hd hp hlt hok rfl k
theorem gk_aload15 {x : Nat} {l0 l1 l2 l3 l4 l5 l6 l7 l8 l9 l10 l11 l12 l13 l14 : Option Value} {lt : List (Option Value)} (hd : decode M.2.1 pc = .ok (.aload 15, 2)) (hp : pc + 2 = pc') (k : G K M d b pc' (l0 :: l1 :: l2 :: l3 :: l4 :: l5 :: l6 :: l7 :: l8 :: l9 :: l10 :: l11 :: l12 :: l13 :: l14 :: some (.ref x) :: lt) (.ref x :: st) h Q) : G K M d b pc (l0 :: l1 :: l2 :: l3 :: l4 :: l5 :: l6 :: l7 :: l8 :: l9 :: l10 :: l11 :: l12 :: l13 :: l14 :: some (.ref x) :: lt) st h Q := gk_aload hd hp rfl k
theorem gk_astore15 {x : Nat} {l0 l1 l2 l3 l4 l5 l6 l7 l8 l9 l10 l11 l12 l13 l14 la : Option Value} {lt : List (Option Value)} (hd : decode M.2.1 pc = .ok (.astore 15, 2)) (hp : pc + 2 = pc') (hlt : 15 < M.2.2.1) (hok : gk_ok (l0 :: l1 :: l2 :: l3 :: l4 :: l5 :: l6 :: l7 :: l8 :: l9 :: l10 :: l11 :: l12 :: l13 :: l14 :: la :: lt) 15 = true) (k : G K M d b pc' (l0 :: l1 :: l2 :: l3 :: l4 :: l5 :: l6 :: l7 :: l8 :: l9 :: l10 :: l11 :: l12 :: l13 :: l14 :: some (.ref x) :: lt) st h Q) : G K M d b pc (l0 :: l1 :: l2 :: l3 :: l4 :: l5 :: l6 :: l7 :: l8 :: l9 :: l10 :: l11 :: l12 :: l13 :: l14 :: la :: lt) (.ref x :: st) h Q := gk_astore hd hp hlt hok rfl k
theorem gk_aloadN15 {l0 l1 l2 l3 l4 l5 l6 l7 l8 l9 l10 l11 l12 l13 l14 : Option Value} {lt : List (Option Value)} (hd : decode M.2.1 pc = .ok (.aload 15, 2)) (hp : pc + 2 = pc') (k : G K M d b pc' (l0 :: l1 :: l2 :: l3 :: l4 :: l5 :: l6 :: l7 :: l8 :: l9 :: l10 :: l11 :: l12 :: l13 :: l14 :: some (.null) :: lt) (.null :: st) h Q) : G K M d b pc (l0 :: l1 :: l2 :: l3 :: l4 :: l5 :: l6 :: l7 :: l8 :: l9 :: l10 :: l11 :: l12 :: l13 :: l14 :: some (.null) :: lt) st h Q := gk_aloadN hd hp rfl k
theorem gk_astoreN15 {l0 l1 l2 l3 l4 l5 l6 l7 l8 l9 l10 l11 l12 l13 l14 la : Option Value} {lt : List (Option Value)} (hd : decode M.2.1 pc = .ok (.astore 15, 2)) (hp : pc + 2 = pc') (hlt : 15 < M.2.2.1) (hok : gk_ok (l0 :: l1 :: l2 :: l3 :: l4 :: l5 :: l6 :: l7 :: l8 :: l9 :: l10 :: l11 :: l12 :: l13 :: l14 :: la :: lt) 15 = true) (k : G K M d b pc' (l0 :: l1 :: l2 :: l3 :: l4 :: l5 :: l6 :: l7 :: l8 :: l9 :: l10 :: l11 :: l12 :: l13 :: l14 :: some (.null) :: lt) st h Q) : G K M d b pc (l0 :: l1 :: l2 :: l3 :: l4 :: l5 :: l6 :: l7 :: l8 :: l9 :: l10 :: l11 :: l12 :: l13 :: l14 :: la :: lt) (.null :: st) h Q := gk_astoreN hd hp hlt hok rfl k
theorem gk_iinc15 {n : Int} {x : Int32} (v : Int32) {l0 l1 l2 l3 l4 l5 l6 l7 l8 l9 l10 l11 l12 l13 l14 : Option Value} {lt : List (Option Value)} (hd : decode M.2.1 pc = .ok (.iinc 15 n, 3)) (hp : pc + 3 = pc') (hv : Int32.ofInt n = v) (hlt : 15 < M.2.2.1) (hok : gk_ok (l0 :: l1 :: l2 :: l3 :: l4 :: l5 :: l6 :: l7 :: l8 :: l9 :: l10 :: l11 :: l12 :: l13 :: l14 :: some (.int x) :: lt) 15 = true) (k : G K M d b pc' (l0 :: l1 :: l2 :: l3 :: l4 :: l5 :: l6 :: l7 :: l8 :: l9 :: l10 :: l11 :: l12 :: l13 :: l14 :: some (.int (x + v)) :: lt) st h Q) : G K M d b pc (l0 :: l1 :: l2 :: l3 :: l4 :: l5 :: l6 :: l7 :: l8 :: l9 :: l10 :: l11 :: l12 :: l13 :: l14 :: some (.int x) :: lt) st h Q := gk_iinc (x + v) hd hp rfl (by rw [hv]) hlt hok rfl k
def gk_V (M' : gk_M) (n ci : Nat) : Prop := gk_S M' n ∧ Cond.instanceMethod M'.1 ∈ gk_good ∧ Cond.selects M'.1.cls M'.1 M'.1 ∈ gk_good ∧ ∃ (T : u_T) (N : Nat), vwCl[ci]? = some (M'.1.cls, T, N)
def gk_St (M' : gk_M) (n : Nat) : Prop := gk_S M' n ∧ Cond.static M'.1 ∈ gk_good
def gk_I (M' : gk_M) (n : Nat) : Prop := gk_S M' n ∧ M'.2.2.2.1 = none ∧ Cond.instanceMethod M'.1 ∈ gk_good ∧ M'.1.name = "<init>" 
theorem gk_cV0_0 {idx ci a : Nat} {fs : List Value} (hv : gk_V M' 0 ci) (hl : Cond.methodLink M.1.cls idx M'.1 ∈ gk_good) (hd : decode M.2.1 pc = .ok (.invokevirtual idx, 3)) (hp : pc + 3 = pc') (hw : (rest.map fun v => v.category).sum ≤ 8) (ha : h.1 a = some (.inr (ci, fs))) (k : Gm K M' d (0, 0) (.ref a :: []) h (fun v h' => v = none ∧ G K M (d + 1) b pc' L rest h' Q)) : G K M (d + 1) b pc L (.ref a :: rest) h Q := gk_callV0 (b' := (0, 0)) (b2 := b) (As := []) hv.1 hl hv.2.1 hv.2.2.1 hv.2.2.2 ha hd hp rfl rfl hw (by simp) (by simp) k
theorem gk_cS0_0 {idx : Nat} (hv : gk_St M' 0) (hl : Cond.methodLink M.1.cls idx M'.1 ∈ gk_good) (hd : decode M.2.1 pc = .ok (.invokestatic idx, 3)) (hp : pc + 3 = pc') (hw : (rest.map fun v => v.category).sum ≤ 8) (k : Gm K M' d (0, 0) [] h (fun v h' => v = none ∧ G K M (d + 1) b pc' L rest h' Q)) : G K M (d + 1) b pc L (rest) h Q := gk_callS0 (b' := (0, 0)) (b2 := b) (As := []) hv.1 hl hv.2 hd hp rfl rfl hw (by simp) (by simp) k
theorem gk_cSN0_0 {idx : Nat} {host : String} (hv : gk_St M' 0) (hl : (M.1.cls, idx, M'.1, host) ∈ gk_nest) (hd : decode M.2.1 pc = .ok (.invokestatic idx, 3)) (hp : pc + 3 = pc') (hw : (rest.map fun v => v.category).sum ≤ 8) (k : Gm K M' d (0, 0) [] h (fun v h' => v = none ∧ G K M (d + 1) b pc' L rest h' Q)) : G K M (d + 1) b pc L (rest) h Q := gk_callSN0 (b' := (0, 0)) (b2 := b) (As := []) hv.1 hl hv.2 hd hp rfl rfl hw (by simp) (by simp) k
theorem gk_cV1_0 {idx ci a : Nat} {fs : List Value} (hv : gk_V M' 0 ci) (hl : Cond.methodLink M.1.cls idx M'.1 ∈ gk_good) (hd : decode M.2.1 pc = .ok (.invokevirtual idx, 3)) (hp : pc + 3 = pc') (hw : (rest.map fun v => v.category).sum ≤ 8) (ha : h.1 a = some (.inr (ci, fs))) (k : Gm K M' d (0, 0) (.ref a :: []) h (fun v h' => ∃ r : Value, v = some r ∧ G K M (d + 1) b pc' L (r :: rest) h' Q)) : G K M (d + 1) b pc L (.ref a :: rest) h Q := gk_callV1 (b' := (0, 0)) (b2 := b) (As := []) hv.1 hl hv.2.1 hv.2.2.1 hv.2.2.2 ha hd hp rfl rfl hw (by simp) (by simp) k
theorem gk_cS1_0 {idx : Nat} (hv : gk_St M' 0) (hl : Cond.methodLink M.1.cls idx M'.1 ∈ gk_good) (hd : decode M.2.1 pc = .ok (.invokestatic idx, 3)) (hp : pc + 3 = pc') (hw : (rest.map fun v => v.category).sum ≤ 8) (k : Gm K M' d (0, 0) [] h (fun v h' => ∃ r : Value, v = some r ∧ G K M (d + 1) b pc' L (r :: rest) h' Q)) : G K M (d + 1) b pc L (rest) h Q := gk_callS1 (b' := (0, 0)) (b2 := b) (As := []) hv.1 hl hv.2 hd hp rfl rfl hw (by simp) (by simp) k
theorem gk_cSN1_0 {idx : Nat} {host : String} (hv : gk_St M' 0) (hl : (M.1.cls, idx, M'.1, host) ∈ gk_nest) (hd : decode M.2.1 pc = .ok (.invokestatic idx, 3)) (hp : pc + 3 = pc') (hw : (rest.map fun v => v.category).sum ≤ 8) (k : Gm K M' d (0, 0) [] h (fun v h' => ∃ r : Value, v = some r ∧ G K M (d + 1) b pc' L (r :: rest) h' Q)) : G K M (d + 1) b pc L (rest) h Q := gk_callSN1 (b' := (0, 0)) (b2 := b) (As := []) hv.1 hl hv.2 hd hp rfl rfl hw (by simp) (by simp) k
theorem gk_cVb1_0 {idx ci a : Nat} {fs : List Value} (hv : gk_V M' 0 ci) (hl : Cond.methodLink M.1.cls idx M'.1 ∈ gk_good) (hd : decode M.2.1 pc = .ok (.invokevirtual idx, 3)) (hp : pc + 3 = pc') (hw : (rest.map fun v => v.category).sum ≤ 8) (hb1 : b'.1 + b2.1 ≤ b.1) (hb2 : b'.2 + b2.2 ≤ b.2) (ha : h.1 a = some (.inr (ci, fs))) (k : Gm K M' d b' (.ref a :: []) h (fun v h' => ∃ r : Value, v = some r ∧ G K M (d + 1) b2 pc' L (r :: rest) h' Q)) : G K M (d + 1) b pc L (.ref a :: rest) h Q := gk_callV1 (b' := b') (b2 := b2) (As := []) hv.1 hl hv.2.1 hv.2.2.1 hv.2.2.2 ha hd hp rfl rfl hw hb1 hb2 k
theorem gk_cI_0 {idx a : Nat} (hv : gk_I M' 0) (hl : Cond.methodLink M.1.cls idx M'.1 ∈ gk_good) (hd : decode M.2.1 pc = .ok (.invokespecial idx, 3)) (hp : pc + 3 = pc') (hw : (rest.map fun v => v.category).sum ≤ 8) (hb1 : b'.1 + b2.1 ≤ b.1) (hb2 : b'.2 + b2.2 ≤ b.2) (k : Gm K M' d b' (.ref a :: []) h (fun v h' => v = none ∧ G K M (d + 1) b2 pc' L rest h' Q)) : G K M (d + 1) b pc L (.ref a :: rest) h Q := gk_callI0 (b' := b') (b2 := b2) (As := []) hv.1 hv.2.1 hl hv.2.2.1 hv.2.2.2 hd hp rfl rfl hw hb1 hb2 k
theorem gk_cIN_0 {idx a : Nat} {host : String} (hv : gk_I M' 0) (hl : (M.1.cls, idx, M'.1, host) ∈ gk_nest) (hd : decode M.2.1 pc = .ok (.invokespecial idx, 3)) (hp : pc + 3 = pc') (hw : (rest.map fun v => v.category).sum ≤ 8) (hb1 : b'.1 + b2.1 ≤ b.1) (hb2 : b'.2 + b2.2 ≤ b.2) (k : Gm K M' d b' (.ref a :: []) h (fun v h' => v = none ∧ G K M (d + 1) b2 pc' L rest h' Q)) : G K M (d + 1) b pc L (.ref a :: rest) h Q := gk_callIN0 (b' := b') (b2 := b2) (As := []) hv.1 hv.2.1 hl hv.2.2.1 hv.2.2.2 hd hp rfl rfl hw hb1 hb2 k
theorem gk_cV0_1 {idx ci a : Nat} {fs : List Value} {x1 : Value} (hv : gk_V M' 1 ci) (hl : Cond.methodLink M.1.cls idx M'.1 ∈ gk_good) (hd : decode M.2.1 pc = .ok (.invokevirtual idx, 3)) (hp : pc + 3 = pc') (hw : (rest.map fun v => v.category).sum ≤ 8) (ha : h.1 a = some (.inr (ci, fs))) (k : Gm K M' d (0, 0) (.ref a :: [x1]) h (fun v h' => v = none ∧ G K M (d + 1) b pc' L rest h' Q)) : G K M (d + 1) b pc L (x1 :: .ref a :: rest) h Q := gk_callV0 (b' := (0, 0)) (b2 := b) (As := [x1]) hv.1 hl hv.2.1 hv.2.2.1 hv.2.2.2 ha hd hp rfl rfl hw (by simp) (by simp) k
theorem gk_cS0_1 {idx : Nat} {x1 : Value} (hv : gk_St M' 1) (hl : Cond.methodLink M.1.cls idx M'.1 ∈ gk_good) (hd : decode M.2.1 pc = .ok (.invokestatic idx, 3)) (hp : pc + 3 = pc') (hw : (rest.map fun v => v.category).sum ≤ 8) (k : Gm K M' d (0, 0) [x1] h (fun v h' => v = none ∧ G K M (d + 1) b pc' L rest h' Q)) : G K M (d + 1) b pc L (x1 :: rest) h Q := gk_callS0 (b' := (0, 0)) (b2 := b) (As := [x1]) hv.1 hl hv.2 hd hp rfl rfl hw (by simp) (by simp) k
theorem gk_cSN0_1 {idx : Nat} {host : String} {x1 : Value} (hv : gk_St M' 1) (hl : (M.1.cls, idx, M'.1, host) ∈ gk_nest) (hd : decode M.2.1 pc = .ok (.invokestatic idx, 3)) (hp : pc + 3 = pc') (hw : (rest.map fun v => v.category).sum ≤ 8) (k : Gm K M' d (0, 0) [x1] h (fun v h' => v = none ∧ G K M (d + 1) b pc' L rest h' Q)) : G K M (d + 1) b pc L (x1 :: rest) h Q := gk_callSN0 (b' := (0, 0)) (b2 := b) (As := [x1]) hv.1 hl hv.2 hd hp rfl rfl hw (by simp) (by simp) k
theorem gk_cV1_1 {idx ci a : Nat} {fs : List Value} {x1 : Value} (hv : gk_V M' 1 ci) (hl : Cond.methodLink M.1.cls idx M'.1 ∈ gk_good) (hd : decode M.2.1 pc = .ok (.invokevirtual idx, 3)) (hp : pc + 3 = pc') (hw : (rest.map fun v => v.category).sum ≤ 8) (ha : h.1 a = some (.inr (ci, fs))) (k : Gm K M' d (0, 0) (.ref a :: [x1]) h (fun v h' => ∃ r : Value, v = some r ∧ G K M (d + 1) b pc' L (r :: rest) h' Q)) : G K M (d + 1) b pc L (x1 :: .ref a :: rest) h Q := gk_callV1 (b' := (0, 0)) (b2 := b) (As := [x1]) hv.1 hl hv.2.1 hv.2.2.1 hv.2.2.2 ha hd hp rfl rfl hw (by simp) (by simp) k
theorem gk_cS1_1 {idx : Nat} {x1 : Value} (hv : gk_St M' 1) (hl : Cond.methodLink M.1.cls idx M'.1 ∈ gk_good) (hd : decode M.2.1 pc = .ok (.invokestatic idx, 3)) (hp : pc + 3 = pc') (hw : (rest.map fun v => v.category).sum ≤ 8) (k : Gm K M' d (0, 0) [x1] h (fun v h' => ∃ r : Value, v = some r ∧ G K M (d + 1) b pc' L (r :: rest) h' Q)) : G K M (d + 1) b pc L (x1 :: rest) h Q := gk_callS1 (b' := (0, 0)) (b2 := b) (As := [x1]) hv.1 hl hv.2 hd hp rfl rfl hw (by simp) (by simp) k
theorem gk_cSN1_1 {idx : Nat} {host : String} {x1 : Value} (hv : gk_St M' 1) (hl : (M.1.cls, idx, M'.1, host) ∈ gk_nest) (hd : decode M.2.1 pc = .ok (.invokestatic idx, 3)) (hp : pc + 3 = pc') (hw : (rest.map fun v => v.category).sum ≤ 8) (k : Gm K M' d (0, 0) [x1] h (fun v h' => ∃ r : Value, v = some r ∧ G K M (d + 1) b pc' L (r :: rest) h' Q)) : G K M (d + 1) b pc L (x1 :: rest) h Q := gk_callSN1 (b' := (0, 0)) (b2 := b) (As := [x1]) hv.1 hl hv.2 hd hp rfl rfl hw (by simp) (by simp) k
theorem gk_cVb1_1 {idx ci a : Nat} {fs : List Value} {x1 : Value} (hv : gk_V M' 1 ci) (hl : Cond.methodLink M.1.cls idx M'.1 ∈ gk_good) (hd : decode M.2.1 pc = .ok (.invokevirtual idx, 3)) (hp : pc + 3 = pc') (hw : (rest.map fun v => v.category).sum ≤ 8) (hb1 : b'.1 + b2.1 ≤ b.1) (hb2 : b'.2 + b2.2 ≤ b.2) (ha : h.1 a = some (.inr (ci, fs))) (k : Gm K M' d b' (.ref a :: [x1]) h (fun v h' => ∃ r : Value, v = some r ∧ G K M (d + 1) b2 pc' L (r :: rest) h' Q)) : G K M (d + 1) b pc L (x1 :: .ref a :: rest) h Q := gk_callV1 (b' := b') (b2 := b2) (As := [x1]) hv.1 hl hv.2.1 hv.2.2.1 hv.2.2.2 ha hd hp rfl rfl hw hb1 hb2 k
theorem gk_cI_1 {idx a : Nat} {x1 : Value} (hv : gk_I M' 1) (hl : Cond.methodLink M.1.cls idx M'.1 ∈ gk_good) (hd : decode M.2.1 pc = .ok (.invokespecial idx, 3)) (hp : pc + 3 = pc') (hw : (rest.map fun v => v.category).sum ≤ 8) (hb1 : b'.1 + b2.1 ≤ b.1) (hb2 : b'.2 + b2.2 ≤ b.2) (k : Gm K M' d b' (.ref a :: [x1]) h (fun v h' => v = none ∧ G K M (d + 1) b2 pc' L rest h' Q)) : G K M (d + 1) b pc L (x1 :: .ref a :: rest) h Q := gk_callI0 (b' := b') (b2 := b2) (As := [x1]) hv.1 hv.2.1 hl hv.2.2.1 hv.2.2.2 hd hp rfl rfl hw hb1 hb2 k
theorem gk_cIN_1 {idx a : Nat} {host : String} {x1 : Value} (hv : gk_I M' 1) (hl : (M.1.cls, idx, M'.1, host) ∈ gk_nest) (hd : decode M.2.1 pc = .ok (.invokespecial idx, 3)) (hp : pc + 3 = pc') (hw : (rest.map fun v => v.category).sum ≤ 8) (hb1 : b'.1 + b2.1 ≤ b.1) (hb2 : b'.2 + b2.2 ≤ b.2) (k : Gm K M' d b' (.ref a :: [x1]) h (fun v h' => v = none ∧ G K M (d + 1) b2 pc' L rest h' Q)) : G K M (d + 1) b pc L (x1 :: .ref a :: rest) h Q := gk_callIN0 (b' := b') (b2 := b2) (As := [x1]) hv.1 hv.2.1 hl hv.2.2.1 hv.2.2.2 hd hp rfl rfl hw hb1 hb2 k
theorem gk_cV0_2 {idx ci a : Nat} {fs : List Value} {x1 x2 : Value} (hv : gk_V M' 2 ci) (hl : Cond.methodLink M.1.cls idx M'.1 ∈ gk_good) (hd : decode M.2.1 pc = .ok (.invokevirtual idx, 3)) (hp : pc + 3 = pc') (hw : (rest.map fun v => v.category).sum ≤ 8) (ha : h.1 a = some (.inr (ci, fs))) (k : Gm K M' d (0, 0) (.ref a :: [x1, x2]) h (fun v h' => v = none ∧ G K M (d + 1) b pc' L rest h' Q)) : G K M (d + 1) b pc L (x2 :: x1 :: .ref a :: rest) h Q := gk_callV0 (b' := (0, 0)) (b2 := b) (As := [x1, x2]) hv.1 hl hv.2.1 hv.2.2.1 hv.2.2.2 ha hd hp rfl rfl hw (by simp) (by simp) k
theorem gk_cS0_2 {idx : Nat} {x1 x2 : Value} (hv : gk_St M' 2) (hl : Cond.methodLink M.1.cls idx M'.1 ∈ gk_good) (hd : decode M.2.1 pc = .ok (.invokestatic idx, 3)) (hp : pc + 3 = pc') (hw : (rest.map fun v => v.category).sum ≤ 8) (k : Gm K M' d (0, 0) [x1, x2] h (fun v h' => v = none ∧ G K M (d + 1) b pc' L rest h' Q)) : G K M (d + 1) b pc L (x2 :: x1 :: rest) h Q := gk_callS0 (b' := (0, 0)) (b2 := b) (As := [x1, x2]) hv.1 hl hv.2 hd hp rfl rfl hw (by simp) (by simp) k
theorem gk_cSN0_2 {idx : Nat} {host : String} {x1 x2 : Value} (hv : gk_St M' 2) (hl : (M.1.cls, idx, M'.1, host) ∈ gk_nest) (hd : decode M.2.1 pc = .ok (.invokestatic idx, 3)) (hp : pc + 3 = pc') (hw : (rest.map fun v => v.category).sum ≤ 8) (k : Gm K M' d (0, 0) [x1, x2] h (fun v h' => v = none ∧ G K M (d + 1) b pc' L rest h' Q)) : G K M (d + 1) b pc L (x2 :: x1 :: rest) h Q := gk_callSN0 (b' := (0, 0)) (b2 := b) (As := [x1, x2]) hv.1 hl hv.2 hd hp rfl rfl hw (by simp) (by simp) k
theorem gk_cV1_2 {idx ci a : Nat} {fs : List Value} {x1 x2 : Value} (hv : gk_V M' 2 ci) (hl : Cond.methodLink M.1.cls idx M'.1 ∈ gk_good) (hd : decode M.2.1 pc = .ok (.invokevirtual idx, 3)) (hp : pc + 3 = pc') (hw : (rest.map fun v => v.category).sum ≤ 8) (ha : h.1 a = some (.inr (ci, fs))) (k : Gm K M' d (0, 0) (.ref a :: [x1, x2]) h (fun v h' => ∃ r : Value, v = some r ∧ G K M (d + 1) b pc' L (r :: rest) h' Q)) : G K M (d + 1) b pc L (x2 :: x1 :: .ref a :: rest) h Q := gk_callV1 (b' := (0, 0)) (b2 := b) (As := [x1, x2]) hv.1 hl hv.2.1 hv.2.2.1 hv.2.2.2 ha hd hp rfl rfl hw (by simp) (by simp) k
theorem gk_cS1_2 {idx : Nat} {x1 x2 : Value} (hv : gk_St M' 2) (hl : Cond.methodLink M.1.cls idx M'.1 ∈ gk_good) (hd : decode M.2.1 pc = .ok (.invokestatic idx, 3)) (hp : pc + 3 = pc') (hw : (rest.map fun v => v.category).sum ≤ 8) (k : Gm K M' d (0, 0) [x1, x2] h (fun v h' => ∃ r : Value, v = some r ∧ G K M (d + 1) b pc' L (r :: rest) h' Q)) : G K M (d + 1) b pc L (x2 :: x1 :: rest) h Q := gk_callS1 (b' := (0, 0)) (b2 := b) (As := [x1, x2]) hv.1 hl hv.2 hd hp rfl rfl hw (by simp) (by simp) k
theorem gk_cSN1_2 {idx : Nat} {host : String} {x1 x2 : Value} (hv : gk_St M' 2) (hl : (M.1.cls, idx, M'.1, host) ∈ gk_nest) (hd : decode M.2.1 pc = .ok (.invokestatic idx, 3)) (hp : pc + 3 = pc') (hw : (rest.map fun v => v.category).sum ≤ 8) (k : Gm K M' d (0, 0) [x1, x2] h (fun v h' => ∃ r : Value, v = some r ∧ G K M (d + 1) b pc' L (r :: rest) h' Q)) : G K M (d + 1) b pc L (x2 :: x1 :: rest) h Q := gk_callSN1 (b' := (0, 0)) (b2 := b) (As := [x1, x2]) hv.1 hl hv.2 hd hp rfl rfl hw (by simp) (by simp) k
theorem gk_cVb1_2 {idx ci a : Nat} {fs : List Value} {x1 x2 : Value} (hv : gk_V M' 2 ci) (hl : Cond.methodLink M.1.cls idx M'.1 ∈ gk_good) (hd : decode M.2.1 pc = .ok (.invokevirtual idx, 3)) (hp : pc + 3 = pc') (hw : (rest.map fun v => v.category).sum ≤ 8) (hb1 : b'.1 + b2.1 ≤ b.1) (hb2 : b'.2 + b2.2 ≤ b.2) (ha : h.1 a = some (.inr (ci, fs))) (k : Gm K M' d b' (.ref a :: [x1, x2]) h (fun v h' => ∃ r : Value, v = some r ∧ G K M (d + 1) b2 pc' L (r :: rest) h' Q)) : G K M (d + 1) b pc L (x2 :: x1 :: .ref a :: rest) h Q := gk_callV1 (b' := b') (b2 := b2) (As := [x1, x2]) hv.1 hl hv.2.1 hv.2.2.1 hv.2.2.2 ha hd hp rfl rfl hw hb1 hb2 k
theorem gk_cI_2 {idx a : Nat} {x1 x2 : Value} (hv : gk_I M' 2) (hl : Cond.methodLink M.1.cls idx M'.1 ∈ gk_good) (hd : decode M.2.1 pc = .ok (.invokespecial idx, 3)) (hp : pc + 3 = pc') (hw : (rest.map fun v => v.category).sum ≤ 8) (hb1 : b'.1 + b2.1 ≤ b.1) (hb2 : b'.2 + b2.2 ≤ b.2) (k : Gm K M' d b' (.ref a :: [x1, x2]) h (fun v h' => v = none ∧ G K M (d + 1) b2 pc' L rest h' Q)) : G K M (d + 1) b pc L (x2 :: x1 :: .ref a :: rest) h Q := gk_callI0 (b' := b') (b2 := b2) (As := [x1, x2]) hv.1 hv.2.1 hl hv.2.2.1 hv.2.2.2 hd hp rfl rfl hw hb1 hb2 k
theorem gk_cIN_2 {idx a : Nat} {host : String} {x1 x2 : Value} (hv : gk_I M' 2) (hl : (M.1.cls, idx, M'.1, host) ∈ gk_nest) (hd : decode M.2.1 pc = .ok (.invokespecial idx, 3)) (hp : pc + 3 = pc') (hw : (rest.map fun v => v.category).sum ≤ 8) (hb1 : b'.1 + b2.1 ≤ b.1) (hb2 : b'.2 + b2.2 ≤ b.2) (k : Gm K M' d b' (.ref a :: [x1, x2]) h (fun v h' => v = none ∧ G K M (d + 1) b2 pc' L rest h' Q)) : G K M (d + 1) b pc L (x2 :: x1 :: .ref a :: rest) h Q := gk_callIN0 (b' := b') (b2 := b2) (As := [x1, x2]) hv.1 hv.2.1 hl hv.2.2.1 hv.2.2.2 hd hp rfl rfl hw hb1 hb2 k
theorem gk_cV0_3 {idx ci a : Nat} {fs : List Value} {x1 x2 x3 : Value} (hv : gk_V M' 3 ci) (hl : Cond.methodLink M.1.cls idx M'.1 ∈ gk_good) (hd : decode M.2.1 pc = .ok (.invokevirtual idx, 3)) (hp : pc + 3 = pc') (hw : (rest.map fun v => v.category).sum ≤ 8) (ha : h.1 a = some (.inr (ci, fs))) (k : Gm K M' d (0, 0) (.ref a :: [x1, x2, x3]) h (fun v h' => v = none ∧ G K M (d + 1) b pc' L rest h' Q)) : G K M (d + 1) b pc L (x3 :: x2 :: x1 :: .ref a :: rest) h Q := gk_callV0 (b' := (0, 0)) (b2 := b) (As := [x1, x2, x3]) hv.1 hl hv.2.1 hv.2.2.1 hv.2.2.2 ha hd hp rfl rfl hw (by simp) (by simp) k
theorem gk_cS0_3 {idx : Nat} {x1 x2 x3 : Value} (hv : gk_St M' 3) (hl : Cond.methodLink M.1.cls idx M'.1 ∈ gk_good) (hd : decode M.2.1 pc = .ok (.invokestatic idx, 3)) (hp : pc + 3 = pc') (hw : (rest.map fun v => v.category).sum ≤ 8) (k : Gm K M' d (0, 0) [x1, x2, x3] h (fun v h' => v = none ∧ G K M (d + 1) b pc' L rest h' Q)) : G K M (d + 1) b pc L (x3 :: x2 :: x1 :: rest) h Q := gk_callS0 (b' := (0, 0)) (b2 := b) (As := [x1, x2, x3]) hv.1 hl hv.2 hd hp rfl rfl hw (by simp) (by simp) k
theorem gk_cSN0_3 {idx : Nat} {host : String} {x1 x2 x3 : Value} (hv : gk_St M' 3) (hl : (M.1.cls, idx, M'.1, host) ∈ gk_nest) (hd : decode M.2.1 pc = .ok (.invokestatic idx, 3)) (hp : pc + 3 = pc') (hw : (rest.map fun v => v.category).sum ≤ 8) (k : Gm K M' d (0, 0) [x1, x2, x3] h (fun v h' => v = none ∧ G K M (d + 1) b pc' L rest h' Q)) : G K M (d + 1) b pc L (x3 :: x2 :: x1 :: rest) h Q := gk_callSN0 (b' := (0, 0)) (b2 := b) (As := [x1, x2, x3]) hv.1 hl hv.2 hd hp rfl rfl hw (by simp) (by simp) k
theorem gk_cV1_3 {idx ci a : Nat} {fs : List Value} {x1 x2 x3 : Value} (hv : gk_V M' 3 ci) (hl : Cond.methodLink M.1.cls idx M'.1 ∈ gk_good) (hd : decode M.2.1 pc = .ok (.invokevirtual idx, 3)) (hp : pc + 3 = pc') (hw : (rest.map fun v => v.category).sum ≤ 8) (ha : h.1 a = some (.inr (ci, fs))) (k : Gm K M' d (0, 0) (.ref a :: [x1, x2, x3]) h (fun v h' => ∃ r : Value, v = some r ∧ G K M (d + 1) b pc' L (r :: rest) h' Q)) : G K M (d + 1) b pc L (x3 :: x2 :: x1 :: .ref a :: rest) h Q := gk_callV1 (b' := (0, 0)) (b2 := b) (As := [x1, x2, x3]) hv.1 hl hv.2.1 hv.2.2.1 hv.2.2.2 ha hd hp rfl rfl hw (by simp) (by simp) k
theorem gk_cS1_3 {idx : Nat} {x1 x2 x3 : Value} (hv : gk_St M' 3) (hl : Cond.methodLink M.1.cls idx M'.1 ∈ gk_good) (hd : decode M.2.1 pc = .ok (.invokestatic idx, 3)) (hp : pc + 3 = pc') (hw : (rest.map fun v => v.category).sum ≤ 8) (k : Gm K M' d (0, 0) [x1, x2, x3] h (fun v h' => ∃ r : Value, v = some r ∧ G K M (d + 1) b pc' L (r :: rest) h' Q)) : G K M (d + 1) b pc L (x3 :: x2 :: x1 :: rest) h Q := gk_callS1 (b' := (0, 0)) (b2 := b) (As := [x1, x2, x3]) hv.1 hl hv.2 hd hp rfl rfl hw (by simp) (by simp) k
theorem gk_cSN1_3 {idx : Nat} {host : String} {x1 x2 x3 : Value} (hv : gk_St M' 3) (hl : (M.1.cls, idx, M'.1, host) ∈ gk_nest) (hd : decode M.2.1 pc = .ok (.invokestatic idx, 3)) (hp : pc + 3 = pc') (hw : (rest.map fun v => v.category).sum ≤ 8) (k : Gm K M' d (0, 0) [x1, x2, x3] h (fun v h' => ∃ r : Value, v = some r ∧ G K M (d + 1) b pc' L (r :: rest) h' Q)) : G K M (d + 1) b pc L (x3 :: x2 :: x1 :: rest) h Q := gk_callSN1 (b' := (0, 0)) (b2 := b) (As := [x1, x2, x3]) hv.1 hl hv.2 hd hp rfl rfl hw (by simp) (by simp) k
theorem gk_cVb1_3 {idx ci a : Nat} {fs : List Value} {x1 x2 x3 : Value} (hv : gk_V M' 3 ci) (hl : Cond.methodLink M.1.cls idx M'.1 ∈ gk_good) (hd : decode M.2.1 pc = .ok (.invokevirtual idx, 3)) (hp : pc + 3 = pc') (hw : (rest.map fun v => v.category).sum ≤ 8) (hb1 : b'.1 + b2.1 ≤ b.1) (hb2 : b'.2 + b2.2 ≤ b.2) (ha : h.1 a = some (.inr (ci, fs))) (k : Gm K M' d b' (.ref a :: [x1, x2, x3]) h (fun v h' => ∃ r : Value, v = some r ∧ G K M (d + 1) b2 pc' L (r :: rest) h' Q)) : G K M (d + 1) b pc L (x3 :: x2 :: x1 :: .ref a :: rest) h Q := gk_callV1 (b' := b') (b2 := b2) (As := [x1, x2, x3]) hv.1 hl hv.2.1 hv.2.2.1 hv.2.2.2 ha hd hp rfl rfl hw hb1 hb2 k
theorem gk_cI_3 {idx a : Nat} {x1 x2 x3 : Value} (hv : gk_I M' 3) (hl : Cond.methodLink M.1.cls idx M'.1 ∈ gk_good) (hd : decode M.2.1 pc = .ok (.invokespecial idx, 3)) (hp : pc + 3 = pc') (hw : (rest.map fun v => v.category).sum ≤ 8) (hb1 : b'.1 + b2.1 ≤ b.1) (hb2 : b'.2 + b2.2 ≤ b.2) (k : Gm K M' d b' (.ref a :: [x1, x2, x3]) h (fun v h' => v = none ∧ G K M (d + 1) b2 pc' L rest h' Q)) : G K M (d + 1) b pc L (x3 :: x2 :: x1 :: .ref a :: rest) h Q := gk_callI0 (b' := b') (b2 := b2) (As := [x1, x2, x3]) hv.1 hv.2.1 hl hv.2.2.1 hv.2.2.2 hd hp rfl rfl hw hb1 hb2 k
theorem gk_cIN_3 {idx a : Nat} {host : String} {x1 x2 x3 : Value} (hv : gk_I M' 3) (hl : (M.1.cls, idx, M'.1, host) ∈ gk_nest) (hd : decode M.2.1 pc = .ok (.invokespecial idx, 3)) (hp : pc + 3 = pc') (hw : (rest.map fun v => v.category).sum ≤ 8) (hb1 : b'.1 + b2.1 ≤ b.1) (hb2 : b'.2 + b2.2 ≤ b.2) (k : Gm K M' d b' (.ref a :: [x1, x2, x3]) h (fun v h' => v = none ∧ G K M (d + 1) b2 pc' L rest h' Q)) : G K M (d + 1) b pc L (x3 :: x2 :: x1 :: .ref a :: rest) h Q := gk_callIN0 (b' := b') (b2 := b2) (As := [x1, x2, x3]) hv.1 hv.2.1 hl hv.2.2.1 hv.2.2.2 hd hp rfl rfl hw hb1 hb2 k
theorem gk_cV0_4 {idx ci a : Nat} {fs : List Value} {x1 x2 x3 x4 : Value} (hv : gk_V M' 4 ci) (hl : Cond.methodLink M.1.cls idx M'.1 ∈ gk_good) (hd : decode M.2.1 pc = .ok (.invokevirtual idx, 3)) (hp : pc + 3 = pc') (hw : (rest.map fun v => v.category).sum ≤ 8) (ha : h.1 a = some (.inr (ci, fs))) (k : Gm K M' d (0, 0) (.ref a :: [x1, x2, x3, x4]) h (fun v h' => v = none ∧ G K M (d + 1) b pc' L rest h' Q)) : G K M (d + 1) b pc L (x4 :: x3 :: x2 :: x1 :: .ref a :: rest) h Q := gk_callV0 (b' := (0, 0)) (b2 := b) (As := [x1, x2, x3, x4]) hv.1 hl hv.2.1 hv.2.2.1 hv.2.2.2 ha hd hp rfl rfl hw (by simp) (by simp) k
theorem gk_cS0_4 {idx : Nat} {x1 x2 x3 x4 : Value} (hv : gk_St M' 4) (hl : Cond.methodLink M.1.cls idx M'.1 ∈ gk_good) (hd : decode M.2.1 pc = .ok (.invokestatic idx, 3)) (hp : pc + 3 = pc') (hw : (rest.map fun v => v.category).sum ≤ 8) (k : Gm K M' d (0, 0) [x1, x2, x3, x4] h (fun v h' => v = none ∧ G K M (d + 1) b pc' L rest h' Q)) : G K M (d + 1) b pc L (x4 :: x3 :: x2 :: x1 :: rest) h Q := gk_callS0 (b' := (0, 0)) (b2 := b) (As := [x1, x2, x3, x4]) hv.1 hl hv.2 hd hp rfl rfl hw (by simp) (by simp) k
theorem gk_cSN0_4 {idx : Nat} {host : String} {x1 x2 x3 x4 : Value} (hv : gk_St M' 4) (hl : (M.1.cls, idx, M'.1, host) ∈ gk_nest) (hd : decode M.2.1 pc = .ok (.invokestatic idx, 3)) (hp : pc + 3 = pc') (hw : (rest.map fun v => v.category).sum ≤ 8) (k : Gm K M' d (0, 0) [x1, x2, x3, x4] h (fun v h' => v = none ∧ G K M (d + 1) b pc' L rest h' Q)) : G K M (d + 1) b pc L (x4 :: x3 :: x2 :: x1 :: rest) h Q := gk_callSN0 (b' := (0, 0)) (b2 := b) (As := [x1, x2, x3, x4]) hv.1 hl hv.2 hd hp rfl rfl hw (by simp) (by simp) k
theorem gk_cV1_4 {idx ci a : Nat} {fs : List Value} {x1 x2 x3 x4 : Value} (hv : gk_V M' 4 ci) (hl : Cond.methodLink M.1.cls idx M'.1 ∈ gk_good) (hd : decode M.2.1 pc = .ok (.invokevirtual idx, 3)) (hp : pc + 3 = pc') (hw : (rest.map fun v => v.category).sum ≤ 8) (ha : h.1 a = some (.inr (ci, fs))) (k : Gm K M' d (0, 0) (.ref a :: [x1, x2, x3, x4]) h (fun v h' => ∃ r : Value, v = some r ∧ G K M (d + 1) b pc' L (r :: rest) h' Q)) : G K M (d + 1) b pc L (x4 :: x3 :: x2 :: x1 :: .ref a :: rest) h Q := gk_callV1 (b' := (0, 0)) (b2 := b) (As := [x1, x2, x3, x4]) hv.1 hl hv.2.1 hv.2.2.1 hv.2.2.2 ha hd hp rfl rfl hw (by simp) (by simp) k
theorem gk_cS1_4 {idx : Nat} {x1 x2 x3 x4 : Value} (hv : gk_St M' 4) (hl : Cond.methodLink M.1.cls idx M'.1 ∈ gk_good) (hd : decode M.2.1 pc = .ok (.invokestatic idx, 3)) (hp : pc + 3 = pc') (hw : (rest.map fun v => v.category).sum ≤ 8) (k : Gm K M' d (0, 0) [x1, x2, x3, x4] h (fun v h' => ∃ r : Value, v = some r ∧ G K M (d + 1) b pc' L (r :: rest) h' Q)) : G K M (d + 1) b pc L (x4 :: x3 :: x2 :: x1 :: rest) h Q := gk_callS1 (b' := (0, 0)) (b2 := b) (As := [x1, x2, x3, x4]) hv.1 hl hv.2 hd hp rfl rfl hw (by simp) (by simp) k
theorem gk_cSN1_4 {idx : Nat} {host : String} {x1 x2 x3 x4 : Value} (hv : gk_St M' 4) (hl : (M.1.cls, idx, M'.1, host) ∈ gk_nest) (hd : decode M.2.1 pc = .ok (.invokestatic idx, 3)) (hp : pc + 3 = pc') (hw : (rest.map fun v => v.category).sum ≤ 8) (k : Gm K M' d (0, 0) [x1, x2, x3, x4] h (fun v h' => ∃ r : Value, v = some r ∧ G K M (d + 1) b pc' L (r :: rest) h' Q)) : G K M (d + 1) b pc L (x4 :: x3 :: x2 :: x1 :: rest) h Q := gk_callSN1 (b' := (0, 0)) (b2 := b) (As := [x1, x2, x3, x4]) hv.1 hl hv.2 hd hp rfl rfl hw (by simp) (by simp) k
theorem gk_cVb1_4 {idx ci a : Nat} {fs : List Value} {x1 x2 x3 x4 : Value} (hv : gk_V M' 4 ci) (hl : Cond.methodLink M.1.cls idx M'.1 ∈ gk_good) (hd : decode M.2.1 pc = .ok (.invokevirtual idx, 3)) (hp : pc + 3 = pc') (hw : (rest.map fun v => v.category).sum ≤ 8) (hb1 : b'.1 + b2.1 ≤ b.1) (hb2 : b'.2 + b2.2 ≤ b.2) (ha : h.1 a = some (.inr (ci, fs))) (k : Gm K M' d b' (.ref a :: [x1, x2, x3, x4]) h (fun v h' => ∃ r : Value, v = some r ∧ G K M (d + 1) b2 pc' L (r :: rest) h' Q)) : G K M (d + 1) b pc L (x4 :: x3 :: x2 :: x1 :: .ref a :: rest) h Q := gk_callV1 (b' := b') (b2 := b2) (As := [x1, x2, x3, x4]) hv.1 hl hv.2.1 hv.2.2.1 hv.2.2.2 ha hd hp rfl rfl hw hb1 hb2 k
theorem gk_cI_4 {idx a : Nat} {x1 x2 x3 x4 : Value} (hv : gk_I M' 4) (hl : Cond.methodLink M.1.cls idx M'.1 ∈ gk_good) (hd : decode M.2.1 pc = .ok (.invokespecial idx, 3)) (hp : pc + 3 = pc') (hw : (rest.map fun v => v.category).sum ≤ 8) (hb1 : b'.1 + b2.1 ≤ b.1) (hb2 : b'.2 + b2.2 ≤ b.2) (k : Gm K M' d b' (.ref a :: [x1, x2, x3, x4]) h (fun v h' => v = none ∧ G K M (d + 1) b2 pc' L rest h' Q)) : G K M (d + 1) b pc L (x4 :: x3 :: x2 :: x1 :: .ref a :: rest) h Q := gk_callI0 (b' := b') (b2 := b2) (As := [x1, x2, x3, x4]) hv.1 hv.2.1 hl hv.2.2.1 hv.2.2.2 hd hp rfl rfl hw hb1 hb2 k
theorem gk_cIN_4 {idx a : Nat} {host : String} {x1 x2 x3 x4 : Value} (hv : gk_I M' 4) (hl : (M.1.cls, idx, M'.1, host) ∈ gk_nest) (hd : decode M.2.1 pc = .ok (.invokespecial idx, 3)) (hp : pc + 3 = pc') (hw : (rest.map fun v => v.category).sum ≤ 8) (hb1 : b'.1 + b2.1 ≤ b.1) (hb2 : b'.2 + b2.2 ≤ b.2) (k : Gm K M' d b' (.ref a :: [x1, x2, x3, x4]) h (fun v h' => v = none ∧ G K M (d + 1) b2 pc' L rest h' Q)) : G K M (d + 1) b pc L (x4 :: x3 :: x2 :: x1 :: .ref a :: rest) h Q := gk_callIN0 (b' := b') (b2 := b2) (As := [x1, x2, x3, x4]) hv.1 hv.2.1 hl hv.2.2.1 hv.2.2.2 hd hp rfl rfl hw hb1 hb2 k
theorem gk_cV0_5 {idx ci a : Nat} {fs : List Value} {x1 x2 x3 x4 x5 : Value} (hv : gk_V M' 5 ci) (hl : Cond.methodLink M.1.cls idx M'.1 ∈ gk_good) (hd : decode M.2.1 pc = .ok (.invokevirtual idx, 3)) (hp : pc + 3 = pc') (hw : (rest.map fun v => v.category).sum ≤ 8) (ha : h.1 a = some (.inr (ci, fs))) (k : Gm K M' d (0, 0) (.ref a :: [x1, x2, x3, x4, x5]) h (fun v h' => v = none ∧ G K M (d + 1) b pc' L rest h' Q)) : G K M (d + 1) b pc L (x5 :: x4 :: x3 :: x2 :: x1 :: .ref a :: rest) h Q := gk_callV0 (b' := (0, 0)) (b2 := b) (As := [x1, x2, x3, x4, x5]) hv.1 hl hv.2.1 hv.2.2.1 hv.2.2.2 ha hd hp rfl rfl hw (by simp) (by simp) k
theorem gk_cS0_5 {idx : Nat} {x1 x2 x3 x4 x5 : Value} (hv : gk_St M' 5) (hl : Cond.methodLink M.1.cls idx M'.1 ∈ gk_good) (hd : decode M.2.1 pc = .ok (.invokestatic idx, 3)) (hp : pc + 3 = pc') (hw : (rest.map fun v => v.category).sum ≤ 8) (k : Gm K M' d (0, 0) [x1, x2, x3, x4, x5] h (fun v h' => v = none ∧ G K M (d + 1) b pc' L rest h' Q)) : G K M (d + 1) b pc L (x5 :: x4 :: x3 :: x2 :: x1 :: rest) h Q := gk_callS0 (b' := (0, 0)) (b2 := b) (As := [x1, x2, x3, x4, x5]) hv.1 hl hv.2 hd hp rfl rfl hw (by simp) (by simp) k
theorem gk_cSN0_5 {idx : Nat} {host : String} {x1 x2 x3 x4 x5 : Value} (hv : gk_St M' 5) (hl : (M.1.cls, idx, M'.1, host) ∈ gk_nest) (hd : decode M.2.1 pc = .ok (.invokestatic idx, 3)) (hp : pc + 3 = pc') (hw : (rest.map fun v => v.category).sum ≤ 8) (k : Gm K M' d (0, 0) [x1, x2, x3, x4, x5] h (fun v h' => v = none ∧ G K M (d + 1) b pc' L rest h' Q)) : G K M (d + 1) b pc L (x5 :: x4 :: x3 :: x2 :: x1 :: rest) h Q := gk_callSN0 (b' := (0, 0)) (b2 := b) (As := [x1, x2, x3, x4, x5]) hv.1 hl hv.2 hd hp rfl rfl hw (by simp) (by simp) k
theorem gk_cV1_5 {idx ci a : Nat} {fs : List Value} {x1 x2 x3 x4 x5 : Value} (hv : gk_V M' 5 ci) (hl : Cond.methodLink M.1.cls idx M'.1 ∈ gk_good) (hd : decode M.2.1 pc = .ok (.invokevirtual idx, 3)) (hp : pc + 3 = pc') (hw : (rest.map fun v => v.category).sum ≤ 8) (ha : h.1 a = some (.inr (ci, fs))) (k : Gm K M' d (0, 0) (.ref a :: [x1, x2, x3, x4, x5]) h (fun v h' => ∃ r : Value, v = some r ∧ G K M (d + 1) b pc' L (r :: rest) h' Q)) : G K M (d + 1) b pc L (x5 :: x4 :: x3 :: x2 :: x1 :: .ref a :: rest) h Q := gk_callV1 (b' := (0, 0)) (b2 := b) (As := [x1, x2, x3, x4, x5]) hv.1 hl hv.2.1 hv.2.2.1 hv.2.2.2 ha hd hp rfl rfl hw (by simp) (by simp) k
theorem gk_cS1_5 {idx : Nat} {x1 x2 x3 x4 x5 : Value} (hv : gk_St M' 5) (hl : Cond.methodLink M.1.cls idx M'.1 ∈ gk_good) (hd : decode M.2.1 pc = .ok (.invokestatic idx, 3)) (hp : pc + 3 = pc') (hw : (rest.map fun v => v.category).sum ≤ 8) (k : Gm K M' d (0, 0) [x1, x2, x3, x4, x5] h (fun v h' => ∃ r : Value, v = some r ∧ G K M (d + 1) b pc' L (r :: rest) h' Q)) : G K M (d + 1) b pc L (x5 :: x4 :: x3 :: x2 :: x1 :: rest) h Q := gk_callS1 (b' := (0, 0)) (b2 := b) (As := [x1, x2, x3, x4, x5]) hv.1 hl hv.2 hd hp rfl rfl hw (by simp) (by simp) k
theorem gk_cSN1_5 {idx : Nat} {host : String} {x1 x2 x3 x4 x5 : Value} (hv : gk_St M' 5) (hl : (M.1.cls, idx, M'.1, host) ∈ gk_nest) (hd : decode M.2.1 pc = .ok (.invokestatic idx, 3)) (hp : pc + 3 = pc') (hw : (rest.map fun v => v.category).sum ≤ 8) (k : Gm K M' d (0, 0) [x1, x2, x3, x4, x5] h (fun v h' => ∃ r : Value, v = some r ∧ G K M (d + 1) b pc' L (r :: rest) h' Q)) : G K M (d + 1) b pc L (x5 :: x4 :: x3 :: x2 :: x1 :: rest) h Q := gk_callSN1 (b' := (0, 0)) (b2 := b) (As := [x1, x2, x3, x4, x5]) hv.1 hl hv.2 hd hp rfl rfl hw (by simp) (by simp) k
theorem gk_cVb1_5 {idx ci a : Nat} {fs : List Value} {x1 x2 x3 x4 x5 : Value} (hv : gk_V M' 5 ci) (hl : Cond.methodLink M.1.cls idx M'.1 ∈ gk_good) (hd : decode M.2.1 pc = .ok (.invokevirtual idx, 3)) (hp : pc + 3 = pc') (hw : (rest.map fun v => v.category).sum ≤ 8) (hb1 : b'.1 + b2.1 ≤ b.1) (hb2 : b'.2 + b2.2 ≤ b.2) (ha : h.1 a = some (.inr (ci, fs))) (k : Gm K M' d b' (.ref a :: [x1, x2, x3, x4, x5]) h (fun v h' => ∃ r : Value, v = some r ∧ G K M (d + 1) b2 pc' L (r :: rest) h' Q)) : G K M (d + 1) b pc L (x5 :: x4 :: x3 :: x2 :: x1 :: .ref a :: rest) h Q := gk_callV1 (b' := b') (b2 := b2) (As := [x1, x2, x3, x4, x5]) hv.1 hl hv.2.1 hv.2.2.1 hv.2.2.2 ha hd hp rfl rfl hw hb1 hb2 k
theorem gk_cI_5 {idx a : Nat} {x1 x2 x3 x4 x5 : Value} (hv : gk_I M' 5) (hl : Cond.methodLink M.1.cls idx M'.1 ∈ gk_good) (hd : decode M.2.1 pc = .ok (.invokespecial idx, 3)) (hp : pc + 3 = pc') (hw : (rest.map fun v => v.category).sum ≤ 8) (hb1 : b'.1 + b2.1 ≤ b.1) (hb2 : b'.2 + b2.2 ≤ b.2) (k : Gm K M' d b' (.ref a :: [x1, x2, x3, x4, x5]) h (fun v h' => v = none ∧ G K M (d + 1) b2 pc' L rest h' Q)) : G K M (d + 1) b pc L (x5 :: x4 :: x3 :: x2 :: x1 :: .ref a :: rest) h Q := gk_callI0 (b' := b') (b2 := b2) (As := [x1, x2, x3, x4, x5]) hv.1 hv.2.1 hl hv.2.2.1 hv.2.2.2 hd hp rfl rfl hw hb1 hb2 k
theorem gk_cIN_5 {idx a : Nat} {host : String} {x1 x2 x3 x4 x5 : Value} (hv : gk_I M' 5) (hl : (M.1.cls, idx, M'.1, host) ∈ gk_nest) (hd : decode M.2.1 pc = .ok (.invokespecial idx, 3)) (hp : pc + 3 = pc') (hw : (rest.map fun v => v.category).sum ≤ 8) (hb1 : b'.1 + b2.1 ≤ b.1) (hb2 : b'.2 + b2.2 ≤ b.2) (k : Gm K M' d b' (.ref a :: [x1, x2, x3, x4, x5]) h (fun v h' => v = none ∧ G K M (d + 1) b2 pc' L rest h' Q)) : G K M (d + 1) b pc L (x5 :: x4 :: x3 :: x2 :: x1 :: .ref a :: rest) h Q := gk_callIN0 (b' := b') (b2 := b2) (As := [x1, x2, x3, x4, x5]) hv.1 hv.2.1 hl hv.2.2.1 hv.2.2.2 hd hp rfl rfl hw hb1 hb2 k
theorem gk_cV0_6 {idx ci a : Nat} {fs : List Value} {x1 x2 x3 x4 x5 x6 : Value} (hv : gk_V M' 6 ci) (hl : Cond.methodLink M.1.cls idx M'.1 ∈ gk_good) (hd : decode M.2.1 pc = .ok (.invokevirtual idx, 3)) (hp : pc + 3 = pc') (hw : (rest.map fun v => v.category).sum ≤ 8) (ha : h.1 a = some (.inr (ci, fs))) (k : Gm K M' d (0, 0) (.ref a :: [x1, x2, x3, x4, x5, x6]) h (fun v h' => v = none ∧ G K M (d + 1) b pc' L rest h' Q)) : G K M (d + 1) b pc L (x6 :: x5 :: x4 :: x3 :: x2 :: x1 :: .ref a :: rest) h Q := gk_callV0 (b' := (0, 0)) (b2 := b) (As := [x1, x2, x3, x4, x5, x6]) hv.1 hl hv.2.1 hv.2.2.1 hv.2.2.2 ha hd hp rfl rfl hw (by simp) (by simp) k
theorem gk_cS0_6 {idx : Nat} {x1 x2 x3 x4 x5 x6 : Value} (hv : gk_St M' 6) (hl : Cond.methodLink M.1.cls idx M'.1 ∈ gk_good) (hd : decode M.2.1 pc = .ok (.invokestatic idx, 3)) (hp : pc + 3 = pc') (hw : (rest.map fun v => v.category).sum ≤ 8) (k : Gm K M' d (0, 0) [x1, x2, x3, x4, x5, x6] h (fun v h' => v = none ∧ G K M (d + 1) b pc' L rest h' Q)) : G K M (d + 1) b pc L (x6 :: x5 :: x4 :: x3 :: x2 :: x1 :: rest) h Q := gk_callS0 (b' := (0, 0)) (b2 := b) (As := [x1, x2, x3, x4, x5, x6]) hv.1 hl hv.2 hd hp rfl rfl hw (by simp) (by simp) k
theorem gk_cSN0_6 {idx : Nat} {host : String} {x1 x2 x3 x4 x5 x6 : Value} (hv : gk_St M' 6) (hl : (M.1.cls, idx, M'.1, host) ∈ gk_nest) (hd : decode M.2.1 pc = .ok (.invokestatic idx, 3)) (hp : pc + 3 = pc') (hw : (rest.map fun v => v.category).sum ≤ 8) (k : Gm K M' d (0, 0) [x1, x2, x3, x4, x5, x6] h (fun v h' => v = none ∧ G K M (d + 1) b pc' L rest h' Q)) : G K M (d + 1) b pc L (x6 :: x5 :: x4 :: x3 :: x2 :: x1 :: rest) h Q := gk_callSN0 (b' := (0, 0)) (b2 := b) (As := [x1, x2, x3, x4, x5, x6]) hv.1 hl hv.2 hd hp rfl rfl hw (by simp) (by simp) k
theorem gk_cV1_6 {idx ci a : Nat} {fs : List Value} {x1 x2 x3 x4 x5 x6 : Value} (hv : gk_V M' 6 ci) (hl : Cond.methodLink M.1.cls idx M'.1 ∈ gk_good) (hd : decode M.2.1 pc = .ok (.invokevirtual idx, 3)) (hp : pc + 3 = pc') (hw : (rest.map fun v => v.category).sum ≤ 8) (ha : h.1 a = some (.inr (ci, fs))) (k : Gm K M' d (0, 0) (.ref a :: [x1, x2, x3, x4, x5, x6]) h (fun v h' => ∃ r : Value, v = some r ∧ G K M (d + 1) b pc' L (r :: rest) h' Q)) : G K M (d + 1) b pc L (x6 :: x5 :: x4 :: x3 :: x2 :: x1 :: .ref a :: rest) h Q := gk_callV1 (b' := (0, 0)) (b2 := b) (As := [x1, x2, x3, x4, x5, x6]) hv.1 hl hv.2.1 hv.2.2.1 hv.2.2.2 ha hd hp rfl rfl hw (by simp) (by simp) k
theorem gk_cS1_6 {idx : Nat} {x1 x2 x3 x4 x5 x6 : Value} (hv : gk_St M' 6) (hl : Cond.methodLink M.1.cls idx M'.1 ∈ gk_good) (hd : decode M.2.1 pc = .ok (.invokestatic idx, 3)) (hp : pc + 3 = pc') (hw : (rest.map fun v => v.category).sum ≤ 8) (k : Gm K M' d (0, 0) [x1, x2, x3, x4, x5, x6] h (fun v h' => ∃ r : Value, v = some r ∧ G K M (d + 1) b pc' L (r :: rest) h' Q)) : G K M (d + 1) b pc L (x6 :: x5 :: x4 :: x3 :: x2 :: x1 :: rest) h Q := gk_callS1 (b' := (0, 0)) (b2 := b) (As := [x1, x2, x3, x4, x5, x6]) hv.1 hl hv.2 hd hp rfl rfl hw (by simp) (by simp) k
theorem gk_cSN1_6 {idx : Nat} {host : String} {x1 x2 x3 x4 x5 x6 : Value} (hv : gk_St M' 6) (hl : (M.1.cls, idx, M'.1, host) ∈ gk_nest) (hd : decode M.2.1 pc = .ok (.invokestatic idx, 3)) (hp : pc + 3 = pc') (hw : (rest.map fun v => v.category).sum ≤ 8) (k : Gm K M' d (0, 0) [x1, x2, x3, x4, x5, x6] h (fun v h' => ∃ r : Value, v = some r ∧ G K M (d + 1) b pc' L (r :: rest) h' Q)) : G K M (d + 1) b pc L (x6 :: x5 :: x4 :: x3 :: x2 :: x1 :: rest) h Q := gk_callSN1 (b' := (0, 0)) (b2 := b) (As := [x1, x2, x3, x4, x5, x6]) hv.1 hl hv.2 hd hp rfl rfl hw (by simp) (by simp) k
theorem gk_cVb1_6 {idx ci a : Nat} {fs : List Value} {x1 x2 x3 x4 x5 x6 : Value} (hv : gk_V M' 6 ci) (hl : Cond.methodLink M.1.cls idx M'.1 ∈ gk_good) (hd : decode M.2.1 pc = .ok (.invokevirtual idx, 3)) (hp : pc + 3 = pc') (hw : (rest.map fun v => v.category).sum ≤ 8) (hb1 : b'.1 + b2.1 ≤ b.1) (hb2 : b'.2 + b2.2 ≤ b.2) (ha : h.1 a = some (.inr (ci, fs))) (k : Gm K M' d b' (.ref a :: [x1, x2, x3, x4, x5, x6]) h (fun v h' => ∃ r : Value, v = some r ∧ G K M (d + 1) b2 pc' L (r :: rest) h' Q)) : G K M (d + 1) b pc L (x6 :: x5 :: x4 :: x3 :: x2 :: x1 :: .ref a :: rest) h Q := gk_callV1 (b' := b') (b2 := b2) (As := [x1, x2, x3, x4, x5, x6]) hv.1 hl hv.2.1 hv.2.2.1 hv.2.2.2 ha hd hp rfl rfl hw hb1 hb2 k
theorem gk_cI_6 {idx a : Nat} {x1 x2 x3 x4 x5 x6 : Value} (hv : gk_I M' 6) (hl : Cond.methodLink M.1.cls idx M'.1 ∈ gk_good) (hd : decode M.2.1 pc = .ok (.invokespecial idx, 3)) (hp : pc + 3 = pc') (hw : (rest.map fun v => v.category).sum ≤ 8) (hb1 : b'.1 + b2.1 ≤ b.1) (hb2 : b'.2 + b2.2 ≤ b.2) (k : Gm K M' d b' (.ref a :: [x1, x2, x3, x4, x5, x6]) h (fun v h' => v = none ∧ G K M (d + 1) b2 pc' L rest h' Q)) : G K M (d + 1) b pc L (x6 :: x5 :: x4 :: x3 :: x2 :: x1 :: .ref a :: rest) h Q := gk_callI0 (b' := b') (b2 := b2) (As := [x1, x2, x3, x4, x5, x6]) hv.1 hv.2.1 hl hv.2.2.1 hv.2.2.2 hd hp rfl rfl hw hb1 hb2 k
theorem gk_cIN_6 {idx a : Nat} {host : String} {x1 x2 x3 x4 x5 x6 : Value} (hv : gk_I M' 6) (hl : (M.1.cls, idx, M'.1, host) ∈ gk_nest) (hd : decode M.2.1 pc = .ok (.invokespecial idx, 3)) (hp : pc + 3 = pc') (hw : (rest.map fun v => v.category).sum ≤ 8) (hb1 : b'.1 + b2.1 ≤ b.1) (hb2 : b'.2 + b2.2 ≤ b.2) (k : Gm K M' d b' (.ref a :: [x1, x2, x3, x4, x5, x6]) h (fun v h' => v = none ∧ G K M (d + 1) b2 pc' L rest h' Q)) : G K M (d + 1) b pc L (x6 :: x5 :: x4 :: x3 :: x2 :: x1 :: .ref a :: rest) h Q := gk_callIN0 (b' := b') (b2 := b2) (As := [x1, x2, x3, x4, x5, x6]) hv.1 hv.2.1 hl hv.2.2.1 hv.2.2.2 hd hp rfl rfl hw hb1 hb2 k
theorem gk_cV0_7 {idx ci a : Nat} {fs : List Value} {x1 x2 x3 x4 x5 x6 x7 : Value} (hv : gk_V M' 7 ci) (hl : Cond.methodLink M.1.cls idx M'.1 ∈ gk_good) (hd : decode M.2.1 pc = .ok (.invokevirtual idx, 3)) (hp : pc + 3 = pc') (hw : (rest.map fun v => v.category).sum ≤ 8) (ha : h.1 a = some (.inr (ci, fs))) (k : Gm K M' d (0, 0) (.ref a :: [x1, x2, x3, x4, x5, x6, x7]) h (fun v h' => v = none ∧ G K M (d + 1) b pc' L rest h' Q)) : G K M (d + 1) b pc L (x7 :: x6 :: x5 :: x4 :: x3 :: x2 :: x1 :: .ref a :: rest) h Q := gk_callV0 (b' := (0, 0)) (b2 := b) (As := [x1, x2, x3, x4, x5, x6, x7]) hv.1 hl hv.2.1 hv.2.2.1 hv.2.2.2 ha hd hp rfl rfl hw (by simp) (by simp) k
theorem gk_cS0_7 {idx : Nat} {x1 x2 x3 x4 x5 x6 x7 : Value} (hv : gk_St M' 7) (hl : Cond.methodLink M.1.cls idx M'.1 ∈ gk_good) (hd : decode M.2.1 pc = .ok (.invokestatic idx, 3)) (hp : pc + 3 = pc') (hw : (rest.map fun v => v.category).sum ≤ 8) (k : Gm K M' d (0, 0) [x1, x2, x3, x4, x5, x6, x7] h (fun v h' => v = none ∧ G K M (d + 1) b pc' L rest h' Q)) : G K M (d + 1) b pc L (x7 :: x6 :: x5 :: x4 :: x3 :: x2 :: x1 :: rest) h Q := gk_callS0 (b' := (0, 0)) (b2 := b) (As := [x1, x2, x3, x4, x5, x6, x7]) hv.1 hl hv.2 hd hp rfl rfl hw (by simp) (by simp) k
theorem gk_cSN0_7 {idx : Nat} {host : String} {x1 x2 x3 x4 x5 x6 x7 : Value} (hv : gk_St M' 7) (hl : (M.1.cls, idx, M'.1, host) ∈ gk_nest) (hd : decode M.2.1 pc = .ok (.invokestatic idx, 3)) (hp : pc + 3 = pc') (hw : (rest.map fun v => v.category).sum ≤ 8) (k : Gm K M' d (0, 0) [x1, x2, x3, x4, x5, x6, x7] h (fun v h' => v = none ∧ G K M (d + 1) b pc' L rest h' Q)) : G K M (d + 1) b pc L (x7 :: x6 :: x5 :: x4 :: x3 :: x2 :: x1 :: rest) h Q := gk_callSN0 (b' := (0, 0)) (b2 := b) (As := [x1, x2, x3, x4, x5, x6, x7]) hv.1 hl hv.2 hd hp rfl rfl hw (by simp) (by simp) k
theorem gk_cV1_7 {idx ci a : Nat} {fs : List Value} {x1 x2 x3 x4 x5 x6 x7 : Value} (hv : gk_V M' 7 ci) (hl : Cond.methodLink M.1.cls idx M'.1 ∈ gk_good) (hd : decode M.2.1 pc = .ok (.invokevirtual idx, 3)) (hp : pc + 3 = pc') (hw : (rest.map fun v => v.category).sum ≤ 8) (ha : h.1 a = some (.inr (ci, fs))) (k : Gm K M' d (0, 0) (.ref a :: [x1, x2, x3, x4, x5, x6, x7]) h (fun v h' => ∃ r : Value, v = some r ∧ G K M (d + 1) b pc' L (r :: rest) h' Q)) : G K M (d + 1) b pc L (x7 :: x6 :: x5 :: x4 :: x3 :: x2 :: x1 :: .ref a :: rest) h Q := gk_callV1 (b' := (0, 0)) (b2 := b) (As := [x1, x2, x3, x4, x5, x6, x7]) hv.1 hl hv.2.1 hv.2.2.1 hv.2.2.2 ha hd hp rfl rfl hw (by simp) (by simp) k
theorem gk_cS1_7 {idx : Nat} {x1 x2 x3 x4 x5 x6 x7 : Value} (hv : gk_St M' 7) (hl : Cond.methodLink M.1.cls idx M'.1 ∈ gk_good) (hd : decode M.2.1 pc = .ok (.invokestatic idx, 3)) (hp : pc + 3 = pc') (hw : (rest.map fun v => v.category).sum ≤ 8) (k : Gm K M' d (0, 0) [x1, x2, x3, x4, x5, x6, x7] h (fun v h' => ∃ r : Value, v = some r ∧ G K M (d + 1) b pc' L (r :: rest) h' Q)) : G K M (d + 1) b pc L (x7 :: x6 :: x5 :: x4 :: x3 :: x2 :: x1 :: rest) h Q := gk_callS1 (b' := (0, 0)) (b2 := b) (As := [x1, x2, x3, x4, x5, x6, x7]) hv.1 hl hv.2 hd hp rfl rfl hw (by simp) (by simp) k
theorem gk_cSN1_7 {idx : Nat} {host : String} {x1 x2 x3 x4 x5 x6 x7 : Value} (hv : gk_St M' 7) (hl : (M.1.cls, idx, M'.1, host) ∈ gk_nest) (hd : decode M.2.1 pc = .ok (.invokestatic idx, 3)) (hp : pc + 3 = pc') (hw : (rest.map fun v => v.category).sum ≤ 8) (k : Gm K M' d (0, 0) [x1, x2, x3, x4, x5, x6, x7] h (fun v h' => ∃ r : Value, v = some r ∧ G K M (d + 1) b pc' L (r :: rest) h' Q)) : G K M (d + 1) b pc L (x7 :: x6 :: x5 :: x4 :: x3 :: x2 :: x1 :: rest) h Q := gk_callSN1 (b' := (0, 0)) (b2 := b) (As := [x1, x2, x3, x4, x5, x6, x7]) hv.1 hl hv.2 hd hp rfl rfl hw (by simp) (by simp) k
theorem gk_cVb1_7 {idx ci a : Nat} {fs : List Value} {x1 x2 x3 x4 x5 x6 x7 : Value} (hv : gk_V M' 7 ci) (hl : Cond.methodLink M.1.cls idx M'.1 ∈ gk_good) (hd : decode M.2.1 pc = .ok (.invokevirtual idx, 3)) (hp : pc + 3 = pc') (hw : (rest.map fun v => v.category).sum ≤ 8) (hb1 : b'.1 + b2.1 ≤ b.1) (hb2 : b'.2 + b2.2 ≤ b.2) (ha : h.1 a = some (.inr (ci, fs))) (k : Gm K M' d b' (.ref a :: [x1, x2, x3, x4, x5, x6, x7]) h (fun v h' => ∃ r : Value, v = some r ∧ G K M (d + 1) b2 pc' L (r :: rest) h' Q)) : G K M (d + 1) b pc L (x7 :: x6 :: x5 :: x4 :: x3 :: x2 :: x1 :: .ref a :: rest) h Q := gk_callV1 (b' := b') (b2 := b2) (As := [x1, x2, x3, x4, x5, x6, x7]) hv.1 hl hv.2.1 hv.2.2.1 hv.2.2.2 ha hd hp rfl rfl hw hb1 hb2 k
theorem gk_cI_7 {idx a : Nat} {x1 x2 x3 x4 x5 x6 x7 : Value} (hv : gk_I M' 7) (hl : Cond.methodLink M.1.cls idx M'.1 ∈ gk_good) (hd : decode M.2.1 pc = .ok (.invokespecial idx, 3)) (hp : pc + 3 = pc') (hw : (rest.map fun v => v.category).sum ≤ 8) (hb1 : b'.1 + b2.1 ≤ b.1) (hb2 : b'.2 + b2.2 ≤ b.2) (k : Gm K M' d b' (.ref a :: [x1, x2, x3, x4, x5, x6, x7]) h (fun v h' => v = none ∧ G K M (d + 1) b2 pc' L rest h' Q)) : G K M (d + 1) b pc L (x7 :: x6 :: x5 :: x4 :: x3 :: x2 :: x1 :: .ref a :: rest) h Q := gk_callI0 (b' := b') (b2 := b2) (As := [x1, x2, x3, x4, x5, x6, x7]) hv.1 hv.2.1 hl hv.2.2.1 hv.2.2.2 hd hp rfl rfl hw hb1 hb2 k
theorem gk_cIN_7 {idx a : Nat} {host : String} {x1 x2 x3 x4 x5 x6 x7 : Value} (hv : gk_I M' 7) (hl : (M.1.cls, idx, M'.1, host) ∈ gk_nest) (hd : decode M.2.1 pc = .ok (.invokespecial idx, 3)) (hp : pc + 3 = pc') (hw : (rest.map fun v => v.category).sum ≤ 8) (hb1 : b'.1 + b2.1 ≤ b.1) (hb2 : b'.2 + b2.2 ≤ b.2) (k : Gm K M' d b' (.ref a :: [x1, x2, x3, x4, x5, x6, x7]) h (fun v h' => v = none ∧ G K M (d + 1) b2 pc' L rest h' Q)) : G K M (d + 1) b pc L (x7 :: x6 :: x5 :: x4 :: x3 :: x2 :: x1 :: .ref a :: rest) h Q := gk_callIN0 (b' := b') (b2 := b2) (As := [x1, x2, x3, x4, x5, x6, x7]) hv.1 hv.2.1 hl hv.2.2.1 hv.2.2.2 hd hp rfl rfl hw hb1 hb2 k
theorem gk_cV0_8 {idx ci a : Nat} {fs : List Value} {x1 x2 x3 x4 x5 x6 x7 x8 : Value} (hv : gk_V M' 8 ci) (hl : Cond.methodLink M.1.cls idx M'.1 ∈ gk_good) (hd : decode M.2.1 pc = .ok (.invokevirtual idx, 3)) (hp : pc + 3 = pc') (hw : (rest.map fun v => v.category).sum ≤ 8) (ha : h.1 a = some (.inr (ci, fs))) (k : Gm K M' d (0, 0) (.ref a :: [x1, x2, x3, x4, x5, x6, x7, x8]) h (fun v h' => v = none ∧ G K M (d + 1) b pc' L rest h' Q)) : G K M (d + 1) b pc L (x8 :: x7 :: x6 :: x5 :: x4 :: x3 :: x2 :: x1 :: .ref a :: rest) h Q := gk_callV0 (b' := (0, 0)) (b2 := b) (As := [x1, x2, x3, x4, x5, x6, x7, x8]) hv.1 hl hv.2.1 hv.2.2.1 hv.2.2.2 ha hd hp rfl rfl hw (by simp) (by simp) k
theorem gk_cS0_8 {idx : Nat} {x1 x2 x3 x4 x5 x6 x7 x8 : Value} (hv : gk_St M' 8) (hl : Cond.methodLink M.1.cls idx M'.1 ∈ gk_good) (hd : decode M.2.1 pc = .ok (.invokestatic idx, 3)) (hp : pc + 3 = pc') (hw : (rest.map fun v => v.category).sum ≤ 8) (k : Gm K M' d (0, 0) [x1, x2, x3, x4, x5, x6, x7, x8] h (fun v h' => v = none ∧ G K M (d + 1) b pc' L rest h' Q)) : G K M (d + 1) b pc L (x8 :: x7 :: x6 :: x5 :: x4 :: x3 :: x2 :: x1 :: rest) h Q := gk_callS0 (b' := (0, 0)) (b2 := b) (As := [x1, x2, x3, x4, x5, x6, x7, x8]) hv.1 hl hv.2 hd hp rfl rfl hw (by simp) (by simp) k
theorem gk_cSN0_8 {idx : Nat} {host : String} {x1 x2 x3 x4 x5 x6 x7 x8 : Value} (hv : gk_St M' 8) (hl : (M.1.cls, idx, M'.1, host) ∈ gk_nest) (hd : decode M.2.1 pc = .ok (.invokestatic idx, 3)) (hp : pc + 3 = pc') (hw : (rest.map fun v => v.category).sum ≤ 8) (k : Gm K M' d (0, 0) [x1, x2, x3, x4, x5, x6, x7, x8] h (fun v h' => v = none ∧ G K M (d + 1) b pc' L rest h' Q)) : G K M (d + 1) b pc L (x8 :: x7 :: x6 :: x5 :: x4 :: x3 :: x2 :: x1 :: rest) h Q := gk_callSN0 (b' := (0, 0)) (b2 := b) (As := [x1, x2, x3, x4, x5, x6, x7, x8]) hv.1 hl hv.2 hd hp rfl rfl hw (by simp) (by simp) k
theorem gk_cV1_8 {idx ci a : Nat} {fs : List Value} {x1 x2 x3 x4 x5 x6 x7 x8 : Value} (hv : gk_V M' 8 ci) (hl : Cond.methodLink M.1.cls idx M'.1 ∈ gk_good) (hd : decode M.2.1 pc = .ok (.invokevirtual idx, 3)) (hp : pc + 3 = pc') (hw : (rest.map fun v => v.category).sum ≤ 8) (ha : h.1 a = some (.inr (ci, fs))) (k : Gm K M' d (0, 0) (.ref a :: [x1, x2, x3, x4, x5, x6, x7, x8]) h (fun v h' => ∃ r : Value, v = some r ∧ G K M (d + 1) b pc' L (r :: rest) h' Q)) : G K M (d + 1) b pc L (x8 :: x7 :: x6 :: x5 :: x4 :: x3 :: x2 :: x1 :: .ref a :: rest) h Q := gk_callV1 (b' := (0, 0)) (b2 := b) (As := [x1, x2, x3, x4, x5, x6, x7, x8]) hv.1 hl hv.2.1 hv.2.2.1 hv.2.2.2 ha hd hp rfl rfl hw (by simp) (by simp) k
theorem gk_cS1_8 {idx : Nat} {x1 x2 x3 x4 x5 x6 x7 x8 : Value} (hv : gk_St M' 8) (hl : Cond.methodLink M.1.cls idx M'.1 ∈ gk_good) (hd : decode M.2.1 pc = .ok (.invokestatic idx, 3)) (hp : pc + 3 = pc') (hw : (rest.map fun v => v.category).sum ≤ 8) (k : Gm K M' d (0, 0) [x1, x2, x3, x4, x5, x6, x7, x8] h (fun v h' => ∃ r : Value, v = some r ∧ G K M (d + 1) b pc' L (r :: rest) h' Q)) : G K M (d + 1) b pc L (x8 :: x7 :: x6 :: x5 :: x4 :: x3 :: x2 :: x1 :: rest) h Q := gk_callS1 (b' := (0, 0)) (b2 := b) (As := [x1, x2, x3, x4, x5, x6, x7, x8]) hv.1 hl hv.2 hd hp rfl rfl hw (by simp) (by simp) k
theorem gk_cSN1_8 {idx : Nat} {host : String} {x1 x2 x3 x4 x5 x6 x7 x8 : Value} (hv : gk_St M' 8) (hl : (M.1.cls, idx, M'.1, host) ∈ gk_nest) (hd : decode M.2.1 pc = .ok (.invokestatic idx, 3)) (hp : pc + 3 = pc') (hw : (rest.map fun v => v.category).sum ≤ 8) (k : Gm K M' d (0, 0) [x1, x2, x3, x4, x5, x6, x7, x8] h (fun v h' => ∃ r : Value, v = some r ∧ G K M (d + 1) b pc' L (r :: rest) h' Q)) : G K M (d + 1) b pc L (x8 :: x7 :: x6 :: x5 :: x4 :: x3 :: x2 :: x1 :: rest) h Q := gk_callSN1 (b' := (0, 0)) (b2 := b) (As := [x1, x2, x3, x4, x5, x6, x7, x8]) hv.1 hl hv.2 hd hp rfl rfl hw (by simp) (by simp) k
theorem gk_cVb1_8 {idx ci a : Nat} {fs : List Value} {x1 x2 x3 x4 x5 x6 x7 x8 : Value} (hv : gk_V M' 8 ci) (hl : Cond.methodLink M.1.cls idx M'.1 ∈ gk_good) (hd : decode M.2.1 pc = .ok (.invokevirtual idx, 3)) (hp : pc + 3 = pc') (hw : (rest.map fun v => v.category).sum ≤ 8) (hb1 : b'.1 + b2.1 ≤ b.1) (hb2 : b'.2 + b2.2 ≤ b.2) (ha : h.1 a = some (.inr (ci, fs))) (k : Gm K M' d b' (.ref a :: [x1, x2, x3, x4, x5, x6, x7, x8]) h (fun v h' => ∃ r : Value, v = some r ∧ G K M (d + 1) b2 pc' L (r :: rest) h' Q)) : G K M (d + 1) b pc L (x8 :: x7 :: x6 :: x5 :: x4 :: x3 :: x2 :: x1 :: .ref a :: rest) h Q := gk_callV1 (b' := b') (b2 := b2) (As := [x1, x2, x3, x4, x5, x6, x7, x8]) hv.1 hl hv.2.1 hv.2.2.1 hv.2.2.2 ha hd hp rfl rfl hw hb1 hb2 k
theorem gk_cI_8 {idx a : Nat} {x1 x2 x3 x4 x5 x6 x7 x8 : Value} (hv : gk_I M' 8) (hl : Cond.methodLink M.1.cls idx M'.1 ∈ gk_good) (hd : decode M.2.1 pc = .ok (.invokespecial idx, 3)) (hp : pc + 3 = pc') (hw : (rest.map fun v => v.category).sum ≤ 8) (hb1 : b'.1 + b2.1 ≤ b.1) (hb2 : b'.2 + b2.2 ≤ b.2) (k : Gm K M' d b' (.ref a :: [x1, x2, x3, x4, x5, x6, x7, x8]) h (fun v h' => v = none ∧ G K M (d + 1) b2 pc' L rest h' Q)) : G K M (d + 1) b pc L (x8 :: x7 :: x6 :: x5 :: x4 :: x3 :: x2 :: x1 :: .ref a :: rest) h Q := gk_callI0 (b' := b') (b2 := b2) (As := [x1, x2, x3, x4, x5, x6, x7, x8]) hv.1 hv.2.1 hl hv.2.2.1 hv.2.2.2 hd hp rfl rfl hw hb1 hb2 k
theorem gk_cIN_8 {idx a : Nat} {host : String} {x1 x2 x3 x4 x5 x6 x7 x8 : Value} (hv : gk_I M' 8) (hl : (M.1.cls, idx, M'.1, host) ∈ gk_nest) (hd : decode M.2.1 pc = .ok (.invokespecial idx, 3)) (hp : pc + 3 = pc') (hw : (rest.map fun v => v.category).sum ≤ 8) (hb1 : b'.1 + b2.1 ≤ b.1) (hb2 : b'.2 + b2.2 ≤ b.2) (k : Gm K M' d b' (.ref a :: [x1, x2, x3, x4, x5, x6, x7, x8]) h (fun v h' => v = none ∧ G K M (d + 1) b2 pc' L rest h' Q)) : G K M (d + 1) b pc L (x8 :: x7 :: x6 :: x5 :: x4 :: x3 :: x2 :: x1 :: .ref a :: rest) h Q := gk_callIN0 (b' := b') (b2 := b2) (As := [x1, x2, x3, x4, x5, x6, x7, x8]) hv.1 hv.2.1 hl hv.2.2.1 hv.2.2.2 hd hp rfl rfl hw hb1 hb2 k
end GKR
