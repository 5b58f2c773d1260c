/-! ===== Bench: whole pictures ===== -/
theorem sn_rng {w t : Nat} {p : Nat → Int32} {x y : Int} {e : Int32} (h1 : 1 ≤ w) (h2 : 1 ≤ t) (hr : ∀ i, i < w * t → -32768 ≤ (p i).toInt ∧ (p i).toInt ≤ 32767) : -32768 ≤ (sn w t p x y e).toInt ∧ (sn w t p x y e).toInt ≤ 32767 := by
  unfold sn
  split
  · exact hr _ (place_lt (by omega) (by omega))
  · split
    · decide
    · exact hr _ (place_lt (fo_lt h1) (fo_lt h2))
/-- what SQUARE and RANK make at place i -/
def arF (fk fa : Int32) (wt : Nat → Int32) (k : Int32) (w t : Nat) (p : Nat → Int32) (e : Int32) (i : Nat) : Int32 := if fk = 4 then kpt k (rnd (wsm (nin w t p (i % w : Nat) (i / w : Nat) e) wt 9) fa.toInt) else srt (nin w t p (i % w : Nat) (i / w : Nat) e) 8 fa.toInt.toNat
def haF (p q : Nat → Int32) (i : Nat) : Int32 := (p i + q i) >>> (1 &&& 31)
/-- where a mask is off, the old -/
def whF (R : Nat → Nat) (w : Nat) (q p : Nat → Int32) (i : Nat) : Int32 := if (R (i / w)).testBit (i % w) then q i else p i
section BnB
variable {X : gX} {d : Nat} {b : Nat × Nat} {h : gk_H} {Q : Option Value → gk_H → Prop} {a o o' : Nat} {k : Int32} {w t : Nat} {p g : Nat → Int32} {fa : Nat} {fk a1 b1 : Int32} {hg : Nat} {f1 f2 : Option Nat} {wt : Nat → Int32}
theorem isFl.fr {h' : gk_H} {A : Nat → Prop} (hp : isFl X h fa fk a1 b1 hg f1 f2 wt) (hf : fr A h h') (h0 : ¬ A fa) (h1 : ¬ A (fa + 1)) : isFl X h' fa fk a1 b1 hg f1 f2 wt := hp.kept (hf.2 _ h0) (hf.2 _ h1)
theorem lp_Bench_each {h0 : gk_H} (n1 : o ≠ o' ∧ o ≠ o' + 1 ∧ o' ≠ o + 1) (n2 : fa ≠ o' + 1 ∧ fa ≠ o') (hp0 : isPic X h0 o k w t p) (hf0 : isFl X h0 fa fk a1 b1 hg f1 f2 wt) (hk : fk = 0 ∨ fk = 1 ∨ fk = 2 ∨ fk = 3) (hr : ∀ i, i < w * t → -32768 ≤ (p i).toInt ∧ (p i).toInt ≤ 32767) (ha1 : fk = 3 → -100000 ≤ a1.toInt ∧ a1.toInt ≤ 100000) (hb1 : fk = 3 → 1 ≤ b1.toInt ∧ b1.toInt ≤ 1000)
    (hQ : ∀ h, isPic X h o' k w t (fun i => mdF fk a1 b1 k (p i)) → fr (fun c => c = o' + 1) h0 h → Q none h) :
    ∀ f i h g, i + f = w * t → isPic X h o' k w t g → (∀ j, j < i → g j = mdF fk a1 b1 k (p j)) → fr (fun c => c = o' + 1) h0 h → G (kx X) mt_Bench_developEach (d + 3) b 2 [some (.ref fa), some (.ref o), some (.ref o'), some (.int (nI i))] [] h Q := by
  intro f
  induction f with
  | zero =>
    intro i h g hi hg hgo hf
    have hp := hp0.fr hf (by omega) (by omega)
    have q1 := hp.o
    have har := hp.area
    refine gk_iload3 dX1_developEach_2 (pc' := 3) rfl ?_
    refine gk_aload1 dX1_developEach_3 (pc' := 4) rfl ?_
    refine gk_cV1_0 mv_Picture_area gw_524 dX1_developEach_4 (pc' := 7) rfl (Nat.le_of_ble_eq_true rfl) (by exact (q1)) (sp_Picture_area hp ?_)
    refine ⟨_, rfl, ?_⟩
    refine gk_icmp_ge dX1_developEach_7 (tgt := 31) (pc' := 10) (by decide) rfl (fun c7 => ?_) (fun c7 => absurd (nI_le (by omega) (by omega)) c7)
    refine gk_vret dX1_developEach_31 rfl (hQ h (hg.congr (fun j hj => hgo j (by omega))) hf)
  | succ f ih =>
    intro i h g hi hg hgo hf
    have hp := hp0.fr hf (by omega) (by omega)
    have q1 := hp.o
    have q2 := hg.o
    have har := hp.area
    have hfl := hf0.fr hf (by omega) (by omega)
    refine gk_iload3 dX1_developEach_2 (pc' := 3) rfl ?_
    refine gk_aload1 dX1_developEach_3 (pc' := 4) rfl ?_
    refine gk_cV1_0 mv_Picture_area gw_524 dX1_developEach_4 (pc' := 7) rfl (Nat.le_of_ble_eq_true rfl) (by exact (q1)) (sp_Picture_area hp ?_)
    refine ⟨_, rfl, ?_⟩
    refine gk_icmp_ge dX1_developEach_7 (tgt := 31) (pc' := 10) (by decide) rfl (fun c7 => absurd c7 (nI_ge (by omega) (by omega))) (fun c7 => ?_)
    refine gk_aload2 dX1_developEach_10 (pc' := 11) rfl ?_
    refine gk_iload3 dX1_developEach_11 (pc' := 12) rfl ?_
    refine gk_aload0 dX1_developEach_12 (pc' := 13) rfl ?_
    refine gk_aload1 dX1_developEach_13 (pc' := 14) rfl ?_
    refine gk_aload1 dX1_developEach_14 (pc' := 15) rfl ?_
    refine gk_iload3 dX1_developEach_15 (pc' := 16) rfl ?_
    refine gk_cV1_1 mv_Picture_pixel gw_520 dX1_developEach_16 (pc' := 19) rfl (Nat.le_of_ble_eq_true rfl) (by exact (q1)) (sp_Picture_pixel hp (by omega) ?_)
    refine ⟨_, rfl, ?_⟩
    refine gk_cS1_3 mz_Bench_madeOf gw_528 dX1_developEach_19 (pc' := 22) rfl (Nat.le_of_ble_eq_true rfl) (sp_Bench_madeOf hp hfl hk (hr i (by omega)) ha1 hb1 ?_)
    refine ⟨_, rfl, ?_⟩
    refine gk_cV0_2 mv_Picture_set gw_507 dX1_developEach_22 (pc' := 25) rfl (Nat.le_of_ble_eq_true rfl) (by exact (q2)) (sp_Picture_set hg (by omega) (fun h' r1 r2 => ?_))
    refine ⟨rfl, ?_⟩
    refine gk_iinc3 (v := 1) dX1_developEach_25 (pc' := 28) rfl (by decide) (by decide) rfl ?_
    refine gk_goto dX1_developEach_28 (tgt := 2) (by decide) ?_
    rw [← nI_succ]
    exact ih (i + 1) h' _ (by omega) r1 (upd_lt (F := fun i => mdF fk a1 b1 k (p i)) hgo rfl) (hf.trans r2 (fun _ z => z) (fun _ z => z))
theorem sp_Bench_developEach (n1 : o ≠ o' ∧ o ≠ o' + 1 ∧ o' ≠ o + 1) (n2 : fa ≠ o' + 1 ∧ fa ≠ o') (hp : isPic X h o k w t p) (hg' : isPic X h o' k w t g) (hf : isFl X h fa fk a1 b1 hg f1 f2 wt) (hk : fk = 0 ∨ fk = 1 ∨ fk = 2 ∨ fk = 3) (hr : ∀ i, i < w * t → -32768 ≤ (p i).toInt ∧ (p i).toInt ≤ 32767) (ha1 : fk = 3 → -100000 ≤ a1.toInt ∧ a1.toInt ≤ 100000) (hb1 : fk = 3 → 1 ≤ b1.toInt ∧ b1.toInt ≤ 1000)
    (hQ : ∀ h', isPic X h' o' k w t (fun i => mdF fk a1 b1 k (p i)) → fr (fun c => c = o' + 1) h h' → Q none h') : Gm (kx X) mt_Bench_developEach (d + 3) b [.ref fa, .ref o, .ref o'] h Q := by
  refine Gm.enter (L := [some (.ref fa), some (.ref o), some (.ref o'), none]) (by decide) (fun _ => trivial) (Nat.le_of_ble_eq_true rfl) rfl ?_
  refine gk_iconst (v := 0) dX1_developEach_0 (pc' := 1) rfl (by decide) ?_
  refine gk_istore3 dX1_developEach_1 (pc' := 2) rfl (by decide) rfl ?_
  exact lp_Bench_each n1 n2 hp hf hk hr ha1 hb1 hQ (w * t) 0 h g (by omega) hg' (fun j hj => absurd hj (by omega)) fr.rf
theorem lp_Bench_halve {h0 : gk_H} {q : Nat → Int32} (n1 : o ≠ o' ∧ o ≠ o' + 1 ∧ o' ≠ o + 1) (hp0 : isPic X h0 o k w t q) (hQ : ∀ h, isPic X h o' k w t (haF p q) → fr (fun c => c = o' + 1) h0 h → Q none h) :
    ∀ f i h g, i + f = w * t → isPic X h o' k w t g → (∀ j, j < w * t → g j = if j < i then haF p q j else p j) → fr (fun c => c = o' + 1) h0 h → G (kx X) mt_Bench_halve (d + 1) b 2 [some (.ref o), some (.ref o'), some (.int (nI i))] [] h Q := by
  intro f
  induction f with
  | zero =>
    intro i h g hi hg hgo hf
    have q1 := hg.o
    have har := hg.area
    refine gk_iload2 dX1_halve_2 (pc' := 3) rfl ?_
    refine gk_aload1 dX1_halve_3 (pc' := 4) rfl ?_
    refine gk_cV1_0 mv_Picture_area gw_524 dX1_halve_4 (pc' := 7) rfl (Nat.le_of_ble_eq_true rfl) (by exact (q1)) (sp_Picture_area hg ?_)
    refine ⟨_, rfl, ?_⟩
    refine gk_icmp_ge dX1_halve_7 (tgt := 34) (pc' := 10) (by decide) rfl (fun c7 => ?_) (fun c7 => absurd (nI_le (by omega) (by omega)) c7)
    refine gk_vret dX1_halve_34 rfl (hQ h (hg.congr (fun j hj => by rw [hgo j hj, if_pos (by omega)])) hf)
  | succ f ih =>
    intro i h g hi hg hgo hf
    have hp := hp0.fr hf (by omega) (by omega)
    have q1 := hp.o
    have q2 := hg.o
    have har := hp.area
    refine gk_iload2 dX1_halve_2 (pc' := 3) rfl ?_
    refine gk_aload1 dX1_halve_3 (pc' := 4) rfl ?_
    refine gk_cV1_0 mv_Picture_area gw_524 dX1_halve_4 (pc' := 7) rfl (Nat.le_of_ble_eq_true rfl) (by exact (q2)) (sp_Picture_area hg ?_)
    refine ⟨_, rfl, ?_⟩
    refine gk_icmp_ge dX1_halve_7 (tgt := 34) (pc' := 10) (by decide) rfl (fun c7 => absurd c7 (nI_ge (by omega) (by omega))) (fun c7 => ?_)
    refine gk_aload1 dX1_halve_10 (pc' := 11) rfl ?_
    refine gk_iload2 dX1_halve_11 (pc' := 12) rfl ?_
    refine gk_aload1 dX1_halve_12 (pc' := 13) rfl ?_
    refine gk_iload2 dX1_halve_13 (pc' := 14) rfl ?_
    refine gk_cV1_1 mv_Picture_pixel gw_520 dX1_halve_14 (pc' := 17) rfl (Nat.le_of_ble_eq_true rfl) (by exact (q2)) (sp_Picture_pixel hg (by omega) ?_)
    refine ⟨_, rfl, ?_⟩
    rw [hgo i (by omega), if_neg (by omega)]
    refine gk_aload0 dX1_halve_17 (pc' := 18) rfl ?_
    refine gk_iload2 dX1_halve_18 (pc' := 19) rfl ?_
    refine gk_cV1_1 mv_Picture_pixel gw_520 dX1_halve_19 (pc' := 22) rfl (Nat.le_of_ble_eq_true rfl) (by exact (q1)) (sp_Picture_pixel hp (by omega) ?_)
    refine ⟨_, rfl, ?_⟩
    refine gk_iadd dX1_halve_22 (pc' := 23) rfl ?_
    refine gk_iconst (v := 1) dX1_halve_23 (pc' := 24) rfl (by decide) ?_
    refine gk_ishr dX1_halve_24 (pc' := 25) rfl ?_
    refine gk_cV0_2 mv_Picture_set gw_507 dX1_halve_25 (pc' := 28) rfl (Nat.le_of_ble_eq_true rfl) (by exact (q2)) (sp_Picture_set hg (by omega) (fun h' r1 r2 => ?_))
    refine ⟨rfl, ?_⟩
    refine gk_iinc2 (v := 1) dX1_halve_28 (pc' := 31) rfl (by decide) (by decide) rfl ?_
    refine gk_goto dX1_halve_31 (tgt := 2) (by decide) ?_
    rw [← nI_succ]
    refine ih (i + 1) h' _ (by omega) r1 (fun j hj => ?_) (hf.trans r2 (fun _ z => z) (fun _ z => z))
    by_cases z : j = i
    · rw [z, pk_us, if_pos (by omega)]; rfl
    · rw [pk_un z, hgo j hj]
      by_cases z2 : j < i
      · rw [if_pos z2, if_pos (by omega)]
      · rw [if_neg z2, if_neg (by omega)]
theorem sp_Bench_halve {q : Nat → Int32} (n1 : o ≠ o' ∧ o ≠ o' + 1 ∧ o' ≠ o + 1) (hp : isPic X h o k w t q) (hg' : isPic X h o' k w t p) (hQ : ∀ h', isPic X h' o' k w t (haF p q) → fr (fun c => c = o' + 1) h h' → Q none h') : Gm (kx X) mt_Bench_halve (d + 1) b [.ref o, .ref o'] h Q := by
  refine Gm.enter (L := [some (.ref o), some (.ref o'), none]) (by decide) (fun _ => trivial) (Nat.le_of_ble_eq_true rfl) rfl ?_
  refine gk_iconst (v := 0) dX1_halve_0 (pc' := 1) rfl (by decide) ?_
  refine gk_istore2 dX1_halve_1 (pc' := 2) rfl (by decide) rfl ?_
  exact lp_Bench_halve n1 hp hQ (w * t) 0 h p (by omega) hg' (fun j hj => by rw [if_neg (by omega)]) fr.rf
theorem lp_Bench_unlitX {h0 : gk_H} {mo : Nat} {R : Nat → Nat} {q : Nat → Int32} {y : Nat} (n1 : o ≠ o' ∧ o ≠ o' + 1 ∧ o' ≠ o + 1) (n2 : mo ≠ o' + 1 ∧ mo + 1 ≠ o' + 1) (hp0 : isPic X h0 o k w t p) (hm0 : isMk X h0 mo R) (hy : y < t)
    (hQ : ∀ h g, isPic X h o' k w t g → (∀ j, j < w * t → g j = if j < y * w + w then whF R w q p j else q j) → fr (fun c => c = o' + 1) h0 h → ∀ l4, G (kx X) mt_Bench_restoreUnlit (d + 3) b 60 [some (.ref mo), some (.ref o), some (.ref o'), some (.int (nI y)), l4] [] h Q) :
    ∀ f x h g, x + f = w → isPic X h o' k w t g → (∀ j, j < w * t → g j = if j < y * w + x then whF R w q p j else q j) → fr (fun c => c = o' + 1) h0 h → G (kx X) mt_Bench_restoreUnlit (d + 3) b 13 [some (.ref mo), some (.ref o), some (.ref o'), some (.int (nI y)), some (.int (nI x))] [] h Q := by
  intro f
  induction f with
  | zero =>
    intro x h g hx hg hgo hf
    have hp := hp0.fr hf (by omega) (by omega)
    have q1 := hp.o
    have hw := hp.1
    have e : x = w := by omega
    subst e
    refine gk_iload4 dX1_restoreUnlit_13 (pc' := 15) rfl ?_
    refine gk_aload1 dX1_restoreUnlit_15 (pc' := 16) rfl ?_
    refine gk_getf (fs := [_, _, _, _]) gF_Bench_26 dX1_restoreUnlit_16 (pc' := 19) rfl (by exact (q1)) rfl ?_
    refine gk_icmp_ge dX1_restoreUnlit_19 (tgt := 60) (pc' := 22) (by decide) rfl (fun c19 => ?_) (fun c19 => absurd (nI_le (by omega) (by omega)) c19)
    exact hQ h g hg hgo hf _
  | succ f ih =>
    intro x h g hx hg hgo hf
    have hp := hp0.fr hf (by omega) (by omega)
    have hm := hm0.fr hf (by omega) (by omega)
    have q1 := hp.o
    have q2 := hg.o
    have m1 := hm.o
    have hw := hp.1
    have hh := hp.2.1
    have hxw : x < w := by omega
    have o1 := place_lt hxw hy
    have har := hp.area
    have eq0 : whF R w q p (y * w + x) = if (R y).testBit x then q (y * w + x) else p (y * w + x) := by unfold whF; rw [(dm hxw).1, (dm hxw).2]
    refine gk_iload4 dX1_restoreUnlit_13 (pc' := 15) rfl ?_
    refine gk_aload1 dX1_restoreUnlit_15 (pc' := 16) rfl ?_
    refine gk_getf (fs := [_, _, _, _]) gF_Bench_26 dX1_restoreUnlit_16 (pc' := 19) rfl (by exact (q1)) rfl ?_
    refine gk_icmp_ge dX1_restoreUnlit_19 (tgt := 60) (pc' := 22) (by decide) rfl (fun c19 => absurd c19 (nI_ge (by omega) (by omega))) (fun c19 => ?_)
    refine gk_aload0 dX1_restoreUnlit_22 (pc' := 23) rfl ?_
    refine gk_iload4 dX1_restoreUnlit_23 (pc' := 25) rfl ?_
    refine gk_iload3 dX1_restoreUnlit_25 (pc' := 26) rfl ?_
    refine gk_cV1_2 mv_Mask_lit gw_513 dX1_restoreUnlit_26 (pc' := 29) rfl (Nat.le_of_ble_eq_true rfl) (by exact (m1)) (sp_Mask_lit hm (by omega) (by omega) (fun c26 => ?_) (fun c26 => ?_))
    · refine ⟨_, rfl, ?_⟩
      rw [if_pos c26] at eq0
      have nx : ∀ j, j < w * t → g j = if j < y * w + (x + 1) then whF R w q p j else q j := fun j hj => by
        rw [hgo j hj]
        by_cases z : j = y * w + x
        · rw [if_neg (by omega), if_pos (by omega), z, eq0]
        · by_cases z2 : j < y * w + x
          · rw [if_pos z2, if_pos (by omega)]
          · rw [if_neg z2, if_neg (by omega)]
      refine gk_if_ne dX1_restoreUnlit_29 (tgt := 54) (pc' := 32) (by decide) rfl (fun _ => ?_) (fun c => absurd c (by decide))
      refine gk_iinc4 (v := 1) dX1_restoreUnlit_54 (pc' := 57) rfl (by decide) (by decide) rfl ?_
      refine gk_goto dX1_restoreUnlit_57 (tgt := 13) (by decide) ?_
      rw [← nI_succ x]
      first
      | exact ih (x + 1) h g (by omega) hg nx hf
      | refine ih (x + 1) h' _ (by omega) r1 (fun j hj => ?_) (hf.trans r2 (fun _ z => z) (fun _ z => z))
        by_cases z : j = y * w + x
        · rw [z, pk_us, if_pos (by omega), eq0]
        · rw [pk_un z, hgo j hj]
          by_cases z2 : j < y * w + x
          · rw [if_pos z2, if_pos (by omega)]
          · rw [if_neg z2, if_neg (by omega)]
    · refine ⟨_, rfl, ?_⟩
      rw [if_neg (by rw [c26]; decide)] at eq0
      refine gk_if_ne dX1_restoreUnlit_29 (tgt := 54) (pc' := 32) (by decide) rfl (fun c => absurd c (by decide)) (fun _ => ?_)
      refine gk_aload2 dX1_restoreUnlit_32 (pc' := 33) rfl ?_
      refine gk_aload2 dX1_restoreUnlit_33 (pc' := 34) rfl ?_
      refine gk_iload4 dX1_restoreUnlit_34 (pc' := 36) rfl ?_
      refine gk_iload3 dX1_restoreUnlit_36 (pc' := 37) rfl ?_
      refine gk_cV1_2 mv_Picture_place gw_506 dX1_restoreUnlit_37 (pc' := 40) rfl (Nat.le_of_ble_eq_true rfl) (by exact (q2)) (sp_Picture_placeN hg ?_)
      refine ⟨_, rfl, ?_⟩
      refine gk_aload1 dX1_restoreUnlit_40 (pc' := 41) rfl ?_
      refine gk_aload1 dX1_restoreUnlit_41 (pc' := 42) rfl ?_
      refine gk_iload4 dX1_restoreUnlit_42 (pc' := 44) rfl ?_
      refine gk_iload3 dX1_restoreUnlit_44 (pc' := 45) rfl ?_
      refine gk_cV1_2 mv_Picture_place gw_506 dX1_restoreUnlit_45 (pc' := 48) rfl (Nat.le_of_ble_eq_true rfl) (by exact (q1)) (sp_Picture_placeN hp ?_)
      refine ⟨_, rfl, ?_⟩
      refine gk_cV1_1 mv_Picture_pixel gw_520 dX1_restoreUnlit_48 (pc' := 51) rfl (Nat.le_of_ble_eq_true rfl) (by exact (q1)) (sp_Picture_pixel hp o1 ?_)
      refine ⟨_, rfl, ?_⟩
      refine gk_cV0_2 mv_Picture_set gw_507 dX1_restoreUnlit_51 (pc' := 54) rfl (Nat.le_of_ble_eq_true rfl) (by exact (q2)) (sp_Picture_set hg (by omega) (fun h' r1 r2 => ?_))
      refine ⟨rfl, ?_⟩
      refine gk_iinc4 (v := 1) dX1_restoreUnlit_54 (pc' := 57) rfl (by decide) (by decide) rfl ?_
      refine gk_goto dX1_restoreUnlit_57 (tgt := 13) (by decide) ?_
      rw [← nI_succ x]
      first
      | exact ih (x + 1) h g (by omega) hg nx hf
      | refine ih (x + 1) h' _ (by omega) r1 (fun j hj => ?_) (hf.trans r2 (fun _ z => z) (fun _ z => z))
        by_cases z : j = y * w + x
        · rw [z, pk_us, if_pos (by omega), eq0]
        · rw [pk_un z, hgo j hj]
          by_cases z2 : j < y * w + x
          · rw [if_pos z2, if_pos (by omega)]
          · rw [if_neg z2, if_neg (by omega)]
theorem lp_Bench_unlitY {h0 : gk_H} {mo : Nat} {R : Nat → Nat} {q : Nat → Int32} (n1 : o ≠ o' ∧ o ≠ o' + 1 ∧ o' ≠ o + 1) (n2 : mo ≠ o' + 1 ∧ mo + 1 ≠ o' + 1) (hp0 : isPic X h0 o k w t p) (hm0 : isMk X h0 mo R)
    (hQ : ∀ h, isPic X h o' k w t (whF R w q p) → fr (fun c => c = o' + 1) h0 h → Q none h) :
    ∀ f y h g l4, y + f = t → isPic X h o' k w t g → (∀ j, j < w * t → g j = if j < y * w then whF R w q p j else q j) → fr (fun c => c = o' + 1) h0 h → G (kx X) mt_Bench_restoreUnlit (d + 3) b 2 [some (.ref mo), some (.ref o), some (.ref o'), some (.int (nI y)), l4] [] h Q := by
  intro f
  induction f with
  | zero =>
    intro y h g l4 hy hg hgo hf
    have hp := hp0.fr hf (by omega) (by omega)
    have q1 := hp.o
    have hh := hp.2.1
    have e : y = t := by omega
    subst e
    refine gk_iload3 dX1_restoreUnlit_2 (pc' := 3) rfl ?_
    refine gk_aload1 dX1_restoreUnlit_3 (pc' := 4) rfl ?_
    refine gk_getf (fs := [_, _, _, _]) gF_Bench_29 dX1_restoreUnlit_4 (pc' := 7) rfl (by exact (q1)) rfl ?_
    refine gk_icmp_ge dX1_restoreUnlit_7 (tgt := 66) (pc' := 10) (by decide) rfl (fun c7 => ?_) (fun c7 => absurd (nI_le (by omega) (by omega)) c7)
    refine gk_vret dX1_restoreUnlit_66 rfl (hQ h (hg.congr (fun j hj => by rw [hgo j hj, if_pos (by rw [Nat.mul_comm]; exact hj)])) hf)
  | succ f ih =>
    intro y h g l4 hy hg hgo hf
    have hp := hp0.fr hf (by omega) (by omega)
    have q1 := hp.o
    have hh := hp.2.1
    refine gk_iload3 dX1_restoreUnlit_2 (pc' := 3) rfl ?_
    refine gk_aload1 dX1_restoreUnlit_3 (pc' := 4) rfl ?_
    refine gk_getf (fs := [_, _, _, _]) gF_Bench_29 dX1_restoreUnlit_4 (pc' := 7) rfl (by exact (q1)) rfl ?_
    refine gk_icmp_ge dX1_restoreUnlit_7 (tgt := 66) (pc' := 10) (by decide) rfl (fun c7 => absurd c7 (nI_ge (by omega) (by omega))) (fun c7 => ?_)
    refine gk_iconst (v := 0) dX1_restoreUnlit_10 (pc' := 11) rfl (by decide) ?_
    refine gk_istore4 dX1_restoreUnlit_11 (pc' := 13) rfl (by decide) rfl ?_
    refine lp_Bench_unlitX n1 n2 hp0 hm0 (by omega) (fun h3 g3 r1 r2 r3 l4 => ?_) w 0 h g (by omega) hg (by simpa using hgo) hf
    refine gk_iinc3 (v := 1) dX1_restoreUnlit_60 (pc' := 63) rfl (by decide) (by decide) rfl ?_
    refine gk_goto dX1_restoreUnlit_63 (tgt := 2) (by decide) ?_
    rw [← nI_succ]
    exact ih (y + 1) h3 g3 _ (by omega) r1 (by rw [Nat.add_mul, Nat.one_mul]; exact r2) r3
theorem sp_Bench_restoreUnlit {mo : Nat} {R : Nat → Nat} {q : Nat → Int32} (n1 : o ≠ o' ∧ o ≠ o' + 1 ∧ o' ≠ o + 1) (n2 : mo ≠ o' + 1 ∧ mo + 1 ≠ o' + 1) (hp : isPic X h o k w t p) (hg' : isPic X h o' k w t q) (hm : isMk X h mo R) (hQ : ∀ h', isPic X h' o' k w t (whF R w q p) → fr (fun c => c = o' + 1) h h' → Q none h') : Gm (kx X) mt_Bench_restoreUnlit (d + 3) b [.ref mo, .ref o, .ref o'] h Q := by
  refine Gm.enter (L := [some (.ref mo), some (.ref o), some (.ref o'), none, none]) (by decide) (fun _ => trivial) (Nat.le_of_ble_eq_true rfl) rfl ?_
  refine gk_iconst (v := 0) dX1_restoreUnlit_0 (pc' := 1) rfl (by decide) ?_
  refine gk_istore3 dX1_restoreUnlit_1 (pc' := 2) rfl (by decide) rfl ?_
  exact lp_Bench_unlitY n1 n2 hp hm hQ t 0 h q _ (by omega) hg' (fun j hj => by rw [if_neg (by omega)]) fr.rf
end BnB
