/-! ===== the reference, made ===== -/
theorem mk_of {X : gX} {h : gk_H} {m : Nat} {A : MoA} {Z : MoZ} (e : ∀ i, i < 20 → h.1 (m + i) = some (mcl X m A Z i)) : h = mkH X h m A Z := by
  refine Prod.ext (funext fun c => ?_) rfl
  show h.1 c = if m ≤ c ∧ c < m + 20 then some (mcl X m A Z (c - m)) else h.1 c
  by_cases q : m ≤ c ∧ c < m + 20
  · rw [if_pos q]
    have := e (c - m) (by omega)
    rw [show m + (c - m) = c by omega] at this
    exact this
  · rw [if_neg q]
section MoY
variable {X : gX} {d : Nat} {b : Nat × Nat} {h h0 : gk_H} {m : Nat} {A : MoA} {Z : MoZ} {Q : Option Value → gk_H → Prop}
theorem lp_Mo_init (hQ : ∀ g, (∀ p, p < 8 → g (259 * p) = -1) → (∀ q, (∀ p, p < 8 → q ≠ 259 * p) → g q = A 1 q) → Q none (mkH X h0 m (uA A 1 g) Z)) : ∀ n i g, i + n = 8 → (∀ p, p < i → g (259 * p) = -1) → (∀ q, (∀ p, p < i → q ≠ 259 * p) → g q = A 1 q) → G (kx X) mt_Mo_init (d + 1) b 166 [some (.ref m), some (.int (nI i))] [] (mkH X h0 m (uA A 1 g) Z) Q := by
  intro n
  induction n with
  | zero =>
    intro i g hi g1 g2
    have e : i = 8 := by omega
    subst e
    refine gk_iload1 dX11_init_166 (pc' := 167) rfl ?_
    refine gk_bipush (v := 8) dX11_init_167 (pc' := 169) rfl (by decide) ?_
    refine gk_icmp_ge dX11_init_169 (tgt := 189) (pc' := 172) (by decide) rfl (fun c169 => ?_) (fun c169 => absurd (by decide) c169)
    refine gk_vret dX11_init_189 rfl (hQ g g1 g2)
  | succ n ih =>
    intro i g hi g1 g2
    refine gk_iload1 dX11_init_166 (pc' := 167) rfl ?_
    refine gk_bipush (v := 8) dX11_init_167 (pc' := 169) rfl (by decide) ?_
    refine gk_icmp_ge dX11_init_169 (tgt := 189) (pc' := 172) (by decide) rfl (fun c169 => absurd c169 (nI_ge (b := 8) (by omega) (by omega))) (fun c169 => ?_)
    refine gk_aload0 dX11_init_172 (pc' := 173) rfl ?_
    refine gk_getf (fs := [_, _, _, _, _, _, _, _, _, _, _, _, _, _, _, _, _, _, _, _, _, _, _, _, _, _]) gF_Mo_7 dX11_init_173 (pc' := 176) rfl (by exact (mkJ)) rfl ?_
    refine gk_sipush (v := nI 259) dX11_init_176 (pc' := 179) rfl (by decide) ?_
    refine gk_iload1 dX11_init_179 (pc' := 180) rfl ?_
    refine gk_imulN dX11_init_180 (pc' := 181) rfl ?_
    refine gk_iconst (v := -1) dX11_init_181 (pc' := 182) rfl (by decide) ?_
    refine gk_iast (t0 := 0) rfl dX11_init_182 (pc' := 183) rfl (by exact (mkA1)) (vp_in_nI (by omega) (by decide)) ?_
    rw [nI_clamp (by omega), mkS1]
    rw [uA_s, uA_u]
    refine gk_iinc1 (v := 1) dX11_init_183 (pc' := 186) rfl (by decide) (by decide) rfl ?_
    refine gk_goto dX11_init_186 (tgt := 166) (by decide) ?_
    rw [← nI_succ]
    refine ih (i + 1) _ (by omega) (fun p hp => ?_) (fun q hq => ?_)
    · by_cases e : p = i
      · subst e; rw [pk_us]
      · rw [pk_un (by omega)]; exact g1 p (by omega)
    · rw [pk_un (hq i (by omega))]; exact g2 q (fun p hp => hq p (by omega))
theorem mk_out {c : Nat} (hc : c < m ∨ m + 20 ≤ c) : (mkH X h0 m A Z).1 c = h0.1 c := if_neg (by omega)
def miP (X : gX) (hb : gk_H) (m s : Nat) (h : gk_H) : Prop := h.2 = m + s + 1 ∧ (∀ i, 1 ≤ i → i ≤ s → h.1 (m + i) = some (mcl X m (fun _ _ => 0) (fun _ => 0) i)) ∧ ∀ c, c < m → h.1 c = hb.1 c
theorem miP.ne {hb h1 : gk_H} {s : Nat} (p : miP X hb m s h1) : m ≠ h1.2 := by have := p.1; omega
theorem miP.step {hb h1 : gk_H} {s : Nat} {e o : va_E} (p : miP X hb m s h1) (he : mcl X m (fun _ _ => 0) (fun _ => 0) (s + 1) = e) : miP X hb m (s + 1) (gk_set (gk_new h1 e) m o) := by
  have p1 := p.1
  subst he
  refine ⟨by show h1.2 + 1 = _; omega, fun i i1 i2 => ?_, fun c hc => ?_⟩
  · rw [gk_set_ne (by omega)]
    by_cases q : i = s + 1
    · subst q
      rw [show m + (s + 1) = h1.2 by omega]
      exact gk_new_self
    · rw [gk_new_ne (by omega)]
      exact p.2.1 i i1 (by omega)
  · rw [gk_set_ne (by omega), gk_new_ne (by omega)]
    exact p.2.2 c hc
theorem miP.end {hb h1 : gk_H} (p : miP X hb m 19 h1) (g : h1.1 m = some (.inr (11, moF m (fun _ => 0)))) : h1 = mkH X h1 m (fun _ _ => 0) (fun _ => 0) := mk_of (fun i hi => by
  by_cases q : i = 0
  · subst q; exact g
  · exact p.2.1 i (by omega) (by omega))
theorem mos0 {g : Nat → Int32} (g1 : ∀ p, p < 8 → g (259 * p) = -1) (g2 : ∀ q, (∀ p, p < 8 → q ≠ 259 * p) → g q = 0) : MoS (uA (fun _ _ => 0) 1 g) (fun _ => 0) S0 := by
  refine ⟨⟨fun p hp => ⟨?_, ?_, ?_, fun i hi => absurd hi (by show ¬ i < 0 * 0; omega)⟩, fun q hq y hy x hx => ?_⟩, fun j hj hn => absurd hn (by show ¬ (j < 0 ∨ 0 < 0); omega), ⟨rfl, rfl, rfl, rfl⟩, fun i hi => absurd hi (Nat.not_lt_zero _), fun i hi => absurd hi (Nat.not_lt_zero _)⟩
  · rw [uA_s, Nat.zero_add]; exact g1 p hp
  · rw [uA_s]; exact g2 _ (fun _ _ => by omega)
  · rw [uA_s]; exact g2 _ (fun _ _ => by omega)
  · rw [uA_s, g2 _ (fun _ _ => by omega)]
    show (0 : Int32) = if Nat.testBit 0 x = true then 1 else 0
    rw [Nat.zero_testBit]
    rfl
theorem sp_Mo_init (ha : h.1 m = some (.inr (11, [.null, .null, .int 0, .int 0, .int 0, .null, .null, .null, .null, .null, .int 0, .null, .null, .int 0, .int 0, .null, .null, .null, .null, .null, .null, .null, .null, .null, .int 0, .null]))) (hs : h.2 = m + 1) (hQ : ∀ h', Mod X h' m S0 → (∀ c, c < m → h'.1 c = h.1 c) → h'.2 = m + 20 → Q none h') : Gm (kx X) mt_Mo_init (d + 1) (19, 69961) [.ref m] h Q := by
  have P0 : miP X h m 0 h := ⟨hs, fun i i1 i2 => absurd i1 (by omega), fun _ _ => rfl⟩
  refine Gm.enter (L := [some (.ref m), none]) (by decide) (fun _ => trivial) (Nat.le_of_ble_eq_true rfl) rfl ?_
  refine gk_aload0 dX11_init_0 (pc' := 1) rfl ?_
  refine gk_objInit gw_784 gw_23 gw_24 dX11_init_1 (pc' := 4) rfl (Nat.le_of_ble_eq_true rfl) ?_
  refine gk_aload0 dX11_init_4 (pc' := 5) rfl ?_
  refine gk_sipush (v := 3608) dX11_init_5 (pc' := 8) rfl (by decide) ?_
  refine gk_newiA (x0 := (m + 1)) (by exact P0.1) (n := 3608) (bc := 18) (bs := 66353) (t0 := 0) rfl gw_61 dX11_init_8 (pc' := 10) rfl rfl (by decide) ?_
  refine gk_putF (fs := [_, _, _, _, _, _, _, _, _, _, _, _, _, _, _, _, _, _, _, _, _, _, _, _, _, _]) gP_Mo_7 rfl dX11_init_10 (pc' := 13) rfl (by exact ((gk_new_ne P0.ne).trans ha)) rfl rfl (Nat.le_of_ble_eq_true rfl) ?_
  refine (fun (h1 : gk_H) (gr1 : h1.1 m = some (.inr (11, [.ref (m + 1), .null, .int 0, .int 0, .int 0, .null, .null, .null, .null, .null, .int 0, .null, .null, .int 0, .int 0, .null, .null, .null, .null, .null, .null, .null, .null, .null, .int 0, .null]))) (P1 : miP X h m 1 h1) => (?_ : G _ _ _ _ _ _ _ h1 _)) _ gk_set_self (P0.step rfl)
  skip
  refine gk_aload0 dX11_init_13 (pc' := 14) rfl ?_
  refine gk_ldc dX11_init_14 (pc' := 16) rfl gw_785 ?_
  refine gk_newiA (x0 := (m + 2)) (by exact P1.1) (n := 61336) (bc := 17) (bs := 5017) (t0 := 0) rfl gw_61 dX11_init_16 (pc' := 18) rfl rfl (by decide) ?_
  refine gk_putF (fs := [_, _, _, _, _, _, _, _, _, _, _, _, _, _, _, _, _, _, _, _, _, _, _, _, _, _]) gP_Mo_14 rfl dX11_init_18 (pc' := 21) rfl (by exact ((gk_new_ne P1.ne).trans gr1)) rfl rfl (Nat.le_of_ble_eq_true rfl) ?_
  refine (fun (h2 : gk_H) (gr2 : h2.1 m = some (.inr (11, [.ref (m + 1), .ref (m + 2), .int 0, .int 0, .int 0, .null, .null, .null, .null, .null, .int 0, .null, .null, .int 0, .int 0, .null, .null, .null, .null, .null, .null, .null, .null, .null, .int 0, .null]))) (P2 : miP X h m 2 h2) => (?_ : G _ _ _ _ _ _ _ h2 _)) _ gk_set_self (P1.step rfl)
  clear P1
  refine gk_aload0 dX11_init_21 (pc' := 22) rfl ?_
  refine gk_bipush (v := 24) dX11_init_22 (pc' := 24) rfl (by decide) ?_
  refine gk_newiA (x0 := (m + 3)) (by exact P2.1) (n := 24) (bc := 16) (bs := 4993) (t0 := 0) rfl gw_61 dX11_init_24 (pc' := 26) rfl rfl (by decide) ?_
  refine gk_putF (fs := [_, _, _, _, _, _, _, _, _, _, _, _, _, _, _, _, _, _, _, _, _, _, _, _, _, _]) gP_Mo_17 rfl dX11_init_26 (pc' := 29) rfl (by exact ((gk_new_ne P2.ne).trans gr2)) rfl rfl (Nat.le_of_ble_eq_true rfl) ?_
  refine (fun (h3 : gk_H) (gr3 : h3.1 m = some (.inr (11, [.ref (m + 1), .ref (m + 2), .int 0, .int 0, .int 0, .ref (m + 3), .null, .null, .null, .null, .int 0, .null, .null, .int 0, .int 0, .null, .null, .null, .null, .null, .null, .null, .null, .null, .int 0, .null]))) (P3 : miP X h m 3 h3) => (?_ : G _ _ _ _ _ _ _ h3 _)) _ gk_set_self (P2.step rfl)
  clear P2
  refine gk_aload0 dX11_init_29 (pc' := 30) rfl ?_
  refine gk_bipush (v := 24) dX11_init_30 (pc' := 32) rfl (by decide) ?_
  refine gk_newiA (x0 := (m + 4)) (by exact P3.1) (n := 24) (bc := 15) (bs := 4969) (t0 := 0) rfl gw_61 dX11_init_32 (pc' := 34) rfl rfl (by decide) ?_
  refine gk_putF (fs := [_, _, _, _, _, _, _, _, _, _, _, _, _, _, _, _, _, _, _, _, _, _, _, _, _, _]) gP_Mo_20 rfl dX11_init_34 (pc' := 37) rfl (by exact ((gk_new_ne P3.ne).trans gr3)) rfl rfl (Nat.le_of_ble_eq_true rfl) ?_
  refine (fun (h4 : gk_H) (gr4 : h4.1 m = some (.inr (11, [.ref (m + 1), .ref (m + 2), .int 0, .int 0, .int 0, .ref (m + 3), .ref (m + 4), .null, .null, .null, .int 0, .null, .null, .int 0, .int 0, .null, .null, .null, .null, .null, .null, .null, .null, .null, .int 0, .null]))) (P4 : miP X h m 4 h4) => (?_ : G _ _ _ _ _ _ _ h4 _)) _ gk_set_self (P3.step rfl)
  clear P3
  refine gk_aload0 dX11_init_37 (pc' := 38) rfl ?_
  refine gk_bipush (v := 24) dX11_init_38 (pc' := 40) rfl (by decide) ?_
  refine gk_newiA (x0 := (m + 5)) (by exact P4.1) (n := 24) (bc := 14) (bs := 4945) (t0 := 0) rfl gw_61 dX11_init_40 (pc' := 42) rfl rfl (by decide) ?_
  refine gk_putF (fs := [_, _, _, _, _, _, _, _, _, _, _, _, _, _, _, _, _, _, _, _, _, _, _, _, _, _]) gP_Mo_23 rfl dX11_init_42 (pc' := 45) rfl (by exact ((gk_new_ne P4.ne).trans gr4)) rfl rfl (Nat.le_of_ble_eq_true rfl) ?_
  refine (fun (h5 : gk_H) (gr5 : h5.1 m = some (.inr (11, [.ref (m + 1), .ref (m + 2), .int 0, .int 0, .int 0, .ref (m + 3), .ref (m + 4), .ref (m + 5), .null, .null, .int 0, .null, .null, .int 0, .int 0, .null, .null, .null, .null, .null, .null, .null, .null, .null, .int 0, .null]))) (P5 : miP X h m 5 h5) => (?_ : G _ _ _ _ _ _ _ h5 _)) _ gk_set_self (P4.step rfl)
  clear P4
  refine gk_aload0 dX11_init_45 (pc' := 46) rfl ?_
  refine gk_bipush (v := 24) dX11_init_46 (pc' := 48) rfl (by decide) ?_
  refine gk_newiA (x0 := (m + 6)) (by exact P5.1) (n := 24) (bc := 13) (bs := 4921) (t0 := 0) rfl gw_61 dX11_init_48 (pc' := 50) rfl rfl (by decide) ?_
  refine gk_putF (fs := [_, _, _, _, _, _, _, _, _, _, _, _, _, _, _, _, _, _, _, _, _, _, _, _, _, _]) gP_Mo_26 rfl dX11_init_50 (pc' := 53) rfl (by exact ((gk_new_ne P5.ne).trans gr5)) rfl rfl (Nat.le_of_ble_eq_true rfl) ?_
  refine (fun (h6 : gk_H) (gr6 : h6.1 m = some (.inr (11, [.ref (m + 1), .ref (m + 2), .int 0, .int 0, .int 0, .ref (m + 3), .ref (m + 4), .ref (m + 5), .ref (m + 6), .null, .int 0, .null, .null, .int 0, .int 0, .null, .null, .null, .null, .null, .null, .null, .null, .null, .int 0, .null]))) (P6 : miP X h m 6 h6) => (?_ : G _ _ _ _ _ _ _ h6 _)) _ gk_set_self (P5.step rfl)
  clear P5
  refine gk_aload0 dX11_init_53 (pc' := 54) rfl ?_
  refine gk_sipush (v := 216) dX11_init_54 (pc' := 57) rfl (by decide) ?_
  refine gk_newiA (x0 := (m + 7)) (by exact P6.1) (n := 216) (bc := 12) (bs := 4705) (t0 := 0) rfl gw_61 dX11_init_57 (pc' := 59) rfl rfl (by decide) ?_
  refine gk_putF (fs := [_, _, _, _, _, _, _, _, _, _, _, _, _, _, _, _, _, _, _, _, _, _, _, _, _, _]) gP_Mo_29 rfl dX11_init_59 (pc' := 62) rfl (by exact ((gk_new_ne P6.ne).trans gr6)) rfl rfl (Nat.le_of_ble_eq_true rfl) ?_
  refine (fun (h7 : gk_H) (gr7 : h7.1 m = some (.inr (11, [.ref (m + 1), .ref (m + 2), .int 0, .int 0, .int 0, .ref (m + 3), .ref (m + 4), .ref (m + 5), .ref (m + 6), .ref (m + 7), .int 0, .null, .null, .int 0, .int 0, .null, .null, .null, .null, .null, .null, .null, .null, .null, .int 0, .null]))) (P7 : miP X h m 7 h7) => (?_ : G _ _ _ _ _ _ _ h7 _)) _ gk_set_self (P6.step rfl)
  clear P6
  refine gk_aload0 dX11_init_62 (pc' := 63) rfl ?_
  refine gk_sipush (v := 800) dX11_init_63 (pc' := 66) rfl (by decide) ?_
  refine gk_newiA (x0 := (m + 8)) (by exact P7.1) (n := 800) (bc := 11) (bs := 3905) (t0 := 0) rfl gw_61 dX11_init_66 (pc' := 68) rfl rfl (by decide) ?_
  refine gk_putF (fs := [_, _, _, _, _, _, _, _, _, _, _, _, _, _, _, _, _, _, _, _, _, _, _, _, _, _]) gP_Mo_32 rfl dX11_init_68 (pc' := 71) rfl (by exact ((gk_new_ne P7.ne).trans gr7)) rfl rfl (Nat.le_of_ble_eq_true rfl) ?_
  refine (fun (h8 : gk_H) (gr8 : h8.1 m = some (.inr (11, [.ref (m + 1), .ref (m + 2), .int 0, .int 0, .int 0, .ref (m + 3), .ref (m + 4), .ref (m + 5), .ref (m + 6), .ref (m + 7), .int 0, .ref (m + 8), .null, .int 0, .int 0, .null, .null, .null, .null, .null, .null, .null, .null, .null, .int 0, .null]))) (P8 : miP X h m 8 h8) => (?_ : G _ _ _ _ _ _ _ h8 _)) _ gk_set_self (P7.step rfl)
  clear P7
  refine gk_aload0 dX11_init_71 (pc' := 72) rfl ?_
  refine gk_sipush (v := 256) dX11_init_72 (pc' := 75) rfl (by decide) ?_
  refine gk_newiA (x0 := (m + 9)) (by exact P8.1) (n := 256) (bc := 10) (bs := 3649) (t0 := 0) rfl gw_61 dX11_init_75 (pc' := 77) rfl rfl (by decide) ?_
  refine gk_putF (fs := [_, _, _, _, _, _, _, _, _, _, _, _, _, _, _, _, _, _, _, _, _, _, _, _, _, _]) gP_Mo_35 rfl dX11_init_77 (pc' := 80) rfl (by exact ((gk_new_ne P8.ne).trans gr8)) rfl rfl (Nat.le_of_ble_eq_true rfl) ?_
  refine (fun (h9 : gk_H) (gr9 : h9.1 m = some (.inr (11, [.ref (m + 1), .ref (m + 2), .int 0, .int 0, .int 0, .ref (m + 3), .ref (m + 4), .ref (m + 5), .ref (m + 6), .ref (m + 7), .int 0, .ref (m + 8), .ref (m + 9), .int 0, .int 0, .null, .null, .null, .null, .null, .null, .null, .null, .null, .int 0, .null]))) (P9 : miP X h m 9 h9) => (?_ : G _ _ _ _ _ _ _ h9 _)) _ gk_set_self (P8.step rfl)
  clear P8
  refine gk_aload0 dX11_init_80 (pc' := 81) rfl ?_
  refine gk_iconst (v := 4) dX11_init_81 (pc' := 82) rfl (by decide) ?_
  refine gk_newiA (x0 := (m + 10)) (by exact P9.1) (n := 4) (bc := 9) (bs := 3645) (t0 := 0) rfl gw_61 dX11_init_82 (pc' := 84) rfl rfl (by decide) ?_
  refine gk_putF (fs := [_, _, _, _, _, _, _, _, _, _, _, _, _, _, _, _, _, _, _, _, _, _, _, _, _, _]) gP_Mo_38 rfl dX11_init_84 (pc' := 87) rfl (by exact ((gk_new_ne P9.ne).trans gr9)) rfl rfl (Nat.le_of_ble_eq_true rfl) ?_
  refine (fun (h10 : gk_H) (gr10 : h10.1 m = some (.inr (11, [.ref (m + 1), .ref (m + 2), .int 0, .int 0, .int 0, .ref (m + 3), .ref (m + 4), .ref (m + 5), .ref (m + 6), .ref (m + 7), .int 0, .ref (m + 8), .ref (m + 9), .int 0, .int 0, .ref (m + 10), .null, .null, .null, .null, .null, .null, .null, .null, .int 0, .null]))) (P10 : miP X h m 10 h10) => (?_ : G _ _ _ _ _ _ _ h10 _)) _ gk_set_self (P9.step rfl)
  clear P9
  refine gk_aload0 dX11_init_87 (pc' := 88) rfl ?_
  refine gk_iconst (v := 4) dX11_init_88 (pc' := 89) rfl (by decide) ?_
  refine gk_newiA (x0 := (m + 11)) (by exact P10.1) (n := 4) (bc := 8) (bs := 3641) (t0 := 0) rfl gw_61 dX11_init_89 (pc' := 91) rfl rfl (by decide) ?_
  refine gk_putF (fs := [_, _, _, _, _, _, _, _, _, _, _, _, _, _, _, _, _, _, _, _, _, _, _, _, _, _]) gP_Mo_41 rfl dX11_init_91 (pc' := 94) rfl (by exact ((gk_new_ne P10.ne).trans gr10)) rfl rfl (Nat.le_of_ble_eq_true rfl) ?_
  refine (fun (h11 : gk_H) (gr11 : h11.1 m = some (.inr (11, [.ref (m + 1), .ref (m + 2), .int 0, .int 0, .int 0, .ref (m + 3), .ref (m + 4), .ref (m + 5), .ref (m + 6), .ref (m + 7), .int 0, .ref (m + 8), .ref (m + 9), .int 0, .int 0, .ref (m + 10), .ref (m + 11), .null, .null, .null, .null, .null, .null, .null, .int 0, .null]))) (P11 : miP X h m 11 h11) => (?_ : G _ _ _ _ _ _ _ h11 _)) _ gk_set_self (P10.step rfl)
  clear P10
  refine gk_aload0 dX11_init_94 (pc' := 95) rfl ?_
  refine gk_sipush (v := 1024) dX11_init_95 (pc' := 98) rfl (by decide) ?_
  refine gk_newiA (x0 := (m + 12)) (by exact P11.1) (n := 1024) (bc := 7) (bs := 2617) (t0 := 0) rfl gw_61 dX11_init_98 (pc' := 100) rfl rfl (by decide) ?_
  refine gk_putF (fs := [_, _, _, _, _, _, _, _, _, _, _, _, _, _, _, _, _, _, _, _, _, _, _, _, _, _]) gP_Mo_44 rfl dX11_init_100 (pc' := 103) rfl (by exact ((gk_new_ne P11.ne).trans gr11)) rfl rfl (Nat.le_of_ble_eq_true rfl) ?_
  refine (fun (h12 : gk_H) (gr12 : h12.1 m = some (.inr (11, [.ref (m + 1), .ref (m + 2), .int 0, .int 0, .int 0, .ref (m + 3), .ref (m + 4), .ref (m + 5), .ref (m + 6), .ref (m + 7), .int 0, .ref (m + 8), .ref (m + 9), .int 0, .int 0, .ref (m + 10), .ref (m + 11), .ref (m + 12), .null, .null, .null, .null, .null, .null, .int 0, .null]))) (P12 : miP X h m 12 h12) => (?_ : G _ _ _ _ _ _ _ h12 _)) _ gk_set_self (P11.step rfl)
  clear P11
  refine gk_aload0 dX11_init_103 (pc' := 104) rfl ?_
  refine gk_sipush (v := 1024) dX11_init_104 (pc' := 107) rfl (by decide) ?_
  refine gk_newiA (x0 := (m + 13)) (by exact P12.1) (n := 1024) (bc := 6) (bs := 1593) (t0 := 0) rfl gw_61 dX11_init_107 (pc' := 109) rfl rfl (by decide) ?_
  refine gk_putF (fs := [_, _, _, _, _, _, _, _, _, _, _, _, _, _, _, _, _, _, _, _, _, _, _, _, _, _]) gP_Mo_47 rfl dX11_init_109 (pc' := 112) rfl (by exact ((gk_new_ne P12.ne).trans gr12)) rfl rfl (Nat.le_of_ble_eq_true rfl) ?_
  refine (fun (h13 : gk_H) (gr13 : h13.1 m = some (.inr (11, [.ref (m + 1), .ref (m + 2), .int 0, .int 0, .int 0, .ref (m + 3), .ref (m + 4), .ref (m + 5), .ref (m + 6), .ref (m + 7), .int 0, .ref (m + 8), .ref (m + 9), .int 0, .int 0, .ref (m + 10), .ref (m + 11), .ref (m + 12), .ref (m + 13), .null, .null, .null, .null, .null, .int 0, .null]))) (P13 : miP X h m 13 h13) => (?_ : G _ _ _ _ _ _ _ h13 _)) _ gk_set_self (P12.step rfl)
  clear P12
  refine gk_aload0 dX11_init_112 (pc' := 113) rfl ?_
  refine gk_sipush (v := 256) dX11_init_113 (pc' := 116) rfl (by decide) ?_
  refine gk_newiA (x0 := (m + 14)) (by exact P13.1) (n := 256) (bc := 5) (bs := 1337) (t0 := 0) rfl gw_61 dX11_init_116 (pc' := 118) rfl rfl (by decide) ?_
  refine gk_putF (fs := [_, _, _, _, _, _, _, _, _, _, _, _, _, _, _, _, _, _, _, _, _, _, _, _, _, _]) gP_Mo_50 rfl dX11_init_118 (pc' := 121) rfl (by exact ((gk_new_ne P13.ne).trans gr13)) rfl rfl (Nat.le_of_ble_eq_true rfl) ?_
  refine (fun (h14 : gk_H) (gr14 : h14.1 m = some (.inr (11, [.ref (m + 1), .ref (m + 2), .int 0, .int 0, .int 0, .ref (m + 3), .ref (m + 4), .ref (m + 5), .ref (m + 6), .ref (m + 7), .int 0, .ref (m + 8), .ref (m + 9), .int 0, .int 0, .ref (m + 10), .ref (m + 11), .ref (m + 12), .ref (m + 13), .ref (m + 14), .null, .null, .null, .null, .int 0, .null]))) (P14 : miP X h m 14 h14) => (?_ : G _ _ _ _ _ _ _ h14 _)) _ gk_set_self (P13.step rfl)
  clear P13
  refine gk_aload0 dX11_init_121 (pc' := 122) rfl ?_
  refine gk_bipush (v := 9) dX11_init_122 (pc' := 124) rfl (by decide) ?_
  refine gk_newiA (x0 := (m + 15)) (by exact P14.1) (n := 9) (bc := 4) (bs := 1328) (t0 := 0) rfl gw_61 dX11_init_124 (pc' := 126) rfl rfl (by decide) ?_
  refine gk_putF (fs := [_, _, _, _, _, _, _, _, _, _, _, _, _, _, _, _, _, _, _, _, _, _, _, _, _, _]) gP_Mo_53 rfl dX11_init_126 (pc' := 129) rfl (by exact ((gk_new_ne P14.ne).trans gr14)) rfl rfl (Nat.le_of_ble_eq_true rfl) ?_
  refine (fun (h15 : gk_H) (gr15 : h15.1 m = some (.inr (11, [.ref (m + 1), .ref (m + 2), .int 0, .int 0, .int 0, .ref (m + 3), .ref (m + 4), .ref (m + 5), .ref (m + 6), .ref (m + 7), .int 0, .ref (m + 8), .ref (m + 9), .int 0, .int 0, .ref (m + 10), .ref (m + 11), .ref (m + 12), .ref (m + 13), .ref (m + 14), .ref (m + 15), .null, .null, .null, .int 0, .null]))) (P15 : miP X h m 15 h15) => (?_ : G _ _ _ _ _ _ _ h15 _)) _ gk_set_self (P14.step rfl)
  clear P14
  refine gk_aload0 dX11_init_129 (pc' := 130) rfl ?_
  refine gk_sipush (v := 256) dX11_init_130 (pc' := 133) rfl (by decide) ?_
  refine gk_newzA (x0 := (m + 16)) (by exact P15.1) (n := 256) (bc := 3) (bs := 1072) (t0 := 1) rfl gw_151 dX11_init_133 (pc' := 135) rfl rfl (by decide) ?_
  refine gk_putF (fs := [_, _, _, _, _, _, _, _, _, _, _, _, _, _, _, _, _, _, _, _, _, _, _, _, _, _]) gP_Mo_56 rfl dX11_init_135 (pc' := 138) rfl (by exact ((gk_new_ne P15.ne).trans gr15)) rfl rfl (Nat.le_of_ble_eq_true rfl) ?_
  refine (fun (h16 : gk_H) (gr16 : h16.1 m = some (.inr (11, [.ref (m + 1), .ref (m + 2), .int 0, .int 0, .int 0, .ref (m + 3), .ref (m + 4), .ref (m + 5), .ref (m + 6), .ref (m + 7), .int 0, .ref (m + 8), .ref (m + 9), .int 0, .int 0, .ref (m + 10), .ref (m + 11), .ref (m + 12), .ref (m + 13), .ref (m + 14), .ref (m + 15), .ref (m + 16), .null, .null, .int 0, .null]))) (P16 : miP X h m 16 h16) => (?_ : G _ _ _ _ _ _ _ h16 _)) _ gk_set_self (P15.step rfl)
  clear P15
  refine gk_aload0 dX11_init_138 (pc' := 139) rfl ?_
  refine gk_sipush (v := 256) dX11_init_139 (pc' := 142) rfl (by decide) ?_
  refine gk_newiA (x0 := (m + 17)) (by exact P16.1) (n := 256) (bc := 2) (bs := 816) (t0 := 0) rfl gw_61 dX11_init_142 (pc' := 144) rfl rfl (by decide) ?_
  refine gk_putF (fs := [_, _, _, _, _, _, _, _, _, _, _, _, _, _, _, _, _, _, _, _, _, _, _, _, _, _]) gP_Mo_60 rfl dX11_init_144 (pc' := 147) rfl (by exact ((gk_new_ne P16.ne).trans gr16)) rfl rfl (Nat.le_of_ble_eq_true rfl) ?_
  refine (fun (h17 : gk_H) (gr17 : h17.1 m = some (.inr (11, [.ref (m + 1), .ref (m + 2), .int 0, .int 0, .int 0, .ref (m + 3), .ref (m + 4), .ref (m + 5), .ref (m + 6), .ref (m + 7), .int 0, .ref (m + 8), .ref (m + 9), .int 0, .int 0, .ref (m + 10), .ref (m + 11), .ref (m + 12), .ref (m + 13), .ref (m + 14), .ref (m + 15), .ref (m + 16), .ref (m + 17), .null, .int 0, .null]))) (P17 : miP X h m 17 h17) => (?_ : G _ _ _ _ _ _ _ h17 _)) _ gk_set_self (P16.step rfl)
  clear P16
  refine gk_aload0 dX11_init_147 (pc' := 148) rfl ?_
  refine gk_bipush (v := 16) dX11_init_148 (pc' := 150) rfl (by decide) ?_
  refine gk_newiA (x0 := (m + 18)) (by exact P17.1) (n := 16) (bc := 1) (bs := 800) (t0 := 0) rfl gw_61 dX11_init_150 (pc' := 152) rfl rfl (by decide) ?_
  refine gk_putF (fs := [_, _, _, _, _, _, _, _, _, _, _, _, _, _, _, _, _, _, _, _, _, _, _, _, _, _]) gP_Mo_63 rfl dX11_init_152 (pc' := 155) rfl (by exact ((gk_new_ne P17.ne).trans gr17)) rfl rfl (Nat.le_of_ble_eq_true rfl) ?_
  refine (fun (h18 : gk_H) (gr18 : h18.1 m = some (.inr (11, [.ref (m + 1), .ref (m + 2), .int 0, .int 0, .int 0, .ref (m + 3), .ref (m + 4), .ref (m + 5), .ref (m + 6), .ref (m + 7), .int 0, .ref (m + 8), .ref (m + 9), .int 0, .int 0, .ref (m + 10), .ref (m + 11), .ref (m + 12), .ref (m + 13), .ref (m + 14), .ref (m + 15), .ref (m + 16), .ref (m + 17), .ref (m + 18), .int 0, .null]))) (P18 : miP X h m 18 h18) => (?_ : G _ _ _ _ _ _ _ h18 _)) _ gk_set_self (P17.step rfl)
  clear P17
  refine gk_aload0 dX11_init_155 (pc' := 156) rfl ?_
  refine gk_sipush (v := 800) dX11_init_156 (pc' := 159) rfl (by decide) ?_
  refine gk_newiA (x0 := (m + 19)) (by exact P18.1) (n := 800) (bc := 0) (bs := 0) (t0 := 0) rfl gw_61 dX11_init_159 (pc' := 161) rfl rfl (by decide) ?_
  refine gk_putF (fs := [_, _, _, _, _, _, _, _, _, _, _, _, _, _, _, _, _, _, _, _, _, _, _, _, _, _]) gP_Mo_66 rfl dX11_init_161 (pc' := 164) rfl (by exact ((gk_new_ne P18.ne).trans gr18)) rfl rfl (Nat.le_of_ble_eq_true rfl) ?_
  refine (fun (h19 : gk_H) (gr19 : h19.1 m = some (.inr (11, [.ref (m + 1), .ref (m + 2), .int 0, .int 0, .int 0, .ref (m + 3), .ref (m + 4), .ref (m + 5), .ref (m + 6), .ref (m + 7), .int 0, .ref (m + 8), .ref (m + 9), .int 0, .int 0, .ref (m + 10), .ref (m + 11), .ref (m + 12), .ref (m + 13), .ref (m + 14), .ref (m + 15), .ref (m + 16), .ref (m + 17), .ref (m + 18), .int 0, .ref (m + 19)]))) (P19 : miP X h m 19 h19) => (?_ : G _ _ _ _ _ _ _ h19 _)) _ gk_set_self (P18.step rfl)
  clear P18
  refine gk_iconst (v := 0) dX11_init_164 (pc' := 165) rfl (by decide) ?_
  refine gk_istore1 dX11_init_165 (pc' := 166) rfl (by decide) rfl ?_
  have EE : h19 = mkH X h19 m (fun _ _ => 0) (fun _ => 0) := P19.end gr19
  have q := lp_Mo_init (X := X) (h0 := h19) (m := m) (A := fun _ _ => 0) (Z := fun _ => 0) (d := d) (b := (0, 0)) (Q := Q) (fun g g1 g2 => hQ _ ⟨h19, _, _, rfl, mos0 g1 g2⟩ (fun c hc => (mk_out (Or.inl hc)).trans (P19.2.2 c hc)) P19.1) 8 0 (fun _ => 0) (by omega) (fun p hp => absurd hp (by omega)) (fun _ _ => rfl)
  rw [show (fun _ => (0 : Int32)) = (fun _ _ => (0 : Int32) : MoA) 1 from rfl, uA_i, ← EE] at q
  exact q
end MoY
