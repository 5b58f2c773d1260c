/-! ===== Tape ===== -/
/-- a Tape object at a: len bytes bs -/
def isTp (X : gX) (h : gk_H) (a : Nat) (bs : Nat → Int32) (len : Nat) : Prop := len ≤ 800 ∧ (∀ i, i < len → 0 ≤ (bs i).toInt ∧ (bs i).toInt ≤ 255) ∧ ∃ f : Nat → Int32, h.1 a = some (.inr (8, [.ref (a + 1), .int (nI len)])) ∧ h.1 (a + 1) = some (cI X 800 f) ∧ ∀ i, i < len → f i = bs i
theorem isTp.kept {X : gX} {h h' : gk_H} {a len : Nat} {bs : Nat → Int32} (hp : isTp X h a bs len) (h0 : h'.1 a = h.1 a) (h1 : h'.1 (a + 1) = h.1 (a + 1)) : isTp X h' a bs len := by
  obtain ⟨hl, hb, f, e1, e2, e3⟩ := hp
  exact ⟨hl, hb, f, h0.trans e1, h1.trans e2, e3⟩
theorem isTp.o {X : gX} {h : gk_H} {a len : Nat} {bs : Nat → Int32} (hp : isTp X h a bs len) : h.1 a = some (.inr (8, [.ref (a + 1), .int (nI len)])) := by
  obtain ⟨hl, hb, f, e1, e2, e3⟩ := hp
  exact e1
/-- how many bytes of the head can stand there -/
def hdN (bs : Nat → Int32) (len : Nat) : Nat := if len < 1 ∨ ¬ (0 ≤ (bs 0).toInt ∧ (bs 0).toInt ≤ 1) then 0 else if len < 2 ∨ ¬ (1 ≤ (bs 1).toInt ∧ (bs 1).toInt ≤ 16) then 1 else if len < 3 ∨ ¬ (1 ≤ (bs 2).toInt ∧ (bs 2).toInt ≤ 16) then 2 else 3
/-- the pixel behind a count at pl -/
def tpV (bs : Nat → Int32) (ea pl : Nat) : Int32 := if ea = 1 then bs (pl + 1) else (bs (pl + 1) <<< (8 &&& 31) ||| bs (pl + 2)).toInt16.toInt32
/-- the runs from pl on, fi pixels being there: the fault's place or none, and the pixels -/
def rdF (bs : Nat → Int32) (len all ea : Nat) : Nat → Nat → Nat → (Nat → Int32) → Option Nat × (Nat → Int32)
  | 0, _, _, x => (some len, x)
  | f + 1, pl, fi, x => if fi = all then (if pl < len then some pl else none, x) else if len ≤ pl then (some len, x) else if (bs pl).toInt < 1 ∨ all - fi < (bs pl).toInt.toNat then (some pl, x) else if len ≤ pl + ea then (some len, x) else rdF bs len all ea f (pl + 1 + ea) (fi + (bs pl).toInt.toNat) (fun j => if fi ≤ j ∧ j < fi + (bs pl).toInt.toNat then tpV bs ea pl else x j)
def rdW (bs : Nat → Int32) : Nat := (bs 1).toInt.toNat
def rdT (bs : Nat → Int32) : Nat := (bs 2).toInt.toNat
def rdE (bs : Nat → Int32) : Nat := if bs 0 = 1 then 2 else 1
def rdS (bs : Nat → Int32) (len : Nat) : Option Nat × (Nat → Int32) := if hdN bs len < 3 then (some (hdN bs len), fun _ => 0) else rdF bs len (rdW bs * rdT bs) (rdE bs) (rdW bs * rdT bs + 1) 3 0 (fun _ => 0)
section TpA
variable {X : gX} {d : Nat} {b : Nat × Nat} {h : gk_H} {Q : Option Value → gk_H → Prop} {a o : Nat} {k : Int32} {w t : Nat} {p : Nat → Int32} {bs : Nat → Int32} {len : Nat}
theorem sp_Tape_byteAt {i : Nat} (ht : isTp X h a bs len) (hi : i < len) (hQ : Q (some (.int (bs i))) h) : Gm (kx X) mt_Tape_byteAt d b [.ref a, .int (nI i)] h Q := by
  obtain ⟨hl, hb, f, e1, e2, e3⟩ := ht
  refine Gm.enter (L := [some (.ref a), some (.int (nI i))]) (by decide) (fun _ => trivial) (Nat.le_of_ble_eq_true rfl) rfl ?_
  refine gk_iload1 dX8_byteAt_0 (pc' := 1) rfl ?_
  refine gk_if_lt dX8_byteAt_1 (tgt := 20) (pc' := 4) (by decide) rfl (fun c1 => absurd c1 (nI_pos (by omega))) (fun c1 => ?_)
  refine gk_iload1 dX8_byteAt_4 (pc' := 5) rfl ?_
  refine gk_sipush (v := 800) dX8_byteAt_5 (pc' := 8) rfl (by decide) ?_
  refine gk_icmp_ge dX8_byteAt_8 (tgt := 20) (pc' := 11) (by decide) rfl (fun c8 => absurd c8 (nI_ge (b := 800) (by omega) (by decide))) (fun c8 => ?_)
  refine gk_aload0 dX8_byteAt_11 (pc' := 12) rfl ?_
  refine gk_getf (fs := [_, _]) gF_Tape_9 dX8_byteAt_12 (pc' := 15) rfl (by assumption) rfl ?_
  refine gk_iload1 dX8_byteAt_15 (pc' := 16) rfl ?_
  refine gk_iald (t0 := 0) rfl dX8_byteAt_16 (pc' := 17) rfl (by assumption) (vp_in_nI (by omega) (by decide)) ?_
  rw [nI_clamp (by omega), e3 i hi]
  refine gk_goto dX8_byteAt_17 (tgt := 21) (by decide) ?_
  refine gk_iret dX8_byteAt_21 rfl hQ
theorem sp_Tape_append {v : Int32} (hp : isTp X h a bs len) (hv : 0 ≤ v.toInt ∧ v.toInt ≤ 255) (ht : len < 800 → ∀ h', isTp X h' a (upd bs len v) (len + 1) → fr (fun c => c = a ∨ c = a + 1) h h' → Q (some (.int 1)) h') (hf : len = 800 → Q (some (.int 0)) h) : Gm (kx X) mt_Tape_append d b [.ref a, .int v] h Q := by
  obtain ⟨hl, hb, f, e1, e2, e3⟩ := hp
  refine Gm.enter (L := [some (.ref a), some (.int v)]) (by decide) (fun _ => trivial) (Nat.le_of_ble_eq_true rfl) rfl ?_
  refine gk_aload0 dX8_append_0 (pc' := 1) rfl ?_
  refine gk_getf (fs := [_, _]) gF_Tape_15 dX8_append_1 (pc' := 4) rfl (by assumption) rfl ?_
  refine gk_if_lt dX8_append_4 (tgt := 17) (pc' := 7) (by decide) rfl (fun c4 => absurd c4 (nI_pos (by omega))) (fun c4 => ?_)
  refine gk_aload0 dX8_append_7 (pc' := 8) rfl ?_
  refine gk_getf (fs := [_, _]) gF_Tape_15 dX8_append_8 (pc' := 11) rfl (by assumption) rfl ?_
  refine gk_sipush (v := 800) dX8_append_11 (pc' := 14) rfl (by decide) ?_
  refine gk_icmp_lt dX8_append_14 (tgt := 19) (pc' := 17) (by decide) rfl (fun c14 => ?_) (fun c14 => ?_)
  · have q : len < 800 := (nI_ltI (b := 800) (by omega) (by omega)).mp c14
    refine gk_aload0 dX8_append_19 (pc' := 20) rfl ?_
    refine gk_getf (fs := [_, _]) gF_Tape_9 dX8_append_20 (pc' := 23) rfl (by assumption) rfl ?_
    refine gk_aload0 dX8_append_23 (pc' := 24) rfl ?_
    refine gk_getf (fs := [_, _]) gF_Tape_15 dX8_append_24 (pc' := 27) rfl (by assumption) rfl ?_
    refine gk_iload1 dX8_append_27 (pc' := 28) rfl ?_
    refine gk_iast (t0 := 0) rfl dX8_append_28 (pc' := 29) rfl (by assumption) (vp_in_nI (by omega) (by decide)) ?_
    rw [nI_clamp (by omega)]
    refine gk_aload0 dX8_append_29 (pc' := 30) rfl ?_
    refine gk_dup dX8_append_30 (pc' := 31) rfl rfl ?_
    refine gk_getf (fs := [_, _]) gF_Tape_15 dX8_append_31 (pc' := 34) rfl (by exact ((gk_set_ne (by omega)).trans e1)) rfl ?_
    refine gk_iconst (v := 1) dX8_append_34 (pc' := 35) rfl (by decide) ?_
    refine gk_iadd dX8_append_35 (pc' := 36) rfl ?_
    refine gk_putf (fs := [_, _]) gP_Tape_15 dX8_append_36 (pc' := 39) rfl (by exact ((gk_set_ne (by omega)).trans e1)) rfl rfl (Nat.le_of_ble_eq_true rfl) ?_
    refine gk_iconst (v := 1) dX8_append_39 (pc' := 40) rfl (by decide) ?_
    refine gk_zret dX8_append_40 rfl rfl (ht q _ ⟨by omega, fun i hi => ?_, _, ?_, (gk_set_ne (by omega)).trans gk_set_self, fun i hi => ?_⟩ (fr.set.trans fr.set (fun _ z => Or.inr z) (fun _ z => Or.inl z)))
    · by_cases z : i = len
      · rw [z, pk_us]; exact hv
      · rw [pk_un z]; exact hb i (by omega)
    · rw [gk_set_self, nI_succ]; rfl
    · by_cases z : i = len
      · rw [z, pk_us, pk_us]
      · rw [pk_un z, pk_un z]; exact e3 i (by omega)
  · have q : len = 800 := by
      have : ¬ len < 800 := fun z => c14 ((nI_ltI (b := 800) (by omega) (by omega)).mpr z)
      omega
    refine gk_iconst (v := 0) dX8_append_17 (pc' := 18) rfl (by decide) ?_
    refine gk_zret dX8_append_18 rfl rfl (hf q)
theorem sp_Tape_soundHead (hp : isTp X h a bs len) (hQ : Q (some (.int (nI (hdN bs len)))) h) : Gm (kx X) mt_Tape_soundHead (d + 2) b [.ref a] h Q := by
  have e1 := hp.o
  have hl := hp.1
  have z0 : (0 : Int32).toInt = 0 := rfl
  have z1 : (1 : Int32).toInt = 1 := rfl
  have zl : (nI len).toInt = len := nI_toInt (by omega)
  have z2 : (2 : Int32).toInt = 2 := rfl
  have z3 : (3 : Int32).toInt = 3 := rfl
  unfold hdN at hQ
  refine Gm.enter (L := [some (.ref a)]) (by decide) (fun _ => trivial) (Nat.le_of_ble_eq_true rfl) rfl ?_
  refine gk_aload0 dX8_soundHead_0 (pc' := 1) rfl ?_
  refine gk_getf (fs := [_, _]) gF_Tape_15 dX8_soundHead_1 (pc' := 4) rfl (by assumption) rfl ?_
  refine gk_iconst (v := 1) dX8_soundHead_4 (pc' := 5) rfl (by decide) ?_
  refine gk_icmp_lt dX8_soundHead_5 (tgt := 21) (pc' := 8) (by decide) rfl (fun c5 => ?_) (fun c5 => ?_)
  · rw [pu_lt, zl, z1] at c5
    rw [if_pos (by omega)] at hQ
    refine gk_iconst (v := 0) dX8_soundHead_21 (pc' := 22) rfl (by decide) ?_
    refine gk_iret dX8_soundHead_22 rfl hQ
  · rw [pu_lt, zl, z1] at c5
    refine gk_aload0 dX8_soundHead_8 (pc' := 9) rfl ?_
    refine gk_iconst (v := 0) dX8_soundHead_9 (pc' := 10) rfl (by decide) ?_
    refine gk_cV1_1 mv_Tape_byteAt gw_733 dX8_soundHead_10 (pc' := 13) rfl (Nat.le_of_ble_eq_true rfl) (by assumption) (sp_Tape_byteAt (i := 0) hp (by omega) ?_)
    refine ⟨_, rfl, ?_⟩
    refine gk_iconst (v := 0) dX8_soundHead_13 (pc' := 14) rfl (by decide) ?_
    refine gk_iconst (v := 1) dX8_soundHead_14 (pc' := 15) rfl (by decide) ?_
    refine gk_cSN1_3 mz_Room_within (host := "DarkRoom") (by decide +kernel) dX8_soundHead_15 (pc' := 18) rfl (Nat.le_of_ble_eq_true rfl) (sp_Room_within (fun q1 q2 => ?_) (fun q1 => ?_))
    · refine ⟨_, rfl, ?_⟩
      rw [if_neg (by omega)] at hQ
      refine gk_if_ne dX8_soundHead_18 (tgt := 23) (pc' := 21) (by decide) rfl (fun _ => ?_) (fun c => absurd c (by decide))
      refine gk_aload0 dX8_soundHead_23 (pc' := 24) rfl ?_
      refine gk_getf (fs := [_, _]) gF_Tape_15 dX8_soundHead_24 (pc' := 27) rfl (by assumption) rfl ?_
      refine gk_iconst (v := 2) dX8_soundHead_27 (pc' := 28) rfl (by decide) ?_
      refine gk_icmp_lt dX8_soundHead_28 (tgt := 42) (pc' := 31) (by decide) rfl (fun c28 => ?_) (fun c28 => ?_)
      · rw [pu_lt, zl, z2] at c28
        rw [if_pos (by omega)] at hQ
        refine gk_iconst (v := 1) dX8_soundHead_42 (pc' := 43) rfl (by decide) ?_
        refine gk_iret dX8_soundHead_43 rfl hQ
      · rw [pu_lt, zl, z2] at c28
        refine gk_aload0 dX8_soundHead_31 (pc' := 32) rfl ?_
        refine gk_iconst (v := 1) dX8_soundHead_32 (pc' := 33) rfl (by decide) ?_
        refine gk_cV1_1 mv_Tape_byteAt gw_733 dX8_soundHead_33 (pc' := 36) rfl (Nat.le_of_ble_eq_true rfl) (by assumption) (sp_Tape_byteAt (i := 1) hp (by omega) ?_)
        refine ⟨_, rfl, ?_⟩
        refine gk_cSN1_1 mz_Room_isSide (host := "DarkRoom") (by decide +kernel) dX8_soundHead_36 (pc' := 39) rfl (Nat.le_of_ble_eq_true rfl) (sp_Room_isSide (fun j q3 q4 q5 => ?_) (fun q3 => ?_))
        · refine ⟨_, rfl, ?_⟩
          have q6 : (bs 1).toInt = j := by rw [q5]; exact nI_toInt (by omega)
          rw [if_neg (by omega)] at hQ
          refine gk_if_ne dX8_soundHead_39 (tgt := 44) (pc' := 42) (by decide) rfl (fun _ => ?_) (fun c => absurd c (by decide))
          refine gk_aload0 dX8_soundHead_44 (pc' := 45) rfl ?_
          refine gk_getf (fs := [_, _]) gF_Tape_15 dX8_soundHead_45 (pc' := 48) rfl (by assumption) rfl ?_
          refine gk_iconst (v := 3) dX8_soundHead_48 (pc' := 49) rfl (by decide) ?_
          refine gk_icmp_lt dX8_soundHead_49 (tgt := 63) (pc' := 52) (by decide) rfl (fun c49 => ?_) (fun c49 => ?_)
          · rw [pu_lt, zl, z3] at c49
            rw [if_pos (by omega)] at hQ
            refine gk_iconst (v := 2) dX8_soundHead_63 (pc' := 64) rfl (by decide) ?_
            refine gk_goto dX8_soundHead_64 (tgt := 68) (by decide) ?_
            refine gk_iret dX8_soundHead_68 rfl hQ
          · rw [pu_lt, zl, z3] at c49
            refine gk_aload0 dX8_soundHead_52 (pc' := 53) rfl ?_
            refine gk_iconst (v := 2) dX8_soundHead_53 (pc' := 54) rfl (by decide) ?_
            refine gk_cV1_1 mv_Tape_byteAt gw_733 dX8_soundHead_54 (pc' := 57) rfl (Nat.le_of_ble_eq_true rfl) (by assumption) (sp_Tape_byteAt (i := 2) hp (by omega) ?_)
            refine ⟨_, rfl, ?_⟩
            refine gk_cSN1_1 mz_Room_isSide (host := "DarkRoom") (by decide +kernel) dX8_soundHead_57 (pc' := 60) rfl (Nat.le_of_ble_eq_true rfl) (sp_Room_isSide (fun j2 q7 q8 q9 => ?_) (fun q7 => ?_))
            · refine ⟨_, rfl, ?_⟩
              have q10 : (bs 2).toInt = j2 := by rw [q9]; exact nI_toInt (by omega)
              rw [if_neg (by omega)] at hQ
              refine gk_if_ne dX8_soundHead_60 (tgt := 67) (pc' := 63) (by decide) rfl (fun _ => ?_) (fun c => absurd c (by decide))
              refine gk_iconst (v := 3) dX8_soundHead_67 (pc' := 68) rfl (by decide) ?_
              refine gk_iret dX8_soundHead_68 rfl hQ
            · refine ⟨_, rfl, ?_⟩
              rw [if_pos (by omega)] at hQ
              refine gk_if_ne dX8_soundHead_60 (tgt := 67) (pc' := 63) (by decide) rfl (fun c => absurd c (by decide)) (fun _ => ?_)
              refine gk_iconst (v := 2) dX8_soundHead_63 (pc' := 64) rfl (by decide) ?_
              refine gk_goto dX8_soundHead_64 (tgt := 68) (by decide) ?_
              refine gk_iret dX8_soundHead_68 rfl hQ
        · refine ⟨_, rfl, ?_⟩
          rw [if_pos (by omega)] at hQ
          refine gk_if_ne dX8_soundHead_39 (tgt := 44) (pc' := 42) (by decide) rfl (fun c => absurd c (by decide)) (fun _ => ?_)
          refine gk_iconst (v := 1) dX8_soundHead_42 (pc' := 43) rfl (by decide) ?_
          refine gk_iret dX8_soundHead_43 rfl hQ
    · refine ⟨_, rfl, ?_⟩
      rw [if_pos (by omega)] at hQ
      refine gk_if_ne dX8_soundHead_18 (tgt := 23) (pc' := 21) (by decide) rfl (fun c => absurd c (by decide)) (fun _ => ?_)
      refine gk_iconst (v := 0) dX8_soundHead_21 (pc' := 22) rfl (by decide) ?_
      refine gk_iret dX8_soundHead_22 rfl hQ
/-- the pixels fi to fi + m become v -/
theorem lp_Tape_fill {h0 : gk_H} {fi m : Nat} {v : Int32} {l2 l3 l4 l6 : Option Value} {g0 : Nat → Int32} (hm : fi + m ≤ 256) (hQ : ∀ h, isPic X h o k w t (fun j => if fi ≤ j ∧ j < fi + m then v else g0 j) → fr (fun c => c = o + 1) h0 h → ∀ l9, G (kx X) mt_Tape_unroll (d + 3) b 212 [some (.ref a), some (.ref o), l2, l3, l4, some (.int (nI fi)), l6, some (.int (nI m)), some (.int v), l9] [] h Q) :
    ∀ f i h g, i + f = m → isPic X h o k w t g → (∀ j, g j = if fi ≤ j ∧ j < fi + i then v else g0 j) → fr (fun c => c = o + 1) h0 h → G (kx X) mt_Tape_unroll (d + 3) b 188 [some (.ref a), some (.ref o), l2, l3, l4, some (.int (nI fi)), l6, some (.int (nI m)), some (.int v), some (.int (nI i))] [] h Q := by
  intro f
  induction f with
  | zero =>
    intro i h g hi hp hg hf
    refine gk_iload9 dX8_unroll_188 (pc' := 190) rfl ?_
    refine gk_iload7 dX8_unroll_190 (pc' := 192) rfl ?_
    refine gk_icmp_ge dX8_unroll_192 (tgt := 212) (pc' := 195) (by decide) rfl (fun c192 => ?_) (fun c192 => absurd (nI_le (by omega) (by omega)) c192)
    exact hQ h (hp.congr (fun j _ => by rw [hg j, show i = m by omega])) hf _
  | succ f ih =>
    intro i h g hi hp hg hf
    have g1 := hp.o
    refine gk_iload9 dX8_unroll_188 (pc' := 190) rfl ?_
    refine gk_iload7 dX8_unroll_190 (pc' := 192) rfl ?_
    refine gk_icmp_ge dX8_unroll_192 (tgt := 212) (pc' := 195) (by decide) rfl (fun c192 => absurd c192 (nI_ge (by omega) (by omega))) (fun c192 => ?_)
    refine gk_aload1 dX8_unroll_195 (pc' := 196) rfl ?_
    refine gk_iload5 dX8_unroll_196 (pc' := 198) rfl ?_
    refine gk_iload9 dX8_unroll_198 (pc' := 200) rfl ?_
    refine gk_iadd dX8_unroll_200 (pc' := 201) rfl ?_
    rw [nI_add]
    refine gk_iload8 dX8_unroll_201 (pc' := 203) rfl ?_
    refine gk_cV0_2 mv_Picture_set gw_742 dX8_unroll_203 (pc' := 206) rfl (Nat.le_of_ble_eq_true rfl) (by exact (g1)) (sp_Picture_set hp (by omega) (fun h' q1 q2 => ?_))
    refine ⟨rfl, ?_⟩
    refine gk_iinc9 (v := 1) dX8_unroll_206 (pc' := 209) rfl (by decide) (by decide) rfl ?_
    refine gk_goto dX8_unroll_209 (tgt := 188) (by decide) ?_
    rw [← nI_succ]
    refine ih (i + 1) h' _ (by omega) q1 (fun j => ?_) (hf.trans q2 (fun _ q => q) (fun _ q => q))
    by_cases z : j = fi + i
    · subst z; rw [pk_us, if_pos (by omega)]
    · rw [pk_un z, hg j]
      by_cases z2 : fi ≤ j ∧ j < fi + i
      · rw [if_pos z2, if_pos (by omega)]
      · rw [if_neg z2, if_neg (by omega)]
theorem lp_Tape_unroll {h0 : gk_H} (n1 : o ≠ a ∧ o ≠ a + 1 ∧ o + 1 ≠ a) (ht0 : isTp X h0 a bs len) (hall : 1 ≤ w * t) {ea : Nat} (hea : ea = 1 ∨ ea = 2) {r : Option Nat × (Nat → Int32)} (hQ : ∀ h, (r.1 = none → isPic X h o k w t r.2) → (∃ g, isPic X h o k w t g) → fr (fun c => c = o ∨ c = o + 1) h0 h → Q (some (.int (match r.1 with | none => nI (w * t) | some e => -1 - nI e))) h) :
    ∀ f pl fi h g x l2 l7 l8 l9, w * t + 1 ≤ fi + f → fi ≤ w * t → pl ≤ len → isPic X h o k w t g → (∀ j, j < fi → g j = x j) → rdF bs len (w * t) ea f pl fi x = r → fr (fun c => c = o ∨ c = o + 1) h0 h → G (kx X) mt_Tape_unroll (d + 3) b 50 [some (.ref a), some (.ref o), l2, some (.int (nI (w * t))), some (.int (nI ea)), some (.int (nI fi)), some (.int (nI pl)), l7, l8, l9] [] h Q := by
  have hl := ht0.1
  have zl : (nI len).toInt = len := nI_toInt (by omega)
  have z8 : (800 : Int32).toInt = 800 := rfl
  have z1 : (1 : Int32).toInt = 1 := rfl
  intro f
  induction f with
  | zero => intro pl fi h g x l2 l7 l8 l9 h1 h2; exact absurd h1 (by omega)
  | succ f ih =>
    intro pl fi h g x l2 l7 l8 l9 h1 h2 h3 hp hg hr hf
    have ht := ht0.kept (hf.2 a (by omega)) (hf.2 (a + 1) (by omega))
    have e1 := ht.o
    have g1 := hp.o
    have ha := hp.area
    have zp : (nI pl).toInt = pl := nI_toInt (by omega)
    unfold rdF at hr
    refine gk_iload6 dX8_unroll_50 (pc' := 52) rfl ?_
    refine gk_sipush (v := 800) dX8_unroll_52 (pc' := 55) rfl (by decide) ?_
    refine gk_icmp_gt dX8_unroll_55 (tgt := 231) (pc' := 58) (by decide) rfl (fun c55 => absurd c55 (fun q => by rw [pu_lt, zp, z8] at q; omega)) (fun c55 => ?_)
    refine gk_iload5 dX8_unroll_58 (pc' := 60) rfl ?_
    refine gk_iload3 dX8_unroll_60 (pc' := 61) rfl ?_
    refine gk_icmp_ne dX8_unroll_61 (tgt := 82) (pc' := 64) (by decide) rfl (fun c61 => ?_) (fun c61 => ?_)
    · have q : ¬ fi = w * t := fun e => c61 (by rw [e])
      rw [if_neg q] at hr
      refine gk_iload6 dX8_unroll_82 (pc' := 84) rfl ?_
      refine gk_aload0 dX8_unroll_84 (pc' := 85) rfl ?_
      refine gk_getf (fs := [_, _]) gF_Tape_15 dX8_unroll_85 (pc' := 88) rfl (by assumption) rfl ?_
      refine gk_icmp_lt dX8_unroll_88 (tgt := 98) (pc' := 91) (by decide) rfl (fun c88 => ?_) (fun c88 => ?_)
      · have q3 : pl < len := (nI_ltI (by omega) (by omega)).mp c88
        rw [if_neg (by omega)] at hr
        have hbm := ht.2.1 pl q3
        refine gk_aload0 dX8_unroll_98 (pc' := 99) rfl ?_
        refine gk_iload6 dX8_unroll_99 (pc' := 101) rfl ?_
        refine gk_cV1_1 mv_Tape_byteAt gw_733 dX8_unroll_101 (pc' := 104) rfl (Nat.le_of_ble_eq_true rfl) (by assumption) (sp_Tape_byteAt ht q3 ?_)
        refine ⟨_, rfl, ?_⟩
        refine gk_istore7 dX8_unroll_104 (pc' := 106) rfl (by decide) rfl ?_
        refine gk_iload7 dX8_unroll_106 (pc' := 108) rfl ?_
        refine gk_iconst (v := 1) dX8_unroll_108 (pc' := 109) rfl (by decide) ?_
        refine gk_icmp_lt dX8_unroll_109 (tgt := 121) (pc' := 112) (by decide) rfl (fun c109 => ?_) (fun c109 => ?_)
        · rw [pu_lt, z1] at c109
          rw [if_pos (Or.inl c109)] at hr
          refine gk_iconst (v := -1) dX8_unroll_121 (pc' := 122) rfl (by decide) ?_
          refine gk_iload6 dX8_unroll_122 (pc' := 124) rfl ?_
          refine gk_isub dX8_unroll_124 (pc' := 125) rfl ?_
          refine gk_iret dX8_unroll_125 rfl (by subst hr; exact hQ h (fun z => by cases z) ⟨g, hp⟩ hf)
        · rw [pu_lt, z1] at c109
          obtain ⟨m, em, rm⟩ := pu_nn (x := bs pl) (by omega)
          have zm : (bs pl).toInt.toNat = m := by omega
          refine gk_iload7 dX8_unroll_112 (pc' := 114) rfl ?_
          refine gk_iload3 dX8_unroll_114 (pc' := 115) rfl ?_
          refine gk_iload5 dX8_unroll_115 (pc' := 117) rfl ?_
          refine gk_isub dX8_unroll_117 (pc' := 118) rfl ?_
          rw [pk_sub (by omega), rm]
          refine gk_icmp_le dX8_unroll_118 (tgt := 126) (pc' := 121) (by decide) rfl (fun c118 => ?_) (fun c118 => ?_)
          · have q4 : m ≤ w * t - fi := (nI_leI (by omega) (by omega)).mp c118
            rw [if_neg (by omega)] at hr
            refine gk_iload6 dX8_unroll_126 (pc' := 128) rfl ?_
            refine gk_iload4 dX8_unroll_128 (pc' := 130) rfl ?_
            refine gk_iadd dX8_unroll_130 (pc' := 131) rfl ?_
            rw [nI_add]
            refine gk_aload0 dX8_unroll_131 (pc' := 132) rfl ?_
            refine gk_getf (fs := [_, _]) gF_Tape_15 dX8_unroll_132 (pc' := 135) rfl (by assumption) rfl ?_
            refine gk_icmp_lt dX8_unroll_135 (tgt := 145) (pc' := 138) (by decide) rfl (fun c135 => ?_) (fun c135 => ?_)
            · have q5 : pl + ea < len := (nI_ltI (by omega) (by omega)).mp c135
              rw [if_neg (by omega)] at hr
              have key : ∀ l8' l9', l8' = some (Value.int (tpV bs ea pl)) → G (kx X) mt_Tape_unroll (d + 3) b 185 [some (.ref a), some (.ref o), l2, some (.int (nI (w * t))), some (.int (nI ea)), some (.int (nI fi)), some (.int (nI pl)), some (.int (nI m)), l8', l9'] [] h Q := by
                intro l8' l9' e8
                subst e8
                refine gk_iconst (v := 0) dX8_unroll_185 (pc' := 186) rfl (by decide) ?_
                refine gk_istore9 dX8_unroll_186 (pc' := 188) rfl (by decide) rfl ?_
                refine lp_Tape_fill (g0 := g) (h0 := h) (by omega) (fun h2 hp2 hf2 l9 => ?_) m 0 h g (by omega) hp (fun j => by rw [if_neg (by omega)]) fr.rf
                refine gk_iload5 dX8_unroll_212 (pc' := 214) rfl ?_
                refine gk_iload7 dX8_unroll_214 (pc' := 216) rfl ?_
                refine gk_iadd dX8_unroll_216 (pc' := 217) rfl ?_
                refine gk_istore5 dX8_unroll_217 (pc' := 219) rfl (by decide) rfl ?_
                refine gk_iload6 dX8_unroll_219 (pc' := 221) rfl ?_
                refine gk_iconst (v := 1) dX8_unroll_221 (pc' := 222) rfl (by decide) ?_
                refine gk_iload4 dX8_unroll_222 (pc' := 224) rfl ?_
                refine gk_iadd dX8_unroll_224 (pc' := 225) rfl ?_
                refine gk_iadd dX8_unroll_225 (pc' := 226) rfl ?_
                refine gk_istore6 dX8_unroll_226 (pc' := 228) rfl (by decide) rfl ?_
                refine gk_goto dX8_unroll_228 (tgt := 50) (by decide) ?_
                rw [show nI pl + (1 + nI ea) = nI (pl + 1 + ea) by rw [show (1 : Int32) + nI ea = nI (1 + ea) from nI_add 1 ea, nI_add, Nat.add_assoc], nI_add]
                refine ih (pl + 1 + ea) (fi + m) h2 _ _ _ _ _ _ (by omega) (by omega) (by omega) hp2 (fun j hj => ?_) (by rw [← hr, zm]) (hf.trans hf2 (fun _ z => z) (fun _ z => Or.inr z))
                by_cases z : fi ≤ j ∧ j < fi + m
                · rw [if_pos z, if_pos z]
                · rw [if_neg z, if_neg z]; exact hg j (by omega)
              refine gk_iload4 dX8_unroll_145 (pc' := 147) rfl ?_
              refine gk_iconst (v := 1) dX8_unroll_147 (pc' := 148) rfl (by decide) ?_
              refine gk_icmp_ne dX8_unroll_148 (tgt := 162) (pc' := 151) (by decide) rfl (fun c148 => ?_) (fun c148 => ?_)
              · have q6 : ¬ ea = 1 := fun e => c148 (by rw [e]; rfl)
                refine gk_aload0 dX8_unroll_162 (pc' := 163) rfl ?_
                refine gk_iload6 dX8_unroll_163 (pc' := 165) rfl ?_
                refine gk_iconst (v := 1) dX8_unroll_165 (pc' := 166) rfl (by decide) ?_
                refine gk_iadd dX8_unroll_166 (pc' := 167) rfl ?_
                rw [nI_1]
                refine gk_cV1_1 mv_Tape_byteAt gw_733 dX8_unroll_167 (pc' := 170) rfl (Nat.le_of_ble_eq_true rfl) (by assumption) (sp_Tape_byteAt (i := pl + 1) ht (by omega) ?_)
                refine ⟨_, rfl, ?_⟩
                refine gk_bipush (v := 8) dX8_unroll_170 (pc' := 172) rfl (by decide) ?_
                refine gk_ishl dX8_unroll_172 (pc' := 173) rfl ?_
                refine gk_aload0 dX8_unroll_173 (pc' := 174) rfl ?_
                refine gk_iload6 dX8_unroll_174 (pc' := 176) rfl ?_
                refine gk_iconst (v := 2) dX8_unroll_176 (pc' := 177) rfl (by decide) ?_
                refine gk_iadd dX8_unroll_177 (pc' := 178) rfl ?_
                rw [show nI pl + 2 = nI (pl + 2) from nI_add pl 2]
                refine gk_cV1_1 mv_Tape_byteAt gw_733 dX8_unroll_178 (pc' := 181) rfl (Nat.le_of_ble_eq_true rfl) (by assumption) (sp_Tape_byteAt (i := pl + 2) ht (by omega) ?_)
                refine ⟨_, rfl, ?_⟩
                refine gk_ior dX8_unroll_181 (pc' := 182) rfl ?_
                refine gk_i2s dX8_unroll_182 (pc' := 183) rfl ?_
                refine gk_istore8 dX8_unroll_183 (pc' := 185) rfl (by decide) rfl ?_
                exact key _ _ (by unfold tpV; first | rw [if_pos q6] | rw [if_neg q6])
              · have q6 := (nI_eq (b := 1) (by omega) (by omega)).mp c148
                refine gk_aload0 dX8_unroll_151 (pc' := 152) rfl ?_
                refine gk_iload6 dX8_unroll_152 (pc' := 154) rfl ?_
                refine gk_iconst (v := 1) dX8_unroll_154 (pc' := 155) rfl (by decide) ?_
                refine gk_iadd dX8_unroll_155 (pc' := 156) rfl ?_
                rw [nI_1]
                refine gk_cV1_1 mv_Tape_byteAt gw_733 dX8_unroll_156 (pc' := 159) rfl (Nat.le_of_ble_eq_true rfl) (by assumption) (sp_Tape_byteAt (i := pl + 1) ht (by omega) ?_)
                refine ⟨_, rfl, ?_⟩
                refine gk_goto dX8_unroll_159 (tgt := 183) (by decide) ?_
                refine gk_istore8 dX8_unroll_183 (pc' := 185) rfl (by decide) rfl ?_
                exact key _ _ (by unfold tpV; first | rw [if_pos q6] | rw [if_neg q6])
            · have q5 : ¬ pl + ea < len := fun z => c135 ((nI_ltI (by omega) (by omega)).mpr z)
              rw [if_pos (by omega)] at hr
              refine gk_iconst (v := -1) dX8_unroll_138 (pc' := 139) rfl (by decide) ?_
              refine gk_aload0 dX8_unroll_139 (pc' := 140) rfl ?_
              refine gk_getf (fs := [_, _]) gF_Tape_15 dX8_unroll_140 (pc' := 143) rfl (by assumption) rfl ?_
              refine gk_isub dX8_unroll_143 (pc' := 144) rfl ?_
              refine gk_iret dX8_unroll_144 rfl (by subst hr; exact hQ h (fun z => by cases z) ⟨g, hp⟩ hf)
          · have q4 : ¬ m ≤ w * t - fi := fun z => c118 ((nI_leI (by omega) (by omega)).mpr z)
            rw [if_pos (by omega)] at hr
            refine gk_iconst (v := -1) dX8_unroll_121 (pc' := 122) rfl (by decide) ?_
            refine gk_iload6 dX8_unroll_122 (pc' := 124) rfl ?_
            refine gk_isub dX8_unroll_124 (pc' := 125) rfl ?_
            refine gk_iret dX8_unroll_125 rfl (by subst hr; exact hQ h (fun z => by cases z) ⟨g, hp⟩ hf)
      · have q3 : ¬ pl < len := fun z => c88 ((nI_ltI (by omega) (by omega)).mpr z)
        rw [if_pos (by omega)] at hr
        refine gk_iconst (v := -1) dX8_unroll_91 (pc' := 92) rfl (by decide) ?_
        refine gk_aload0 dX8_unroll_92 (pc' := 93) rfl ?_
        refine gk_getf (fs := [_, _]) gF_Tape_15 dX8_unroll_93 (pc' := 96) rfl (by assumption) rfl ?_
        refine gk_isub dX8_unroll_96 (pc' := 97) rfl ?_
        refine gk_iret dX8_unroll_97 rfl (by subst hr; exact hQ h (fun z => by cases z) ⟨g, hp⟩ hf)
    · have q := (nI_eq (by omega) (by omega)).mp c61
      rw [if_pos q] at hr
      refine gk_iload6 dX8_unroll_64 (pc' := 66) rfl ?_
      refine gk_aload0 dX8_unroll_66 (pc' := 67) rfl ?_
      refine gk_getf (fs := [_, _]) gF_Tape_15 dX8_unroll_67 (pc' := 70) rfl (by assumption) rfl ?_
      refine gk_icmp_ge dX8_unroll_70 (tgt := 80) (pc' := 73) (by decide) rfl (fun c70 => ?_) (fun c70 => ?_)
      · have q2 : ¬ pl < len := fun z => absurd c70 (nI_ge z (by omega))
        rw [if_neg q2] at hr
        refine gk_iload3 dX8_unroll_80 (pc' := 81) rfl ?_
        refine gk_iret dX8_unroll_81 rfl (by subst hr; first | exact hQ h (fun _ => hp.congr (fun j hj => hg j (by omega))) ⟨g, hp⟩ hf | exact hQ h (fun z => by cases z) ⟨g, hp⟩ hf)
      · have q2 : pl < len := by
          rcases Nat.lt_or_ge pl len with z | z
          · exact z
          · exact absurd (nI_le z (by omega)) c70
        rw [if_pos q2] at hr
        refine gk_iconst (v := -1) dX8_unroll_73 (pc' := 74) rfl (by decide) ?_
        refine gk_iload6 dX8_unroll_74 (pc' := 76) rfl ?_
        refine gk_isub dX8_unroll_76 (pc' := 77) rfl ?_
        refine gk_goto dX8_unroll_77 (tgt := 81) (by decide) ?_
        refine gk_iret dX8_unroll_81 rfl (by subst hr; first | exact hQ h (fun _ => hp.congr (fun j hj => hg j (by omega))) ⟨g, hp⟩ hf | exact hQ h (fun z => by cases z) ⟨g, hp⟩ hf)
theorem sp_Tape_unroll (ht : isTp X h a bs len) (hp : isPic X h o k w t p) (n1 : o ≠ a ∧ o ≠ a + 1 ∧ o + 1 ≠ a)
    (hQ : ∀ h', ((rdS bs len).1 = none → isPic X h' o (bs 0) (rdW bs) (rdT bs) (rdS bs len).2) → (∃ k w t g, isPic X h' o k w t g) → fr (fun c => c = o ∨ c = o + 1) h h' → Q (some (.int (match (rdS bs len).1 with | none => nI (rdW bs * rdT bs) | some e => -1 - nI e))) h') : Gm (kx X) mt_Tape_unroll (d + 3) b [.ref a, .ref o] h Q := by
  have e1 := ht.o
  have g1 := hp.o
  have hl := ht.1
  have h3 : hdN bs len ≤ 3 := by unfold hdN; split; omega; split; omega; split <;> omega
  refine Gm.enter (L := [some (.ref a), some (.ref o), none, none, none, none, none, none, none, none]) (by decide) (fun _ => trivial) (Nat.le_of_ble_eq_true rfl) rfl ?_
  refine gk_aload0 dX8_unroll_0 (pc' := 1) rfl ?_
  refine gk_cV1_0 mv_Tape_soundHead gw_729 dX8_unroll_1 (pc' := 4) rfl (Nat.le_of_ble_eq_true rfl) (by assumption) (sp_Tape_soundHead ht ?_)
  refine ⟨_, rfl, ?_⟩
  refine gk_istore2 dX8_unroll_4 (pc' := 5) rfl (by decide) rfl ?_
  refine gk_iload2 dX8_unroll_5 (pc' := 6) rfl ?_
  refine gk_iconst (v := 3) dX8_unroll_6 (pc' := 7) rfl (by decide) ?_
  refine gk_icmp_ge dX8_unroll_7 (tgt := 14) (pc' := 10) (by decide) rfl (fun c7 => ?_) (fun c7 => ?_)
  · have q : hdN bs len = 3 := by have := (nI_leI (a := 3) (by omega) (by omega)).mp c7; omega
    have hh : 3 ≤ len ∧ 0 ≤ (bs 0).toInt ∧ (bs 0).toInt ≤ 1 ∧ 1 ≤ (bs 1).toInt ∧ (bs 1).toInt ≤ 16 ∧ 1 ≤ (bs 2).toInt ∧ (bs 2).toInt ≤ 16 := by
      unfold hdN at q
      split at q
      · omega
      · split at q
        · omega
        · split at q <;> omega
    have w1 : bs 1 = nI (rdW bs) := pu_nI (by unfold rdW; omega) (by unfold rdW; omega)
    have t1 : bs 2 = nI (rdT bs) := pu_nI (by unfold rdT; omega) (by unfold rdT; omega)
    refine gk_aload1 dX8_unroll_14 (pc' := 15) rfl ?_
    refine gk_aload0 dX8_unroll_15 (pc' := 16) rfl ?_
    refine gk_iconst (v := 0) dX8_unroll_16 (pc' := 17) rfl (by decide) ?_
    refine gk_cV1_1 mv_Tape_byteAt gw_733 dX8_unroll_17 (pc' := 20) rfl (Nat.le_of_ble_eq_true rfl) (by assumption) (sp_Tape_byteAt (i := 0) ht (by omega) ?_)
    refine ⟨_, rfl, ?_⟩
    refine gk_aload0 dX8_unroll_20 (pc' := 21) rfl ?_
    refine gk_iconst (v := 1) dX8_unroll_21 (pc' := 22) rfl (by decide) ?_
    refine gk_cV1_1 mv_Tape_byteAt gw_733 dX8_unroll_22 (pc' := 25) rfl (Nat.le_of_ble_eq_true rfl) (by assumption) (sp_Tape_byteAt (i := 1) ht (by omega) ?_)
    refine ⟨_, rfl, ?_⟩
    rw [w1]
    refine gk_aload0 dX8_unroll_25 (pc' := 26) rfl ?_
    refine gk_iconst (v := 2) dX8_unroll_26 (pc' := 27) rfl (by decide) ?_
    refine gk_cV1_1 mv_Tape_byteAt gw_733 dX8_unroll_27 (pc' := 30) rfl (Nat.le_of_ble_eq_true rfl) (by assumption) (sp_Tape_byteAt (i := 2) ht (by omega) ?_)
    refine ⟨_, rfl, ?_⟩
    rw [t1]
    refine gk_cV0_3 mv_Picture_shape gw_739 dX8_unroll_30 (pc' := 33) rfl (Nat.le_of_ble_eq_true rfl) (by exact (g1)) (sp_Picture_shape hp (by unfold rdW; omega) (by unfold rdT; omega) (fun h1 g q1 q2 => ?_))
    refine ⟨rfl, ?_⟩
    have g2 := q1.o
    refine gk_aload1 dX8_unroll_33 (pc' := 34) rfl ?_
    refine gk_cV1_0 mv_Picture_area gw_740 dX8_unroll_34 (pc' := 37) rfl (Nat.le_of_ble_eq_true rfl) (by exact (g2)) (sp_Picture_area q1 ?_)
    refine ⟨_, rfl, ?_⟩
    refine gk_istore3 dX8_unroll_37 (pc' := 38) rfl (by decide) rfl ?_
    refine gk_aload1 dX8_unroll_38 (pc' := 39) rfl ?_
    refine gk_cV1_0 mv_Picture_bytesEach gw_741 dX8_unroll_39 (pc' := 42) rfl (Nat.le_of_ble_eq_true rfl) (by exact (g2)) (sp_Picture_bytesEach q1 ?_)
    refine ⟨_, rfl, ?_⟩
    rw [show (if bs 0 = 1 then (2 : Int32) else 1) = nI (rdE bs) by unfold rdE; split <;> rfl]
    refine gk_istore4 dX8_unroll_42 (pc' := 44) rfl (by decide) rfl ?_
    refine gk_iconst (v := 0) dX8_unroll_44 (pc' := 45) rfl (by decide) ?_
    refine gk_istore5 dX8_unroll_45 (pc' := 47) rfl (by decide) rfl ?_
    refine gk_iconst (v := 3) dX8_unroll_47 (pc' := 48) rfl (by decide) ?_
    refine gk_istore6 dX8_unroll_48 (pc' := 50) rfl (by decide) rfl ?_
    refine lp_Tape_unroll (h0 := h1) (r := rdS bs len) n1 (ht.kept (q2.2 _ (by omega)) (q2.2 _ (by omega))) (Nat.mul_le_mul (by unfold rdW; omega : 1 ≤ rdW bs) (by unfold rdT; omega : 1 ≤ rdT bs)) (by unfold rdE; split <;> omega) (fun h2 r1 r2 r3 => hQ h2 r1 (by obtain ⟨g, r2⟩ := r2; exact ⟨_, _, _, g, r2⟩) (q2.trans r3 (fun _ z => Or.inl z) (fun _ z => z))) (rdW bs * rdT bs + 1) 3 0 h1 g (fun _ => 0) _ _ _ _ (by omega) (by omega) (by omega) q1 (fun j hj => absurd hj (by omega)) (by rw [rdS, if_neg (by omega)]) fr.rf
  · have q : hdN bs len < 3 := by
      rcases Nat.lt_or_ge (hdN bs len) 3 with z | z
      · exact z
      · exact absurd (nI_le (a := 3) z (by omega)) c7
    refine gk_iconst (v := -1) dX8_unroll_10 (pc' := 11) rfl (by decide) ?_
    refine gk_iload2 dX8_unroll_11 (pc' := 12) rfl ?_
    refine gk_isub dX8_unroll_12 (pc' := 13) rfl ?_
    refine gk_iret dX8_unroll_13 rfl (by have := hQ h (fun z => by rw [rdS, if_pos q] at z; cases z) ⟨_, _, _, _, hp⟩ fr.rf; rw [rdS, if_pos q] at this; exact this)
theorem sp_Tape_init (ha : h.1 a = some (.inr (8, [.null, .int 0]))) (hz : h.2 = a + 1) (hQ : ∀ h', isTp X h' a (fun _ => 0) 0 → (∀ c, c ≠ a → c ≠ a + 1 → h'.1 c = h.1 c) → h'.2 = a + 2 → Q none h') : Gm (kx X) mt_Tape_init (d + 1) (1, 800) [.ref a] h Q := by
  refine Gm.enter (L := [some (.ref a)]) (by decide) (fun _ => trivial) (Nat.le_of_ble_eq_true rfl) rfl ?_
  refine gk_aload0 dX8_init_0 (pc' := 1) rfl ?_
  refine gk_objInit gw_187 gw_23 gw_24 dX8_init_1 (pc' := 4) rfl (Nat.le_of_ble_eq_true rfl) ?_
  refine gk_aload0 dX8_init_4 (pc' := 5) rfl ?_
  refine gk_sipush (v := 800) dX8_init_5 (pc' := 8) rfl (by decide) ?_
  refine gk_newi (n := 800) (bc := 0) (bs := 0) (t0 := 0) rfl gw_61 dX8_init_8 (pc' := 10) rfl rfl (by decide) ?_
  refine gk_putF (fs := [_, _]) gP_Tape_9 rfl dX8_init_10 (pc' := 13) rfl (by exact ((gk_new_ne (by omega)).trans ha)) rfl rfl (Nat.le_of_ble_eq_true rfl) ?_
  refine gk_aload0 dX8_init_13 (pc' := 14) rfl ?_
  refine gk_iconst (v := 0) dX8_init_14 (pc' := 15) rfl (by decide) ?_
  refine gk_putf (fs := [_, _]) gP_Tape_15 dX8_init_15 (pc' := 18) rfl (by exact (gk_set_self)) rfl rfl (Nat.le_of_ble_eq_true rfl) ?_
  refine gk_vret dX8_init_18 rfl (hQ _ ⟨by decide, fun i hi => absurd hi (by omega), fun _ => 0, ?_, ?_, fun i hi => rfl⟩ (fun c n1 n2 => ?_) ?_)
  · rw [gk_set_self, hz]; rfl
  · rw [gk_set_ne (by omega), gk_set_ne (by omega), ← hz]; exact gk_new_self
  · rw [gk_set_ne n1, gk_set_ne n1, gk_new_ne (by omega)]
  · show h.2 + 1 = a + 2; omega
end TpA
