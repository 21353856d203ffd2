/-- what both come to behind a reference, without the steps -/
def RefRes (n : Nat) (C : Nat → Int32) (TL : List Tk) (p : Nat) (X : STokens → Prop) (Y : Nat → SMo → Prop) (fl : Fl) (row : List Int32) (src' : SSource) (t' : STokens) (M M' : SMo) : Prop := EF M M' ∧ EE M M' ∧ ∃ (q : Nat) (fl' : Fl) (l : List Int32), p + 1 ≤ q ∧ q ≤ n ∧ BS n C q fl' src' ∧ BT (row ++ l) TL t' ∧ X t' ∧ BM n C q fl' (row ++ l) TL M' ∧ Y (row ++ l).length M' ∧ l ≠ [] ∧ l.length ≤ q - p ∧ fl'.length ≤ fl.length + (q - p) ∧ (∀ x ∈ l, ∃ c : Nat, c ≤ 1114111 ∧ x = nI c) ∧ (l.flatMap encT).length ≤ 8 * (q - p) ∧ (l.flatMap encV).length ≤ 8 * (q - p)
/-- one character is given -/
theorem give_one {n : Nat} {C : Nat → Int32} {TL : List Tk} {iv : Int32} {X : STokens → Prop} {Y : Nat → SMo → Prop} (hx : CtxOK n C TL iv X Y) {p q : Nat} {fl fl0 : Fl} {row : List Int32} {src : SSource} {t : STokens} {M M0 : SMo} {c : Nat} (hc : c ≤ 1114111) (hpq : p + 3 ≤ q) (hq : q ≤ n) (hn : n ≤ 400) (hl : row.length ≤ p) (hfl : fl.length ≤ fl0.length + 3) (hS : BS n C q fl src) (hT : BT row TL t) (hX : X t) (hB : BM n C q fl row TL M) (hY : Y row.length M) (hE : EF M0 M) (hEE : EE M0 M) : ∃ t' M', f_Tokens_add (nI c) t = some t' ∧ f_Mo_give (nI c) iv M = some M' ∧ RefRes n C TL p X Y fl0 row src t' M0 M' := by
  obtain ⟨t', e1, b1, b2⟩ := c_add hT (nI c) (by omega)
  obtain ⟨M', e2, d1, d2, d3, d4⟩ := hx.2.2 q fl row M (nI c) hB hY (by omega)
  have t1 := (encT_len c hc).1
  have t2 := (encV_len c hc).1
  refine ⟨t', M', e1, e2, hE.trans d2, hEE.trans d3, q, fl, [nI c], by omega, hq, hS, b1, hx.1 t t' hX b2, d1, d4, by simp, by simp; omega, by omega, fun x h => ?_, ?_, ?_⟩
  · rw [List.mem_singleton.mp h]; exact ⟨c, hc, rfl⟩
  · rw [List.flatMap_singleton]; omega
  · rw [List.flatMap_singleton]; omega
theorem number_tail {n : Nat} {C : Nat → Int32} (hC : CHs n C) {TL : List Tk} {iv : Int32} {X : STokens → Prop} {Y : Nat → SMo → Prop} (hx : CtxOK n C TL iv X Y) {b : Nat} (hb : b = 10 ∨ b = 16) {p q0 bk : Nat} {fl : Fl} {row : List Int32} {src0 : SSource} {t : STokens} {M : SMo} (h38 : C p = 38) (hpq : p + 2 ≤ q0) (hq : q0 ≤ n) (hl : row.length ≤ p) (hfl : fl.length + 4 ≤ 1200) (hS : BS n C q0 fl src0) (hT : BT row TL t) (hX : X t) (hB : BM n C q0 fl row TL M) (hY : Y row.length M) (hcn : RCon M) : ∃ (src' : SSource) (t' : STokens) (M' : SMo), ((f_ReferenceWays_readDigits (nI b) src0).bind fun x2 =>
    if (f_Source_place x2.2) = (f_Source_place src0) then
      (f_Source_wrong 27 x2.2).bind fun x9 =>
      (f_ReferenceWays_addAsItIs (nI (p + 1)) x9 t).bind fun x10 =>
      some (bk, x9, x10)
    else
      (f_Source_next x2.2).bind fun x3 =>
      if x3 = 59 then
        (f_ReferenceWays_characterOf x2.1 (f_Source_skip 1 x2.2)).bind fun x7 =>
        (f_Tokens_add x7.1 t).bind fun x8 =>
        some (bk, x7.2, x8)
      else
        (f_Source_wrong 25 x2.2).bind fun x4 =>
        (f_ReferenceWays_characterOf x2.1 x4).bind fun x5 =>
        (f_Tokens_add x5.1 t).bind fun x6 =>
        some (bk, x5.2, x6)) = some (bk, src', t') ∧ f_Mo_number_63 FU (nI p) iv (nI b) 0 0 M = some M' ∧ RefRes n C TL p X Y fl row src' t' M M' := by
  have hn := hC.1
  obtain ⟨q, v, f', src1, M1, a1, a2, a3, a4, a5, a6, a7, a8, a9, a10, a11, a12⟩ := digits_sim hC hb (nI p) iv (n - q0) q0 0 0 0 FU FU src0 M (Nat.le_refl _) (by unfold FU; omega) (by unfold FU; omega) hq (by omega) (by omega) hS hB
  have er : f_ReferenceWays_readDigits (nI b) src0 = some (nI (min v 1114112), src1) := a4
  have hY1 : Y row.length M1 := hx.2.1 _ M M1 hY a10 a11
  have cn1 : RCon M1 := RCon_EF hcn a8
  have em : f_Mo_number_63 FU (nI p) iv (nI b) 0 0 M = if nI (0 + (q - q0)) = 0 then (f_Mo_wrong 27 (q_Mo_p M1) M1).bind fun x10 => (f_Mo_giveAll (nI p) iv x10).bind fun x11 => some x11 else if C q = 59 then (f_Mo_told (nI v) (u_Mo_p M1 ((q_Mo_p M1) + 1))).bind fun x8 => (f_Mo_give x8.1 iv x8.2).bind fun x9 => some x9 else (f_Mo_wrong 25 (q_Mo_p M1) M1).bind fun x5 => (f_Mo_told (nI v) x5).bind fun x6 => (f_Mo_give x6.1 iv x6.2).bind fun x7 => some x7 := by
    refine Eq.trans a6 ?_
    rw [f_Mo_number_63, m_cp hC a7 (by omega), Option.bind_some, if_pos (Int32.not_lt.mp a12), Option.bind_some]
  rw [er, Option.bind_some, em]
  simp only [f_Source_place, a5.2.2.1, hS.2.2.1]
  by_cases hqq : q = q0
  · subst hqq
    obtain ⟨s2, e1, b1⟩ := c_wrong a5 27 (by omega)
    obtain ⟨M2, e2, d1, d2, d3, d4, d5⟩ := m_wrong a7 27 q (by omega)
    obtain ⟨t', M', g1, g2, g3, g4, g5, g6, g7, g8⟩ := ref_asItIs hC hx h38 (by omega) a2 hl b1 hT hX d1 (hx.2.1 _ M1 M2 hY1 d4 d5)
    obtain ⟨u1, u2, u3⟩ := slice_ok hC (a := p) (b := q) a2
    refine ⟨s2, t', M', ?_, ?_, a8.trans (d2.trans g3), a9.trans (d3.trans g4), q, _, slice C p q, by omega, a2, b1, g5, g6, g7, g8, ?_, by rw [slice_len]; omega, by rw [lenS]; omega, u1, u2, u3⟩
    · rw [if_pos rfl, e1, Option.bind_some, g1, Option.bind_some]
    · rw [if_pos (by rw [Nat.sub_self]; decide), a7.2.2.1, e2, Option.bind_some, g2, Option.bind_some]
    · rw [slice_cons (by omega)]; simp
  · have hlt : q0 < q := by omega
    rw [if_neg (fun h => hqq ((nI_eq (by omega) (by omega)).mp h)), if_neg (nI_ne0 (by omega) (by omega)), c_next hC a5 a2, Option.bind_some]
    by_cases h59 : C q = 59
    · have hqn : q < n := by
        by_cases h : q < n
        · exact h
        · have := (ch_end hC).mpr (show n ≤ q by omega)
          rw [h59] at this
          exact absurd this (by decide)
      obtain ⟨M2, x1, y1, y2, y3, y4, y5⟩ := m_adv a7
      have s2 : BS n C (q + 1) fl (f_Source_skip 1 src1) := c_skip hn a5 (k := 1) (by omega)
      obtain ⟨c, fl', s3, M3, hc, hfc, w1, w2, w3, w4, w5, w6, w7, w8⟩ := told_sim s2 y1 (RCon_EF cn1 y2) (by omega) a3
      obtain ⟨t', M', g1, g2, g3⟩ := give_one hx (p := p) (q := q + 1) (fl0 := fl) (M0 := M) hc (by omega) (by omega) hn hl (by omega) w3 hT hX w4 (hx.2.1 _ M2 M3 (hx.2.1 _ M1 M2 hY1 y4 y5) w7 w8) (a8.trans (y2.trans w5)) (a9.trans (y3.trans w6))
      refine ⟨s3, t', M', ?_, ?_, g3⟩
      · rw [if_pos h59, w1, Option.bind_some, g1, Option.bind_some]
      · rw [if_pos h59, x1, w2, Option.bind_some, g2, Option.bind_some]
    · obtain ⟨s2, e1, b1⟩ := c_wrong a5 25 (by omega)
      obtain ⟨M2, e2, d1, d2, d3, d4, d5⟩ := m_wrong a7 25 q (by omega)
      obtain ⟨c, fl', s3, M3, hc, hfc, w1, w2, w3, w4, w5, w6, w7, w8⟩ := told_sim b1 d1 (RCon_EF cn1 d2) (by rw [lenS]; omega) a3
      rw [lenS] at hfc
      obtain ⟨t', M', g1, g2, g3⟩ := give_one hx (p := p) (q := q) (fl0 := fl) (M0 := M) hc (by omega) a2 hn hl (by omega) w3 hT hX w4 (hx.2.1 _ M2 M3 (hx.2.1 _ M1 M2 hY1 d4 d5) w7 w8) (a8.trans (d2.trans w5)) (a9.trans (d3.trans w6))
      refine ⟨s3, t', M', ?_, ?_, g3⟩
      · rw [if_neg h59, e1, Option.bind_some, w1, Option.bind_some, g1, Option.bind_some]
      · rw [if_neg h59, a7.2.2.1, e2, Option.bind_some, w2, Option.bind_some, g2, Option.bind_some]
theorem low120 : ∀ i : Fin 256, (f_Mt_lowered (nI i.val) = 120 ↔ nI i.val = 120 ∨ nI i.val = 88) := by decide +kernel
theorem low120C {n : Nat} {C : Nat → Int32} (hC : CHs n C) (q : Nat) : f_Mt_lowered (C q) = 120 ↔ C q = 120 ∨ C q = 88 := by
  by_cases hq : q < n
  · obtain ⟨c, hc, e⟩ := hC.2.1 q hq
    rw [e]; exact low120 ⟨c, by omega⟩
  · rw [(ch_end hC).mpr (show n ≤ q by omega)]; decide
/-- a number, from the # on: the class's way 6, the reference behind the # -/
theorem number_sim {n : Nat} {C : Nat → Int32} (hC : CHs n C) {TL : List Tk} {iv : Int32} {X : STokens → Prop} {Y : Nat → SMo → Prop} (hx : CtxOK n C TL iv X Y) {p bk : Nat} {fl : Fl} {row : List Int32} {src : SSource} {t : STokens} {M : SMo} (h38 : C p = 38) (hp : p + 2 ≤ n) (hl : row.length ≤ p) (hfl : fl.length + 4 ≤ 1200) (hS : BS n C (p + 1) fl src) (hT : BT row TL t) (hX : X t) (hB : BM n C (p + 2) fl row TL M) (hY : Y row.length M) (hcn : RCon M) : ∃ (src' : SSource) (t' : STokens) (M' : SMo), f_ReferenceWays_numbered bk src t = some (bk, src', t') ∧ f_Mo_number (nI p) iv M = some M' ∧ RefRes n C TL p X Y fl row src' t' M M' := by
  have hn := hC.1
  have s1 : BS n C (p + 2) fl (f_Source_skip 1 src) := c_skip hn hS (k := 1) (by omega)
  have pl : f_Source_place src = nI (p + 1) := hS.2.2.1
  unfold f_ReferenceWays_numbered f_Mo_number
  rw [c_next hC s1 hp, Option.bind_some, m_cp hC hB (by omega), Option.bind_some, Option.bind_some, pl]
  by_cases h : f_Mt_lowered (C (p + 2)) = 120
  · have hq : p + 3 ≤ n := by
      by_cases hq : p + 2 < n
      · omega
      · rw [(ch_end hC).mpr (show n ≤ p + 2 by omega)] at h
        exact absurd h (by decide)
    have s2 : BS n C (p + 3) fl (f_Source_skip 1 (f_Source_skip 1 src)) := c_skip hn s1 (k := 1) (by omega)
    obtain ⟨M1, x1, y1, y2, y3, y4, y5⟩ := m_adv hB
    obtain ⟨src', t', M', e1, e2, r1, r2, r3⟩ := number_tail hC hx (Or.inr rfl : (16 : Nat) = 10 ∨ 16 = 16) (bk := bk) h38 (show p + 2 ≤ p + 3 by omega) hq hl hfl s2 hT hX y1 (hx.2.1 _ M M1 hY y4 y5) (RCon_EF hcn y2)
    refine ⟨src', t', M', ?_, ?_, y2.trans r1, y3.trans r2, r3⟩
    · rw [if_pos h]; exact e1
    · rw [x1]
      rcases (low120C hC (p + 2)).mp h with g | g
      · rw [if_pos g]; exact e2
      · rw [if_neg (by rw [g]; decide), if_pos g]; exact e2
  · have hno := fun g => h ((low120C hC (p + 2)).mpr g)
    obtain ⟨M1, x1, y1, y2, y3, y4, y5⟩ := m_setp hB (p + 2) (v := q_Mo_p M) hB.2.2.1
    obtain ⟨src', t', M', e1, e2, r1, r2, r3⟩ := number_tail hC hx (Or.inl rfl : (10 : Nat) = 10 ∨ 10 = 16) (bk := bk) h38 (Nat.le_refl _) hp hl hfl s1 hT hX y1 (hx.2.1 _ M M1 hY y4 y5) (RCon_EF hcn y2)
    refine ⟨src', t', M', ?_, ?_, y2.trans r1, y3.trans r2, r3⟩
    · rw [if_neg h]; exact e1
    · rw [if_neg (fun g => hno (Or.inl g)), if_neg (fun g => hno (Or.inr g)), x1]; exact e2
