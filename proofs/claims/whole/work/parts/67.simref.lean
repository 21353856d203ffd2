theorem ref_sim {n : Nat} {C : Nat → Int32} (hC : CHs n C) {TL : List Tk} {iv : Int32} {X : STokens → Prop} {Y : Nat → SMo → Prop} (hx : CtxOK n C TL iv X Y) {p bk : Nat} (hbk : (iv = 0 ∧ bk = 0) ∨ (iv = 1 ∧ ¬ bk = 0 ∧ bk < 30)) {fl : Fl} {row : List Int32} {s : CS} {M : SMo} (h38 : C p = 38) (hp : p + 1 ≤ n) (hl : row.length ≤ p) (hfl : fl.length + 4 ≤ 1200) (hb : s.2.1 = bk) (hS : BS n C (p + 1) fl s.2.2.1) (hT : BT row TL s.2.2.2.2) (hX : X s.2.2.2.2) (hB : BM n C p fl row TL M) (hY : Y row.length M) (hcn : RCon M) : ∃ M', f_Mo_reference iv M = some M' ∧ RefOut n C TL p bk X Y 3 s fl row M M' := by
  have hn := hC.1
  obtain ⟨M1, x1, y1, y2, y3, y4, y5⟩ := m_adv hB
  have hY1 := hx.2.1 _ M M1 hY y4 y5
  have cn1 := RCon_EF hcn y2
  have ec : f_Mo_charAt (q_Mo_p M + 1) M1 = some (C (p + 1)) := by rw [hB.2.2.1, nI_1]; exact m_char hC y1 (by omega)
  unfold f_Mo_reference
  rw [x1, ec, Option.bind_some, isLetter_eq]
  have nx := c_next hC hS hp
  -- how the result of a way's own step comes to the end
  have fin : ∀ (k : Nat) (s1 : CS) (src' : SSource) (t' : STokens) (M2 M' : SMo), EF M M2 → EE M M2 → Reach k 3 s bk (s.1, bk, src', s.2.2.2.1, t') → k ≤ 3 → RefRes n C TL p X Y fl row src' t' M2 M' → RefOut n C TL p bk X Y 3 s fl row M M' := by
    intro k s1 src' t' M2 M' h1 h2 h3 h4 h5
    obtain ⟨r1, r2, q, fl', l, q1, q2, q3, q4, q5, q6, q7, q8, q9, q10, q11, q12, q13⟩ := h5
    exact ⟨h1.trans r1, h2.trans r2, k, q, fl', l, _, h3, h4, q1, q2, q3, q4, q5, rfl, rfl, rfl, q6, q7, q8, q9, q10, q11, q12, q13⟩
  by_cases h35 : C (p + 1) = 35
  · have hp2 : p + 2 ≤ n := by
      by_cases h : p + 1 < n
      · omega
      · rw [(ch_end hC).mpr (show n ≤ p + 1 by omega)] at h35
        exact absurd h35 (by decide)
    obtain ⟨M2, x2, z1, z2, z3, z4, z5⟩ := m_setp hB (p + 2) (v := q_Mo_p M + 1 + 1) (by rw [hB.2.2.1, nI_1, nI_1])
    obtain ⟨src', t', M', e1, e2, r⟩ := number_sim hC hx (bk := bk) h38 hp2 hl hfl hS hT hX z1 (hx.2.1 _ M M2 hY z4 z5) (RCon_EF hcn z2)
    refine ⟨M', ?_, fin 2 s src' t' M2 M' z2 z3 ?_ (by omega) r⟩
    · rw [if_pos h35, hB.2.2.1] at *
      rw [x2, e2, Option.bind_some]
    · have r1 : Reach 1 3 s 6 (s.1, s.2.1, s.2.2.1, s.2.2.2.1, s.2.2.2.2) := step1 (by decide) nx (by
        rw [fol_3]; unfold f_ReferenceWays_start
        rw [if_pos h35, Option.bind_some])
      have r2 : Reach 1 6 (s.1, s.2.1, s.2.2.1, s.2.2.2.1, s.2.2.2.2) bk (s.1, bk, src', s.2.2.2.1, t') := step1 (by decide) nx (by
        rw [fol_6, hb, e1, Option.bind_some])
      exact r1.trans r2
  rw [if_neg h35]
  by_cases hz : f_Mt_isLetterOrDigit (C (p + 1)) = 0
  · have hz2 : f_Mt_isLetter (C (p + 1)) = 0 ∧ f_Mo_isDigit (C (p + 1)) = 0 := by
      rw [lod] at hz
      by_cases h : f_Mt_isLetter (C (p + 1)) = 0
      · rw [if_pos h] at hz; exact ⟨h, hz⟩
      · rw [if_neg h] at hz; exact absurd hz (by decide)
    obtain ⟨t1, e1, b1, b2⟩ := c_add hT 38 (by omega)
    obtain ⟨M2, e2, d1, d2, d3, d4⟩ := giveAll_sim hC hx (nI p) hp 1 p FU row M1 (by omega) (by unfold FU; omega) (by omega) y1 hY1
    have hsl : slice C p (p + 1) = [38] := by rw [slice_one, h38]
    rw [hsl] at d1 d4
    have e2' : f_Mo_giveAll (q_Mo_p M) iv M1 = some M2 := by rw [hB.2.2.1]; exact e2
    refine ⟨M2, by rw [if_pos hz2.1, if_pos hz2.2, e2', Option.bind_some], fin 1 s s.2.2.1 t1 M1 M2 y2 y3 ?_ (by omega) ⟨d2, d3, p + 1, fl, [38], by omega, hp, hS, b1, hx.1 _ _ hX b2, d1, d4, by simp, by show 1 ≤ p + 1 - p; omega, by omega, fun x h => ⟨38, by decide, List.mem_singleton.mp h⟩, ?_, ?_⟩⟩
    · refine step1 (by decide) nx ?_
      rw [fol_3]; unfold f_ReferenceWays_start
      rw [if_neg h35, if_pos hz, e1, Option.bind_some, Option.bind_some, hb]
    · rw [show p + 1 - p = 1 by omega]; decide
    · rw [show p + 1 - p = 1 by omega]; decide
  · obtain ⟨src', t', M', e1, e2, r⟩ := named_sim hC hx (bk := bk) hbk h38 hp hl hfl hS hT hX y1 hY1 cn1
    have r1 : Reach 1 3 s 4 (s.1, s.2.1, s.2.2.1, s.2.2.2.1, s.2.2.2.2) := step1 (by decide) nx (by
      rw [fol_3]; unfold f_ReferenceWays_start
      rw [if_neg h35, if_neg hz, Option.bind_some])
    have e2' : f_Mo_named (q_Mo_p M) iv M1 = some M' := by rw [hB.2.2.1]; exact e2
    refine ⟨M', ?_, ?_⟩
    · rw [lod] at hz
      by_cases h : f_Mt_isLetter (C (p + 1)) = 0
      · rw [if_pos h] at hz
        rw [if_pos h, if_neg hz, e2', Option.bind_some]
      · rw [if_neg h, e2', Option.bind_some]
    · rcases e1 with e1 | ⟨e1, e3⟩
      · refine fin 2 s src' t' M1 M' y2 y3 ?_ (by omega) r
        have r2 : Reach 1 4 (s.1, s.2.1, s.2.2.1, s.2.2.2.1, s.2.2.2.2) bk (s.1, bk, src', s.2.2.2.1, t') := step1 (by decide) nx (by
          rw [fol_4, hb, e1, Option.bind_some])
        exact r1.trans r2
      · refine fin 3 s src' t' M1 M' y2 y3 ?_ (by omega) r
        have r2 : Reach 1 4 (s.1, s.2.1, s.2.2.1, s.2.2.2.1, s.2.2.2.2) 5 (s.1, s.2.1, s.2.2.1, s.2.2.2.1, s.2.2.2.2) := step1 (by decide) nx (by
          rw [fol_4, hb, e1, Option.bind_some])
        have r3 : Reach 1 5 (s.1, s.2.1, s.2.2.1, s.2.2.2.1, s.2.2.2.2) bk (s.1, bk, src', s.2.2.2.1, t') := step1 (by decide) nx (by
          rw [fol_5, hb, e3, Option.bind_some])
        exact r1.trans (r2.trans r3)
theorem cost_list {TL : List Tk} : ∀ (l row : List Int32) (tx : Option Nat), (∀ tk ∈ fT row.length tx TL, TkV row.length tk) → (∀ a, tx = some a → a ≤ row.length) → l ≠ [] → (wOut (rw (row ++ l)) (fT (row ++ l).length (some (tx.getD row.length)) TL)).length = (wOut (rw row) (fT row.length tx TL)).length + (l.flatMap encT).length := by
  intro l
  induction l with
  | nil => intro row tx _ _ h; exact absurd rfl h
  | cons x l ih =>
    intro row tx hV htx _
    have hg : tx.getD row.length ≤ row.length := by
      cases tx with
      | none => exact Nat.le_refl _
      | some a => exact htx a rfl
    by_cases hl : l = []
    · subst hl
      rw [cost_text hV, List.flatMap_singleton]
    · have hV' : ∀ tk ∈ fT (row ++ [x]).length (some (tx.getD row.length)) TL, TkV (row ++ [x]).length tk := fT_V (fun tk ht => TkV_mono (hV tk (fT_sub ht)) (by rw [lenS]; omega)) (fun a ha => by cases ha; rw [lenS]; omega)
      have h := ih (row ++ [x]) (some (tx.getD row.length)) hV' (fun a ha => by cases ha; rw [lenS]; omega) hl
      rw [cost_text hV, List.append_assoc] at h
      have e : ((x :: l).flatMap encT).length = (encT x).length + (l.flatMap encT).length := by rw [List.flatMap_cons, List.length_append]
      rw [e, ← Nat.add_assoc]
      exact h
theorem simRef {n : Nat} {C : Nat → Int32} (hC : CHs n C) : SimRef n C := by
  intro p fl row TL tx au ac s M hp h38 hK hJ hcn hI
  have hn := hC.1
  obtain ⟨i1, i2, i3, i4, i5, i6, i7, i8, i9, i10⟩ := hI
  obtain ⟨hS, hT, hM⟩ := hK
  have hf2 := fT_len row.length tx TL
  have hg : tx.getD row.length ≤ row.length := by
    cases tx with
    | none => exact Nat.le_refl _
    | some a => exact Nat.le_of_lt (i5 a rfl)
  obtain ⟨t1, e1, b1, b2⟩ := c_beginText hT hM (by omega)
  obtain ⟨s2, e2, b3⟩ := c_then hn hS 3 hp
  have r0 : Reach 1 0 s 3 (s.1, 0, s2, s.2.2.2.1, t1) := step1 (by decide) (c_next hC hS i1) (by
    rw [fol_0]; unfold f_Reader_data f_ReferenceWays_open
    rw [if_neg (by rw [h38]; decide), if_neg (by rw [h38]; decide), if_pos h38, e1, Option.bind_some, e2, Option.bind_some])
  have hY : MM0 ac row.length TL (some (tx.getD row.length)) M := by
    obtain ⟨m1, m2, m3⟩ := hJ.2.2
    refine ⟨m1, m2, Or.inr ⟨_, rfl, hg, ?_⟩⟩
    rcases m3 with ⟨rfl, g⟩ | ⟨a, rfl, g1, g2, g3⟩
    · refine ⟨?_, fun h => absurd h (Nat.lt_irrefl _)⟩
      show q_Mo_textSize M = nI (row.length - row.length)
      rw [Nat.sub_self]; exact g
    · exact ⟨g2, g3⟩
  obtain ⟨M', e3, h1, h2, k, q, fl', l, s', r1, r2, q1, q2, q3, q4, q5, -, -, -, q6, q7, q8, q9, q10, q11, q12, q13⟩ := ref_sim hC (ctx_text (n := n) (C := C) (TL := TL) au ac (tx.getD row.length)) (bk := 0) (Or.inl ⟨rfl, rfl⟩) (s := (s.1, 0, s2, s.2.2.2.1, t1)) h38 (by omega) i2 (by omega) rfl b3 b1 b2 hJ.2.1 hY hcn
  have hll : 0 < l.length := List.length_pos_iff.mpr q8
  refine ⟨M', e3, OUT_pre r0 ⟨h1, k, s', fl', row ++ l, TL, some (tx.getD row.length), au, ac, Or.inl ⟨q, r1, by omega, by omega, ⟨q3, q4, q5⟩, ⟨Eq.trans h2 hJ.1, q6, q7⟩, ?_⟩⟩⟩
  refine ⟨q2, by rw [List.length_append]; omega, ?_, by omega, ?_, by omega, by omega, ?_, ?_, ?_⟩
  · show (TL ++ [_]).length ≤ q
    rw [lenS]; omega
  · intro a ha; cases ha; rw [List.length_append]; omega
  · exact fT_V (fun tk ht => TkV_mono (i8 tk (fT_sub ht)) (by rw [List.length_append]; omega)) (fun a ha => by cases ha; rw [List.length_append]; omega)
  · intro x hx
    rcases List.mem_append.mp hx with h | h
    · exact i9 x h
    · exact q11 x h
  · rw [cost_list l row tx i8 (fun a ha => Nat.le_of_lt (i5 a ha)) q8]; omega
