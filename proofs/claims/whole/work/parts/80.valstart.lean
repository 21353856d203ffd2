theorem VS_mv {n : Nat} {C : Nat → Int32} {p q r r' : Nat} {fl0 fl : Fl} {row l v : List Int32} {TL : List Tk} {au ac : Nat} {ck : Int32} {cs ce : Nat} {AR : AR_} {g : Int32} {src src' : SSource} {t : STokens} {M M' : SMo} (h : VS n C p q r fl0 fl row l v TL au ac ck cs ce AR g src t M) (hr : r ≤ r') (hn : r' ≤ n) (hS : BS n C r' fl src') (hB : BM n C r' fl (row ++ l ++ v) TL M') (e1 : EF M M') (e2 : EE M M') (e3 : SM M M') (e4 : SX M M') : VS n C p q r' fl0 fl row l v TL au ac ck cs ce AR g src' t M' := by
  obtain ⟨h1, h2, h3, h4, h5, h6, h7, h8, h9, h10, h11, h12, h13⟩ := h
  exact ⟨hS, h2, h3, hB, YA_s h5 e3 e4, Eq.trans e2 h6, RCon_EF h7 e1, by omega, hn, by omega, by omega, h12, by omega⟩
/-- behind the = -/
theorem val_start {n : Nat} {C : Nat → Int32} (hC : CHs n C) {p0 p q r kb : Nat} {fl0 fl : Fl} {row l : List Int32} {TL : List Tk} {au ac : Nat} {ck : Int32} {cs ce : Nat} {AR : AR_} {g : Int32} {s : CS} {M : SMo} (hck : ck = 1 ∨ ck = 2) (hN : NM n p q fl0 row l TL cs ce au ac AR g) (hp0 : p0 ≤ p) (hV : VS n C p q r fl0 fl row l [] TL au ac ck cs ce AR g s.2.2.1 s.2.2.2.2 M) (hkb : kb ≤ 10 * (p - p0) + 2 + (r - p)) : ∃ x M', f_Mo_value (nI (ac + AR.length)) M = some (x, M') ∧ RES n C TL au ac ck cs ce M p p0 kb 11 s x M' := by
  have hn := hC.1
  obtain ⟨q', M1, e1, g1, g2, g3, g4, g5, g6, g7, g8, g9⟩ := m_skip hC (n - r) r fl (row ++ l ++ []) TL FU M (Nat.le_refl _) (by unfold FU; omega) hV.2.2.2.2.2.2.2.2.1 hV.2.2.2.1
  obtain ⟨src', r1, b1⟩ := skip_w hC (w := 11) (by decide) blank11 (s := s) (p := r) (q := q') (fl := fl) hV.1 g1 g2 g9
  have hV1 := VS_mv hV g1 g2 b1 g3 g4 g5 g6 g7
  obtain ⟨h1, h2, h3, h4, h5, h6, h7, h8, h9, h10, h11, h12, h13⟩ := id hV1
  obtain ⟨i1, i2, i3, i4, i5, i6, i7, i8, i9⟩ := id hN.1
  obtain ⟨j1, j2, j3⟩ := id hN.2
  have hr0 : q < r := hV.2.2.2.2.2.2.2.1
  have hfr : fl.length ≤ fl0.length + (r - p) := hV.2.2.2.2.2.2.2.2.2.2.2.2
  have nx := c_next hC b1 g2
  unfold f_Mo_value
  have e1' : f_Mo_skipBlanks M = some M1 := e1
  rw [e1', Option.bind_some, m_cp hC g3 (by omega), Option.bind_some]
  by_cases h62 : C q' = 62
  · have hqn : q' < n := by
      by_cases h : q' < n
      · exact h
      · rw [(ch_end hC).mpr (show n ≤ q' by omega)] at h62
        exact absurd h62 (by decide)
    obtain ⟨src1, a1, a2⟩ := c_wrong b1 10 (by omega)
    obtain ⟨M2, w1, w2, w3, w4, w5, w6⟩ := m_wrong g3 10 q' (by omega)
    have hI := NM_TI (fl := fl ++ [(10, q')]) (v := []) hN (show q ≤ q' by omega) g2 (Nat.zero_le _) (Nat.zero_le _) h12 (by rw [lenS]; omega)
    rw [List.append_nil] at hI w2 h2
    obtain ⟨k1, k2⟩ := YA_AM0 (YA_s h5 w5 w6)
    obtain ⟨M', e2, o⟩ := fin_out hC (p := q') (p0 := p0) (kb := kb + (q' - r)) (k := 1) (w := 11) (s := (s.1, s.2.1, src', s.2.2.2.1, s.2.2.2.2)) hqn (by omega) hck (Or.inl rfl) a2 h2 (XA_HC h3 _) w2 k1 k2 (Eq.trans w4 h6) hI (fun w' src2 t' h => ⟨s.1, s.2.1, s.2.2.2.1, step1 (by decide) nx (by
      rw [fol_11]; unfold f_TagWays_value
      rw [if_pos g8, if_neg (by rw [h62]; decide), if_pos h62, a1, Option.bind_some, h, Option.bind_some, Option.bind_some])⟩) (by omega)
    refine ⟨0, M', ?_, Or.inl ⟨rfl, OUT_pre r1 (OUT_EF (g4.trans w3) o)⟩⟩
    rw [if_pos h62, g3.2.2.1, w1, Option.bind_some, e2, Option.bind_some]
  rw [if_neg h62]
  by_cases hqu : C q' = 34 ∨ C q' = 39
  · have hqn : q' < n := by
      by_cases h : q' < n
      · exact h
      · rw [(ch_end hC).mpr (show n ≤ q' by omega)] at hqu
        exact absurd hqu (by decide)
    obtain ⟨M2, x2, y1, y2, y3, y4, y5⟩ := m_adv g3
    have s1 := c_then2 hn b1 12 hqn
    have r2 : Reach 1 11 (s.1, s.2.1, src', s.2.2.2.1, s.2.2.2.2) 12 (s.1, s.2.1, (f_Source_then 12 src').2, C q', s.2.2.2.2) := step1 (by decide) nx (by
      rw [fol_11]; unfold f_TagWays_value
      rw [if_pos g8, if_pos hqu, Option.bind_some, then1])
    have hV2 := VS_mv (src' := (f_Source_then 12 src').2) (M' := M2) hV1 (Nat.le_succ q') (by omega) s1 y1 y2 y3 y4 y5
    obtain ⟨x, M', e2, o⟩ := val_loop hC hN hp0 (C q') 1 12 (n - (q' + 1)) (q' + 1) (kb + ((q' - r) + 1)) FU fl [] (s.1, s.2.1, (f_Source_then 12 src').2, C q', s.2.2.2.2) M2 (Nat.le_refl _) (by unfold FU; omega) hV2 (Or.inl ⟨rfl, rfl, rfl, hqu⟩) (by omega)
    refine ⟨x, M', ?_, RES_pre (r1.trans r2) (RES_EF (g4.trans y2) o)⟩
    have ec : f_Mo_charAt (q_Mo_p M1 + 1) M2 = some (C (q' + 1)) := by rw [g3.2.2.1, nI_1]; exact m_char hC y1 (by omega)
    rw [x2]
    rcases hqu with hq | hq
    · rw [if_pos hq, ec, Option.bind_some, e2]
    · rw [if_neg (by rw [hq]; decide), if_pos hq, ec, Option.bind_some, e2]
  · obtain ⟨M2, x2, y1, y2, y3, y4, y5⟩ := m_setp g3 q' (v := q_Mo_p M1) g3.2.2.1
    have r2 : Reach 1 11 (s.1, s.2.1, src', s.2.2.2.1, s.2.2.2.2) 13 (s.1, s.2.1, src', s.2.2.2.1, s.2.2.2.2) := step1 (by decide) nx (by
      rw [fol_11]; unfold f_TagWays_value
      rw [if_pos g8, if_neg hqu, if_neg h62, Option.bind_some])
    have hV2 := VS_mv (src' := src') (M' := M2) hV1 (Nat.le_refl q') g2 b1 y1 y2 y3 y4 y5
    obtain ⟨x, M', e2, o⟩ := val_loop hC hN hp0 (C q') 0 13 (n - q') q' (kb + ((q' - r) + 1)) FU fl [] (s.1, s.2.1, src', s.2.2.2.1, s.2.2.2.2) M2 (Nat.le_refl _) (by unfold FU; omega) hV2 (Or.inr ⟨rfl, rfl⟩) (by omega)
    refine ⟨x, M', ?_, RES_pre (r1.trans r2) (RES_EF (g4.trans y2) o)⟩
    have ec : f_Mo_charAt (q_Mo_p M1) M2 = some (C q') := by rw [g3.2.2.1]; exact m_char hC y1 (by omega)
    rw [x2, if_neg (fun h => hqu (Or.inl h)), if_neg (fun h => hqu (Or.inr h)), Option.bind_some, e2]
theorem RES_bz {n : Nat} {C : Nat → Int32} {TL : List Tk} {au ac : Nat} {ck : Int32} {cs ce : Nat} {M0 : SMo} {p p0 kb w : Nat} {s : CS} {x : Int32} {M' : SMo} (h : RES n C TL au ac ck cs ce M0 p p0 kb w s x M') : bz x := by
  rcases h with ⟨h, _⟩ | ⟨h, _⟩
  · exact Or.inl h
  · exact Or.inr h
