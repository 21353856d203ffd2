theorem m_attBegin {n : Nat} {C : Nat → Int32} {p : Nat} {fl : Fl} {row : List Int32} {TL : List Tk} {ac : Nat} {ck : Int32} {cs ce : Nat} {AR : AR_} {M : SMo} (hB : BM n C p fl row TL M) (hA : AM ac TL ck cs ce 0 AR M) (hc : q_Mo_attributeCount M = nI (ac + AR.length)) (hb : ac + AR.length < 402) : ∃ M1, u_Mo_attributeCount_nameAt_valueSize M (q_Mo_attributeCount M + 1) (upd (q_Mo_nameAt M) ((q_Mo_attributeCount M) : Int32).toNatClampNeg (q_Mo_rowSize M)) (upd (q_Mo_valueSize M) ((q_Mo_attributeCount M) : Int32).toNatClampNeg 0) = M1 ∧ BM n C p fl row TL M1 ∧ EF M M1 ∧ EE M M1 ∧ AM ac TL ck cs ce 0 AR M1 ∧ q_Mo_attributeCount M1 = nI (ac + AR.length + 1) ∧ q_Mo_nameAt M1 (ac + AR.length) = nI row.length ∧ q_Mo_valueSize M1 (ac + AR.length) = 0 := by
  obtain ⟨a1, a2, a3, a4, a5, a6, a7, a8⟩ := hA
  rw [hc, nI_1, nI_clamp (by omega), hB.2.2.2.2.2.1]
  refine ⟨_, rfl, hB, EF.rf M, rfl, ⟨?_, a2, a3, a4, a5, a6, a7, ?_⟩, rfl, upd_same _ _ _, upd_same _ _ _⟩
  · exact TM_at (Nat.le_refl _) a1 (fun i hi => ⟨rfl, rfl, rfl, rfl, rfl, rfl⟩) (fun j hj => ⟨upd_ne _ _ (by omega), rfl, rfl, upd_ne _ _ (by omega)⟩)
  · intro j x hj
    have hl := (List.getElem?_eq_some_iff.mp hj).1
    obtain ⟨⟨b1, b2, b3, b4⟩, b5⟩ := a8 j x hj
    exact ⟨⟨(upd_ne _ _ (by omega)).trans b1, b2, b3, (upd_ne _ _ (by omega)).trans b4⟩, b5⟩
theorem attr_sim {n : Nat} {C : Nat → Int32} (hC : CHs n C) {p0 p kb : Nat} {fl : Fl} {row : List Int32} {TL : List Tk} {au ac : Nat} {ck : Int32} {cs ce : Nat} {AR : AR_} {w : Nat} {s : CS} {t : STokens} {M : SMo} (hck : ck = 1 ∨ ck = 2) (h : HD n C p fl row TL au ac ck cs ce AR s.2.2.1 t M) (hE : ENT w (C p) s t) (hb : f_Mt_isBlank (C p) = 0) (hl : ¬ (C p = -1 ∨ C p = 47 ∨ C p = 62)) (hp0 : p0 ≤ p) (hkb : kb ≤ 10 * (p - p0)) : ∃ x M', f_Mo_attribute M = some (x, M') ∧ RES n C TL au ac ck cs ce M p p0 kb w s x M' := by
  have hn := hC.1
  obtain ⟨h1, h2, ⟨AL, pn, a1, a2, a3⟩, h4, h5, h6, h7, h8, h9⟩ := h
  obtain ⟨i1, i2, i3, i4, i5, i6, i7, i8, i9⟩ := id h9
  have hkl := kp_len AR
  have hpn : p < n := by
    by_cases g : p < n
    · exact g
    · exact absurd (Or.inl ((ch_end hC).mpr (by omega))) hl
  obtain ⟨t1, e1, b1, b2, b3, b4⟩ := c_beginAtt h2 a1 a2 (by omega) (by rw [← a3]; omega)
  rw [← a3] at b2 b4
  obtain ⟨M1, u1, d1, d2, d3, d4, d5, d6, d7⟩ := m_attBegin h4 h5 h6 (by omega)
  have x1 : ix (q_Mo_attributeCount M) 402 := by rw [h6]; exact ixI (by omega) (by decide)
  have ec : f_Mo_charAt (q_Mo_p M) M1 = some (C p) := by rw [h4.2.2.1]; exact m_char hC d1 (by omega)
  unfold f_Mo_attribute
  rw [if_pos x1, if_pos x1, u1, ec, Option.bind_some]
  by_cases h61 : C p = 61
  · obtain ⟨src1, f1, f2⟩ := c_wrong h1 7 (by omega)
    obtain ⟨t2, f3, f4, f5⟩ := c_add b1 61 (by omega)
    have r1 := hE.2.2.2 h61 t1 src1 t2 e1 f1 f3
    obtain ⟨M2, w1, w2, w3, w4, w5, w6⟩ := m_wrong d1 7 p (by omega)
    obtain ⟨M3, k1, k2, k3, k4, k5, k6⟩ := m_keep w2 61 (by omega)
    obtain ⟨M4, y0, y1, y2, y3, y4, y5⟩ := m_adv k2
    have sm := w5.trans (k5.trans y4)
    have sx := w6.trans (k6.trans y5)
    have ef := w3.trans (k3.trans y2)
    have hN : NS n C p (p + 1) fl (fl ++ [(7, p)]) row [61] TL au ac ck cs ce AR (f_Source_then 9 src1).2 t2 M4 := by
      refine ⟨c_then2 hn f2 9 hpn, f4, AC_sc b2 f5, ?_, ?_, y1, AM_s d4 sm sx, sm.2.2.2.2.2.2.1.trans d5, ?_, ?_, Eq.trans y3 (Eq.trans k4 (Eq.trans w4 (Eq.trans d3 h7))), RCon_EF h8 (d2.trans ef), by omega, by omega, ?_, ?_, ?_⟩
      · rw [f5.2.2.2.2.2.2.2.2.2.2.2]; exact b3
      · rw [f5.2.2.2.2.2.2.2.1]; exact b4
      · rw [sm.2.2.2.2.2.2.2.1]; exact d6
      · rw [sm.2.2.2.2.2.2.2.2.2.2.1]; exact d7
      · show 1 ≤ p + 1 - p; omega
      · intro x hx; rw [List.mem_singleton.mp hx]; exact ⟨61, by decide, rfl⟩
      · rw [lenS]; omega
    obtain ⟨x, M', e2, o⟩ := anm_loop hC hck h9 hp0 (n - (p + 1)) (p + 1) (kb + 1) FU _ _ (s.1, s.2.1, (f_Source_then 9 src1).2, s.2.2.2.1, t2) M4 (Nat.le_refl _) (by unfold FU; omega) hN (Or.inl (by omega)) (by omega)
    refine ⟨x, M', ?_, RES_pre r1 (RES_EF (d2.trans ef) o)⟩
    have ec2 : f_Mo_charAt (q_Mo_p M3 + 1) M4 = some (C (p + 1)) := by rw [k2.2.2.1, nI_1]; exact m_char hC y1 (by omega)
    rw [if_pos h61, h4.2.2.1, w1, Option.bind_some, k1, Option.bind_some, y0, ec2, Option.bind_some, h6, e2]
  · have r1 := hE.2.2.1 hb hl h61 t1 e1
    have hN : NS n C p p fl fl row [] TL au ac ck cs ce AR s.2.2.1 t1 M1 := by
      refine ⟨h1, by rw [List.append_nil]; exact b1, b2, b3, b4, by rw [List.append_nil]; exact d1, d4, d5, d6, d7, Eq.trans d3 h7, RCon_EF h8 d2, Nat.le_refl _, i1, Nat.zero_le _, (fun x hx => by cases hx), by omega⟩
    obtain ⟨x, M', e2, o⟩ := anm_loop hC hck h9 hp0 (n - p) p (kb + 1) FU _ _ (s.1, s.2.1, s.2.2.1, s.2.2.2.1, t1) M1 (Nat.le_refl _) (by unfold FU; omega) hN (Or.inr ⟨ends_0 hb hl, h61⟩) (by omega)
    refine ⟨x, M', ?_, RES_pre r1 (RES_EF d2 o)⟩
    rw [if_neg h61, Option.bind_some, h6, e2]
theorem m_pmark {n : Nat} {C : Nat → Int32} {p : Nat} {fl : Fl} {row : List Int32} {TL : List Tk} {ac : Nat} {ck : Int32} {cs ce : Nat} {cm : Int32} {AR : AR_} {M : SMo} (hB : BM n C p fl row TL M) (hA : AM ac TL ck cs ce cm AR M) (ht : TL.length < 402) : ix (q_Mo_tokens M) 402 ∧ ∃ M1, u_Mo_p_marks M (q_Mo_p M + 1) (upd (q_Mo_marks M) ((q_Mo_tokens M) : Int32).toNatClampNeg (vp_nar .boolean 1)) = M1 ∧ BM n C (p + 1) fl row TL M1 ∧ EF M M1 ∧ EE M M1 ∧ AM ac TL ck cs ce 1 AR M1 ∧ q_Mo_attributeCount M1 = q_Mo_attributeCount M := by
  obtain ⟨a1, a2, a3, a4, a5, a6, a7, a8⟩ := hA
  obtain ⟨b1, b2, b3, b4, b5, b6, b7, b8⟩ := id hB
  rw [b8, nI_clamp (by omega), show vp_nar .boolean (1 : Int32) = 1 from rfl, b3, nI_1]
  refine ⟨ixI ht (by decide), _, rfl, ⟨b1, b2, rfl, b4, b5, b6, b7, b8⟩, EF.rf M, rfl, ⟨?_, a2, a3, a4, a5, upd_same _ _ _, a7, a8⟩, rfl⟩
  exact TM_at (Nat.le_refl _) a1 (fun i hi => ⟨rfl, rfl, rfl, upd_ne _ _ (Nat.ne_of_lt hi), rfl, rfl⟩) (fun j hj => ⟨rfl, rfl, rfl, rfl⟩)
theorem leave47 (src : SSource) (t : STokens) : f_TagWays_leave 47 src t = some (15, (f_Source_then 15 src).2, t) := by
  unfold f_TagWays_leave
  rw [if_neg (by decide), if_pos rfl, then1]
theorem behind_sim {n : Nat} {C : Nat → Int32} (hC : CHs n C) {p0 p kb : Nat} {fl : Fl} {row : List Int32} {TL : List Tk} {au ac : Nat} {ck : Int32} {cs ce : Nat} {AR : AR_} {w : Nat} {s : CS} {t : STokens} {M : SMo} (hck : ck = 1 ∨ ck = 2) (h : HD n C p fl row TL au ac ck cs ce AR s.2.2.1 t M) (hE : ENT w (C p) s t) (hp0 : p0 ≤ p) (hkb : kb ≤ 10 * (p - p0)) : ∃ x M', f_Mo_behindName M = some (x, M') ∧ RES n C TL au ac ck cs ce M p p0 kb w s x M' := by
  have hn := hC.1
  obtain ⟨q, M1, k, w1, s1, e1, g1, g2, g3, hD, hE1, r1, g4, g5⟩ := skip_head hC h hE
  have hD0 := hD
  obtain ⟨h1, h2, h3, h4, h5, h6, h7, h8, h9⟩ := hD
  obtain ⟨i1, i2, i3, i4, i5, i6, i7, i8, i9⟩ := id h9
  unfold f_Mo_behindName
  rw [e1, Option.bind_some, m_cp hC h4 (by omega), Option.bind_some]
  by_cases hend : C q = -1
  · have hqn : q = n := by have := (ch_end hC).mp hend; omega
    obtain ⟨k2, hk2, r2⟩ := hE1.2.1 (Or.inl hend)
    obtain ⟨AL, pn, a1, a2, a3⟩ := h3
    subst hqn
    obtain ⟨M', e2, o⟩ := drop_out hC (p0 := p0) (kb := kb + k) (k := k2) (w := w1) (s := s1) (src := s1.2.2.1) (t := t) h1 h2 a1 h4 h5 h9 (fun src' hw => ⟨s1.1, s1.2.1, s1.2.2.2.1, r2 29 src' t (by
      unfold f_TagWays_leave f_TagWays_dropped
      rw [if_pos hend, hw, Option.bind_some, Option.bind_some])⟩) (by omega)
    refine ⟨0, M', ?_, Or.inl ⟨rfl, OUT_pre r1 (OUT_EF g3 o)⟩⟩
    rw [if_pos hend, e2, Option.bind_some]
  have hqn : q < n := by
    by_cases g : q < n
    · exact g
    · exact absurd ((ch_end hC).mpr (by omega)) hend
  rw [if_neg hend]
  by_cases h62 : C q = 62
  · obtain ⟨k2, hk2, r2⟩ := hE1.2.1 (Or.inr (Or.inr h62))
    obtain ⟨M', e2, o⟩ := fin_out hC (p := q) (p0 := p0) (kb := kb + k) (k := k2) (w := w1) (s := s1) (src := s1.2.2.1) (t := t) hqn (by omega) hck (Or.inl rfl) h1 h2 h3 h4 h5 h6 h7 h9 (fun w' src' t' hd => ⟨s1.1, s1.2.1, s1.2.2.2.1, r2 w' src' t' (by rw [h62, leave62]; exact hd)⟩) (by omega)
    refine ⟨0, M', ?_, Or.inl ⟨rfl, OUT_pre r1 (OUT_EF g3 o)⟩⟩
    rw [if_pos h62, e2, Option.bind_some]
  rw [if_neg h62]
  by_cases h47 : C q = 47
  · obtain ⟨k2, hk2, r2⟩ := hE1.2.1 (Or.inr (Or.inl h47))
    have r3 := r2 15 (f_Source_then 15 s1.2.2.1).2 t (by rw [h47]; exact leave47 _ _)
    have b1 := c_then2 hn h1 15 hqn
    have nx := c_next hC b1 (show q + 1 ≤ n by omega)
    obtain ⟨M2, y0, y1, y2, y3, y4, y5⟩ := m_adv h4
    have ec : f_Mo_charAt (q_Mo_p M1 + 1) M2 = some (C (q + 1)) := by rw [h4.2.2.1, nI_1]; exact m_char hC y1 (by omega)
    rw [if_pos h47, y0, ec, Option.bind_some]
    by_cases hz : C (q + 1) = 62
    · have hqn2 : q + 1 < n := by
        by_cases g : q + 1 < n
        · exact g
        · rw [(ch_end hC).mpr (show n ≤ q + 1 by omega)] at hz
          exact absurd hz (by decide)
      obtain ⟨AL, pn, a1, a2, a3⟩ := h3
      obtain ⟨t2, f1, f2, f3, f4⟩ := c_setMarkT h2 a1 a2 1 (by omega)
      obtain ⟨z1, M3, z2, z3, z4, z5, z6, z7⟩ := m_pmark h4 h5 (by omega)
      obtain ⟨M', e2, o⟩ := fin_out hC (p := q + 1) (p0 := p0) (kb := kb + (k + k2)) (k := 1) (w := 15) (s := (s1.1, s1.2.1, (f_Source_then 15 s1.2.2.1).2, s1.2.2.2.1, t)) (src := (f_Source_then 15 s1.2.2.1).2) (t := t2) hqn2 (by omega) hck (Or.inr rfl) b1 f2 ⟨AL, pn, f3, f4, a3⟩ z3 z6 (z7.trans h6) (Eq.trans z5 h7) (TI_mono h9 (Nat.le_succ q) (by omega)) (fun w' src' t' hd => ⟨s1.1, s1.2.1, s1.2.2.2.1, step1 (by decide) nx (by
        rw [fol_15]; unfold f_TagWays_self
        rw [if_neg (by rw [hz]; decide), if_pos hz, f1, Option.bind_some, hd, Option.bind_some, Option.bind_some])⟩) (by omega)
      refine ⟨0, M', ?_, Or.inl ⟨rfl, OUT_pre (r1.trans r3) (OUT_EF (g3.trans z4) o)⟩⟩
      rw [if_pos hz, if_pos z1, z2, e2, Option.bind_some]
    rw [if_neg hz, Option.bind_some]
    by_cases hz2 : C (q + 1) = -1
    · have hqn2 : q + 1 = n := by have := (ch_end hC).mp hz2; omega
      obtain ⟨AL, pn, a1, a2, a3⟩ := h3
      subst hqn2
      obtain ⟨M', e2, o⟩ := drop_out hC (p0 := p0) (kb := kb + (k + k2)) (k := 1) (w := 15) (s := (s1.1, s1.2.1, (f_Source_then 15 s1.2.2.1).2, s1.2.2.2.1, t)) (src := (f_Source_then 15 s1.2.2.1).2) (t := t) b1 h2 a1 y1 (AM_s h5 y4 y5) (TI_mono h9 (Nat.le_succ q) (Nat.le_refl _)) (fun src' hw => ⟨s1.1, s1.2.1, s1.2.2.2.1, step1 (by decide) nx (by
        rw [fol_15]; unfold f_TagWays_self f_TagWays_dropped
        rw [if_pos hz2, hw, Option.bind_some, Option.bind_some, Option.bind_some])⟩) (by omega)
      refine ⟨0, M', ?_, Or.inl ⟨rfl, OUT_pre (r1.trans r3) (OUT_EF (g3.trans y2) o)⟩⟩
      rw [if_pos hz2, e2, Option.bind_some]
    · obtain ⟨src2, f1, f2⟩ := c_wrong b1 13 (by omega)
      obtain ⟨M3, w1, w2, w3, w4, w5, w6⟩ := m_wrong y1 13 (q + 1) (by omega)
      have r4 : Reach 1 15 (s1.1, s1.2.1, (f_Source_then 15 s1.2.2.1).2, s1.2.2.2.1, t) 8 (s1.1, s1.2.1, src2, s1.2.2.2.1, t) := step1 (by decide) nx (by
        rw [fol_15]; unfold f_TagWays_self
        rw [if_neg hz2, if_neg hz, f1, Option.bind_some, Option.bind_some])
      have hI2 : TI n (q + 1) (fl ++ [(13, q + 1)]) row TL cs ce au ac AR := by
        obtain ⟨i1, i2, i3, i4, i5, i6, i7, i8, i9, i10, i11, i12, i13⟩ := h9
        exact ⟨by omega, by omega, by omega, by rw [lenS]; omega, i5, i6, by omega, by omega, i9, i10, i11, i12, by omega⟩
      refine ⟨1, M3, ?_, Or.inr ⟨rfl, g3.trans (y2.trans w3), k + (k2 + 1), q + 1, _, row, AR, 8, (s1.1, s1.2.1, src2, s1.2.2.2.1, t), t, r1.trans (r3.trans r4), by omega, by omega, HD_mv hD0 f2 w2 (y2.trans w3) (y3.trans w4) (y4.trans w5) (y5.trans w6) hI2, ?_⟩⟩
      · rw [if_neg hz2, h4.2.2.1, nI_1, w1, Option.bind_some]
      · exact ENT8 hC (s := (s1.1, s1.2.1, src2, s1.2.2.2.1, t)) f2 (by omega)
  · rw [if_neg h47]
    obtain ⟨x, M', e2, o⟩ := attr_sim hC (kb := kb + k) hck hD0 hE1 g5 (by rintro (g | g | g) <;> contradiction) (show p0 ≤ q by omega) (by omega)
    refine ⟨x, M', ?_, RES_p g1 (RES_pre r1 (RES_EF g3 o))⟩
    rw [e2, Option.bind_some, if_pos (RES_bz o)]
theorem tag_loop {n : Nat} {C : Nat → Int32} (hC : CHs n C) {p0 : Nat} {TL : List Tk} {au ac : Nat} {ck : Int32} {cs ce : Nat} (hck : ck = 1 ∨ ck = 2) (v1 : Int32) : ∀ (d p kb f : Nat) (fl : Fl) (row : List Int32) (AR : AR_) (w : Nat) (s : CS) (t : STokens) (M : SMo), n - p ≤ d → d + 1 < f → HD n C p fl row TL au ac ck cs ce AR s.2.2.1 t M → ENT w (C p) s t → p0 ≤ p → kb ≤ 10 * (p - p0) → ∃ M', f_Mo_tagName_81 f v1 1 M = some M' ∧ OUT n C M p0 kb w s M' := by
  intro d
  induction d with
  | zero =>
    intro p kb f fl row AR w s t M hd hf h hE hp0 hkb
    obtain ⟨f, rfl⟩ : ∃ q, f = q + 1 := ⟨f - 1, by omega⟩
    obtain ⟨f, rfl⟩ : ∃ q, f = q + 1 := ⟨f - 1, by omega⟩
    obtain ⟨x, M', e1, o⟩ := behind_sim hC hck h hE hp0 hkb
    rcases o with ⟨rfl, o⟩ | ⟨rfl, o1, k, q, fl', row', AR', w', s', t', r1, o2, o3, o4, o5⟩
    · refine ⟨M', ?_, o⟩
      rw [f_Mo_tagName_81, if_neg (by decide), e1, Option.bind_some, f_Mo_tagName_81, if_pos rfl]
    · have := o4.2.2.2.2.2.2.2.2.1
      omega
  | succ d ih =>
    intro p kb f fl row AR w s t M hd hf h hE hp0 hkb
    obtain ⟨f, rfl⟩ : ∃ q, f = q + 1 := ⟨f - 1, by omega⟩
    obtain ⟨x, M', e1, o⟩ := behind_sim hC hck h hE hp0 hkb
    rcases o with ⟨rfl, o⟩ | ⟨rfl, o1, k, q, fl', row', AR', w', s', t', r1, o2, o3, o4, o5⟩
    · obtain ⟨f, rfl⟩ : ∃ q, f = q + 1 := ⟨f - 1, by omega⟩
      refine ⟨M', ?_, o⟩
      rw [f_Mo_tagName_81, if_neg (by decide), e1, Option.bind_some, f_Mo_tagName_81, if_pos rfl]
    · obtain ⟨M2, e2, o6⟩ := ih q (kb + k) f fl' row' AR' w' s' t' M' (by omega) (by omega) o4 o5 (by omega) (by omega)
      refine ⟨M2, ?_, OUT_pre r1 (OUT_EF o1 o6)⟩
      rw [f_Mo_tagName_81, if_neg (by decide), e1, Option.bind_some, e2]
theorem m_tagSize {n : Nat} {C : Nat → Int32} {p : Nat} {fl : Fl} {row : List Int32} {TL : List Tk} {ac : Nat} {ck : Int32} {cs : Nat} {M : SMo} (hB : BM n C p fl row TL M) (hM : MM1 ac TL ck cs 0 M) (hcs : cs ≤ row.length) (ht : TL.length < 402) : ix (q_Mo_tokens M) 402 ∧ ∃ M1, u_Mo_sizes M (upd (q_Mo_sizes M) ((q_Mo_tokens M) : Int32).toNatClampNeg (q_Mo_rowSize M - q_Mo_firsts M ((q_Mo_tokens M) : Int32).toNatClampNeg)) = M1 ∧ BM n C p fl row TL M1 ∧ EF M M1 ∧ EE M M1 ∧ AM ac TL ck cs row.length 0 [] M1 ∧ q_Mo_attributeCount M1 = nI (ac + ([] : AR_).length) := by
  obtain ⟨m1, m2, m3, m4, m5, m6, m7, m8⟩ := hM
  rw [hB.2.2.2.2.2.2.2, nI_clamp (by omega), m5, hB.2.2.2.2.2.1, nI_sub hcs]
  refine ⟨ixI ht (by decide), _, rfl, hB, EF.rf M, rfl, ⟨?_, m3, m4, m5, upd_same _ _ _, m6, m7, fun j x hj => by simp at hj⟩, m2⟩
  exact TM_at (Nat.le_refl _) m1 (fun i hi => ⟨rfl, rfl, upd_ne _ _ (Nat.ne_of_lt hi), rfl, rfl, rfl⟩) (fun j hj => ⟨rfl, rfl, rfl, rfl⟩)
theorem tagname_loop {n : Nat} {C : Nat → Int32} (hC : CHs n C) {p0 p : Nat} {fl0 : Fl} {row : List Int32} {TL : List Tk} {au ac : Nat} {ck : Int32} (hck : ck = 1 ∨ ck = 2) (hI : I0r 1 n p fl0 row TL none au ac) (hp0 : p0 < p) : ∀ (d q kb f : Nat) (fl : Fl) (l : List Int32) (s : CS) (M : SMo), n - q ≤ d → d < f → K1 n C q fl (row ++ l) TL ck row.length 0 au s → J1 n C q fl (row ++ l) TL ck row.length 0 ac M → RCon M → p ≤ q → q ≤ n → l.length ≤ q - p → (∀ x ∈ l, ∃ c : Nat, c ≤ 1114111 ∧ x = nI c) → fl.length ≤ fl0.length + (q - p) → (p < q ∨ f_TagWays_endsName (C q) = 0) → kb ≤ 3 * (p - p0) + (q - p) → ∃ M', f_Mo_tagName_9 f (C q) M = some M' ∧ OUT n C M p0 kb 7 s M' := by
  have hn := hC.1
  obtain ⟨i1, i2, i3, i4, i5, i6, i7, i8, i9, i10⟩ := hI
  have i3' : TL.length + 1 ≤ p := i3
  have i10' : (wOut (rw row) TL).length + 8 * 1 ≤ 8 * p := i10
  have i8' : ∀ tk ∈ TL, TkV row.length tk := i8
  intro d
  have main : ∀ (q kb f : Nat) (fl : Fl) (l : List Int32) (s : CS) (M : SMo), K1 n C q fl (row ++ l) TL ck row.length 0 au s → J1 n C q fl (row ++ l) TL ck row.length 0 ac M → RCon M → q ≤ n → l.length ≤ q - p → (∀ x ∈ l, ∃ c : Nat, c ≤ 1114111 ∧ x = nI c) → fl.length ≤ fl0.length + (q - p) → (p < q ∨ f_TagWays_endsName (C q) = 0) → kb ≤ 3 * (p - p0) + (q - p) → ¬ f_TagWays_endsName (C q) = 0 → ∃ M', f_Mo_tagName_9 (f + 1) (C q) M = some M' ∧ OUT n C M p0 kb 7 s M' := by
    intro q kb f fl l s M hK hJ hcn hqn hl hlm hfl hpq hkb he
    have hpq' : p < q := hpq.elim id (fun g => absurd g he)
    have hL : (row ++ l).length = row.length + l.length := List.length_append
    obtain ⟨t1, e1, b1, b2, b3⟩ := c_endOwnT hK.2.1 hK.2.2 (by omega)
    obtain ⟨x1, M1, u1, d1, d2, d3, d4, d5⟩ := m_tagSize hJ.2.1 hJ.2.2 (by omega) (by omega)
    have hT : TI n q fl (row ++ l) TL row.length (row ++ l).length au ac [] := by
      refine ⟨hqn, by omega, by omega, by omega, by omega, Nat.le_refl _, ?_, ?_, fun tk ht => TkV_mono (i8' tk ht) (by omega), ?_, (fun x hx => by cases hx), (fun x hx => by cases hx), ?_⟩
      · show au + 0 + 1 ≤ q; omega
      · show ac + 0 + 1 ≤ q; omega
      · intro x hx
        rcases List.mem_append.mp hx with hx | hx
        · exact i9 x hx
        · exact hlm x hx
      · rw [wOut_rw i8']
        show (wOut (rw row) TL).length + 3 + ((row ++ l).length - row.length) + 0 ≤ 8 * q
        omega
    have hH : HD n C q fl (row ++ l) TL au ac ck row.length (row ++ l).length [] s.2.2.1 t1 M1 := ⟨hK.1, b1, ⟨[], none, b2, b3, rfl⟩, d1, d4, d5, Eq.trans d3 hJ.1, RCon_EF hcn d2, hT⟩
    obtain ⟨M', e2, o⟩ := tag_loop hC hck (C q) (n - q) q kb FU fl (row ++ l) [] 7 s t1 M1 (Nat.le_refl _) (by unfold FU; omega) hH (ENT7 hC hK.1 hqn he e1) (show p0 ≤ q by omega) (by omega)
    refine ⟨M', ?_, OUT_EF d2 o⟩
    rw [f_Mo_tagName_9, isBlank_eq]
    rcases ends_c he with g | g | g | g
    · rw [if_neg (ends_b g).2.1, if_neg g, if_pos x1, if_pos x1, u1, e2]
    · rw [if_pos g, if_pos x1, if_pos x1, u1, e2]
    · rw [if_neg (by rw [g]; decide), if_pos (by rw [g]; decide), if_pos g, if_pos x1, if_pos x1, u1, e2]
    · rw [if_neg (by rw [g]; decide), if_pos (by rw [g]; decide), if_neg (by rw [g]; decide), if_pos g, if_pos x1, if_pos x1, u1, e2]
  induction d with
  | zero =>
    intro q kb f fl l s M hd hf hK hJ hcn hpq hqn hl hlm hfl hp hkb
    obtain ⟨f, rfl⟩ : ∃ q, f = q + 1 := ⟨f - 1, by omega⟩
    exact main q kb f fl l s M hK hJ hcn hqn hl hlm hfl hp hkb (by rw [(ch_end hC).mpr (show n ≤ q by omega)]; decide)
  | succ d ih =>
    intro q kb f fl l s M hd hf hK hJ hcn hpq hqn hl hlm hfl hp hkb
    obtain ⟨f, rfl⟩ : ∃ q, f = q + 1 := ⟨f - 1, by omega⟩
    by_cases he : f_TagWays_endsName (C q) = 0
    · have hL : (row ++ l).length = row.length + l.length := List.length_append
      have n1 : ¬ C q = -1 := fun g => by rw [g] at he; exact absurd he (by decide)
      have n2 : ¬ C q = 47 := fun g => by rw [g] at he; exact absurd he (by decide)
      have n3 : ¬ C q = 62 := fun g => by rw [g] at he; exact absurd he (by decide)
      have n4 : f_Mt_isBlank (C q) = 0 := by
        by_cases g : f_Mt_isBlank (C q) = 0
        · exact g
        · rw [(ends_b g).1] at he; exact absurd he (by decide)
      have hq : q < n := by
        by_cases h : q < n
        · exact h
        · exact absurd ((ch_end hC).mpr (by omega)) n1
      have hfk := flK_len (C q) q fl
      obtain ⟨l1, l2, l3⟩ := low_known hC hq fl
      obtain ⟨src', t', e1, b1, b2, b3⟩ := c_known hK.1 hK.2.1 (f_Mt_lowered (C q)) (by omega) (by omega)
      rw [l2] at b1
      obtain ⟨M1, e2, d1, d2, d3, d4, d5⟩ := m_known hC hJ.2.1 (by omega) (by omega)
      obtain ⟨M2, e3, g1, g2, g3, g4, g5⟩ := m_keep d1 (f_Mo_lowered (rK (C q))) (by omega)
      rw [l1] at g1
      have r1 : Reach 1 7 s 7 (s.1, s.2.1, (f_Source_then 7 src').2, s.2.2.2.1, t') := step1 (by decide) (c_next hC hK.1 hqn) (by
        rw [fol_7]; unfold f_TagWays_name
        rw [if_pos he, e1, Option.bind_some, Option.bind_some, then1])
      obtain ⟨M', e4, o⟩ := ih (q + 1) (kb + 1) f (flK (C q) q fl) (l ++ [rK (f_Mt_lowered (C q))]) (s.1, s.2.1, (f_Source_then 7 src').2, s.2.2.2.1, t') M2 (by omega) (by omega) ⟨c_then2 hn b1 7 hq, by rw [← List.append_assoc]; exact b2, MC1_sc hK.2.2 b3⟩ ⟨Eq.trans g3 (Eq.trans d3 hJ.1), by rw [← List.append_assoc]; exact g1, MM1_s hJ.2.2 (d4.trans g4) (d5.trans g5)⟩ (RCon_EF hcn (d2.trans g2)) (by omega) (by omega) (by rw [lenS]; omega) (fun x hx => by
        rcases List.mem_append.mp hx with hx | hx
        · exact hlm x hx
        · rw [List.mem_singleton.mp hx]; exact l3) (by omega) (Or.inl (by omega)) (by omega)
      refine ⟨M', ?_, OUT_pre r1 (OUT_EF (d2.trans g2) o)⟩
      rw [f_Mo_tagName_9, isBlank_eq, if_neg n1, if_pos n4, if_neg n2, if_neg n3, e2, Option.bind_some, e3, Option.bind_some, m_cp hC g1 (by omega), Option.bind_some, e4]
    · exact main q kb f fl l s M hK hJ hcn hqn hl hlm hfl hp hkb he
theorem letter_ends {c : Int32} (h : f_Mt_isLetter c = 1) : f_TagWays_endsName c = 0 := by
  by_cases hb : f_Mt_isBlank c = 0
  · refine ends_0 hb (fun g => ?_)
    rcases g with rfl | rfl | rfl <;> exact absurd h (by decide)
  · exfalso
    unfold f_Mt_isBlank at hb
    by_cases c1 : c = 10
    · subst c1; exact absurd h (by decide)
    by_cases c2 : c = 9
    · subst c2; exact absurd h (by decide)
    by_cases c3 : c = 12
    · subst c3; exact absurd h (by decide)
    by_cases c4 : c = 32
    · subst c4; exact absurd h (by decide)
    rw [if_neg c1, if_neg c2, if_neg c3, if_neg c4] at hb
    exact hb rfl
theorem simTag {n : Nat} {C : Nat → Int32} (hC : CHs n C) : SimTag n C := by
  intro p0 p kb kd fl row TL au ac s M hkd hp0 hp hlt hK hJ hcn hI hkb
  have hn := hC.1
  obtain ⟨M', e1, o⟩ := tagname_loop hC hkd hI hp0 (n - p) p kb FU fl [] s M (Nat.le_refl _) (by unfold FU; omega) (by rw [List.append_nil]; exact hK) (by rw [List.append_nil]; exact hJ) hcn (Nat.le_refl _) (by omega) (Nat.zero_le _) (fun x hx => by cases hx) (by omega) (Or.inr (letter_ends hlt)) (by omega)
  refine ⟨M', ?_, o⟩
  unfold f_Mo_tagName
  rw [m_cp hC hJ.2.1 (by omega), Option.bind_some, e1]
