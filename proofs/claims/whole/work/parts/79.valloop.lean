def MODE (v2 v3 : Int32) (w : Nat) (q : Int32) : Prop := (v3 = 1 ∧ w = 12 ∧ q = v2 ∧ (v2 = 34 ∨ v2 = 39)) ∨ (v3 = 0 ∧ w = 13)
theorem val_end {n : Nat} {C : Nat → Int32} (hC : CHs n C) {p0 p q r kb : Nat} {fl0 fl : Fl} {row l v : List Int32} {TL : List Tk} {au ac : Nat} {ck : Int32} {cs ce : Nat} {AR : AR_} {g : Int32} {v2 v3 : Int32} {w : Nat} {s : CS} {M : SMo} (hN : NM n p q fl0 row l TL cs ce au ac AR g) (hV : VS n C p q r fl0 fl row l v TL au ac ck cs ce AR g s.2.2.1 s.2.2.2.2 M) (hm : MODE v2 v3 w s.2.2.2.1) (hp0 : p0 ≤ p) (hkb : kb ≤ 10 * (p - p0) + 4 + 4 * (r - p)) (he : C r = -1) (f : Nat) : ∃ x M', f_Mo_value_84 (f + 1) (nI (ac + AR.length)) v2 v3 (C r) M = some (x, M') ∧ RES n C TL au ac ck cs ce M p p0 kb w s x M' := by
  have hn := hC.1
  obtain ⟨h1, h2, h3, h4, h5, h6, h7, h8, h9, h10, h11, h12, h13⟩ := hV
  have hrn : r = n := by have := (ch_end hC).mp he; omega
  subst hrn
  obtain ⟨i1, i2, i3, i4, i5, i6, i7, i8, i9⟩ := id hN.1
  obtain ⟨j1, j2, j3⟩ := hN.2
  have hI := NM_TI (fl := fl) (v := v) hN (Nat.le_of_lt h8) (Nat.le_refl _) h10 h11 h12 (by omega)
  obtain ⟨M1, e1, b1, b2, b3, b4, b5⟩ := m_valSize h4 h5 (by omega) (by rw [List.length_append (as := row ++ l)]; omega)
  have x1 : ix (nI (ac + AR.length)) 402 := ixI (by omega) (by decide)
  have hr : ∀ src', f_Source_wrong 6 s.2.2.1 = some src' → ∃ a b d, Reach 1 w s 29 (a, b, src', d, s.2.2.2.2) := by
    intro src' hw
    refine ⟨s.1, s.2.1, s.2.2.2.1, ?_⟩
    have nx := c_next hC h1 (Nat.le_refl _)
    rcases hm with ⟨_, rfl, m2, m3⟩ | ⟨_, rfl⟩
    · refine step1 (by decide) nx ?_
      rw [fol_12]; unfold f_TagWays_quoted f_TagWays_dropped
      rw [he, if_neg (by rw [m2]; rcases m3 with rfl | rfl <;> decide), if_pos rfl, hw, Option.bind_some, Option.bind_some, Option.bind_some]
    · refine step1 (by decide) nx ?_
      rw [fol_13]; unfold f_TagWays_unquoted f_TagWays_dropped
      rw [he, if_pos (by decide), if_pos rfl, hw, Option.bind_some, Option.bind_some, Option.bind_some]
  obtain ⟨M', e2, o⟩ := drop_out hC (p0 := p0) (kb := kb) (k := 1) (w := w) (s := s) (src := s.2.2.1) (t := s.2.2.2.2) h1 h2 h3.1 b1 b4 hI hr (by omega)
  refine ⟨0, M', ?_, Or.inl ⟨rfl, OUT_EF b2 o⟩⟩
  rw [f_Mo_value_84, if_pos he]
  unfold f_Mo_value_203
  rw [if_pos x1, if_pos x1, if_pos he, e1, e2, Option.bind_some]
/-- the closing quotation mark -/
theorem val_close {n : Nat} {C : Nat → Int32} (hC : CHs n C) {p0 p q r kb : Nat} {fl0 fl : Fl} {row l v : List Int32} {TL : List Tk} {au ac : Nat} {ck : Int32} {cs ce : Nat} {AR : AR_} {g : Int32} {v2 : Int32} {s : CS} {M : SMo} (hN : NM n p q fl0 row l TL cs ce au ac AR g) (hV : VS n C p q r fl0 fl row l v TL au ac ck cs ce AR g s.2.2.1 s.2.2.2.2 M) (hq : s.2.2.2.1 = v2) (hv2 : v2 = 34 ∨ v2 = 39) (hp0 : p0 ≤ p) (hkb : kb ≤ 10 * (p - p0) + 4 + 4 * (r - p)) (hc : C r = v2) (hr : r < n) (f : Nat) : ∃ x M', f_Mo_value_84 (f + 1) (nI (ac + AR.length)) v2 1 (C r) M = some (x, M') ∧ RES n C TL au ac ck cs ce M p p0 kb 12 s x M' := by
  have hn := hC.1
  obtain ⟨h1, h2, h3, h4, h5, h6, h7, h8, h9, h10, h11, h12, h13⟩ := hV
  obtain ⟨i1, i2, i3, i4, i5, i6, i7, i8, i9⟩ := id hN.1
  obtain ⟨j1, j2, j3⟩ := hN.2
  have hcn : ¬ C r = -1 := by rw [hc]; rcases hv2 with rfl | rfl <;> decide
  obtain ⟨M1, e1, b1, b2, b3, b4, b5⟩ := m_valSizeP h4 h5 (by omega) (by rw [List.length_append (as := row ++ l)]; omega)
  have x1 : ix (nI (ac + AR.length)) 402 := ixI (by omega) (by decide)
  have s1 := c_then2 hn h1 14 hr
  have r1 : Reach 1 12 s 14 (s.1, s.2.1, (f_Source_then 14 s.2.2.1).2, s.2.2.2.1, s.2.2.2.2) := step1 (by decide) (c_next hC h1 h9) (by
    rw [fol_12]; unfold f_TagWays_quoted
    rw [hc, if_pos hq.symm, Option.bind_some, then1])
  have ech : f_Mo_charAt (q_Mo_p M + 1) M1 = some (C (r + 1)) := by rw [h4.2.2.1, nI_1]; exact m_char hC b1 (by omega)
  have hvl : v.length ≤ r + 1 - q := by omega
  have hvc : (v.flatMap encV).length ≤ 8 * (r + 1 - q) := by omega
  rw [f_Mo_value_84, if_neg hcn, if_neg (show ¬ (1 : Int32) = 0 by decide), if_pos hc]
  unfold f_Mo_value_203
  rw [if_pos x1, if_pos x1, if_neg hcn, if_neg (show ¬ (1 : Int32) = 0 by decide), e1, ech, Option.bind_some]
  by_cases he : f_TagWays_endsName (C (r + 1)) = 0
  · obtain ⟨src2, a1, a2⟩ := c_wrong s1 12 (by omega)
    obtain ⟨M2, w1, w2, w3, w4, w5, w6⟩ := m_wrong b1 12 (r + 1) (by omega)
    have hI := NM_TI (fl := fl ++ [(12, r + 1)]) (v := v) hN (show q ≤ r + 1 by omega) (by omega) hvl hvc h12 (by rw [lenS]; omega)
    have r2 : Reach 1 14 (s.1, s.2.1, (f_Source_then 14 s.2.2.1).2, s.2.2.2.1, s.2.2.2.2) 8 (s.1, s.2.1, src2, s.2.2.2.1, s.2.2.2.2) := step1 (by decide) (c_next hC s1 (by omega)) (by
      rw [fol_14]; unfold f_TagWays_behind
      rw [if_pos he, a1, Option.bind_some, Option.bind_some])
    have n1 : ¬ C (r + 1) = -1 := fun g => by rw [g] at he; exact absurd he (by decide)
    have n2 : ¬ C (r + 1) = 47 := fun g => by rw [g] at he; exact absurd he (by decide)
    have n3 : ¬ C (r + 1) = 62 := fun g => by rw [g] at he; exact absurd he (by decide)
    have n4 : f_Mt_isBlank (C (r + 1)) = 0 := by
      by_cases g : f_Mt_isBlank (C (r + 1)) = 0
      · exact g
      · rw [(ends_b g).1] at he; exact absurd he (by decide)
    refine ⟨1, M2, ?_, Or.inr ⟨rfl, b2.trans w3, 2, r + 1, _, _, _, 8, (s.1, s.2.1, src2, s.2.2.2.1, s.2.2.2.2), s.2.2.2.2, r1.trans r2, by omega, by omega, ⟨a2, h2, XA_HC h3 _, w2, AM_s b4 w5 w6, w5.2.2.2.2.2.2.1.trans b5, Eq.trans w4 (Eq.trans b3 h6), RCon_EF h7 (b2.trans w3), hI⟩, ?_⟩⟩
    · rw [if_neg n1, isBlank_eq, if_pos n4, if_neg n2, if_neg n3, h4.2.2.1, nI_1, w1, Option.bind_some]
    · exact ENT8 hC (s := (s.1, s.2.1, src2, s.2.2.2.1, s.2.2.2.2)) a2 (by omega)
  · have hI := NM_TI (fl := fl) (v := v) hN (show q ≤ r + 1 by omega) (by omega) hvl hvc h12 (by omega)
    refine ⟨1, M1, ?_, Or.inr ⟨rfl, b2, 1, r + 1, _, _, _, 14, (s.1, s.2.1, (f_Source_then 14 s.2.2.1).2, s.2.2.2.1, s.2.2.2.2), s.2.2.2.2, r1, by omega, by omega, ⟨s1, h2, XA_HC h3 _, b1, b4, b5, Eq.trans b3 h6, RCon_EF h7 b2, hI⟩, ?_⟩⟩
    · by_cases n1 : C (r + 1) = -1
      · rw [if_pos n1]
      rw [if_neg n1, isBlank_eq]
      rcases ends_c he with g | g | g | g
      · rw [if_neg g]
      · exact absurd g n1
      · rw [g, if_pos (by decide), if_pos rfl]
      · rw [g, if_pos (by decide), if_neg (by decide), if_pos rfl]
    · exact ENT14 hC (s := (s.1, s.2.1, (f_Source_then 14 s.2.2.1).2, s.2.2.2.1, s.2.2.2.2)) s1 (by omega) he
/-- the end of a value without quotation marks -/
theorem val_stop {n : Nat} {C : Nat → Int32} (hC : CHs n C) {p0 p q r kb : Nat} {fl0 fl : Fl} {row l v : List Int32} {TL : List Tk} {au ac : Nat} {ck : Int32} {cs ce : Nat} {AR : AR_} {g : Int32} {v2 : Int32} {s : CS} {M : SMo} (hN : NM n p q fl0 row l TL cs ce au ac AR g) (hV : VS n C p q r fl0 fl row l v TL au ac ck cs ce AR g s.2.2.1 s.2.2.2.2 M) (hp0 : p0 ≤ p) (hkb : kb ≤ 10 * (p - p0) + 4 + 4 * (r - p)) (hc : ¬ f_Mt_isBlank (C r) = 0 ∨ C r = 62) (f : Nat) : ∃ x M', f_Mo_value_84 (f + 1) (nI (ac + AR.length)) v2 0 (C r) M = some (x, M') ∧ RES n C TL au ac ck cs ce M p p0 kb 13 s x M' := by
  have hn := hC.1
  obtain ⟨h1, h2, h3, h4, h5, h6, h7, h8, h9, h10, h11, h12, h13⟩ := hV
  obtain ⟨i1, i2, i3, i4, i5, i6, i7, i8, i9⟩ := id hN.1
  obtain ⟨j1, j2, j3⟩ := hN.2
  have hcn : ¬ C r = -1 := by
    rcases hc with g | g
    · exact (ends_b g).2.1
    · rw [g]; decide
  obtain ⟨M1, e1, b1, b2, b3, b4, b5⟩ := m_valSize h4 h5 (by omega) (by rw [List.length_append (as := row ++ l)]; omega)
  have x1 : ix (nI (ac + AR.length)) 402 := ixI (by omega) (by decide)
  have hI := NM_TI (fl := fl) (v := v) hN (Nat.le_of_lt h8) h9 h10 h11 h12 (by omega)
  refine ⟨1, M1, ?_, Or.inr ⟨rfl, b2, 0, r, _, _, _, 13, s, s.2.2.2.2, ⟨rfl, rfl⟩, by omega, by omega, ⟨h1, h2, XA_HC h3 _, b1, b4, b5, Eq.trans b3 h6, RCon_EF h7 b2, hI⟩, ENT13 hC h1 h9 hc⟩⟩
  have k : f_Mo_value_203 (nI (ac + AR.length)) v2 0 (C r) M = some (1, M1) := by
    unfold f_Mo_value_203
    rw [if_pos x1, if_pos x1, if_neg hcn, if_pos rfl, e1]
  rw [f_Mo_value_84, if_neg hcn, if_pos rfl, isBlank_eq]
  by_cases hb : f_Mt_isBlank (C r) = 0
  · rw [if_pos hb]
    rcases hc with g | g
    · exact absurd hb g
    · rw [if_pos g, k]
  · rw [if_neg hb, k]
theorem val_loop {n : Nat} {C : Nat → Int32} (hC : CHs n C) {p0 p q : Nat} {fl0 : Fl} {row l : List Int32} {TL : List Tk} {au ac : Nat} {ck : Int32} {cs ce : Nat} {AR : AR_} {g : Int32} (hN : NM n p q fl0 row l TL cs ce au ac AR g) (hp0 : p0 ≤ p) (v2 v3 : Int32) (w : Nat) : ∀ (d r kb f : Nat) (fl : Fl) (v : List Int32) (s : CS) (M : SMo), n - r ≤ d → d < f → VS n C p q r fl0 fl row l v TL au ac ck cs ce AR g s.2.2.1 s.2.2.2.2 M → MODE v2 v3 w s.2.2.2.1 → kb ≤ 10 * (p - p0) + 4 + 4 * (r - p) → ∃ x M', f_Mo_value_84 f (nI (ac + AR.length)) v2 v3 (C r) M = some (x, M') ∧ RES n C TL au ac ck cs ce M p p0 kb w s x M' := by
  have hn := hC.1
  intro d
  induction d with
  | zero =>
    intro r kb f fl v s M hd hf hV hm hkb
    obtain ⟨f, rfl⟩ : ∃ q, f = q + 1 := ⟨f - 1, by omega⟩
    exact val_end hC hN hV hm hp0 hkb ((ch_end hC).mpr (by omega)) f
  | succ d ih =>
    intro r kb f fl v s M hd hf hV hm hkb
    obtain ⟨f, rfl⟩ : ∃ q, f = q + 1 := ⟨f - 1, by omega⟩
    by_cases he : C r = -1
    · exact val_end hC hN hV hm hp0 hkb he f
    have hrn : r < n := by
      by_cases h : r < n
      · exact h
      · exact absurd ((ch_end hC).mpr (by omega)) he
    by_cases hst : v3 = 0 ∧ (¬ f_Mt_isBlank (C r) = 0 ∨ C r = 62)
    · obtain ⟨hs1, hs2⟩ := hst
      rcases hm with ⟨m1, _⟩ | ⟨m1, m2⟩
      · rw [hs1] at m1; exact absurd m1 (by decide)
      · rw [hs1, m2]; exact val_stop hC hN hV hp0 hkb hs2 f
    by_cases hcl : v3 = 1 ∧ C r = v2
    · obtain ⟨hs1, hs2⟩ := hcl
      rcases hm with ⟨m1, m2, m3, m4⟩ | ⟨m1, m2⟩
      · rw [hs1, m2]; exact val_close hC hN hV m3 m4 hp0 hkb hs2 hrn f
      · rw [hs1] at m1; exact absurd m1 (by decide)
    -- inside
    have key : f_Mo_value_84 (f + 1) (nI (ac + AR.length)) v2 v3 (C r) M = f_Mo_value_118 (fun v1 v2 v3 v4 sMo => f_Mo_value_84 f v1 v2 v3 v4 sMo) (nI (ac + AR.length)) v2 v3 (C r) M := by
      rw [f_Mo_value_84, if_neg he]
      rcases hm with ⟨m1, m2, m3, m4⟩ | ⟨m1, m2⟩
      · rw [if_neg (by rw [m1]; decide), if_neg (fun g => hcl ⟨m1, g⟩)]
      · rw [if_pos m1, isBlank_eq]
        have hb : f_Mt_isBlank (C r) = 0 := by
          by_cases g : f_Mt_isBlank (C r) = 0
          · exact g
          · exact absurd ⟨m1, Or.inl g⟩ hst
        rw [if_pos hb, if_neg (fun g => hst ⟨m1, Or.inr g⟩)]
    rw [key]
    have hV0 := hV
    obtain ⟨h1, h2, h3, h4, h5, h6, h7, h8, h9, h10, h11, h12, h13⟩ := hV
    obtain ⟨i1, i2, i3, i4, i5, i6, i7, i8, i9⟩ := id hN.1
    obtain ⟨j1, j2, j3⟩ := id hN.2
    have hL : (row ++ l ++ v).length = row.length + l.length + v.length := by rw [List.length_append, List.length_append]
    have nx := c_next hC h1 h9
    unfold f_Mo_value_118
    by_cases h38 : C r = 38
    · rw [if_pos h38]
      have hw : w < 30 ∧ ¬ w = 0 := by rcases hm with ⟨_, rfl, _⟩ | ⟨_, rfl⟩ <;> exact ⟨by decide, by decide⟩
      have s1 := c_then2 hn h1 3 hrn
      have r1 : Reach 1 w s 3 (s.1, w, (f_Source_then 3 s.2.2.1).2, s.2.2.2.1, s.2.2.2.2) := by
        rcases hm with ⟨m1, rfl, m3, m4⟩ | ⟨m1, rfl⟩
        · refine step1 (by decide) nx ?_
          rw [fol_12]; unfold f_TagWays_quoted f_ReferenceWays_open
          rw [if_neg (by rw [m3]; exact fun g => hcl ⟨m1, g⟩), if_neg he, if_pos h38, Option.bind_some, then1]
        · refine step1 (by decide) nx ?_
          rw [fol_13]; unfold f_TagWays_unquoted f_ReferenceWays_open
          rw [h38, if_pos (by decide), if_neg (by decide), if_neg (by decide), if_pos rfl, Option.bind_some, then1]
      obtain ⟨M1, e1, y1, y2, k, q', fl', l', s', z1, z2, z3, z4, z5, z6, z7, z8, z9, z10, z11, z12, z13, z14, z15, z16, z17, z18⟩ := ref_sim hC (ctx_val (n := n) (C := C) (TL := TL) au ac ck cs ce AR g row.length (row ++ l).length) (bk := w) (Or.inr ⟨rfl, hw.2, hw.1⟩) (s := (s.1, w, (f_Source_then 3 s.2.2.1).2, s.2.2.2.1, s.2.2.2.2)) h38 (by omega) (by omega) (by omega) rfl s1 h2 h3 h4 h5 h7
      rw [e1, Option.bind_some, m_cp hC z11 (by omega), Option.bind_some]
      have hV' : VS n C p q q' fl0 fl' row l (v ++ l') TL au ac ck cs ce AR g s'.2.2.1 s'.2.2.2.2 M1 := by
        refine ⟨z5, by rw [← List.append_assoc]; exact z6, z7, by rw [← List.append_assoc]; exact z11, z12, Eq.trans y2 h6, RCon_EF h7 y1, by omega, z4, by rw [List.length_append]; omega, ?_, ?_, by omega⟩
        · rw [List.flatMap_append, List.length_append]; omega
        · intro x hx
          rcases List.mem_append.mp hx with hx | hx
          · exact h12 x hx
          · exact z16 x hx
      obtain ⟨x, M', e2, o⟩ := ih q' (kb + (1 + k)) f fl' (v ++ l') s' M1 (by omega) (by omega) hV' (by rw [z10]; exact hm) (by omega)
      exact ⟨x, M', e2, RES_pre (r1.trans z1) (RES_EF y1 o)⟩
    rw [if_neg h38]
    by_cases hsp : v3 = 0 ∧ (C r = 34 ∨ C r = 39 ∨ C r = 60 ∨ C r = 61 ∨ C r = 96)
    · obtain ⟨hv3, hsp⟩ := hsp
      obtain ⟨m1, rfl⟩ : v3 = 0 ∧ w = 13 := by
        rcases hm with ⟨m1, _⟩ | m
        · rw [hv3] at m1; exact absurd m1 (by decide)
        · exact m
      have hc0 : ¬ C r = 0 := by rcases hsp with g | g | g | g | g <;> (rw [g]; decide)
      have hfk : ∀ fx : Fl, flK (C r) r fx = fx := fun fx => if_neg hc0
      obtain ⟨src1, a1, a2⟩ := c_wrong h1 11 (by omega)
      obtain ⟨M1, w1, w2, w3, w4, w5, w6⟩ := m_wrong h4 11 r (by omega)
      obtain ⟨src', t', M2, e1, e2, y1, hV'⟩ := val_step hC 13 hN.1 j1 j2 hrn a2 h2 h3 w2 (YA_s h5 w5 w6) (Eq.trans w4 h6) (RCon_EF h7 w3) h8 h10 h11 h12 (by rw [hfk, lenS]; omega) (fun x10 x9 => f_Mo_value_84 f (nI (ac + AR.length)) v2 v3 x10 x9)
      have hb : f_Mt_isBlank (C r) = 0 := by
        by_cases g : f_Mt_isBlank (C r) = 0
        · exact g
        · exact absurd ⟨m1, Or.inl g⟩ hst
      have r1 : Reach 1 13 s 13 (s.1, s.2.1, (f_Source_then 13 src').2, s.2.2.2.1, t') := step1 (by decide) nx (by
        rw [fol_13]; unfold f_TagWays_unquoted
        rw [if_pos hb, if_neg he, if_pos hsp, a1, Option.bind_some, e1, Option.bind_some, Option.bind_some, then1])
      obtain ⟨x, M', e3, o⟩ := ih (r + 1) (kb + 1) f _ _ (s.1, s.2.1, (f_Source_then 13 src').2, s.2.2.2.1, t') M2 (by omega) (by omega) hV' (Or.inr ⟨m1, rfl⟩) (by omega)
      refine ⟨x, M', ?_, RES_pre r1 (RES_EF (w3.trans y1) o)⟩
      have k172 : f_Mo_value_172 (fun v1 v2 v3 v4 sMo => f_Mo_value_84 f v1 v2 v3 v4 sMo) (nI (ac + AR.length)) v2 v3 (C r) M = some (x, M') := by
        unfold f_Mo_value_172
        rw [h4.2.2.1, w1, Option.bind_some]
        exact e2.trans e3
      rw [if_pos m1]
      rcases hsp with g | g | g | g | g
      · rw [if_pos g, k172]
      · rw [if_neg (by rw [g]; decide), if_pos g, k172]
      · rw [if_neg (by rw [g]; decide), if_neg (by rw [g]; decide), if_pos g, k172]
      · rw [if_neg (by rw [g]; decide), if_neg (by rw [g]; decide), if_neg (by rw [g]; decide), if_pos g, k172]
      · rw [if_neg (by rw [g]; decide), if_neg (by rw [g]; decide), if_neg (by rw [g]; decide), if_neg (by rw [g]; decide), if_pos g, k172]
    · have hfk := flK_len (C r) r fl
      obtain ⟨src', t', M2, e1, e2, y1, hV'⟩ := val_step hC w hN.1 j1 j2 hrn h1 h2 h3 h4 h5 h6 h7 h8 h10 h11 h12 (by omega) (fun x10 x9 => f_Mo_value_84 f (nI (ac + AR.length)) v2 v3 x10 x9)
      have r1 : Reach 1 w s w (s.1, s.2.1, (f_Source_then w src').2, s.2.2.2.1, t') := by
        rcases hm with ⟨m1, rfl, m3, m4⟩ | ⟨m1, rfl⟩
        · refine step1 (by decide) nx ?_
          rw [fol_12]; unfold f_TagWays_quoted
          rw [if_neg (by rw [m3]; exact fun g => hcl ⟨m1, g⟩), if_neg he, if_neg h38, e1, Option.bind_some, Option.bind_some, then1]
        · have hb : f_Mt_isBlank (C r) = 0 := by
            by_cases g : f_Mt_isBlank (C r) = 0
            · exact g
            · exact absurd ⟨m1, Or.inl g⟩ hst
          refine step1 (by decide) nx ?_
          rw [fol_13]; unfold f_TagWays_unquoted
          rw [if_pos hb, if_neg he, if_neg (fun g => hsp ⟨m1, g⟩), if_neg h38, if_neg (fun g => hst ⟨m1, Or.inr g⟩), e1, Option.bind_some, Option.bind_some, then1]
      obtain ⟨x, M', e3, o⟩ := ih (r + 1) (kb + 1) f _ _ (s.1, s.2.1, (f_Source_then w src').2, s.2.2.2.1, t') M2 (by omega) (by omega) hV' hm (by omega)
      refine ⟨x, M', ?_, RES_pre r1 (RES_EF y1 o)⟩
      have e4 := e2.trans e3
      by_cases m1 : v3 = 0
      · have g : ∀ c, (c = 34 ∨ c = 39 ∨ c = 60 ∨ c = 61 ∨ c = 96) → ¬ C r = c := fun c hc hx => hsp ⟨m1, by rw [hx]; exact hc⟩
        rw [if_pos m1, if_neg (g 34 (by decide)), if_neg (g 39 (by decide)), if_neg (g 60 (by decide)), if_neg (g 61 (by decide)), if_neg (g 96 (by decide))]
        exact e4
      · rw [if_neg m1]; exact e4
