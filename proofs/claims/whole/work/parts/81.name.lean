/-- in an attribute's name, the reader being at q -/
def NS (n : Nat) (C : Nat → Int32) (p q : Nat) (fl0 fl : Fl) (row l : List Int32) (TL : List Tk) (au ac : Nat) (ck : Int32) (cs ce : Nat) (AR : AR_) (src : SSource) (t : STokens) (M : SMo) : Prop := BS n C q fl src ∧ BT (row ++ l) TL t ∧ AC au TL ck cs ce 0 (kp AR) t ∧ q_Tokens_inAttribute t = 1 ∧ q_Tokens_nameStarts t (au + (kp AR).length) = nI row.length ∧ BM n C q fl (row ++ l) TL M ∧ AM ac TL ck cs ce 0 AR M ∧ q_Mo_attributeCount M = nI (ac + AR.length + 1) ∧ q_Mo_nameAt M (ac + AR.length) = nI row.length ∧ q_Mo_valueSize M (ac + AR.length) = 0 ∧ q_Mo_ended M = 0 ∧ RCon M ∧ p ≤ q ∧ q ≤ n ∧ l.length ≤ q - p ∧ (∀ x ∈ l, ∃ c : Nat, c ≤ 1114111 ∧ x = nI c) ∧ fl.length ≤ fl0.length + (q - p)
def TAILf (v1 : Int32) (M : SMo) : Option (Int32 × SMo) := (f_Mo_skipBlanks M).bind fun x10 => (f_Mo_charAt (q_Mo_p x10) x10).bind fun x11 => if x11 = 61 then (f_Mo_value v1 (u_Mo_p x10 ((q_Mo_p x10) + 1))).bind fun x12 => if bz x12.1 then some (x12.1, x12.2) else none else some (1, x10)
theorem m_nameEnd {n : Nat} {C : Nat → Int32} {p : Nat} {fl : Fl} {row : List Int32} {TL : List Tk} {ac : Nat} {ck : Int32} {cs ce : Nat} {AR : AR_} {ns : Nat} {M : SMo} (hB : BM n C p fl row TL M) (hA : AM ac TL ck cs ce 0 AR M) (hc : q_Mo_attributeCount M = nI (ac + AR.length + 1)) (hna : q_Mo_nameAt M (ac + AR.length) = nI ns) (hvz : q_Mo_valueSize M (ac + AR.length) = 0) (hns : ns ≤ row.length) (g : Int32) : ∃ M2, u_Mo_nameSize_valueAt_goes M (upd (q_Mo_nameSize M) (ac + AR.length) (nI (row.length - ns))) (upd (q_Mo_valueAt M) (ac + AR.length) (nI row.length)) (upd (q_Mo_goes M) (ac + AR.length) g) = M2 ∧ BM n C p fl row TL M2 ∧ EF M M2 ∧ EE M M2 ∧ YA ac TL ck cs ce AR g ns row.length M2 := by
  obtain ⟨a1, a2, a3, a4, a5, a6, a7, a8⟩ := hA
  refine ⟨_, rfl, hB, EF.rf M, rfl, ⟨?_, a2, a3, a4, a5, a6, a7, ?_⟩, hc, hna, upd_same _ _ _, upd_same _ _ _, hvz, upd_same _ _ _⟩
  · exact TM_at (Nat.le_refl _) a1 (fun i hi => ⟨rfl, rfl, rfl, rfl, rfl, rfl⟩) (fun j hj => ⟨rfl, upd_ne _ _ (by omega), upd_ne _ _ (by omega), rfl⟩)
  · intro j x hj
    have hl := (List.getElem?_eq_some_iff.mp hj).1
    obtain ⟨⟨b1, b2, b3, b4⟩, b5⟩ := a8 j x hj
    exact ⟨⟨b1, (upd_ne _ _ (by omega)).trans b2, (upd_ne _ _ (by omega)).trans b3, b4⟩, (upd_ne _ _ (by omega)).trans b5⟩
theorem m_nameEnd0 {n : Nat} {C : Nat → Int32} {p : Nat} {fl : Fl} {row : List Int32} {TL : List Tk} {ac : Nat} {ck : Int32} {cs ce : Nat} {AR : AR_} {ns : Nat} {M : SMo} (hB : BM n C p fl row TL M) (hA : AM ac TL ck cs ce 0 AR M) (hna : q_Mo_nameAt M (ac + AR.length) = nI ns) : ∃ M2, u_Mo_nameSize_valueAt M (upd (q_Mo_nameSize M) (ac + AR.length) (nI (row.length - ns))) (upd (q_Mo_valueAt M) (ac + AR.length) (nI row.length)) = M2 ∧ BM n C p fl row TL M2 ∧ q_Mo_attributes M2 TL.length = nI ac ∧ (∀ (j : Nat) (x : At × Int32), AR[j]? = some x → q_Mo_nameAt M2 (ac + j) = nI x.1.1 ∧ q_Mo_nameSize M2 (ac + j) = nI (x.1.2.1 - x.1.1)) ∧ q_Mo_nameAt M2 (ac + AR.length) = nI ns ∧ q_Mo_nameSize M2 (ac + AR.length) = nI (row.length - ns) := by
  obtain ⟨a1, a2, a3, a4, a5, a6, a7, a8⟩ := hA
  refine ⟨_, rfl, hB, a7, ?_, hna, upd_same _ _ _⟩
  intro j x hj
  have hl := (List.getElem?_eq_some_iff.mp hj).1
  obtain ⟨⟨b1, b2, b3, b4⟩, b5⟩ := a8 j x hj
  exact ⟨b1, (upd_ne _ _ (by omega)).trans b2⟩
theorem anm_end {n : Nat} {C : Nat → Int32} (hC : CHs n C) {p q : Nat} {fl0 fl : Fl} {row l : List Int32} {TL : List Tk} {au ac : Nat} {ck : Int32} {cs ce : Nat} {AR : AR_} {src : SSource} {t : STokens} {M : SMo} (hI : TI n p fl0 row TL cs ce au ac AR) (h : NS n C p q fl0 fl row l TL au ac ck cs ce AR src t M) : ∃ (g : Int32) (src1 : SSource) (t1 : STokens) (fl1 : Fl) (M1 : SMo), f_TagWays_leaveAttributeName src t = some (src1, t1) ∧ (∀ v2, f_Mo_attribute_161 (nI (ac + AR.length)) v2 M = TAILf (nI (ac + AR.length)) M1) ∧ BS n C q fl1 src1 ∧ BT (row ++ l) TL t1 ∧ XA au TL ck cs ce AR g row.length (row ++ l).length t1 ∧ BM n C q fl1 (row ++ l) TL M1 ∧ YA ac TL ck cs ce AR g row.length (row ++ l).length M1 ∧ EF M M1 ∧ EE M M1 ∧ fl1.length ≤ fl.length + 1 ∧ (g = 0 ∨ g = 1) ∧ (g = 1 → ∃ b ∈ kp AR, nm (row ++ l) b = nm (row ++ l) (row.length, (row ++ l).length, 0)) := by
  have hn := hC.1
  obtain ⟨h1, h2, h3, h4, h5, h6, h7, h8, h9, h10, h11, h12, h13, h14, h15, h16, h17⟩ := h
  obtain ⟨i1, i2, i3, i4, i5, i6, i7, i8, i9, i10, i11, i12, i13⟩ := id hI
  have hkl := kp_len AR
  have hL : (row ++ l).length = row.length + l.length := List.length_append
  obtain ⟨t1, e1, b1, b2, b3⟩ := c_endName h2 h3 h4 h5 (by omega)
  have hVA : ∀ x ∈ AR, x.1.1 ≤ x.1.2.1 ∧ x.1.2.1 ≤ (row ++ l).length := fun x hx => by have := i11 x hx; omega
  have st := stood_sim b1 b2 b3 (by omega) (by omega) (by omega) (fun a ha => hVA _ (kp_mem ha)) (show row.length ≤ (row ++ l).length ∧ (row ++ l).length ≤ (row ++ l).length by omega) 0
  obtain ⟨M0, u0, d1, d2, d3, d4, d5⟩ := m_nameEnd0 h6 h7 h9
  have th := there_sim d1 (by omega) d2 d3 (by omega) d4 d5 (by omega) hVA (show row.length ≤ (row ++ l).length ∧ (row ++ l).length ≤ (row ++ l).length by omega) 0
  have hdup := dup_app i12 l (fun x hx => by have := i11 x hx; omega)
  have h01 : ∀ x ∈ AR, x.2 = 0 ∨ x.2 = 1 := fun x hx => (i11 x hx).2.2.2
  have x1 : ix (nI (ac + AR.length)) 402 := ixI (by omega) (by decide)
  have c1 : (nI (ac + AR.length)).toNatClampNeg = ac + AR.length := nI_clamp (by omega)
  have hsub : nI (row ++ l).length - nI row.length = nI ((row ++ l).length - row.length) := nI_sub (by omega)
  rcases st with ⟨s1, s2⟩ | ⟨s1, s2⟩
  · -- it stood there before
    have s1' : ∃ x ∈ AR, nm (row ++ l) x.1 = nm (row ++ l) (row.length, (row ++ l).length, 0) := by
      obtain ⟨a, ha, e⟩ := s1
      exact ⟨(a, 0), kp_mem ha, e⟩
    rcases th with ⟨t2, t3⟩ | ⟨t2, t3⟩
    · obtain ⟨M2, u2, f1, f2, f3, f4⟩ := m_nameEnd h6 h7 h8 h9 h10 (by omega) (vp_nar .boolean 1)
      obtain ⟨src1, a1, a2⟩ := c_wrong h1 9 (by omega)
      obtain ⟨M3, w1, w2, w3, w4, w5, w6⟩ := m_wrong f1 9 q (by omega)
      have hz : vp_nar .boolean (1 : Int32) = 1 := rfl
      rw [hz] at u2 f4
      obtain ⟨pl1, pl2⟩ : AC au TL ck cs ce 0 (kp AR) (f_Tokens_loseAttribute t1) ∧ PN au (kp AR) none (f_Tokens_loseAttribute t1) := by
        unfold f_Tokens_loseAttribute
        exact ⟨b2, Or.inl ⟨rfl, rfl⟩⟩
      refine ⟨1, src1, f_Tokens_loseAttribute t1, fl ++ [(9, q)], M3, ?_, fun v2 => ?_, a2, b1, ⟨pl1, Or.inr ⟨rfl, pl2⟩⟩, w2, YA_s f4 w5 w6, f2.trans w3, f3.trans w4, by rw [lenS]; omega, Or.inr rfl, fun _ => s1⟩
      · unfold f_TagWays_leaveAttributeName
        rw [e1, Option.bind_some, s2, Option.bind_some, if_neg (show ¬ (1 : Int32) = 0 by decide), a1, Option.bind_some]
      · unfold f_Mo_attribute_161
        simp only [if_pos x1, c1, h9, h6.2.2.2.2.2.1, hsub]
        rw [u0, t3, Option.bind_some, upd_same, hz, if_neg (show ¬ (1 : Int32) = 0 by decide), u2, h6.2.2.1, w1, Option.bind_some]
        rfl
    · obtain ⟨x, hx, e⟩ := s1'
      exact absurd e (t2 x hx)
  · rcases th with ⟨t2, t3⟩ | ⟨t2, t3⟩
    · obtain ⟨a, ha, e⟩ := dup_ex hdup h01 t2
      exact absurd e (s1 a ha)
    · obtain ⟨M2, u2, f1, f2, f3, f4⟩ := m_nameEnd h6 h7 h8 h9 h10 (by omega) (vp_nar .boolean 0)
      have hz : vp_nar .boolean (0 : Int32) = 0 := rfl
      rw [hz] at u2 f4
      refine ⟨0, src, t1, fl, M2, ?_, fun v2 => ?_, h1, b1, ⟨b2, Or.inl ⟨rfl, b3⟩⟩, f1, f4, f2, f3, by omega, Or.inl rfl, fun h => absurd h (by decide)⟩
      · unfold f_TagWays_leaveAttributeName
        rw [e1, Option.bind_some, s2, Option.bind_some, if_pos rfl]
      · unfold f_Mo_attribute_161
        simp only [if_pos x1, c1, h9, h6.2.2.2.2.2.1, hsub]
        rw [u0, t3, Option.bind_some, upd_same, hz, if_pos rfl, u2]
        rfl
/-- behind a name -/
theorem anm_fin {n : Nat} {C : Nat → Int32} (hC : CHs n C) {p0 p q kb : Nat} {fl0 fl : Fl} {row l : List Int32} {TL : List Tk} {au ac : Nat} {ck : Int32} {cs ce : Nat} {AR : AR_} {s : CS} {M : SMo} (hck : ck = 1 ∨ ck = 2) (hI : TI n p fl0 row TL cs ce au ac AR) (hp0 : p0 ≤ p) (hpq : p < q) (h : NS n C p q fl0 fl row l TL au ac ck cs ce AR s.2.2.1 s.2.2.2.2 M) (he : ¬ f_TagWays_endsName (C q) = 0 ∨ C q = 61) (hkb : kb ≤ 10 * (p - p0) + 1 + (q - p)) (v2 : Int32) : ∃ x M', f_Mo_attribute_161 (nI (ac + AR.length)) v2 M = some (x, M') ∧ RES n C TL au ac ck cs ce M p p0 kb 9 s x M' := by
  have hn := hC.1
  obtain ⟨g, src1, t1, fl1, M1, k1, k2, k3, k4, k5, k6, k7, k8, k9, k10, k11, k12⟩ := anm_end hC hI h
  obtain ⟨h1, h2, h3, h4, h5, h6, h7, h8, h9, h10, h11, h12, h13, h14, h15, h16, h17⟩ := h
  obtain ⟨i1, i2, i3, i4, i5⟩ := id hI
  have hN : NM n p q fl0 row l TL cs ce au ac AR g := ⟨hI, hpq, h15, h16, k11, k12⟩
  have nx := c_next hC h1 h14
  obtain ⟨q', M2, e1, g1, g2, g3, g4, g5, g6, g7, g8, g9⟩ := m_skip hC (n - q) q fl1 (row ++ l) TL FU M1 (Nat.le_refl _) (by unfold FU; omega) h14 k6
  have e1' : f_Mo_skipBlanks M1 = some M2 := e1
  rw [k2 v2]
  unfold TAILf
  rw [e1', Option.bind_some, m_cp hC g3 (by omega), Option.bind_some]
  by_cases h61 : C q' = 61
  · have hqn : q' < n := by
      by_cases h : q' < n
      · exact h
      · rw [(ch_end hC).mpr (show n ≤ q' by omega)] at h61
        exact absurd h61 (by decide)
    obtain ⟨M3, x3, y1, y2, y3, y4, y5⟩ := m_adv g3
    -- the class comes to way 11 behind the =
    obtain ⟨k, src3, r3, hk3, b3⟩ : ∃ k src3, Reach k 9 s 11 (s.1, s.2.1, src3, s.2.2.2.1, t1) ∧ k ≤ 2 + (q' - q) ∧ BS n C (q' + 1) fl1 src3 := by
      by_cases hq61 : C q = 61
      · have hqq : q' = q := by
          by_cases hx : q' = q
          · exact hx
          · exact absurd (by rw [hq61]; decide) (g9 q (Nat.le_refl _) (by omega))
        refine ⟨1, (f_Source_then 11 src1).2, step1 (by decide) nx ?_, by omega, ?_⟩
        · rw [fol_9]; unfold f_TagWays_attribute
          rw [if_pos (by rw [hq61]; decide), if_pos hq61, k1, Option.bind_some, Option.bind_some, then1]
        · rw [hqq]; exact c_then2 hn k3 11 (by omega)
      · have hee : ¬ f_TagWays_endsName (C q) = 0 := he.elim id (fun h => absurd h hq61)
        have r1 : Reach 1 9 s 10 (s.1, s.2.1, src1, s.2.2.2.1, t1) := step1 (by decide) nx (by
          rw [fol_9]; unfold f_TagWays_attribute
          rw [if_neg hee, k1, Option.bind_some, Option.bind_some])
        obtain ⟨src2, r2, b2⟩ := skip_w hC (w := 10) (by decide) blank10 (s := (s.1, s.2.1, src1, s.2.2.2.1, t1)) (p := q) (q := q') (fl := fl1) k3 g1 g2 g9
        have r3 : Reach 1 10 (s.1, s.2.1, src2, s.2.2.2.1, t1) 11 (s.1, s.2.1, (f_Source_then 11 src2).2, s.2.2.2.1, t1) := step1 (by decide) (c_next hC b2 g2) (by
          rw [fol_10]; unfold f_TagWays_after
          rw [if_pos g8, if_pos (by rw [h61]; decide), if_pos h61, Option.bind_some, then1])
        exact ⟨1 + ((q' - q) + 1), (f_Source_then 11 src2).2, r1.trans (r2.trans r3), by omega, c_then2 hn b2 11 hqn⟩
    have hV : VS n C p q (q' + 1) fl0 fl1 row l [] TL au ac ck cs ce AR g src3 t1 M3 := by
      refine ⟨b3, by rw [List.append_nil]; exact k4, k5, by rw [List.append_nil]; exact y1, YA_s (YA_s k7 g6 g7) y4 y5, Eq.trans y3 (Eq.trans g5 (Eq.trans k9 h11)), RCon_EF h12 (k8.trans (g4.trans y2)), by omega, by omega, Nat.zero_le _, Nat.zero_le _, (fun x hx => by cases hx), by omega⟩
    obtain ⟨x, M', e2, o⟩ := val_start hC hck hN hp0 (s := (s.1, s.2.1, src3, s.2.2.2.1, t1)) (kb := kb + k) hV (by omega)
    refine ⟨x, M', ?_, RES_pre r3 (RES_EF (k8.trans (g4.trans y2)) o)⟩
    rw [if_pos h61, x3, e2, Option.bind_some, if_pos (RES_bz o)]
  · have hq61 : ¬ C q = 61 := by
      intro hq61
      have hqq : q' = q := by
        by_cases hx : q' = q
        · exact hx
        · exact absurd (by rw [hq61]; decide) (g9 q (Nat.le_refl _) (by omega))
      rw [hqq] at h61; exact h61 hq61
    have hee : ¬ f_TagWays_endsName (C q) = 0 := he.elim id (fun h => absurd h hq61)
    have r1 : Reach 1 9 s 10 (s.1, s.2.1, src1, s.2.2.2.1, t1) := step1 (by decide) nx (by
      rw [fol_9]; unfold f_TagWays_attribute
      rw [if_neg hee, k1, Option.bind_some, Option.bind_some])
    obtain ⟨src2, r2, b2⟩ := skip_w hC (w := 10) (by decide) blank10 (s := (s.1, s.2.1, src1, s.2.2.2.1, t1)) (p := q) (q := q') (fl := fl1) k3 g1 g2 g9
    have hT := NM_TI (fl := fl1) (v := []) hN g1 g2 (Nat.zero_le _) (Nat.zero_le _) (fun x hx => by cases hx) (by omega)
    rw [List.append_nil] at hT
    obtain ⟨a1, a2⟩ := YA_AM0 (YA_s k7 g6 g7)
    refine ⟨1, M2, by rw [if_neg h61], Or.inr ⟨rfl, k8.trans g4, 1 + (q' - q), q', fl1, row ++ l, _, 10, (s.1, s.2.1, src2, s.2.2.2.1, t1), t1, r1.trans r2, by omega, by omega, ⟨b2, k4, XA_HC k5 _, g3, a1, a2, Eq.trans g5 (Eq.trans k9 h11), RCon_EF h12 (k8.trans g4), hT⟩, ?_⟩⟩
    exact ENT10 hC (s := (s.1, s.2.1, src2, s.2.2.2.1, t1)) b2 g2 g8 h61
/-- a character of a name -/
theorem anm_step {n : Nat} {C : Nat → Int32} (hC : CHs n C) {p q : Nat} {fl0 fl : Fl} {row l : List Int32} {TL : List Tk} {au ac : Nat} {ck : Int32} {cs ce : Nat} {AR : AR_} {src : SSource} {t : STokens} {M : SMo} (hI : TI n p fl0 row TL cs ce au ac AR) (hqn : q < n) (h1 : BS n C q fl src) (h2 : BT (row ++ l) TL t) (h3 : AC au TL ck cs ce 0 (kp AR) t) (h4 : q_Tokens_inAttribute t = 1) (h5 : q_Tokens_nameStarts t (au + (kp AR).length) = nI row.length) (h6 : BM n C q fl (row ++ l) TL M) (h7 : AM ac TL ck cs ce 0 AR M) (h8 : q_Mo_attributeCount M = nI (ac + AR.length + 1)) (h9 : q_Mo_nameAt M (ac + AR.length) = nI row.length) (h10 : q_Mo_valueSize M (ac + AR.length) = 0) (h11 : q_Mo_ended M = 0) (h12 : RCon M) (h13 : p ≤ q) (h15 : l.length ≤ q - p) (h16 : ∀ x ∈ l, ∃ c : Nat, c ≤ 1114111 ∧ x = nI c) (h17 : (flK (C q) q fl).length ≤ fl0.length + (q + 1 - p)) (K : Int32 → SMo → Option (Int32 × SMo)) : ∃ src' t' M' fl', f_Ways_addKnown (f_Mt_lowered (C q)) src t = some (src', t') ∧ ((f_Mo_known M).bind fun x8 => (f_Mo_keep (f_Mo_lowered x8.1) x8.2).bind fun x9 => (f_Mo_charAt (q_Mo_p x9) x9).bind fun x10 => K x10 x9) = K (C (q + 1)) M' ∧ EF M M' ∧ NS n C p (q + 1) fl0 fl' row (l ++ [rK (f_Mt_lowered (C q))]) TL au ac ck cs ce AR (f_Source_then 9 src').2 t' M' := by
  have hn := hC.1
  obtain ⟨i1, i2, i3, i4, i5⟩ := id hI
  have hL : (row ++ l).length = row.length + l.length := List.length_append
  have hfk := flK_len (C q) q fl
  obtain ⟨l1, l2, l3⟩ := low_known hC hqn fl
  obtain ⟨src', t', e1, b1, b2, b3⟩ := c_known h1 h2 (f_Mt_lowered (C q)) (by omega) (by omega)
  rw [l2] at b1
  obtain ⟨M1, e2, d1, d2, d3, d4, d5⟩ := m_known hC h6 (by omega) (by omega)
  obtain ⟨M2, e3, g1, g2, g3, g4, g5⟩ := m_keep d1 (f_Mo_lowered (rK (C q))) (by omega)
  rw [l1] at g1
  have sm := d4.trans g4
  refine ⟨src', t', M2, flK (C q) q fl, e1, ?_, d2.trans g2, c_then2 hn b1 9 hqn, by rw [← List.append_assoc]; exact b2, AC_sc h3 b3, ?_, ?_, by rw [← List.append_assoc]; exact g1, AM_s h7 sm (d5.trans g5), sm.2.2.2.2.2.2.1.trans h8, ?_, ?_, Eq.trans g3 (Eq.trans d3 h11), RCon_EF h12 (d2.trans g2), by omega, by omega, by rw [lenS]; omega, ?_, h17⟩
  · rw [e2, Option.bind_some, e3, Option.bind_some, m_cp hC g1 (by omega), Option.bind_some]
  · rw [b3.2.2.2.2.2.2.2.2.2.2.2]; exact h4
  · rw [b3.2.2.2.2.2.2.2.1]; exact h5
  · rw [sm.2.2.2.2.2.2.2.1]; exact h9
  · rw [sm.2.2.2.2.2.2.2.2.2.2.1]; exact h10
  · intro x hx
    rcases List.mem_append.mp hx with hx | hx
    · exact h16 x hx
    · rw [List.mem_singleton.mp hx]; exact l3
theorem anm_loop {n : Nat} {C : Nat → Int32} (hC : CHs n C) {p0 p : Nat} {fl0 : Fl} {row : List Int32} {TL : List Tk} {au ac : Nat} {ck : Int32} {cs ce : Nat} {AR : AR_} (hck : ck = 1 ∨ ck = 2) (hI : TI n p fl0 row TL cs ce au ac AR) (hp0 : p0 ≤ p) : ∀ (d q kb f : Nat) (fl : Fl) (l : List Int32) (s : CS) (M : SMo), n - q ≤ d → d < f → NS n C p q fl0 fl row l TL au ac ck cs ce AR s.2.2.1 s.2.2.2.2 M → (p < q ∨ (f_TagWays_endsName (C q) = 0 ∧ ¬ C q = 61)) → kb ≤ 10 * (p - p0) + 1 + (q - p) → ∃ x M', f_Mo_attribute_80 f (nI (ac + AR.length)) (C q) M = some (x, M') ∧ RES n C TL au ac ck cs ce M p p0 kb 9 s x M' := by
  have hn := hC.1
  intro d
  have main : ∀ (q kb f : Nat) (fl : Fl) (l : List Int32) (s : CS) (M : SMo), NS n C p q fl0 fl row l TL au ac ck cs ce AR s.2.2.1 s.2.2.2.2 M → (p < q ∨ (f_TagWays_endsName (C q) = 0 ∧ ¬ C q = 61)) → kb ≤ 10 * (p - p0) + 1 + (q - p) → (¬ f_TagWays_endsName (C q) = 0 ∨ C q = 61) → ∃ x M', f_Mo_attribute_80 (f + 1) (nI (ac + AR.length)) (C q) M = some (x, M') ∧ RES n C TL au ac ck cs ce M p p0 kb 9 s x M' := by
    intro q kb f fl l s M h hpq hkb he
    have hpq' : p < q := by
      rcases hpq with h | ⟨h1, h2⟩
      · exact h
      · rcases he with g | g
        · exact absurd h1 g
        · exact absurd g h2
    have key : f_Mo_attribute_80 (f + 1) (nI (ac + AR.length)) (C q) M = f_Mo_attribute_161 (nI (ac + AR.length)) (C q) M := by
      rw [f_Mo_attribute_80, isBlank_eq]
      rcases he with g | g
      · rcases ends_c g with g | g | g | g
        · rw [if_neg (ends_b g).2.1, if_neg g]
        · rw [if_pos g]
        · rw [g, if_neg (by decide), if_pos (by decide), if_pos rfl]
        · rw [g, if_neg (by decide), if_pos (by decide), if_neg (by decide), if_pos rfl]
      · rw [g, if_neg (by decide), if_pos (by decide), if_neg (by decide), if_neg (by decide), if_pos rfl]
    rw [key]
    exact anm_fin hC hck hI hp0 hpq' h he hkb _
  induction d with
  | zero =>
    intro q kb f fl l s M hd hf h hpq hkb
    obtain ⟨f, rfl⟩ : ∃ q, f = q + 1 := ⟨f - 1, by omega⟩
    exact main q kb f fl l s M h hpq hkb (Or.inl (by rw [(ch_end hC).mpr (show n ≤ q by omega)]; decide))
  | succ d ih =>
    intro q kb f fl l s M hd hf h hpq hkb
    obtain ⟨f, rfl⟩ : ∃ q, f = q + 1 := ⟨f - 1, by omega⟩
    by_cases he : ¬ f_TagWays_endsName (C q) = 0 ∨ C q = 61
    · exact main q kb f fl l s M h hpq hkb he
    have he0 : f_TagWays_endsName (C q) = 0 := by
      by_cases g : f_TagWays_endsName (C q) = 0
      · exact g
      · exact absurd (Or.inl g) he
    have h61 : ¬ C q = 61 := fun g => he (Or.inr g)
    have n1 : ¬ C q = -1 := fun g => by rw [g] at he0; exact absurd he0 (by decide)
    have n2 : ¬ C q = 47 := fun g => by rw [g] at he0; exact absurd he0 (by decide)
    have n3 : ¬ C q = 62 := fun g => by rw [g] at he0; exact absurd he0 (by decide)
    have n4 : f_Mt_isBlank (C q) = 0 := by
      by_cases g : f_Mt_isBlank (C q) = 0
      · exact g
      · rw [(ends_b g).1] at he0; exact absurd he0 (by decide)
    obtain ⟨h1, h2, h3, h4, h5, h6, h7, h8, h9, h10, h11, h12, h13, h14, h15, h16, h17⟩ := h
    have hqn : q < n := by
      by_cases h : q < n
      · exact h
      · exact absurd ((ch_end hC).mpr (by omega)) n1
    obtain ⟨i1, i2, i3, i4, i5⟩ := id hI
    have nx := c_next hC h1 h14
    rw [f_Mo_attribute_80, isBlank_eq, if_neg n1, if_pos n4, if_neg n2, if_neg n3, if_neg h61]
    by_cases hsp : C q = 34 ∨ C q = 39 ∨ C q = 60
    · have hc0 : ¬ C q = 0 := by rcases hsp with g | g | g <;> (rw [g]; decide)
      have hfk : ∀ fx : Fl, flK (C q) q fx = fx := fun fx => if_neg hc0
      obtain ⟨src1, a1, a2⟩ := c_wrong h1 8 (by omega)
      obtain ⟨M1, w1, w2, w3, w4, w5, w6⟩ := m_wrong h6 8 q (by omega)
      obtain ⟨src', t', M2, fl', e1, e2, y1, hN⟩ := anm_step hC hI hqn a2 h2 h3 h4 h5 w2 (AM_s h7 w5 w6) (w5.2.2.2.2.2.2.1.trans h8) (by rw [w5.2.2.2.2.2.2.2.1]; exact h9) (by rw [w5.2.2.2.2.2.2.2.2.2.2.1]; exact h10) (Eq.trans w4 h11) (RCon_EF h12 w3) h13 h15 h16 (by rw [hfk, lenS]; omega) (fun x10 x9 => f_Mo_attribute_80 f (nI (ac + AR.length)) x10 x9)
      have r1 : Reach 1 9 s 9 (s.1, s.2.1, (f_Source_then 9 src').2, s.2.2.2.1, t') := step1 (by decide) nx (by
        rw [fol_9]; unfold f_TagWays_attribute
        rw [if_pos he0, if_neg h61]
        rcases hsp with g | g | g
        · rw [if_pos g, a1, Option.bind_some, e1, Option.bind_some, Option.bind_some, then1]
        · rw [if_neg (by rw [g]; decide), if_pos g, a1, Option.bind_some, e1, Option.bind_some, Option.bind_some, then1]
        · rw [if_neg (by rw [g]; decide), if_neg (by rw [g]; decide), if_pos g, a1, Option.bind_some, e1, Option.bind_some, Option.bind_some, then1])
      obtain ⟨x, M', e3, o⟩ := ih (q + 1) (kb + 1) f fl' _ (s.1, s.2.1, (f_Source_then 9 src').2, s.2.2.2.1, t') M2 (by omega) (by omega) hN (Or.inl (by omega)) (by omega)
      refine ⟨x, M', ?_, RES_pre r1 (RES_EF (w3.trans y1) o)⟩
      have k128 : f_Mo_attribute_128 (fun v1 v2 sMo => f_Mo_attribute_80 f v1 v2 sMo) (nI (ac + AR.length)) (C q) M = some (x, M') := by
        unfold f_Mo_attribute_128
        rw [h6.2.2.1, w1, Option.bind_some]
        exact e2.trans e3
      rcases hsp with g | g | g
      · rw [if_pos g, k128]
      · rw [if_neg (by rw [g]; decide), if_pos g, k128]
      · rw [if_neg (by rw [g]; decide), if_neg (by rw [g]; decide), if_pos g, k128]
    · have hfk := flK_len (C q) q fl
      obtain ⟨src', t', M2, fl', e1, e2, y1, hN⟩ := anm_step hC hI hqn h1 h2 h3 h4 h5 h6 h7 h8 h9 h10 h11 h12 h13 h15 h16 (by omega) (fun x10 x9 => f_Mo_attribute_80 f (nI (ac + AR.length)) x10 x9)
      have k1 : ¬ C q = 34 := fun g => hsp (Or.inl g)
      have k2 : ¬ C q = 39 := fun g => hsp (Or.inr (Or.inl g))
      have k3 : ¬ C q = 60 := fun g => hsp (Or.inr (Or.inr g))
      have r1 : Reach 1 9 s 9 (s.1, s.2.1, (f_Source_then 9 src').2, s.2.2.2.1, t') := step1 (by decide) nx (by
        rw [fol_9]; unfold f_TagWays_attribute
        rw [if_pos he0, if_neg h61, if_neg k1, if_neg k2, if_neg k3, e1, Option.bind_some, Option.bind_some, then1])
      obtain ⟨x, M', e3, o⟩ := ih (q + 1) (kb + 1) f fl' _ (s.1, s.2.1, (f_Source_then 9 src').2, s.2.2.2.1, t') M2 (by omega) (by omega) hN (Or.inl (by omega)) (by omega)
      refine ⟨x, M', ?_, RES_pre r1 (RES_EF y1 o)⟩
      rw [if_neg k1, if_neg k2, if_neg k3]
      exact e2.trans e3
