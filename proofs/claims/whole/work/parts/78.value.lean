/-- behind an attribute's name: the class's tables and the reference's -/
def XA (au : Nat) (TL : List Tk) (ck : Int32) (cs ce : Nat) (AR : AR_) (g : Int32) (ns vs : Nat) (t : STokens) : Prop := AC au TL ck cs ce 0 (kp AR) t ∧ ((g = 0 ∧ PN au (kp AR) (some (ns, vs)) t) ∨ (g = 1 ∧ PN au (kp AR) none t))
def YA (ac : Nat) (TL : List Tk) (ck : Int32) (cs ce : Nat) (AR : AR_) (g : Int32) (ns vs : Nat) (M : SMo) : Prop := AM ac TL ck cs ce 0 AR M ∧ q_Mo_attributeCount M = nI (ac + AR.length + 1) ∧ q_Mo_nameAt M (ac + AR.length) = nI ns ∧ q_Mo_nameSize M (ac + AR.length) = nI (vs - ns) ∧ q_Mo_valueAt M (ac + AR.length) = nI vs ∧ q_Mo_valueSize M (ac + AR.length) = 0 ∧ q_Mo_goes M (ac + AR.length) = g
theorem XA_sc {au : Nat} {TL : List Tk} {ck : Int32} {cs ce : Nat} {AR : AR_} {g : Int32} {ns vs : Nat} {t t' : STokens} (h : XA au TL ck cs ce AR g ns vs t) (e : SC t t') : XA au TL ck cs ce AR g ns vs t' := ⟨AC_sc h.1 e, h.2.elim (fun x => Or.inl ⟨x.1, PN_sc x.2 e⟩) (fun x => Or.inr ⟨x.1, PN_sc x.2 e⟩)⟩
theorem YA_s {ac : Nat} {TL : List Tk} {ck : Int32} {cs ce : Nat} {AR : AR_} {g : Int32} {ns vs : Nat} {M M' : SMo} (h : YA ac TL ck cs ce AR g ns vs M) (e : SM M M') (x : SX M M') : YA ac TL ck cs ce AR g ns vs M' := by
  obtain ⟨h1, h2, h3, h4, h5, h6, h7⟩ := h
  obtain ⟨e1, e2, e3, e4, e5, e6, e7, e8, e9, e10, e11, e12⟩ := id e
  exact ⟨AM_s h1 e x, e7.trans h2, by rw [e8]; exact h3, by rw [e9]; exact h4, by rw [e10]; exact h5, by rw [e11]; exact h6, by rw [e12]; exact h7⟩
theorem XA_HC {au : Nat} {TL : List Tk} {ck : Int32} {cs ce : Nat} {AR : AR_} {g : Int32} {ns vs : Nat} {t : STokens} (h : XA au TL ck cs ce AR g ns vs t) (u : Nat) : HC au TL ck cs ce 0 (AR ++ [((ns, vs, u), g)]) u t := by
  obtain ⟨h1, h2⟩ := h
  rcases h2 with ⟨rfl, h2⟩ | ⟨rfl, h2⟩
  · exact ⟨kp AR, some (ns, vs), h1, h2, by rw [kp_snoc, if_pos rfl]; rfl⟩
  · exact ⟨kp AR, none, h1, h2, by rw [kp_snoc, if_neg (by decide)]; rfl⟩
theorem AM_snoc {ac : Nat} {TL : List Tk} {ck : Int32} {cs ce : Nat} {cm : Int32} {AR : AR_} {x : At × Int32} {M : SMo} (h : AM ac TL ck cs ce cm AR M) (h1 : E4 M (ac + AR.length) x.1) (h2 : q_Mo_goes M (ac + AR.length) = x.2) : AM ac TL ck cs ce cm (AR ++ [x]) M := by
  obtain ⟨a1, a2, a3, a4, a5, a6, a7, a8⟩ := h
  refine ⟨a1, a2, a3, a4, a5, a6, a7, fun j y hj => ?_⟩
  rcases getApp hj with ⟨_, hx⟩ | ⟨rfl, rfl⟩
  · exact a8 j y hx
  · exact ⟨h1, h2⟩
theorem YA_AM0 {ac : Nat} {TL : List Tk} {ck : Int32} {cs ce : Nat} {AR : AR_} {g : Int32} {ns vs : Nat} {M : SMo} (h : YA ac TL ck cs ce AR g ns vs M) : AM ac TL ck cs ce 0 (AR ++ [((ns, vs, vs), g)]) M ∧ q_Mo_attributeCount M = nI (ac + (AR ++ [((ns, vs, vs), g)]).length) := by
  obtain ⟨h1, h2, h3, h4, h5, h6, h7⟩ := h
  refine ⟨AM_snoc h1 ⟨h3, h4, h5, ?_⟩ h7, by rw [lenS, ← Nat.add_assoc]; exact h2⟩
  show q_Mo_valueSize M (ac + AR.length) = nI (vs - vs)
  rw [h6, Nat.sub_self]; rfl
/-- the value's size is set -/
theorem YA_AM {n : Nat} {C : Nat → Int32} {p : Nat} {fl : Fl} {row : List Int32} {ac : Nat} {TL : List Tk} {ck : Int32} {cs ce : Nat} {AR : AR_} {g : Int32} {ns vs : Nat} {M : SMo} (hB : BM n C p fl row TL M) (h : YA ac TL ck cs ce AR g ns vs M) (hb : ac + AR.length < 402) (hv : vs ≤ row.length) (q : Nat) {M1 : SMo} (hu : (q_Mo_kinds M1 = q_Mo_kinds M ∧ q_Mo_firsts M1 = q_Mo_firsts M ∧ q_Mo_sizes M1 = q_Mo_sizes M ∧ q_Mo_marks M1 = q_Mo_marks M ∧ q_Mo_attributes M1 = q_Mo_attributes M ∧ q_Mo_manyOf M1 = q_Mo_manyOf M) ∧ q_Mo_attributeCount M1 = q_Mo_attributeCount M ∧ q_Mo_nameAt M1 = q_Mo_nameAt M ∧ q_Mo_nameSize M1 = q_Mo_nameSize M ∧ q_Mo_valueAt M1 = q_Mo_valueAt M ∧ q_Mo_goes M1 = q_Mo_goes M ∧ q_Mo_textSize M1 = q_Mo_textSize M) (hz : q_Mo_valueSize M1 = upd (q_Mo_valueSize M) (ac + AR.length) (nI (row.length - vs))) : AM ac TL ck cs ce 0 (AR ++ [((ns, vs, row.length), g)]) M1 ∧ q_Mo_attributeCount M1 = nI (ac + (AR ++ [((ns, vs, row.length), g)]).length) := by
  obtain ⟨⟨a1, a2, a3, a4, a5, a6, a7, a8⟩, h2, h3, h4, h5, h6, h7⟩ := h
  obtain ⟨⟨u1, u2, u3, u4, u5, u6⟩, u7, u8, u9, u10, u11, u12⟩ := hu
  refine ⟨AM_snoc ⟨TM_at (Nat.le_refl _) a1 (fun i _ => ⟨by rw [u1], by rw [u2], by rw [u3], by rw [u4], by rw [u6], by rw [u5]⟩) (fun j hj => ⟨by rw [u8], by rw [u9], by rw [u10], by rw [hz, upd_ne _ _ (by omega)]⟩), u12.trans a2, by rw [u1]; exact a3, by rw [u2]; exact a4, by rw [u3]; exact a5, by rw [u4]; exact a6, by rw [u5]; exact a7, fun j y hj => ?_⟩ ⟨?_, ?_, ?_, ?_⟩ ?_, ?_⟩
  · have hl := (List.getElem?_eq_some_iff.mp hj).1
    obtain ⟨⟨b1, b2, b3, b4⟩, b5⟩ := a8 j y hj
    exact ⟨⟨by rw [u8]; exact b1, by rw [u9]; exact b2, by rw [u10]; exact b3, by rw [hz, upd_ne _ _ (by omega)]; exact b4⟩, by rw [u11]; exact b5⟩
  · rw [u8]; exact h3
  · rw [u9]; exact h4
  · rw [u10]; exact h5
  · rw [hz, upd_same]
  · rw [u11]; exact h7
  · rw [u7, lenS, ← Nat.add_assoc]; exact h2
theorem m_valSize {n : Nat} {C : Nat → Int32} {p : Nat} {fl : Fl} {row : List Int32} {ac : Nat} {TL : List Tk} {ck : Int32} {cs ce : Nat} {AR : AR_} {g : Int32} {ns vs : Nat} {M : SMo} (hB : BM n C p fl row TL M) (h : YA ac TL ck cs ce AR g ns vs M) (hb : ac + AR.length < 402) (hv : vs ≤ row.length) : ∃ M1, u_Mo_valueSize M (upd (q_Mo_valueSize M) (nI (ac + AR.length)).toNatClampNeg (q_Mo_rowSize M - q_Mo_valueAt M (nI (ac + AR.length)).toNatClampNeg)) = M1 ∧ BM n C p fl row TL M1 ∧ EF M M1 ∧ EE M M1 ∧ AM ac TL ck cs ce 0 (AR ++ [((ns, vs, row.length), g)]) M1 ∧ q_Mo_attributeCount M1 = nI (ac + (AR ++ [((ns, vs, row.length), g)]).length) := by
  rw [nI_clamp (by omega), h.2.2.2.2.1, hB.2.2.2.2.2.1, nI_sub hv]
  refine ⟨_, rfl, hB, EF.rf M, rfl, ?_⟩
  exact YA_AM hB h hb hv p ⟨⟨rfl, rfl, rfl, rfl, rfl, rfl⟩, rfl, rfl, rfl, rfl, rfl, rfl⟩ rfl
theorem m_valSizeP {n : Nat} {C : Nat → Int32} {p : Nat} {fl : Fl} {row : List Int32} {ac : Nat} {TL : List Tk} {ck : Int32} {cs ce : Nat} {AR : AR_} {g : Int32} {ns vs : Nat} {M : SMo} (hB : BM n C p fl row TL M) (h : YA ac TL ck cs ce AR g ns vs M) (hb : ac + AR.length < 402) (hv : vs ≤ row.length) : ∃ M1, u_Mo_p_valueSize M (q_Mo_p M + 1) (upd (q_Mo_valueSize M) (nI (ac + AR.length)).toNatClampNeg (q_Mo_rowSize M - q_Mo_valueAt M (nI (ac + AR.length)).toNatClampNeg)) = M1 ∧ BM n C (p + 1) fl row TL M1 ∧ EF M M1 ∧ EE M M1 ∧ AM ac TL ck cs ce 0 (AR ++ [((ns, vs, row.length), g)]) M1 ∧ q_Mo_attributeCount M1 = nI (ac + (AR ++ [((ns, vs, row.length), g)]).length) := by
  obtain ⟨b1, b2, b3, b4, b5, b6, b7, b8⟩ := id hB
  rw [nI_clamp (by omega), h.2.2.2.2.1, b6, nI_sub hv, b3, nI_1]
  refine ⟨_, rfl, ⟨b1, b2, rfl, b4, b5, b6, b7, b8⟩, EF.rf M, rfl, ?_⟩
  exact YA_AM hB h hb hv p ⟨⟨rfl, rfl, rfl, rfl, rfl, rfl⟩, rfl, rfl, rfl, rfl, rfl, rfl⟩ rfl
theorem ctx_val {n : Nat} {C : Nat → Int32} {TL : List Tk} (au ac : Nat) (ck : Int32) (cs ce : Nat) (AR : AR_) (g : Int32) (ns vs : Nat) : CtxOK n C TL 1 (fun t => XA au TL ck cs ce AR g ns vs t) (fun _ M => YA ac TL ck cs ce AR g ns vs M) := by
  refine ⟨fun t t' h e => XA_sc h e, fun u M M' h e x => YA_s h e x, fun p fl row M c hB hY hu => ?_⟩
  obtain ⟨M', e1, b1, b2, b3, b4, b5⟩ := m_keep hB c (by omega)
  exact ⟨M', by unfold f_Mo_give; rw [if_neg (by decide), e1, Option.bind_some], b1, b2, b3, YA_s hY b4 b5⟩
/-- what is known of the attribute's name -/
def NM (n p q : Nat) (fl : Fl) (row l : List Int32) (TL : List Tk) (cs ce au ac : Nat) (AR : AR_) (g : Int32) : Prop := TI n p fl row TL cs ce au ac AR ∧ p < q ∧ l.length ≤ q - p ∧ (∀ x ∈ l, ∃ c : Nat, c ≤ 1114111 ∧ x = nI c) ∧ (g = 0 ∨ g = 1) ∧ (g = 1 → ∃ b ∈ kp AR, nm (row ++ l) b = nm (row ++ l) (row.length, (row ++ l).length, 0))
/-- in a value, the reader being at r -/
def VS (n : Nat) (C : Nat → Int32) (p q r : Nat) (fl0 fl : Fl) (row l v : List Int32) (TL : List Tk) (au ac : Nat) (ck : Int32) (cs ce : Nat) (AR : AR_) (g : Int32) (src : SSource) (t : STokens) (M : SMo) : Prop := BS n C r fl src ∧ BT (row ++ l ++ v) TL t ∧ XA au TL ck cs ce AR g row.length (row ++ l).length t ∧ BM n C r fl (row ++ l ++ v) TL M ∧ YA ac TL ck cs ce AR g row.length (row ++ l).length M ∧ q_Mo_ended M = 0 ∧ RCon M ∧ q < r ∧ r ≤ n ∧ v.length ≤ r - q ∧ (v.flatMap encV).length ≤ 8 * (r - q) ∧ (∀ x ∈ v, ∃ c : Nat, c ≤ 1114111 ∧ x = nI c) ∧ fl.length ≤ fl0.length + (r - p)
theorem NM_TI {n p q r : Nat} {fl0 fl : Fl} {row l v : List Int32} {TL : List Tk} {cs ce au ac : Nat} {AR : AR_} {g : Int32} (h : NM n p q fl0 row l TL cs ce au ac AR g) (hqr : q ≤ r) (hr : r ≤ n) (hv : v.length ≤ r - q) (hvc : (v.flatMap encV).length ≤ 8 * (r - q)) (hvm : ∀ x ∈ v, ∃ c : Nat, c ≤ 1114111 ∧ x = nI c) (hf : fl.length + 2 ≤ 2 * r) : TI n r fl (row ++ l ++ v) TL cs ce au ac (AR ++ [((row.length, (row ++ l).length, (row ++ l ++ v).length), g)]) := by
  obtain ⟨h1, h2, h3, h4, h5, h6⟩ := h
  exact TI_attr h1 h2 hqr hr h3 hv hvc h4 hvm hf h5 h6
theorem rK_ok2 {n : Nat} {C : Nat → Int32} (hC : CHs n C) {p : Nat} (hp : p < n) : ∃ c : Nat, c < 100000 ∧ rK (C p) = nI c := by
  unfold rK
  obtain ⟨c, hc, e⟩ := hC.2.1 p hp
  by_cases h : C p = 0
  · rw [if_pos h]; exact ⟨65533, by omega, rfl⟩
  · rw [if_neg h]; exact ⟨c, by omega, e⟩
/-- a character of a value -/
theorem val_step {n : Nat} {C : Nat → Int32} (hC : CHs n C) {p q r : Nat} {fl0 fl : Fl} {row l v : List Int32} {TL : List Tk} {au ac : Nat} {ck : Int32} {cs ce : Nat} {AR : AR_} {g : Int32} {src : SSource} {t : STokens} {M : SMo} (w : Nat) (hI : TI n p fl0 row TL cs ce au ac AR) (hpq : p < q) (hl : l.length ≤ q - p) (hrn : r < n) (h1 : BS n C r fl src) (h2 : BT (row ++ l ++ v) TL t) (h3 : XA au TL ck cs ce AR g row.length (row ++ l).length t) (h4 : BM n C r fl (row ++ l ++ v) TL M) (h5 : YA ac TL ck cs ce AR g row.length (row ++ l).length M) (h6 : q_Mo_ended M = 0) (h7 : RCon M) (h8 : q < r) (h10 : v.length ≤ r - q) (h11 : (v.flatMap encV).length ≤ 8 * (r - q)) (h12 : ∀ x ∈ v, ∃ c : Nat, c ≤ 1114111 ∧ x = nI c) (h13 : (flK (C r) r fl).length ≤ fl0.length + (r + 1 - p)) (K : Int32 → SMo → Option (Int32 × SMo)) : ∃ src' t' M', f_Ways_addKnown (C r) src t = some (src', t') ∧ ((f_Mo_known M).bind fun x8 => (f_Mo_keep x8.1 x8.2).bind fun x9 => (f_Mo_charAt (q_Mo_p x9) x9).bind fun x10 => K x10 x9) = K (C (r + 1)) M' ∧ EF M M' ∧ VS n C p q (r + 1) fl0 (flK (C r) r fl) row l (v ++ [rK (C r)]) TL au ac ck cs ce AR g (f_Source_then w src').2 t' M' := by
  have hn := hC.1
  obtain ⟨i1, i2, i3, i4, i5⟩ := id hI
  have hL : (row ++ l ++ v).length = row.length + l.length + v.length := by rw [List.length_append, List.length_append]
  have hfk := flK_len (C r) r fl
  obtain ⟨src', t', e1, b1, b2, b3⟩ := c_known h1 h2 (C r) (by omega) (by omega)
  obtain ⟨M1, e2, d1, d2, d3, d4, d5⟩ := m_known hC h4 (by omega) (by omega)
  obtain ⟨M2, e3, g1, g2, g3, g4, g5⟩ := m_keep d1 (rK (C r)) (by omega)
  obtain ⟨c, hc, ec⟩ := rK_ok2 hC hrn
  refine ⟨src', t', M2, e1, ?_, d2.trans g2, c_then2 hn b1 w hrn, ?_, XA_sc h3 b3, ?_, YA_s (YA_s h5 d4 d5) g4 g5, Eq.trans g3 (Eq.trans d3 h6), RCon_EF h7 (d2.trans g2), by omega, by omega, by rw [lenS]; omega, ?_, ?_, h13⟩
  · rw [e2, Option.bind_some, e3, Option.bind_some, m_cp hC g1 (by omega), Option.bind_some]
  · rw [← List.append_assoc]; exact b2
  · rw [← List.append_assoc]; exact g1
  · rw [List.flatMap_append, List.flatMap_singleton, List.length_append, ec]
    have := (encV_len c (by omega)).2 hc
    omega
  · intro x hx
    rcases List.mem_append.mp hx with hx | hx
    · exact h12 x hx
    · rw [List.mem_singleton.mp hx]; exact ⟨c, by omega, ec⟩
