/-- an attribute's name -/
def nm (row : List Int32) (a : At) : List Int32 := slice (rw row) a.1 a.2.1
theorem nm_app {row : List Int32} (l : List Int32) {a : At} (h : a.2.1 ≤ row.length) : nm (row ++ l) a = nm row a := slice_congr (fun k _ hk => rw_app (by omega))
theorem rw_get {row : List Int32} {k : Nat} (h : k < row.length) : row[k]? = some (rw row k) := by
  unfold rw
  rw [List.getD_eq_getElem?_getD, List.getElem?_eq_getElem h]; rfl
theorem same36 {row : List Int32} {TL : List Tk} {t : STokens} (hB : BT row TL t) (hr : row.length ≤ 400) {i u a b len : Nat} (hi : i < 400) (hu : u < 400) (ha : q_Tokens_nameStarts t i = nI a) (hb : q_Tokens_nameStarts t u = nI b) (hla : a + len ≤ row.length) (hlb : b + len ≤ row.length) : ∀ (d k f : Nat), k + d = len → d < f → f_Tokens_sameName_36 f (nI i) (nI u) (nI len) (nI k) t = some (if slice (rw row) (a + k) (a + len) = slice (rw row) (b + k) (b + len) then 1 else 0) := by
  intro d
  induction d with
  | zero =>
    intro k f hk hf
    obtain ⟨f, rfl⟩ : ∃ q, f = q + 1 := ⟨f - 1, by omega⟩
    rw [f_Tokens_sameName_36, if_pos (nI_le (by omega) (by omega)), slice_nil (by omega), slice_nil (by omega), if_pos rfl]
  | succ d ih =>
    intro k f hk hf
    obtain ⟨f, rfl⟩ : ∃ q, f = q + 1 := ⟨f - 1, by omega⟩
    have c1 : (nI i).toNatClampNeg = i := nI_clamp (by omega)
    have c2 : (nI u).toNatClampNeg = u := nI_clamp (by omega)
    have c3 : (nI (a + k)).toNatClampNeg = a + k := nI_clamp (by omega)
    have c4 : (nI (b + k)).toNatClampNeg = b + k := nI_clamp (by omega)
    have x1 : ix (nI i) 400 := ixI hi (by decide)
    have x2 : ix (nI u) 400 := ixI hu (by decide)
    have x3 : ix (nI (a + k)) 400 := ixI (by omega) (by decide)
    have x4 : ix (nI (b + k)) 400 := ixI (by omega) (by decide)
    have r1 := hB.2.1 (a + k) _ (rw_get (by omega))
    have r2 := hB.2.1 (b + k) _ (rw_get (by omega))
    rw [f_Tokens_sameName_36, if_neg (nI_ge (by omega) (by omega))]
    simp only [if_pos x1, if_pos x2, c1, c2, ha, hb, nI_add, if_pos x3, if_pos x4, c3, c4, r1, r2, nI_1]
    rw [slice_cons (show a + k < a + len by omega), slice_cons (show b + k < b + len by omega)]
    by_cases h : rw row (a + k) = rw row (b + k)
    · rw [if_pos h, ih (k + 1) f (by omega) (by omega), h]
      congr 1
      simp only [List.cons.injEq, true_and, Nat.add_assoc]
    · rw [if_neg h, if_neg (fun g => h (List.cons.inj g).1)]
theorem sameName_sim {row : List Int32} {TL : List Tk} {t : STokens} (hB : BT row TL t) (hr : row.length ≤ 400) {i u : Nat} {x y : At} (hi : i < 400) (hu : u < 400) (hx : q_Tokens_nameStarts t i = nI x.1) (hx2 : q_Tokens_valueStarts t i = nI x.2.1) (hy : q_Tokens_nameStarts t u = nI y.1) (hy2 : q_Tokens_valueStarts t u = nI y.2.1) (h1 : x.1 ≤ x.2.1 ∧ x.2.1 ≤ row.length) (h2 : y.1 ≤ y.2.1 ∧ y.2.1 ≤ row.length) : f_Tokens_sameName (nI i) (nI u) t = some (if nm row x = nm row y then 1 else 0) := by
  have c1 : (nI i).toNatClampNeg = i := nI_clamp (by omega)
  have c2 : (nI u).toNatClampNeg = u := nI_clamp (by omega)
  have x1 : ix (nI i) 400 := ixI hi (by decide)
  have x2 : ix (nI u) 400 := ixI hu (by decide)
  unfold f_Tokens_sameName
  simp only [if_pos x1, if_pos x2, c1, c2, hx, hx2, hy, hy2, nI_sub h1.1, nI_sub h2.1]
  by_cases h : x.2.1 - x.1 = y.2.1 - y.1
  · rw [if_pos (by rw [h]), show (0 : Int32) = nI 0 from nI_0.symm, same36 hB hr hi hu hx hy (show x.1 + (x.2.1 - x.1) ≤ row.length by omega) (show y.1 + (x.2.1 - x.1) ≤ row.length by omega) (x.2.1 - x.1) 0 FU (by omega) (by unfold FU; omega)]
    unfold nm
    rw [show x.1 + (x.2.1 - x.1) = x.2.1 by omega, show y.1 + (x.2.1 - x.1) = y.2.1 by omega]
    rfl
  · rw [if_neg (fun g => h ((nI_eq (by omega) (by omega)).mp g)), if_neg]
    intro g
    have := congrArg List.length g
    unfold nm at this
    rw [slice_len, slice_len] at this
    exact h this
theorem stood32 {row : List Int32} {TL : List Tk} {au : Nat} {ck : Int32} {cs ce : Nat} {cm : Int32} {AL : List At} {ns vs : Nat} {t : STokens} (hB : BT row TL t) (hA : AC au TL ck cs ce cm AL t) (hP : PN au AL (some (ns, vs)) t) (hr : row.length ≤ 400) (ha : au + AL.length < 400) (hV : ∀ a ∈ AL, a.1 ≤ a.2.1 ∧ a.2.1 ≤ row.length) (hns : ns ≤ vs ∧ vs ≤ row.length) (ve : Nat) : ∀ (rest dn : List At) (f : Nat), AL = dn ++ rest → rest.length < f → ((∃ a ∈ rest, nm row a = nm row (ns, vs, ve)) ∧ f_Tokens_stoodBefore_32 f (nI (au + dn.length)) t = some 1) ∨ ((∀ a ∈ rest, nm row a ≠ nm row (ns, vs, ve)) ∧ f_Tokens_stoodBefore_32 f (nI (au + dn.length)) t = some 0) := by
  obtain ⟨a1, a2, a3, a4, a5, a6, a7, a8, a9, a10⟩ := hA
  obtain ⟨p2, p3⟩ : q_Tokens_nameStarts t (au + AL.length) = nI ns ∧ q_Tokens_valueStarts t (au + AL.length) = nI vs := by
    rcases hP with ⟨h, _⟩ | ⟨ns', vs', h, _, g1, g2⟩
    · cases h
    · cases h; exact ⟨g1, g2⟩
  intro rest
  induction rest with
  | nil =>
    intro dn f he hf
    obtain ⟨f, rfl⟩ : ∃ q, f = q + 1 := ⟨f - 1, by omega⟩
    refine Or.inr ⟨(fun a h => by cases h), ?_⟩
    rw [List.append_nil] at he
    rw [f_Tokens_stoodBefore_32, a9, ← he, if_pos (nI_le (by omega) (by omega))]
  | cons x rest ih =>
    intro dn f he hf
    obtain ⟨f, rfl⟩ : ∃ q, f = q + 1 := ⟨f - 1, by omega⟩
    rw [List.length_cons] at hf
    have hl : AL.length = dn.length + (rest.length + 1) := by rw [he, List.length_append, List.length_cons]
    have hx : AL[dn.length]? = some x := by rw [he]; simp
    obtain ⟨g1, g2, g3⟩ := a10 dn.length x hx
    have hxm : x ∈ AL := by rw [he]; simp
    have e := sameName_sim hB hr (i := au + dn.length) (u := au + AL.length) (x := x) (y := (ns, vs, ve)) (by omega) ha g1 g2 p2 p3 (hV x hxm) hns
    rw [f_Tokens_stoodBefore_32, a9, if_neg (nI_ge (by omega) (by omega)), e, Option.bind_some]
    by_cases h : nm row x = nm row (ns, vs, ve)
    · rw [if_pos h, if_neg (show ¬ (1 : Int32) = 0 by decide)]
      exact Or.inl ⟨⟨x, List.mem_cons_self, h⟩, rfl⟩
    · rw [if_neg h, if_pos rfl, nI_1]
      have := ih (dn ++ [x]) f (by rw [he, List.append_assoc]; rfl) (by omega)
      rw [lenS, ← Nat.add_assoc] at this
      rcases this with ⟨⟨a, h1, h2⟩, h3⟩ | ⟨h1, h2⟩
      · exact Or.inl ⟨⟨a, List.mem_cons_of_mem _ h1, h2⟩, h3⟩
      · refine Or.inr ⟨fun a ha => ?_, h2⟩
        rcases List.mem_cons.mp ha with g | g
        · subst g; exact h
        · exact h1 a g
theorem stood_sim {row : List Int32} {TL : List Tk} {au : Nat} {ck : Int32} {cs ce : Nat} {cm : Int32} {AL : List At} {ns vs : Nat} {t : STokens} (hB : BT row TL t) (hA : AC au TL ck cs ce cm AL t) (hP : PN au AL (some (ns, vs)) t) (hr : row.length ≤ 400) (ht : TL.length < 400) (ha : au + AL.length < 400) (hV : ∀ a ∈ AL, a.1 ≤ a.2.1 ∧ a.2.1 ≤ row.length) (hns : ns ≤ vs ∧ vs ≤ row.length) (ve : Nat) : ((∃ a ∈ AL, nm row a = nm row (ns, vs, ve)) ∧ f_Tokens_stoodBefore t = some 1) ∨ ((∀ a ∈ AL, nm row a ≠ nm row (ns, vs, ve)) ∧ f_Tokens_stoodBefore t = some 0) := by
  have h := stood32 hB hA hP hr ha hV hns ve AL [] FU rfl (by unfold FU; omega)
  have e : f_Tokens_stoodBefore t = f_Tokens_stoodBefore_32 FU (nI (au + ([] : List At).length)) t := by
    unfold f_Tokens_stoodBefore
    rw [hB.2.2, if_neg (show ¬ (400 : Int32) ≤ nI TL.length from nI_ge (b := 400) ht (by decide)), hA.2.2.2.2.2.2.2.2.1, if_pos (show nI (au + AL.length) < (400 : Int32) from nI_lt (b := 400) ha (by decide)), if_pos (ixI ht (by decide)), nI_clamp (by omega), hA.2.2.2.2.2.2.1]
    rfl
  rw [e]; exact h
/-- the reference's -/
theorem there42 {n : Nat} {C : Nat → Int32} {p : Nat} {fl : Fl} {row : List Int32} {TL : List Tk} {M : SMo} (hB : BM n C p fl row TL M) (hr : row.length ≤ 400) (k12 : Int32 → Int32 → Int32 → SMo → Option Int32) {i u a b len : Nat} (hi : i < 402) (hu : u < 402) (ha : q_Mo_nameAt M i = nI a) (hb : q_Mo_nameAt M u = nI b) (hz : q_Mo_nameSize M u = nI len) (hla : a + len ≤ row.length) (hlb : b + len ≤ row.length) (v2 : Int32) : ∀ (d k f : Nat), k + d = len → d + 1 < f → f_Mo_isThere_42 k12 f (nI u) v2 (nI i) 1 (nI k) M = k12 (nI u) (if v2 = 0 then (if slice (rw row) (a + k) (a + len) = slice (rw row) (b + k) (b + len) then 1 else 0) else 1) (nI (i + 1)) M := by
  have c1 : (nI i).toNatClampNeg = i := nI_clamp (by omega)
  have c2 : (nI u).toNatClampNeg = u := nI_clamp (by omega)
  have x1 : ix (nI i) 402 := ixI hi (by decide)
  have x2 : ix (nI u) 402 := ixI hu (by decide)
  intro d
  induction d with
  | zero =>
    intro k f hk hf
    obtain ⟨f, rfl⟩ : ∃ q, f = q + 1 := ⟨f - 1, by omega⟩
    rw [f_Mo_isThere_42]
    simp only [if_pos x2, c2, hz]
    rw [if_pos (nI_le (by omega) (by omega)), slice_nil (by omega), slice_nil (by omega), if_pos rfl, nI_1, if_neg (show ¬ (1 : Int32) = 0 by decide)]
    by_cases h : v2 = 0
    · rw [if_pos h, if_pos h]
    · rw [if_neg h, if_neg h]
  | succ d ih =>
    intro k f hk hf
    obtain ⟨f, rfl⟩ : ∃ q, f = q + 1 := ⟨f - 1, by omega⟩
    have c3 : (nI (a + k)).toNatClampNeg = a + k := nI_clamp (by omega)
    have c4 : (nI (b + k)).toNatClampNeg = b + k := nI_clamp (by omega)
    have x3 : ix (nI (a + k)) 810 := ixI (by omega) (by decide)
    have x4 : ix (nI (b + k)) 810 := ixI (by omega) (by decide)
    have r1 := hB.2.2.2.2.2.2.1 (a + k) _ (rw_get (by omega))
    have r2 := hB.2.2.2.2.2.2.1 (b + k) _ (rw_get (by omega))
    rw [f_Mo_isThere_42]
    simp only [if_pos x1, if_pos x2, c1, c2, hz, ha, hb, nI_add, if_pos x3, if_pos x4, c3, c4, r1, r2, nI_1]
    rw [if_neg (nI_ge (by omega) (by omega)), if_neg (show ¬ (1 : Int32) = 0 by decide), slice_cons (show a + k < a + len by omega), slice_cons (show b + k < b + len by omega)]
    by_cases h : rw row (a + k) = rw row (b + k)
    · rw [if_pos h, ih (k + 1) f (by omega) (by omega), h]
      simp only [List.cons.injEq, true_and, Nat.add_assoc]
    · rw [if_neg h, if_neg (fun g => h (List.cons.inj g).1)]
      obtain ⟨f, rfl⟩ : ∃ q, f = q + 1 := ⟨f - 1, by omega⟩
      rw [f_Mo_isThere_42]
      simp only [if_pos x2, c2, hz, if_true, nI_1]
      by_cases h2 : v2 = 0
      · rw [if_pos h2]; simp only [ite_self, h2, if_true]
      · rw [if_neg h2]; simp only [ite_self, h2, if_false]
theorem there12 {n : Nat} {C : Nat → Int32} {p : Nat} {fl : Fl} {row : List Int32} {TL : List Tk} {ac : Nat} {AR : AR_} {ns vs : Nat} {M : SMo} (hB : BM n C p fl row TL M) (hA : ∀ (j : Nat) (x : At × Int32), AR[j]? = some x → q_Mo_nameAt M (ac + j) = nI x.1.1 ∧ q_Mo_nameSize M (ac + j) = nI (x.1.2.1 - x.1.1)) (hb : ac + AR.length < 402) (hna : q_Mo_nameAt M (ac + AR.length) = nI ns) (hnz : q_Mo_nameSize M (ac + AR.length) = nI (vs - ns)) (hr : row.length ≤ 400) (hV : ∀ x ∈ AR, x.1.1 ≤ x.1.2.1 ∧ x.1.2.1 ≤ row.length) (hns : ns ≤ vs ∧ vs ≤ row.length) (ve : Nat) : ∀ (rest dn : AR_) (f : Nat) (v2 : Int32), (v2 = 0 ∨ v2 = 1) → AR = dn ++ rest → rest.length < f → (((v2 = 1 ∨ ∃ x ∈ rest, nm row x.1 = nm row (ns, vs, ve)) ∧ f_Mo_isThere_12 f (nI (ac + AR.length)) v2 (nI (ac + dn.length)) M = some 1) ∨ ((v2 = 0 ∧ ∀ x ∈ rest, nm row x.1 ≠ nm row (ns, vs, ve)) ∧ f_Mo_isThere_12 f (nI (ac + AR.length)) v2 (nI (ac + dn.length)) M = some 0)) := by
  intro rest
  induction rest with
  | nil =>
    intro dn f v2 hv he hf
    obtain ⟨f, rfl⟩ : ∃ q, f = q + 1 := ⟨f - 1, by omega⟩
    rw [List.append_nil] at he
    rw [f_Mo_isThere_12, ← he, if_pos (nI_le (by omega) (by omega)), if_pos hv]
    rcases hv with rfl | rfl
    · exact Or.inr ⟨⟨rfl, fun a h => by cases h⟩, rfl⟩
    · exact Or.inl ⟨Or.inl rfl, rfl⟩
  | cons x rest ih =>
    intro dn f v2 hv he hf
    obtain ⟨f, rfl⟩ : ∃ q, f = q + 1 := ⟨f - 1, by omega⟩
    rw [List.length_cons] at hf
    have hl : AR.length = dn.length + (rest.length + 1) := by rw [he, List.length_append, List.length_cons]
    have hx : AR[dn.length]? = some x := by rw [he]; simp
    obtain ⟨g1, g2⟩ := hA dn.length x hx
    have hxm : x ∈ AR := by rw [he]; simp
    obtain ⟨h1, h2⟩ := hV x hxm
    have x1 : ix (nI (ac + dn.length)) 402 := ixI (by omega) (by decide)
    have x2 : ix (nI (ac + AR.length)) 402 := ixI hb (by decide)
    have c1 : (nI (ac + dn.length)).toNatClampNeg = ac + dn.length := nI_clamp (by omega)
    have c2 : (nI (ac + AR.length)).toNatClampNeg = ac + AR.length := nI_clamp (by omega)
    have key : f_Mo_isThere_12 (f + 1) (nI (ac + AR.length)) v2 (nI (ac + dn.length)) M = f_Mo_isThere_12 f (nI (ac + AR.length)) (if v2 = 0 then (if nm row x.1 = nm row (ns, vs, ve) then 1 else 0) else 1) (nI (ac + (dn ++ [x]).length)) M := by
      rw [f_Mo_isThere_12, if_neg (nI_ge (by omega) (by omega))]
      simp only [if_pos x1, if_pos x2, c1, c2, g2, hnz]
      rw [lenS, ← Nat.add_assoc]
      by_cases h : x.1.2.1 - x.1.1 = vs - ns
      · rw [if_pos (by rw [h]), show (0 : Int32) = nI 0 from nI_0.symm, there42 hB hr _ (show ac + dn.length < 402 by omega) hb g1 hna hnz (by omega) (by omega) v2 (vs - ns) 0 FU (by omega) (by unfold FU; omega)]
        unfold nm
        simp only [Nat.add_zero]
        rw [show x.1.1 + (vs - ns) = x.1.2.1 by omega, show ns + (vs - ns) = vs by omega, nI_0]
      · rw [if_neg (fun g => h ((nI_eq (by omega) (by omega)).mp g))]
        have hne : ¬ nm row x.1 = nm row (ns, vs, ve) := by
          intro g
          have := congrArg List.length g
          unfold nm at this
          rw [slice_len, slice_len] at this
          exact h this
        rw [if_neg hne]
        obtain ⟨g, hg⟩ : ∃ q, FU = q + 1 := ⟨FU - 1, by unfold FU; omega⟩
        rw [hg, f_Mo_isThere_42]
        simp only [if_pos x2, c2, hnz, if_true, nI_1]
        by_cases h2 : v2 = 0
        · simp only [ite_self, h2, if_true]
        · simp only [ite_self, h2, if_false]
    rw [key]
    have hv' : (if v2 = 0 then (if nm row x.1 = nm row (ns, vs, ve) then (1 : Int32) else 0) else 1) = 0 ∨ (if v2 = 0 then (if nm row x.1 = nm row (ns, vs, ve) then (1 : Int32) else 0) else 1) = 1 := by
      by_cases h : v2 = 0
      · rw [if_pos h]
        by_cases h2 : nm row x.1 = nm row (ns, vs, ve)
        · rw [if_pos h2]; exact Or.inr rfl
        · rw [if_neg h2]; exact Or.inl rfl
      · rw [if_neg h]; exact Or.inr rfl
    rcases ih (dn ++ [x]) f _ hv' (by rw [he, List.append_assoc]; rfl) (by omega) with ⟨h3, h4⟩ | ⟨⟨h3, h5⟩, h4⟩
    · refine Or.inl ⟨?_, h4⟩
      rcases h3 with h3 | ⟨y, hy, h3⟩
      · rcases hv with hv | hv
        · rw [if_pos hv] at h3
          by_cases h2 : nm row x.1 = nm row (ns, vs, ve)
          · exact Or.inr ⟨x, List.mem_cons_self, h2⟩
          · rw [if_neg h2] at h3; exact absurd h3 (by decide)
        · exact Or.inl hv
      · exact Or.inr ⟨y, List.mem_cons_of_mem _ hy, h3⟩
    · refine Or.inr ⟨?_, h4⟩
      rcases hv with hv | hv
      · rw [if_pos hv] at h3
        refine ⟨hv, fun y hy => ?_⟩
        rcases List.mem_cons.mp hy with g | g
        · subst g
          intro h2
          rw [if_pos h2] at h3; exact absurd h3 (by decide)
        · exact h5 y g
      · rw [if_neg (by rw [hv]; decide)] at h3; exact absurd h3 (by decide)
theorem there_sim {n : Nat} {C : Nat → Int32} {p : Nat} {fl : Fl} {row : List Int32} {TL : List Tk} {ac : Nat} {AR : AR_} {ns vs : Nat} {M : SMo} (hB : BM n C p fl row TL M) (ht : TL.length < 402) (hat : q_Mo_attributes M TL.length = nI ac) (hA : ∀ (j : Nat) (x : At × Int32), AR[j]? = some x → q_Mo_nameAt M (ac + j) = nI x.1.1 ∧ q_Mo_nameSize M (ac + j) = nI (x.1.2.1 - x.1.1)) (hb : ac + AR.length < 402) (hna : q_Mo_nameAt M (ac + AR.length) = nI ns) (hnz : q_Mo_nameSize M (ac + AR.length) = nI (vs - ns)) (hr : row.length ≤ 400) (hV : ∀ x ∈ AR, x.1.1 ≤ x.1.2.1 ∧ x.1.2.1 ≤ row.length) (hns : ns ≤ vs ∧ vs ≤ row.length) (ve : Nat) : ((∃ x ∈ AR, nm row x.1 = nm row (ns, vs, ve)) ∧ f_Mo_isThere (nI (ac + AR.length)) M = some 1) ∨ ((∀ x ∈ AR, nm row x.1 ≠ nm row (ns, vs, ve)) ∧ f_Mo_isThere (nI (ac + AR.length)) M = some 0) := by
  have h := there12 hB hA hb hna hnz hr hV hns ve AR [] FU 0 (Or.inl rfl) rfl (by unfold FU; omega)
  have e : f_Mo_isThere (nI (ac + AR.length)) M = f_Mo_isThere_12 FU (nI (ac + AR.length)) 0 (nI (ac + ([] : AR_).length)) M := by
    unfold f_Mo_isThere
    rw [hB.2.2.2.2.2.2.2, if_pos (ixI ht (by decide)), nI_clamp (by omega), hat]
    rfl
  rw [e]
  rcases h with ⟨h1 | h1, h2⟩ | ⟨⟨_, h1⟩, h2⟩
  · exact absurd h1 (by decide)
  · exact Or.inl ⟨h1, h2⟩
  · exact Or.inr ⟨h1, h2⟩
/-- what the reference lets go has a namesake that stays -/
def DUP (row : List Int32) (AR : AR_) : Prop := ∀ x ∈ AR, x.2 = 1 → ∃ a ∈ kp AR, nm row a = nm row x.1
theorem dup_ex {row : List Int32} {AR : AR_} (h : DUP row AR) (h01 : ∀ x ∈ AR, x.2 = 0 ∨ x.2 = 1) {N : List Int32} (hx : ∃ x ∈ AR, nm row x.1 = N) : ∃ a ∈ kp AR, nm row a = N := by
  obtain ⟨x, h1, h2⟩ := hx
  rcases h01 x h1 with g | g
  · exact ⟨x.1, kp_in h1 g, h2⟩
  · obtain ⟨a, a1, a2⟩ := h x h1 g
    exact ⟨a, a1, a2.trans h2⟩
theorem kp_snoc (AR : AR_) (a : At) (g : Int32) : kp (AR ++ [(a, g)]) = kp AR ++ (if g = 0 then [a] else []) := by
  rw [kp_app]; rfl
theorem dup_snoc {row : List Int32} {AR : AR_} (h : DUP row AR) {a : At} {g : Int32} (hg : g = 1 → ∃ b ∈ kp AR, nm row b = nm row a) : DUP row (AR ++ [(a, g)]) := by
  intro x hx h1
  rw [kp_snoc]
  rcases List.mem_append.mp hx with hx | hx
  · obtain ⟨b, b1, b2⟩ := h x hx h1
    exact ⟨b, List.mem_append_left _ b1, b2⟩
  · have := List.mem_singleton.mp hx
    subst this
    obtain ⟨b, b1, b2⟩ := hg h1
    exact ⟨b, List.mem_append_left _ b1, b2⟩
theorem dup_app {row : List Int32} {AR : AR_} (h : DUP row AR) (l : List Int32) (hV : ∀ x ∈ AR, x.1.2.1 ≤ row.length) : DUP (row ++ l) AR := by
  intro x hx h1
  obtain ⟨b, b1, b2⟩ := h x hx h1
  refine ⟨b, b1, ?_⟩
  rw [nm_app l (hV _ (kp_mem b1)), nm_app l (hV x hx)]
  exact b2
