abbrev nb (c : Int32) : Int32 := vp_nar .byte c.toInt8.toInt32
def OutC (l : List Int32) (s : SOut) : Prop := q_Out_length s = nI l.length ∧ ∀ (k : Nat) (c : Int32), l[k]? = some c → q_Out_bytes s k = nb c
def OutM (M0 : SMo) (l : List Int32) (M : SMo) : Prop := ∃ (x : Int32) (y : Nat → Int32), M = u_Mo_outSize_out M0 x y ∧ x = nI l.length ∧ ∀ (k : Nat) (c : Int32), l[k]? = some c → y k = nb c
def PutC (f : SOut → Option SOut) (w : List Int32) : Prop := ∀ (s : SOut) (l : List Int32), OutC l s → l.length + w.length ≤ 3200 → ∃ s', f s = some s' ∧ OutC (l ++ w) s'
def PutM (M0 : SMo) (f : SMo → Option SMo) (w : List Int32) : Prop := ∀ (M : SMo) (l : List Int32), OutM M0 l M → l.length + w.length ≤ 3200 → ∃ M', f M = some M' ∧ OutM M0 (l ++ w) M'
theorem PutC.nil : PutC (fun s => some s) [] := fun s l h _ => ⟨s, rfl, by rw [List.append_nil]; exact h⟩
theorem PutM.nil {M0 : SMo} : PutM M0 (fun s => some s) [] := fun s l h _ => ⟨s, rfl, by rw [List.append_nil]; exact h⟩
theorem PutC.seq {f g : SOut → Option SOut} {a b : List Int32} (hf : PutC f a) (hg : PutC g b) : PutC (fun s => (f s).bind g) (a ++ b) := by
  intro s l h hl
  rw [List.length_append] at hl
  obtain ⟨s1, e1, h1⟩ := hf s l h (by omega)
  obtain ⟨s2, e2, h2⟩ := hg s1 (l ++ a) h1 (by rw [List.length_append]; omega)
  exact ⟨s2, by show (f s).bind g = some s2; rw [e1, Option.bind_some, e2], by rw [← List.append_assoc]; exact h2⟩
theorem PutM.seq {M0 : SMo} {f g : SMo → Option SMo} {a b : List Int32} (hf : PutM M0 f a) (hg : PutM M0 g b) : PutM M0 (fun s => (f s).bind g) (a ++ b) := by
  intro s l h hl
  rw [List.length_append] at hl
  obtain ⟨s1, e1, h1⟩ := hf s l h (by omega)
  obtain ⟨s2, e2, h2⟩ := hg s1 (l ++ a) h1 (by rw [List.length_append]; omega)
  exact ⟨s2, by show (f s).bind g = some s2; rw [e1, Option.bind_some, e2], by rw [← List.append_assoc]; exact h2⟩
theorem PutC.eqf {f g : SOut → Option SOut} {a : List Int32} (hf : PutC f a) (h : ∀ s, g s = f s) : PutC g a := by
  have : g = f := funext h
  rw [this]; exact hf
theorem PutM.eqf {M0 : SMo} {f g : SMo → Option SMo} {a : List Int32} (hf : PutM M0 f a) (h : ∀ s, g s = f s) : PutM M0 g a := by
  have : g = f := funext h
  rw [this]; exact hf
theorem up_at {y : Nat → Int32} {l : List Int32} {c : Int32} (h : ∀ (k : Nat) (c : Int32), l[k]? = some c → y k = nb c) : ∀ (k : Nat) (d : Int32), (l ++ [c])[k]? = some d → upd y l.length (nb c) k = nb d := by
  intro k d hk
  by_cases hkl : k = l.length
  · subst hkl
    rw [upd_same]
    simp at hk
    rw [hk]
  · rw [upd_ne _ _ hkl]
    have hlt : k < l.length := by
      have := (List.getElem?_eq_some_iff.mp hk).1
      rw [List.length_append, List.length_singleton] at this
      omega
    rw [List.getElem?_append_left hlt] at hk
    exact h k d hk
theorem putByteC (c : Int32) : PutC (f_Out_putByte c) [c] := by
  intro s l h hl
  simp only [List.length_singleton] at hl
  have x1 : ix (nI l.length) 3200 := ixI (by omega) (by omega)
  refine ⟨u_Out_length (u_Out_bytes s (upd (q_Out_bytes s) l.length (nb c))) (nI (l.length + 1)), ?_, by rw [List.length_append]; rfl, up_at h.2⟩
  unfold f_Out_putByte
  rw [h.1, if_neg (show ¬ (3200 : Int32) ≤ nI l.length from nI_ge (b := 3200) (by omega) (by decide)), if_pos x1, nI_clamp (by omega), nI_1]
theorem putM1 {M0 : SMo} (c : Int32) : PutM M0 (f_Mo_put c) [c] := by
  intro M l h hl
  simp only [List.length_singleton] at hl
  obtain ⟨x, y, rfl, rfl, h⟩ := h
  have x1 : ix (nI l.length) 4000 := ixI (by omega) (by omega)
  refine ⟨u_Mo_outSize_out M0 (nI (l.length + 1)) (upd y l.length (nb c)), ?_, _, _, rfl, by rw [List.length_append]; rfl, up_at h⟩
  unfold f_Mo_put
  show (if ix (nI l.length) 4000 then some (u_Mo_outSize_out (u_Mo_outSize_out M0 (nI l.length) y) (nI l.length + 1) (upd y (nI l.length).toNatClampNeg (nb c))) else none) = _
  rw [if_pos x1, nI_clamp (by omega), nI_1]
theorem putStrC {i : Nat} (hi : i < 42) : ∀ (d k n : Nat), k + d = (zs i).length → d < n → PutC (fun s => f_Out_putString_2 n i (nI k) s) ((zs i).drop k) := by
  have hz : (zs i).length < 2 ^ 31 := pS6 i hi
  intro d
  induction d with
  | zero =>
    intro k n hk hn
    obtain ⟨n, rfl⟩ : ∃ q, n = q + 1 := ⟨n - 1, by omega⟩
    have hkl : k = (zs i).length := by omega
    rw [hkl, List.drop_length]
    refine PutC.nil.eqf (fun s => ?_)
    unfold f_Out_putString_2
    rw [if_pos hi, if_pos (nI_le (Nat.le_refl _) hz)]
  | succ d ih =>
    intro k n hk hn
    obtain ⟨n, rfl⟩ : ∃ q, n = q + 1 := ⟨n - 1, by omega⟩
    have hlt : k < (zs i).length := by omega
    have x1 : ix (nI k) (zs i).length := ixI hlt hz
    have e : (zs i).drop k = [(zs i).getD k 0] ++ (zs i).drop (k + 1) := by
      rw [List.drop_eq_getElem_cons hlt, List.getD_eq_getElem?_getD, List.getElem?_eq_getElem hlt]; rfl
    rw [e]
    refine ((putByteC ((zs i).getD k 0)).seq (ih (k + 1) n (by omega) (by omega))).eqf (fun s => ?_)
    show f_Out_putString_2 (n + 1) i (nI k) s = (f_Out_putByte ((zs i).getD k 0) s).bind (fun s => f_Out_putString_2 n i (nI (k + 1)) s)
    rw [f_Out_putString_2, if_pos hi, if_neg (nI_ge hlt hz), if_pos hi, if_pos x1, nI_clamp (by omega), nI_1]
theorem putStringC {i : Nat} (hi : i < 42) : PutC (f_Out_putString i) (zs i) := by
  have hz : ∀ i, i < 42 → (zs i).length < 100 := by decide +kernel
  exact (putStrC hi (zs i).length 0 FU (by omega) (by have := hz i hi; unfold FU; omega))
def unp : Int64 → Nat → List Int32
  | _, 0 => []
  | w, n + 1 => if lg_cmp w 0 = 0 then [] else (w &&& 255).toInt32 :: unp ((w.toUInt64 >>> ((8 : Int32).toInt64.toUInt64 &&& Int64.toUInt64 63)).toInt64) n
theorem putAllM {M0 : SMo} (v : Int64) : ∀ (k n : Nat) (w : Int64), (unp w k).length < k → (unp w k).length < n → PutM M0 (fun M => f_Mo_putAll_2 n v w M) (unp w k) := by
  intro k
  induction k with
  | zero => intro n w h; exact absurd h (Nat.not_lt_zero _)
  | succ k ih =>
    intro n w h1 h2
    obtain ⟨n, rfl⟩ : ∃ q, n = q + 1 := ⟨n - 1, by omega⟩
    by_cases hz : lg_cmp w 0 = 0
    · have e : unp w (k + 1) = [] := by rw [unp, if_pos hz]
      rw [e]
      refine PutM.nil.eqf (fun M => ?_)
      rw [f_Mo_putAll_2, if_pos hz]
    · have e : unp w (k + 1) = [(w &&& 255).toInt32] ++ unp ((w.toUInt64 >>> ((8 : Int32).toInt64.toUInt64 &&& Int64.toUInt64 63)).toInt64) k := by rw [unp, if_neg hz]; rfl
      rw [e] at h1 h2 ⊢
      simp only [List.length_append, List.length_singleton] at h1 h2
      refine ((putM1 (w &&& 255).toInt32).seq (ih n _ (by omega) (by omega))).eqf (fun M => ?_)
      rw [f_Mo_putAll_2, if_neg hz]
theorem putLit {M0 : SMo} {w : Int64} {bs : List Int32} (k : Nat) (h : unp w k = bs) (hk : bs.length < k) (hk2 : k ≤ 20) : PutM M0 (f_Mo_putAll w) bs := by
  subst h
  exact putAllM w k FU w hk (by unfold FU; omega)
