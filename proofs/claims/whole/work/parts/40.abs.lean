abbrev CS : Type := SCommentWays × SReferenceWays × SSource × STagWays × STokens
def stepC (w : Nat) (s : CS) : Option (Nat × CS) := (f_Source_next s.2.2.1).bind fun c => f_Reader_follow w c s.1 s.2.1 s.2.2.1 s.2.2.2.1 s.2.2.2.2
def Reach : Nat → Nat → CS → Nat → CS → Prop
  | 0, w, s, w', s' => w = w' ∧ s = s'
  | k + 1, w, s, w', s' => ∃ (w1 : Nat) (s1 : CS), w < 29 ∧ stepC w s = some (w1, s1) ∧ Reach k w1 s1 w' s'
theorem Reach.trans : ∀ {k1 : Nat} {w : Nat} {s : CS} {w1 : Nat} {s1 : CS} {k2 w2 : Nat} {s2 : CS}, Reach k1 w s w1 s1 → Reach k2 w1 s1 w2 s2 → Reach (k1 + k2) w s w2 s2 := by
  intro k1
  induction k1 with
  | zero =>
    intro w s w1 s1 k2 w2 s2 h1 h2
    obtain ⟨rfl, rfl⟩ := h1
    rw [Nat.zero_add]; exact h2
  | succ k ih =>
    intro w s w1 s1 k2 w2 s2 h1 h2
    obtain ⟨wa, sa, h3, h4, h5⟩ := h1
    rw [Nat.succ_add]
    exact ⟨wa, sa, h3, h4, ih h5 h2⟩
theorem cut_reach : ∀ {k : Nat} {w : Nat} {s : CS} {w' : Nat} {s' : CS}, Reach k w s w' s' → ∀ (f v : Nat), v + k ≤ 100000 → f_Reader_cut_6 (f + k) w (nI v) s.1 s.2.1 s.2.2.1 s.2.2.2.1 s.2.2.2.2 = f_Reader_cut_6 f w' (nI (v + k)) s'.1 s'.2.1 s'.2.2.1 s'.2.2.2.1 s'.2.2.2.2 := by
  intro k
  induction k with
  | zero => intro w s w' s' h f v hv; obtain ⟨rfl, rfl⟩ := h; rfl
  | succ k ih =>
    intro w s w' s' h f v hv
    obtain ⟨w1, s1, h1, h2, h3⟩ := h
    unfold stepC at h2
    obtain ⟨c, hc, h2⟩ := g_bind h2
    rw [← Nat.add_assoc, f_Reader_cut_6, if_neg (show ¬ (100000 : Int32) ≤ nI v from nI_ge (b := 100000) (by omega) (by decide)), if_pos (show w < 30 by omega), if_neg (show ¬ w = 29 by omega), hc, Option.bind_some, h2, Option.bind_some, nI_1]
    rw [show v + (k + 1) = v + 1 + k by omega]
    exact ih h3 f (v + 1) (by omega)
theorem fol_0 (a2 : Int32) (sCommentWays : SCommentWays) (sReferenceWays : SReferenceWays) (sSource : SSource) (sTagWays : STagWays) (sTokens : STokens) : f_Reader_follow 0 a2 sCommentWays sReferenceWays sSource sTagWays sTokens = (f_Reader_data a2 sReferenceWays sSource sTokens).bind fun x1 => some (x1.1, sCommentWays, x1.2.1, x1.2.2.1, sTagWays, x1.2.2.2) := by
  unfold f_Reader_follow
  rw [if_pos (by decide), if_pos (by decide), if_pos (by decide)]
theorem fol_1 (a2 : Int32) (sCommentWays : SCommentWays) (sReferenceWays : SReferenceWays) (sSource : SSource) (sTagWays : STagWays) (sTokens : STokens) : f_Reader_follow 1 a2 sCommentWays sReferenceWays sSource sTagWays sTokens = (f_Reader_tag a2 sSource sTokens).bind fun x2 => some (x2.1, sCommentWays, sReferenceWays, x2.2.1, sTagWays, x2.2.2) := by
  unfold f_Reader_follow
  rw [if_pos (by decide), if_pos (by decide), if_neg (by decide), if_pos (by decide)]
theorem fol_2 (a2 : Int32) (sCommentWays : SCommentWays) (sReferenceWays : SReferenceWays) (sSource : SSource) (sTagWays : STagWays) (sTokens : STokens) : f_Reader_follow 2 a2 sCommentWays sReferenceWays sSource sTagWays sTokens = (f_Reader_endTag a2 sSource sTokens).bind fun x3 => some (x3.1, sCommentWays, sReferenceWays, x3.2.1, sTagWays, x3.2.2) := by
  unfold f_Reader_follow
  rw [if_pos (by decide), if_pos (by decide), if_neg (by decide), if_neg (by decide), if_pos (by decide)]
theorem fol_3 (a2 : Int32) (sCommentWays : SCommentWays) (sReferenceWays : SReferenceWays) (sSource : SSource) (sTagWays : STagWays) (sTokens : STokens) : f_Reader_follow 3 a2 sCommentWays sReferenceWays sSource sTagWays sTokens = (f_ReferenceWays_start a2 sReferenceWays sTokens).bind fun x4 => some (x4.1, sCommentWays, sReferenceWays, sSource, sTagWays, x4.2) := by
  unfold f_Reader_follow
  rw [if_pos (by decide), if_pos (by decide), if_neg (by decide), if_neg (by decide), if_neg (by decide), if_pos (by decide)]
theorem fol_4 (a2 : Int32) (sCommentWays : SCommentWays) (sReferenceWays : SReferenceWays) (sSource : SSource) (sTagWays : STagWays) (sTokens : STokens) : f_Reader_follow 4 a2 sCommentWays sReferenceWays sSource sTagWays sTokens = (f_ReferenceWays_named sReferenceWays sSource sTokens).bind fun x5 => some (x5.1, sCommentWays, sReferenceWays, x5.2.1, sTagWays, x5.2.2) := by
  unfold f_Reader_follow
  rw [if_pos (by decide), if_pos (by decide), if_neg (by decide), if_neg (by decide), if_neg (by decide), if_neg (by decide), if_pos (by decide)]
theorem fol_5 (a2 : Int32) (sCommentWays : SCommentWays) (sReferenceWays : SReferenceWays) (sSource : SSource) (sTagWays : STagWays) (sTokens : STokens) : f_Reader_follow 5 a2 sCommentWays sReferenceWays sSource sTagWays sTokens = (f_ReferenceWays_unnamed sReferenceWays sSource sTokens).bind fun x6 => some (x6.1, sCommentWays, sReferenceWays, x6.2.1, sTagWays, x6.2.2) := by
  unfold f_Reader_follow
  rw [if_pos (by decide), if_pos (by decide), if_neg (by decide), if_neg (by decide), if_neg (by decide), if_neg (by decide), if_neg (by decide), if_pos (by decide)]
theorem fol_6 (a2 : Int32) (sCommentWays : SCommentWays) (sReferenceWays : SReferenceWays) (sSource : SSource) (sTagWays : STagWays) (sTokens : STokens) : f_Reader_follow 6 a2 sCommentWays sReferenceWays sSource sTagWays sTokens = (f_ReferenceWays_numbered sReferenceWays sSource sTokens).bind fun x7 => some (x7.1, sCommentWays, sReferenceWays, x7.2.1, sTagWays, x7.2.2) := by
  unfold f_Reader_follow
  rw [if_pos (by decide), if_pos (by decide), if_neg (by decide), if_neg (by decide), if_neg (by decide), if_neg (by decide), if_neg (by decide), if_neg (by decide), if_pos (by decide)]
theorem fol_7 (a2 : Int32) (sCommentWays : SCommentWays) (sReferenceWays : SReferenceWays) (sSource : SSource) (sTagWays : STagWays) (sTokens : STokens) : f_Reader_follow 7 a2 sCommentWays sReferenceWays sSource sTagWays sTokens = (f_TagWays_name a2 sSource sTokens).bind fun x8 => some (x8.1, sCommentWays, sReferenceWays, x8.2.1, sTagWays, x8.2.2) := by
  unfold f_Reader_follow
  rw [if_pos (by decide), if_pos (by decide), if_neg (by decide), if_neg (by decide), if_neg (by decide), if_neg (by decide), if_neg (by decide), if_neg (by decide), if_neg (by decide), if_pos (by decide)]
theorem fol_8 (a2 : Int32) (sCommentWays : SCommentWays) (sReferenceWays : SReferenceWays) (sSource : SSource) (sTagWays : STagWays) (sTokens : STokens) : f_Reader_follow 8 a2 sCommentWays sReferenceWays sSource sTagWays sTokens = (f_TagWays_before a2 sSource sTokens).bind fun x9 => some (x9.1, sCommentWays, sReferenceWays, x9.2.1, sTagWays, x9.2.2) := by
  unfold f_Reader_follow
  rw [if_pos (by decide), if_pos (by decide), if_neg (by decide), if_neg (by decide), if_neg (by decide), if_neg (by decide), if_neg (by decide), if_neg (by decide), if_neg (by decide), if_neg (by decide), if_pos (by decide)]
theorem fol_9 (a2 : Int32) (sCommentWays : SCommentWays) (sReferenceWays : SReferenceWays) (sSource : SSource) (sTagWays : STagWays) (sTokens : STokens) : f_Reader_follow 9 a2 sCommentWays sReferenceWays sSource sTagWays sTokens = (f_TagWays_attribute a2 sSource sTokens).bind fun x10 => some (x10.1, sCommentWays, sReferenceWays, x10.2.1, sTagWays, x10.2.2) := by
  unfold f_Reader_follow
  rw [if_pos (by decide), if_pos (by decide), if_neg (by decide), if_neg (by decide), if_neg (by decide), if_neg (by decide), if_neg (by decide), if_neg (by decide), if_neg (by decide), if_neg (by decide), if_neg (by decide), if_pos (by decide)]
theorem fol_10 (a2 : Int32) (sCommentWays : SCommentWays) (sReferenceWays : SReferenceWays) (sSource : SSource) (sTagWays : STagWays) (sTokens : STokens) : f_Reader_follow 10 a2 sCommentWays sReferenceWays sSource sTagWays sTokens = (f_TagWays_after a2 sSource sTokens).bind fun x11 => some (x11.1, sCommentWays, sReferenceWays, x11.2.1, sTagWays, x11.2.2) := by
  unfold f_Reader_follow
  rw [if_pos (by decide), if_pos (by decide), if_neg (by decide), if_neg (by decide), if_neg (by decide), if_neg (by decide), if_neg (by decide), if_neg (by decide), if_neg (by decide), if_neg (by decide), if_neg (by decide), if_neg (by decide), if_pos (by decide)]
theorem fol_11 (a2 : Int32) (sCommentWays : SCommentWays) (sReferenceWays : SReferenceWays) (sSource : SSource) (sTagWays : STagWays) (sTokens : STokens) : f_Reader_follow 11 a2 sCommentWays sReferenceWays sSource sTagWays sTokens = (f_TagWays_value a2 sSource sTagWays sTokens).bind fun x12 => some (x12.1, sCommentWays, sReferenceWays, x12.2.1, x12.2.2.1, x12.2.2.2) := by
  unfold f_Reader_follow
  rw [if_pos (by decide), if_pos (by decide), if_neg (by decide), if_neg (by decide), if_neg (by decide), if_neg (by decide), if_neg (by decide), if_neg (by decide), if_neg (by decide), if_neg (by decide), if_neg (by decide), if_neg (by decide), if_neg (by decide), if_pos (by decide)]
theorem fol_12 (a2 : Int32) (sCommentWays : SCommentWays) (sReferenceWays : SReferenceWays) (sSource : SSource) (sTagWays : STagWays) (sTokens : STokens) : f_Reader_follow 12 a2 sCommentWays sReferenceWays sSource sTagWays sTokens = (f_TagWays_quoted a2 sReferenceWays sSource sTagWays sTokens).bind fun x13 => some (x13.1, sCommentWays, x13.2.1, x13.2.2.1, sTagWays, x13.2.2.2) := by
  unfold f_Reader_follow
  rw [if_pos (by decide), if_pos (by decide), if_neg (by decide), if_neg (by decide), if_neg (by decide), if_neg (by decide), if_neg (by decide), if_neg (by decide), if_neg (by decide), if_neg (by decide), if_neg (by decide), if_neg (by decide), if_neg (by decide), if_neg (by decide), if_pos (by decide)]
theorem fol_13 (a2 : Int32) (sCommentWays : SCommentWays) (sReferenceWays : SReferenceWays) (sSource : SSource) (sTagWays : STagWays) (sTokens : STokens) : f_Reader_follow 13 a2 sCommentWays sReferenceWays sSource sTagWays sTokens = (f_TagWays_unquoted a2 sReferenceWays sSource sTokens).bind fun x14 => some (x14.1, sCommentWays, x14.2.1, x14.2.2.1, sTagWays, x14.2.2.2) := by
  unfold f_Reader_follow
  rw [if_pos (by decide), if_pos (by decide), if_neg (by decide), if_neg (by decide), if_neg (by decide), if_neg (by decide), if_neg (by decide), if_neg (by decide), if_neg (by decide), if_neg (by decide), if_neg (by decide), if_neg (by decide), if_neg (by decide), if_neg (by decide), if_neg (by decide), if_pos (by decide)]
theorem fol_14 (a2 : Int32) (sCommentWays : SCommentWays) (sReferenceWays : SReferenceWays) (sSource : SSource) (sTagWays : STagWays) (sTokens : STokens) : f_Reader_follow 14 a2 sCommentWays sReferenceWays sSource sTagWays sTokens = (f_TagWays_behind a2 sSource sTokens).bind fun x15 => some (x15.1, sCommentWays, sReferenceWays, x15.2.1, sTagWays, x15.2.2) := by
  unfold f_Reader_follow
  rw [if_pos (by decide), if_pos (by decide), if_neg (by decide), if_neg (by decide), if_neg (by decide), if_neg (by decide), if_neg (by decide), if_neg (by decide), if_neg (by decide), if_neg (by decide), if_neg (by decide), if_neg (by decide), if_neg (by decide), if_neg (by decide), if_neg (by decide), if_neg (by decide), if_pos (by decide)]
theorem fol_15 (a2 : Int32) (sCommentWays : SCommentWays) (sReferenceWays : SReferenceWays) (sSource : SSource) (sTagWays : STagWays) (sTokens : STokens) : f_Reader_follow 15 a2 sCommentWays sReferenceWays sSource sTagWays sTokens = (f_TagWays_self a2 sSource sTokens).bind fun x16 => some (x16.1, sCommentWays, sReferenceWays, x16.2.1, sTagWays, x16.2.2) := by
  unfold f_Reader_follow
  rw [if_pos (by decide), if_pos (by decide), if_neg (by decide), if_neg (by decide), if_neg (by decide), if_neg (by decide), if_neg (by decide), if_neg (by decide), if_neg (by decide), if_neg (by decide), if_neg (by decide), if_neg (by decide), if_neg (by decide), if_neg (by decide), if_neg (by decide), if_neg (by decide), if_neg (by decide), if_pos (by decide)]
theorem fol_16 (a2 : Int32) (sCommentWays : SCommentWays) (sReferenceWays : SReferenceWays) (sSource : SSource) (sTagWays : STagWays) (sTokens : STokens) : f_Reader_follow 16 a2 sCommentWays sReferenceWays sSource sTagWays sTokens = (f_Reader_mark a2 sSource sTokens).bind fun x17 => some (x17.1, sCommentWays, sReferenceWays, x17.2.1, sTagWays, x17.2.2) := by
  unfold f_Reader_follow
  rw [if_pos (by decide), if_pos (by decide), if_neg (by decide), if_neg (by decide), if_neg (by decide), if_neg (by decide), if_neg (by decide), if_neg (by decide), if_neg (by decide), if_neg (by decide), if_neg (by decide), if_neg (by decide), if_neg (by decide), if_neg (by decide), if_neg (by decide), if_neg (by decide), if_neg (by decide), if_neg (by decide), if_pos (by decide)]
theorem fol_17 (a2 : Int32) (sCommentWays : SCommentWays) (sReferenceWays : SReferenceWays) (sSource : SSource) (sTagWays : STagWays) (sTokens : STokens) : f_Reader_follow 17 a2 sCommentWays sReferenceWays sSource sTagWays sTokens = (f_CommentWays_bogus a2 sSource sTokens).bind fun x18 => some (x18.1, sCommentWays, sReferenceWays, x18.2.1, sTagWays, x18.2.2) := by
  unfold f_Reader_follow
  rw [if_pos (by decide), if_pos (by decide), if_neg (by decide), if_neg (by decide), if_neg (by decide), if_neg (by decide), if_neg (by decide), if_neg (by decide), if_neg (by decide), if_neg (by decide), if_neg (by decide), if_neg (by decide), if_neg (by decide), if_neg (by decide), if_neg (by decide), if_neg (by decide), if_neg (by decide), if_neg (by decide), if_neg (by decide), if_pos (by decide)]
theorem fol_18 (a2 : Int32) (sCommentWays : SCommentWays) (sReferenceWays : SReferenceWays) (sSource : SSource) (sTagWays : STagWays) (sTokens : STokens) : f_Reader_follow 18 a2 sCommentWays sReferenceWays sSource sTagWays sTokens = (f_CommentWays_start a2 sCommentWays sSource sTokens).bind fun x19 => some (x19.1, x19.2.1, sReferenceWays, x19.2.2.1, sTagWays, x19.2.2.2) := by
  unfold f_Reader_follow
  rw [if_pos (by decide), if_pos (by decide), if_neg (by decide), if_neg (by decide), if_neg (by decide), if_neg (by decide), if_neg (by decide), if_neg (by decide), if_neg (by decide), if_neg (by decide), if_neg (by decide), if_neg (by decide), if_neg (by decide), if_neg (by decide), if_neg (by decide), if_neg (by decide), if_neg (by decide), if_neg (by decide), if_neg (by decide), if_neg (by decide), if_pos (by decide)]
theorem fol_19 (a2 : Int32) (sCommentWays : SCommentWays) (sReferenceWays : SReferenceWays) (sSource : SSource) (sTagWays : STagWays) (sTokens : STokens) : f_Reader_follow 19 a2 sCommentWays sReferenceWays sSource sTagWays sTokens = (f_CommentWays_startDash a2 sSource sTokens).bind fun x20 => some (x20.1, sCommentWays, sReferenceWays, x20.2.1, sTagWays, x20.2.2) := by
  unfold f_Reader_follow
  rw [if_pos (by decide), if_pos (by decide), if_neg (by decide), if_neg (by decide), if_neg (by decide), if_neg (by decide), if_neg (by decide), if_neg (by decide), if_neg (by decide), if_neg (by decide), if_neg (by decide), if_neg (by decide), if_neg (by decide), if_neg (by decide), if_neg (by decide), if_neg (by decide), if_neg (by decide), if_neg (by decide), if_neg (by decide), if_neg (by decide), if_neg (by decide), if_pos (by decide)]
theorem fol_20 (a2 : Int32) (sCommentWays : SCommentWays) (sReferenceWays : SReferenceWays) (sSource : SSource) (sTagWays : STagWays) (sTokens : STokens) : f_Reader_follow 20 a2 sCommentWays sReferenceWays sSource sTagWays sTokens = (f_CommentWays_inside a2 sCommentWays sSource sTokens).bind fun x21 => some (x21.1, x21.2.1, sReferenceWays, x21.2.2.1, sTagWays, x21.2.2.2) := by
  unfold f_Reader_follow
  rw [if_pos (by decide), if_pos (by decide), if_neg (by decide), if_neg (by decide), if_neg (by decide), if_neg (by decide), if_neg (by decide), if_neg (by decide), if_neg (by decide), if_neg (by decide), if_neg (by decide), if_neg (by decide), if_neg (by decide), if_neg (by decide), if_neg (by decide), if_neg (by decide), if_neg (by decide), if_neg (by decide), if_neg (by decide), if_neg (by decide), if_neg (by decide), if_neg (by decide), if_pos (by decide)]
theorem fol_21 (a2 : Int32) (sCommentWays : SCommentWays) (sReferenceWays : SReferenceWays) (sSource : SSource) (sTagWays : STagWays) (sTokens : STokens) : f_Reader_follow 21 a2 sCommentWays sReferenceWays sSource sTagWays sTokens = (f_CommentWays_dash a2 sSource sTokens).bind fun x22 => some (x22.1, sCommentWays, sReferenceWays, x22.2.1, sTagWays, x22.2.2) := by
  unfold f_Reader_follow
  rw [if_pos (by decide), if_pos (by decide), if_neg (by decide), if_neg (by decide), if_neg (by decide), if_neg (by decide), if_neg (by decide), if_neg (by decide), if_neg (by decide), if_neg (by decide), if_neg (by decide), if_neg (by decide), if_neg (by decide), if_neg (by decide), if_neg (by decide), if_neg (by decide), if_neg (by decide), if_neg (by decide), if_neg (by decide), if_neg (by decide), if_neg (by decide), if_neg (by decide), if_neg (by decide), if_pos (by decide)]
theorem fol_22 (a2 : Int32) (sCommentWays : SCommentWays) (sReferenceWays : SReferenceWays) (sSource : SSource) (sTagWays : STagWays) (sTokens : STokens) : f_Reader_follow 22 a2 sCommentWays sReferenceWays sSource sTagWays sTokens = (f_CommentWays_end a2 sCommentWays sSource sTokens).bind fun x23 => some (x23.1, sCommentWays, sReferenceWays, x23.2.1, sTagWays, x23.2.2) := by
  unfold f_Reader_follow
  rw [if_pos (by decide), if_pos (by decide), if_neg (by decide), if_neg (by decide), if_neg (by decide), if_neg (by decide), if_neg (by decide), if_neg (by decide), if_neg (by decide), if_neg (by decide), if_neg (by decide), if_neg (by decide), if_neg (by decide), if_neg (by decide), if_neg (by decide), if_neg (by decide), if_neg (by decide), if_neg (by decide), if_neg (by decide), if_neg (by decide), if_neg (by decide), if_neg (by decide), if_neg (by decide), if_neg (by decide), if_pos (by decide)]
theorem fol_23 (a2 : Int32) (sCommentWays : SCommentWays) (sReferenceWays : SReferenceWays) (sSource : SSource) (sTagWays : STagWays) (sTokens : STokens) : f_Reader_follow 23 a2 sCommentWays sReferenceWays sSource sTagWays sTokens = (f_CommentWays_bang a2 sSource sTokens).bind fun x24 => some (x24.1, sCommentWays, sReferenceWays, x24.2.1, sTagWays, x24.2.2) := by
  unfold f_Reader_follow
  rw [if_pos (by decide), if_pos (by decide), if_neg (by decide), if_neg (by decide), if_neg (by decide), if_neg (by decide), if_neg (by decide), if_neg (by decide), if_neg (by decide), if_neg (by decide), if_neg (by decide), if_neg (by decide), if_neg (by decide), if_neg (by decide), if_neg (by decide), if_neg (by decide), if_neg (by decide), if_neg (by decide), if_neg (by decide), if_neg (by decide), if_neg (by decide), if_neg (by decide), if_neg (by decide), if_neg (by decide), if_neg (by decide), if_pos (by decide)]
theorem fol_24 (a2 : Int32) (sCommentWays : SCommentWays) (sReferenceWays : SReferenceWays) (sSource : SSource) (sTagWays : STagWays) (sTokens : STokens) : f_Reader_follow 24 a2 sCommentWays sReferenceWays sSource sTagWays sTokens = (f_DoctypeWays_start a2 sSource).bind fun x25 => some (x25.1, sCommentWays, sReferenceWays, x25.2, sTagWays, sTokens) := by
  unfold f_Reader_follow
  rw [if_pos (by decide), if_pos (by decide), if_neg (by decide), if_neg (by decide), if_neg (by decide), if_neg (by decide), if_neg (by decide), if_neg (by decide), if_neg (by decide), if_neg (by decide), if_neg (by decide), if_neg (by decide), if_neg (by decide), if_neg (by decide), if_neg (by decide), if_neg (by decide), if_neg (by decide), if_neg (by decide), if_neg (by decide), if_neg (by decide), if_neg (by decide), if_neg (by decide), if_neg (by decide), if_neg (by decide), if_neg (by decide), if_neg (by decide), if_pos (by decide)]
theorem fol_25 (a2 : Int32) (sCommentWays : SCommentWays) (sReferenceWays : SReferenceWays) (sSource : SSource) (sTagWays : STagWays) (sTokens : STokens) : f_Reader_follow 25 a2 sCommentWays sReferenceWays sSource sTagWays sTokens = (f_DoctypeWays_before a2 sSource sTokens).bind fun x26 => some (x26.1, sCommentWays, sReferenceWays, x26.2.1, sTagWays, x26.2.2) := by
  unfold f_Reader_follow
  rw [if_pos (by decide), if_pos (by decide), if_neg (by decide), if_neg (by decide), if_neg (by decide), if_neg (by decide), if_neg (by decide), if_neg (by decide), if_neg (by decide), if_neg (by decide), if_neg (by decide), if_neg (by decide), if_neg (by decide), if_neg (by decide), if_neg (by decide), if_neg (by decide), if_neg (by decide), if_neg (by decide), if_neg (by decide), if_neg (by decide), if_neg (by decide), if_neg (by decide), if_neg (by decide), if_neg (by decide), if_neg (by decide), if_neg (by decide), if_neg (by decide), if_pos (by decide)]
theorem fol_26 (a2 : Int32) (sCommentWays : SCommentWays) (sReferenceWays : SReferenceWays) (sSource : SSource) (sTagWays : STagWays) (sTokens : STokens) : f_Reader_follow 26 a2 sCommentWays sReferenceWays sSource sTagWays sTokens = (f_DoctypeWays_name a2 sSource sTokens).bind fun x27 => some (x27.1, sCommentWays, sReferenceWays, x27.2.1, sTagWays, x27.2.2) := by
  unfold f_Reader_follow
  rw [if_pos (by decide), if_pos (by decide), if_neg (by decide), if_neg (by decide), if_neg (by decide), if_neg (by decide), if_neg (by decide), if_neg (by decide), if_neg (by decide), if_neg (by decide), if_neg (by decide), if_neg (by decide), if_neg (by decide), if_neg (by decide), if_neg (by decide), if_neg (by decide), if_neg (by decide), if_neg (by decide), if_neg (by decide), if_neg (by decide), if_neg (by decide), if_neg (by decide), if_neg (by decide), if_neg (by decide), if_neg (by decide), if_neg (by decide), if_neg (by decide), if_neg (by decide), if_pos (by decide)]
theorem fol_27 (a2 : Int32) (sCommentWays : SCommentWays) (sReferenceWays : SReferenceWays) (sSource : SSource) (sTagWays : STagWays) (sTokens : STokens) : f_Reader_follow 27 a2 sCommentWays sReferenceWays sSource sTagWays sTokens = (f_DoctypeWays_after a2 sSource sTokens).bind fun x28 => some (x28.1, sCommentWays, sReferenceWays, x28.2.1, sTagWays, x28.2.2) := by
  unfold f_Reader_follow
  rw [if_pos (by decide), if_pos (by decide), if_neg (by decide), if_neg (by decide), if_neg (by decide), if_neg (by decide), if_neg (by decide), if_neg (by decide), if_neg (by decide), if_neg (by decide), if_neg (by decide), if_neg (by decide), if_neg (by decide), if_neg (by decide), if_neg (by decide), if_neg (by decide), if_neg (by decide), if_neg (by decide), if_neg (by decide), if_neg (by decide), if_neg (by decide), if_neg (by decide), if_neg (by decide), if_neg (by decide), if_neg (by decide), if_neg (by decide), if_neg (by decide), if_neg (by decide), if_neg (by decide), if_pos (by decide)]
theorem fol_28 (a2 : Int32) (sCommentWays : SCommentWays) (sReferenceWays : SReferenceWays) (sSource : SSource) (sTagWays : STagWays) (sTokens : STokens) : f_Reader_follow 28 a2 sCommentWays sReferenceWays sSource sTagWays sTokens = (f_DoctypeWays_odd a2 sSource sTokens).bind fun x29 => some (x29.1, sCommentWays, sReferenceWays, x29.2.1, sTagWays, x29.2.2) := by
  unfold f_Reader_follow
  rw [if_pos (by decide), if_pos (by decide), if_neg (by decide), if_neg (by decide), if_neg (by decide), if_neg (by decide), if_neg (by decide), if_neg (by decide), if_neg (by decide), if_neg (by decide), if_neg (by decide), if_neg (by decide), if_neg (by decide), if_neg (by decide), if_neg (by decide), if_neg (by decide), if_neg (by decide), if_neg (by decide), if_neg (by decide), if_neg (by decide), if_neg (by decide), if_neg (by decide), if_neg (by decide), if_neg (by decide), if_neg (by decide), if_neg (by decide), if_neg (by decide), if_neg (by decide), if_neg (by decide), if_neg (by decide), if_pos (by decide)]
