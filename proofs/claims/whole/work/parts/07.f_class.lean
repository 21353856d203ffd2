def f_Mt_feed_31 : Nat → Int64 → Int32 → Int32 → SMt → Option (Int32 × SMt)
  | 0, _, _, _, _ => none
  | n + 1, v1, v3, v4, sMt =>
    if v3 ≤ v4 then
      some (((q_Mt_textLength sMt) + v3), (u_Mt_textLength sMt ((q_Mt_textLength sMt) + v3)))
    else
      if ix ((q_Mt_textLength sMt) + v4) 400 then
      f_Mt_feed_31 n v1 v3 (v4 + 1) (u_Mt_text sMt (upd (q_Mt_text sMt) (((q_Mt_textLength sMt) + v4) : Int32).toNatClampNeg (vp_nar .byte (((v1 >>> (((8 * v4) : Int32).toInt64 &&& 63)) : Int64).toInt32 : Int32).toInt8.toInt32)))
      else none
def f_Mt_feed (a1 : Int64) (a2 : Int32) (sMt : SMt) : Option (Int32 × SMt) :=
  if a2 < 1 then
    some ((-1), sMt)
  else
    if a2 ≤ 8 then
      if ((q_Mt_textLength sMt) + a2) ≤ 400 then
        f_Mt_feed_31 FU a1 a2 0 sMt
      else
        some ((-2), sMt)
    else
      some ((-1), sMt)
def f_Mt_clear (sMt : SMt) : Int32 × SMt :=
  ((q_Mt_textLength sMt), (u_Mt_textLength sMt 0))
def f_Out_length (sOut : SOut) : Int32 :=
  (q_Out_length sOut)
def f_Out_copyTo (sMt : SMt) (sOut : SOut) : Option SMt :=
  if ¬ (if 400 < (q_Out_length sOut) then 400 else (q_Out_length sOut)) < 0 ∧ ((if 400 < (q_Out_length sOut) then 400 else (q_Out_length sOut)) : Int32).toNatClampNeg ≤ 400 ∧ ∀ i, i < ((if 400 < (q_Out_length sOut) then 400 else (q_Out_length sOut)) : Int32).toNatClampNeg → fits .byte (.int ((q_Out_bytes sOut) (0 + i))) = true then
  some (u_Mt_text sMt (va_cpy (q_Out_bytes sOut) (q_Mt_text sMt) (0 : Int32).toNatClampNeg (0 : Int32).toNatClampNeg ((if 400 < (q_Out_length sOut) then 400 else (q_Out_length sOut)) : Int32).toNatClampNeg))
  else none
def f_Mt_again (sMt : SMt) (sOut : SOut) : Option (Int32 × SMt) :=
  if (f_Out_length sOut) ≤ 400 then
    (f_Out_copyTo sMt sOut).bind fun x1 =>
    some ((f_Out_length sOut), (u_Mt_textLength x1 (f_Out_length sOut)))
  else
    some ((-2), sMt)
def f_Source_open_17 : Nat → Int32 → Int32 → SMt → SSource → Option SSource
  | 0, _, _, _, _ => none
  | n + 1, v2, v3, sMt, sSource =>
    if v2 ≤ v3 then
      some sSource
    else
      if ix v3 400 then
      if ((q_Mt_text sMt) (v3 : Int32).toNatClampNeg) = 13 then
        if v2 ≤ (v3 + 1) then
          if ix v3 400 then
          if ((q_Mt_text sMt) (v3 : Int32).toNatClampNeg) = 13 then
            if ix (q_Source_count sSource) 400 then
            f_Source_open_17 n v2 (v3 + 1) sMt (u_Source_count (u_Source_characters sSource (upd (q_Source_characters sSource) ((q_Source_count sSource) : Int32).toNatClampNeg 10)) ((q_Source_count sSource) + 1))
            else none
          else
            if ix v3 400 then
            if ix (q_Source_count sSource) 400 then
            f_Source_open_17 n v2 (v3 + 1) sMt (u_Source_count (u_Source_characters sSource (upd (q_Source_characters sSource) ((q_Source_count sSource) : Int32).toNatClampNeg (((q_Mt_text sMt) (v3 : Int32).toNatClampNeg) &&& 255))) ((q_Source_count sSource) + 1))
            else none
            else none
          else none
        else
          if ix (v3 + 1) 400 then
          if ((q_Mt_text sMt) ((v3 + 1) : Int32).toNatClampNeg) = 10 then
            f_Source_open_17 n v2 (v3 + 1) sMt sSource
          else
            if ix v3 400 then
            if ((q_Mt_text sMt) (v3 : Int32).toNatClampNeg) = 13 then
              if ix (q_Source_count sSource) 400 then
              f_Source_open_17 n v2 (v3 + 1) sMt (u_Source_count (u_Source_characters sSource (upd (q_Source_characters sSource) ((q_Source_count sSource) : Int32).toNatClampNeg 10)) ((q_Source_count sSource) + 1))
              else none
            else
              if ix v3 400 then
              if ix (q_Source_count sSource) 400 then
              f_Source_open_17 n v2 (v3 + 1) sMt (u_Source_count (u_Source_characters sSource (upd (q_Source_characters sSource) ((q_Source_count sSource) : Int32).toNatClampNeg (((q_Mt_text sMt) (v3 : Int32).toNatClampNeg) &&& 255))) ((q_Source_count sSource) + 1))
              else none
              else none
            else none
          else none
      else
        if ix v3 400 then
        if ((q_Mt_text sMt) (v3 : Int32).toNatClampNeg) = 13 then
          if ix (q_Source_count sSource) 400 then
          f_Source_open_17 n v2 (v3 + 1) sMt (u_Source_count (u_Source_characters sSource (upd (q_Source_characters sSource) ((q_Source_count sSource) : Int32).toNatClampNeg 10)) ((q_Source_count sSource) + 1))
          else none
        else
          if ix v3 400 then
          if ix (q_Source_count sSource) 400 then
          f_Source_open_17 n v2 (v3 + 1) sMt (u_Source_count (u_Source_characters sSource (upd (q_Source_characters sSource) ((q_Source_count sSource) : Int32).toNatClampNeg (((q_Mt_text sMt) (v3 : Int32).toNatClampNeg) &&& 255))) ((q_Source_count sSource) + 1))
          else none
          else none
        else none
      else none
def f_Source_open (a2 : Int32) (sMt : SMt) (sSource : SSource) : Option SSource :=
  f_Source_open_17 FU a2 0 sMt (u_Source_faultCount (u_Source_place (u_Source_count sSource 0) 0) 0)
def f_Tokens_forget (sTokens : STokens) : STokens :=
  (u_Tokens_inAttribute (u_Tokens_attributesUsed (u_Tokens_inText (u_Tokens_count (u_Tokens_used sTokens 0) 0) 0) 0) 0)
def f_Source_character (a1 : Int32) (sSource : SSource) : Option Int32 :=
  if a1 < 0 then
    some (-1)
  else
    if (q_Source_count sSource) ≤ a1 then
      some (-1)
    else
      if ix a1 400 then
      some ((q_Source_characters sSource) (a1 : Int32).toNatClampNeg)
      else none
def f_Source_next (sSource : SSource) : Option Int32 :=
  (f_Source_character (q_Source_place sSource) sSource).bind fun x1 =>
  some x1
def f_Tokens_open (a1 : Int32) (sTokens : STokens) : Option STokens :=
  if 400 ≤ (q_Tokens_count sTokens) then
    some sTokens
  else
    if ix (q_Tokens_count sTokens) 400 then
    if ix (q_Tokens_count sTokens) 400 then
    if ix (q_Tokens_count sTokens) 400 then
    if ix (q_Tokens_count sTokens) 400 then
    if ix (q_Tokens_count sTokens) 400 then
    some (u_Tokens_attributeCounts (u_Tokens_firstAttributes (u_Tokens_marks (u_Tokens_starts (u_Tokens_kinds sTokens (upd (q_Tokens_kinds sTokens) ((q_Tokens_count sTokens) : Int32).toNatClampNeg a1)) (upd (q_Tokens_starts sTokens) ((q_Tokens_count sTokens) : Int32).toNatClampNeg (q_Tokens_used sTokens))) (upd (q_Tokens_marks sTokens) ((q_Tokens_count sTokens) : Int32).toNatClampNeg 0)) (upd (q_Tokens_firstAttributes sTokens) ((q_Tokens_count sTokens) : Int32).toNatClampNeg (q_Tokens_attributesUsed sTokens))) (upd (q_Tokens_attributeCounts sTokens) ((q_Tokens_count sTokens) : Int32).toNatClampNeg 0))
    else none
    else none
    else none
    else none
    else none
def f_Tokens_beginText (sTokens : STokens) : Option STokens :=
  if (q_Tokens_inText sTokens) = 0 then
    (f_Tokens_open 0 (u_Tokens_inText sTokens 1)).bind fun x1 =>
    some x1
  else
    some sTokens
def f_Source_then (a1 : Nat) (sSource : SSource) : Nat × SSource :=
  if (q_Source_count sSource) ≤ (q_Source_place sSource) then
    (a1, sSource)
  else
    (a1, (u_Source_place sSource ((q_Source_place sSource) + 1)))
def f_ReferenceWays_open (a1 : Nat) (sReferenceWays : SReferenceWays) (sSource : SSource) : Nat × SReferenceWays × SSource :=
  ((f_Source_then 3 sSource).1, a1, (f_Source_then 3 sSource).2)
def f_Source_wrong (a1 : Int32) (sSource : SSource) : Option SSource :=
  if 1203 ≤ (q_Source_faultCount sSource) then
    some sSource
  else
    if ix (q_Source_faultCount sSource) 1203 then
    if ix (q_Source_faultCount sSource) 1203 then
    some (u_Source_faultCount (u_Source_places (u_Source_codes sSource (upd (q_Source_codes sSource) ((q_Source_faultCount sSource) : Int32).toNatClampNeg a1)) (upd (q_Source_places sSource) ((q_Source_faultCount sSource) : Int32).toNatClampNeg (q_Source_place sSource))) ((q_Source_faultCount sSource) + 1))
    else none
    else none
def f_Tokens_add (a1 : Int32) (sTokens : STokens) : Option STokens :=
  if 400 ≤ (q_Tokens_used sTokens) then
    some sTokens
  else
    if ix (q_Tokens_used sTokens) 400 then
    some (u_Tokens_used (u_Tokens_row sTokens (upd (q_Tokens_row sTokens) ((q_Tokens_used sTokens) : Int32).toNatClampNeg a1)) ((q_Tokens_used sTokens) + 1))
    else none
def f_Reader_addToText (a1 : Int32) (sTokens : STokens) : Option STokens :=
  (f_Tokens_beginText sTokens).bind fun x1 =>
  (f_Tokens_add a1 x1).bind fun x2 =>
  some x2
def f_Reader_data (a1 : Int32) (sReferenceWays : SReferenceWays) (sSource : SSource) (sTokens : STokens) : Option (Nat × SReferenceWays × SSource × STokens) :=
  if a1 = (-1) then
    some (29, sReferenceWays, sSource, sTokens)
  else
  if a1 = 0 then
    (f_Source_wrong 1 sSource).bind fun x1 =>
    (f_Reader_addToText a1 sTokens).bind fun x2 =>
    some ((f_Source_then 0 x1).1, sReferenceWays, (f_Source_then 0 x1).2, x2)
  else
  if a1 = 38 then
    (f_Tokens_beginText sTokens).bind fun x3 =>
    some ((f_ReferenceWays_open 0 sReferenceWays sSource).1, (f_ReferenceWays_open 0 sReferenceWays sSource).2.1, (f_ReferenceWays_open 0 sReferenceWays sSource).2.2, x3)
  else
  if a1 = 60 then
    some ((f_Source_then 1 sSource).1, sReferenceWays, (f_Source_then 1 sSource).2, sTokens)
  else
  (f_Reader_addToText a1 sTokens).bind fun x4 =>
  some ((f_Source_then 0 sSource).1, sReferenceWays, (f_Source_then 0 sSource).2, x4)
def f_Mt_isLetter (a1 : Int32) : Int32 :=
  if a1 < 65 then
    if a1 < 97 then
      0
    else
      if 122 < a1 then
        0
      else
        1
  else
    if a1 ≤ 90 then
      1
    else
      if a1 < 97 then
        0
      else
        if 122 < a1 then
          0
        else
          1
def f_Tokens_endText (sTokens : STokens) : Option STokens :=
  if (q_Tokens_inText sTokens) = 0 then
    some (u_Tokens_inText sTokens 0)
  else
    if 400 ≤ (q_Tokens_count sTokens) then
      some (u_Tokens_inText sTokens 0)
    else
      if ix (q_Tokens_count sTokens) 400 then
      some (u_Tokens_inText (u_Tokens_count (u_Tokens_ends sTokens (upd (q_Tokens_ends sTokens) ((q_Tokens_count sTokens) : Int32).toNatClampNeg (q_Tokens_used sTokens))) ((q_Tokens_count sTokens) + 1)) 0)
      else none
def f_Tokens_begin (a1 : Int32) (sTokens : STokens) : Option STokens :=
  (f_Tokens_endText sTokens).bind fun x1 =>
  (f_Tokens_open a1 x1).bind fun x2 =>
  some x2
def f_Reader_bogus (sTokens : STokens) : Option (Nat × STokens) :=
  (f_Tokens_begin 3 sTokens).bind fun x1 =>
  some (17, x1)
def f_Reader_tag (a1 : Int32) (sSource : SSource) (sTokens : STokens) : Option (Nat × SSource × STokens) :=
  if (f_Mt_isLetter a1) = 0 then
    if a1 = (-1) then
      (f_Source_wrong 3 sSource).bind fun x1 =>
      (f_Reader_addToText 60 sTokens).bind fun x2 =>
      some (29, x1, x2)
    else
    if a1 = 33 then
      some ((f_Source_then 16 sSource).1, (f_Source_then 16 sSource).2, sTokens)
    else
    if a1 = 47 then
      some ((f_Source_then 2 sSource).1, (f_Source_then 2 sSource).2, sTokens)
    else
    if a1 = 63 then
      (f_Source_wrong 2 sSource).bind fun x3 =>
      (f_Reader_bogus sTokens).bind fun x4 =>
      some (x4.1, x3, x4.2)
    else
    (f_Source_wrong 4 sSource).bind fun x5 =>
    (f_Reader_addToText 60 sTokens).bind fun x6 =>
    some (0, x5, x6)
  else
    (f_Tokens_begin 1 sTokens).bind fun x7 =>
    some (7, sSource, x7)
def f_Reader_endTag (a1 : Int32) (sSource : SSource) (sTokens : STokens) : Option (Nat × SSource × STokens) :=
  if (f_Mt_isLetter a1) = 0 then
    if a1 = (-1) then
      (f_Source_wrong 3 sSource).bind fun x1 =>
      (f_Reader_addToText 60 sTokens).bind fun x2 =>
      (f_Reader_addToText 47 x2).bind fun x3 =>
      some (29, x1, x3)
    else
    if a1 = 62 then
      (f_Source_wrong 5 sSource).bind fun x4 =>
      some ((f_Source_then 0 x4).1, (f_Source_then 0 x4).2, sTokens)
    else
    (f_Source_wrong 4 sSource).bind fun x5 =>
    (f_Reader_bogus sTokens).bind fun x6 =>
    some (x6.1, x5, x6.2)
  else
    (f_Tokens_begin 2 sTokens).bind fun x7 =>
    some (7, sSource, x7)
def f_Mt_isLetterOrDigit (a1 : Int32) : Int32 :=
  if (f_Mt_isLetter a1) = 0 then
    if a1 < 48 then
      0
    else
      if 57 < a1 then
        0
      else
        1
  else
    1
def f_ReferenceWays_start (a1 : Int32) (sReferenceWays : SReferenceWays) (sTokens : STokens) : Option (Nat × STokens) :=
  if a1 = 35 then
    some (6, sTokens)
  else
    if (f_Mt_isLetterOrDigit a1) = 0 then
      (f_Tokens_add 38 sTokens).bind fun x1 =>
      some (sReferenceWays, x1)
    else
      some (4, sTokens)
def f_Source_place (sSource : SSource) : Int32 :=
  (q_Source_place sSource)
def f_Named_lengthIn_11 : Nat → Nat → Int32 → Int32 → Int32 → SSource → Option Int32
  | 0, _, _, _, _, _ => none
  | n + 1, k, v2, v3, v4, sSource =>
    if v3 ≤ v4 then
      (f_Source_character (v2 + v3) sSource).bind fun x1 =>
      if x1 = 59 then
        some (v3 + 1)
      else
        if k < nm_count then
        if (nm_free k) = 0 then
          some 0
        else
          some v3
        else none
    else
      (f_Source_character (v2 + v4) sSource).bind fun x2 =>
      if k < nm_count then
      if (nm_letters k) < 42 then
      if ix v4 (zs (nm_letters k)).length then
      if x2 = ((zs (nm_letters k)).getD (v4 : Int32).toNatClampNeg 0) then
        f_Named_lengthIn_11 n k v2 v3 (v4 + 1) sSource
      else
        some 0
      else none
      else none
      else none
def f_Named_lengthIn (k : Nat) (a2 : Int32) (sSource : SSource) : Option Int32 :=
  if k < nm_count then
  if (nm_letters k) < 42 then
  f_Named_lengthIn_11 FU k a2 (nI (zs (nm_letters k)).length) 0 sSource
  else none
  else none
def f_ReferenceWays_longestName_15 : Nat → Option Nat → Int32 → Int32 → Int32 → SSource → Option ((Option Nat))
  | 0, _, _, _, _, _ => none
  | n + 1, v1, v2, v4, v5, sSource =>
    if v4 ≤ v5 then
      some v1
    else
      if ix v5 nm_count then
      (f_Named_lengthIn ((v5 : Int32).toNatClampNeg) (f_Source_place sSource) sSource).bind fun x1 =>
      if x1 ≤ v2 then
        f_ReferenceWays_longestName_15 n v1 v2 v4 (v5 + 1) sSource
      else
        f_ReferenceWays_longestName_15 n (some (v5 : Int32).toNatClampNeg) x1 v4 (v5 + 1) sSource
      else none
def f_ReferenceWays_longestName (sSource : SSource) : Option ((Option Nat)) :=
  f_ReferenceWays_longestName_15 FU none 0 32 0 sSource
def f_Source_skip (a1 : Int32) (sSource : SSource) : SSource :=
  (u_Source_place sSource (if (q_Source_count sSource) < ((q_Source_place sSource) + a1) then (q_Source_count sSource) else ((q_Source_place sSource) + a1)))
def f_ReferenceWays_goesOn (a1 : Int32) : Int32 :=
  if (f_Mt_isLetterOrDigit a1) = 0 then
    if a1 = 61 then
      1
    else
      0
  else
    1
def f_ReferenceWays_addAsItIs_19 : Nat → Int32 → Int32 → Int32 → SSource → STokens → Option STokens
  | 0, _, _, _, _, _ => none
  | n + 1, v1, v2, v3, sSource, sTokens =>
    if v2 ≤ v3 then
      some sTokens
    else
      (f_Source_character v3 sSource).bind fun x2 =>
      (f_Tokens_add x2 sTokens).bind fun x3 =>
      f_ReferenceWays_addAsItIs_19 n v1 v2 (v3 + 1) sSource x3
def f_ReferenceWays_addAsItIs (a1 : Int32) (sSource : SSource) (sTokens : STokens) : Option STokens :=
  (f_Tokens_add 38 sTokens).bind fun x1 =>
  f_ReferenceWays_addAsItIs_19 FU a1 (f_Source_place sSource) a1 sSource x1
def f_ReferenceWays_named (sReferenceWays : SReferenceWays) (sSource : SSource) (sTokens : STokens) : Option (Nat × SSource × STokens) :=
  (f_ReferenceWays_longestName sSource).bind fun x1 =>
  match x1 with
  | none =>
    some (5, sSource, sTokens)
  | some k2 =>
    if k2 < nm_count then
    (f_Named_lengthIn k2 (f_Source_place sSource) sSource).bind fun x3 =>
    (f_Source_character ((f_Source_place (f_Source_skip x3 sSource)) - 1) (f_Source_skip x3 sSource)).bind fun x4 =>
    if x4 = 59 then
      if k2 < nm_count then
      (f_Tokens_add (nm_given k2) sTokens).bind fun x11 =>
      some (sReferenceWays, (f_Source_skip x3 sSource), x11)
      else none
    else
      if sReferenceWays < 30 then
      if sReferenceWays = 0 then
        (f_Source_wrong 25 (f_Source_skip x3 sSource)).bind fun x5 =>
        if k2 < nm_count then
        (f_Tokens_add (nm_given k2) sTokens).bind fun x6 =>
        some (sReferenceWays, x5, x6)
        else none
      else
        (f_Source_next (f_Source_skip x3 sSource)).bind fun x7 =>
        if (f_ReferenceWays_goesOn x7) = 0 then
          (f_Source_wrong 25 (f_Source_skip x3 sSource)).bind fun x8 =>
          if k2 < nm_count then
          (f_Tokens_add (nm_given k2) sTokens).bind fun x9 =>
          some (sReferenceWays, x8, x9)
          else none
        else
          (f_ReferenceWays_addAsItIs (f_Source_place sSource) (f_Source_skip x3 sSource) sTokens).bind fun x10 =>
          some (sReferenceWays, (f_Source_skip x3 sSource), x10)
      else none
    else none
def f_ReferenceWays_unnamed_10 : Nat → Int32 → Int32 → SReferenceWays → SSource → STokens → Option (Nat × SSource × STokens)
  | 0, _, _, _, _, _ => none
  | n + 1, v1, v2, sReferenceWays, sSource, sTokens =>
    if 400 ≤ v2 then
      (f_ReferenceWays_addAsItIs v1 sSource sTokens).bind fun x1 =>
      (f_Source_next sSource).bind fun x2 =>
      if x2 = 59 then
        (f_Source_wrong 26 sSource).bind fun x3 =>
        some (sReferenceWays, x3, x1)
      else
        some (sReferenceWays, sSource, x1)
    else
      (f_Source_next sSource).bind fun x4 =>
      if (f_Mt_isLetterOrDigit x4) = 0 then
        (f_ReferenceWays_addAsItIs v1 sSource sTokens).bind fun x5 =>
        (f_Source_next sSource).bind fun x6 =>
        if x6 = 59 then
          (f_Source_wrong 26 sSource).bind fun x7 =>
          some (sReferenceWays, x7, x5)
        else
          some (sReferenceWays, sSource, x5)
      else
        f_ReferenceWays_unnamed_10 n v1 (v2 + 1) sReferenceWays (f_Source_skip 1 sSource) sTokens
def f_ReferenceWays_unnamed (sReferenceWays : SReferenceWays) (sSource : SSource) (sTokens : STokens) : Option (Nat × SSource × STokens) :=
  f_ReferenceWays_unnamed_10 FU (f_Source_place sSource) 0 sReferenceWays sSource sTokens
def f_Mt_lowered (a1 : Int32) : Int32 :=
  if a1 < 65 then
    a1
  else
    if 90 < a1 then
      a1
    else
      (a1 + 32)
def f_ReferenceWays_digitOf (a1 : Int32) : Int32 :=
  if a1 < 48 then
    if (f_Mt_lowered a1) < 97 then
      16
    else
      if 102 < (f_Mt_lowered a1) then
        16
      else
        (((f_Mt_lowered a1) - 97) + 10)
  else
    if 57 < a1 then
      if (f_Mt_lowered a1) < 97 then
        16
      else
        if 102 < (f_Mt_lowered a1) then
          16
        else
          (((f_Mt_lowered a1) - 97) + 10)
    else
      (a1 - 48)
def f_ReferenceWays_readDigits_4 : Nat → Int32 → Int32 → Int32 → SSource → Option (Int32 × SSource)
  | 0, _, _, _, _ => none
  | n + 1, v1, v2, v3, sSource =>
    if 400 ≤ v3 then
      some (v2, sSource)
    else
      (f_Source_next sSource).bind fun x1 =>
      if (f_ReferenceWays_digitOf x1) < v1 then
        f_ReferenceWays_readDigits_4 n v1 (if 1114112 < ((v2 * v1) + (f_ReferenceWays_digitOf x1)) then 1114112 else ((v2 * v1) + (f_ReferenceWays_digitOf x1))) (v3 + 1) (f_Source_skip 1 sSource)
      else
        some (v2, sSource)
def f_ReferenceWays_readDigits (a1 : Int32) (sSource : SSource) : Option (Int32 × SSource) :=
  f_ReferenceWays_readDigits_4 FU a1 0 0 sSource
def f_ReferenceWays_isNoCharacter (a1 : Int32) : Int32 :=
  if a1 < 64976 then
    if (a1 &&& 65535) < 65534 then
      0
    else
      1
  else
    if a1 ≤ 65007 then
      1
    else
      if (a1 &&& 65535) < 65534 then
        0
      else
        1
def f_Mt_isBlank (a1 : Int32) : Int32 :=
  if a1 = 10 then
    1
  else
    if a1 = 9 then
      1
    else
      if a1 = 12 then
        1
      else
        if a1 = 32 then
          1
        else
          0
def f_ReferenceWays_isControl (a1 : Int32) : Int32 :=
  if a1 < 127 then
    if 32 ≤ a1 then
      0
    else
      if (f_Mt_isBlank a1) = 0 then
        1
      else
        0
  else
    if a1 ≤ 159 then
      1
    else
      if 32 ≤ a1 then
        0
      else
        if (f_Mt_isBlank a1) = 0 then
          1
        else
          0
def f_ReferenceWays_replaced (a1 : Int32) : Option Int32 :=
  if (a1 - 128) < 0 then
    some a1
  else
    if (nI ta_REPLACED_len) ≤ (a1 - 128) then
      some a1
    else
      if ix (a1 - 128) ta_REPLACED_len then
      some (ta_REPLACED ((a1 - 128) : Int32).toNatClampNeg)
      else none
def f_ReferenceWays_characterOf (a1 : Int32) (sSource : SSource) : Option (Int32 × SSource) :=
  if a1 = 0 then
    (f_Source_wrong 28 sSource).bind fun x9 =>
    some (65533, x9)
  else
    if a1 ≤ 1114111 then
      if a1 < 55296 then
        if (f_ReferenceWays_isNoCharacter a1) = 0 then
          if (f_ReferenceWays_isControl a1) = 0 then
            some (a1, sSource)
          else
            (f_Source_wrong 32 sSource).bind fun x1 =>
            (f_ReferenceWays_replaced a1).bind fun x2 =>
            some (x2, x1)
        else
          (f_Source_wrong 31 sSource).bind fun x3 =>
          some (a1, x3)
      else
        if 57343 < a1 then
          if (f_ReferenceWays_isNoCharacter a1) = 0 then
            if (f_ReferenceWays_isControl a1) = 0 then
              some (a1, sSource)
            else
              (f_Source_wrong 32 sSource).bind fun x4 =>
              (f_ReferenceWays_replaced a1).bind fun x5 =>
              some (x5, x4)
          else
            (f_Source_wrong 31 sSource).bind fun x6 =>
            some (a1, x6)
        else
          (f_Source_wrong 30 sSource).bind fun x7 =>
          some (65533, x7)
    else
      (f_Source_wrong 29 sSource).bind fun x8 =>
      some (65533, x8)
def f_ReferenceWays_numbered (sReferenceWays : SReferenceWays) (sSource : SSource) (sTokens : STokens) : Option (Nat × SSource × STokens) :=
  (f_Source_next (f_Source_skip 1 sSource)).bind fun x1 =>
  if (f_Mt_lowered x1) = 120 then
    (f_ReferenceWays_readDigits 16 (f_Source_skip 1 (f_Source_skip 1 sSource))).bind fun x11 =>
    if (f_Source_place x11.2) = (f_Source_place (f_Source_skip 1 (f_Source_skip 1 sSource))) then
      (f_Source_wrong 27 x11.2).bind fun x18 =>
      (f_ReferenceWays_addAsItIs (f_Source_place sSource) x18 sTokens).bind fun x19 =>
      some (sReferenceWays, x18, x19)
    else
      (f_Source_next x11.2).bind fun x12 =>
      if x12 = 59 then
        (f_ReferenceWays_characterOf x11.1 (f_Source_skip 1 x11.2)).bind fun x16 =>
        (f_Tokens_add x16.1 sTokens).bind fun x17 =>
        some (sReferenceWays, x16.2, x17)
      else
        (f_Source_wrong 25 x11.2).bind fun x13 =>
        (f_ReferenceWays_characterOf x11.1 x13).bind fun x14 =>
        (f_Tokens_add x14.1 sTokens).bind fun x15 =>
        some (sReferenceWays, x14.2, x15)
  else
    (f_ReferenceWays_readDigits 10 (f_Source_skip 1 sSource)).bind fun x2 =>
    if (f_Source_place x2.2) = (f_Source_place (f_Source_skip 1 sSource)) then
      (f_Source_wrong 27 x2.2).bind fun x9 =>
      (f_ReferenceWays_addAsItIs (f_Source_place sSource) x9 sTokens).bind fun x10 =>
      some (sReferenceWays, x9, x10)
    else
      (f_Source_next x2.2).bind fun x3 =>
      if x3 = 59 then
        (f_ReferenceWays_characterOf x2.1 (f_Source_skip 1 x2.2)).bind fun x7 =>
        (f_Tokens_add x7.1 sTokens).bind fun x8 =>
        some (sReferenceWays, x7.2, x8)
      else
        (f_Source_wrong 25 x2.2).bind fun x4 =>
        (f_ReferenceWays_characterOf x2.1 x4).bind fun x5 =>
        (f_Tokens_add x5.1 sTokens).bind fun x6 =>
        some (sReferenceWays, x5.2, x6)
def f_TagWays_endsName (a1 : Int32) : Int32 :=
  if (f_Mt_isBlank a1) = 0 then
    if a1 = 47 then
      1
    else
      if a1 = 62 then
        1
      else
        if a1 = (-1) then
          1
        else
          0
  else
    1
def f_Tokens_endOwn (sTokens : STokens) : Option STokens :=
  if 400 ≤ (q_Tokens_count sTokens) then
    some sTokens
  else
    if ix (q_Tokens_count sTokens) 400 then
    some (u_Tokens_ends sTokens (upd (q_Tokens_ends sTokens) ((q_Tokens_count sTokens) : Int32).toNatClampNeg (q_Tokens_used sTokens)))
    else none
def f_Tokens_endAttribute (sTokens : STokens) : Option STokens :=
  if (q_Tokens_inAttribute sTokens) = 0 then
    some (u_Tokens_inAttribute sTokens 0)
  else
    if 400 ≤ (q_Tokens_count sTokens) then
      some (u_Tokens_inAttribute sTokens 0)
    else
      if 400 ≤ (q_Tokens_attributesUsed sTokens) then
        some (u_Tokens_inAttribute sTokens 0)
      else
        if ix (q_Tokens_attributesUsed sTokens) 400 then
        if ix (q_Tokens_count sTokens) 400 then
        if ix (q_Tokens_count sTokens) 400 then
        some (u_Tokens_inAttribute (u_Tokens_attributesUsed (u_Tokens_valueEnds (u_Tokens_attributeCounts sTokens (upd (q_Tokens_attributeCounts sTokens) ((q_Tokens_count sTokens) : Int32).toNatClampNeg (((q_Tokens_attributeCounts sTokens) ((q_Tokens_count sTokens) : Int32).toNatClampNeg) + 1))) (upd (q_Tokens_valueEnds sTokens) ((q_Tokens_attributesUsed sTokens) : Int32).toNatClampNeg (q_Tokens_used sTokens))) ((q_Tokens_attributesUsed sTokens) + 1)) 0)
        else none
        else none
        else none
def f_Tokens_isStop (sTokens : STokens) : Option Int32 :=
  if 400 ≤ (q_Tokens_count sTokens) then
    some 0
  else
    if ix (q_Tokens_count sTokens) 400 then
    if ((q_Tokens_kinds sTokens) ((q_Tokens_count sTokens) : Int32).toNatClampNeg) = 2 then
      some 1
    else
      some 0
    else none
def f_Tokens_hasAttributes (sTokens : STokens) : Option Int32 :=
  if 400 ≤ (q_Tokens_count sTokens) then
    some 0
  else
    if ix (q_Tokens_count sTokens) 400 then
    if ((q_Tokens_attributeCounts sTokens) ((q_Tokens_count sTokens) : Int32).toNatClampNeg) ≤ 0 then
      some 0
    else
      some 1
    else none
def f_Tokens_isMarked (sTokens : STokens) : Option Int32 :=
  if 400 ≤ (q_Tokens_count sTokens) then
    some 0
  else
    if ix (q_Tokens_count sTokens) 400 then
    if ((q_Tokens_marks sTokens) ((q_Tokens_count sTokens) : Int32).toNatClampNeg) = 1 then
      some 1
    else
      some 0
    else none
def f_Tokens_dropAttributes (sTokens : STokens) : Option STokens :=
  if 400 ≤ (q_Tokens_count sTokens) then
    some sTokens
  else
    if ix (q_Tokens_count sTokens) 400 then
    some (u_Tokens_attributeCounts sTokens (upd (q_Tokens_attributeCounts sTokens) ((q_Tokens_count sTokens) : Int32).toNatClampNeg 0))
    else none
def f_Tokens_setMark (a1 : Int32) (sTokens : STokens) : Option STokens :=
  if 400 ≤ (q_Tokens_count sTokens) then
    some sTokens
  else
    if ix (q_Tokens_count sTokens) 400 then
    some (u_Tokens_marks sTokens (upd (q_Tokens_marks sTokens) ((q_Tokens_count sTokens) : Int32).toNatClampNeg a1))
    else none
def f_Tokens_tell (sTokens : STokens) : STokens :=
  if 400 ≤ (q_Tokens_count sTokens) then
    sTokens
  else
    (u_Tokens_count sTokens ((q_Tokens_count sTokens) + 1))
def f_TagWays_tagDone (sSource : SSource) (sTokens : STokens) : Option (Nat × SSource × STokens) :=
  (f_Tokens_endAttribute sTokens).bind fun x1 =>
  (f_Tokens_isStop x1).bind fun x2 =>
  if x2 = 0 then
    some ((f_Source_then 0 sSource).1, (f_Source_then 0 sSource).2, (f_Tokens_tell x1))
  else
    (f_Tokens_hasAttributes x1).bind fun x3 =>
    if x3 = 0 then
      (f_Tokens_isMarked x1).bind fun x4 =>
      if x4 = 0 then
        (f_Tokens_dropAttributes x1).bind fun x5 =>
        (f_Tokens_setMark 0 x5).bind fun x6 =>
        some ((f_Source_then 0 sSource).1, (f_Source_then 0 sSource).2, (f_Tokens_tell x6))
      else
        (f_Source_wrong 15 sSource).bind fun x7 =>
        (f_Tokens_dropAttributes x1).bind fun x8 =>
        (f_Tokens_setMark 0 x8).bind fun x9 =>
        some ((f_Source_then 0 x7).1, (f_Source_then 0 x7).2, (f_Tokens_tell x9))
    else
      (f_Source_wrong 14 sSource).bind fun x10 =>
      (f_Tokens_isMarked x1).bind fun x11 =>
      if x11 = 0 then
        (f_Tokens_dropAttributes x1).bind fun x12 =>
        (f_Tokens_setMark 0 x12).bind fun x13 =>
        some ((f_Source_then 0 x10).1, (f_Source_then 0 x10).2, (f_Tokens_tell x13))
      else
        (f_Source_wrong 15 x10).bind fun x14 =>
        (f_Tokens_dropAttributes x1).bind fun x15 =>
        (f_Tokens_setMark 0 x15).bind fun x16 =>
        some ((f_Source_then 0 x14).1, (f_Source_then 0 x14).2, (f_Tokens_tell x16))
def f_TagWays_dropped (sSource : SSource) : Option (Nat × SSource) :=
  (f_Source_wrong 6 sSource).bind fun x1 =>
  some (29, x1)
def f_TagWays_leave (a1 : Int32) (sSource : SSource) (sTokens : STokens) : Option (Nat × SSource × STokens) :=
  if a1 = (-1) then
    (f_TagWays_dropped sSource).bind fun x1 =>
    some (x1.1, x1.2, sTokens)
  else
  if a1 = 47 then
    some ((f_Source_then 15 sSource).1, (f_Source_then 15 sSource).2, sTokens)
  else
  if a1 = 62 then
    (f_TagWays_tagDone sSource sTokens).bind fun x2 =>
    some (x2.1, x2.2.1, x2.2.2)
  else
  some ((f_Source_then 8 sSource).1, (f_Source_then 8 sSource).2, sTokens)
def f_Ways_addKnown (a1 : Int32) (sSource : SSource) (sTokens : STokens) : Option (SSource × STokens) :=
  if a1 = 0 then
    (f_Source_wrong 1 sSource).bind fun x2 =>
    (f_Tokens_add 65533 sTokens).bind fun x3 =>
    some (x2, x3)
  else
    (f_Tokens_add a1 sTokens).bind fun x1 =>
    some (sSource, x1)
def f_TagWays_name (a1 : Int32) (sSource : SSource) (sTokens : STokens) : Option (Nat × SSource × STokens) :=
  if (f_TagWays_endsName a1) = 0 then
    (f_Ways_addKnown (f_Mt_lowered a1) sSource sTokens).bind fun x1 =>
    some ((f_Source_then 7 x1.1).1, (f_Source_then 7 x1.1).2, x1.2)
  else
    (f_Tokens_endOwn sTokens).bind fun x2 =>
    (f_TagWays_leave a1 sSource x2).bind fun x3 =>
    some (x3.1, x3.2.1, x3.2.2)
def f_Tokens_beginAttribute (sTokens : STokens) : Option STokens :=
  (f_Tokens_endAttribute sTokens).bind fun x1 =>
  if 400 ≤ (q_Tokens_attributesUsed x1) then
    some (u_Tokens_inAttribute x1 1)
  else
    if ix (q_Tokens_attributesUsed x1) 400 then
    some (u_Tokens_inAttribute (u_Tokens_nameStarts x1 (upd (q_Tokens_nameStarts x1) ((q_Tokens_attributesUsed x1) : Int32).toNatClampNeg (q_Tokens_used x1))) 1)
    else none
def f_TagWays_before (a1 : Int32) (sSource : SSource) (sTokens : STokens) : Option (Nat × SSource × STokens) :=
  if (f_Mt_isBlank a1) = 0 then
    if (f_TagWays_endsName a1) = 0 then
      (f_Tokens_beginAttribute sTokens).bind fun x1 =>
      if a1 = 61 then
        (f_Source_wrong 7 sSource).bind fun x2 =>
        (f_Tokens_add a1 x1).bind fun x3 =>
        some ((f_Source_then 9 x2).1, (f_Source_then 9 x2).2, x3)
      else
        some (9, sSource, x1)
    else
      some (10, sSource, sTokens)
  else
    some ((f_Source_then 8 sSource).1, (f_Source_then 8 sSource).2, sTokens)
def f_Tokens_endAttributeName (sTokens : STokens) : Option STokens :=
  if 400 ≤ (q_Tokens_attributesUsed sTokens) then
    some sTokens
  else
    if ix (q_Tokens_attributesUsed sTokens) 400 then
    some (u_Tokens_valueStarts sTokens (upd (q_Tokens_valueStarts sTokens) ((q_Tokens_attributesUsed sTokens) : Int32).toNatClampNeg (q_Tokens_used sTokens)))
    else none
def f_Tokens_sameName_36 : Nat → Int32 → Int32 → Int32 → Int32 → STokens → Option Int32
  | 0, _, _, _, _, _ => none
  | n + 1, v1, v2, v3, v4, sTokens =>
    if v3 ≤ v4 then
      some 1
    else
      if ix v1 400 then
      if ix (((q_Tokens_nameStarts sTokens) (v1 : Int32).toNatClampNeg) + v4) 400 then
      if ix v2 400 then
      if ix (((q_Tokens_nameStarts sTokens) (v2 : Int32).toNatClampNeg) + v4) 400 then
      if ((q_Tokens_row sTokens) ((((q_Tokens_nameStarts sTokens) (v1 : Int32).toNatClampNeg) + v4) : Int32).toNatClampNeg) = ((q_Tokens_row sTokens) ((((q_Tokens_nameStarts sTokens) (v2 : Int32).toNatClampNeg) + v4) : Int32).toNatClampNeg) then
        f_Tokens_sameName_36 n v1 v2 v3 (v4 + 1) sTokens
      else
        some 0
      else none
      else none
      else none
      else none
def f_Tokens_sameName (a1 : Int32) (a2 : Int32) (sTokens : STokens) : Option Int32 :=
  if ix a1 400 then
  if ix a1 400 then
  if ix a2 400 then
  if ix a2 400 then
  if (((q_Tokens_valueStarts sTokens) (a1 : Int32).toNatClampNeg) - ((q_Tokens_nameStarts sTokens) (a1 : Int32).toNatClampNeg)) = (((q_Tokens_valueStarts sTokens) (a2 : Int32).toNatClampNeg) - ((q_Tokens_nameStarts sTokens) (a2 : Int32).toNatClampNeg)) then
    f_Tokens_sameName_36 FU a1 a2 (((q_Tokens_valueStarts sTokens) (a1 : Int32).toNatClampNeg) - ((q_Tokens_nameStarts sTokens) (a1 : Int32).toNatClampNeg)) 0 sTokens
  else
    some 0
  else none
  else none
  else none
  else none
def f_Tokens_stoodBefore_32 : Nat → Int32 → STokens → Option Int32
  | 0, _, _ => none
  | n + 1, v1, sTokens =>
    if (q_Tokens_attributesUsed sTokens) ≤ v1 then
      some 0
    else
      (f_Tokens_sameName v1 (q_Tokens_attributesUsed sTokens) sTokens).bind fun x1 =>
      if x1 = 0 then
        f_Tokens_stoodBefore_32 n (v1 + 1) sTokens
      else
        some 1
def f_Tokens_stoodBefore (sTokens : STokens) : Option Int32 :=
  if 400 ≤ (q_Tokens_count sTokens) then
    some 0
  else
    if (q_Tokens_attributesUsed sTokens) < 400 then
      if ix (q_Tokens_count sTokens) 400 then
      f_Tokens_stoodBefore_32 FU ((q_Tokens_firstAttributes sTokens) ((q_Tokens_count sTokens) : Int32).toNatClampNeg) sTokens
      else none
    else
      some 0
def f_Tokens_loseAttribute (sTokens : STokens) : STokens :=
  (u_Tokens_inAttribute sTokens 0)
def f_TagWays_leaveAttributeName (sSource : SSource) (sTokens : STokens) : Option (SSource × STokens) :=
  (f_Tokens_endAttributeName sTokens).bind fun x1 =>
  (f_Tokens_stoodBefore x1).bind fun x2 =>
  if x2 = 0 then
    some (sSource, x1)
  else
    (f_Source_wrong 9 sSource).bind fun x3 =>
    some (x3, (f_Tokens_loseAttribute x1))
def f_TagWays_attribute (a1 : Int32) (sSource : SSource) (sTokens : STokens) : Option (Nat × SSource × STokens) :=
  if (f_TagWays_endsName a1) = 0 then
    if a1 = 61 then
      (f_TagWays_leaveAttributeName sSource sTokens).bind fun x8 =>
      some ((f_Source_then 11 x8.1).1, (f_Source_then 11 x8.1).2, x8.2)
    else
      if a1 = 34 then
        (f_Source_wrong 8 sSource).bind fun x1 =>
        (f_Ways_addKnown (f_Mt_lowered a1) x1 sTokens).bind fun x2 =>
        some ((f_Source_then 9 x2.1).1, (f_Source_then 9 x2.1).2, x2.2)
      else
        if a1 = 39 then
          (f_Source_wrong 8 sSource).bind fun x3 =>
          (f_Ways_addKnown (f_Mt_lowered a1) x3 sTokens).bind fun x4 =>
          some ((f_Source_then 9 x4.1).1, (f_Source_then 9 x4.1).2, x4.2)
        else
          if a1 = 60 then
            (f_Source_wrong 8 sSource).bind fun x6 =>
            (f_Ways_addKnown (f_Mt_lowered a1) x6 sTokens).bind fun x7 =>
            some ((f_Source_then 9 x7.1).1, (f_Source_then 9 x7.1).2, x7.2)
          else
            (f_Ways_addKnown (f_Mt_lowered a1) sSource sTokens).bind fun x5 =>
            some ((f_Source_then 9 x5.1).1, (f_Source_then 9 x5.1).2, x5.2)
  else
    (f_TagWays_leaveAttributeName sSource sTokens).bind fun x9 =>
    some (10, x9.1, x9.2)
def f_TagWays_after (a1 : Int32) (sSource : SSource) (sTokens : STokens) : Option (Nat × SSource × STokens) :=
  if (f_Mt_isBlank a1) = 0 then
    if (f_TagWays_endsName a1) = 0 then
      if a1 = 61 then
        some ((f_Source_then 11 sSource).1, (f_Source_then 11 sSource).2, sTokens)
      else
        (f_Tokens_beginAttribute sTokens).bind fun x1 =>
        some (9, sSource, x1)
    else
      (f_TagWays_leave a1 sSource sTokens).bind fun x2 =>
      some (x2.1, x2.2.1, x2.2.2)
  else
    some ((f_Source_then 10 sSource).1, (f_Source_then 10 sSource).2, sTokens)
def f_TagWays_value (a1 : Int32) (sSource : SSource) (sTagWays : STagWays) (sTokens : STokens) : Option (Nat × SSource × STagWays × STokens) :=
  if (f_Mt_isBlank a1) = 0 then
    if a1 = 34 ∨ a1 = 39 then
      some ((f_Source_then 12 sSource).1, (f_Source_then 12 sSource).2, a1, sTokens)
    else
    if a1 = 62 then
      (f_Source_wrong 10 sSource).bind fun x1 =>
      (f_TagWays_tagDone x1 sTokens).bind fun x2 =>
      some (x2.1, x2.2.1, sTagWays, x2.2.2)
    else
    some (13, sSource, sTagWays, sTokens)
  else
    some ((f_Source_then 11 sSource).1, (f_Source_then 11 sSource).2, sTagWays, sTokens)
def f_TagWays_quoted (a1 : Int32) (sReferenceWays : SReferenceWays) (sSource : SSource) (sTagWays : STagWays) (sTokens : STokens) : Option (Nat × SReferenceWays × SSource × STokens) :=
  if a1 = sTagWays then
    some ((f_Source_then 14 sSource).1, sReferenceWays, (f_Source_then 14 sSource).2, sTokens)
  else
    if a1 = (-1) then
      (f_TagWays_dropped sSource).bind fun x1 =>
      some (x1.1, sReferenceWays, x1.2, sTokens)
    else
    if a1 = 38 then
      some ((f_ReferenceWays_open 12 sReferenceWays sSource).1, (f_ReferenceWays_open 12 sReferenceWays sSource).2.1, (f_ReferenceWays_open 12 sReferenceWays sSource).2.2, sTokens)
    else
    (f_Ways_addKnown a1 sSource sTokens).bind fun x2 =>
    some ((f_Source_then 12 x2.1).1, sReferenceWays, (f_Source_then 12 x2.1).2, x2.2)
def f_TagWays_unquoted (a1 : Int32) (sReferenceWays : SReferenceWays) (sSource : SSource) (sTokens : STokens) : Option (Nat × SReferenceWays × SSource × STokens) :=
  if (f_Mt_isBlank a1) = 0 then
    if a1 = (-1) then
      (f_TagWays_dropped sSource).bind fun x1 =>
      some (x1.1, sReferenceWays, x1.2, sTokens)
    else
    if a1 = 34 ∨ a1 = 39 ∨ a1 = 60 ∨ a1 = 61 ∨ a1 = 96 then
      (f_Source_wrong 11 sSource).bind fun x2 =>
      (f_Ways_addKnown a1 x2 sTokens).bind fun x3 =>
      some ((f_Source_then 13 x3.1).1, sReferenceWays, (f_Source_then 13 x3.1).2, x3.2)
    else
    if a1 = 38 then
      some ((f_ReferenceWays_open 13 sReferenceWays sSource).1, (f_ReferenceWays_open 13 sReferenceWays sSource).2.1, (f_ReferenceWays_open 13 sReferenceWays sSource).2.2, sTokens)
    else
    if a1 = 62 then
      (f_TagWays_tagDone sSource sTokens).bind fun x4 =>
      some (x4.1, sReferenceWays, x4.2.1, x4.2.2)
    else
    (f_Ways_addKnown a1 sSource sTokens).bind fun x5 =>
    some ((f_Source_then 13 x5.1).1, sReferenceWays, (f_Source_then 13 x5.1).2, x5.2)
  else
    some ((f_Source_then 8 sSource).1, sReferenceWays, (f_Source_then 8 sSource).2, sTokens)
def f_TagWays_behind (a1 : Int32) (sSource : SSource) (sTokens : STokens) : Option (Nat × SSource × STokens) :=
  if (f_TagWays_endsName a1) = 0 then
    (f_Source_wrong 12 sSource).bind fun x1 =>
    some (8, x1, sTokens)
  else
    (f_TagWays_leave a1 sSource sTokens).bind fun x2 =>
    some (x2.1, x2.2.1, x2.2.2)
def f_TagWays_self (a1 : Int32) (sSource : SSource) (sTokens : STokens) : Option (Nat × SSource × STokens) :=
  if a1 = (-1) then
    (f_TagWays_dropped sSource).bind fun x1 =>
    some (x1.1, x1.2, sTokens)
  else
  if a1 = 62 then
    (f_Tokens_setMark 1 sTokens).bind fun x2 =>
    (f_TagWays_tagDone sSource x2).bind fun x3 =>
    some (x3.1, x3.2.1, x3.2.2)
  else
  (f_Source_wrong 13 sSource).bind fun x4 =>
  some (8, x4, sTokens)
def f_Reader_doctypeComes_2 : Nat → Int32 → SSource → Option Int32
  | 0, _, _ => none
  | n + 1, v1, sSource =>
    if 7 ≤ v1 then
      some 1
    else
      (f_Source_character ((f_Source_place sSource) + v1) sSource).bind fun x1 =>
      if ix v1 (zs 0).length then
      if (f_Mt_lowered x1) = ((zs 0).getD (v1 : Int32).toNatClampNeg 0) then
        f_Reader_doctypeComes_2 n (v1 + 1) sSource
      else
        some 0
      else none
def f_Reader_doctypeComes (sSource : SSource) : Option Int32 :=
  f_Reader_doctypeComes_2 FU 0 sSource
def f_Reader_mark (a1 : Int32) (sSource : SSource) (sTokens : STokens) : Option (Nat × SSource × STokens) :=
  if a1 = 45 then
    (f_Source_character ((f_Source_place sSource) + 1) sSource).bind fun x4 =>
    if x4 = 45 then
      (f_Tokens_begin 3 sTokens).bind fun x8 =>
      some (18, (f_Source_skip 2 sSource), x8)
    else
      (f_Reader_doctypeComes sSource).bind fun x5 =>
      if x5 = 0 then
        (f_Source_wrong 16 sSource).bind fun x6 =>
        (f_Reader_bogus sTokens).bind fun x7 =>
        some (x7.1, x6, x7.2)
      else
        some (24, (f_Source_skip 7 sSource), sTokens)
  else
    (f_Reader_doctypeComes sSource).bind fun x1 =>
    if x1 = 0 then
      (f_Source_wrong 16 sSource).bind fun x2 =>
      (f_Reader_bogus sTokens).bind fun x3 =>
      some (x3.1, x2, x3.2)
    else
      some (24, (f_Source_skip 7 sSource), sTokens)
def f_Ways_done (sSource : SSource) (sTokens : STokens) : Option (Nat × SSource × STokens) :=
  (f_Tokens_endOwn sTokens).bind fun x1 =>
  some ((f_Source_then 0 sSource).1, (f_Source_then 0 sSource).2, (f_Tokens_tell x1))
def f_Ways_toldAtEnd (sTokens : STokens) : Option (Nat × STokens) :=
  (f_Tokens_endOwn sTokens).bind fun x1 =>
  some (29, (f_Tokens_tell x1))
def f_CommentWays_bogus (a1 : Int32) (sSource : SSource) (sTokens : STokens) : Option (Nat × SSource × STokens) :=
  if a1 = (-1) then
    (f_Ways_toldAtEnd sTokens).bind fun x1 =>
    some (x1.1, sSource, x1.2)
  else
  if a1 = 62 then
    (f_Ways_done sSource sTokens).bind fun x2 =>
    some (x2.1, x2.2.1, x2.2.2)
  else
  (f_Ways_addKnown a1 sSource sTokens).bind fun x3 =>
  some ((f_Source_then 17 x3.1).1, (f_Source_then 17 x3.1).2, x3.2)
def f_CommentWays_closedEarly (sSource : SSource) (sTokens : STokens) : Option (Nat × SSource × STokens) :=
  (f_Source_wrong 17 sSource).bind fun x1 =>
  (f_Ways_done x1 sTokens).bind fun x2 =>
  some (x2.1, x2.2.1, x2.2.2)
def f_CommentWays_start (a1 : Int32) (sCommentWays : SCommentWays) (sSource : SSource) (sTokens : STokens) : Option (Nat × SCommentWays × SSource × STokens) :=
  if a1 = 45 then
    some ((f_Source_then 19 sSource).1, (-1), (f_Source_then 19 sSource).2, sTokens)
  else
  if a1 = 62 then
    (f_CommentWays_closedEarly sSource sTokens).bind fun x1 =>
    some (x1.1, (-1), x1.2.1, x1.2.2)
  else
  some (20, (-1), sSource, sTokens)
def f_CommentWays_startDash (a1 : Int32) (sSource : SSource) (sTokens : STokens) : Option (Nat × SSource × STokens) :=
  if a1 = 62 then
    (f_CommentWays_closedEarly sSource sTokens).bind fun x1 =>
    some (x1.1, x1.2.1, x1.2.2)
  else
    some (21, sSource, sTokens)
def f_CommentWays_unfinished (sSource : SSource) (sTokens : STokens) : Option (Nat × SSource × STokens) :=
  (f_Source_wrong 18 sSource).bind fun x1 =>
  (f_Ways_toldAtEnd sTokens).bind fun x2 =>
  some (x2.1, x1, x2.2)
def f_CommentWays_lookForNested (a1 : Int32) (sCommentWays : SCommentWays) (sSource : SSource) : Option SCommentWays :=
  (f_Source_character (a1 + 1) sSource).bind fun x1 =>
  if x1 = 33 then
    (f_Source_character (a1 + 2) sSource).bind fun x3 =>
    if x3 = 45 then
      (f_Source_character (a1 + 3) sSource).bind fun x5 =>
      if x5 = 45 then
        (f_Source_character (a1 + 4) sSource).bind fun x7 =>
        if x7 = 62 then
          some sCommentWays
        else
          if x7 = (-1) then
            some sCommentWays
          else
            some (a1 + 4)
      else
        (f_Source_character (a1 + 4) sSource).bind fun x6 =>
        some sCommentWays
    else
      (f_Source_character (a1 + 4) sSource).bind fun x4 =>
      some sCommentWays
  else
    (f_Source_character (a1 + 4) sSource).bind fun x2 =>
    some sCommentWays
def f_CommentWays_inside (a1 : Int32) (sCommentWays : SCommentWays) (sSource : SSource) (sTokens : STokens) : Option (Nat × SCommentWays × SSource × STokens) :=
  if a1 = (-1) then
    (f_CommentWays_unfinished sSource sTokens).bind fun x1 =>
    some (x1.1, sCommentWays, x1.2.1, x1.2.2)
  else
  if a1 = 45 then
    some ((f_Source_then 21 sSource).1, sCommentWays, (f_Source_then 21 sSource).2, sTokens)
  else
  if a1 = 60 then
    (f_CommentWays_lookForNested (f_Source_place sSource) sCommentWays sSource).bind fun x2 =>
    (f_Ways_addKnown a1 sSource sTokens).bind fun x3 =>
    some ((f_Source_then 20 x3.1).1, x2, (f_Source_then 20 x3.1).2, x3.2)
  else
  (f_Ways_addKnown a1 sSource sTokens).bind fun x4 =>
  some ((f_Source_then 20 x4.1).1, sCommentWays, (f_Source_then 20 x4.1).2, x4.2)
def f_CommentWays_dash (a1 : Int32) (sSource : SSource) (sTokens : STokens) : Option (Nat × SSource × STokens) :=
  if a1 = (-1) then
    (f_CommentWays_unfinished sSource sTokens).bind fun x1 =>
    some (x1.1, x1.2.1, x1.2.2)
  else
  if a1 = 45 then
    some ((f_Source_then 22 sSource).1, (f_Source_then 22 sSource).2, sTokens)
  else
  (f_Tokens_add 45 sTokens).bind fun x2 =>
  some (20, sSource, x2)
def f_CommentWays_end (a1 : Int32) (sCommentWays : SCommentWays) (sSource : SSource) (sTokens : STokens) : Option (Nat × SSource × STokens) :=
  if (f_Source_place sSource) = sCommentWays then
    (f_Source_wrong 19 sSource).bind fun x6 =>
    if a1 = (-1) then
      (f_CommentWays_unfinished x6 sTokens).bind fun x7 =>
      some (x7.1, x7.2.1, x7.2.2)
    else
    if a1 = 33 then
      some ((f_Source_then 23 x6).1, (f_Source_then 23 x6).2, sTokens)
    else
    if a1 = 45 then
      (f_Tokens_add 45 sTokens).bind fun x8 =>
      some ((f_Source_then 22 x6).1, (f_Source_then 22 x6).2, x8)
    else
    if a1 = 62 then
      (f_Ways_done x6 sTokens).bind fun x9 =>
      some (x9.1, x9.2.1, x9.2.2)
    else
    (f_Tokens_add 45 sTokens).bind fun x10 =>
    (f_Tokens_add 45 x10).bind fun x11 =>
    some (20, x6, x11)
  else
    if a1 = (-1) then
      (f_CommentWays_unfinished sSource sTokens).bind fun x1 =>
      some (x1.1, x1.2.1, x1.2.2)
    else
    if a1 = 33 then
      some ((f_Source_then 23 sSource).1, (f_Source_then 23 sSource).2, sTokens)
    else
    if a1 = 45 then
      (f_Tokens_add 45 sTokens).bind fun x2 =>
      some ((f_Source_then 22 sSource).1, (f_Source_then 22 sSource).2, x2)
    else
    if a1 = 62 then
      (f_Ways_done sSource sTokens).bind fun x3 =>
      some (x3.1, x3.2.1, x3.2.2)
    else
    (f_Tokens_add 45 sTokens).bind fun x4 =>
    (f_Tokens_add 45 x4).bind fun x5 =>
    some (20, sSource, x5)
def f_CommentWays_bang (a1 : Int32) (sSource : SSource) (sTokens : STokens) : Option (Nat × SSource × STokens) :=
  if a1 = (-1) then
    (f_CommentWays_unfinished sSource sTokens).bind fun x1 =>
    some (x1.1, x1.2.1, x1.2.2)
  else
  if a1 = 62 then
    (f_Source_wrong 20 sSource).bind fun x2 =>
    (f_Ways_done x2 sTokens).bind fun x3 =>
    some (x3.1, x3.2.1, x3.2.2)
  else
  (f_Tokens_add 45 sTokens).bind fun x4 =>
  (f_Tokens_add 45 x4).bind fun x5 =>
  (f_Tokens_add 33 x5).bind fun x6 =>
  if a1 = 45 then
    some ((f_Source_then 21 sSource).1, (f_Source_then 21 sSource).2, x6)
  else
    some (20, sSource, x6)
def f_DoctypeWays_start (a1 : Int32) (sSource : SSource) : Option (Nat × SSource) :=
  if (f_Mt_isBlank a1) = 0 then
    if a1 = 62 then
      some (25, sSource)
    else
      if a1 = (-1) then
        some (25, sSource)
      else
        (f_Source_wrong 21 sSource).bind fun x1 =>
        some (25, x1)
  else
    some ((f_Source_then 25 sSource).1, (f_Source_then 25 sSource).2)
def f_DoctypeWays_oddAtEnd (sSource : SSource) (sTokens : STokens) : Option (Nat × SSource × STokens) :=
  (f_Source_wrong 23 sSource).bind fun x1 =>
  (f_Tokens_setMark 1 sTokens).bind fun x2 =>
  (f_Ways_toldAtEnd x2).bind fun x3 =>
  some (x3.1, x1, x3.2)
def f_DoctypeWays_before (a1 : Int32) (sSource : SSource) (sTokens : STokens) : Option (Nat × SSource × STokens) :=
  if (f_Mt_isBlank a1) = 0 then
    (f_Tokens_begin 4 sTokens).bind fun x1 =>
    if a1 = (-1) then
      (f_DoctypeWays_oddAtEnd sSource x1).bind fun x2 =>
      some (x2.1, x2.2.1, x2.2.2)
    else
    if a1 = 62 then
      (f_Source_wrong 22 sSource).bind fun x3 =>
      (f_Tokens_setMark 1 x1).bind fun x4 =>
      (f_Ways_done x3 x4).bind fun x5 =>
      some (x5.1, x5.2.1, x5.2.2)
    else
    some (26, sSource, x1)
  else
    some ((f_Source_then 25 sSource).1, (f_Source_then 25 sSource).2, sTokens)
def f_DoctypeWays_name (a1 : Int32) (sSource : SSource) (sTokens : STokens) : Option (Nat × SSource × STokens) :=
  if (f_Mt_isBlank a1) = 0 then
    if a1 = (-1) then
      (f_DoctypeWays_oddAtEnd sSource sTokens).bind fun x1 =>
      some (x1.1, x1.2.1, x1.2.2)
    else
    if a1 = 62 then
      (f_Ways_done sSource sTokens).bind fun x2 =>
      some (x2.1, x2.2.1, x2.2.2)
    else
    (f_Ways_addKnown (f_Mt_lowered a1) sSource sTokens).bind fun x3 =>
    some ((f_Source_then 26 x3.1).1, (f_Source_then 26 x3.1).2, x3.2)
  else
    some ((f_Source_then 27 sSource).1, (f_Source_then 27 sSource).2, sTokens)
def f_DoctypeWays_after (a1 : Int32) (sSource : SSource) (sTokens : STokens) : Option (Nat × SSource × STokens) :=
  if (f_Mt_isBlank a1) = 0 then
    if a1 = (-1) then
      (f_DoctypeWays_oddAtEnd sSource sTokens).bind fun x1 =>
      some (x1.1, x1.2.1, x1.2.2)
    else
    if a1 = 62 then
      (f_Ways_done sSource sTokens).bind fun x2 =>
      some (x2.1, x2.2.1, x2.2.2)
    else
    (f_Source_wrong 24 sSource).bind fun x3 =>
    (f_Tokens_setMark 1 sTokens).bind fun x4 =>
    some (28, x3, x4)
  else
    some ((f_Source_then 27 sSource).1, (f_Source_then 27 sSource).2, sTokens)
def f_DoctypeWays_odd (a1 : Int32) (sSource : SSource) (sTokens : STokens) : Option (Nat × SSource × STokens) :=
  if a1 = (-1) then
    (f_Ways_toldAtEnd sTokens).bind fun x1 =>
    some (x1.1, sSource, x1.2)
  else
  if a1 = 0 then
    (f_Source_wrong 1 sSource).bind fun x2 =>
    some ((f_Source_then 28 x2).1, (f_Source_then 28 x2).2, sTokens)
  else
  if a1 = 62 then
    (f_Ways_done sSource sTokens).bind fun x3 =>
    some (x3.1, x3.2.1, x3.2.2)
  else
  some ((f_Source_then 28 sSource).1, (f_Source_then 28 sSource).2, sTokens)
def f_Reader_follow (a1 : Nat) (a2 : Int32) (sCommentWays : SCommentWays) (sReferenceWays : SReferenceWays) (sSource : SSource) (sTagWays : STagWays) (sTokens : STokens) : Option (Nat × SCommentWays × SReferenceWays × SSource × STagWays × STokens) :=
  if a1 < 30 then
  if ix (nI a1) ta__SwitchMap_MarkupTokens_Way_len then
  if (ta__SwitchMap_MarkupTokens_Way ((nI a1) : Int32).toNatClampNeg) = 1 then
    (f_Reader_data a2 sReferenceWays sSource sTokens).bind fun x1 =>
    some (x1.1, sCommentWays, x1.2.1, x1.2.2.1, sTagWays, x1.2.2.2)
  else
  if (ta__SwitchMap_MarkupTokens_Way ((nI a1) : Int32).toNatClampNeg) = 2 then
    (f_Reader_tag a2 sSource sTokens).bind fun x2 =>
    some (x2.1, sCommentWays, sReferenceWays, x2.2.1, sTagWays, x2.2.2)
  else
  if (ta__SwitchMap_MarkupTokens_Way ((nI a1) : Int32).toNatClampNeg) = 3 then
    (f_Reader_endTag a2 sSource sTokens).bind fun x3 =>
    some (x3.1, sCommentWays, sReferenceWays, x3.2.1, sTagWays, x3.2.2)
  else
  if (ta__SwitchMap_MarkupTokens_Way ((nI a1) : Int32).toNatClampNeg) = 4 then
    (f_ReferenceWays_start a2 sReferenceWays sTokens).bind fun x4 =>
    some (x4.1, sCommentWays, sReferenceWays, sSource, sTagWays, x4.2)
  else
  if (ta__SwitchMap_MarkupTokens_Way ((nI a1) : Int32).toNatClampNeg) = 5 then
    (f_ReferenceWays_named sReferenceWays sSource sTokens).bind fun x5 =>
    some (x5.1, sCommentWays, sReferenceWays, x5.2.1, sTagWays, x5.2.2)
  else
  if (ta__SwitchMap_MarkupTokens_Way ((nI a1) : Int32).toNatClampNeg) = 6 then
    (f_ReferenceWays_unnamed sReferenceWays sSource sTokens).bind fun x6 =>
    some (x6.1, sCommentWays, sReferenceWays, x6.2.1, sTagWays, x6.2.2)
  else
  if (ta__SwitchMap_MarkupTokens_Way ((nI a1) : Int32).toNatClampNeg) = 7 then
    (f_ReferenceWays_numbered sReferenceWays sSource sTokens).bind fun x7 =>
    some (x7.1, sCommentWays, sReferenceWays, x7.2.1, sTagWays, x7.2.2)
  else
  if (ta__SwitchMap_MarkupTokens_Way ((nI a1) : Int32).toNatClampNeg) = 8 then
    (f_TagWays_name a2 sSource sTokens).bind fun x8 =>
    some (x8.1, sCommentWays, sReferenceWays, x8.2.1, sTagWays, x8.2.2)
  else
  if (ta__SwitchMap_MarkupTokens_Way ((nI a1) : Int32).toNatClampNeg) = 9 then
    (f_TagWays_before a2 sSource sTokens).bind fun x9 =>
    some (x9.1, sCommentWays, sReferenceWays, x9.2.1, sTagWays, x9.2.2)
  else
  if (ta__SwitchMap_MarkupTokens_Way ((nI a1) : Int32).toNatClampNeg) = 10 then
    (f_TagWays_attribute a2 sSource sTokens).bind fun x10 =>
    some (x10.1, sCommentWays, sReferenceWays, x10.2.1, sTagWays, x10.2.2)
  else
  if (ta__SwitchMap_MarkupTokens_Way ((nI a1) : Int32).toNatClampNeg) = 11 then
    (f_TagWays_after a2 sSource sTokens).bind fun x11 =>
    some (x11.1, sCommentWays, sReferenceWays, x11.2.1, sTagWays, x11.2.2)
  else
  if (ta__SwitchMap_MarkupTokens_Way ((nI a1) : Int32).toNatClampNeg) = 12 then
    (f_TagWays_value a2 sSource sTagWays sTokens).bind fun x12 =>
    some (x12.1, sCommentWays, sReferenceWays, x12.2.1, x12.2.2.1, x12.2.2.2)
  else
  if (ta__SwitchMap_MarkupTokens_Way ((nI a1) : Int32).toNatClampNeg) = 13 then
    (f_TagWays_quoted a2 sReferenceWays sSource sTagWays sTokens).bind fun x13 =>
    some (x13.1, sCommentWays, x13.2.1, x13.2.2.1, sTagWays, x13.2.2.2)
  else
  if (ta__SwitchMap_MarkupTokens_Way ((nI a1) : Int32).toNatClampNeg) = 14 then
    (f_TagWays_unquoted a2 sReferenceWays sSource sTokens).bind fun x14 =>
    some (x14.1, sCommentWays, x14.2.1, x14.2.2.1, sTagWays, x14.2.2.2)
  else
  if (ta__SwitchMap_MarkupTokens_Way ((nI a1) : Int32).toNatClampNeg) = 15 then
    (f_TagWays_behind a2 sSource sTokens).bind fun x15 =>
    some (x15.1, sCommentWays, sReferenceWays, x15.2.1, sTagWays, x15.2.2)
  else
  if (ta__SwitchMap_MarkupTokens_Way ((nI a1) : Int32).toNatClampNeg) = 16 then
    (f_TagWays_self a2 sSource sTokens).bind fun x16 =>
    some (x16.1, sCommentWays, sReferenceWays, x16.2.1, sTagWays, x16.2.2)
  else
  if (ta__SwitchMap_MarkupTokens_Way ((nI a1) : Int32).toNatClampNeg) = 17 then
    (f_Reader_mark a2 sSource sTokens).bind fun x17 =>
    some (x17.1, sCommentWays, sReferenceWays, x17.2.1, sTagWays, x17.2.2)
  else
  if (ta__SwitchMap_MarkupTokens_Way ((nI a1) : Int32).toNatClampNeg) = 18 then
    (f_CommentWays_bogus a2 sSource sTokens).bind fun x18 =>
    some (x18.1, sCommentWays, sReferenceWays, x18.2.1, sTagWays, x18.2.2)
  else
  if (ta__SwitchMap_MarkupTokens_Way ((nI a1) : Int32).toNatClampNeg) = 19 then
    (f_CommentWays_start a2 sCommentWays sSource sTokens).bind fun x19 =>
    some (x19.1, x19.2.1, sReferenceWays, x19.2.2.1, sTagWays, x19.2.2.2)
  else
  if (ta__SwitchMap_MarkupTokens_Way ((nI a1) : Int32).toNatClampNeg) = 20 then
    (f_CommentWays_startDash a2 sSource sTokens).bind fun x20 =>
    some (x20.1, sCommentWays, sReferenceWays, x20.2.1, sTagWays, x20.2.2)
  else
  if (ta__SwitchMap_MarkupTokens_Way ((nI a1) : Int32).toNatClampNeg) = 21 then
    (f_CommentWays_inside a2 sCommentWays sSource sTokens).bind fun x21 =>
    some (x21.1, x21.2.1, sReferenceWays, x21.2.2.1, sTagWays, x21.2.2.2)
  else
  if (ta__SwitchMap_MarkupTokens_Way ((nI a1) : Int32).toNatClampNeg) = 22 then
    (f_CommentWays_dash a2 sSource sTokens).bind fun x22 =>
    some (x22.1, sCommentWays, sReferenceWays, x22.2.1, sTagWays, x22.2.2)
  else
  if (ta__SwitchMap_MarkupTokens_Way ((nI a1) : Int32).toNatClampNeg) = 23 then
    (f_CommentWays_end a2 sCommentWays sSource sTokens).bind fun x23 =>
    some (x23.1, sCommentWays, sReferenceWays, x23.2.1, sTagWays, x23.2.2)
  else
  if (ta__SwitchMap_MarkupTokens_Way ((nI a1) : Int32).toNatClampNeg) = 24 then
    (f_CommentWays_bang a2 sSource sTokens).bind fun x24 =>
    some (x24.1, sCommentWays, sReferenceWays, x24.2.1, sTagWays, x24.2.2)
  else
  if (ta__SwitchMap_MarkupTokens_Way ((nI a1) : Int32).toNatClampNeg) = 25 then
    (f_DoctypeWays_start a2 sSource).bind fun x25 =>
    some (x25.1, sCommentWays, sReferenceWays, x25.2, sTagWays, sTokens)
  else
  if (ta__SwitchMap_MarkupTokens_Way ((nI a1) : Int32).toNatClampNeg) = 26 then
    (f_DoctypeWays_before a2 sSource sTokens).bind fun x26 =>
    some (x26.1, sCommentWays, sReferenceWays, x26.2.1, sTagWays, x26.2.2)
  else
  if (ta__SwitchMap_MarkupTokens_Way ((nI a1) : Int32).toNatClampNeg) = 27 then
    (f_DoctypeWays_name a2 sSource sTokens).bind fun x27 =>
    some (x27.1, sCommentWays, sReferenceWays, x27.2.1, sTagWays, x27.2.2)
  else
  if (ta__SwitchMap_MarkupTokens_Way ((nI a1) : Int32).toNatClampNeg) = 28 then
    (f_DoctypeWays_after a2 sSource sTokens).bind fun x28 =>
    some (x28.1, sCommentWays, sReferenceWays, x28.2.1, sTagWays, x28.2.2)
  else
  if (ta__SwitchMap_MarkupTokens_Way ((nI a1) : Int32).toNatClampNeg) = 29 then
    (f_DoctypeWays_odd a2 sSource sTokens).bind fun x29 =>
    some (x29.1, sCommentWays, sReferenceWays, x29.2.1, sTagWays, x29.2.2)
  else
  some (29, sCommentWays, sReferenceWays, sSource, sTagWays, sTokens)
  else none
  else none
def f_Reader_cut_6 : Nat → Nat → Int32 → SCommentWays → SReferenceWays → SSource → STagWays → STokens → Option (SCommentWays × SReferenceWays × SSource × STagWays × STokens)
  | 0, _, _, _, _, _, _, _ => none
  | n + 1, v1, v2, sCommentWays, sReferenceWays, sSource, sTagWays, sTokens =>
    if 100000 ≤ v2 then
      (f_Tokens_endText sTokens).bind fun x1 =>
      some (sCommentWays, sReferenceWays, sSource, sTagWays, x1)
    else
      if v1 < 30 then
      if v1 = 29 then
        (f_Tokens_endText sTokens).bind fun x2 =>
        some (sCommentWays, sReferenceWays, sSource, sTagWays, x2)
      else
        (f_Source_next sSource).bind fun x3 =>
        (f_Reader_follow v1 x3 sCommentWays sReferenceWays sSource sTagWays sTokens).bind fun x4 =>
        f_Reader_cut_6 n x4.1 (v2 + 1) x4.2.1 x4.2.2.1 x4.2.2.2.1 x4.2.2.2.2.1 x4.2.2.2.2.2
      else none
def f_Reader_cut (sCommentWays : SCommentWays) (sReferenceWays : SReferenceWays) (sSource : SSource) (sTagWays : STagWays) (sTokens : STokens) : Option (SCommentWays × SReferenceWays × SSource × STagWays × STokens) :=
  f_Reader_cut_6 FU 0 0 sCommentWays sReferenceWays sSource sTagWays sTokens
def f_Tokens_count (sTokens : STokens) : Int32 :=
  (q_Tokens_count sTokens)
def f_Mt_run (sMt : SMt) (sCommentWays : SCommentWays) (sReferenceWays : SReferenceWays) (sSource : SSource) (sTagWays : STagWays) (sTokens : STokens) : Option (Int32 × SCommentWays × SReferenceWays × SSource × STagWays × STokens) :=
  (f_Source_open (q_Mt_textLength sMt) sMt sSource).bind fun x1 =>
  (f_Reader_cut sCommentWays sReferenceWays x1 sTagWays (f_Tokens_forget sTokens)).bind fun x2 =>
  some ((f_Tokens_count x2.2.2.2.2), x2.1, x2.2.1, x2.2.2.1, x2.2.2.2.1, x2.2.2.2.2)
def f_Tokens_has (a1 : Int32) (sTokens : STokens) : Int32 :=
  if a1 < 0 then
    0
  else
    if (q_Tokens_count sTokens) ≤ a1 then
      0
    else
      1
def f_Tokens_kind (a1 : Int32) (sTokens : STokens) : Option Int32 :=
  if ix a1 400 then
  some ((q_Tokens_kinds sTokens) (a1 : Int32).toNatClampNeg)
  else none
def f_Tokens_length (a1 : Int32) (sTokens : STokens) : Option Int32 :=
  if ix a1 400 then
  if ix a1 400 then
  some (((q_Tokens_ends sTokens) (a1 : Int32).toNatClampNeg) - ((q_Tokens_starts sTokens) (a1 : Int32).toNatClampNeg))
  else none
  else none
def f_Tokens_mark (a1 : Int32) (sTokens : STokens) : Option Int32 :=
  if ix a1 400 then
  some ((q_Tokens_marks sTokens) (a1 : Int32).toNatClampNeg)
  else none
def f_Tokens_attributes (a1 : Int32) (sTokens : STokens) : Option Int32 :=
  if ix a1 400 then
  some ((q_Tokens_attributeCounts sTokens) (a1 : Int32).toNatClampNeg)
  else none
def f_Mt_token (a1 : Int32) (a2 : Int32) (sTokens : STokens) : Option Int32 :=
  if (f_Tokens_has a1 sTokens) = 0 then
    some (-1)
  else
    if a2 = 0 then
      (f_Tokens_kind a1 sTokens).bind fun x1 =>
      some x1
    else
    if a2 = 1 then
      (f_Tokens_length a1 sTokens).bind fun x2 =>
      some x2
    else
    if a2 = 2 then
      (f_Tokens_mark a1 sTokens).bind fun x3 =>
      some x3
    else
    if a2 = 3 then
      (f_Tokens_attributes a1 sTokens).bind fun x4 =>
      some x4
    else
    some (-1)
def f_Tokens_character (a1 : Int32) (a2 : Int32) (sTokens : STokens) : Option Int32 :=
  if ix a1 400 then
  if ix (((q_Tokens_starts sTokens) (a1 : Int32).toNatClampNeg) + a2) 400 then
  some ((q_Tokens_row sTokens) ((((q_Tokens_starts sTokens) (a1 : Int32).toNatClampNeg) + a2) : Int32).toNatClampNeg)
  else none
  else none
def f_Mt_at (a1 : Int32) (a2 : Int32) (sTokens : STokens) : Option Int32 :=
  if (f_Tokens_has a1 sTokens) = 0 then
    some (-1)
  else
    if a2 < 0 then
      some (-1)
    else
      (f_Tokens_length a1 sTokens).bind fun x1 =>
      if a2 < x1 then
        (f_Tokens_character a1 a2 sTokens).bind fun x2 =>
        some x2
      else
        some (-1)
def f_Tokens_hasAttribute (a1 : Int32) (a2 : Int32) (sTokens : STokens) : Option Int32 :=
  if (f_Tokens_has a1 sTokens) = 0 then
    some 0
  else
    if a2 < 0 then
      some 0
    else
      if ix a1 400 then
      if ((q_Tokens_attributeCounts sTokens) (a1 : Int32).toNatClampNeg) ≤ a2 then
        some 0
      else
        some 1
      else none
def f_Tokens_nameLength (a1 : Int32) (a2 : Int32) (sTokens : STokens) : Option Int32 :=
  if ix a1 400 then
  if ix (((q_Tokens_firstAttributes sTokens) (a1 : Int32).toNatClampNeg) + a2) 400 then
  if ix (((q_Tokens_firstAttributes sTokens) (a1 : Int32).toNatClampNeg) + a2) 400 then
  some (((q_Tokens_valueStarts sTokens) ((((q_Tokens_firstAttributes sTokens) (a1 : Int32).toNatClampNeg) + a2) : Int32).toNatClampNeg) - ((q_Tokens_nameStarts sTokens) ((((q_Tokens_firstAttributes sTokens) (a1 : Int32).toNatClampNeg) + a2) : Int32).toNatClampNeg))
  else none
  else none
  else none
def f_Tokens_valueLength (a1 : Int32) (a2 : Int32) (sTokens : STokens) : Option Int32 :=
  if ix a1 400 then
  if ix (((q_Tokens_firstAttributes sTokens) (a1 : Int32).toNatClampNeg) + a2) 400 then
  if ix (((q_Tokens_firstAttributes sTokens) (a1 : Int32).toNatClampNeg) + a2) 400 then
  some (((q_Tokens_valueEnds sTokens) ((((q_Tokens_firstAttributes sTokens) (a1 : Int32).toNatClampNeg) + a2) : Int32).toNatClampNeg) - ((q_Tokens_valueStarts sTokens) ((((q_Tokens_firstAttributes sTokens) (a1 : Int32).toNatClampNeg) + a2) : Int32).toNatClampNeg))
  else none
  else none
  else none
def f_Mt_size (a1 : Int32) (a2 : Int32) (a3 : Int32) (sTokens : STokens) : Option Int32 :=
  (f_Tokens_hasAttribute a1 a2 sTokens).bind fun x1 =>
  if x1 = 0 then
    some (-1)
  else
    if a3 = 0 then
      (f_Tokens_nameLength a1 a2 sTokens).bind fun x2 =>
      some x2
    else
    if a3 = 1 then
      (f_Tokens_valueLength a1 a2 sTokens).bind fun x3 =>
      some x3
    else
    some (-1)
def f_Tokens_nameCharacter (a1 : Int32) (a2 : Int32) (a3 : Int32) (sTokens : STokens) : Option Int32 :=
  if ix a1 400 then
  if ix (((q_Tokens_firstAttributes sTokens) (a1 : Int32).toNatClampNeg) + a2) 400 then
  if ix (((q_Tokens_nameStarts sTokens) ((((q_Tokens_firstAttributes sTokens) (a1 : Int32).toNatClampNeg) + a2) : Int32).toNatClampNeg) + a3) 400 then
  some ((q_Tokens_row sTokens) ((((q_Tokens_nameStarts sTokens) ((((q_Tokens_firstAttributes sTokens) (a1 : Int32).toNatClampNeg) + a2) : Int32).toNatClampNeg) + a3) : Int32).toNatClampNeg)
  else none
  else none
  else none
def f_Tokens_valueCharacter (a1 : Int32) (a2 : Int32) (a3 : Int32) (sTokens : STokens) : Option Int32 :=
  if ix a1 400 then
  if ix (((q_Tokens_firstAttributes sTokens) (a1 : Int32).toNatClampNeg) + a2) 400 then
  if ix (((q_Tokens_valueStarts sTokens) ((((q_Tokens_firstAttributes sTokens) (a1 : Int32).toNatClampNeg) + a2) : Int32).toNatClampNeg) + a3) 400 then
  some ((q_Tokens_row sTokens) ((((q_Tokens_valueStarts sTokens) ((((q_Tokens_firstAttributes sTokens) (a1 : Int32).toNatClampNeg) + a2) : Int32).toNatClampNeg) + a3) : Int32).toNatClampNeg)
  else none
  else none
  else none
def f_Mt_part (a1 : Int32) (a2 : Int32) (a3 : Int32) (a4 : Int32) (sTokens : STokens) : Option Int32 :=
  (f_Mt_size a1 a2 a3 sTokens).bind fun x1 =>
  if a4 < 0 then
    some (-1)
  else
    if a4 < x1 then
      if a3 = 0 then
        (f_Tokens_nameCharacter a1 a2 a4 sTokens).bind fun x3 =>
        some x3
      else
        (f_Tokens_valueCharacter a1 a2 a4 sTokens).bind fun x2 =>
        some x2
    else
      some (-1)
def f_Source_faultCount (sSource : SSource) : Int32 :=
  (q_Source_faultCount sSource)
def f_Mt_faults (sSource : SSource) : Int32 :=
  (f_Source_faultCount sSource)
def f_Source_faultCode (a1 : Int32) (sSource : SSource) : Option Int32 :=
  if ix a1 1203 then
  some ((q_Source_codes sSource) (a1 : Int32).toNatClampNeg)
  else none
def f_Source_faultPlace (a1 : Int32) (sSource : SSource) : Option Int32 :=
  if ix a1 1203 then
  some ((q_Source_places sSource) (a1 : Int32).toNatClampNeg)
  else none
def f_Mt_fault (a1 : Int32) (a2 : Int32) (sSource : SSource) : Option Int32 :=
  if a1 < 0 then
    some (-1)
  else
    if a1 < (f_Source_faultCount sSource) then
      if a2 = 0 then
        (f_Source_faultCode a1 sSource).bind fun x1 =>
        some x1
      else
      if a2 = 1 then
        (f_Source_faultPlace a1 sSource).bind fun x2 =>
        some x2
      else
      some (-1)
    else
      some (-1)
def f_Out_putByte (a1 : Int32) (sOut : SOut) : Option SOut :=
  if 3200 ≤ (q_Out_length sOut) then
    some sOut
  else
    if ix (q_Out_length sOut) 3200 then
    some (u_Out_length (u_Out_bytes sOut (upd (q_Out_bytes sOut) ((q_Out_length sOut) : Int32).toNatClampNeg (vp_nar .byte (a1 : Int32).toInt8.toInt32))) ((q_Out_length sOut) + 1))
    else none
def f_Out_putString_2 : Nat → Nat → Int32 → SOut → Option SOut
  | 0, _, _, _ => none
  | n + 1, v1, v2, sOut =>
    if v1 < 42 then
    if (nI (zs v1).length) ≤ v2 then
      some sOut
    else
      if v1 < 42 then
      if ix v2 (zs v1).length then
      (f_Out_putByte ((zs v1).getD (v2 : Int32).toNatClampNeg 0) sOut).bind fun x1 =>
      f_Out_putString_2 n v1 (v2 + 1) x1
      else none
      else none
    else none
def f_Out_putString (a1 : Nat) (sOut : SOut) : Option SOut :=
  f_Out_putString_2 FU a1 0 sOut
def f_Out_putDigits_3 : Nat → Int32 → Int32 → SOut → Option SOut
  | 0, _, _, _ => none
  | n + 1, v1, v2, sOut =>
    if v2 ≤ 0 then
      some sOut
    else
      if v1 < v2 then
        f_Out_putDigits_3 n v1 (v2 / 10) sOut
      else
        if ¬ v2 = 0 then
        (f_Out_putByte (48 + ((v1 / v2) - (v1 / v2) / 10 * 10)) sOut).bind fun x1 =>
        f_Out_putDigits_3 n v1 (v2 / 10) x1
        else none
def f_Out_putDigits (a1 : Int32) (sOut : SOut) : Option SOut :=
  f_Out_putDigits_3 FU a1 1000000 sOut
def f_Out_putReferable (a1 : Int32) (sOut : SOut) : Option SOut :=
  if a1 = 38 then
    (f_Out_putString 2 sOut).bind fun x8 =>
    some x8
  else
    if a1 = 13 then
      (f_Out_putString 3 sOut).bind fun x1 =>
      (f_Out_putDigits a1 x1).bind fun x2 =>
      (f_Out_putByte 59 x2).bind fun x3 =>
      some x3
    else
      if a1 ≤ 255 then
        (f_Out_putByte a1 sOut).bind fun x4 =>
        some x4
      else
        (f_Out_putString 3 sOut).bind fun x5 =>
        (f_Out_putDigits a1 x5).bind fun x6 =>
        (f_Out_putByte 59 x6).bind fun x7 =>
        some x7
def f_Out_putText_2 : Nat → Int32 → Int32 → SOut → STokens → Option SOut
  | 0, _, _, _, _ => none
  | n + 1, v1, v2, sOut, sTokens =>
    (f_Tokens_length v1 sTokens).bind fun x1 =>
    if x1 ≤ v2 then
      some sOut
    else
      (f_Tokens_character v1 v2 sTokens).bind fun x2 =>
      if x2 = 60 then
        (f_Out_putString 1 sOut).bind fun x4 =>
        f_Out_putText_2 n v1 (v2 + 1) x4 sTokens
      else
        (f_Out_putReferable x2 sOut).bind fun x3 =>
        f_Out_putText_2 n v1 (v2 + 1) x3 sTokens
def f_Out_putText (a1 : Int32) (sOut : SOut) (sTokens : STokens) : Option SOut :=
  f_Out_putText_2 FU a1 0 sOut sTokens
def f_Out_putPlain (a1 : Int32) (sOut : SOut) : Option SOut :=
  if a1 = 65533 then
    (f_Out_putByte 0 sOut).bind fun x2 =>
    some x2
  else
    (f_Out_putByte a1 sOut).bind fun x1 =>
    some x1
def f_Out_putOwn_2 : Nat → Int32 → Int32 → SOut → STokens → Option SOut
  | 0, _, _, _, _ => none
  | n + 1, v1, v2, sOut, sTokens =>
    (f_Tokens_length v1 sTokens).bind fun x1 =>
    if x1 ≤ v2 then
      some sOut
    else
      (f_Tokens_character v1 v2 sTokens).bind fun x2 =>
      (f_Out_putPlain x2 sOut).bind fun x3 =>
      f_Out_putOwn_2 n v1 (v2 + 1) x3 sTokens
def f_Out_putOwn (a1 : Int32) (sOut : SOut) (sTokens : STokens) : Option SOut :=
  f_Out_putOwn_2 FU a1 0 sOut sTokens
def f_Out_putComment (a1 : Int32) (sOut : SOut) (sTokens : STokens) : Option SOut :=
  (f_Out_putString 4 sOut).bind fun x1 =>
  (f_Out_putOwn a1 x1 sTokens).bind fun x2 =>
  (f_Out_putString 5 x2).bind fun x3 =>
  some x3
def f_Out_putDoctype (a1 : Int32) (sOut : SOut) (sTokens : STokens) : Option SOut :=
  (f_Out_putString 6 sOut).bind fun x1 =>
  (f_Tokens_length a1 sTokens).bind fun x2 =>
  if x2 ≤ 0 then
    (f_Out_putByte 62 x1).bind fun x3 =>
    some x3
  else
    (f_Out_putByte 32 x1).bind fun x4 =>
    (f_Out_putOwn a1 x4 sTokens).bind fun x5 =>
    (f_Tokens_mark a1 sTokens).bind fun x6 =>
    if x6 = 1 then
      (f_Out_putString 7 x5).bind fun x8 =>
      (f_Out_putByte 62 x8).bind fun x9 =>
      some x9
    else
      (f_Out_putByte 62 x5).bind fun x7 =>
      some x7
def f_Out_putAttribute_49 : Nat → Int32 → Int32 → Int32 → SOut → STokens → Option SOut
  | 0, _, _, _, _, _ => none
  | n + 1, v1, v2, v3, sOut, sTokens =>
    (f_Tokens_valueLength v1 v2 sTokens).bind fun x6 =>
    if x6 ≤ v3 then
      (f_Out_putByte 34 sOut).bind fun x7 =>
      some x7
    else
      (f_Tokens_valueCharacter v1 v2 v3 sTokens).bind fun x8 =>
      if x8 = 34 then
        (f_Out_putString 9 sOut).bind fun x10 =>
        f_Out_putAttribute_49 n v1 v2 (v3 + 1) x10 sTokens
      else
        (f_Out_putReferable x8 sOut).bind fun x9 =>
        f_Out_putAttribute_49 n v1 v2 (v3 + 1) x9 sTokens
def f_Out_putAttribute_8 : Nat → Int32 → Int32 → Int32 → SOut → STokens → Option SOut
  | 0, _, _, _, _, _ => none
  | n + 1, v1, v2, v3, sOut, sTokens =>
    (f_Tokens_nameLength v1 v2 sTokens).bind fun x2 =>
    if x2 ≤ v3 then
      (f_Out_putString 8 sOut).bind fun x3 =>
      f_Out_putAttribute_49 FU v1 v2 0 x3 sTokens
    else
      (f_Tokens_nameCharacter v1 v2 v3 sTokens).bind fun x4 =>
      (f_Out_putPlain x4 sOut).bind fun x5 =>
      f_Out_putAttribute_8 n v1 v2 (v3 + 1) x5 sTokens
def f_Out_putAttribute (a1 : Int32) (a2 : Int32) (sOut : SOut) (sTokens : STokens) : Option SOut :=
  (f_Out_putByte 32 sOut).bind fun x1 =>
  f_Out_putAttribute_8 FU a1 a2 0 x1 sTokens
def f_Out_putTag_31 : Nat → Int32 → Int32 → SOut → STokens → Option SOut
  | 0, _, _, _, _ => none
  | n + 1, v1, v2, sOut, sTokens =>
    (f_Tokens_attributes v1 sTokens).bind fun x6 =>
    if x6 ≤ v2 then
      (f_Tokens_mark v1 sTokens).bind fun x7 =>
      if x7 = 1 then
        (f_Out_putByte 47 sOut).bind fun x9 =>
        (f_Out_putByte 62 x9).bind fun x10 =>
        some x10
      else
        (f_Out_putByte 62 sOut).bind fun x8 =>
        some x8
    else
      (f_Out_putAttribute v1 v2 sOut sTokens).bind fun x11 =>
      f_Out_putTag_31 n v1 (v2 + 1) x11 sTokens
def f_Out_putTag (a1 : Int32) (sOut : SOut) (sTokens : STokens) : Option SOut :=
  (f_Out_putByte 60 sOut).bind fun x1 =>
  (f_Tokens_kind a1 sTokens).bind fun x2 =>
  if x2 = 2 then
    (f_Out_putByte 47 x1).bind fun x4 =>
    (f_Out_putOwn a1 x4 sTokens).bind fun x5 =>
    f_Out_putTag_31 FU a1 0 x5 sTokens
  else
    (f_Out_putOwn a1 x1 sTokens).bind fun x3 =>
    f_Out_putTag_31 FU a1 0 x3 sTokens
def f_Out_putAll_7 : Nat → Int32 → SOut → STokens → Option SOut
  | 0, _, _, _ => none
  | n + 1, v1, sOut, sTokens =>
    if (f_Tokens_count sTokens) ≤ v1 then
      some sOut
    else
      (f_Tokens_kind v1 sTokens).bind fun x1 =>
      if x1 = 0 then
        (f_Out_putText v1 sOut sTokens).bind fun x2 =>
        f_Out_putAll_7 n (v1 + 1) x2 sTokens
      else
      if x1 = 3 then
        (f_Out_putComment v1 sOut sTokens).bind fun x3 =>
        f_Out_putAll_7 n (v1 + 1) x3 sTokens
      else
      if x1 = 4 then
        (f_Out_putDoctype v1 sOut sTokens).bind fun x4 =>
        f_Out_putAll_7 n (v1 + 1) x4 sTokens
      else
      (f_Out_putTag v1 sOut sTokens).bind fun x5 =>
      f_Out_putAll_7 n (v1 + 1) x5 sTokens
def f_Out_putAll (sOut : SOut) (sTokens : STokens) : Option SOut :=
  f_Out_putAll_7 FU 0 (u_Out_length sOut 0) sTokens
def f_Mt_write (sOut : SOut) (sTokens : STokens) : Option (Int32 × SOut) :=
  (f_Out_putAll sOut sTokens).bind fun x1 =>
  some ((f_Out_length x1), x1)
def f_Out_byteAt (a1 : Int64) (sOut : SOut) : Option Int64 :=
  if (lg_cmp a1 0) < 0 then
    some 0
  else
    if 0 ≤ (lg_cmp a1 ((q_Out_length sOut) : Int32).toInt64) then
      some 0
    else
      if ix ((a1 : Int64).toInt32) 3200 then
      some ((((q_Out_bytes sOut) ((a1 : Int64).toInt32 : Int32).toNatClampNeg) : Int32).toInt64 &&& 255)
      else none
def f_Mt_word_13 : Nat → Int32 → Int64 → Int64 → Int32 → SOut → Option Int64
  | 0, _, _, _, _, _ => none
  | n + 1, v1, v2, v4, v6, sOut =>
    if 8 ≤ v6 then
      some v4
    else
      (f_Out_byteAt (v2 + (v6 : Int32).toInt64) sOut).bind fun x1 =>
      f_Mt_word_13 n v1 v2 (v4 ||| (x1 <<< (((8 * v6) : Int32).toInt64 &&& 63))) (v6 + 1) sOut
def f_Mt_word (a1 : Int32) (sOut : SOut) : Option Int64 :=
  f_Mt_word_13 FU a1 (8 * (a1 : Int32).toInt64) 0 0 sOut
