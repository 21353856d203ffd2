def f_Mo_feed_31 : Nat → Int64 → Int32 → Int32 → SMo → Option (Int32 × SMo)
  | 0, _, _, _, _ => none
  | n + 1, v1, v3, v4, sMo =>
    if v3 ≤ v4 then
      some ((q_Mo_size sMo), sMo)
    else
      if ix (q_Mo_size sMo) 400 then
      f_Mo_feed_31 n v1 v3 (v4 + 1) (u_Mo_size_bytes sMo ((q_Mo_size sMo) + 1) (upd (q_Mo_bytes sMo) ((q_Mo_size sMo) : Int32).toNatClampNeg (vp_nar .byte (((v1 >>> (((8 * v4) : Int32).toInt64 &&& 63)) : Int64).toInt32 : Int32).toInt8.toInt32)))
      else none
def f_Mo_feed (a1 : Int64) (a2 : Int32) (sMo : SMo) : Option (Int32 × SMo) :=
  if a2 < 1 then
    some ((-1), sMo)
  else
    if a2 ≤ 8 then
      if ((q_Mo_size sMo) + a2) ≤ 400 then
        f_Mo_feed_31 FU a1 a2 0 sMo
      else
        some ((-2), sMo)
    else
      some ((-1), sMo)
def f_Mo_clear (sMo : SMo) : Int32 × SMo :=
  ((q_Mo_size sMo), (u_Mo_size sMo 0))
def f_Mo_again_15 : Nat → Int32 → SMo → Option (Int32 × SMo)
  | 0, _, _ => none
  | n + 1, v1, sMo =>
    if (q_Mo_outSize sMo) ≤ v1 then
      some ((q_Mo_outSize sMo), (u_Mo_size sMo (q_Mo_outSize sMo)))
    else
      if ix v1 4000 then
      if ix v1 400 then
      f_Mo_again_15 n (v1 + 1) (u_Mo_bytes sMo (upd (q_Mo_bytes sMo) (v1 : Int32).toNatClampNeg (vp_nar .byte ((q_Mo_out sMo) (v1 : Int32).toNatClampNeg))))
      else none
      else none
def f_Mo_again (sMo : SMo) : Option (Int32 × SMo) :=
  if (q_Mo_outSize sMo) ≤ 400 then
    f_Mo_again_15 FU 0 sMo
  else
    some ((-2), sMo)
def f_Mo_layDown_7 : Nat → Int32 → SMo → Option SMo
  | 0, _, _ => none
  | n + 1, v1, sMo =>
    if (q_Mo_size sMo) ≤ v1 then
      some sMo
    else
      if ix v1 400 then
      if (((q_Mo_bytes sMo) (v1 : Int32).toNatClampNeg) &&& 255) = 13 then
        if (q_Mo_size sMo) ≤ (v1 + 1) then
          if (((q_Mo_bytes sMo) (v1 : Int32).toNatClampNeg) &&& 255) = 13 then
            if ix (q_Mo_n sMo) 400 then
            f_Mo_layDown_7 n (v1 + 1) (u_Mo_n_text sMo ((q_Mo_n sMo) + 1) (upd (q_Mo_text sMo) ((q_Mo_n sMo) : Int32).toNatClampNeg 10))
            else none
          else
            if ix (q_Mo_n sMo) 400 then
            f_Mo_layDown_7 n (v1 + 1) (u_Mo_n_text sMo ((q_Mo_n sMo) + 1) (upd (q_Mo_text sMo) ((q_Mo_n sMo) : Int32).toNatClampNeg (((q_Mo_bytes sMo) (v1 : Int32).toNatClampNeg) &&& 255)))
            else none
        else
          if ix (v1 + 1) 400 then
          if ((q_Mo_bytes sMo) ((v1 + 1) : Int32).toNatClampNeg) = 10 then
            f_Mo_layDown_7 n (v1 + 1) sMo
          else
            if (((q_Mo_bytes sMo) (v1 : Int32).toNatClampNeg) &&& 255) = 13 then
              if ix (q_Mo_n sMo) 400 then
              f_Mo_layDown_7 n (v1 + 1) (u_Mo_n_text sMo ((q_Mo_n sMo) + 1) (upd (q_Mo_text sMo) ((q_Mo_n sMo) : Int32).toNatClampNeg 10))
              else none
            else
              if ix (q_Mo_n sMo) 400 then
              f_Mo_layDown_7 n (v1 + 1) (u_Mo_n_text sMo ((q_Mo_n sMo) + 1) (upd (q_Mo_text sMo) ((q_Mo_n sMo) : Int32).toNatClampNeg (((q_Mo_bytes sMo) (v1 : Int32).toNatClampNeg) &&& 255)))
              else none
          else none
      else
        if (((q_Mo_bytes sMo) (v1 : Int32).toNatClampNeg) &&& 255) = 13 then
          if ix (q_Mo_n sMo) 400 then
          f_Mo_layDown_7 n (v1 + 1) (u_Mo_n_text sMo ((q_Mo_n sMo) + 1) (upd (q_Mo_text sMo) ((q_Mo_n sMo) : Int32).toNatClampNeg 10))
          else none
        else
          if ix (q_Mo_n sMo) 400 then
          f_Mo_layDown_7 n (v1 + 1) (u_Mo_n_text sMo ((q_Mo_n sMo) + 1) (upd (q_Mo_text sMo) ((q_Mo_n sMo) : Int32).toNatClampNeg (((q_Mo_bytes sMo) (v1 : Int32).toNatClampNeg) &&& 255)))
          else none
      else none
def f_Mo_layDown (sMo : SMo) : Option SMo :=
  f_Mo_layDown_7 FU 0 (u_Mo_n sMo 0)
def f_Mo_charAt (a1 : Int32) (sMo : SMo) : Option Int32 :=
  if (q_Mo_n sMo) ≤ a1 then
    some (-1)
  else
    if ix a1 400 then
    some ((q_Mo_text sMo) (a1 : Int32).toNatClampNeg)
    else none
def f_Mo_isBlank (a1 : Int32) : Int32 :=
  if a1 = 10 then
    1
  else
    if a1 = 9 then
      1
    else
      if a1 = 12 then
        1
      else
        if a1 = 32 then
          1
        else
          0
def f_Mo_isGreat (a1 : Int32) : Int32 :=
  if a1 < 65 then
    0
  else
    if 90 < a1 then
      0
    else
      1
def f_Mo_isLetter (a1 : Int32) : Int32 :=
  if (f_Mo_isGreat a1) = 0 then
    if a1 < 97 then
      0
    else
      if 122 < a1 then
        0
      else
        1
  else
    1
def f_Mo_isDigit (a1 : Int32) : Int32 :=
  if a1 < 48 then
    0
  else
    if 57 < a1 then
      0
    else
      1
def f_Mo_lowered (a1 : Int32) : Int32 :=
  if (f_Mo_isGreat a1) = 0 then
    a1
  else
    (a1 + 32)
def f_Mo_skipBlanks_0 : Nat → SMo → Option SMo
  | 0, _ => none
  | n + 1, sMo =>
    (f_Mo_charAt (q_Mo_p sMo) sMo).bind fun x1 =>
    if (f_Mo_isBlank x1) = 0 then
      some sMo
    else
      f_Mo_skipBlanks_0 n (u_Mo_p sMo ((q_Mo_p sMo) + 1))
def f_Mo_skipBlanks (sMo : SMo) : Option SMo :=
  f_Mo_skipBlanks_0 FU sMo
def f_Mo_wrong (a1 : Int32) (a2 : Int32) (sMo : SMo) : Option SMo :=
  if ix (q_Mo_faultCount sMo) 1200 then
  if ix (q_Mo_faultCount sMo) 1200 then
  some (u_Mo_faultCount_codes_places sMo ((q_Mo_faultCount sMo) + 1) (upd (q_Mo_codes sMo) ((q_Mo_faultCount sMo) : Int32).toNatClampNeg a1) (upd (q_Mo_places sMo) ((q_Mo_faultCount sMo) : Int32).toNatClampNeg a2))
  else none
  else none
def f_Mo_keep (a1 : Int32) (sMo : SMo) : Option SMo :=
  if ix (q_Mo_rowSize sMo) 810 then
  some (u_Mo_rowSize_row sMo ((q_Mo_rowSize sMo) + 1) (upd (q_Mo_row sMo) ((q_Mo_rowSize sMo) : Int32).toNatClampNeg a1))
  else none
def f_Mo_known (sMo : SMo) : Option (Int32 × SMo) :=
  (f_Mo_charAt (q_Mo_p sMo) sMo).bind fun x1 =>
  if x1 = 0 then
    (f_Mo_wrong 1 (q_Mo_p sMo) sMo).bind fun x2 =>
    some (65533, (u_Mo_p x2 ((q_Mo_p x2) + 1)))
  else
    some (x1, (u_Mo_p sMo ((q_Mo_p sMo) + 1)))
def f_Mo_toText (a1 : Int32) (sMo : SMo) : Option SMo :=
  if (q_Mo_textSize sMo) = 0 then
    (f_Mo_keep a1 (u_Mo_textAt sMo (q_Mo_rowSize sMo))).bind fun x2 =>
    some (u_Mo_textSize x2 ((q_Mo_textSize x2) + 1))
  else
    (f_Mo_keep a1 sMo).bind fun x1 =>
    some (u_Mo_textSize x1 ((q_Mo_textSize x1) + 1))
def f_Mo_begin0 (a1 : Int32) (a2 : Int32) (sMo : SMo) : Option SMo :=
  if ix (q_Mo_tokens sMo) 402 then
  if ix (q_Mo_tokens sMo) 402 then
  if ix (q_Mo_tokens sMo) 402 then
  if ix (q_Mo_tokens sMo) 402 then
  if ix (q_Mo_tokens sMo) 402 then
  if ix (q_Mo_tokens sMo) 402 then
  some (u_Mo_kinds_firsts_sizes_marks_attributes_manyOf sMo (upd (q_Mo_kinds sMo) ((q_Mo_tokens sMo) : Int32).toNatClampNeg a1) (upd (q_Mo_firsts sMo) ((q_Mo_tokens sMo) : Int32).toNatClampNeg a2) (upd (q_Mo_sizes sMo) ((q_Mo_tokens sMo) : Int32).toNatClampNeg 0) (upd (q_Mo_marks sMo) ((q_Mo_tokens sMo) : Int32).toNatClampNeg (vp_nar .boolean 0)) (upd (q_Mo_attributes sMo) ((q_Mo_tokens sMo) : Int32).toNatClampNeg (q_Mo_attributeCount sMo)) (upd (q_Mo_manyOf sMo) ((q_Mo_tokens sMo) : Int32).toNatClampNeg 0))
  else none
  else none
  else none
  else none
  else none
  else none
def f_Mo_begin (a1 : Int32) (sMo : SMo) : Option SMo :=
  if (q_Mo_textSize sMo) ≤ 0 then
    (f_Mo_begin0 a1 (q_Mo_rowSize sMo) sMo).bind fun x1 =>
    some x1
  else
    (f_Mo_begin0 0 (q_Mo_textAt sMo) (u_Mo_textSize sMo 0)).bind fun x2 =>
    if ix (q_Mo_tokens x2) 402 then
    (f_Mo_begin0 a1 (q_Mo_rowSize x2) (u_Mo_tokens_sizes x2 ((q_Mo_tokens x2) + 1) (upd (q_Mo_sizes x2) ((q_Mo_tokens x2) : Int32).toNatClampNeg (q_Mo_textSize sMo)))).bind fun x3 =>
    some x3
    else none
def f_Mo_digitOf (a1 : Int32) : Int32 :=
  if (f_Mo_isDigit a1) = 0 then
    if a1 < 65 then
      if a1 < 97 then
        99
      else
        if 102 < a1 then
          99
        else
          (a1 - 87)
    else
      if 70 < a1 then
        if a1 < 97 then
          99
        else
          if 102 < a1 then
            99
          else
            (a1 - 87)
      else
        (a1 - 55)
  else
    (a1 - 48)
def f_Mo_give (a1 : Int32) (a2 : Int32) (sMo : SMo) : Option SMo :=
  if a2 = 0 then
    (f_Mo_toText a1 sMo).bind fun x1 =>
    some x1
  else
    (f_Mo_keep a1 sMo).bind fun x2 =>
    some x2
def f_Mo_giveAll_2 : Nat → Int32 → Int32 → Int32 → SMo → Option SMo
  | 0, _, _, _, _ => none
  | n + 1, v1, v2, v3, sMo =>
    if (q_Mo_p sMo) ≤ v3 then
      some sMo
    else
      (f_Mo_charAt v3 sMo).bind fun x1 =>
      (f_Mo_give x1 v2 sMo).bind fun x2 =>
      f_Mo_giveAll_2 n v1 v2 (v3 + 1) x2
def f_Mo_giveAll (a1 : Int32) (a2 : Int32) (sMo : SMo) : Option SMo :=
  f_Mo_giveAll_2 FU a1 a2 a1 sMo
def f_Mo_told_133 (v1 : Int32) (sMo : SMo) : Option (Int32 × SMo) :=
  (f_Mo_wrong 32 (q_Mo_p sMo) sMo).bind fun x6 =>
  if v1 < 128 then
    some (v1, x6)
  else
    if 159 < v1 then
      some (v1, x6)
    else
      if ix (v1 - 128) 32 then
      if ((q_Mo_turned x6) ((v1 - 128) : Int32).toNatClampNeg) ≤ 0 then
        some (v1, x6)
      else
        some (((q_Mo_turned x6) ((v1 - 128) : Int32).toNatClampNeg), x6)
      else none
def f_Mo_told_114 (v1 : Int32) (sMo : SMo) : Option (Int32 × SMo) :=
  if v1 = 13 then
    f_Mo_told_133 v1 sMo
  else
    if 32 ≤ v1 then
      some (v1, sMo)
    else
      if (f_Mo_isBlank v1) = 0 then
        f_Mo_told_133 v1 sMo
      else
        some (v1, sMo)
def f_Mo_told_78 (v1 : Int32) (sMo : SMo) : Option (Int32 × SMo) :=
  if (v1 - v1 / 65536 * 65536) < 65534 then
    if v1 < 127 then
      f_Mo_told_114 v1 sMo
    else
      if v1 ≤ 159 then
        f_Mo_told_133 v1 sMo
      else
        f_Mo_told_114 v1 sMo
  else
    (f_Mo_wrong 31 (q_Mo_p sMo) sMo).bind fun x5 =>
    some (v1, x5)
def f_Mo_told_64 (v1 : Int32) (sMo : SMo) : Option (Int32 × SMo) :=
  if v1 < 64976 then
    f_Mo_told_78 v1 sMo
  else
    if v1 ≤ 65007 then
      (f_Mo_wrong 31 (q_Mo_p sMo) sMo).bind fun x4 =>
      some (v1, x4)
    else
      f_Mo_told_78 v1 sMo
def f_Mo_told (a1 : Int32) (sMo : SMo) : Option (Int32 × SMo) :=
  if a1 = 0 then
    (f_Mo_wrong 28 (q_Mo_p sMo) sMo).bind fun x3 =>
    some (65533, x3)
  else
    if a1 ≤ 1114111 then
      if a1 < 55296 then
        f_Mo_told_64 a1 sMo
      else
        if 57343 < a1 then
          f_Mo_told_64 a1 sMo
        else
          (f_Mo_wrong 30 (q_Mo_p sMo) sMo).bind fun x1 =>
          some (65533, x1)
    else
      (f_Mo_wrong 29 (q_Mo_p sMo) sMo).bind fun x2 =>
      some (65533, x2)
def f_Mo_number_63 : Nat → Int32 → Int32 → Int32 → Int32 → Int32 → SMo → Option SMo
  | 0, _, _, _, _, _, _ => none
  | n + 1, v1, v2, v3, v4, v5, sMo =>
    (f_Mo_charAt (q_Mo_p sMo) sMo).bind fun x3 =>
    if v3 ≤ (f_Mo_digitOf x3) then
      if v5 = 0 then
        (f_Mo_wrong 27 (q_Mo_p sMo) sMo).bind fun x10 =>
        (f_Mo_giveAll v1 v2 x10).bind fun x11 =>
        some x11
      else
        (f_Mo_charAt (q_Mo_p sMo) sMo).bind fun x4 =>
        if x4 = 59 then
          (f_Mo_told v4 (u_Mo_p sMo ((q_Mo_p sMo) + 1))).bind fun x8 =>
          (f_Mo_give x8.1 v2 x8.2).bind fun x9 =>
          some x9
        else
          (f_Mo_wrong 25 (q_Mo_p sMo) sMo).bind fun x5 =>
          (f_Mo_told v4 x5).bind fun x6 =>
          (f_Mo_give x6.1 v2 x6.2).bind fun x7 =>
          some x7
    else
      if v4 ≤ 1114111 then
        (f_Mo_charAt (q_Mo_p sMo) sMo).bind fun x12 =>
        f_Mo_number_63 n v1 v2 v3 ((v3 * v4) + (f_Mo_digitOf x12)) (v5 + 1) (u_Mo_p sMo ((q_Mo_p sMo) + 1))
      else
        f_Mo_number_63 n v1 v2 v3 v4 (v5 + 1) (u_Mo_p sMo ((q_Mo_p sMo) + 1))
def f_Mo_number (a1 : Int32) (a2 : Int32) (sMo : SMo) : Option SMo :=
  (f_Mo_charAt (q_Mo_p sMo) sMo).bind fun x1 =>
  if x1 = 120 then
    f_Mo_number_63 FU a1 a2 16 0 0 (u_Mo_p sMo ((q_Mo_p sMo) + 1))
  else
    (f_Mo_charAt (q_Mo_p sMo) sMo).bind fun x2 =>
    if x2 = 88 then
      f_Mo_number_63 FU a1 a2 16 0 0 (u_Mo_p sMo ((q_Mo_p sMo) + 1))
    else
      f_Mo_number_63 FU a1 a2 10 0 0 (u_Mo_p sMo (q_Mo_p sMo))
def f_Mo_longest_27 (k4 : Int32 → Int32 → Int32 → SMo → Option (Int32 × SMo)) : Nat → Int32 → Int32 → Int32 → Int32 → Int32 → Int64 → SMo → Option (Int32 × SMo)
  | 0, _, _, _, _, _, _, _ => none
  | n + 1, v1, v2, v3, v4, v5, v6, sMo =>
    if (lg_cmp v6 0) = 0 then
      if v5 = 0 then
        k4 v1 v2 (v3 + 1) sMo
      else
        if v4 ≤ v2 then
          k4 v1 v2 (v3 + 1) sMo
        else
          k4 v1 v4 (v3 + 1) (u_Mo_which sMo v3)
    else
      if v5 = 0 then
        f_Mo_longest_27 k4 n v1 v2 v3 (v4 + 1) 0 (((v6 : Int64).toUInt64 >>> ((8 : Int32).toInt64.toUInt64 &&& Int64.toUInt64 63)).toInt64) sMo
      else
        (f_Mo_charAt (v1 + v4) sMo).bind fun x1 =>
        if (lg_cmp (x1 : Int32).toInt64 (v6 &&& 255)) = 0 then
          f_Mo_longest_27 k4 n v1 v2 v3 (v4 + 1) 1 (((v6 : Int64).toUInt64 >>> ((8 : Int32).toInt64.toUInt64 &&& Int64.toUInt64 63)).toInt64) sMo
        else
          f_Mo_longest_27 k4 n v1 v2 v3 (v4 + 1) 0 (((v6 : Int64).toUInt64 >>> ((8 : Int32).toInt64.toUInt64 &&& Int64.toUInt64 63)).toInt64) sMo
def f_Mo_longest_4 : Nat → Int32 → Int32 → Int32 → SMo → Option (Int32 × SMo)
  | 0, _, _, _, _ => none
  | n + 1, v1, v2, v3, sMo =>
    if 53 ≤ v3 then
      some (v2, sMo)
    else
      if ix v3 53 then
      f_Mo_longest_27 (fun v1 v2 v3 sMo => f_Mo_longest_4 n v1 v2 v3 sMo) FU v1 v2 v3 0 1 ((q_Mo_names sMo) (v3 : Int32).toNatClampNeg) sMo
      else none
def f_Mo_longest (a1 : Int32) (sMo : SMo) : Option (Int32 × SMo) :=
  f_Mo_longest_4 FU a1 0 0 sMo
def f_Mo_named_13 : Nat → Int32 → Int32 → Int32 → SMo → Option SMo
  | 0, _, _, _, _ => none
  | n + 1, v1, v2, v3, sMo =>
    (f_Mo_charAt (q_Mo_p sMo) sMo).bind fun x12 =>
    if (f_Mo_isLetter x12) = 0 then
      (f_Mo_charAt (q_Mo_p sMo) sMo).bind fun x13 =>
      if (f_Mo_isDigit x13) = 0 then
        (f_Mo_giveAll v1 v2 sMo).bind fun x14 =>
        (f_Mo_charAt (q_Mo_p x14) x14).bind fun x15 =>
        if x15 = 59 then
          (f_Mo_wrong 26 (q_Mo_p x14) x14).bind fun x16 =>
          some x16
        else
          some x14
      else
        f_Mo_named_13 n v1 v2 v3 (u_Mo_p sMo ((q_Mo_p sMo) + 1))
    else
      f_Mo_named_13 n v1 v2 v3 (u_Mo_p sMo ((q_Mo_p sMo) + 1))
def f_Mo_named (a1 : Int32) (a2 : Int32) (sMo : SMo) : Option SMo :=
  (f_Mo_longest (q_Mo_p sMo) sMo).bind fun x1 =>
  if x1.1 = 0 then
    f_Mo_named_13 FU a1 a2 x1.1 x1.2
  else
    (f_Mo_charAt ((q_Mo_p x1.2) + x1.1) (u_Mo_p x1.2 ((q_Mo_p x1.2) + x1.1))).bind fun x2 =>
    (f_Mo_charAt (((q_Mo_p x1.2) + x1.1) - 1) (u_Mo_p x1.2 ((q_Mo_p x1.2) + x1.1))).bind fun x3 =>
    if x3 = 59 then
      if ix (q_Mo_which x1.2) 53 then
      (f_Mo_give ((q_Mo_gives x1.2) ((q_Mo_which x1.2) : Int32).toNatClampNeg) a2 (u_Mo_p x1.2 ((q_Mo_p x1.2) + x1.1))).bind fun x4 =>
      some x4
      else none
    else
      if a2 = 0 then
        (f_Mo_wrong 25 ((q_Mo_p x1.2) + x1.1) (u_Mo_p x1.2 ((q_Mo_p x1.2) + x1.1))).bind fun x5 =>
        if ix (q_Mo_which x5) 53 then
        (f_Mo_give ((q_Mo_gives x5) ((q_Mo_which x5) : Int32).toNatClampNeg) a2 x5).bind fun x6 =>
        some x6
        else none
      else
        if (f_Mo_isLetter x2) = 0 then
          if (f_Mo_isDigit x2) = 0 then
            if x2 = 61 then
              (f_Mo_giveAll a1 1 (u_Mo_p x1.2 ((q_Mo_p x1.2) + x1.1))).bind fun x11 =>
              some x11
            else
              (f_Mo_wrong 25 ((q_Mo_p x1.2) + x1.1) (u_Mo_p x1.2 ((q_Mo_p x1.2) + x1.1))).bind fun x9 =>
              if ix (q_Mo_which x9) 53 then
              (f_Mo_give ((q_Mo_gives x9) ((q_Mo_which x9) : Int32).toNatClampNeg) a2 x9).bind fun x10 =>
              some x10
              else none
          else
            (f_Mo_giveAll a1 1 (u_Mo_p x1.2 ((q_Mo_p x1.2) + x1.1))).bind fun x8 =>
            some x8
        else
          (f_Mo_giveAll a1 1 (u_Mo_p x1.2 ((q_Mo_p x1.2) + x1.1))).bind fun x7 =>
          some x7
def f_Mo_reference (a1 : Int32) (sMo : SMo) : Option SMo :=
  (f_Mo_charAt ((q_Mo_p sMo) + 1) (u_Mo_p sMo ((q_Mo_p sMo) + 1))).bind fun x1 =>
  if x1 = 35 then
    (f_Mo_number (q_Mo_p sMo) a1 (u_Mo_p sMo (((q_Mo_p sMo) + 1) + 1))).bind fun x5 =>
    some x5
  else
    if (f_Mo_isLetter x1) = 0 then
      if (f_Mo_isDigit x1) = 0 then
        (f_Mo_giveAll (q_Mo_p sMo) a1 (u_Mo_p sMo ((q_Mo_p sMo) + 1))).bind fun x3 =>
        some x3
      else
        (f_Mo_named (q_Mo_p sMo) a1 (u_Mo_p sMo ((q_Mo_p sMo) + 1))).bind fun x4 =>
        some x4
    else
      (f_Mo_named (q_Mo_p sMo) a1 (u_Mo_p sMo ((q_Mo_p sMo) + 1))).bind fun x2 =>
      some x2
def f_Mo_tell (sMo : SMo) : Option SMo :=
  if ix (q_Mo_tokens sMo) 402 then
  if ix (q_Mo_tokens sMo) 402 then
  some (u_Mo_tokens_sizes sMo ((q_Mo_tokens sMo) + 1) (upd (q_Mo_sizes sMo) ((q_Mo_tokens sMo) : Int32).toNatClampNeg ((q_Mo_rowSize sMo) - ((q_Mo_firsts sMo) ((q_Mo_tokens sMo) : Int32).toNatClampNeg))))
  else none
  else none
def f_Mo_commentEnd_4 : Nat → Int32 → Int32 → Int32 → SMo → Option Int32
  | 0, _, _, _, _ => none
  | n + 1, v1, v2, v3, sMo =>
    if (q_Mo_n sMo) ≤ v2 then
      some v2
    else
      if v3 = 0 then
        (f_Mo_charAt v2 sMo).bind fun x1 =>
        if x1 = 45 then
          (f_Mo_charAt (v2 + 1) sMo).bind fun x2 =>
          if x2 = 45 then
            (f_Mo_charAt (v2 + 2) sMo).bind fun x3 =>
            if x3 = 62 then
              f_Mo_commentEnd_4 n v1 v2 1 sMo
            else
              (f_Mo_charAt (v2 + 2) sMo).bind fun x4 =>
              if x4 = 33 then
                (f_Mo_charAt (v2 + 3) sMo).bind fun x5 =>
                if x5 = 62 then
                  f_Mo_commentEnd_4 n v1 v2 1 sMo
                else
                  f_Mo_commentEnd_4 n v1 (v2 + 1) 0 sMo
              else
                f_Mo_commentEnd_4 n v1 (v2 + 1) 0 sMo
          else
            f_Mo_commentEnd_4 n v1 (v2 + 1) 0 sMo
        else
          f_Mo_commentEnd_4 n v1 (v2 + 1) 0 sMo
      else
        some v2
def f_Mo_commentEnd (a1 : Int32) (sMo : SMo) : Option Int32 :=
  f_Mo_commentEnd_4 FU a1 a1 0 sMo
def f_Mo_comment_462 (k348 : Int32 → Int32 → Int32 → Int32 → Int32 → Int32 → SMo → Option SMo) (v1 : Int32) (v2 : Int32) (v3 : Int32) (v4 : Int32) (v5 : Int32) (v6 : Int32) (v7 : Int32) (sMo : SMo) : Option SMo :=
  if v4 ≤ v6 then
    k348 v1 v2 v3 v4 v5 (v6 + 1) sMo
  else
    (f_Mo_charAt v6 sMo).bind fun x41 =>
    if x41 = 0 then
      (f_Mo_keep 65533 sMo).bind fun x44 =>
      k348 v1 v2 v3 v4 v5 (v6 + 1) x44
    else
      (f_Mo_charAt v6 sMo).bind fun x42 =>
      (f_Mo_keep x42 sMo).bind fun x43 =>
      k348 v1 v2 v3 v4 v5 (v6 + 1) x43
def f_Mo_comment_446 (k348 : Int32 → Int32 → Int32 → Int32 → Int32 → Int32 → SMo → Option SMo) (v1 : Int32) (v2 : Int32) (v3 : Int32) (v4 : Int32) (v5 : Int32) (v6 : Int32) (v7 : Int32) (sMo : SMo) : Option SMo :=
  (f_Mo_charAt v6 sMo).bind fun x39 =>
  if x39 = 0 then
    (f_Mo_wrong 1 v6 sMo).bind fun x40 =>
    f_Mo_comment_462 k348 v1 v2 v3 v4 v5 v6 v7 x40
  else
    f_Mo_comment_462 k348 v1 v2 v3 v4 v5 v6 v7 sMo
def f_Mo_comment_419 (k348 : Int32 → Int32 → Int32 → Int32 → Int32 → Int32 → SMo → Option SMo) (v1 : Int32) (v2 : Int32) (v3 : Int32) (v4 : Int32) (v5 : Int32) (v6 : Int32) (sMo : SMo) : Option SMo :=
  f_Mo_comment_446 k348 v1 v2 v3 v4 v5 v6 0 sMo
def f_Mo_comment_348 : Nat → Int32 → Int32 → Int32 → Int32 → Int32 → Int32 → SMo → Option SMo
  | 0, _, _, _, _, _, _, _ => none
  | n + 1, v1, v2, v3, v4, v5, v6, sMo =>
    if v5 ≤ v6 then
      if v3 = (q_Mo_n sMo) then
        (f_Mo_wrong 18 (q_Mo_n sMo) sMo).bind fun x31 =>
        (f_Mo_tell (u_Mo_p_ended x31 (v5 + 1) 1)).bind fun x32 =>
        some x32
      else
        if v5 = (v3 + 3) then
          (f_Mo_wrong 20 v5 sMo).bind fun x29 =>
          (f_Mo_tell (u_Mo_p x29 (v5 + 1))).bind fun x30 =>
          some x30
        else
          (f_Mo_tell (u_Mo_p sMo (v5 + 1))).bind fun x28 =>
          some x28
    else
      if (v6 - 4) < v1 then
        f_Mo_comment_419 (fun v1 v2 v3 v4 v5 v6 sMo => f_Mo_comment_348 n v1 v2 v3 v4 v5 v6 sMo) v1 v2 v3 v4 v5 v6 sMo
      else
        (f_Mo_charAt (v6 - 4) sMo).bind fun x33 =>
        if x33 = 60 then
          (f_Mo_charAt (v6 - 3) sMo).bind fun x34 =>
          if x34 = 33 then
            (f_Mo_charAt (v6 - 2) sMo).bind fun x35 =>
            if x35 = 45 then
              (f_Mo_charAt (v6 - 1) sMo).bind fun x36 =>
              if x36 = 45 then
                (f_Mo_charAt v6 sMo).bind fun x37 =>
                if x37 = 62 then
                  f_Mo_comment_446 (fun v1 v2 v3 v4 v5 v6 sMo => f_Mo_comment_348 n v1 v2 v3 v4 v5 v6 sMo) v1 v2 v3 v4 v5 v6 1 sMo
                else
                  (f_Mo_wrong 19 v6 sMo).bind fun x38 =>
                  f_Mo_comment_446 (fun v1 v2 v3 v4 v5 v6 sMo => f_Mo_comment_348 n v1 v2 v3 v4 v5 v6 sMo) v1 v2 v3 v4 v5 v6 1 x38
              else
                f_Mo_comment_419 (fun v1 v2 v3 v4 v5 v6 sMo => f_Mo_comment_348 n v1 v2 v3 v4 v5 v6 sMo) v1 v2 v3 v4 v5 v6 sMo
            else
              f_Mo_comment_419 (fun v1 v2 v3 v4 v5 v6 sMo => f_Mo_comment_348 n v1 v2 v3 v4 v5 v6 sMo) v1 v2 v3 v4 v5 v6 sMo
          else
            f_Mo_comment_419 (fun v1 v2 v3 v4 v5 v6 sMo => f_Mo_comment_348 n v1 v2 v3 v4 v5 v6 sMo) v1 v2 v3 v4 v5 v6 sMo
        else
          f_Mo_comment_419 (fun v1 v2 v3 v4 v5 v6 sMo => f_Mo_comment_348 n v1 v2 v3 v4 v5 v6 sMo) v1 v2 v3 v4 v5 v6 sMo
def f_Mo_comment_263 (v1 : Int32) (v2 : Int32) (v3 : Int32) (v4 : Int32) (v5 : Int32) (v6 : Int32) (sMo : SMo) : Option SMo :=
  if ((q_Mo_n sMo) - v1) ≤ 0 then
    if v6 = 0 then
      f_Mo_comment_348 FU v1 v2 v3 (q_Mo_n sMo) v5 v1 sMo
    else
      f_Mo_comment_348 FU v1 v2 v3 ((q_Mo_n sMo) - 3) v5 v1 sMo
  else
    (f_Mo_charAt ((q_Mo_n sMo) - 1) sMo).bind fun x48 =>
    if x48 = 45 then
      if v6 = 0 then
        f_Mo_comment_348 FU v1 v2 v3 ((q_Mo_n sMo) - 1) v5 v1 sMo
      else
        f_Mo_comment_348 FU v1 v2 v3 ((q_Mo_n sMo) - 3) v5 v1 sMo
    else
      if v6 = 0 then
        f_Mo_comment_348 FU v1 v2 v3 (q_Mo_n sMo) v5 v1 sMo
      else
        f_Mo_comment_348 FU v1 v2 v3 ((q_Mo_n sMo) - 3) v5 v1 sMo
def f_Mo_comment_216 (v1 : Int32) (v2 : Int32) (v3 : Int32) (v4 : Int32) (v5 : Int32) (sMo : SMo) : Option SMo :=
  if ((q_Mo_n sMo) - v1) ≤ 1 then
    f_Mo_comment_263 v1 v2 v3 v4 v5 0 sMo
  else
    (f_Mo_charAt ((q_Mo_n sMo) - 1) sMo).bind fun x45 =>
    if x45 = 45 then
      (f_Mo_charAt ((q_Mo_n sMo) - 2) sMo).bind fun x46 =>
      if x46 = 45 then
        if ((q_Mo_n sMo) - v1) ≤ 0 then
          f_Mo_comment_348 FU v1 v2 v3 ((q_Mo_n sMo) - 2) v5 v1 sMo
        else
          (f_Mo_charAt ((q_Mo_n sMo) - 1) sMo).bind fun x47 =>
          if x47 = 45 then
            f_Mo_comment_348 FU v1 v2 v3 ((q_Mo_n sMo) - 2) v5 v1 sMo
          else
            f_Mo_comment_348 FU v1 v2 v3 ((q_Mo_n sMo) - 2) v5 v1 sMo
      else
        f_Mo_comment_263 v1 v2 v3 v4 v5 0 sMo
    else
      f_Mo_comment_263 v1 v2 v3 v4 v5 0 sMo
def f_Mo_comment_102 (v1 : Int32) (v2 : Int32) (sMo : SMo) : Option SMo :=
  (f_Mo_commentEnd v1 sMo).bind fun x8 =>
  if x8 = (q_Mo_n sMo) then
    if x8 = (q_Mo_n sMo) then
      if ((q_Mo_n sMo) - v1) ≤ 2 then
        f_Mo_comment_216 v1 v2 x8 x8 (q_Mo_n sMo) sMo
      else
        (f_Mo_charAt ((q_Mo_n sMo) - 1) sMo).bind fun x22 =>
        if x22 = 33 then
          (f_Mo_charAt ((q_Mo_n sMo) - 2) sMo).bind fun x23 =>
          if x23 = 45 then
            (f_Mo_charAt ((q_Mo_n sMo) - 3) sMo).bind fun x24 =>
            if x24 = 45 then
              if ((q_Mo_n sMo) - v1) ≤ 1 then
                f_Mo_comment_263 v1 v2 x8 x8 (q_Mo_n sMo) 1 sMo
              else
                (f_Mo_charAt ((q_Mo_n sMo) - 1) sMo).bind fun x25 =>
                if x25 = 45 then
                  (f_Mo_charAt ((q_Mo_n sMo) - 2) sMo).bind fun x26 =>
                  if x26 = 45 then
                    if ((q_Mo_n sMo) - v1) ≤ 0 then
                      f_Mo_comment_348 FU v1 v2 x8 ((q_Mo_n sMo) - 3) (q_Mo_n sMo) v1 sMo
                    else
                      (f_Mo_charAt ((q_Mo_n sMo) - 1) sMo).bind fun x27 =>
                      if x27 = 45 then
                        f_Mo_comment_348 FU v1 v2 x8 ((q_Mo_n sMo) - 3) (q_Mo_n sMo) v1 sMo
                      else
                        f_Mo_comment_348 FU v1 v2 x8 ((q_Mo_n sMo) - 3) (q_Mo_n sMo) v1 sMo
                  else
                    f_Mo_comment_263 v1 v2 x8 x8 (q_Mo_n sMo) 1 sMo
                else
                  f_Mo_comment_263 v1 v2 x8 x8 (q_Mo_n sMo) 1 sMo
            else
              f_Mo_comment_216 v1 v2 x8 x8 (q_Mo_n sMo) sMo
          else
            f_Mo_comment_216 v1 v2 x8 x8 (q_Mo_n sMo) sMo
        else
          f_Mo_comment_216 v1 v2 x8 x8 (q_Mo_n sMo) sMo
    else
      f_Mo_comment_348 FU v1 v2 x8 x8 (q_Mo_n sMo) v1 sMo
  else
    (f_Mo_charAt (x8 + 2) sMo).bind fun x9 =>
    if x9 = 62 then
      if x8 = (q_Mo_n sMo) then
        if ((q_Mo_n sMo) - v1) ≤ 2 then
          f_Mo_comment_216 v1 v2 x8 x8 (x8 + 2) sMo
        else
          (f_Mo_charAt ((q_Mo_n sMo) - 1) sMo).bind fun x16 =>
          if x16 = 33 then
            (f_Mo_charAt ((q_Mo_n sMo) - 2) sMo).bind fun x17 =>
            if x17 = 45 then
              (f_Mo_charAt ((q_Mo_n sMo) - 3) sMo).bind fun x18 =>
              if x18 = 45 then
                if ((q_Mo_n sMo) - v1) ≤ 1 then
                  f_Mo_comment_263 v1 v2 x8 x8 (x8 + 2) 1 sMo
                else
                  (f_Mo_charAt ((q_Mo_n sMo) - 1) sMo).bind fun x19 =>
                  if x19 = 45 then
                    (f_Mo_charAt ((q_Mo_n sMo) - 2) sMo).bind fun x20 =>
                    if x20 = 45 then
                      if ((q_Mo_n sMo) - v1) ≤ 0 then
                        f_Mo_comment_348 FU v1 v2 x8 ((q_Mo_n sMo) - 3) (x8 + 2) v1 sMo
                      else
                        (f_Mo_charAt ((q_Mo_n sMo) - 1) sMo).bind fun x21 =>
                        if x21 = 45 then
                          f_Mo_comment_348 FU v1 v2 x8 ((q_Mo_n sMo) - 3) (x8 + 2) v1 sMo
                        else
                          f_Mo_comment_348 FU v1 v2 x8 ((q_Mo_n sMo) - 3) (x8 + 2) v1 sMo
                    else
                      f_Mo_comment_263 v1 v2 x8 x8 (x8 + 2) 1 sMo
                  else
                    f_Mo_comment_263 v1 v2 x8 x8 (x8 + 2) 1 sMo
              else
                f_Mo_comment_216 v1 v2 x8 x8 (x8 + 2) sMo
            else
              f_Mo_comment_216 v1 v2 x8 x8 (x8 + 2) sMo
          else
            f_Mo_comment_216 v1 v2 x8 x8 (x8 + 2) sMo
      else
        f_Mo_comment_348 FU v1 v2 x8 x8 (x8 + 2) v1 sMo
    else
      if x8 = (q_Mo_n sMo) then
        if ((q_Mo_n sMo) - v1) ≤ 2 then
          f_Mo_comment_216 v1 v2 x8 x8 (x8 + 3) sMo
        else
          (f_Mo_charAt ((q_Mo_n sMo) - 1) sMo).bind fun x10 =>
          if x10 = 33 then
            (f_Mo_charAt ((q_Mo_n sMo) - 2) sMo).bind fun x11 =>
            if x11 = 45 then
              (f_Mo_charAt ((q_Mo_n sMo) - 3) sMo).bind fun x12 =>
              if x12 = 45 then
                if ((q_Mo_n sMo) - v1) ≤ 1 then
                  f_Mo_comment_263 v1 v2 x8 x8 (x8 + 3) 1 sMo
                else
                  (f_Mo_charAt ((q_Mo_n sMo) - 1) sMo).bind fun x13 =>
                  if x13 = 45 then
                    (f_Mo_charAt ((q_Mo_n sMo) - 2) sMo).bind fun x14 =>
                    if x14 = 45 then
                      if ((q_Mo_n sMo) - v1) ≤ 0 then
                        f_Mo_comment_348 FU v1 v2 x8 ((q_Mo_n sMo) - 3) (x8 + 3) v1 sMo
                      else
                        (f_Mo_charAt ((q_Mo_n sMo) - 1) sMo).bind fun x15 =>
                        if x15 = 45 then
                          f_Mo_comment_348 FU v1 v2 x8 ((q_Mo_n sMo) - 3) (x8 + 3) v1 sMo
                        else
                          f_Mo_comment_348 FU v1 v2 x8 ((q_Mo_n sMo) - 3) (x8 + 3) v1 sMo
                    else
                      f_Mo_comment_263 v1 v2 x8 x8 (x8 + 3) 1 sMo
                  else
                    f_Mo_comment_263 v1 v2 x8 x8 (x8 + 3) 1 sMo
              else
                f_Mo_comment_216 v1 v2 x8 x8 (x8 + 3) sMo
            else
              f_Mo_comment_216 v1 v2 x8 x8 (x8 + 3) sMo
          else
            f_Mo_comment_216 v1 v2 x8 x8 (x8 + 3) sMo
      else
        f_Mo_comment_348 FU v1 v2 x8 x8 (x8 + 3) v1 sMo
def f_Mo_comment (sMo : SMo) : Option SMo :=
  (f_Mo_charAt (q_Mo_p sMo) sMo).bind fun x1 =>
  if x1 = 62 then
    (f_Mo_wrong 17 (q_Mo_p sMo) (u_Mo_p sMo (q_Mo_p sMo))).bind fun x6 =>
    (f_Mo_tell (u_Mo_p x6 ((q_Mo_p x6) + 1))).bind fun x7 =>
    some x7
  else
    (f_Mo_charAt (q_Mo_p sMo) sMo).bind fun x2 =>
    if x2 = 45 then
      (f_Mo_charAt ((q_Mo_p sMo) + 1) sMo).bind fun x3 =>
      if x3 = 62 then
        (f_Mo_wrong 17 ((q_Mo_p sMo) + 1) (u_Mo_p sMo ((q_Mo_p sMo) + 1))).bind fun x4 =>
        (f_Mo_tell (u_Mo_p x4 ((q_Mo_p x4) + 1))).bind fun x5 =>
        some x5
      else
        f_Mo_comment_102 (q_Mo_p sMo) 0 sMo
    else
      f_Mo_comment_102 (q_Mo_p sMo) 0 sMo
def f_Mo_isDoctype_4 : Nat → Int32 → Int32 → SMo → Option Int32
  | 0, _, _, _ => none
  | n + 1, v1, v2, sMo =>
    if 7 ≤ v2 then
      if bz v1 then
      some v1
      else none
    else
      if v1 = 0 then
        f_Mo_isDoctype_4 n 0 (v2 + 1) sMo
      else
        (f_Mo_charAt ((q_Mo_p sMo) + v2) sMo).bind fun x1 =>
        if (f_Mo_lowered x1) = ((((28552639593803620 : Int64).toUInt64 >>> (((8 * v2) : Int32).toInt64.toUInt64 &&& Int64.toUInt64 63)).toInt64 &&& 255) : Int64).toInt32 then
          f_Mo_isDoctype_4 n 1 (v2 + 1) sMo
        else
          f_Mo_isDoctype_4 n 0 (v2 + 1) sMo
def f_Mo_isDoctype (sMo : SMo) : Option Int32 :=
  f_Mo_isDoctype_4 FU 1 0 sMo
def f_Mo_doctype_266 (v1 : Int32) (sMo : SMo) : Option SMo :=
  (f_Mo_charAt (q_Mo_p sMo) sMo).bind fun x16 =>
  if x16 = (-1) then
    (f_Mo_tell (u_Mo_p_ended sMo ((q_Mo_p sMo) + 1) 1)).bind fun x18 =>
    some x18
  else
    (f_Mo_tell (u_Mo_p_ended sMo ((q_Mo_p sMo) + 1) 0)).bind fun x17 =>
    some x17
def f_Mo_doctype_233 : Nat → Int32 → SMo → Option SMo
  | 0, _, _ => none
  | n + 1, v1, sMo =>
    (f_Mo_charAt (q_Mo_p sMo) sMo).bind fun x13 =>
    if x13 = (-1) then
      f_Mo_doctype_266 v1 sMo
    else
      (f_Mo_charAt (q_Mo_p sMo) sMo).bind fun x14 =>
      if x14 = 62 then
        f_Mo_doctype_266 v1 sMo
      else
        (f_Mo_known sMo).bind fun x15 =>
        f_Mo_doctype_233 n v1 x15.2
def f_Mo_doctype_166 (v1 : Int32) (sMo : SMo) : Option SMo :=
  (f_Mo_skipBlanks sMo).bind fun x9 =>
  (f_Mo_charAt (q_Mo_p x9) x9).bind fun x10 =>
  if x10 = (-1) then
    if ix (q_Mo_tokens x9) 402 then
    (f_Mo_wrong 23 (q_Mo_p x9) (u_Mo_marks x9 (upd (q_Mo_marks x9) ((q_Mo_tokens x9) : Int32).toNatClampNeg (vp_nar .boolean 1)))).bind fun x12 =>
    f_Mo_doctype_266 x10 x12
    else none
  else
    if x10 = 62 then
      f_Mo_doctype_266 x10 x9
    else
      if ix (q_Mo_tokens x9) 402 then
      (f_Mo_wrong 24 (q_Mo_p x9) (u_Mo_marks x9 (upd (q_Mo_marks x9) ((q_Mo_tokens x9) : Int32).toNatClampNeg (vp_nar .boolean 1)))).bind fun x11 =>
      f_Mo_doctype_233 FU x10 x11
      else none
def f_Mo_doctype_125 : Nat → Int32 → SMo → Option SMo
  | 0, _, _ => none
  | n + 1, v1, sMo =>
    if v1 = (-1) then
      f_Mo_doctype_166 v1 sMo
    else
      if v1 = 62 then
        f_Mo_doctype_166 v1 sMo
      else
        if (f_Mo_isBlank v1) = 0 then
          (f_Mo_known sMo).bind fun x6 =>
          (f_Mo_keep (f_Mo_lowered x6.1) x6.2).bind fun x7 =>
          (f_Mo_charAt (q_Mo_p x7) x7).bind fun x8 =>
          f_Mo_doctype_125 n x8 x7
        else
          f_Mo_doctype_166 v1 sMo
def f_Mo_doctype_66 (v1 : Int32) (sMo : SMo) : Option SMo :=
  if ix (q_Mo_tokens sMo) 402 then
  if v1 = (-1) then
    (f_Mo_wrong 23 (q_Mo_p sMo) (u_Mo_marks sMo (upd (q_Mo_marks sMo) ((q_Mo_tokens sMo) : Int32).toNatClampNeg (vp_nar .boolean 1)))).bind fun x22 =>
    if v1 = (-1) then
      (f_Mo_tell (u_Mo_p_ended x22 ((q_Mo_p x22) + 1) 1)).bind fun x24 =>
      some x24
    else
      (f_Mo_tell (u_Mo_p_ended x22 ((q_Mo_p x22) + 1) 0)).bind fun x23 =>
      some x23
  else
    (f_Mo_wrong 22 (q_Mo_p sMo) (u_Mo_marks sMo (upd (q_Mo_marks sMo) ((q_Mo_tokens sMo) : Int32).toNatClampNeg (vp_nar .boolean 1)))).bind fun x19 =>
    if v1 = (-1) then
      (f_Mo_tell (u_Mo_p_ended x19 ((q_Mo_p x19) + 1) 1)).bind fun x21 =>
      some x21
    else
      (f_Mo_tell (u_Mo_p_ended x19 ((q_Mo_p x19) + 1) 0)).bind fun x20 =>
      some x20
  else none
def f_Mo_doctype_37 (v1 : Int32) (sMo : SMo) : Option SMo :=
  (f_Mo_skipBlanks sMo).bind fun x3 =>
  (f_Mo_charAt (q_Mo_p x3) x3).bind fun x4 =>
  (f_Mo_begin 4 x3).bind fun x5 =>
  if x4 = (-1) then
    f_Mo_doctype_66 x4 x5
  else
    if x4 = 62 then
      f_Mo_doctype_66 x4 x5
    else
      f_Mo_doctype_125 FU x4 x5
def f_Mo_doctype (sMo : SMo) : Option SMo :=
  (f_Mo_charAt (q_Mo_p sMo) sMo).bind fun x1 =>
  if x1 = (-1) then
    f_Mo_doctype_37 x1 sMo
  else
    if x1 = 62 then
      f_Mo_doctype_37 x1 sMo
    else
      if (f_Mo_isBlank x1) = 0 then
        (f_Mo_wrong 21 (q_Mo_p sMo) sMo).bind fun x2 =>
        f_Mo_doctype_37 x1 x2
      else
        f_Mo_doctype_37 x1 sMo
def f_Mo_bogus_0 : Nat → SMo → Option SMo
  | 0, _ => none
  | n + 1, sMo =>
    (f_Mo_charAt (q_Mo_p sMo) sMo).bind fun x1 =>
    if x1 = (-1) then
      (f_Mo_charAt (q_Mo_p sMo) sMo).bind fun x2 =>
      if x2 = (-1) then
        (f_Mo_tell (u_Mo_p_ended sMo ((q_Mo_p sMo) + 1) 1)).bind fun x4 =>
        some x4
      else
        (f_Mo_tell (u_Mo_p_ended sMo ((q_Mo_p sMo) + 1) 0)).bind fun x3 =>
        some x3
    else
      (f_Mo_charAt (q_Mo_p sMo) sMo).bind fun x5 =>
      if x5 = 62 then
        (f_Mo_charAt (q_Mo_p sMo) sMo).bind fun x6 =>
        if x6 = (-1) then
          (f_Mo_tell (u_Mo_p_ended sMo ((q_Mo_p sMo) + 1) 1)).bind fun x8 =>
          some x8
        else
          (f_Mo_tell (u_Mo_p_ended sMo ((q_Mo_p sMo) + 1) 0)).bind fun x7 =>
          some x7
      else
        (f_Mo_known sMo).bind fun x9 =>
        (f_Mo_keep x9.1 x9.2).bind fun x10 =>
        f_Mo_bogus_0 n x10
def f_Mo_bogus (sMo : SMo) : Option SMo :=
  f_Mo_bogus_0 FU sMo
def f_Mo_mark (sMo : SMo) : Option SMo :=
  (f_Mo_charAt (q_Mo_p sMo) sMo).bind fun x1 =>
  if x1 = 45 then
    (f_Mo_charAt ((q_Mo_p sMo) + 1) sMo).bind fun x7 =>
    if x7 = 45 then
      (f_Mo_begin 3 (u_Mo_p sMo ((q_Mo_p sMo) + 2))).bind fun x13 =>
      (f_Mo_comment x13).bind fun x14 =>
      some x14
    else
      (f_Mo_isDoctype sMo).bind fun x8 =>
      if x8 = 0 then
        (f_Mo_wrong 16 (q_Mo_p sMo) sMo).bind fun x9 =>
        (f_Mo_begin 3 x9).bind fun x10 =>
        (f_Mo_bogus x10).bind fun x11 =>
        some x11
      else
        (f_Mo_doctype (u_Mo_p sMo ((q_Mo_p sMo) + 7))).bind fun x12 =>
        some x12
  else
    (f_Mo_isDoctype sMo).bind fun x2 =>
    if x2 = 0 then
      (f_Mo_wrong 16 (q_Mo_p sMo) sMo).bind fun x3 =>
      (f_Mo_begin 3 x3).bind fun x4 =>
      (f_Mo_bogus x4).bind fun x5 =>
      some x5
    else
      (f_Mo_doctype (u_Mo_p sMo ((q_Mo_p sMo) + 7))).bind fun x6 =>
      some x6
def f_Mo_drop (sMo : SMo) : Option SMo :=
  (f_Mo_wrong 6 (q_Mo_p sMo) sMo).bind fun x1 =>
  some (u_Mo_ended x1 1)
def f_Mo_finish_14 : Nat → Int32 → Int32 → Int32 → SMo → Option SMo
  | 0, _, _, _, _ => none
  | n + 1, v1, v2, v3, sMo =>
    if (q_Mo_attributeCount sMo) ≤ v3 then
      if ix (q_Mo_tokens sMo) 402 then
      if ix (q_Mo_tokens sMo) 402 then
      if ((q_Mo_kinds sMo) ((q_Mo_tokens sMo) : Int32).toNatClampNeg) = 2 then
        if v2 ≤ v1 then
          if ix (q_Mo_tokens sMo) 402 then
          if ((q_Mo_marks sMo) ((q_Mo_tokens sMo) : Int32).toNatClampNeg) = 0 then
            if ix (q_Mo_tokens sMo) 402 then
            if ix (q_Mo_tokens sMo) 402 then
            some (u_Mo_p_tokens_marks_manyOf_attributeCount sMo ((q_Mo_p sMo) + 1) ((q_Mo_tokens sMo) + 1) (upd (q_Mo_marks sMo) ((q_Mo_tokens sMo) : Int32).toNatClampNeg (vp_nar .boolean 0)) (upd (upd (q_Mo_manyOf sMo) ((q_Mo_tokens sMo) : Int32).toNatClampNeg (v2 - v1)) ((q_Mo_tokens sMo) : Int32).toNatClampNeg 0) v1)
            else none
            else none
          else
            (f_Mo_wrong 15 (q_Mo_p sMo) (u_Mo_manyOf_attributeCount sMo (upd (q_Mo_manyOf sMo) ((q_Mo_tokens sMo) : Int32).toNatClampNeg (v2 - v1)) v2)).bind fun x1 =>
            if ix (q_Mo_tokens x1) 402 then
            if ix (q_Mo_tokens x1) 402 then
            some (u_Mo_p_tokens_marks_manyOf_attributeCount x1 ((q_Mo_p x1) + 1) ((q_Mo_tokens x1) + 1) (upd (q_Mo_marks x1) ((q_Mo_tokens x1) : Int32).toNatClampNeg (vp_nar .boolean 0)) (upd (q_Mo_manyOf x1) ((q_Mo_tokens x1) : Int32).toNatClampNeg 0) v1)
            else none
            else none
          else none
        else
          (f_Mo_wrong 14 (q_Mo_p sMo) (u_Mo_manyOf_attributeCount sMo (upd (q_Mo_manyOf sMo) ((q_Mo_tokens sMo) : Int32).toNatClampNeg (v2 - v1)) v2)).bind fun x2 =>
          if ix (q_Mo_tokens x2) 402 then
          if ((q_Mo_marks x2) ((q_Mo_tokens x2) : Int32).toNatClampNeg) = 0 then
            if ix (q_Mo_tokens x2) 402 then
            if ix (q_Mo_tokens x2) 402 then
            some (u_Mo_p_tokens_marks_manyOf_attributeCount x2 ((q_Mo_p x2) + 1) ((q_Mo_tokens x2) + 1) (upd (q_Mo_marks x2) ((q_Mo_tokens x2) : Int32).toNatClampNeg (vp_nar .boolean 0)) (upd (q_Mo_manyOf x2) ((q_Mo_tokens x2) : Int32).toNatClampNeg 0) v1)
            else none
            else none
          else
            (f_Mo_wrong 15 (q_Mo_p x2) x2).bind fun x3 =>
            if ix (q_Mo_tokens x3) 402 then
            if ix (q_Mo_tokens x3) 402 then
            some (u_Mo_p_tokens_marks_manyOf_attributeCount x3 ((q_Mo_p x3) + 1) ((q_Mo_tokens x3) + 1) (upd (q_Mo_marks x3) ((q_Mo_tokens x3) : Int32).toNatClampNeg (vp_nar .boolean 0)) (upd (q_Mo_manyOf x3) ((q_Mo_tokens x3) : Int32).toNatClampNeg 0) v1)
            else none
            else none
          else none
      else
        some (u_Mo_p_tokens_manyOf_attributeCount sMo ((q_Mo_p sMo) + 1) ((q_Mo_tokens sMo) + 1) (upd (q_Mo_manyOf sMo) ((q_Mo_tokens sMo) : Int32).toNatClampNeg (v2 - v1)) v2)
      else none
      else none
    else
      if ix v3 402 then
      if ((q_Mo_goes sMo) (v3 : Int32).toNatClampNeg) = 0 then
        if ix v3 402 then
        if ix v2 402 then
        if ix v3 402 then
        if ix v2 402 then
        if ix v3 402 then
        if ix v2 402 then
        if ix v3 402 then
        if ix v2 402 then
        f_Mo_finish_14 n v1 (v2 + 1) (v3 + 1) (u_Mo_nameAt_nameSize_valueAt_valueSize sMo (upd (q_Mo_nameAt sMo) (v2 : Int32).toNatClampNeg ((q_Mo_nameAt sMo) (v3 : Int32).toNatClampNeg)) (upd (q_Mo_nameSize sMo) (v2 : Int32).toNatClampNeg ((q_Mo_nameSize sMo) (v3 : Int32).toNatClampNeg)) (upd (q_Mo_valueAt sMo) (v2 : Int32).toNatClampNeg ((q_Mo_valueAt sMo) (v3 : Int32).toNatClampNeg)) (upd (q_Mo_valueSize sMo) (v2 : Int32).toNatClampNeg ((q_Mo_valueSize sMo) (v3 : Int32).toNatClampNeg)))
        else none
        else none
        else none
        else none
        else none
        else none
        else none
        else none
      else
        f_Mo_finish_14 n v1 v2 (v3 + 1) sMo
      else none
def f_Mo_finish (sMo : SMo) : Option SMo :=
  if ix (q_Mo_tokens sMo) 402 then
  f_Mo_finish_14 FU ((q_Mo_attributes sMo) ((q_Mo_tokens sMo) : Int32).toNatClampNeg) ((q_Mo_attributes sMo) ((q_Mo_tokens sMo) : Int32).toNatClampNeg) ((q_Mo_attributes sMo) ((q_Mo_tokens sMo) : Int32).toNatClampNeg) sMo
  else none
def f_Mo_isThere_42 (k12 : Int32 → Int32 → Int32 → SMo → Option Int32) : Nat → Int32 → Int32 → Int32 → Int32 → Int32 → SMo → Option Int32
  | 0, _, _, _, _, _, _ => none
  | n + 1, v1, v2, v3, v4, v5, sMo =>
    if ix v1 402 then
    if ((q_Mo_nameSize sMo) (v1 : Int32).toNatClampNeg) ≤ v5 then
      if v2 = 0 then
        if v4 = 0 then
          k12 v1 0 (v3 + 1) sMo
        else
          k12 v1 1 (v3 + 1) sMo
      else
        k12 v1 1 (v3 + 1) sMo
    else
      if v4 = 0 then
        if v2 = 0 then
          if v4 = 0 then
            k12 v1 0 (v3 + 1) sMo
          else
            k12 v1 1 (v3 + 1) sMo
        else
          k12 v1 1 (v3 + 1) sMo
      else
        if ix v3 402 then
        if ix (((q_Mo_nameAt sMo) (v3 : Int32).toNatClampNeg) + v5) 810 then
        if ix v1 402 then
        if ix (((q_Mo_nameAt sMo) (v1 : Int32).toNatClampNeg) + v5) 810 then
        if ((q_Mo_row sMo) ((((q_Mo_nameAt sMo) (v3 : Int32).toNatClampNeg) + v5) : Int32).toNatClampNeg) = ((q_Mo_row sMo) ((((q_Mo_nameAt sMo) (v1 : Int32).toNatClampNeg) + v5) : Int32).toNatClampNeg) then
          f_Mo_isThere_42 k12 n v1 v2 v3 1 (v5 + 1) sMo
        else
          f_Mo_isThere_42 k12 n v1 v2 v3 0 (v5 + 1) sMo
        else none
        else none
        else none
        else none
    else none
def f_Mo_isThere_12 : Nat → Int32 → Int32 → Int32 → SMo → Option Int32
  | 0, _, _, _, _ => none
  | n + 1, v1, v2, v3, sMo =>
    if v1 ≤ v3 then
      if bz v2 then
      some v2
      else none
    else
      if ix v3 402 then
      if ix v1 402 then
      if ((q_Mo_nameSize sMo) (v3 : Int32).toNatClampNeg) = ((q_Mo_nameSize sMo) (v1 : Int32).toNatClampNeg) then
        f_Mo_isThere_42 (fun v1 v2 v3 sMo => f_Mo_isThere_12 n v1 v2 v3 sMo) FU v1 v2 v3 1 0 sMo
      else
        f_Mo_isThere_42 (fun v1 v2 v3 sMo => f_Mo_isThere_12 n v1 v2 v3 sMo) FU v1 v2 v3 0 0 sMo
      else none
      else none
def f_Mo_isThere (a1 : Int32) (sMo : SMo) : Option Int32 :=
  if ix (q_Mo_tokens sMo) 402 then
  f_Mo_isThere_12 FU a1 0 ((q_Mo_attributes sMo) ((q_Mo_tokens sMo) : Int32).toNatClampNeg) sMo
  else none
def f_Mo_value_203 (v1 : Int32) (v2 : Int32) (v3 : Int32) (v4 : Int32) (sMo : SMo) : Option (Int32 × SMo) :=
  if ix v1 402 then
  if ix v1 402 then
  if v4 = (-1) then
    (f_Mo_drop (u_Mo_valueSize sMo (upd (q_Mo_valueSize sMo) (v1 : Int32).toNatClampNeg ((q_Mo_rowSize sMo) - ((q_Mo_valueAt sMo) (v1 : Int32).toNatClampNeg))))).bind fun x22 =>
    some (0, x22)
  else
    if v3 = 0 then
      some (1, (u_Mo_valueSize sMo (upd (q_Mo_valueSize sMo) (v1 : Int32).toNatClampNeg ((q_Mo_rowSize sMo) - ((q_Mo_valueAt sMo) (v1 : Int32).toNatClampNeg)))))
    else
      (f_Mo_charAt ((q_Mo_p sMo) + 1) (u_Mo_p_valueSize sMo ((q_Mo_p sMo) + 1) (upd (q_Mo_valueSize sMo) (v1 : Int32).toNatClampNeg ((q_Mo_rowSize sMo) - ((q_Mo_valueAt sMo) (v1 : Int32).toNatClampNeg))))).bind fun x20 =>
      if x20 = (-1) then
        some (1, (u_Mo_p_valueSize sMo ((q_Mo_p sMo) + 1) (upd (q_Mo_valueSize sMo) (v1 : Int32).toNatClampNeg ((q_Mo_rowSize sMo) - ((q_Mo_valueAt sMo) (v1 : Int32).toNatClampNeg)))))
      else
        if (f_Mo_isBlank x20) = 0 then
          if x20 = 47 then
            some (1, (u_Mo_p_valueSize sMo ((q_Mo_p sMo) + 1) (upd (q_Mo_valueSize sMo) (v1 : Int32).toNatClampNeg ((q_Mo_rowSize sMo) - ((q_Mo_valueAt sMo) (v1 : Int32).toNatClampNeg)))))
          else
            if x20 = 62 then
              some (1, (u_Mo_p_valueSize sMo ((q_Mo_p sMo) + 1) (upd (q_Mo_valueSize sMo) (v1 : Int32).toNatClampNeg ((q_Mo_rowSize sMo) - ((q_Mo_valueAt sMo) (v1 : Int32).toNatClampNeg)))))
            else
              (f_Mo_wrong 12 ((q_Mo_p sMo) + 1) (u_Mo_p_valueSize sMo ((q_Mo_p sMo) + 1) (upd (q_Mo_valueSize sMo) (v1 : Int32).toNatClampNeg ((q_Mo_rowSize sMo) - ((q_Mo_valueAt sMo) (v1 : Int32).toNatClampNeg))))).bind fun x21 =>
              some (1, x21)
        else
          some (1, (u_Mo_p_valueSize sMo ((q_Mo_p sMo) + 1) (upd (q_Mo_valueSize sMo) (v1 : Int32).toNatClampNeg ((q_Mo_rowSize sMo) - ((q_Mo_valueAt sMo) (v1 : Int32).toNatClampNeg)))))
  else none
  else none
def f_Mo_value_172 (k84 : Int32 → Int32 → Int32 → Int32 → SMo → Option (Int32 × SMo)) (v1 : Int32) (v2 : Int32) (v3 : Int32) (v4 : Int32) (sMo : SMo) : Option (Int32 × SMo) :=
  (f_Mo_wrong 11 (q_Mo_p sMo) sMo).bind fun x16 =>
  (f_Mo_known x16).bind fun x17 =>
  (f_Mo_keep x17.1 x17.2).bind fun x18 =>
  (f_Mo_charAt (q_Mo_p x18) x18).bind fun x19 =>
  k84 v1 v2 v3 x19 x18
def f_Mo_value_118 (k84 : Int32 → Int32 → Int32 → Int32 → SMo → Option (Int32 × SMo)) (v1 : Int32) (v2 : Int32) (v3 : Int32) (v4 : Int32) (sMo : SMo) : Option (Int32 × SMo) :=
  if v4 = 38 then
    (f_Mo_reference 1 sMo).bind fun x14 =>
    (f_Mo_charAt (q_Mo_p x14) x14).bind fun x15 =>
    k84 v1 v2 v3 x15 x14
  else
    if v3 = 0 then
      if v4 = 34 then
        f_Mo_value_172 k84 v1 v2 v3 v4 sMo
      else
        if v4 = 39 then
          f_Mo_value_172 k84 v1 v2 v3 v4 sMo
        else
          if v4 = 60 then
            f_Mo_value_172 k84 v1 v2 v3 v4 sMo
          else
            if v4 = 61 then
              f_Mo_value_172 k84 v1 v2 v3 v4 sMo
            else
              if v4 = 96 then
                f_Mo_value_172 k84 v1 v2 v3 v4 sMo
              else
                (f_Mo_known sMo).bind fun x11 =>
                (f_Mo_keep x11.1 x11.2).bind fun x12 =>
                (f_Mo_charAt (q_Mo_p x12) x12).bind fun x13 =>
                k84 v1 v2 v3 x13 x12
    else
      (f_Mo_known sMo).bind fun x8 =>
      (f_Mo_keep x8.1 x8.2).bind fun x9 =>
      (f_Mo_charAt (q_Mo_p x9) x9).bind fun x10 =>
      k84 v1 v2 v3 x10 x9
def f_Mo_value_84 : Nat → Int32 → Int32 → Int32 → Int32 → SMo → Option (Int32 × SMo)
  | 0, _, _, _, _, _ => none
  | n + 1, v1, v2, v3, v4, sMo =>
    if v4 = (-1) then
      f_Mo_value_203 v1 v2 v3 v4 sMo
    else
      if v3 = 0 then
        if (f_Mo_isBlank v4) = 0 then
          if v4 = 62 then
            f_Mo_value_203 v1 v2 v3 v4 sMo
          else
            f_Mo_value_118 (fun v1 v2 v3 v4 sMo => f_Mo_value_84 n v1 v2 v3 v4 sMo) v1 v2 v3 v4 sMo
        else
          f_Mo_value_203 v1 v2 v3 v4 sMo
      else
        if v4 = v2 then
          f_Mo_value_203 v1 v2 v3 v4 sMo
        else
          f_Mo_value_118 (fun v1 v2 v3 v4 sMo => f_Mo_value_84 n v1 v2 v3 v4 sMo) v1 v2 v3 v4 sMo
def f_Mo_value (a1 : Int32) (sMo : SMo) : Option (Int32 × SMo) :=
  (f_Mo_skipBlanks sMo).bind fun x1 =>
  (f_Mo_charAt (q_Mo_p x1) x1).bind fun x2 =>
  if x2 = 62 then
    (f_Mo_wrong 10 (q_Mo_p x1) x1).bind fun x6 =>
    (f_Mo_finish x6).bind fun x7 =>
    some (0, x7)
  else
    if x2 = 34 then
      (f_Mo_charAt ((q_Mo_p x1) + 1) (u_Mo_p x1 ((q_Mo_p x1) + 1))).bind fun x3 =>
      f_Mo_value_84 FU a1 x2 1 x3 (u_Mo_p x1 ((q_Mo_p x1) + 1))
    else
      if x2 = 39 then
        (f_Mo_charAt ((q_Mo_p x1) + 1) (u_Mo_p x1 ((q_Mo_p x1) + 1))).bind fun x5 =>
        f_Mo_value_84 FU a1 x2 1 x5 (u_Mo_p x1 ((q_Mo_p x1) + 1))
      else
        (f_Mo_charAt (q_Mo_p x1) (u_Mo_p x1 (q_Mo_p x1))).bind fun x4 =>
        f_Mo_value_84 FU a1 x2 0 x4 (u_Mo_p x1 (q_Mo_p x1))
def f_Mo_attribute_161 (v1 : Int32) (v2 : Int32) (sMo : SMo) : Option (Int32 × SMo) :=
  if ix v1 402 then
  if ix v1 402 then
  if ix v1 402 then
  (f_Mo_isThere v1 (u_Mo_nameSize_valueAt sMo (upd (q_Mo_nameSize sMo) (v1 : Int32).toNatClampNeg ((q_Mo_rowSize sMo) - ((q_Mo_nameAt sMo) (v1 : Int32).toNatClampNeg))) (upd (q_Mo_valueAt sMo) (v1 : Int32).toNatClampNeg (q_Mo_rowSize sMo)))).bind fun x9 =>
  if ix v1 402 then
  if ix v1 402 then
  if ((upd (q_Mo_goes sMo) (v1 : Int32).toNatClampNeg (vp_nar .boolean x9)) (v1 : Int32).toNatClampNeg) = 0 then
    (f_Mo_skipBlanks (u_Mo_nameSize_valueAt_goes sMo (upd (q_Mo_nameSize sMo) (v1 : Int32).toNatClampNeg ((q_Mo_rowSize sMo) - ((q_Mo_nameAt sMo) (v1 : Int32).toNatClampNeg))) (upd (q_Mo_valueAt sMo) (v1 : Int32).toNatClampNeg (q_Mo_rowSize sMo)) (upd (q_Mo_goes sMo) (v1 : Int32).toNatClampNeg (vp_nar .boolean x9)))).bind fun x10 =>
    (f_Mo_charAt (q_Mo_p x10) x10).bind fun x11 =>
    if x11 = 61 then
      (f_Mo_value v1 (u_Mo_p x10 ((q_Mo_p x10) + 1))).bind fun x12 =>
      if bz x12.1 then
      some (x12.1, x12.2)
      else none
    else
      some (1, x10)
  else
    (f_Mo_wrong 9 (q_Mo_p sMo) (u_Mo_nameSize_valueAt_goes sMo (upd (q_Mo_nameSize sMo) (v1 : Int32).toNatClampNeg ((q_Mo_rowSize sMo) - ((q_Mo_nameAt sMo) (v1 : Int32).toNatClampNeg))) (upd (q_Mo_valueAt sMo) (v1 : Int32).toNatClampNeg (q_Mo_rowSize sMo)) (upd (q_Mo_goes sMo) (v1 : Int32).toNatClampNeg (vp_nar .boolean x9)))).bind fun x13 =>
    (f_Mo_skipBlanks x13).bind fun x14 =>
    (f_Mo_charAt (q_Mo_p x14) x14).bind fun x15 =>
    if x15 = 61 then
      (f_Mo_value v1 (u_Mo_p x14 ((q_Mo_p x14) + 1))).bind fun x16 =>
      if bz x16.1 then
      some (x16.1, x16.2)
      else none
    else
      some (1, x14)
  else none
  else none
  else none
  else none
  else none
def f_Mo_attribute_128 (k80 : Int32 → Int32 → SMo → Option (Int32 × SMo)) (v1 : Int32) (v2 : Int32) (sMo : SMo) : Option (Int32 × SMo) :=
  (f_Mo_wrong 8 (q_Mo_p sMo) sMo).bind fun x17 =>
  (f_Mo_known x17).bind fun x18 =>
  (f_Mo_keep (f_Mo_lowered x18.1) x18.2).bind fun x19 =>
  (f_Mo_charAt (q_Mo_p x19) x19).bind fun x20 =>
  k80 v1 x20 x19
def f_Mo_attribute_80 : Nat → Int32 → Int32 → SMo → Option (Int32 × SMo)
  | 0, _, _, _ => none
  | n + 1, v1, v2, sMo =>
    if v2 = (-1) then
      f_Mo_attribute_161 v1 v2 sMo
    else
      if (f_Mo_isBlank v2) = 0 then
        if v2 = 47 then
          f_Mo_attribute_161 v1 v2 sMo
        else
          if v2 = 62 then
            f_Mo_attribute_161 v1 v2 sMo
          else
            if v2 = 61 then
              f_Mo_attribute_161 v1 v2 sMo
            else
              if v2 = 34 then
                f_Mo_attribute_128 (fun v1 v2 sMo => f_Mo_attribute_80 n v1 v2 sMo) v1 v2 sMo
              else
                if v2 = 39 then
                  f_Mo_attribute_128 (fun v1 v2 sMo => f_Mo_attribute_80 n v1 v2 sMo) v1 v2 sMo
                else
                  if v2 = 60 then
                    f_Mo_attribute_128 (fun v1 v2 sMo => f_Mo_attribute_80 n v1 v2 sMo) v1 v2 sMo
                  else
                    (f_Mo_known sMo).bind fun x6 =>
                    (f_Mo_keep (f_Mo_lowered x6.1) x6.2).bind fun x7 =>
                    (f_Mo_charAt (q_Mo_p x7) x7).bind fun x8 =>
                    f_Mo_attribute_80 n v1 x8 x7
      else
        f_Mo_attribute_161 v1 v2 sMo
def f_Mo_attribute (sMo : SMo) : Option (Int32 × SMo) :=
  if ix (q_Mo_attributeCount sMo) 402 then
  if ix (q_Mo_attributeCount sMo) 402 then
  (f_Mo_charAt (q_Mo_p sMo) (u_Mo_attributeCount_nameAt_valueSize sMo ((q_Mo_attributeCount sMo) + 1) (upd (q_Mo_nameAt sMo) ((q_Mo_attributeCount sMo) : Int32).toNatClampNeg (q_Mo_rowSize sMo)) (upd (q_Mo_valueSize sMo) ((q_Mo_attributeCount sMo) : Int32).toNatClampNeg 0))).bind fun x1 =>
  if x1 = 61 then
    (f_Mo_wrong 7 (q_Mo_p sMo) (u_Mo_attributeCount_nameAt_valueSize sMo ((q_Mo_attributeCount sMo) + 1) (upd (q_Mo_nameAt sMo) ((q_Mo_attributeCount sMo) : Int32).toNatClampNeg (q_Mo_rowSize sMo)) (upd (q_Mo_valueSize sMo) ((q_Mo_attributeCount sMo) : Int32).toNatClampNeg 0))).bind fun x3 =>
    (f_Mo_keep 61 x3).bind fun x4 =>
    (f_Mo_charAt ((q_Mo_p x4) + 1) (u_Mo_p x4 ((q_Mo_p x4) + 1))).bind fun x5 =>
    f_Mo_attribute_80 FU (q_Mo_attributeCount sMo) x5 (u_Mo_p x4 ((q_Mo_p x4) + 1))
  else
    (f_Mo_charAt (q_Mo_p sMo) (u_Mo_attributeCount_nameAt_valueSize sMo ((q_Mo_attributeCount sMo) + 1) (upd (q_Mo_nameAt sMo) ((q_Mo_attributeCount sMo) : Int32).toNatClampNeg (q_Mo_rowSize sMo)) (upd (q_Mo_valueSize sMo) ((q_Mo_attributeCount sMo) : Int32).toNatClampNeg 0))).bind fun x2 =>
    f_Mo_attribute_80 FU (q_Mo_attributeCount sMo) x2 (u_Mo_attributeCount_nameAt_valueSize sMo ((q_Mo_attributeCount sMo) + 1) (upd (q_Mo_nameAt sMo) ((q_Mo_attributeCount sMo) : Int32).toNatClampNeg (q_Mo_rowSize sMo)) (upd (q_Mo_valueSize sMo) ((q_Mo_attributeCount sMo) : Int32).toNatClampNeg 0))
  else none
  else none
def f_Mo_behindName (sMo : SMo) : Option (Int32 × SMo) :=
  (f_Mo_skipBlanks sMo).bind fun x1 =>
  (f_Mo_charAt (q_Mo_p x1) x1).bind fun x2 =>
  if x2 = (-1) then
    (f_Mo_drop x1).bind fun x10 =>
    some (0, x10)
  else
    if x2 = 62 then
      (f_Mo_finish x1).bind fun x9 =>
      some (0, x9)
    else
      if x2 = 47 then
        (f_Mo_charAt ((q_Mo_p x1) + 1) (u_Mo_p x1 ((q_Mo_p x1) + 1))).bind fun x4 =>
        if x4 = 62 then
          if ix (q_Mo_tokens x1) 402 then
          (f_Mo_finish (u_Mo_p_marks x1 ((q_Mo_p x1) + 1) (upd (q_Mo_marks x1) ((q_Mo_tokens x1) : Int32).toNatClampNeg (vp_nar .boolean 1)))).bind fun x8 =>
          some (0, x8)
          else none
        else
          (f_Mo_charAt ((q_Mo_p x1) + 1) (u_Mo_p x1 ((q_Mo_p x1) + 1))).bind fun x5 =>
          if x5 = (-1) then
            (f_Mo_drop (u_Mo_p x1 ((q_Mo_p x1) + 1))).bind fun x7 =>
            some (0, x7)
          else
            (f_Mo_wrong 13 ((q_Mo_p x1) + 1) (u_Mo_p x1 ((q_Mo_p x1) + 1))).bind fun x6 =>
            some (1, x6)
      else
        (f_Mo_attribute x1).bind fun x3 =>
        if bz x3.1 then
        some (x3.1, x3.2)
        else none
def f_Mo_tagName_81 : Nat → Int32 → Int32 → SMo → Option SMo
  | 0, _, _, _ => none
  | n + 1, v1, v2, sMo =>
    if v2 = 0 then
      some sMo
    else
      (f_Mo_behindName sMo).bind fun x5 =>
      f_Mo_tagName_81 n v1 x5.1 x5.2
def f_Mo_tagName_9 : Nat → Int32 → SMo → Option SMo
  | 0, _, _ => none
  | n + 1, v1, sMo =>
    if v1 = (-1) then
      if ix (q_Mo_tokens sMo) 402 then
      if ix (q_Mo_tokens sMo) 402 then
      f_Mo_tagName_81 FU v1 1 (u_Mo_sizes sMo (upd (q_Mo_sizes sMo) ((q_Mo_tokens sMo) : Int32).toNatClampNeg ((q_Mo_rowSize sMo) - ((q_Mo_firsts sMo) ((q_Mo_tokens sMo) : Int32).toNatClampNeg))))
      else none
      else none
    else
      if (f_Mo_isBlank v1) = 0 then
        if v1 = 47 then
          if ix (q_Mo_tokens sMo) 402 then
          if ix (q_Mo_tokens sMo) 402 then
          f_Mo_tagName_81 FU v1 1 (u_Mo_sizes sMo (upd (q_Mo_sizes sMo) ((q_Mo_tokens sMo) : Int32).toNatClampNeg ((q_Mo_rowSize sMo) - ((q_Mo_firsts sMo) ((q_Mo_tokens sMo) : Int32).toNatClampNeg))))
          else none
          else none
        else
          if v1 = 62 then
            if ix (q_Mo_tokens sMo) 402 then
            if ix (q_Mo_tokens sMo) 402 then
            f_Mo_tagName_81 FU v1 1 (u_Mo_sizes sMo (upd (q_Mo_sizes sMo) ((q_Mo_tokens sMo) : Int32).toNatClampNeg ((q_Mo_rowSize sMo) - ((q_Mo_firsts sMo) ((q_Mo_tokens sMo) : Int32).toNatClampNeg))))
            else none
            else none
          else
            (f_Mo_known sMo).bind fun x2 =>
            (f_Mo_keep (f_Mo_lowered x2.1) x2.2).bind fun x3 =>
            (f_Mo_charAt (q_Mo_p x3) x3).bind fun x4 =>
            f_Mo_tagName_9 n x4 x3
      else
        if ix (q_Mo_tokens sMo) 402 then
        if ix (q_Mo_tokens sMo) 402 then
        f_Mo_tagName_81 FU v1 1 (u_Mo_sizes sMo (upd (q_Mo_sizes sMo) ((q_Mo_tokens sMo) : Int32).toNatClampNeg ((q_Mo_rowSize sMo) - ((q_Mo_firsts sMo) ((q_Mo_tokens sMo) : Int32).toNatClampNeg))))
        else none
        else none
def f_Mo_tagName (sMo : SMo) : Option SMo :=
  (f_Mo_charAt (q_Mo_p sMo) sMo).bind fun x1 =>
  f_Mo_tagName_9 FU x1 sMo
def f_Mo_stop (sMo : SMo) : Option SMo :=
  (f_Mo_charAt (q_Mo_p sMo) sMo).bind fun x1 =>
  if (f_Mo_isLetter x1) = 0 then
    if x1 = 62 then
      (f_Mo_wrong 5 (q_Mo_p sMo) sMo).bind fun x8 =>
      some (u_Mo_p x8 ((q_Mo_p x8) + 1))
    else
      if x1 = (-1) then
        (f_Mo_wrong 3 (q_Mo_p sMo) sMo).bind fun x5 =>
        (f_Mo_toText 60 x5).bind fun x6 =>
        (f_Mo_toText 47 x6).bind fun x7 =>
        some (u_Mo_ended x7 1)
      else
        (f_Mo_wrong 4 (q_Mo_p sMo) sMo).bind fun x2 =>
        (f_Mo_begin 3 x2).bind fun x3 =>
        (f_Mo_bogus x3).bind fun x4 =>
        some x4
  else
    (f_Mo_begin 2 sMo).bind fun x9 =>
    (f_Mo_tagName x9).bind fun x10 =>
    some x10
def f_Mo_tag (sMo : SMo) : Option SMo :=
  (f_Mo_charAt (q_Mo_p sMo) sMo).bind fun x1 =>
  if x1 = 33 then
    (f_Mo_mark (u_Mo_p sMo ((q_Mo_p sMo) + 1))).bind fun x12 =>
    some x12
  else
    if x1 = 47 then
      (f_Mo_stop (u_Mo_p sMo ((q_Mo_p sMo) + 1))).bind fun x11 =>
      some x11
    else
      if (f_Mo_isLetter x1) = 0 then
        if x1 = 63 then
          (f_Mo_wrong 2 (q_Mo_p sMo) sMo).bind fun x6 =>
          (f_Mo_begin 3 x6).bind fun x7 =>
          (f_Mo_bogus x7).bind fun x8 =>
          some x8
        else
          if x1 = (-1) then
            (f_Mo_wrong 3 (q_Mo_p sMo) sMo).bind fun x4 =>
            (f_Mo_toText 60 x4).bind fun x5 =>
            some (u_Mo_ended x5 1)
          else
            (f_Mo_wrong 4 (q_Mo_p sMo) sMo).bind fun x2 =>
            (f_Mo_toText 60 x2).bind fun x3 =>
            some x3
      else
        (f_Mo_begin 1 sMo).bind fun x9 =>
        (f_Mo_tagName x9).bind fun x10 =>
        some x10
def f_Mo_run_39 : Nat → SMo → Option (Int32 × SMo)
  | 0, _ => none
  | n + 1, sMo =>
    if (q_Mo_ended sMo) = 0 then
      (f_Mo_charAt (q_Mo_p sMo) sMo).bind fun x3 =>
      if x3 = (-1) then
        f_Mo_run_39 n (u_Mo_ended sMo 1)
      else
        if x3 = 38 then
          (f_Mo_reference 0 sMo).bind fun x8 =>
          f_Mo_run_39 n x8
        else
          if x3 = 60 then
            (f_Mo_tag (u_Mo_p sMo ((q_Mo_p sMo) + 1))).bind fun x7 =>
            f_Mo_run_39 n x7
          else
            if x3 = 0 then
              (f_Mo_wrong 1 (q_Mo_p sMo) sMo).bind fun x5 =>
              (f_Mo_toText x3 x5).bind fun x6 =>
              f_Mo_run_39 n (u_Mo_p x6 ((q_Mo_p x6) + 1))
            else
              (f_Mo_toText x3 sMo).bind fun x4 =>
              f_Mo_run_39 n (u_Mo_p x4 ((q_Mo_p x4) + 1))
    else
      (f_Mo_begin 0 sMo).bind fun x2 =>
      some ((q_Mo_tokens x2), x2)
def f_Mo_run (sMo : SMo) : Option (Int32 × SMo) :=
  (f_Mo_layDown sMo).bind fun x1 =>
  f_Mo_run_39 FU (u_Mo_p_ended_tokens_attributeCount_rowSize_textSize_faultCount x1 0 0 0 0 0 0 0)
def f_Mo_token (a1 : Int32) (a2 : Int32) (sMo : SMo) : Option Int32 :=
  if a1 < 0 then
    some (-1)
  else
    if (q_Mo_tokens sMo) ≤ a1 then
      some (-1)
    else
      if a2 < 0 then
        some (-1)
      else
        if a2 ≤ 3 then
          if a2 = 0 then
            if ix a1 402 then
            some ((q_Mo_kinds sMo) (a1 : Int32).toNatClampNeg)
            else none
          else
            if a2 = 1 then
              if ix a1 402 then
              some ((q_Mo_sizes sMo) (a1 : Int32).toNatClampNeg)
              else none
            else
              if a2 = 2 then
                if ix a1 402 then
                if ((q_Mo_marks sMo) (a1 : Int32).toNatClampNeg) = 0 then
                  some 0
                else
                  some 1
                else none
              else
                if ix a1 402 then
                some ((q_Mo_manyOf sMo) (a1 : Int32).toNatClampNeg)
                else none
        else
          some (-1)
def f_Mo_at (a1 : Int32) (a2 : Int32) (sMo : SMo) : Option Int32 :=
  if a1 < 0 then
    some (-1)
  else
    if (q_Mo_tokens sMo) ≤ a1 then
      some (-1)
    else
      if a2 < 0 then
        some (-1)
      else
        if ix a1 402 then
        if a2 < ((q_Mo_sizes sMo) (a1 : Int32).toNatClampNeg) then
          if ix a1 402 then
          if ix (((q_Mo_firsts sMo) (a1 : Int32).toNatClampNeg) + a2) 810 then
          some ((q_Mo_row sMo) ((((q_Mo_firsts sMo) (a1 : Int32).toNatClampNeg) + a2) : Int32).toNatClampNeg)
          else none
          else none
        else
          some (-1)
        else none
def f_Mo_isPart (a1 : Int32) (a2 : Int32) (a3 : Int32) (sMo : SMo) : Option Int32 :=
  if a1 < 0 then
    some 0
  else
    if (q_Mo_tokens sMo) ≤ a1 then
      some 0
    else
      if a2 < 0 then
        some 0
      else
        if ix a1 402 then
        if ((q_Mo_manyOf sMo) (a1 : Int32).toNatClampNeg) ≤ a2 then
          some 0
        else
          if a3 = 0 then
            some 1
          else
            if a3 = 1 then
              some 1
            else
              some 0
        else none
def f_Mo_size (a1 : Int32) (a2 : Int32) (a3 : Int32) (sMo : SMo) : Option Int32 :=
  (f_Mo_isPart a1 a2 a3 sMo).bind fun x1 =>
  if x1 = 0 then
    some (-1)
  else
    if a3 = 0 then
      if ix a1 402 then
      if ix (((q_Mo_attributes sMo) (a1 : Int32).toNatClampNeg) + a2) 402 then
      some ((q_Mo_nameSize sMo) ((((q_Mo_attributes sMo) (a1 : Int32).toNatClampNeg) + a2) : Int32).toNatClampNeg)
      else none
      else none
    else
      if ix a1 402 then
      if ix (((q_Mo_attributes sMo) (a1 : Int32).toNatClampNeg) + a2) 402 then
      some ((q_Mo_valueSize sMo) ((((q_Mo_attributes sMo) (a1 : Int32).toNatClampNeg) + a2) : Int32).toNatClampNeg)
      else none
      else none
def f_Mo_part (a1 : Int32) (a2 : Int32) (a3 : Int32) (a4 : Int32) (sMo : SMo) : Option Int32 :=
  (f_Mo_isPart a1 a2 a3 sMo).bind fun x1 =>
  if x1 = 0 then
    some (-1)
  else
    if a4 < 0 then
      some (-1)
    else
      (f_Mo_size a1 a2 a3 sMo).bind fun x2 =>
      if a4 < x2 then
        if a3 = 0 then
          if ix a1 402 then
          if ix (((q_Mo_attributes sMo) (a1 : Int32).toNatClampNeg) + a2) 402 then
          if ix (((q_Mo_nameAt sMo) ((((q_Mo_attributes sMo) (a1 : Int32).toNatClampNeg) + a2) : Int32).toNatClampNeg) + a4) 810 then
          some ((q_Mo_row sMo) ((((q_Mo_nameAt sMo) ((((q_Mo_attributes sMo) (a1 : Int32).toNatClampNeg) + a2) : Int32).toNatClampNeg) + a4) : Int32).toNatClampNeg)
          else none
          else none
          else none
        else
          if ix a1 402 then
          if ix (((q_Mo_attributes sMo) (a1 : Int32).toNatClampNeg) + a2) 402 then
          if ix (((q_Mo_valueAt sMo) ((((q_Mo_attributes sMo) (a1 : Int32).toNatClampNeg) + a2) : Int32).toNatClampNeg) + a4) 810 then
          some ((q_Mo_row sMo) ((((q_Mo_valueAt sMo) ((((q_Mo_attributes sMo) (a1 : Int32).toNatClampNeg) + a2) : Int32).toNatClampNeg) + a4) : Int32).toNatClampNeg)
          else none
          else none
          else none
      else
        some (-1)
def f_Mo_faults (sMo : SMo) : Int32 :=
  (q_Mo_faultCount sMo)
def f_Mo_fault (a1 : Int32) (a2 : Int32) (sMo : SMo) : Option Int32 :=
  if a1 < 0 then
    some (-1)
  else
    if (q_Mo_faultCount sMo) ≤ a1 then
      some (-1)
    else
      if a2 < 0 then
        some (-1)
      else
        if a2 ≤ 1 then
          if a2 = 0 then
            if ix a1 1200 then
            some ((q_Mo_codes sMo) (a1 : Int32).toNatClampNeg)
            else none
          else
            if ix a1 1200 then
            some ((q_Mo_places sMo) (a1 : Int32).toNatClampNeg)
            else none
        else
          some (-1)
def f_Mo_put (a1 : Int32) (sMo : SMo) : Option SMo :=
  if ix (q_Mo_outSize sMo) 4000 then
  some (u_Mo_outSize_out sMo ((q_Mo_outSize sMo) + 1) (upd (q_Mo_out sMo) ((q_Mo_outSize sMo) : Int32).toNatClampNeg (vp_nar .byte (a1 : Int32).toInt8.toInt32)))
  else none
def f_Mo_putAll_2 : Nat → Int64 → Int64 → SMo → Option SMo
  | 0, _, _, _ => none
  | n + 1, v1, v3, sMo =>
    if (lg_cmp v3 0) = 0 then
      some sMo
    else
      (f_Mo_put (((v3 &&& 255) : Int64).toInt32) sMo).bind fun x1 =>
      f_Mo_putAll_2 n v1 (((v3 : Int64).toUInt64 >>> ((8 : Int32).toInt64.toUInt64 &&& Int64.toUInt64 63)).toInt64) x1
def f_Mo_putAll (a1 : Int64) (sMo : SMo) : Option SMo :=
  f_Mo_putAll_2 FU a1 a1 sMo
def f_Mo_putNumber_18 : Nat → Int32 → Int32 → SMo → Option SMo
  | 0, _, _, _ => none
  | n + 1, v1, v2, sMo =>
    if v2 ≤ 0 then
      some sMo
    else
      if ¬ v2 = 0 then
      (f_Mo_put (48 + ((v1 / v2) - (v1 / v2) / 10 * 10)) sMo).bind fun x1 =>
      f_Mo_putNumber_18 n v1 (v2 / 10) x1
      else none
def f_Mo_putNumber_2 : Nat → Int32 → Int32 → SMo → Option SMo
  | 0, _, _, _ => none
  | n + 1, v1, v2, sMo =>
    if ¬ v2 = 0 then
    if (v1 / v2) ≤ 9 then
      f_Mo_putNumber_18 FU v1 v2 sMo
    else
      f_Mo_putNumber_2 n v1 (10 * v2) sMo
    else none
def f_Mo_putNumber (a1 : Int32) (sMo : SMo) : Option SMo :=
  f_Mo_putNumber_2 FU a1 1 sMo
def f_Mo_putCharacter_56 (v1 : Int32) (v2 : Int32) (sMo : SMo) : Option SMo :=
  if v1 = 13 then
    (f_Mo_putAll 8998 sMo).bind fun x4 =>
    (f_Mo_putNumber v1 x4).bind fun x5 =>
    (f_Mo_put 59 x5).bind fun x6 =>
    some x6
  else
    if v1 ≤ 255 then
      (f_Mo_put v1 sMo).bind fun x7 =>
      some x7
    else
      (f_Mo_putAll 8998 sMo).bind fun x8 =>
      (f_Mo_putNumber v1 x8).bind fun x9 =>
      (f_Mo_put 59 x9).bind fun x10 =>
      some x10
def f_Mo_putCharacter_36 (v1 : Int32) (v2 : Int32) (sMo : SMo) : Option SMo :=
  if v1 = 34 then
    if v2 = 0 then
      f_Mo_putCharacter_56 v1 v2 sMo
    else
      (f_Mo_putAll 65371272212774 sMo).bind fun x3 =>
      some x3
  else
    f_Mo_putCharacter_56 v1 v2 sMo
def f_Mo_putCharacter (a1 : Int32) (a2 : Int32) (sMo : SMo) : Option SMo :=
  if a1 = 38 then
    (f_Mo_putAll 255289286950 sMo).bind fun x2 =>
    some x2
  else
    if a1 = 60 then
      if a2 = 0 then
        (f_Mo_putAll 997485606 sMo).bind fun x1 =>
        some x1
      else
        f_Mo_putCharacter_36 a1 a2 sMo
    else
      f_Mo_putCharacter_36 a1 a2 sMo
def f_Mo_putRow_2 : Nat → Int32 → Int32 → Int32 → SMo → Option SMo
  | 0, _, _, _, _ => none
  | n + 1, v1, v2, v3, sMo =>
    if v2 ≤ v3 then
      some sMo
    else
      if ix (v1 + v3) 810 then
      if ((q_Mo_row sMo) ((v1 + v3) : Int32).toNatClampNeg) = 65533 then
        (f_Mo_put 0 sMo).bind fun x2 =>
        f_Mo_putRow_2 n v1 v2 (v3 + 1) x2
      else
        if ix (v1 + v3) 810 then
        (f_Mo_put ((q_Mo_row sMo) ((v1 + v3) : Int32).toNatClampNeg) sMo).bind fun x1 =>
        f_Mo_putRow_2 n v1 v2 (v3 + 1) x1
        else none
      else none
def f_Mo_putRow (a1 : Int32) (a2 : Int32) (sMo : SMo) : Option SMo :=
  f_Mo_putRow_2 FU a1 a2 0 sMo
def f_Mo_putTag_99 (k46 : Int32 → Int32 → SMo → Option SMo) : Nat → Int32 → Int32 → Int32 → SMo → Option SMo
  | 0, _, _, _, _ => none
  | n + 1, v1, v2, v3, sMo =>
    if ix v2 402 then
    if ((q_Mo_valueSize sMo) (v2 : Int32).toNatClampNeg) ≤ v3 then
      (f_Mo_put 34 sMo).bind fun x12 =>
      k46 v1 (v2 + 1) x12
    else
      if ix v2 402 then
      if ix (((q_Mo_valueAt sMo) (v2 : Int32).toNatClampNeg) + v3) 810 then
      (f_Mo_putCharacter ((q_Mo_row sMo) ((((q_Mo_valueAt sMo) (v2 : Int32).toNatClampNeg) + v3) : Int32).toNatClampNeg) 1 sMo).bind fun x13 =>
      f_Mo_putTag_99 k46 n v1 v2 (v3 + 1) x13
      else none
      else none
    else none
def f_Mo_putTag_46 : Nat → Int32 → Int32 → SMo → Option SMo
  | 0, _, _, _ => none
  | n + 1, v1, v2, sMo =>
    if ix v1 402 then
    if ix v1 402 then
    if (((q_Mo_attributes sMo) (v1 : Int32).toNatClampNeg) + ((q_Mo_manyOf sMo) (v1 : Int32).toNatClampNeg)) ≤ v2 then
      if ix v1 402 then
      if ((q_Mo_marks sMo) (v1 : Int32).toNatClampNeg) = 0 then
        (f_Mo_put 62 sMo).bind fun x5 =>
        some x5
      else
        (f_Mo_put 47 sMo).bind fun x6 =>
        (f_Mo_put 62 x6).bind fun x7 =>
        some x7
      else none
    else
      (f_Mo_put 32 sMo).bind fun x8 =>
      if ix v2 402 then
      if ix v2 402 then
      (f_Mo_putRow ((q_Mo_nameAt x8) (v2 : Int32).toNatClampNeg) ((q_Mo_nameSize x8) (v2 : Int32).toNatClampNeg) x8).bind fun x9 =>
      (f_Mo_put 61 x9).bind fun x10 =>
      (f_Mo_put 34 x10).bind fun x11 =>
      f_Mo_putTag_99 (fun v1 v2 sMo => f_Mo_putTag_46 n v1 v2 sMo) FU v1 v2 0 x11
      else none
      else none
    else none
    else none
def f_Mo_putTag (a1 : Int32) (sMo : SMo) : Option SMo :=
  if ix a1 402 then
  if ((q_Mo_kinds sMo) (a1 : Int32).toNatClampNeg) = 2 then
    (f_Mo_putAll 12092 sMo).bind fun x3 =>
    if ix a1 402 then
    if ix a1 402 then
    (f_Mo_putRow ((q_Mo_firsts x3) (a1 : Int32).toNatClampNeg) ((q_Mo_sizes x3) (a1 : Int32).toNatClampNeg) x3).bind fun x4 =>
    if ix a1 402 then
    f_Mo_putTag_46 FU a1 ((q_Mo_attributes x4) (a1 : Int32).toNatClampNeg) x4
    else none
    else none
    else none
  else
    (f_Mo_putAll 60 sMo).bind fun x1 =>
    if ix a1 402 then
    if ix a1 402 then
    (f_Mo_putRow ((q_Mo_firsts x1) (a1 : Int32).toNatClampNeg) ((q_Mo_sizes x1) (a1 : Int32).toNatClampNeg) x1).bind fun x2 =>
    if ix a1 402 then
    f_Mo_putTag_46 FU a1 ((q_Mo_attributes x2) (a1 : Int32).toNatClampNeg) x2
    else none
    else none
    else none
  else none
def f_Mo_write_26 (k7 : Int32 → SMo → Option (Int32 × SMo)) : Nat → Int32 → Int32 → SMo → Option (Int32 × SMo)
  | 0, _, _, _ => none
  | n + 1, v1, v2, sMo =>
    if ix v1 402 then
    if ((q_Mo_sizes sMo) (v1 : Int32).toNatClampNeg) ≤ v2 then
      k7 (v1 + 1) sMo
    else
      if ix v1 402 then
      if ix (((q_Mo_firsts sMo) (v1 : Int32).toNatClampNeg) + v2) 810 then
      (f_Mo_putCharacter ((q_Mo_row sMo) ((((q_Mo_firsts sMo) (v1 : Int32).toNatClampNeg) + v2) : Int32).toNatClampNeg) 0 sMo).bind fun x17 =>
      f_Mo_write_26 k7 n v1 (v2 + 1) x17
      else none
      else none
    else none
def f_Mo_write_7 : Nat → Int32 → SMo → Option (Int32 × SMo)
  | 0, _, _ => none
  | n + 1, v1, sMo =>
    if (q_Mo_tokens sMo) ≤ v1 then
      some ((q_Mo_outSize sMo), sMo)
    else
      if ix v1 402 then
      if ((q_Mo_kinds sMo) (v1 : Int32).toNatClampNeg) = 0 then
        f_Mo_write_26 (fun v1 sMo => f_Mo_write_7 n v1 sMo) FU v1 0 sMo
      else
        if ix v1 402 then
        if ((q_Mo_kinds sMo) (v1 : Int32).toNatClampNeg) = 3 then
          (f_Mo_putAll 757932348 sMo).bind fun x14 =>
          if ix v1 402 then
          if ix v1 402 then
          (f_Mo_putRow ((q_Mo_firsts x14) (v1 : Int32).toNatClampNeg) ((q_Mo_sizes x14) (v1 : Int32).toNatClampNeg) x14).bind fun x15 =>
          (f_Mo_putAll 4074797 x15).bind fun x16 =>
          f_Mo_write_7 n (v1 + 1) x16
          else none
          else none
        else
          if ix v1 402 then
          if ((q_Mo_kinds sMo) (v1 : Int32).toNatClampNeg) = 4 then
            (f_Mo_putAll 5789751444030890300 sMo).bind fun x2 =>
            (f_Mo_put 69 x2).bind fun x3 =>
            if ix v1 402 then
            if ((q_Mo_sizes x3) (v1 : Int32).toNatClampNeg) ≤ 0 then
              (f_Mo_putAll 0 x3).bind fun x4 =>
              if ix v1 402 then
              if ix v1 402 then
              (f_Mo_putRow ((q_Mo_firsts x4) (v1 : Int32).toNatClampNeg) ((q_Mo_sizes x4) (v1 : Int32).toNatClampNeg) x4).bind fun x5 =>
              if ix v1 402 then
              if ((q_Mo_sizes x5) (v1 : Int32).toNatClampNeg) ≤ 0 then
                (f_Mo_putAll 62 x5).bind fun x6 =>
                f_Mo_write_7 n (v1 + 1) x6
              else
                if ix v1 402 then
                if ((q_Mo_marks x5) (v1 : Int32).toNatClampNeg) = 0 then
                  (f_Mo_putAll 62 x5).bind fun x7 =>
                  f_Mo_write_7 n (v1 + 1) x7
                else
                  (f_Mo_putAll 4093984 x5).bind fun x8 =>
                  f_Mo_write_7 n (v1 + 1) x8
                else none
              else none
              else none
              else none
            else
              (f_Mo_putAll 32 x3).bind fun x9 =>
              if ix v1 402 then
              if ix v1 402 then
              (f_Mo_putRow ((q_Mo_firsts x9) (v1 : Int32).toNatClampNeg) ((q_Mo_sizes x9) (v1 : Int32).toNatClampNeg) x9).bind fun x10 =>
              if ix v1 402 then
              if ((q_Mo_sizes x10) (v1 : Int32).toNatClampNeg) ≤ 0 then
                (f_Mo_putAll 62 x10).bind fun x11 =>
                f_Mo_write_7 n (v1 + 1) x11
              else
                if ix v1 402 then
                if ((q_Mo_marks x10) (v1 : Int32).toNatClampNeg) = 0 then
                  (f_Mo_putAll 62 x10).bind fun x12 =>
                  f_Mo_write_7 n (v1 + 1) x12
                else
                  (f_Mo_putAll 4093984 x10).bind fun x13 =>
                  f_Mo_write_7 n (v1 + 1) x13
                else none
              else none
              else none
              else none
            else none
          else
            (f_Mo_putTag v1 sMo).bind fun x1 =>
            f_Mo_write_7 n (v1 + 1) x1
          else none
        else none
      else none
def f_Mo_write (sMo : SMo) : Option (Int32 × SMo) :=
  f_Mo_write_7 FU 0 (u_Mo_outSize sMo 0)
def f_Mo_word_6 : Nat → Int32 → Int64 → Int32 → SMo → Option Int64
  | 0, _, _, _, _ => none
  | n + 1, v1, v2, v4, sMo =>
    if v4 < 0 then
      some v2
    else
      if v1 < 0 then
        some v2
      else
        if 500 ≤ v1 then
          some v2
        else
          if (q_Mo_outSize sMo) ≤ ((8 * v1) + v4) then
            f_Mo_word_6 n v1 ((v2 <<< ((8 : Int32).toInt64 &&& 63)) ||| (0 : Int32).toInt64) (v4 + (-1)) sMo
          else
            if ix ((8 * v1) + v4) 4000 then
            f_Mo_word_6 n v1 ((v2 <<< ((8 : Int32).toInt64 &&& 63)) ||| ((((q_Mo_out sMo) (((8 * v1) + v4) : Int32).toNatClampNeg) &&& 255) : Int32).toInt64) (v4 + (-1)) sMo
            else none
def f_Mo_word (a1 : Int32) (sMo : SMo) : Option Int64 :=
  f_Mo_word_6 FU a1 0 7 sMo
