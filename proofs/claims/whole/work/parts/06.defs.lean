def FX9_isOctet (i0 : Int32) : Int32 :=
  if i0 < 0 then
    0
  else
    if 255 < i0 then
      0
    else
      1
def FX9_isLetter (i0 : Int32) : Int32 :=
  if i0 < 97 then
    0
  else
    if 122 < i0 then
      0
    else
      1
def FX9_isText (i0 : Int32) : Int32 :=
  if i0 < 0 then
    0
  else
    if 6 ≤ i0 then
      0
    else
      1
def FX9_unitsUpTo (i0 : Int32) : Int32 :=
  (((1 : Int32) <<< ((((i0 + (4 : Int32)) - (1 : Int32)) / (4 : Int32)) &&& 31)) - (1 : Int32))
def FX0_unit (fA : (Nat → Int32)) (ao : (Nat → Int32)) : Int32 :=
  ((ao 6) &&& (127 : Int32))
def FX0_size (fA : (Nat → Int32)) : Int32 :=
  ((fA 1) - (9 : Int32))
def FX0_isWhole (fA : (Nat → Int32)) (ao : (Nat → Int32)) : Int32 :=
  if (ao 6) = 0 then
    1
  else
    0
def FX0_isEnd (fA : (Nat → Int32)) (ao : (Nat → Int32)) : Int32 :=
  if 128 ≤ (ao 6) then
    0
  else
    1
def FX0_reach (fA : (Nat → Int32)) (ao : (Nat → Int32)) : Int32 :=
  (((4 : Int32) * (FX0_unit fA ao)) + (FX0_size fA))
def FX0_units (fA : (Nat → Int32)) (ao : (Nat → Int32)) : Int32 :=
  ((FX9_unitsUpTo (FX0_size fA)) <<< ((FX0_unit fA ao) &&& 31))
def FX0_isFitFragment (fA : (Nat → Int32)) (ao : (Nat → Int32)) : Int32 :=
  if 8 ≤ (FX0_unit fA ao) then
    0
  else
    if (FX0_reach fA ao) ≤ 32 then
      if (FX0_isEnd fA ao) = 0 then
        if (FX0_size fA) ≤ 0 then
          0
        else
          if ((FX0_size fA) - (FX0_size fA) / (4 : Int32) * (4 : Int32)) = 0 then
            1
          else
            0
      else
        1
    else
      0
def LX0_sumsToZero_4 (fA : (Nat → Int32)) (ao : (Nat → Int32)) : Nat → Int32 → Int32 → Int32
  | 0, _, _ => 0
  | n + 1, y2, y1 =>
    if (fA 1) ≤ y2 then
      if (y1 &&& (255 : Int32)) = 0 then
        1
      else
        0
    else
      LX0_sumsToZero_4 fA ao n (y2 + 1) (y1 + (ao y2.toNatClampNeg))
def FX0_sumsToZero (fA : (Nat → Int32)) (ao : (Nat → Int32)) : Int32 :=
  LX0_sumsToZero_4 fA ao 128 3 0
def FX0_isFitDatagram (fA : (Nat → Int32)) (ao : (Nat → Int32)) : Int32 :=
  if (fA 1) < 9 then
    0
  else
    if (ao 4) = 1 then
      if (FX0_sumsToZero fA ao) = 0 then
        0
      else
        if (FX0_isWhole fA ao) = 0 then
          if (FX0_isFitFragment fA ao) = 0 then
            0
          else
            1
        else
          1
    else
      0
def FX0_isFit (fA : (Nat → Int32)) (ao : (Nat → Int32)) : Int32 :=
  if (fA 1) < 5 then
    0
  else
    if (fA 1) ≤ 41 then
      if (ao 0) = 1 then
        if (ao 1) < 15 then
          if 16 ≤ (ao 3) then
            0
          else
            if (ao 4) < 16 then
              if (ao 2) = 1 then
                if (fA 1) = 5 then
                  1
                else
                  0
              else
                if (ao 2) = 2 then
                  if (fA 1) = 5 then
                    1
                  else
                    0
                else
                  if (ao 2) = 3 then
                    if (FX0_isFitDatagram fA ao) = 0 then
                      0
                    else
                      1
                  else
                    0
            else
              0
        else
          0
      else
        if (ao 0) = 15 then
          if (ao 1) < 15 then
            if 16 ≤ (ao 3) then
              0
            else
              if (ao 4) < 16 then
                if (ao 2) = 1 then
                  if (fA 1) = 5 then
                    1
                  else
                    0
                else
                  if (ao 2) = 2 then
                    if (fA 1) = 5 then
                      1
                    else
                      0
                  else
                    if (ao 2) = 3 then
                      if (FX0_isFitDatagram fA ao) = 0 then
                        0
                      else
                        1
                    else
                      0
              else
                0
          else
            0
        else
          0
    else
      0
def LX2_fill_19 (fD : (Nat → Int32)) (rb : (Nat → Int32)) (i0 : Int32) (i1 : Int32) (i2 : Int32) (i3 : Int32) : Nat → Int32 → (Nat → Int32) → (Nat → Int32) × (Nat → Int32)
  | 0, _, _ => ((fun _ => 0), (fun _ => 0))
  | n + 1, y6, z_dp =>
    if i3 ≤ y6 then
      ((upd (upd (upd fD 1 i0) 2 i1) 3 i3), z_dp)
    else
      LX2_fill_19 fD rb i0 i1 i2 i3 n (y6 + 1) (upd z_dp y6.toNatClampNeg (rb (i2 + y6).toNatClampNeg))
def FX2_fill (fD : (Nat → Int32)) (dp : (Nat → Int32)) (rb : (Nat → Int32)) (i0 : Int32) (i1 : Int32) (i2 : Int32) (i3 : Int32) : (Nat → Int32) × (Nat → Int32) :=
  LX2_fill_19 fD rb i0 i1 i2 i3 128 0 dp
def FX2_isEchoAsked (fD : (Nat → Int32)) (dp : (Nat → Int32)) : Int32 :=
  if (fD 2) = 1 then
    if (fD 3) ≤ 0 then
      0
    else
      if (dp 0) = 8 then
        1
      else
        0
  else
    0
def FX2_isSegment (fD : (Nat → Int32)) : Int32 :=
  if (fD 2) = 6 then
    if (fD 3) < 5 then
      0
    else
      1
  else
    0
def FX2_hasFlag (fD : (Nat → Int32)) (dp : (Nat → Int32)) (i0 : Int32) : Int32 :=
  if ((dp 3) &&& i0) = 0 then
    0
  else
    1
def FX2_wantsAck (fD : (Nat → Int32)) (dp : (Nat → Int32)) : Int32 :=
  if 5 < (fD 3) then
    1
  else
    if (FX2_hasFlag fD dp 1) = 0 then
      0
    else
      1
def FX1_begin (fM : (Nat → Int32)) (i0 : Int32) (i1 : Int32) : (Nat → Int32) :=
  (upd (upd (upd (upd (upd (upd (upd fM 1 1) 2 i0) 3 i1) 4 0) 5 0) 6 (-1)) 7 0)
def FX1_isOf (fM : (Nat → Int32)) (fA : (Nat → Int32)) (ao : (Nat → Int32)) : Int32 :=
  if (fM 1) = 0 then
    0
  else
    if (fM 2) = (ao 3) then
      if (fM 3) = (ao 5) then
        1
      else
        0
    else
      0
def FX1_clashesWith (fM : (Nat → Int32)) (fA : (Nat → Int32)) (ao : (Nat → Int32)) : Int32 :=
  if ((fM 5) &&& (FX0_units fA ao)) = 0 then
    if (fM 6) < 0 then
      if (FX0_isEnd fA ao) = 0 then
        0
      else
        if ((fM 5) >>> (((FX0_reach fA ao) / (4 : Int32)) &&& 31)) = 0 then
          0
        else
          1
    else
      if (fM 6) < (FX0_reach fA ao) then
        1
      else
        if (FX0_isEnd fA ao) = 0 then
          if (FX0_isEnd fA ao) = 0 then
            0
          else
            if ((fM 5) >>> (((FX0_reach fA ao) / (4 : Int32)) &&& 31)) = 0 then
              0
            else
              1
        else
          if (FX0_reach fA ao) = (fM 6) then
            if (FX0_isEnd fA ao) = 0 then
              0
            else
              if ((fM 5) >>> (((FX0_reach fA ao) / (4 : Int32)) &&& 31)) = 0 then
                0
              else
                1
          else
            1
  else
    1
def LX1_put_9 (fM : (Nat → Int32)) (fA : (Nat → Int32)) (ao : (Nat → Int32)) (x_2 : Int32) : Nat → Int32 → (Nat → Int32) → (Nat → Int32) × (Nat → Int32)
  | 0, _, _ => ((fun _ => 0), (fun _ => 0))
  | n + 1, y3, z_mo =>
    if (FX0_size fA) ≤ y3 then
      if (FX0_unit fA ao) = 0 then
        if (FX0_isEnd fA ao) = 0 then
          ((upd (upd fM 5 ((fM 5) ||| (FX0_units fA ao))) 4 (ao 7)), z_mo)
        else
          ((upd (upd (upd fM 5 ((fM 5) ||| (FX0_units fA ao))) 4 (ao 7)) 6 (FX0_reach fA ao)), z_mo)
      else
        if (FX0_isEnd fA ao) = 0 then
          ((upd fM 5 ((fM 5) ||| (FX0_units fA ao))), z_mo)
        else
          ((upd (upd fM 5 ((fM 5) ||| (FX0_units fA ao))) 6 (FX0_reach fA ao)), z_mo)
    else
      LX1_put_9 fM fA ao x_2 n (y3 + 1) (upd z_mo (x_2 + y3).toNatClampNeg (ao ((9 : Int32) + y3).toNatClampNeg))
def FX1_put (fM : (Nat → Int32)) (mo : (Nat → Int32)) (fA : (Nat → Int32)) (ao : (Nat → Int32)) : (Nat → Int32) × (Nat → Int32) :=
  LX1_put_9 fM fA ao ((4 : Int32) * (FX0_unit fA ao)) 128 0 mo
def FX1_isComplete (fM : (Nat → Int32)) : Int32 :=
  if (fM 6) < 0 then
    0
  else
    if (fM 5) = (FX9_unitsUpTo (fM 6)) then
      1
    else
      0
def FX1_tell (fM : (Nat → Int32)) (i0 : Int32) : Int32 :=
  if i0 = 0 then
    if (fM 1) = 0 then
      0
    else
      1
  else
    if i0 = 1 then
      if (fM 1) = 0 then
        0
      else
        (fM 2)
    else
      if i0 = 2 then
        if (fM 1) = 0 then
          0
        else
          (fM 3)
      else
        if i0 = 3 then
          if (fM 1) = 0 then
            0
          else
            (fM 5)
        else
          if i0 = 4 then
            if (fM 1) = 0 then
              0
            else
              (fM 6)
          else
            if i0 = 5 then
              if (fM 1) = 0 then
                0
              else
                (fM 7)
            else
              (-1)
def KX3_placeFor_79d (fG : (Nat → Int32)) (fMs : (Nat → Nat → Int32)) (w_24 : (Nat → Int32)) : Int32 × (Nat → Int32) × (Nat → Nat → Int32) :=
  (0, (upd fG 1 0), (va_up fMs 0 w_24))
def KX3_placeFor_79c (fG : (Nat → Int32)) (fMs : (Nat → Nat → Int32)) (w_22 : (Nat → Int32)) : Int32 × (Nat → Int32) × (Nat → Nat → Int32) :=
  (1, (upd fG 1 1), (va_up fMs 1 w_22))
def KX3_placeFor_79b (fG : (Nat → Int32)) (fMs : (Nat → Nat → Int32)) (w_18 : (Nat → Int32)) : Int32 × (Nat → Int32) × (Nat → Nat → Int32) :=
  (0, (upd fG 1 0), (va_up fMs 0 w_18))
def KX3_placeFor_79 (fG : (Nat → Int32)) (fMs : (Nat → Nat → Int32)) (x_8 : Int32) (w_15 : (Nat → Int32)) : Int32 × (Nat → Int32) × (Nat → Nat → Int32) :=
  (x_8, (upd fG 1 x_8), (va_up fMs x_8.toNatClampNeg w_15))
def FX3_placeFor (fG : (Nat → Int32)) (fMs : (Nat → Nat → Int32)) (fA : (Nat → Int32)) (ao : (Nat → Int32)) : Int32 × (Nat → Int32) × (Nat → Nat → Int32) :=
  if (FX1_isOf (fMs 0) fA ao) = 0 then
    if (FX1_isOf (fMs 1) fA ao) = 0 then
      if ((fMs 1) 1) = 0 then
        if ((fMs 0) 1) = 0 then
          KX3_placeFor_79d fG fMs (FX1_begin (fMs 0) (ao 3) (ao 5))
        else
          KX3_placeFor_79c fG fMs (FX1_begin (fMs 1) (ao 3) (ao 5))
      else
        if ((fMs 0) 1) = 0 then
          KX3_placeFor_79b fG fMs (FX1_begin (fMs 0) (ao 3) (ao 5))
        else
          KX3_placeFor_79 fG fMs ((1 : Int32) - (fG 1)) (FX1_begin (fMs ((1 : Int32) - (fG 1)).toNatClampNeg) (ao 3) (ao 5))
    else
      (1, fG, fMs)
  else
    (0, fG, fMs)
def KX3_completes_99 (mos : (Nat → Nat → Int32)) (r_3 : Int32) (u1_3 : (Nat → Int32)) (u2_3 : (Nat → Nat → Int32)) (u1_7 : (Nat → Int32)) (u2_7 : (Nat → Int32)) (w_10 : (Nat → Int32) × (Nat → Int32)) : Int32 × (Nat → Int32) × (Nat → Nat → Int32) × (Nat → Nat → Int32) × (Nat → Int32) × (Nat → Int32) :=
  (1, u1_3, (va_up u2_3 r_3.toNatClampNeg (upd u1_7 1 0)), (va_up mos r_3.toNatClampNeg u2_7), w_10.1, w_10.2)
def KX3_completes_64 (mos : (Nat → Nat → Int32)) (fD : (Nat → Int32)) (dp : (Nat → Int32)) (r_3 : Int32) (u1_3 : (Nat → Int32)) (u2_3 : (Nat → Nat → Int32)) (w_7 : (Nat → Int32) × (Nat → Int32)) : Int32 × (Nat → Int32) × (Nat → Nat → Int32) × (Nat → Nat → Int32) × (Nat → Int32) × (Nat → Int32) :=
  if (FX1_isComplete w_7.1) = 0 then
    (0, u1_3, (va_up u2_3 r_3.toNatClampNeg w_7.1), (va_up mos r_3.toNatClampNeg w_7.2), fD, dp)
  else
    KX3_completes_99 mos r_3 u1_3 u2_3 w_7.1 w_7.2 (FX2_fill fD dp w_7.2 (w_7.1 2) (w_7.1 4) 0 (w_7.1 6))
def KX3_completes_42 (mos : (Nat → Nat → Int32)) (fA : (Nat → Int32)) (ao : (Nat → Int32)) (fD : (Nat → Int32)) (dp : (Nat → Int32)) (w_3 : Int32 × (Nat → Int32) × (Nat → Nat → Int32)) : Int32 × (Nat → Int32) × (Nat → Nat → Int32) × (Nat → Nat → Int32) × (Nat → Int32) × (Nat → Int32) :=
  if (FX1_clashesWith (w_3.2.2 w_3.1.toNatClampNeg) fA ao) = 0 then
    KX3_completes_64 mos fD dp w_3.1 w_3.2.1 w_3.2.2 (FX1_put (w_3.2.2 w_3.1.toNatClampNeg) (mos w_3.1.toNatClampNeg) fA ao)
  else
    (0, w_3.2.1, (va_up w_3.2.2 w_3.1.toNatClampNeg (upd (w_3.2.2 w_3.1.toNatClampNeg) 1 0)), mos, fD, dp)
def KX3_completes_31 (fG : (Nat → Int32)) (fMs : (Nat → Nat → Int32)) (mos : (Nat → Nat → Int32)) (w_18 : (Nat → Int32) × (Nat → Int32)) : Int32 × (Nat → Int32) × (Nat → Nat → Int32) × (Nat → Nat → Int32) × (Nat → Int32) × (Nat → Int32) :=
  (1, fG, fMs, mos, w_18.1, w_18.2)
def FX3_completes (fG : (Nat → Int32)) (fMs : (Nat → Nat → Int32)) (mos : (Nat → Nat → Int32)) (fA : (Nat → Int32)) (ao : (Nat → Int32)) (fD : (Nat → Int32)) (dp : (Nat → Int32)) : Int32 × (Nat → Int32) × (Nat → Nat → Int32) × (Nat → Nat → Int32) × (Nat → Int32) × (Nat → Int32) :=
  if (FX0_isWhole fA ao) = 0 then
    KX3_completes_42 mos fA ao fD dp (FX3_placeFor fG fMs fA ao)
  else
    KX3_completes_31 fG fMs mos (FX2_fill fD dp ao (ao 3) (ao 7) 9 (FX0_size fA))
def FX3_grow (fG : (Nat → Int32)) (fMs : (Nat → Nat → Int32)) : (Nat → Nat → Int32) :=
  if (((fMs 0) 7) + (1 : Int32)) < 15 then
    if (((fMs 1) 7) + (1 : Int32)) < 15 then
      (va_up (va_up fMs 0 (upd (fMs 0) 7 (((fMs 0) 7) + (1 : Int32)))) 1 (upd (fMs 1) 7 (((fMs 1) 7) + (1 : Int32))))
    else
      (va_up (va_up fMs 0 (upd (fMs 0) 7 (((fMs 0) 7) + (1 : Int32)))) 1 (upd (upd (fMs 1) 7 (((fMs 1) 7) + (1 : Int32))) 1 0))
  else
    if (((fMs 1) 7) + (1 : Int32)) < 15 then
      (va_up (va_up fMs 0 (upd (upd (fMs 0) 7 (((fMs 0) 7) + (1 : Int32))) 1 0)) 1 (upd (fMs 1) 7 (((fMs 1) 7) + (1 : Int32))))
    else
      (va_up (va_up fMs 0 (upd (upd (fMs 0) 7 (((fMs 0) 7) + (1 : Int32))) 1 0)) 1 (upd (upd (fMs 1) 7 (((fMs 1) 7) + (1 : Int32))) 1 0))
def FX8_nextFrame (fW : (Nat → Int32)) (wl : (Nat → Int32)) (i0 : Int32) : Nat × (Nat → Int32) × (Nat → Int32) :=
  ((((fW 3) + (1 : Int32)) - ((fW 3) + (1 : Int32)) / (12 : Int32) * (12 : Int32)).toNatClampNeg, (upd (upd fW 3 (((fW 3) + (1 : Int32)) - ((fW 3) + (1 : Int32)) / (12 : Int32) * (12 : Int32))) 4 ((fW 4) + (1 : Int32))), (upd wl (((fW 3) + (1 : Int32)) - ((fW 3) + (1 : Int32)) / (12 : Int32) * (12 : Int32)).toNatClampNeg i0))
def FX8_look (fW : (Nat → Int32)) (wl : (Nat → Int32)) (wr : (Nat → Nat → Int32)) (i0 : Int32) (i1 : Int32) : Int32 :=
  if i0 < 0 then
    (-1)
  else
    if 12 ≤ i0 then
      (-1)
    else
      if i0 < (fW 4) then
        if i1 < 0 then
          (-1)
        else
          if i1 < (wl ((((fW 3) + (12 : Int32)) - i0) - (((fW 3) + (12 : Int32)) - i0) / (12 : Int32) * (12 : Int32)).toNatClampNeg) then
            ((wr ((((fW 3) + (12 : Int32)) - i0) - (((fW 3) + (12 : Int32)) - i0) / (12 : Int32) * (12 : Int32)).toNatClampNeg) i1.toNatClampNeg)
          else
            (-1)
      else
        (-1)
def KX8_sendShort_2 (wr : (Nat → Nat → Int32)) (i0 : Int32) (i1 : Int32) (i2 : Int32) (w_1 : Nat × (Nat → Int32) × (Nat → Int32)) : (Nat → Int32) × (Nat → Int32) × (Nat → Nat → Int32) :=
  (w_1.2.1, w_1.2.2, (va_up wr w_1.1 (upd (upd (upd (upd (upd (wr w_1.1) 0 i0) 1 1) 2 i1) 3 1) 4 i2)))
def FX8_sendShort (fW : (Nat → Int32)) (wl : (Nat → Int32)) (wr : (Nat → Nat → Int32)) (i0 : Int32) (i1 : Int32) (i2 : Int32) : (Nat → Int32) × (Nat → Int32) × (Nat → Nat → Int32) :=
  KX8_sendShort_2 wr i0 i1 i2 (FX8_nextFrame fW wl 5)
def LX8_sendPiece_88 (rb : (Nat → Int32)) (i2 : Int32) (i3 : Int32) (u1_1 : (Nat → Int32)) (u2_1 : (Nat → Int32)) (n_1 : Nat) : Nat → Int32 → Int32 → (Nat → Nat → Int32) → (Nat → Int32) × (Nat → Int32) × (Nat → Nat → Int32)
  | 0, _, _, _ => ((fun _ => 0), (fun _ => 0), (fun _ _ => 0))
  | n + 1, y9, y8, z_wr =>
    if i3 ≤ y9 then
      (u1_1, u2_1, (va_up z_wr n_1 (upd (z_wr n_1) 8 ((-y8) &&& (255 : Int32)))))
    else
      LX8_sendPiece_88 rb i2 i3 u1_1 u2_1 n_1 n (y9 + 1) (y8 + (rb y9.toNatClampNeg)) (va_up z_wr n_1 (upd (z_wr n_1) (((9 : Int32) + y9) - i2).toNatClampNeg (rb y9.toNatClampNeg)))
def KX8_sendPiece_9 (wst : (Nat → Int32)) (wr : (Nat → Nat → Int32)) (rb : (Nat → Int32)) (i0 : Int32) (i1 : Int32) (i2 : Int32) (i3 : Int32) (i4 : Int32) (w_1 : Nat × (Nat → Int32) × (Nat → Int32)) : (Nat → Int32) × (Nat → Int32) × (Nat → Nat → Int32) :=
  LX8_sendPiece_88 rb i2 i3 w_1.2.1 w_1.2.2 w_1.1 128 i2 (((((1 : Int32) + i0) + ((upd (upd (upd (upd (upd (upd (upd (upd (wr w_1.1) 0 (wst i0.toNatClampNeg)) 1 1) 2 3) 3 1) 4 i0) 5 ((w_1.2.1 5) &&& (255 : Int32))) 6 i4) 7 i1) 5)) + i4) + i1) (va_up wr w_1.1 (upd (upd (upd (upd (upd (upd (upd (upd (wr w_1.1) 0 (wst i0.toNatClampNeg)) 1 1) 2 3) 3 1) 4 i0) 5 ((w_1.2.1 5) &&& (255 : Int32))) 6 i4) 7 i1))
def FX8_sendPiece (fW : (Nat → Int32)) (wst : (Nat → Int32)) (wl : (Nat → Int32)) (wr : (Nat → Nat → Int32)) (rb : (Nat → Int32)) (i0 : Int32) (i1 : Int32) (i2 : Int32) (i3 : Int32) (i4 : Int32) : (Nat → Int32) × (Nat → Int32) × (Nat → Nat → Int32) :=
  KX8_sendPiece_9 wst wr rb i0 i1 i2 i3 i4 (FX8_nextFrame fW wl (((9 : Int32) + i3) - i2))
def KX8_sendPayload_15 (w_8 : (Nat → Int32) × (Nat → Int32) × (Nat → Nat → Int32)) : (Nat → Int32) × (Nat → Int32) × (Nat → Nat → Int32) :=
  (w_8.1, w_8.2.1, w_8.2.2)
def KX8_sendPayload_62 (w_3 : (Nat → Int32) × (Nat → Int32) × (Nat → Nat → Int32)) : (Nat → Int32) × (Nat → Int32) × (Nat → Nat → Int32) :=
  ((upd w_3.1 5 ((w_3.1 5) + (1 : Int32))), w_3.2.1, w_3.2.2)
def KX8_sendPayload_48 (w_6 : (Nat → Int32) × (Nat → Int32) × (Nat → Nat → Int32)) : (Nat → Int32) × (Nat → Int32) × (Nat → Nat → Int32) :=
  ((upd w_6.1 5 ((w_6.1 5) + (1 : Int32))), w_6.2.1, w_6.2.2)
def KX8_sendPayload_36 (wst : (Nat → Int32)) (rb : (Nat → Int32)) (i0 : Int32) (i1 : Int32) (i2 : Int32) (w_5 : (Nat → Int32) × (Nat → Int32) × (Nat → Nat → Int32)) : (Nat → Int32) × (Nat → Int32) × (Nat → Nat → Int32) :=
  KX8_sendPayload_48 (FX8_sendPiece w_5.1 wst w_5.2.1 w_5.2.2 rb i0 i1 16 i2 4)
def FX8_sendPayload (fW : (Nat → Int32)) (wst : (Nat → Int32)) (wl : (Nat → Int32)) (wr : (Nat → Nat → Int32)) (rb : (Nat → Int32)) (i0 : Int32) (i1 : Int32) (i2 : Int32) : (Nat → Int32) × (Nat → Int32) × (Nat → Nat → Int32) :=
  if (wst i0.toNatClampNeg) = (-1) then
    KX8_sendPayload_15 (FX8_sendShort fW wl wr 15 1 i0)
  else
    if i2 ≤ 16 then
      KX8_sendPayload_62 (FX8_sendPiece fW wst wl wr rb i0 i1 0 i2 0)
    else
      KX8_sendPayload_36 wst rb i0 i1 i2 (FX8_sendPiece fW wst wl wr rb i0 i1 0 16 128)
def FX7_addLetter (fT : (Nat → Int32)) (tl : (Nat → Int32)) (i0 : Int32) : Int32 × (Nat → Int32) × (Nat → Int32) :=
  if (fT 2) < 4 then
    (((fT 2) + (1 : Int32)), (upd fT 2 ((fT 2) + (1 : Int32))), (upd tl (fT 2).toNatClampNeg i0))
  else
    ((-2), fT, tl)
def FX7_addOctet (fT : (Nat → Int32)) (tb : (Nat → Int32)) (i0 : Int32) : Int32 × (Nat → Int32) × (Nat → Int32) :=
  if (fT 4) < 16 then
    (((fT 4) + (1 : Int32)), (upd (upd fT 4 ((fT 4) + (1 : Int32))) 3 (((fT 3) + i0) &&& (255 : Int32))), (upd tb (fT 4).toNatClampNeg i0))
  else
    ((-2), fT, tb)
def FX7_replace (fT : (Nat → Int32)) (tb : (Nat → Int32)) (i0 : Int32) (i1 : Int32) : Int32 × (Nat → Int32) :=
  if i0 < 0 then
    ((-1), tb)
  else
    if i0 < (fT 4) then
      ((tb i0.toNatClampNeg), (upd tb i0.toNatClampNeg i1))
    else
      ((-1), tb)
def FX7_empty (fT : (Nat → Int32)) : Int32 × (Nat → Int32) :=
  ((fT 4), (upd (upd (upd fT 2 0) 4 0) 3 0))
def LX7_isAskedBy_14 (fT : (Nat → Int32)) (tl : (Nat → Int32)) (rb : (Nat → Int32)) : Nat → Int32 → Int32
  | 0, _ => 0
  | n + 1, y3 =>
    if (fT 2) ≤ y3 then
      1
    else
      if (tl y3.toNatClampNeg) = (rb ((1 : Int32) + y3).toNatClampNeg) then
        LX7_isAskedBy_14 fT tl rb n (y3 + 1)
      else
        0
def FX7_isAskedBy (fT : (Nat → Int32)) (tl : (Nat → Int32)) (rb : (Nat → Int32)) (i0 : Int32) : Int32 :=
  if (fT 2) = (i0 - (2 : Int32)) then
    LX7_isAskedBy_14 fT tl rb 128 0
  else
    0
def LX7_isSound_4 (fT : (Nat → Int32)) (tb : (Nat → Int32)) : Nat → Int32 → Int32 → Int32
  | 0, _, _ => 0
  | n + 1, y2, y1 =>
    if (fT 4) ≤ y2 then
      if (y1 &&& (255 : Int32)) = (fT 3) then
        1
      else
        0
    else
      LX7_isSound_4 fT tb n (y2 + 1) (y1 + (tb y2.toNatClampNeg))
def FX7_isSound (fT : (Nat → Int32)) (tb : (Nat → Int32)) : Int32 :=
  LX7_isSound_4 fT tb 128 0 0
def FX4_put (fH : (Nat → Int32)) (an : (Nat → Int32)) (i0 : Int32) : (Nat → Int32) × (Nat → Int32) :=
  ((upd fH 2 ((fH 2) + (1 : Int32))), (upd an (fH 2).toNatClampNeg i0))
def LX4_isRequest_15 (rb : (Nat → Int32)) (i0 : Int32) : Nat → Int32 → Int32
  | 0, _ => 0
  | n + 1, y2 =>
    if (i0 - (1 : Int32)) ≤ y2 then
      if (rb 0) = 71 then
        if (rb (i0 - (1 : Int32)).toNatClampNeg) = 10 then
          1
        else
          0
      else
        0
    else
      if (FX9_isLetter (rb y2.toNatClampNeg)) = 0 then
        0
      else
        LX4_isRequest_15 rb i0 n (y2 + 1)
def FX4_isRequest (rb : (Nat → Int32)) (i0 : Int32) : Int32 :=
  if i0 < 3 then
    0
  else
    if i0 ≤ 6 then
      LX4_isRequest_15 rb i0 128 1
    else
      0
def FX4_find (fH : (Nat → Int32)) (fTs : (Nat → Nat → Int32)) (tls : (Nat → Nat → Int32)) (rb : (Nat → Int32)) (i0 : Int32) : Nat :=
  if (FX7_isAskedBy (fTs 0) (tls 0) rb i0) = 0 then
    if (FX7_isAskedBy (fTs 1) (tls 1) rb i0) = 0 then
      if (FX7_isAskedBy (fTs 2) (tls 2) rb i0) = 0 then
        if (FX7_isAskedBy (fTs 3) (tls 3) rb i0) = 0 then
          if (FX7_isAskedBy (fTs 4) (tls 4) rb i0) = 0 then
            if (FX7_isAskedBy (fTs 5) (tls 5) rb i0) = 0 then
              6
            else
              5
          else
            4
        else
          3
      else
        2
    else
      1
  else
    0
def KX4_putTextN_7 (w_1 : (Nat → Int32) × (Nat → Int32)) : (Nat → Int32) × (Nat → Int32) :=
  (w_1.1, w_1.2)
def FX4_putTextN (fH : (Nat → Int32)) (an : (Nat → Int32)) : (Nat → Int32) × (Nat → Int32) :=
  KX4_putTextN_7 (FX4_put fH an 52)
def KX4_putText_52 (w_5 : (Nat → Int32) × (Nat → Int32)) (y2 : Int32) (lf : Int32 → (Nat → Int32) → (Nat → Int32) → (Nat → Int32) × (Nat → Int32)) : (Nat → Int32) × (Nat → Int32) :=
  lf (y2 + 1) w_5.1 w_5.2
def LX4_putText_37 (fT : (Nat → Int32)) (tb : (Nat → Int32)) : Nat → Int32 → (Nat → Int32) → (Nat → Int32) → (Nat → Int32) × (Nat → Int32)
  | 0, _, _, _ => ((fun _ => 0), (fun _ => 0))
  | n + 1, y2, z_fH, z_an =>
    if (fT 4) ≤ y2 then
      (z_fH, z_an)
    else
      KX4_putText_52 (FX4_put z_fH z_an (tb y2.toNatClampNeg)) y2 (LX4_putText_37 fT tb n)
def KX4_putText_23 (w_7 : (Nat → Int32) × (Nat → Int32)) : (Nat → Int32) × (Nat → Int32) :=
  (w_7.1, w_7.2)
def KX4_putText_32 (fT : (Nat → Int32)) (tb : (Nat → Int32)) (w_3 : (Nat → Int32) × (Nat → Int32)) : (Nat → Int32) × (Nat → Int32) :=
  LX4_putText_37 fT tb 128 0 w_3.1 w_3.2
def FX4_putText (fH : (Nat → Int32)) (an : (Nat → Int32)) (fT : (Nat → Int32)) (tb : (Nat → Int32)) : (Nat → Int32) × (Nat → Int32) :=
  if (FX7_isSound fT tb) = 0 then
    KX4_putText_23 (FX4_put fH an 53)
  else
    KX4_putText_32 fT tb (FX4_put fH an 50)
def KX4_answerTo_35c (w_21 : (Nat → Int32) × (Nat → Int32)) : (Nat → Int32) × (Nat → Int32) :=
  (w_21.1, w_21.2)
def KX4_answerTo_16 (w_20 : (Nat → Int32) × (Nat → Int32)) : (Nat → Int32) × (Nat → Int32) :=
  KX4_answerTo_35c (FX4_put w_20.1 w_20.2 10)
def KX4_answerTo_35 (w_7 : (Nat → Int32) × (Nat → Int32)) : (Nat → Int32) × (Nat → Int32) :=
  (w_7.1, w_7.2)
def KX4_answerTo_29 (w_6 : (Nat → Int32) × (Nat → Int32)) : (Nat → Int32) × (Nat → Int32) :=
  KX4_answerTo_35 (FX4_put w_6.1 w_6.2 10)
def KX4_answerTo_35b (w_19 : (Nat → Int32) × (Nat → Int32)) : (Nat → Int32) × (Nat → Int32) :=
  (w_19.1, w_19.2)
def KX4_answerTo_29b (w_18 : (Nat → Int32) × (Nat → Int32)) : (Nat → Int32) × (Nat → Int32) :=
  KX4_answerTo_35b (FX4_put w_18.1 w_18.2 10)
def FX4_answerTo (fH : (Nat → Int32)) (fTs : (Nat → Nat → Int32)) (tls : (Nat → Nat → Int32)) (tbs : (Nat → Nat → Int32)) (an : (Nat → Int32)) (rb : (Nat → Int32)) (i0 : Int32) : (Nat → Int32) × (Nat → Int32) :=
  if (FX4_isRequest rb i0) = 0 then
    KX4_answerTo_16 (FX4_put (upd fH 2 0) an 48)
  else
    if (FX4_find (upd fH 2 0) fTs tls rb i0) < 6 then
      KX4_answerTo_29 (FX4_putText (upd fH 2 0) an (fTs (FX4_find (upd fH 2 0) fTs tls rb i0)) (tbs (FX4_find (upd fH 2 0) fTs tls rb i0)))
    else
      KX4_answerTo_29b (FX4_putTextN (upd fH 2 0) an)
def FX5_begin (fS : (Nat → Int32)) (fD : (Nat → Int32)) (dp : (Nat → Int32)) (i0 : Int32) : (Nat → Int32) :=
  (upd (upd (upd (upd (upd (upd (upd (upd (upd (upd (upd (upd fS 2 1) 3 (fD 1)) 4 (dp 0)) 5 (((dp 1) + (1 : Int32)) &&& (255 : Int32))) 6 i0) 7 i0) 8 0) 9 0) 10 (dp 4)) 11 1) 12 0) 13 0)
def FX5_onTheWay (fS : (Nat → Int32)) : Int32 :=
  (((fS 7) - (fS 6)) &&& (255 : Int32))
def FX5_tickEndsTimer (fS : (Nat → Int32)) : Int32 × (Nat → Int32) :=
  if (fS 2) = 0 then
    (0, fS)
  else
    if (fS 6) = (fS 7) then
      (0, fS)
    else
      if ((fS 13) + (1 : Int32)) < ((4 : Int32) <<< ((fS 12) &&& 31)) then
        (0, (upd fS 13 ((fS 13) + (1 : Int32))))
      else
        (1, (upd fS 13 ((fS 13) + (1 : Int32))))
def FX5_goBack (fS : (Nat → Int32)) : (Nat → Int32) :=
  if (fS 2) = 4 then
    (upd (upd (upd (upd (upd fS 12 ((fS 12) + (1 : Int32))) 11 1) 13 0) 7 (fS 6)) 2 3)
  else
    (upd (upd (upd (upd fS 12 ((fS 12) + (1 : Int32))) 11 1) 13 0) 7 (fS 6))
def FX5_goOn (fS : (Nat → Int32)) (i0 : Int32) : (Nat → Int32) :=
  if (fS 6) = (fS 7) then
    (upd (upd fS 13 0) 7 (((fS 7) + i0) &&& (255 : Int32)))
  else
    (upd fS 7 (((fS 7) + i0) &&& (255 : Int32)))
def LX5_removeFirst_7 (i1 : Int32) (x_1 : Int32) : Nat → Int32 → (Nat → Int32) → Int32 × (Nat → Int32)
  | 0, _, _ => (0, (fun _ => 0))
  | n + 1, y4, z_rb =>
    if x_1 ≤ y4 then
      (x_1, z_rb)
    else
      LX5_removeFirst_7 i1 x_1 n (y4 + 1) (upd z_rb y4.toNatClampNeg (z_rb (i1 + y4).toNatClampNeg))
def FX5_removeFirst (rb : (Nat → Int32)) (i0 : Int32) (i1 : Int32) : Int32 × (Nat → Int32) :=
  LX5_removeFirst_7 i1 (i0 - i1) 128 0 rb
def KX5_acknowledge_85 (fS : (Nat → Int32)) (i0 : Int32) (x_5 : Int32) (w_8 : Int32 × (Nat → Int32)) : (Nat → Int32) × (Nat → Int32) :=
  if (fS 2) = 4 then
    if i0 = (fS 7) then
      ((upd (upd (upd (upd (upd (upd fS 6 i0) 11 x_5) 12 0) 13 0) 8 w_8.1) 2 0), w_8.2)
    else
      ((upd (upd (upd (upd (upd fS 6 i0) 11 x_5) 12 0) 13 0) 8 w_8.1), w_8.2)
  else
    ((upd (upd (upd (upd (upd fS 6 i0) 11 x_5) 12 0) 13 0) 8 w_8.1), w_8.2)
def FX5_acknowledge (fS : (Nat → Int32)) (so : (Nat → Int32)) (i0 : Int32) : (Nat → Int32) × (Nat → Int32) :=
  if ((i0 - (fS 6)) &&& (255 : Int32)) < 1 then
    (fS, so)
  else
    if ((i0 - (fS 6)) &&& (255 : Int32)) ≤ (FX5_onTheWay fS) then
      if (fS 2) = 1 then
        ((upd (upd (upd (upd (upd fS 6 i0) 11 (mn ((fS 11) + (1 : Int32)) (4 : Int32))) 12 0) 13 0) 2 2), so)
      else
        KX5_acknowledge_85 fS i0 (mn ((fS 11) + (1 : Int32)) (4 : Int32)) (FX5_removeFirst so (fS 8) (mn ((i0 - (fS 6)) &&& (255 : Int32)) (fS 8)))
    else
      (fS, so)
def LX5_takeIn_44 (fS : (Nat → Int32)) (fD : (Nat → Int32)) (dp : (Nat → Int32)) (x_3 : Int32) (x_4 : Int32) : Nat → Int32 → (Nat → Int32) → (Nat → Int32) × (Nat → Int32)
  | 0, _, _ => ((fun _ => 0), (fun _ => 0))
  | n + 1, y4, z_si =>
    if x_4 ≤ y4 then
      if x_4 = x_3 then
        if (FX2_hasFlag fD dp 1) = 0 then
          ((upd (upd fS 9 ((fS 9) + x_4)) 5 (((fS 5) + x_4) &&& (255 : Int32))), z_si)
        else
          ((upd (upd (upd (upd fS 9 ((fS 9) + x_4)) 5 (((fS 5) + x_4) &&& (255 : Int32))) 5 (((((fS 5) + x_4) &&& (255 : Int32)) + (1 : Int32)) &&& (255 : Int32))) 2 3), z_si)
      else
        ((upd (upd fS 9 ((fS 9) + x_4)) 5 (((fS 5) + x_4) &&& (255 : Int32))), z_si)
    else
      LX5_takeIn_44 fS fD dp x_3 x_4 n (y4 + 1) (upd z_si ((fS 9) + y4).toNatClampNeg (dp ((5 : Int32) + y4).toNatClampNeg))
def FX5_takeIn (fS : (Nat → Int32)) (si : (Nat → Int32)) (fD : (Nat → Int32)) (dp : (Nat → Int32)) : (Nat → Int32) × (Nat → Int32) :=
  if (fS 2) = 2 then
    if (dp 1) = (fS 5) then
      LX5_takeIn_44 fS fD dp ((fD 3) - (5 : Int32)) (mn ((fD 3) - (5 : Int32)) ((16 : Int32) - (fS 9))) 128 0 si
    else
      (fS, si)
  else
    (fS, si)
def KX5_follow_41 (u2_1 : (Nat → Int32)) (w_5 : (Nat → Int32) × (Nat → Int32)) : Int32 × (Nat → Int32) × (Nat → Int32) × (Nat → Int32) :=
  (1, w_5.1, u2_1, w_5.2)
def KX5_follow_7 (si : (Nat → Int32)) (fD : (Nat → Int32)) (dp : (Nat → Int32)) (w_1 : (Nat → Int32) × (Nat → Int32)) : Int32 × (Nat → Int32) × (Nat → Int32) × (Nat → Int32) :=
  if (w_1.1 2) = 0 then
    (0, w_1.1, w_1.2, si)
  else
    if (w_1.1 2) = 1 then
      (0, (upd w_1.1 10 (dp 4)), w_1.2, si)
    else
      KX5_follow_41 w_1.2 (FX5_takeIn (upd w_1.1 10 (dp 4)) si fD dp)
def FX5_follow (fS : (Nat → Int32)) (so : (Nat → Int32)) (si : (Nat → Int32)) (fD : (Nat → Int32)) (dp : (Nat → Int32)) : Int32 × (Nat → Int32) × (Nat → Int32) × (Nat → Int32) :=
  KX5_follow_7 si fD dp (FX5_acknowledge fS so (dp 2))
def LX5_lineLength_12 (si : (Nat → Int32)) (x_1 : Int32) : Nat → Int32 → Int32
  | 0, _ => 0
  | n + 1, y2 =>
    if x_1 ≤ y2 then
      if x_1 = 7 then
        7
      else
        0
    else
      if (si y2.toNatClampNeg) = 10 then
        (y2 + (1 : Int32))
      else
        LX5_lineLength_12 si x_1 n (y2 + 1)
def FX5_lineLength (fS : (Nat → Int32)) (si : (Nat → Int32)) : Int32 :=
  LX5_lineLength_12 si (mn (fS 9) (7 : Int32)) 128 0
def LX5_replaceLine_19 (fS : (Nat → Int32)) (rb : (Nat → Int32)) (i1 : Int32) (r_1 : Int32) (u1_1 : (Nat → Int32)) : Nat → Int32 → (Nat → Int32) → (Nat → Int32) × (Nat → Int32) × (Nat → Int32)
  | 0, _, _ => ((fun _ => 0), (fun _ => 0), (fun _ => 0))
  | n + 1, y4, z_so =>
    if i1 ≤ y4 then
      ((upd (upd fS 9 r_1) 8 ((fS 8) + i1)), z_so, u1_1)
    else
      LX5_replaceLine_19 fS rb i1 r_1 u1_1 n (y4 + 1) (upd z_so ((fS 8) + y4).toNatClampNeg (rb y4.toNatClampNeg))
def KX5_replaceLine_10 (fS : (Nat → Int32)) (so : (Nat → Int32)) (rb : (Nat → Int32)) (i1 : Int32) (w_1 : Int32 × (Nat → Int32)) : (Nat → Int32) × (Nat → Int32) × (Nat → Int32) :=
  LX5_replaceLine_19 fS rb i1 w_1.1 w_1.2 128 0 so
def FX5_replaceLine (fS : (Nat → Int32)) (so : (Nat → Int32)) (si : (Nat → Int32)) (rb : (Nat → Int32)) (i0 : Int32) (i1 : Int32) : (Nat → Int32) × (Nat → Int32) × (Nat → Int32) :=
  KX5_replaceLine_10 fS so rb i1 (FX5_removeFirst si (fS 9) i0)
def FX5_nextSegmentSize (fS : (Nat → Int32)) : Int32 :=
  (mx (0 : Int32) (mn (8 : Int32) (mn ((mn (fS 10) ((8 : Int32) * (fS 11))) - (FX5_onTheWay fS)) ((fS 8) - (FX5_onTheWay fS)))))
def FX5_canEnd (fS : (Nat → Int32)) (si : (Nat → Int32)) : Int32 :=
  if (fS 2) = 3 then
    if (FX5_onTheWay fS) = (fS 8) then
      if (FX5_lineLength fS si) = 0 then
        1
      else
        0
    else
      0
  else
    0
def FX5_tell (fS : (Nat → Int32)) (i0 : Int32) : Int32 :=
  if i0 = 0 then
    if (fS 2) = 0 then
      0
    else
      (fS 2)
  else
    if i0 = 1 then
      if (fS 2) = 0 then
        0
      else
        (fS 3)
    else
      if i0 = 2 then
        if (fS 2) = 0 then
          0
        else
          (fS 4)
      else
        if i0 = 3 then
          if (fS 2) = 0 then
            0
          else
            (fS 5)
        else
          if i0 = 4 then
            if (fS 2) = 0 then
              0
            else
              (fS 6)
          else
            if i0 = 5 then
              if (fS 2) = 0 then
                0
              else
                (fS 7)
            else
              if i0 = 6 then
                if (fS 2) = 0 then
                  0
                else
                  (fS 8)
              else
                if i0 = 7 then
                  if (fS 2) = 0 then
                    0
                  else
                    (fS 9)
                else
                  if i0 = 8 then
                    if (fS 2) = 0 then
                      0
                    else
                      (fS 10)
                  else
                    if i0 = 9 then
                      if (fS 2) = 0 then
                        0
                      else
                        (fS 11)
                    else
                      if i0 = 10 then
                        if (fS 2) = 0 then
                          0
                        else
                          (fS 12)
                      else
                        if i0 = 11 then
                          if (fS 2) = 0 then
                            0
                          else
                            (fS 13)
                        else
                          (-1)
def FX6_find (fR : (Nat → Int32)) (fSs : (Nat → Nat → Int32)) (i0 : Int32) (i1 : Int32) : Nat :=
  if ((fSs 0) 2) = 0 then
    if ((fSs 1) 2) = 0 then
      if ((fSs 2) 2) = 0 then
        3
      else
        if ((fSs 2) 3) = i0 then
          if ((fSs 2) 4) = i1 then
            2
          else
            3
        else
          3
    else
      if ((fSs 1) 3) = i0 then
        if ((fSs 1) 4) = i1 then
          1
        else
          if ((fSs 2) 2) = 0 then
            3
          else
            if ((fSs 2) 3) = i0 then
              if ((fSs 2) 4) = i1 then
                2
              else
                3
            else
              3
      else
        if ((fSs 2) 2) = 0 then
          3
        else
          if ((fSs 2) 3) = i0 then
            if ((fSs 2) 4) = i1 then
              2
            else
              3
          else
            3
  else
    if ((fSs 0) 3) = i0 then
      if ((fSs 0) 4) = i1 then
        0
      else
        if ((fSs 1) 2) = 0 then
          if ((fSs 2) 2) = 0 then
            3
          else
            if ((fSs 2) 3) = i0 then
              if ((fSs 2) 4) = i1 then
                2
              else
                3
            else
              3
        else
          if ((fSs 1) 3) = i0 then
            if ((fSs 1) 4) = i1 then
              1
            else
              if ((fSs 2) 2) = 0 then
                3
              else
                if ((fSs 2) 3) = i0 then
                  if ((fSs 2) 4) = i1 then
                    2
                  else
                    3
                else
                  3
          else
            if ((fSs 2) 2) = 0 then
              3
            else
              if ((fSs 2) 3) = i0 then
                if ((fSs 2) 4) = i1 then
                  2
                else
                  3
              else
                3
    else
      if ((fSs 1) 2) = 0 then
        if ((fSs 2) 2) = 0 then
          3
        else
          if ((fSs 2) 3) = i0 then
            if ((fSs 2) 4) = i1 then
              2
            else
              3
          else
            3
      else
        if ((fSs 1) 3) = i0 then
          if ((fSs 1) 4) = i1 then
            1
          else
            if ((fSs 2) 2) = 0 then
              3
            else
              if ((fSs 2) 3) = i0 then
                if ((fSs 2) 4) = i1 then
                  2
                else
                  3
              else
                3
        else
          if ((fSs 2) 2) = 0 then
            3
          else
            if ((fSs 2) 3) = i0 then
              if ((fSs 2) 4) = i1 then
                2
              else
                3
            else
              3
def FX6_findFree (fR : (Nat → Int32)) (fSs : (Nat → Nat → Int32)) : Nat :=
  if ((fSs 0) 2) = 0 then
    0
  else
    if ((fSs 1) 2) = 0 then
      1
    else
      if ((fSs 2) 2) = 0 then
        2
      else
        3
def KX6_sendReset_47 (sg : (Nat → Int32)) (i1 : Int32) (i2 : Int32) (w_1 : (Nat → Int32) × (Nat → Int32) × (Nat → Nat → Int32)) : (Nat → Int32) × (Nat → Int32) × (Nat → Int32) × (Nat → Nat → Int32) :=
  ((upd (upd (upd (upd (upd sg 0 i1) 1 i2) 2 0) 3 4) 4 0), w_1.1, w_1.2.1, w_1.2.2)
def FX6_sendReset (fR : (Nat → Int32)) (sg : (Nat → Int32)) (fW : (Nat → Int32)) (wst : (Nat → Int32)) (wl : (Nat → Int32)) (wr : (Nat → Nat → Int32)) (i0 : Int32) (i1 : Int32) (i2 : Int32) : (Nat → Int32) × (Nat → Int32) × (Nat → Int32) × (Nat → Nat → Int32) :=
  KX6_sendReset_47 sg i1 i2 (FX8_sendPayload fW wst wl wr (upd (upd (upd (upd (upd sg 0 i1) 1 i2) 2 0) 3 4) 4 0) i0 6 5)
def KX6_send_124 (u1_7 : (Nat → Int32)) (u2_7 : (Nat → Int32)) (u3_7 : (Nat → Nat → Int32)) (w_9 : (Nat → Int32)) (z_sg : (Nat → Int32)) : (Nat → Int32) × (Nat → Int32) × (Nat → Int32) × (Nat → Nat → Int32) × (Nat → Int32) :=
  (z_sg, u1_7, u2_7, u3_7, w_9)
def KX6_send_124b (u1_7 : (Nat → Int32)) (u2_7 : (Nat → Int32)) (u3_7 : (Nat → Nat → Int32)) (w_10 : (Nat → Int32)) (z_sg : (Nat → Int32)) : (Nat → Int32) × (Nat → Int32) × (Nat → Int32) × (Nat → Nat → Int32) × (Nat → Int32) :=
  (z_sg, u1_7, u2_7, u3_7, w_10)
def KX6_send_107 (fS : (Nat → Int32)) (i0 : Int32) (i1 : Int32) (w_7 : (Nat → Int32) × (Nat → Int32) × (Nat → Nat → Int32)) (z_sg : (Nat → Int32)) : (Nat → Int32) × (Nat → Int32) × (Nat → Int32) × (Nat → Nat → Int32) × (Nat → Int32) :=
  if (i0 &&& (3 : Int32)) = 0 then
    KX6_send_124 w_7.1 w_7.2.1 w_7.2.2 (FX5_goOn fS i1) z_sg
  else
    KX6_send_124b w_7.1 w_7.2.1 w_7.2.2 (FX5_goOn fS (i1 + (1 : Int32))) z_sg
def LX6_send_59 (fW : (Nat → Int32)) (wst : (Nat → Int32)) (wl : (Nat → Int32)) (wr : (Nat → Nat → Int32)) (fS : (Nat → Int32)) (so : (Nat → Int32)) (i0 : Int32) (i1 : Int32) (r_5 : Int32) : Nat → Int32 → (Nat → Int32) → (Nat → Int32) × (Nat → Int32) × (Nat → Int32) × (Nat → Nat → Int32) × (Nat → Int32)
  | 0, _, _ => ((fun _ => 0), (fun _ => 0), (fun _ => 0), (fun _ _ => 0), (fun _ => 0))
  | n + 1, y5, z_sg =>
    if i1 ≤ y5 then
      KX6_send_107 fS i0 i1 (FX8_sendPayload fW wst wl wr z_sg (fS 3) 6 ((5 : Int32) + i1)) z_sg
    else
      LX6_send_59 fW wst wl wr fS so i0 i1 r_5 n (y5 + 1) (upd z_sg ((5 : Int32) + y5).toNatClampNeg (so (r_5 + y5).toNatClampNeg))
def FX6_send (fR : (Nat → Int32)) (sg : (Nat → Int32)) (fW : (Nat → Int32)) (wst : (Nat → Int32)) (wl : (Nat → Int32)) (wr : (Nat → Nat → Int32)) (fS : (Nat → Int32)) (so : (Nat → Int32)) (i0 : Int32) (i1 : Int32) : (Nat → Int32) × (Nat → Int32) × (Nat → Int32) × (Nat → Nat → Int32) × (Nat → Int32) :=
  LX6_send_59 fW wst wl wr fS so i0 i1 (FX5_onTheWay fS) 128 0 (upd (upd (upd (upd (upd sg 0 (fS 4)) 1 (fS 7)) 2 (fS 5)) 3 i0) 4 ((16 : Int32) - (fS 9)))
def KX6_read_64 (u1_4 : (Nat → Int32)) (u2_4 : (Nat → Int32)) (w_6 : (Nat → Int32) × (Nat → Int32) × (Nat → Int32)) (y2 : Int32) (z_fR : (Nat → Int32)) (lf : Int32 → (Nat → Int32) → (Nat → Int32) → (Nat → Int32) → (Nat → Int32) → (Nat → Int32) → (Nat → Int32) → (Nat → Int32) × (Nat → Int32) × (Nat → Int32) × (Nat → Int32) × (Nat → Int32) × (Nat → Int32)) : (Nat → Int32) × (Nat → Int32) × (Nat → Int32) × (Nat → Int32) × (Nat → Int32) × (Nat → Int32) :=
  lf (y2 + 1) (upd z_fR 5 ((z_fR 5) + (1 : Int32))) u1_4 u2_4 w_6.1 w_6.2.1 w_6.2.2
def KX6_read_27 (r_2 : Int32) (w_4 : (Nat → Int32) × (Nat → Int32)) (y2 : Int32) (z_fR : (Nat → Int32)) (z_fS : (Nat → Int32)) (z_so : (Nat → Int32)) (z_si : (Nat → Int32)) (lf : Int32 → (Nat → Int32) → (Nat → Int32) → (Nat → Int32) → (Nat → Int32) → (Nat → Int32) → (Nat → Int32) → (Nat → Int32) × (Nat → Int32) × (Nat → Int32) × (Nat → Int32) × (Nat → Int32) × (Nat → Int32)) : (Nat → Int32) × (Nat → Int32) × (Nat → Int32) × (Nat → Int32) × (Nat → Int32) × (Nat → Int32) :=
  if ((z_fS 8) + (w_4.1 2)) ≤ 64 then
    KX6_read_64 w_4.1 w_4.2 (FX5_replaceLine z_fS z_so z_si w_4.2 r_2 (w_4.1 2)) y2 z_fR (lf)
  else
    (z_fR, w_4.1, w_4.2, z_fS, z_so, z_si)
def LX6_read_2 (fTs : (Nat → Nat → Int32)) (tls : (Nat → Nat → Int32)) (tbs : (Nat → Nat → Int32)) : Nat → Int32 → (Nat → Int32) → (Nat → Int32) → (Nat → Int32) → (Nat → Int32) → (Nat → Int32) → (Nat → Int32) → (Nat → Int32) × (Nat → Int32) × (Nat → Int32) × (Nat → Int32) × (Nat → Int32) × (Nat → Int32)
  | 0, _, _, _, _, _, _, _ => ((fun _ => 0), (fun _ => 0), (fun _ => 0), (fun _ => 0), (fun _ => 0), (fun _ => 0))
  | n + 1, y2, z_fR, z_fH, z_an, z_fS, z_so, z_si =>
    if 16 ≤ y2 then
      (z_fR, z_fH, z_an, z_fS, z_so, z_si)
    else
      if (FX5_lineLength z_fS z_si) = 0 then
        (z_fR, z_fH, z_an, z_fS, z_so, z_si)
      else
        KX6_read_27 (FX5_lineLength z_fS z_si) (FX4_answerTo z_fH fTs tls tbs z_an z_si (FX5_lineLength z_fS z_si)) y2 z_fR z_fS z_so z_si (LX6_read_2 fTs tls tbs n)
def FX6_read (fR : (Nat → Int32)) (fH : (Nat → Int32)) (fTs : (Nat → Nat → Int32)) (tls : (Nat → Nat → Int32)) (tbs : (Nat → Nat → Int32)) (an : (Nat → Int32)) (fS : (Nat → Int32)) (so : (Nat → Int32)) (si : (Nat → Int32)) : (Nat → Int32) × (Nat → Int32) × (Nat → Int32) × (Nat → Int32) × (Nat → Int32) × (Nat → Int32) :=
  LX6_read_2 fTs tls tbs 128 0 fR fH an fS so si
def KX6_push_59 (w_5 : (Nat → Int32) × (Nat → Int32) × (Nat → Int32) × (Nat → Nat → Int32) × (Nat → Int32)) : Int32 × (Nat → Int32) × (Nat → Int32) × (Nat → Int32) × (Nat → Nat → Int32) × (Nat → Int32) :=
  (1, w_5.1, w_5.2.1, w_5.2.2.1, w_5.2.2.2.1, (upd w_5.2.2.2.2 2 4))
def KX6_push_59b (w_9 : (Nat → Int32) × (Nat → Int32) × (Nat → Int32) × (Nat → Nat → Int32) × (Nat → Int32)) : Int32 × (Nat → Int32) × (Nat → Int32) × (Nat → Int32) × (Nat → Nat → Int32) × (Nat → Int32) :=
  (1, w_9.1, w_9.2.1, w_9.2.2.1, w_9.2.2.2.1, (upd w_9.2.2.2.2 2 4))
def KX6_push_26 (w_10 : (Nat → Int32) × (Nat → Int32) × (Nat → Int32) × (Nat → Nat → Int32) × (Nat → Int32)) (y4 : Int32) (lf : Int32 → Int32 → Int32 → (Nat → Int32) → (Nat → Int32) → (Nat → Int32) → (Nat → Nat → Int32) → (Nat → Int32) → Int32 × (Nat → Int32) × (Nat → Int32) × (Nat → Int32) × (Nat → Nat → Int32) × (Nat → Int32)) : Int32 × (Nat → Int32) × (Nat → Int32) × (Nat → Int32) × (Nat → Nat → Int32) × (Nat → Int32) :=
  lf (y4 + 1) (FX5_nextSegmentSize w_10.2.2.2.2) 1 w_10.1 w_10.2.1 w_10.2.2.1 w_10.2.2.2.1 w_10.2.2.2.2
def LX6_push_10 (fR : (Nat → Int32)) (wst : (Nat → Int32)) (so : (Nat → Int32)) (si : (Nat → Int32)) : Nat → Int32 → Int32 → Int32 → (Nat → Int32) → (Nat → Int32) → (Nat → Int32) → (Nat → Nat → Int32) → (Nat → Int32) → Int32 × (Nat → Int32) × (Nat → Int32) × (Nat → Int32) × (Nat → Nat → Int32) × (Nat → Int32)
  | 0, _, _, _, _, _, _, _, _ => (0, (fun _ => 0), (fun _ => 0), (fun _ => 0), (fun _ _ => 0), (fun _ => 0))
  | n + 1, y4, y3, y2, z_sg, z_fW, z_wl, z_wr, z_fS =>
    if 64 ≤ y4 then
      if (FX5_canEnd z_fS si) = 0 then
        (y2, z_sg, z_fW, z_wl, z_wr, z_fS)
      else
        KX6_push_59 (FX6_send fR z_sg z_fW wst z_wl z_wr (upd z_fS 9 0) so 17 0)
    else
      if y3 ≤ 0 then
        if (FX5_canEnd z_fS si) = 0 then
          (y2, z_sg, z_fW, z_wl, z_wr, z_fS)
        else
          KX6_push_59b (FX6_send fR z_sg z_fW wst z_wl z_wr (upd z_fS 9 0) so 17 0)
      else
        KX6_push_26 (FX6_send fR z_sg z_fW wst z_wl z_wr z_fS so 16 y3) y4 (LX6_push_10 fR wst so si n)
def FX6_push (fR : (Nat → Int32)) (sg : (Nat → Int32)) (fW : (Nat → Int32)) (wst : (Nat → Int32)) (wl : (Nat → Int32)) (wr : (Nat → Nat → Int32)) (fS : (Nat → Int32)) (so : (Nat → Int32)) (si : (Nat → Int32)) : Int32 × (Nat → Int32) × (Nat → Int32) × (Nat → Int32) × (Nat → Nat → Int32) × (Nat → Int32) :=
  LX6_push_10 fR wst so si 128 0 (FX5_nextSegmentSize fS) 0 sg fW wl wr fS
def KX6_meetStranger_76 (fR : (Nat → Int32)) (fSs : (Nat → Nat → Int32)) (w_6 : (Nat → Int32) × (Nat → Int32) × (Nat → Int32) × (Nat → Nat → Int32)) : (Nat → Int32) × (Nat → Nat → Int32) × (Nat → Int32) × (Nat → Int32) × (Nat → Int32) × (Nat → Nat → Int32) :=
  (fR, fSs, w_6.1, w_6.2.1, w_6.2.2.1, w_6.2.2.2)
def KX6_meetStranger_109 (fR : (Nat → Int32)) (fSs : (Nat → Nat → Int32)) (n_15 : Nat) (f_19 : Int32) (w_20 : (Nat → Int32) × (Nat → Int32) × (Nat → Int32) × (Nat → Nat → Int32) × (Nat → Int32)) : (Nat → Int32) × (Nat → Nat → Int32) × (Nat → Int32) × (Nat → Int32) × (Nat → Int32) × (Nat → Nat → Int32) :=
  ((upd fR 4 f_19), (va_up fSs n_15 w_20.2.2.2.2), w_20.1, w_20.2.1, w_20.2.2.1, w_20.2.2.2.1)
def KX6_meetStranger_90 (fR : (Nat → Int32)) (fSs : (Nat → Nat → Int32)) (sos : (Nat → Nat → Int32)) (sg : (Nat → Int32)) (fW : (Nat → Int32)) (wst : (Nat → Int32)) (wl : (Nat → Int32)) (wr : (Nat → Nat → Int32)) (n_15 : Nat) (w_18 : (Nat → Int32)) : (Nat → Int32) × (Nat → Nat → Int32) × (Nat → Int32) × (Nat → Int32) × (Nat → Int32) × (Nat → Nat → Int32) :=
  KX6_meetStranger_109 fR fSs n_15 ((fR 4) + (1 : Int32)) (FX6_send (upd fR 4 ((fR 4) + (1 : Int32))) sg fW wst wl wr w_18 (sos n_15) 18 0)
def KX6_meetStranger_76d (fR : (Nat → Int32)) (fSs : (Nat → Nat → Int32)) (w_27 : (Nat → Int32) × (Nat → Int32) × (Nat → Int32) × (Nat → Nat → Int32)) : (Nat → Int32) × (Nat → Nat → Int32) × (Nat → Int32) × (Nat → Int32) × (Nat → Int32) × (Nat → Nat → Int32) :=
  (fR, fSs, w_27.1, w_27.2.1, w_27.2.2.1, w_27.2.2.2)
def KX6_meetStranger_76c (fR : (Nat → Int32)) (fSs : (Nat → Nat → Int32)) (w_13 : (Nat → Int32) × (Nat → Int32) × (Nat → Int32) × (Nat → Nat → Int32)) : (Nat → Int32) × (Nat → Nat → Int32) × (Nat → Int32) × (Nat → Int32) × (Nat → Int32) × (Nat → Nat → Int32) :=
  (fR, fSs, w_13.1, w_13.2.1, w_13.2.2.1, w_13.2.2.2)
def KX6_meetStranger_76b (fR : (Nat → Int32)) (fSs : (Nat → Nat → Int32)) (w_10 : (Nat → Int32) × (Nat → Int32) × (Nat → Int32) × (Nat → Nat → Int32)) : (Nat → Int32) × (Nat → Nat → Int32) × (Nat → Int32) × (Nat → Int32) × (Nat → Int32) × (Nat → Nat → Int32) :=
  (fR, fSs, w_10.1, w_10.2.1, w_10.2.2.1, w_10.2.2.2)
def FX6_meetStranger (fR : (Nat → Int32)) (fSs : (Nat → Nat → Int32)) (sos : (Nat → Nat → Int32)) (sg : (Nat → Int32)) (fW : (Nat → Int32)) (wst : (Nat → Int32)) (wl : (Nat → Int32)) (wr : (Nat → Nat → Int32)) (fD : (Nat → Int32)) (dp : (Nat → Int32)) (i0 : Int32) : (Nat → Int32) × (Nat → Nat → Int32) × (Nat → Int32) × (Nat → Int32) × (Nat → Int32) × (Nat → Nat → Int32) :=
  if (FX2_hasFlag fD dp 4) = 0 then
    if (FX2_hasFlag fD dp 2) = 0 then
      KX6_meetStranger_76 fR fSs (FX6_sendReset fR sg fW wst wl wr (fD 1) (dp 0) (dp 2))
    else
      if (FX2_hasFlag fD dp 17) = 0 then
        if (fD 3) = 5 then
          if (FX6_findFree fR fSs) < 3 then
            KX6_meetStranger_90 fR fSs sos sg fW wst wl wr (FX6_findFree fR fSs) (FX5_begin (fSs (FX6_findFree fR fSs)) fD dp (((4 : Int32) * i0) &&& (255 : Int32)))
          else
            KX6_meetStranger_76d fR fSs (FX6_sendReset fR sg fW wst wl wr (fD 1) (dp 0) (dp 2))
        else
          KX6_meetStranger_76c fR fSs (FX6_sendReset fR sg fW wst wl wr (fD 1) (dp 0) (dp 2))
      else
        KX6_meetStranger_76b fR fSs (FX6_sendReset fR sg fW wst wl wr (fD 1) (dp 0) (dp 2))
  else
    (fR, fSs, sg, fW, wl, wr)
def KX6_take_133 (fR : (Nat → Int32)) (fSs : (Nat → Nat → Int32)) (sos : (Nat → Nat → Int32)) (sis : (Nat → Nat → Int32)) (fH : (Nat → Int32)) (an : (Nat → Int32)) (n_1 : Nat) (u2_10 : (Nat → Int32)) (u3_10 : (Nat → Int32)) (w_16 : (Nat → Int32) × (Nat → Int32) × (Nat → Int32) × (Nat → Nat → Int32) × (Nat → Int32)) : (Nat → Int32) × (Nat → Nat → Int32) × (Nat → Nat → Int32) × (Nat → Nat → Int32) × (Nat → Int32) × (Nat → Int32) × (Nat → Int32) × (Nat → Nat → Int32) × (Nat → Int32) × (Nat → Int32) :=
  (fR, (va_up fSs n_1 w_16.2.2.2.2), (va_up sos n_1 u2_10), (va_up sis n_1 u3_10), w_16.1, w_16.2.1, w_16.2.2.1, w_16.2.2.2.1, fH, an)
def KX6_take_133b (fSs : (Nat → Nat → Int32)) (sos : (Nat → Nat → Int32)) (sis : (Nat → Nat → Int32)) (n_1 : Nat) (u1_17 : (Nat → Int32)) (u2_17 : (Nat → Int32)) (u3_17 : (Nat → Int32)) (u5_17 : (Nat → Int32)) (u6_17 : (Nat → Int32)) (w_22 : (Nat → Int32) × (Nat → Int32) × (Nat → Int32) × (Nat → Nat → Int32) × (Nat → Int32)) : (Nat → Int32) × (Nat → Nat → Int32) × (Nat → Nat → Int32) × (Nat → Nat → Int32) × (Nat → Int32) × (Nat → Int32) × (Nat → Int32) × (Nat → Nat → Int32) × (Nat → Int32) × (Nat → Int32) :=
  (u1_17, (va_up fSs n_1 w_22.2.2.2.2), (va_up sos n_1 u5_17), (va_up sis n_1 u6_17), w_22.1, w_22.2.1, w_22.2.2.1, w_22.2.2.2.1, u2_17, u3_17)
def KX6_take_111 (fSs : (Nat → Nat → Int32)) (sos : (Nat → Nat → Int32)) (sis : (Nat → Nat → Int32)) (wst : (Nat → Int32)) (fD : (Nat → Int32)) (dp : (Nat → Int32)) (n_1 : Nat) (u1_17 : (Nat → Int32)) (u2_17 : (Nat → Int32)) (u3_17 : (Nat → Int32)) (u5_17 : (Nat → Int32)) (u6_17 : (Nat → Int32)) (w_18 : Int32 × (Nat → Int32) × (Nat → Int32) × (Nat → Int32) × (Nat → Nat → Int32) × (Nat → Int32)) : (Nat → Int32) × (Nat → Nat → Int32) × (Nat → Nat → Int32) × (Nat → Nat → Int32) × (Nat → Int32) × (Nat → Int32) × (Nat → Int32) × (Nat → Nat → Int32) × (Nat → Int32) × (Nat → Int32) :=
  if (FX2_wantsAck fD dp) = 0 then
    (u1_17, (va_up fSs n_1 w_18.2.2.2.2.2), (va_up sos n_1 u5_17), (va_up sis n_1 u6_17), w_18.2.1, w_18.2.2.1, w_18.2.2.2.1, w_18.2.2.2.2.1, u2_17, u3_17)
  else
    if w_18.1 = 0 then
      KX6_take_133b fSs sos sis n_1 u1_17 u2_17 u3_17 u5_17 u6_17 (FX6_send u1_17 w_18.2.1 w_18.2.2.1 wst w_18.2.2.2.1 w_18.2.2.2.2.1 w_18.2.2.2.2.2 u5_17 16 0)
    else
      (u1_17, (va_up fSs n_1 w_18.2.2.2.2.2), (va_up sos n_1 u5_17), (va_up sis n_1 u6_17), w_18.2.1, w_18.2.2.1, w_18.2.2.2.1, w_18.2.2.2.2.1, u2_17, u3_17)
def KX6_take_106 (fSs : (Nat → Nat → Int32)) (sos : (Nat → Nat → Int32)) (sis : (Nat → Nat → Int32)) (sg : (Nat → Int32)) (fW : (Nat → Int32)) (wst : (Nat → Int32)) (wl : (Nat → Int32)) (wr : (Nat → Nat → Int32)) (fD : (Nat → Int32)) (dp : (Nat → Int32)) (n_1 : Nat) (w_17 : (Nat → Int32) × (Nat → Int32) × (Nat → Int32) × (Nat → Int32) × (Nat → Int32) × (Nat → Int32)) : (Nat → Int32) × (Nat → Nat → Int32) × (Nat → Nat → Int32) × (Nat → Nat → Int32) × (Nat → Int32) × (Nat → Int32) × (Nat → Int32) × (Nat → Nat → Int32) × (Nat → Int32) × (Nat → Int32) :=
  KX6_take_111 fSs sos sis wst fD dp n_1 w_17.1 w_17.2.1 w_17.2.2.1 w_17.2.2.2.2.1 w_17.2.2.2.2.2 (FX6_push w_17.1 sg fW wst wl wr w_17.2.2.2.1 w_17.2.2.2.2.1 w_17.2.2.2.2.2)
def KX6_take_87 (fR : (Nat → Int32)) (fSs : (Nat → Nat → Int32)) (sos : (Nat → Nat → Int32)) (sis : (Nat → Nat → Int32)) (sg : (Nat → Int32)) (fW : (Nat → Int32)) (wst : (Nat → Int32)) (wl : (Nat → Int32)) (wr : (Nat → Nat → Int32)) (fH : (Nat → Int32)) (fTs : (Nat → Nat → Int32)) (tls : (Nat → Nat → Int32)) (tbs : (Nat → Nat → Int32)) (an : (Nat → Int32)) (fD : (Nat → Int32)) (dp : (Nat → Int32)) (n_1 : Nat) (w_10 : Int32 × (Nat → Int32) × (Nat → Int32) × (Nat → Int32)) : (Nat → Int32) × (Nat → Nat → Int32) × (Nat → Nat → Int32) × (Nat → Nat → Int32) × (Nat → Int32) × (Nat → Int32) × (Nat → Int32) × (Nat → Nat → Int32) × (Nat → Int32) × (Nat → Int32) :=
  if w_10.1 = 0 then
    (fR, (va_up fSs n_1 w_10.2.1), (va_up sos n_1 w_10.2.2.1), (va_up sis n_1 w_10.2.2.2), sg, fW, wl, wr, fH, an)
  else
    if (w_10.2.1 2) = 4 then
      if (FX2_wantsAck fD dp) = 0 then
        (fR, (va_up fSs n_1 w_10.2.1), (va_up sos n_1 w_10.2.2.1), (va_up sis n_1 w_10.2.2.2), sg, fW, wl, wr, fH, an)
      else
        KX6_take_133 fR fSs sos sis fH an n_1 w_10.2.2.1 w_10.2.2.2 (FX6_send fR sg fW wst wl wr w_10.2.1 w_10.2.2.1 16 0)
    else
      KX6_take_106 fSs sos sis sg fW wst wl wr fD dp n_1 (FX6_read fR fH fTs tls tbs an w_10.2.1 w_10.2.2.1 w_10.2.2.2)
def KX6_take_70 (fR : (Nat → Int32)) (fSs : (Nat → Nat → Int32)) (sos : (Nat → Nat → Int32)) (sis : (Nat → Nat → Int32)) (fH : (Nat → Int32)) (an : (Nat → Int32)) (n_1 : Nat) (w_23 : (Nat → Int32) × (Nat → Int32) × (Nat → Int32) × (Nat → Nat → Int32) × (Nat → Int32)) : (Nat → Int32) × (Nat → Nat → Int32) × (Nat → Nat → Int32) × (Nat → Nat → Int32) × (Nat → Int32) × (Nat → Int32) × (Nat → Int32) × (Nat → Nat → Int32) × (Nat → Int32) × (Nat → Int32) :=
  (fR, (va_up fSs n_1 w_23.2.2.2.2), sos, sis, w_23.1, w_23.2.1, w_23.2.2.1, w_23.2.2.2.1, fH, an)
def KX6_take_22 (sos : (Nat → Nat → Int32)) (sis : (Nat → Nat → Int32)) (fH : (Nat → Int32)) (an : (Nat → Int32)) (w_67 : (Nat → Int32) × (Nat → Nat → Int32) × (Nat → Int32) × (Nat → Int32) × (Nat → Int32) × (Nat → Nat → Int32)) : (Nat → Int32) × (Nat → Nat → Int32) × (Nat → Nat → Int32) × (Nat → Nat → Int32) × (Nat → Int32) × (Nat → Int32) × (Nat → Int32) × (Nat → Nat → Int32) × (Nat → Int32) × (Nat → Int32) :=
  (w_67.1, w_67.2.1, sos, sis, w_67.2.2.1, w_67.2.2.2.1, w_67.2.2.2.2.1, w_67.2.2.2.2.2, fH, an)
def FX6_take (fR : (Nat → Int32)) (fSs : (Nat → Nat → Int32)) (sos : (Nat → Nat → Int32)) (sis : (Nat → Nat → Int32)) (sg : (Nat → Int32)) (fW : (Nat → Int32)) (wst : (Nat → Int32)) (wl : (Nat → Int32)) (wr : (Nat → Nat → Int32)) (fH : (Nat → Int32)) (fTs : (Nat → Nat → Int32)) (tls : (Nat → Nat → Int32)) (tbs : (Nat → Nat → Int32)) (an : (Nat → Int32)) (fD : (Nat → Int32)) (dp : (Nat → Int32)) (i0 : Int32) : (Nat → Int32) × (Nat → Nat → Int32) × (Nat → Nat → Int32) × (Nat → Nat → Int32) × (Nat → Int32) × (Nat → Int32) × (Nat → Int32) × (Nat → Nat → Int32) × (Nat → Int32) × (Nat → Int32) :=
  if (FX6_find fR fSs (fD 1) (dp 0)) < 3 then
    if (FX2_hasFlag fD dp 4) = 0 then
      if (FX2_hasFlag fD dp 2) = 0 then
        if (FX2_hasFlag fD dp 16) = 0 then
          (fR, fSs, sos, sis, sg, fW, wl, wr, fH, an)
        else
          KX6_take_87 fR fSs sos sis sg fW wst wl wr fH fTs tls tbs an fD dp (FX6_find fR fSs (fD 1) (dp 0)) (FX5_follow (fSs (FX6_find fR fSs (fD 1) (dp 0))) (sos (FX6_find fR fSs (fD 1) (dp 0))) (sis (FX6_find fR fSs (fD 1) (dp 0))) fD dp)
      else
        KX6_take_70 fR fSs sos sis fH an (FX6_find fR fSs (fD 1) (dp 0)) (FX6_send fR sg fW wst wl wr (fSs (FX6_find fR fSs (fD 1) (dp 0))) (sos (FX6_find fR fSs (fD 1) (dp 0))) 16 0)
    else
      if (dp 1) = ((fSs (FX6_find fR fSs (fD 1) (dp 0))) 5) then
        (fR, (va_up fSs (FX6_find fR fSs (fD 1) (dp 0)) (upd (fSs (FX6_find fR fSs (fD 1) (dp 0))) 2 0)), sos, sis, sg, fW, wl, wr, fH, an)
      else
        (fR, fSs, sos, sis, sg, fW, wl, wr, fH, an)
  else
    KX6_take_22 sos sis fH an (FX6_meetStranger fR fSs sos sg fW wst wl wr fD dp i0)
def KX6_runTimer_65 (fR : (Nat → Int32)) (f_5 : Int32) (w_8 : (Nat → Int32) × (Nat → Int32) × (Nat → Int32) × (Nat → Nat → Int32) × (Nat → Int32)) : (Nat → Int32) × (Nat → Int32) × (Nat → Int32) × (Nat → Int32) × (Nat → Nat → Int32) × (Nat → Int32) :=
  ((upd fR 6 f_5), w_8.1, w_8.2.1, w_8.2.2.1, w_8.2.2.2.1, w_8.2.2.2.2)
def KX6_runTimer_73 (fR : (Nat → Int32)) (f_5 : Int32) (w_7 : Int32 × (Nat → Int32) × (Nat → Int32) × (Nat → Int32) × (Nat → Nat → Int32) × (Nat → Int32)) : (Nat → Int32) × (Nat → Int32) × (Nat → Int32) × (Nat → Int32) × (Nat → Nat → Int32) × (Nat → Int32) :=
  ((upd fR 6 f_5), w_7.2.1, w_7.2.2.1, w_7.2.2.2.1, w_7.2.2.2.2.1, w_7.2.2.2.2.2)
def KX6_runTimer_39 (fR : (Nat → Int32)) (sg : (Nat → Int32)) (fW : (Nat → Int32)) (wst : (Nat → Int32)) (wl : (Nat → Int32)) (wr : (Nat → Nat → Int32)) (so : (Nat → Int32)) (si : (Nat → Int32)) (w_4 : (Nat → Int32)) : (Nat → Int32) × (Nat → Int32) × (Nat → Int32) × (Nat → Int32) × (Nat → Nat → Int32) × (Nat → Int32) :=
  if (w_4 2) = 1 then
    KX6_runTimer_65 fR ((fR 6) + (1 : Int32)) (FX6_send (upd fR 6 ((fR 6) + (1 : Int32))) sg fW wst wl wr w_4 so 18 0)
  else
    KX6_runTimer_73 fR ((fR 6) + (1 : Int32)) (FX6_push (upd fR 6 ((fR 6) + (1 : Int32))) sg fW wst wl wr w_4 so si)
def KX6_runTimer_29 (fR : (Nat → Int32)) (u1_1 : (Nat → Int32)) (w_9 : (Nat → Int32) × (Nat → Int32) × (Nat → Int32) × (Nat → Nat → Int32)) : (Nat → Int32) × (Nat → Int32) × (Nat → Int32) × (Nat → Int32) × (Nat → Nat → Int32) × (Nat → Int32) :=
  (fR, w_9.1, w_9.2.1, w_9.2.2.1, w_9.2.2.2, (upd u1_1 2 0))
def KX6_runTimer_1 (fR : (Nat → Int32)) (sg : (Nat → Int32)) (fW : (Nat → Int32)) (wst : (Nat → Int32)) (wl : (Nat → Int32)) (wr : (Nat → Nat → Int32)) (so : (Nat → Int32)) (si : (Nat → Int32)) (w_1 : Int32 × (Nat → Int32)) : (Nat → Int32) × (Nat → Int32) × (Nat → Int32) × (Nat → Int32) × (Nat → Nat → Int32) × (Nat → Int32) :=
  if w_1.1 = 0 then
    (fR, sg, fW, wl, wr, w_1.2)
  else
    if (w_1.2 12) < 3 then
      KX6_runTimer_39 fR sg fW wst wl wr so si (FX5_goBack w_1.2)
    else
      KX6_runTimer_29 fR w_1.2 (FX6_sendReset fR sg fW wst wl wr (w_1.2 3) (w_1.2 4) (w_1.2 7))
def FX6_runTimer (fR : (Nat → Int32)) (sg : (Nat → Int32)) (fW : (Nat → Int32)) (wst : (Nat → Int32)) (wl : (Nat → Int32)) (wr : (Nat → Nat → Int32)) (fS : (Nat → Int32)) (so : (Nat → Int32)) (si : (Nat → Int32)) : (Nat → Int32) × (Nat → Int32) × (Nat → Int32) × (Nat → Int32) × (Nat → Nat → Int32) × (Nat → Int32) :=
  KX6_runTimer_1 fR sg fW wst wl wr so si (FX5_tickEndsTimer fS)
def FX9_octet (fZ : (Nat → Int32)) (fA : (Nat → Int32)) (ao : (Nat → Int32)) (i0 : Int32) : Int32 × (Nat → Int32) × (Nat → Int32) :=
  if (FX9_isOctet i0) = 0 then
    ((-1), fA, ao)
  else
    if (fA 1) < 44 then
      (((fA 1) + (1 : Int32)), (upd fA 1 ((fA 1) + (1 : Int32))), (upd ao (fA 1).toNatClampNeg i0))
    else
      ((-2), fA, ao)
def KX9_meetNeighbour_54 (ao : (Nat → Int32)) (wst : (Nat → Int32)) (v_2 : Int32) (w_4 : (Nat → Int32) × (Nat → Int32) × (Nat → Nat → Int32)) : (Nat → Int32) × (Nat → Int32) × (Nat → Int32) × (Nat → Nat → Int32) :=
  (w_4.1, (upd wst (ao 3).toNatClampNeg v_2), w_4.2.1, w_4.2.2)
def FX9_meetNeighbour (fZ : (Nat → Int32)) (fA : (Nat → Int32)) (ao : (Nat → Int32)) (fR : (Nat → Int32)) (fW : (Nat → Int32)) (wst : (Nat → Int32)) (wl : (Nat → Int32)) (wr : (Nat → Nat → Int32)) : (Nat → Int32) × (Nat → Int32) × (Nat → Int32) × (Nat → Nat → Int32) :=
  if (ao 4) = 1 then
    if (ao 2) = 1 then
      KX9_meetNeighbour_54 ao wst (ao 1) (FX8_sendShort fW wl wr (ao 1) 2 (ao 3))
    else
      (fW, (upd wst (ao 3).toNatClampNeg (ao 1)), wl, wr)
  else
    (fW, wst, wl, wr)
def KX9_arrive_161 (fZ : (Nat → Int32)) (fA : (Nat → Int32)) (wst : (Nat → Int32)) (x_1 : Int32) (f_3 : Int32) (u1_6 : (Nat → Int32)) (u2_6 : (Nat → Nat → Int32)) (u3_6 : (Nat → Nat → Int32)) (u4_6 : (Nat → Int32)) (u5_6 : (Nat → Int32)) (w_12 : (Nat → Int32) × (Nat → Nat → Int32) × (Nat → Nat → Int32) × (Nat → Nat → Int32) × (Nat → Int32) × (Nat → Int32) × (Nat → Int32) × (Nat → Nat → Int32) × (Nat → Int32) × (Nat → Int32)) : Int32 × (Nat → Int32) × (Nat → Int32) × (Nat → Int32) × (Nat → Nat → Int32) × (Nat → Nat → Int32) × (Nat → Int32) × (Nat → Int32) × (Nat → Int32) × (Nat → Nat → Int32) × (Nat → Nat → Int32) × (Nat → Nat → Int32) × (Nat → Int32) × (Nat → Int32) × (Nat → Int32) × (Nat → Int32) × (Nat → Nat → Int32) × (Nat → Int32) × (Nat → Int32) :=
  (((w_12.2.2.2.2.2.1 4) - x_1), (upd fZ 5 f_3), (upd fA 1 0), u1_6, u2_6, u3_6, u4_6, u5_6, w_12.1, w_12.2.1, w_12.2.2.1, w_12.2.2.2.1, w_12.2.2.2.2.1, w_12.2.2.2.2.2.1, wst, w_12.2.2.2.2.2.2.1, w_12.2.2.2.2.2.2.2.1, w_12.2.2.2.2.2.2.2.2.1, w_12.2.2.2.2.2.2.2.2.2)
def KX9_arrive_133 (fZ : (Nat → Int32)) (fA : (Nat → Int32)) (fR : (Nat → Int32)) (fSs : (Nat → Nat → Int32)) (sos : (Nat → Nat → Int32)) (sis : (Nat → Nat → Int32)) (sg : (Nat → Int32)) (wst : (Nat → Int32)) (fH : (Nat → Int32)) (an : (Nat → Int32)) (x_1 : Int32) (f_3 : Int32) (u1_6 : (Nat → Int32)) (u2_6 : (Nat → Nat → Int32)) (u3_6 : (Nat → Nat → Int32)) (u4_6 : (Nat → Int32)) (u5_6 : (Nat → Int32)) (w_13 : (Nat → Int32) × (Nat → Int32) × (Nat → Nat → Int32)) : Int32 × (Nat → Int32) × (Nat → Int32) × (Nat → Int32) × (Nat → Nat → Int32) × (Nat → Nat → Int32) × (Nat → Int32) × (Nat → Int32) × (Nat → Int32) × (Nat → Nat → Int32) × (Nat → Nat → Int32) × (Nat → Nat → Int32) × (Nat → Int32) × (Nat → Int32) × (Nat → Int32) × (Nat → Int32) × (Nat → Nat → Int32) × (Nat → Int32) × (Nat → Int32) :=
  (((w_13.1 4) - x_1), (upd fZ 5 f_3), (upd fA 1 0), u1_6, u2_6, u3_6, u4_6, (upd u5_6 0 0), fR, fSs, sos, sis, sg, w_13.1, wst, w_13.2.1, w_13.2.2, fH, an)
def KX9_arrive_78 (fZ : (Nat → Int32)) (fA : (Nat → Int32)) (fR : (Nat → Int32)) (fSs : (Nat → Nat → Int32)) (sos : (Nat → Nat → Int32)) (sis : (Nat → Nat → Int32)) (sg : (Nat → Int32)) (fW : (Nat → Int32)) (wst : (Nat → Int32)) (wl : (Nat → Int32)) (wr : (Nat → Nat → Int32)) (fH : (Nat → Int32)) (fTs : (Nat → Nat → Int32)) (tls : (Nat → Nat → Int32)) (tbs : (Nat → Nat → Int32)) (an : (Nat → Int32)) (x_1 : Int32) (f_3 : Int32) (w_6 : Int32 × (Nat → Int32) × (Nat → Nat → Int32) × (Nat → Nat → Int32) × (Nat → Int32) × (Nat → Int32)) : Int32 × (Nat → Int32) × (Nat → Int32) × (Nat → Int32) × (Nat → Nat → Int32) × (Nat → Nat → Int32) × (Nat → Int32) × (Nat → Int32) × (Nat → Int32) × (Nat → Nat → Int32) × (Nat → Nat → Int32) × (Nat → Nat → Int32) × (Nat → Int32) × (Nat → Int32) × (Nat → Int32) × (Nat → Int32) × (Nat → Nat → Int32) × (Nat → Int32) × (Nat → Int32) :=
  if w_6.1 = 0 then
    (((fW 4) - x_1), (upd fZ 5 f_3), (upd fA 1 0), w_6.2.1, w_6.2.2.1, w_6.2.2.2.1, w_6.2.2.2.2.1, w_6.2.2.2.2.2, fR, fSs, sos, sis, sg, fW, wst, wl, wr, fH, an)
  else
    if (FX2_isEchoAsked w_6.2.2.2.2.1 w_6.2.2.2.2.2) = 0 then
      if (FX2_isSegment w_6.2.2.2.2.1) = 0 then
        (((fW 4) - x_1), (upd fZ 5 f_3), (upd fA 1 0), w_6.2.1, w_6.2.2.1, w_6.2.2.2.1, w_6.2.2.2.2.1, w_6.2.2.2.2.2, fR, fSs, sos, sis, sg, fW, wst, wl, wr, fH, an)
      else
        KX9_arrive_161 fZ fA wst x_1 f_3 w_6.2.1 w_6.2.2.1 w_6.2.2.2.1 w_6.2.2.2.2.1 w_6.2.2.2.2.2 (FX6_take fR fSs sos sis sg fW wst wl wr fH fTs tls tbs an w_6.2.2.2.2.1 w_6.2.2.2.2.2 (fZ 4))
    else
      KX9_arrive_133 fZ fA fR fSs sos sis sg wst fH an x_1 f_3 w_6.2.1 w_6.2.2.1 w_6.2.2.2.1 w_6.2.2.2.2.1 w_6.2.2.2.2.2 (FX8_sendPayload fW wst wl wr (upd w_6.2.2.2.2.2 0 0) (w_6.2.2.2.2.1 1) 1 (w_6.2.2.2.2.1 3))
def KX9_arrive_60 (fZ : (Nat → Int32)) (fA : (Nat → Int32)) (fG : (Nat → Int32)) (fMs : (Nat → Nat → Int32)) (mos : (Nat → Nat → Int32)) (fD : (Nat → Int32)) (dp : (Nat → Int32)) (fR : (Nat → Int32)) (fSs : (Nat → Nat → Int32)) (sos : (Nat → Nat → Int32)) (sis : (Nat → Nat → Int32)) (sg : (Nat → Int32)) (fH : (Nat → Int32)) (an : (Nat → Int32)) (x_1 : Int32) (f_3 : Int32) (w_14 : (Nat → Int32) × (Nat → Int32) × (Nat → Int32) × (Nat → Nat → Int32)) : Int32 × (Nat → Int32) × (Nat → Int32) × (Nat → Int32) × (Nat → Nat → Int32) × (Nat → Nat → Int32) × (Nat → Int32) × (Nat → Int32) × (Nat → Int32) × (Nat → Nat → Int32) × (Nat → Nat → Int32) × (Nat → Nat → Int32) × (Nat → Int32) × (Nat → Int32) × (Nat → Int32) × (Nat → Int32) × (Nat → Nat → Int32) × (Nat → Int32) × (Nat → Int32) :=
  (((w_14.1 4) - x_1), (upd fZ 5 f_3), (upd fA 1 0), fG, fMs, mos, fD, dp, fR, fSs, sos, sis, sg, w_14.1, w_14.2.1, w_14.2.2.1, w_14.2.2.2, fH, an)
def FX9_arrive (fZ : (Nat → Int32)) (fA : (Nat → Int32)) (ao : (Nat → Int32)) (fG : (Nat → Int32)) (fMs : (Nat → Nat → Int32)) (mos : (Nat → Nat → Int32)) (fD : (Nat → Int32)) (dp : (Nat → Int32)) (fR : (Nat → Int32)) (fSs : (Nat → Nat → Int32)) (sos : (Nat → Nat → Int32)) (sis : (Nat → Nat → Int32)) (sg : (Nat → Int32)) (fW : (Nat → Int32)) (wst : (Nat → Int32)) (wl : (Nat → Int32)) (wr : (Nat → Nat → Int32)) (fH : (Nat → Int32)) (fTs : (Nat → Nat → Int32)) (tls : (Nat → Nat → Int32)) (tbs : (Nat → Nat → Int32)) (an : (Nat → Int32)) : Int32 × (Nat → Int32) × (Nat → Int32) × (Nat → Int32) × (Nat → Nat → Int32) × (Nat → Nat → Int32) × (Nat → Int32) × (Nat → Int32) × (Nat → Int32) × (Nat → Nat → Int32) × (Nat → Nat → Int32) × (Nat → Nat → Int32) × (Nat → Int32) × (Nat → Int32) × (Nat → Int32) × (Nat → Int32) × (Nat → Nat → Int32) × (Nat → Int32) × (Nat → Int32) :=
  if (FX0_isFit fA ao) = 0 then
    ((-1), (upd (upd fZ 5 ((fZ 5) + (1 : Int32))) 6 ((fZ 6) + (1 : Int32))), (upd fA 1 0), fG, fMs, mos, fD, dp, fR, fSs, sos, sis, sg, fW, wst, wl, wr, fH, an)
  else
    if (ao 2) = 3 then
      KX9_arrive_78 fZ fA fR fSs sos sis sg fW wst wl wr fH fTs tls tbs an (fW 4) ((fZ 5) + (1 : Int32)) (FX3_completes fG fMs mos fA ao fD dp)
    else
      KX9_arrive_60 fZ fA fG fMs mos fD dp fR fSs sos sis sg fH an (fW 4) ((fZ 5) + (1 : Int32)) (FX9_meetNeighbour (upd fZ 5 ((fZ 5) + (1 : Int32))) fA ao fR fW wst wl wr)
def KX9_tick_71c (f_5 : Int32) (u1_6 : (Nat → Nat → Int32)) (u6_8 : (Nat → Int32)) (u6_10 : (Nat → Int32)) (w_12 : (Nat → Int32) × (Nat → Int32) × (Nat → Int32) × (Nat → Int32) × (Nat → Nat → Int32) × (Nat → Int32)) (y3 : Int32) (z_fZ : (Nat → Int32)) (z_fSs : (Nat → Nat → Int32)) (lf : Int32 → (Nat → Int32) → (Nat → Nat → Int32) → (Nat → Int32) → (Nat → Nat → Int32) → (Nat → Int32) → (Nat → Int32) → (Nat → Int32) → (Nat → Nat → Int32) → Int32 × (Nat → Int32) × (Nat → Nat → Int32) × (Nat → Int32) × (Nat → Nat → Int32) × (Nat → Int32) × (Nat → Int32) × (Nat → Int32) × (Nat → Nat → Int32)) : Int32 × (Nat → Int32) × (Nat → Nat → Int32) × (Nat → Int32) × (Nat → Nat → Int32) × (Nat → Int32) × (Nat → Int32) × (Nat → Int32) × (Nat → Nat → Int32) :=
  lf (y3 + 1) (upd z_fZ 4 f_5) u1_6 w_12.1 (va_up (va_up (va_up z_fSs 0 u6_8) 1 u6_10) 2 w_12.2.2.2.2.2) w_12.2.1 w_12.2.2.1 w_12.2.2.2.1 w_12.2.2.2.2.1
def KX9_tick_71b (sos : (Nat → Nat → Int32)) (sis : (Nat → Nat → Int32)) (wst : (Nat → Int32)) (f_5 : Int32) (u1_6 : (Nat → Nat → Int32)) (u6_8 : (Nat → Int32)) (w_10 : (Nat → Int32) × (Nat → Int32) × (Nat → Int32) × (Nat → Int32) × (Nat → Nat → Int32) × (Nat → Int32)) (y3 : Int32) (z_fZ : (Nat → Int32)) (z_fSs : (Nat → Nat → Int32)) (lf : Int32 → (Nat → Int32) → (Nat → Nat → Int32) → (Nat → Int32) → (Nat → Nat → Int32) → (Nat → Int32) → (Nat → Int32) → (Nat → Int32) → (Nat → Nat → Int32) → Int32 × (Nat → Int32) × (Nat → Nat → Int32) × (Nat → Int32) × (Nat → Nat → Int32) × (Nat → Int32) × (Nat → Int32) × (Nat → Int32) × (Nat → Nat → Int32)) : Int32 × (Nat → Int32) × (Nat → Nat → Int32) × (Nat → Int32) × (Nat → Nat → Int32) × (Nat → Int32) × (Nat → Int32) × (Nat → Int32) × (Nat → Nat → Int32) :=
  KX9_tick_71c f_5 u1_6 u6_8 w_10.2.2.2.2.2 (FX6_runTimer w_10.1 w_10.2.1 w_10.2.2.1 wst w_10.2.2.2.1 w_10.2.2.2.2.1 (z_fSs 2) (sos 2) (sis 2)) y3 z_fZ z_fSs (lf)
def KX9_tick_71 (sos : (Nat → Nat → Int32)) (sis : (Nat → Nat → Int32)) (wst : (Nat → Int32)) (f_5 : Int32) (u1_6 : (Nat → Nat → Int32)) (w_8 : (Nat → Int32) × (Nat → Int32) × (Nat → Int32) × (Nat → Int32) × (Nat → Nat → Int32) × (Nat → Int32)) (y3 : Int32) (z_fZ : (Nat → Int32)) (z_fSs : (Nat → Nat → Int32)) (lf : Int32 → (Nat → Int32) → (Nat → Nat → Int32) → (Nat → Int32) → (Nat → Nat → Int32) → (Nat → Int32) → (Nat → Int32) → (Nat → Int32) → (Nat → Nat → Int32) → Int32 × (Nat → Int32) × (Nat → Nat → Int32) × (Nat → Int32) × (Nat → Nat → Int32) × (Nat → Int32) × (Nat → Int32) × (Nat → Int32) × (Nat → Nat → Int32)) : Int32 × (Nat → Int32) × (Nat → Nat → Int32) × (Nat → Int32) × (Nat → Nat → Int32) × (Nat → Int32) × (Nat → Int32) × (Nat → Int32) × (Nat → Nat → Int32) :=
  KX9_tick_71b sos sis wst f_5 u1_6 w_8.2.2.2.2.2 (FX6_runTimer w_8.1 w_8.2.1 w_8.2.2.1 wst w_8.2.2.2.1 w_8.2.2.2.2.1 (z_fSs 1) (sos 1) (sis 1)) y3 z_fZ z_fSs (lf)
def KX9_tick_45 (sos : (Nat → Nat → Int32)) (sis : (Nat → Nat → Int32)) (wst : (Nat → Int32)) (f_5 : Int32) (w_6 : (Nat → Nat → Int32)) (y3 : Int32) (z_fZ : (Nat → Int32)) (z_fR : (Nat → Int32)) (z_fSs : (Nat → Nat → Int32)) (z_sg : (Nat → Int32)) (z_fW : (Nat → Int32)) (z_wl : (Nat → Int32)) (z_wr : (Nat → Nat → Int32)) (lf : Int32 → (Nat → Int32) → (Nat → Nat → Int32) → (Nat → Int32) → (Nat → Nat → Int32) → (Nat → Int32) → (Nat → Int32) → (Nat → Int32) → (Nat → Nat → Int32) → Int32 × (Nat → Int32) × (Nat → Nat → Int32) × (Nat → Int32) × (Nat → Nat → Int32) × (Nat → Int32) × (Nat → Int32) × (Nat → Int32) × (Nat → Nat → Int32)) : Int32 × (Nat → Int32) × (Nat → Nat → Int32) × (Nat → Int32) × (Nat → Nat → Int32) × (Nat → Int32) × (Nat → Int32) × (Nat → Int32) × (Nat → Nat → Int32) :=
  KX9_tick_71 sos sis wst f_5 w_6 (FX6_runTimer z_fR z_sg z_fW wst z_wl z_wr (z_fSs 0) (sos 0) (sis 0)) y3 z_fZ z_fSs (lf)
def LX9_tick_26 (fG : (Nat → Int32)) (sos : (Nat → Nat → Int32)) (sis : (Nat → Nat → Int32)) (wst : (Nat → Int32)) (i0 : Int32) (x_3 : Int32) : Nat → Int32 → (Nat → Int32) → (Nat → Nat → Int32) → (Nat → Int32) → (Nat → Nat → Int32) → (Nat → Int32) → (Nat → Int32) → (Nat → Int32) → (Nat → Nat → Int32) → Int32 × (Nat → Int32) × (Nat → Nat → Int32) × (Nat → Int32) × (Nat → Nat → Int32) × (Nat → Int32) × (Nat → Int32) × (Nat → Int32) × (Nat → Nat → Int32)
  | 0, _, _, _, _, _, _, _, _, _ => (0, (fun _ => 0), (fun _ _ => 0), (fun _ => 0), (fun _ _ => 0), (fun _ => 0), (fun _ => 0), (fun _ => 0), (fun _ _ => 0))
  | n + 1, y3, z_fZ, z_fMs, z_fR, z_fSs, z_sg, z_fW, z_wl, z_wr =>
    if i0 ≤ y3 then
      (((z_fW 4) - x_3), z_fZ, z_fMs, z_fR, z_fSs, z_sg, z_fW, z_wl, z_wr)
    else
      KX9_tick_45 sos sis wst ((z_fZ 4) + (1 : Int32)) (FX3_grow fG z_fMs) y3 z_fZ z_fR z_fSs z_sg z_fW z_wl z_wr (LX9_tick_26 fG sos sis wst i0 x_3 n)
def FX9_tick (fZ : (Nat → Int32)) (fG : (Nat → Int32)) (fMs : (Nat → Nat → Int32)) (fR : (Nat → Int32)) (fSs : (Nat → Nat → Int32)) (sos : (Nat → Nat → Int32)) (sis : (Nat → Nat → Int32)) (sg : (Nat → Int32)) (fW : (Nat → Int32)) (wst : (Nat → Int32)) (wl : (Nat → Int32)) (wr : (Nat → Nat → Int32)) (i0 : Int32) : Int32 × (Nat → Int32) × (Nat → Nat → Int32) × (Nat → Int32) × (Nat → Nat → Int32) × (Nat → Int32) × (Nat → Int32) × (Nat → Int32) × (Nat → Nat → Int32) :=
  if i0 < 1 then
    ((-1), fZ, fMs, fR, fSs, sg, fW, wl, wr)
  else
    if i0 ≤ 40 then
      LX9_tick_26 fG sos sis wst i0 (fW 4) 128 0 fZ fMs fR fSs sg fW wl wr
    else
      ((-1), fZ, fMs, fR, fSs, sg, fW, wl, wr)
def FX9_sent (fZ : (Nat → Int32)) (fR : (Nat → Int32)) (fW : (Nat → Int32)) (wl : (Nat → Int32)) (wr : (Nat → Nat → Int32)) (i0 : Int32) (i1 : Int32) : Int32 :=
  (FX8_look fW wl wr i0 i1)
def KX9_name_29 (fTs : (Nat → Nat → Int32)) (tls : (Nat → Nat → Int32)) (i0 : Int32) (w_6 : Int32 × (Nat → Int32) × (Nat → Int32)) : Int32 × (Nat → Nat → Int32) × (Nat → Nat → Int32) :=
  (w_6.1, (va_up fTs i0.toNatClampNeg w_6.2.1), (va_up tls i0.toNatClampNeg w_6.2.2))
def FX9_name (fZ : (Nat → Int32)) (fR : (Nat → Int32)) (fH : (Nat → Int32)) (fTs : (Nat → Nat → Int32)) (tls : (Nat → Nat → Int32)) (i0 : Int32) (i1 : Int32) : Int32 × (Nat → Nat → Int32) × (Nat → Nat → Int32) :=
  if (FX9_isText i0) = 0 then
    ((-1), fTs, tls)
  else
    if (FX9_isLetter i1) = 0 then
      ((-1), fTs, tls)
    else
      KX9_name_29 fTs tls i0 (FX7_addLetter (fTs i0.toNatClampNeg) (tls i0.toNatClampNeg) i1)
def KX9_body_29 (fTs : (Nat → Nat → Int32)) (tbs : (Nat → Nat → Int32)) (i0 : Int32) (w_6 : Int32 × (Nat → Int32) × (Nat → Int32)) : Int32 × (Nat → Nat → Int32) × (Nat → Nat → Int32) :=
  (w_6.1, (va_up fTs i0.toNatClampNeg w_6.2.1), (va_up tbs i0.toNatClampNeg w_6.2.2))
def FX9_body (fZ : (Nat → Int32)) (fR : (Nat → Int32)) (fH : (Nat → Int32)) (fTs : (Nat → Nat → Int32)) (tbs : (Nat → Nat → Int32)) (i0 : Int32) (i1 : Int32) : Int32 × (Nat → Nat → Int32) × (Nat → Nat → Int32) :=
  if (FX9_isText i0) = 0 then
    ((-1), fTs, tbs)
  else
    if (FX9_isOctet i1) = 0 then
      ((-1), fTs, tbs)
    else
      KX9_body_29 fTs tbs i0 (FX7_addOctet (fTs i0.toNatClampNeg) (tbs i0.toNatClampNeg) i1)
def KX9_spoil_30 (tbs : (Nat → Nat → Int32)) (i0 : Int32) (w_6 : Int32 × (Nat → Int32)) : Int32 × (Nat → Nat → Int32) :=
  (w_6.1, (va_up tbs i0.toNatClampNeg w_6.2))
def FX9_spoil (fZ : (Nat → Int32)) (fR : (Nat → Int32)) (fH : (Nat → Int32)) (fTs : (Nat → Nat → Int32)) (tbs : (Nat → Nat → Int32)) (i0 : Int32) (i1 : Int32) (i2 : Int32) : Int32 × (Nat → Nat → Int32) :=
  if (FX9_isText i0) = 0 then
    ((-1), tbs)
  else
    if (FX9_isOctet i2) = 0 then
      ((-1), tbs)
    else
      KX9_spoil_30 tbs i0 (FX7_replace (fTs i0.toNatClampNeg) (tbs i0.toNatClampNeg) i1 i2)
def KX9_erase_21 (fTs : (Nat → Nat → Int32)) (i0 : Int32) (w_4 : Int32 × (Nat → Int32)) : Int32 × (Nat → Nat → Int32) :=
  (w_4.1, (va_up fTs i0.toNatClampNeg w_4.2))
def FX9_erase (fZ : (Nat → Int32)) (fR : (Nat → Int32)) (fH : (Nat → Int32)) (fTs : (Nat → Nat → Int32)) (i0 : Int32) : Int32 × (Nat → Nat → Int32) :=
  if (FX9_isText i0) = 0 then
    ((-1), fTs)
  else
    KX9_erase_21 fTs i0 (FX7_empty (fTs i0.toNatClampNeg))
def FX9_known (fZ : (Nat → Int32)) (fR : (Nat → Int32)) (fW : (Nat → Int32)) (wst : (Nat → Int32)) (i0 : Int32) : Int32 :=
  if i0 < 0 then
    (-1)
  else
    if i0 < 16 then
      (wst i0.toNatClampNeg)
    else
      (-1)
def FX9_stream (fZ : (Nat → Int32)) (fR : (Nat → Int32)) (fSs : (Nat → Nat → Int32)) (i0 : Int32) (i1 : Int32) : Int32 :=
  if i0 < 0 then
    (-1)
  else
    if i0 < 3 then
      (FX5_tell (fSs i0.toNatClampNeg) i1)
    else
      (-1)
def FX9_assembly (fZ : (Nat → Int32)) (fG : (Nat → Int32)) (fMs : (Nat → Nat → Int32)) (i0 : Int32) (i1 : Int32) : Int32 :=
  if i0 < 0 then
    (-1)
  else
    if i0 < 2 then
      (FX1_tell (fMs i0.toNatClampNeg) i1)
    else
      (-1)
def FX9_count (fZ : (Nat → Int32)) (fA : (Nat → Int32)) (fR : (Nat → Int32)) (fW : (Nat → Int32)) (i0 : Int32) : Int32 :=
  if i0 = 0 then
    (fZ 4)
  else
    if i0 = 1 then
      (fZ 5)
    else
      if i0 = 2 then
        (fZ 6)
      else
        if i0 = 3 then
          (fW 4)
        else
          if i0 = 4 then
            (fW 5)
          else
            if i0 = 5 then
              (fR 4)
            else
              if i0 = 6 then
                (fR 5)
              else
                if i0 = 7 then
                  (fA 1)
                else
                  if i0 = 8 then
                    (fR 6)
                  else
                    (-1)
