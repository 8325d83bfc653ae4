def FX10_is (i0 : Int32) (i1 : Int32) (i2 : Int32) : Int32 :=
  if i0 < i1 then
    0
  else
    if i2 < i0 then
      0
    else
      1
def FX10_put (mF : (Nat → Int32)) (m_out : (Nat → Int32)) (m_outLength : (Nat → Int32)) (i0 : Int32) : (Nat → Int32) × (Nat → Int32) :=
  ((upd m_out (m_outLength 0).toNatClampNeg (i0 &&& (255 : Int32))), (upd m_outLength 0 ((m_outLength 0) + (1 : Int32))))
def LX10_open_24 (y3 : Int32) (z_m_outLength : (Nat → Int32)) (v_6 : Int32) (lf_LX10_open_3 : Int32 → (Nat → Int32) → (Nat → Int32) → (Nat → Int32) × (Nat → Int32) × (Nat → Int32)) : Nat → Int32 → (Nat → Int32) → (Nat → Int32) × (Nat → Int32) × (Nat → Int32)
  | 0, _, _ => ((fun _ => 0), (fun _ => 0), (fun _ => 0))
  | n + 1, y4_2, z_m_out_2 =>
    if 32 ≤ y4_2 then
      lf_LX10_open_3 (y3 + (-1)) z_m_out_2 (upd z_m_outLength y3.toNatClampNeg v_6)
    else
      LX10_open_24 y3 z_m_outLength v_6 lf_LX10_open_3 n (y4_2 + 1) (upd z_m_out_2 (((32 : Int32) * y3) + y4_2).toNatClampNeg (z_m_out_2 (((32 : Int32) * (y3 - (1 : Int32))) + y4_2).toNatClampNeg))
def KX10_open_88 (mF : (Nat → Int32)) (w_4 : (Nat → Int32) × (Nat → Int32)) : (Nat → Int32) × (Nat → Int32) × (Nat → Int32) :=
  ((upd mF 8 ((mF 8) + (1 : Int32))), w_4.1, w_4.2)
def KX10_open_83 (mF : (Nat → Int32)) (i1 : Int32) (w_3 : (Nat → Int32) × (Nat → Int32)) : (Nat → Int32) × (Nat → Int32) × (Nat → Int32) :=
  KX10_open_88 mF (FX10_put mF w_3.1 w_3.2 i1)
def KX10_open_78 (mF : (Nat → Int32)) (i1 : Int32) (w_2 : (Nat → Int32) × (Nat → Int32)) : (Nat → Int32) × (Nat → Int32) × (Nat → Int32) :=
  KX10_open_83 mF i1 (FX10_put mF w_2.1 w_2.2 1)
def LX10_open_3 (mF : (Nat → Int32)) (i0 : Int32) (i1 : Int32) : Nat → Int32 → (Nat → Int32) → (Nat → Int32) → (Nat → Int32) × (Nat → Int32) × (Nat → Int32)
  | 0, _, _, _ => ((fun _ => 0), (fun _ => 0), (fun _ => 0))
  | n + 1, y3, z_m_out, z_m_outLength =>
    if y3 ≤ 0 then
      KX10_open_78 mF i1 (FX10_put mF z_m_out (upd z_m_outLength 0 0) i0)
    else
      LX10_open_24 y3 z_m_outLength (z_m_outLength (y3 - (1 : Int32)).toNatClampNeg) (LX10_open_3 mF i0 i1 n) 64 0 z_m_out
def FX10_open (mF : (Nat → Int32)) (m_out : (Nat → Int32)) (m_outLength : (Nat → Int32)) (i0 : Int32) (i1 : Int32) : (Nat → Int32) × (Nat → Int32) × (Nat → Int32) :=
  LX10_open_3 mF i0 i1 128 11 m_out m_outLength
def KX10_datagram_107 (w_11 : (Nat → Int32) × (Nat → Int32)) (y9_2 : Int32) (lf_LX10_datagram_89 : Int32 → (Nat → Int32) → (Nat → Int32) → (Nat → Int32) × (Nat → Int32) × (Nat → Int32)) : (Nat → Int32) × (Nat → Int32) × (Nat → Int32) :=
  lf_LX10_datagram_89 (y9_2 + 1) w_11.1 w_11.2
def LX10_datagram_89 (m_send : (Nat → Int32)) (i5 : Int32) (i6 : Int32) (u1_1 : (Nat → Int32)) : Nat → Int32 → (Nat → Int32) → (Nat → Int32) → (Nat → Int32) × (Nat → Int32) × (Nat → Int32)
  | 0, _, _, _ => ((fun _ => 0), (fun _ => 0), (fun _ => 0))
  | n + 1, y9_2, z_m_out_2, z_m_outLength_2 =>
    if (i5 + i6) ≤ y9_2 then
      (u1_1, z_m_out_2, z_m_outLength_2)
    else
      KX10_datagram_107 (FX10_put u1_1 z_m_out_2 z_m_outLength_2 (m_send y9_2.toNatClampNeg)) y9_2 (LX10_datagram_89 m_send i5 i6 u1_1 n)
def KX10_datagram_82 (m_send : (Nat → Int32)) (i5 : Int32) (i6 : Int32) (u1_1 : (Nat → Int32)) (w_9 : (Nat → Int32) × (Nat → Int32)) : (Nat → Int32) × (Nat → Int32) × (Nat → Int32) :=
  LX10_datagram_89 m_send i5 i6 u1_1 128 i5 w_9.1 w_9.2
def KX10_datagram_75 (m_send : (Nat → Int32)) (i5 : Int32) (i6 : Int32) (u1_1 : (Nat → Int32)) (w_8 : (Nat → Int32) × (Nat → Int32)) (y8 : Int32) : (Nat → Int32) × (Nat → Int32) × (Nat → Int32) :=
  KX10_datagram_82 m_send i5 i6 u1_1 (FX10_put u1_1 w_8.1 w_8.2 (-y8))
def KX10_datagram_69 (m_send : (Nat → Int32)) (i4 : Int32) (i5 : Int32) (i6 : Int32) (u1_1 : (Nat → Int32)) (w_7 : (Nat → Int32) × (Nat → Int32)) (y8 : Int32) : (Nat → Int32) × (Nat → Int32) × (Nat → Int32) :=
  KX10_datagram_75 m_send i5 i6 u1_1 (FX10_put u1_1 w_7.1 w_7.2 i4) y8
def KX10_datagram_63 (m_send : (Nat → Int32)) (i3 : Int32) (i4 : Int32) (i5 : Int32) (i6 : Int32) (u1_1 : (Nat → Int32)) (w_6 : (Nat → Int32) × (Nat → Int32)) (y8 : Int32) : (Nat → Int32) × (Nat → Int32) × (Nat → Int32) :=
  KX10_datagram_69 m_send i4 i5 i6 u1_1 (FX10_put u1_1 w_6.1 w_6.2 i3) y8
def KX10_datagram_58 (m_send : (Nat → Int32)) (i2 : Int32) (i3 : Int32) (i4 : Int32) (i5 : Int32) (i6 : Int32) (u1_1 : (Nat → Int32)) (w_5 : (Nat → Int32) × (Nat → Int32)) (y8 : Int32) : (Nat → Int32) × (Nat → Int32) × (Nat → Int32) :=
  KX10_datagram_63 m_send i3 i4 i5 i6 u1_1 (FX10_put u1_1 w_5.1 w_5.2 i2) y8
def KX10_datagram_53 (m_send : (Nat → Int32)) (i1 : Int32) (i2 : Int32) (i3 : Int32) (i4 : Int32) (i5 : Int32) (i6 : Int32) (u1_1 : (Nat → Int32)) (w_4 : (Nat → Int32) × (Nat → Int32)) (y8 : Int32) : (Nat → Int32) × (Nat → Int32) × (Nat → Int32) :=
  KX10_datagram_58 m_send i2 i3 i4 i5 i6 u1_1 (FX10_put u1_1 w_4.1 w_4.2 i1) y8
def LX10_datagram_23 (m_send : (Nat → Int32)) (i1 : Int32) (i2 : Int32) (i3 : Int32) (i4 : Int32) (i5 : Int32) (i6 : Int32) (u1_1 : (Nat → Int32)) (u2_1 : (Nat → Int32)) (u3_1 : (Nat → Int32)) : Nat → Int32 → Int32 → (Nat → Int32) × (Nat → Int32) × (Nat → Int32)
  | 0, _, _ => ((fun _ => 0), (fun _ => 0), (fun _ => 0))
  | n + 1, y9, y8 =>
    if (i5 + i6) ≤ y9 then
      KX10_datagram_53 m_send i1 i2 i3 i4 i5 i6 u1_1 (FX10_put u1_1 u2_1 u3_1 1) y8
    else
      LX10_datagram_23 m_send i1 i2 i3 i4 i5 i6 u1_1 u2_1 u3_1 n (y9 + 1) (y8 + (m_send y9.toNatClampNeg))
def KX10_datagram_3 (m_send : (Nat → Int32)) (i1 : Int32) (i2 : Int32) (i3 : Int32) (i4 : Int32) (i5 : Int32) (i6 : Int32) (w_1 : (Nat → Int32) × (Nat → Int32) × (Nat → Int32)) : (Nat → Int32) × (Nat → Int32) × (Nat → Int32) :=
  LX10_datagram_23 m_send i1 i2 i3 i4 i5 i6 w_1.1 w_1.2.1 w_1.2.2 128 i5 (((((1 : Int32) + i1) + i2) + i3) + i4)
def FX10_datagram (mF : (Nat → Int32)) (m_out : (Nat → Int32)) (m_outLength : (Nat → Int32)) (m_send : (Nat → Int32)) (i0 : Int32) (i1 : Int32) (i2 : Int32) (i3 : Int32) (i4 : Int32) (i5 : Int32) (i6 : Int32) : (Nat → Int32) × (Nat → Int32) × (Nat → Int32) :=
  KX10_datagram_3 m_send i1 i2 i3 i4 i5 i6 (FX10_open mF m_out m_outLength i0 3)
def KX10_sendTo_104 (w_6 : (Nat → Int32) × (Nat → Int32) × (Nat → Int32)) : (Nat → Int32) × (Nat → Int32) × (Nat → Int32) :=
  (w_6.1, w_6.2.1, w_6.2.2)
def KX10_sendTo_86 (w_8 : (Nat → Int32) × (Nat → Int32) × (Nat → Int32)) : (Nat → Int32) × (Nat → Int32) × (Nat → Int32) :=
  (w_8.1, w_8.2.1, w_8.2.2)
def KX10_sendTo_67 (m_send : (Nat → Int32)) (i0 : Int32) (i1 : Int32) (x_1 : Int32) (x_4 : Int32) (w_7 : (Nat → Int32) × (Nat → Int32) × (Nat → Int32)) : (Nat → Int32) × (Nat → Int32) × (Nat → Int32) :=
  KX10_sendTo_86 (FX10_datagram w_7.1 w_7.2.1 w_7.2.2 m_send x_1 i0 x_4 4 i1 16 ((w_7.1 30) - (16 : Int32)))
def KX10_sendTo_25 (u1_9 : (Nat → Int32)) (w_11 : (Nat → Int32) × (Nat → Int32)) : (Nat → Int32) × (Nat → Int32) × (Nat → Int32) :=
  (u1_9, w_11.1, w_11.2)
def KX10_sendTo_20 (i0 : Int32) (u1_9 : (Nat → Int32)) (w_10 : (Nat → Int32) × (Nat → Int32)) : (Nat → Int32) × (Nat → Int32) × (Nat → Int32) :=
  KX10_sendTo_25 u1_9 (FX10_put u1_9 w_10.1 w_10.2 i0)
def KX10_sendTo_15 (i0 : Int32) (w_9 : (Nat → Int32) × (Nat → Int32) × (Nat → Int32)) : (Nat → Int32) × (Nat → Int32) × (Nat → Int32) :=
  KX10_sendTo_20 i0 w_9.1 (FX10_put w_9.1 w_9.2.1 w_9.2.2 1)
def FX10_sendTo (mF : (Nat → Int32)) (m_known : (Nat → Int32)) (m_out : (Nat → Int32)) (m_outLength : (Nat → Int32)) (m_send : (Nat → Int32)) (i0 : Int32) (i1 : Int32) : (Nat → Int32) × (Nat → Int32) × (Nat → Int32) :=
  if 0 ≤ (m_known i0.toNatClampNeg) then
    if (mF 30) ≤ 16 then
      KX10_sendTo_104 (FX10_datagram (upd mF 9 ((mF 9) + (1 : Int32))) m_out m_outLength m_send (m_known i0.toNatClampNeg) i0 ((mF 9) &&& (255 : Int32)) 0 i1 0 (mF 30))
    else
      KX10_sendTo_67 m_send i0 i1 (m_known i0.toNatClampNeg) ((mF 9) &&& (255 : Int32)) (FX10_datagram (upd mF 9 ((mF 9) + (1 : Int32))) m_out m_outLength m_send (m_known i0.toNatClampNeg) i0 ((mF 9) &&& (255 : Int32)) 128 i1 0 16)
  else
    KX10_sendTo_15 i0 (FX10_open mF m_out m_outLength 15 1)
def FX10_octet (mF : (Nat → Int32)) (m_in : (Nat → Int32)) (i0 : Int32) : Int32 × (Nat → Int32) × (Nat → Int32) :=
  if (FX10_is i0 0 255) = 0 then
    ((-1), mF, m_in)
  else
    if (mF 4) = 44 then
      ((-2), mF, m_in)
    else
      (((mF 4) + (1 : Int32)), (upd mF 4 ((mF 4) + (1 : Int32))), (upd m_in (mF 4).toNatClampNeg i0))
def LX10_isGood_105 (m_in : (Nat → Int32)) (i0 : Int32) : Nat → Int32 → Int32 → Int32
  | 0, _, _ => 0
  | n + 1, y3_2, y2_2 =>
    if i0 ≤ y3_2 then
      if i0 < 9 then
        0
      else
        if (y2_2 &&& (255 : Int32)) = 0 then
          if (m_in 4) = 1 then
            if (m_in 6) = 0 then
              1
            else
              if 8 ≤ ((m_in 6) &&& (127 : Int32)) then
                0
              else
                if 33 ≤ (((4 : Int32) * ((m_in 6) &&& (127 : Int32))) + (i0 - (9 : Int32))) then
                  0
                else
                  if (m_in 6) < 128 then
                    1
                  else
                    if (i0 - (9 : Int32)) ≤ 0 then
                      0
                    else
                      if ((i0 - (9 : Int32)) - (i0 - (9 : Int32)) / (4 : Int32) * (4 : Int32)) = 0 then
                        1
                      else
                        0
          else
            0
        else
          0
    else
      LX10_isGood_105 m_in i0 n (y3_2 + 1) (y2_2 + (m_in y3_2.toNatClampNeg))
def JX10_isGood_31 (m_in : (Nat → Int32)) (i0 : Int32)  : Int32 :=
  if 14 < (m_in 1) then
    0
  else
    if (FX10_is (m_in 2) 1 3) = 0 then
      0
    else
      if 15 < (m_in 3) then
        0
      else
        if (m_in 4) ≤ 15 then
          if 3 ≤ (m_in 2) then
            LX10_isGood_105 m_in i0 128 3 0
          else
            if i0 = 5 then
              1
            else
              0
        else
          0
def FX10_isGood (mF : (Nat → Int32)) (m_in : (Nat → Int32)) (i0 : Int32) : Int32 :=
  if (FX10_is i0 5 41) = 0 then
    0
  else
    if (m_in 0) = 1 then
      JX10_isGood_31 m_in i0 
    else
      if (m_in 0) = 15 then
        JX10_isGood_31 m_in i0 
      else
        0
def FX10_way (mF : (Nat → Int32)) (m_sent : (Nat → Int32)) (m_first : (Nat → Int32)) (i0 : Int32) : Int32 :=
  (((m_sent i0.toNatClampNeg) - (m_first i0.toNatClampNeg)) &&& (255 : Int32))
def FX10_say (mF : (Nat → Int32)) (m_send : (Nat → Int32)) (i0 : Int32) (i1 : Int32) (i2 : Int32) (i3 : Int32) (i4 : Int32) : (Nat → Int32) × (Nat → Int32) :=
  ((upd mF 30 5), (upd (upd (upd (upd (upd m_send 0 i0) 1 (i1 &&& (255 : Int32))) 2 (i2 &&& (255 : Int32))) 3 i3) 4 i4))
def KX10_tell_41 (u2_1 : (Nat → Int32)) (w_2 : (Nat → Int32) × (Nat → Int32) × (Nat → Int32)) : (Nat → Int32) × (Nat → Int32) × (Nat → Int32) × (Nat → Int32) :=
  (w_2.1, w_2.2.1, w_2.2.2, u2_1)
def KX10_tell_29 (m_known : (Nat → Int32)) (m_out : (Nat → Int32)) (m_outLength : (Nat → Int32)) (m_address : (Nat → Int32)) (i0 : Int32) (w_1 : (Nat → Int32) × (Nat → Int32)) : (Nat → Int32) × (Nat → Int32) × (Nat → Int32) × (Nat → Int32) :=
  KX10_tell_41 w_1.2 (FX10_sendTo w_1.1 m_known m_out m_outLength w_1.2 (m_address i0.toNatClampNeg) 6)
def FX10_tell (mF : (Nat → Int32)) (m_known : (Nat → Int32)) (m_out : (Nat → Int32)) (m_outLength : (Nat → Int32)) (m_send : (Nat → Int32)) (m_port : (Nat → Int32)) (m_sent : (Nat → Int32)) (m_next : (Nat → Int32)) (m_boxed : (Nat → Int32)) (m_address : (Nat → Int32)) (i0 : Int32) (i1 : Int32) : (Nat → Int32) × (Nat → Int32) × (Nat → Int32) × (Nat → Int32) :=
  KX10_tell_29 m_known m_out m_outLength m_address i0 (FX10_say mF m_send (m_port i0.toNatClampNeg) (m_sent i0.toNatClampNeg) (m_next i0.toNatClampNeg) i1 ((16 : Int32) - (m_boxed i0.toNatClampNeg)))
def FX10_advance (mF : (Nat → Int32)) (m_sent : (Nat → Int32)) (m_first : (Nat → Int32)) (m_timer : (Nat → Int32)) (i0 : Int32) (i1 : Int32) : (Nat → Int32) × (Nat → Int32) :=
  if (FX10_way mF m_sent m_first i0) = 0 then
    ((upd m_sent i0.toNatClampNeg (((m_sent i0.toNatClampNeg) + i1) &&& (255 : Int32))), (upd m_timer i0.toNatClampNeg 0))
  else
    ((upd m_sent i0.toNatClampNeg (((m_sent i0.toNatClampNeg) + i1) &&& (255 : Int32))), m_timer)
def KX10_reset_13 (u2_1 : (Nat → Int32)) (w_2 : (Nat → Int32) × (Nat → Int32) × (Nat → Int32)) : (Nat → Int32) × (Nat → Int32) × (Nat → Int32) × (Nat → Int32) :=
  (w_2.1, w_2.2.1, w_2.2.2, u2_1)
def KX10_reset_6 (m_known : (Nat → Int32)) (m_out : (Nat → Int32)) (m_outLength : (Nat → Int32)) (i0 : Int32) (w_1 : (Nat → Int32) × (Nat → Int32)) : (Nat → Int32) × (Nat → Int32) × (Nat → Int32) × (Nat → Int32) :=
  KX10_reset_13 w_1.2 (FX10_sendTo w_1.1 m_known m_out m_outLength w_1.2 i0 6)
def FX10_reset (mF : (Nat → Int32)) (m_known : (Nat → Int32)) (m_out : (Nat → Int32)) (m_outLength : (Nat → Int32)) (m_send : (Nat → Int32)) (i0 : Int32) (i1 : Int32) (i2 : Int32) : (Nat → Int32) × (Nat → Int32) × (Nat → Int32) × (Nat → Int32) :=
  KX10_reset_6 m_known m_out m_outLength i0 (FX10_say mF m_send i1 i2 0 4 0)
def LX10_line_2 (m_boxed : (Nat → Int32)) (m_box : (Nat → Int32)) (i0 : Int32) : Nat → Int32 → Int32
  | 0, _ => 0
  | n + 1, y2 =>
    if (m_boxed i0.toNatClampNeg) ≤ y2 then
      if (m_boxed i0.toNatClampNeg) ≤ 6 then
        0
      else
        7
    else
      if 7 ≤ y2 then
        if (m_boxed i0.toNatClampNeg) ≤ 6 then
          0
        else
          7
      else
        if (m_box (((16 : Int32) * i0) + y2).toNatClampNeg) = 10 then
          (y2 + (1 : Int32))
        else
          LX10_line_2 m_boxed m_box i0 n (y2 + 1)
def FX10_line (mF : (Nat → Int32)) (m_boxed : (Nat → Int32)) (m_box : (Nat → Int32)) (i0 : Int32) : Int32 :=
  LX10_line_2 m_boxed m_box i0 128 0
def JX10_isNamed_71 (y5_2 : Int32) (lf_LX10_isNamed_22 : Int32 → Int32 → Int32) (k0_3 : Int32) : Int32 :=
  lf_LX10_isNamed_22 (y5_2 + 1) k0_3
def LX10_isNamed_22 (m_nameLength : (Nat → Int32)) (m_name : (Nat → Int32)) (m_box : (Nat → Int32)) (i0 : Int32) (i1 : Int32) : Nat → Int32 → Int32 → Int32
  | 0, _, _ => 0
  | n + 1, y5_2, y4_2 =>
    if (m_nameLength i0.toNatClampNeg) ≤ y5_2 then
      y4_2
    else
      if y4_2 = 0 then
        y4_2
      else
        if (m_name (((4 : Int32) * i0) + y5_2).toNatClampNeg) = (m_box ((((16 : Int32) * i1) + y5_2) + (1 : Int32)).toNatClampNeg) then
          JX10_isNamed_71 y5_2 (LX10_isNamed_22 m_nameLength m_name m_box i0 i1 n) 1
        else
          JX10_isNamed_71 y5_2 (LX10_isNamed_22 m_nameLength m_name m_box i0 i1 n) 0
def JX10_isNamed_17 (m_nameLength : (Nat → Int32)) (m_name : (Nat → Int32)) (m_box : (Nat → Int32)) (i0 : Int32) (i1 : Int32) (k0 : Int32) : Int32 :=
  LX10_isNamed_22 m_nameLength m_name m_box i0 i1 128 0 k0
def FX10_isNamed (mF : (Nat → Int32)) (m_nameLength : (Nat → Int32)) (m_name : (Nat → Int32)) (m_box : (Nat → Int32)) (i0 : Int32) (i1 : Int32) (i2 : Int32) : Int32 :=
  if (m_nameLength i0.toNatClampNeg) = (i2 - (2 : Int32)) then
    JX10_isNamed_17 m_nameLength m_name m_box i0 i1 1
  else
    JX10_isNamed_17 m_nameLength m_name m_box i0 i1 0
def LX10_reply_236 (mF : (Nat → Int32)) (m_bodyLength : (Nat → Int32)) (m_body : (Nat → Int32)) (y4_5 : Int32) : Nat → Int32 → (Nat → Int32) → (Nat → Int32) × (Nat → Int32)
  | 0, _, _ => ((fun _ => 0), (fun _ => 0))
  | n + 1, y6_7, z_m_answer_7 =>
    if (m_bodyLength y4_5.toNatClampNeg) ≤ y6_7 then
      ((upd (upd mF 46 2) 46 ((m_bodyLength y4_5.toNatClampNeg) + (2 : Int32))), (upd z_m_answer_7 ((m_bodyLength y4_5.toNatClampNeg) + (1 : Int32)).toNatClampNeg 10))
    else
      LX10_reply_236 mF m_bodyLength m_body y4_5 n (y6_7 + 1) (upd z_m_answer_7 (y6_7 + (1 : Int32)).toNatClampNeg (m_body (((16 : Int32) * y4_5) + y6_7).toNatClampNeg))
def LX10_reply_164 (mF : (Nat → Int32)) (m_answer : (Nat → Int32)) (m_bodyLength : (Nat → Int32)) (m_body : (Nat → Int32)) (m_check : (Nat → Int32)) (y4_5 : Int32) : Nat → Int32 → Int32 → (Nat → Int32) × (Nat → Int32)
  | 0, _, _ => ((fun _ => 0), (fun _ => 0))
  | n + 1, y6_6, y5_6 =>
    if (m_bodyLength y4_5.toNatClampNeg) ≤ y6_6 then
      if (y5_6 &&& (255 : Int32)) = (m_check y4_5.toNatClampNeg) then
        LX10_reply_236 mF m_bodyLength m_body y4_5 128 0 (upd (upd (upd (upd (upd m_answer 0 48) 1 10) 0 52) 0 53) 0 50)
      else
        ((upd mF 46 2), (upd (upd (upd (upd m_answer 0 48) 1 10) 0 52) 0 53))
    else
      LX10_reply_164 mF m_answer m_bodyLength m_body m_check y4_5 n (y6_6 + 1) (y5_6 + (m_body (((16 : Int32) * y4_5) + y6_6).toNatClampNeg))
def JX10_reply_145 (mF : (Nat → Int32)) (m_answer : (Nat → Int32)) (m_bodyLength : (Nat → Int32)) (m_body : (Nat → Int32)) (m_check : (Nat → Int32)) (y4_5 : Int32) : (Nat → Int32) × (Nat → Int32) :=
  if y4_5 = 6 then
    ((upd mF 46 2), (upd (upd (upd m_answer 0 48) 1 10) 0 52))
  else
    LX10_reply_164 mF m_answer m_bodyLength m_body m_check y4_5 128 0 0
def LX10_reply_121 (mF : (Nat → Int32)) (m_box : (Nat → Int32)) (m_answer : (Nat → Int32)) (m_nameLength : (Nat → Int32)) (m_name : (Nat → Int32)) (m_bodyLength : (Nat → Int32)) (m_body : (Nat → Int32)) (m_check : (Nat → Int32)) (i0 : Int32) (i1 : Int32) : Nat → Int32 → (Nat → Int32) × (Nat → Int32)
  | 0, _ => ((fun _ => 0), (fun _ => 0))
  | n + 1, y4_4 =>
    if 6 ≤ y4_4 then
      JX10_reply_145 mF m_answer m_bodyLength m_body m_check y4_4
    else
      if (FX10_isNamed (upd mF 46 2) m_nameLength m_name m_box y4_4 i0 i1) = 0 then
        LX10_reply_121 mF m_box m_answer m_nameLength m_name m_bodyLength m_body m_check i0 i1 n (y4_4 + 1)
      else
        JX10_reply_145 mF m_answer m_bodyLength m_body m_check y4_4
def JX10_reply_89 (mF : (Nat → Int32)) (m_box : (Nat → Int32)) (m_answer : (Nat → Int32)) (m_nameLength : (Nat → Int32)) (m_name : (Nat → Int32)) (m_bodyLength : (Nat → Int32)) (m_body : (Nat → Int32)) (m_check : (Nat → Int32)) (i0 : Int32) (i1 : Int32) (y3_3 : Int32) : (Nat → Int32) × (Nat → Int32) :=
  if y3_3 = 0 then
    ((upd mF 46 2), (upd (upd m_answer 0 48) 1 10))
  else
    LX10_reply_121 mF m_box m_answer m_nameLength m_name m_bodyLength m_body m_check i0 i1 128 0
def LX10_reply_51 (mF : (Nat → Int32)) (m_box : (Nat → Int32)) (m_answer : (Nat → Int32)) (m_nameLength : (Nat → Int32)) (m_name : (Nat → Int32)) (m_bodyLength : (Nat → Int32)) (m_body : (Nat → Int32)) (m_check : (Nat → Int32)) (i0 : Int32) (i1 : Int32) : Nat → Int32 → Int32 → (Nat → Int32) × (Nat → Int32)
  | 0, _, _ => ((fun _ => 0), (fun _ => 0))
  | n + 1, y4_2, y3_2 =>
    if (i1 - (1 : Int32)) ≤ y4_2 then
      JX10_reply_89 mF m_box m_answer m_nameLength m_name m_bodyLength m_body m_check i0 i1 y3_2
    else
      if y3_2 = 0 then
        JX10_reply_89 mF m_box m_answer m_nameLength m_name m_bodyLength m_body m_check i0 i1 y3_2
      else
        LX10_reply_51 mF m_box m_answer m_nameLength m_name m_bodyLength m_body m_check i0 i1 n (y4_2 + 1) (FX10_is (m_box (((16 : Int32) * i0) + y4_2).toNatClampNeg) 97 122)
def JX10_reply_47 (mF : (Nat → Int32)) (m_box : (Nat → Int32)) (m_answer : (Nat → Int32)) (m_nameLength : (Nat → Int32)) (m_name : (Nat → Int32)) (m_bodyLength : (Nat → Int32)) (m_body : (Nat → Int32)) (m_check : (Nat → Int32)) (i0 : Int32) (i1 : Int32) (k0 : Int32) : (Nat → Int32) × (Nat → Int32) :=
  LX10_reply_51 mF m_box m_answer m_nameLength m_name m_bodyLength m_body m_check i0 i1 128 1 k0
def FX10_reply (mF : (Nat → Int32)) (m_box : (Nat → Int32)) (m_answer : (Nat → Int32)) (m_nameLength : (Nat → Int32)) (m_name : (Nat → Int32)) (m_bodyLength : (Nat → Int32)) (m_body : (Nat → Int32)) (m_check : (Nat → Int32)) (i0 : Int32) (i1 : Int32) : (Nat → Int32) × (Nat → Int32) :=
  if (FX10_is i1 3 6) = 0 then
    JX10_reply_47 mF m_box m_answer m_nameLength m_name m_bodyLength m_body m_check i0 i1 0
  else
    if (m_box ((16 : Int32) * i0).toNatClampNeg) = 71 then
      if (m_box ((((16 : Int32) * i0) + i1) - (1 : Int32)).toNatClampNeg) = 10 then
        JX10_reply_47 mF m_box m_answer m_nameLength m_name m_bodyLength m_body m_check i0 i1 1
      else
        JX10_reply_47 mF m_box m_answer m_nameLength m_name m_bodyLength m_body m_check i0 i1 0
    else
      JX10_reply_47 mF m_box m_answer m_nameLength m_name m_bodyLength m_body m_check i0 i1 0
def LX10_read_87 (i0 : Int32) (z_m_boxed : (Nat → Int32)) (u1_3 : (Nat → Int32)) (u2_3 : (Nat → Int32)) (v_5 : Int32) (z_m_box_2 : (Nat → Int32)) (lf_LX10_read_6 : Int32 → (Nat → Int32) → (Nat → Int32) → (Nat → Int32) → (Nat → Int32) → (Nat → Int32) → (Nat → Int32) → (Nat → Int32) × (Nat → Int32) × (Nat → Int32) × (Nat → Int32) × (Nat → Int32) × (Nat → Int32)) : Nat → Int32 → (Nat → Int32) → (Nat → Int32) → (Nat → Int32) × (Nat → Int32) × (Nat → Int32) × (Nat → Int32) × (Nat → Int32) × (Nat → Int32)
  | 0, _, _, _ => ((fun _ => 0), (fun _ => 0), (fun _ => 0), (fun _ => 0), (fun _ => 0), (fun _ => 0))
  | n + 1, y3_3, z_m_queue_3, z_m_queued_3 =>
    if (u1_3 46) ≤ y3_3 then
      lf_LX10_read_6 (FX10_line (upd u1_3 11 ((u1_3 11) + (1 : Int32))) (upd z_m_boxed i0.toNatClampNeg v_5) z_m_box_2 i0) (upd u1_3 11 ((u1_3 11) + (1 : Int32))) u2_3 (upd z_m_boxed i0.toNatClampNeg v_5) z_m_box_2 z_m_queue_3 z_m_queued_3
    else
      LX10_read_87 i0 z_m_boxed u1_3 u2_3 v_5 z_m_box_2 lf_LX10_read_6 n (y3_3 + 1) (upd z_m_queue_3 (((64 : Int32) * i0) + (z_m_queued_3 i0.toNatClampNeg)).toNatClampNeg (u2_3 y3_3.toNatClampNeg)) (upd z_m_queued_3 i0.toNatClampNeg ((z_m_queued_3 i0.toNatClampNeg) + (1 : Int32)))
def LX10_read_45 (i0 : Int32) (y2 : Int32) (z_m_boxed : (Nat → Int32)) (z_m_queue : (Nat → Int32)) (z_m_queued : (Nat → Int32)) (u1_3 : (Nat → Int32)) (u2_3 : (Nat → Int32)) (v_5 : Int32) (lf_LX10_read_6 : Int32 → (Nat → Int32) → (Nat → Int32) → (Nat → Int32) → (Nat → Int32) → (Nat → Int32) → (Nat → Int32) → (Nat → Int32) × (Nat → Int32) × (Nat → Int32) × (Nat → Int32) × (Nat → Int32) × (Nat → Int32)) : Nat → Int32 → (Nat → Int32) → (Nat → Int32) × (Nat → Int32) × (Nat → Int32) × (Nat → Int32) × (Nat → Int32) × (Nat → Int32)
  | 0, _, _ => ((fun _ => 0), (fun _ => 0), (fun _ => 0), (fun _ => 0), (fun _ => 0), (fun _ => 0))
  | n + 1, y3_2, z_m_box_2 =>
    if ((upd z_m_boxed i0.toNatClampNeg v_5) i0.toNatClampNeg) ≤ y3_2 then
      LX10_read_87 i0 z_m_boxed u1_3 u2_3 v_5 z_m_box_2 lf_LX10_read_6 128 0 z_m_queue z_m_queued
    else
      LX10_read_45 i0 y2 z_m_boxed z_m_queue z_m_queued u1_3 u2_3 v_5 lf_LX10_read_6 n (y3_2 + 1) (upd z_m_box_2 (((16 : Int32) * i0) + y3_2).toNatClampNeg (z_m_box_2 ((((16 : Int32) * i0) + y3_2) + y2).toNatClampNeg))
def KX10_read_13 (i0 : Int32) (w_3 : (Nat → Int32) × (Nat → Int32)) (y2 : Int32) (z_m_boxed : (Nat → Int32)) (z_m_box : (Nat → Int32)) (z_m_queue : (Nat → Int32)) (z_m_queued : (Nat → Int32)) (lf_LX10_read_6 : Int32 → (Nat → Int32) → (Nat → Int32) → (Nat → Int32) → (Nat → Int32) → (Nat → Int32) → (Nat → Int32) → (Nat → Int32) × (Nat → Int32) × (Nat → Int32) × (Nat → Int32) × (Nat → Int32) × (Nat → Int32)) : (Nat → Int32) × (Nat → Int32) × (Nat → Int32) × (Nat → Int32) × (Nat → Int32) × (Nat → Int32) :=
  if ((z_m_queued i0.toNatClampNeg) + (w_3.1 46)) ≤ 64 then
    LX10_read_45 i0 y2 z_m_boxed z_m_queue z_m_queued w_3.1 w_3.2 ((z_m_boxed i0.toNatClampNeg) - y2) lf_LX10_read_6 128 0 z_m_box
  else
    (w_3.1, z_m_boxed, z_m_box, w_3.2, z_m_queued, z_m_queue)
def LX10_read_6 (m_nameLength : (Nat → Int32)) (m_name : (Nat → Int32)) (m_bodyLength : (Nat → Int32)) (m_body : (Nat → Int32)) (m_check : (Nat → Int32)) (i0 : Int32) : Nat → Int32 → (Nat → Int32) → (Nat → Int32) → (Nat → Int32) → (Nat → Int32) → (Nat → Int32) → (Nat → Int32) → (Nat → Int32) × (Nat → Int32) × (Nat → Int32) × (Nat → Int32) × (Nat → Int32) × (Nat → Int32)
  | 0, _, _, _, _, _, _, _ => ((fun _ => 0), (fun _ => 0), (fun _ => 0), (fun _ => 0), (fun _ => 0), (fun _ => 0))
  | n + 1, y2, z_mF, z_m_answer, z_m_boxed, z_m_box, z_m_queue, z_m_queued =>
    if y2 ≤ 0 then
      (z_mF, z_m_boxed, z_m_box, z_m_answer, z_m_queued, z_m_queue)
    else
      KX10_read_13 i0 (FX10_reply z_mF z_m_box z_m_answer m_nameLength m_name m_bodyLength m_body m_check i0 y2) y2 z_m_boxed z_m_box z_m_queue z_m_queued (LX10_read_6 m_nameLength m_name m_bodyLength m_body m_check i0 n)
def FX10_read (mF : (Nat → Int32)) (m_boxed : (Nat → Int32)) (m_box : (Nat → Int32)) (m_answer : (Nat → Int32)) (m_nameLength : (Nat → Int32)) (m_name : (Nat → Int32)) (m_bodyLength : (Nat → Int32)) (m_body : (Nat → Int32)) (m_check : (Nat → Int32)) (m_queued : (Nat → Int32)) (m_queue : (Nat → Int32)) (i0 : Int32) : (Nat → Int32) × (Nat → Int32) × (Nat → Int32) × (Nat → Int32) × (Nat → Int32) × (Nat → Int32) :=
  LX10_read_6 m_nameLength m_name m_bodyLength m_body m_check i0 128 (FX10_line mF m_boxed m_box i0) mF m_answer m_boxed m_box m_queue m_queued
def KX10_push_215 (u1_12 : (Nat → Int32)) (u2_12 : (Nat → Int32)) (u3_12 : (Nat → Int32)) (w_13 : (Nat → Int32) × (Nat → Int32)) (y3_3 : Int32) (y4_6 : Int32) (z_m_send_7 : (Nat → Int32)) (lf_LX10_push_64 : Int32 → (Nat → Int32) → (Nat → Int32) → (Nat → Int32) → (Nat → Int32) → (Nat → Int32) → (Nat → Int32) → (Nat → Int32) × (Nat → Int32) × (Nat → Int32) × (Nat → Int32) × (Nat → Int32) × (Nat → Int32) × (Nat → Int32) × (Nat → Int32)) : (Nat → Int32) × (Nat → Int32) × (Nat → Int32) × (Nat → Int32) × (Nat → Int32) × (Nat → Int32) × (Nat → Int32) × (Nat → Int32) :=
  lf_LX10_push_64 (y3_3 + y4_6) u1_12 z_m_send_7 u2_12 u3_12 w_13.1 w_13.2
def KX10_push_208 (m_first : (Nat → Int32)) (i0 : Int32) (w_12 : (Nat → Int32) × (Nat → Int32) × (Nat → Int32)) (y3_3 : Int32) (z_m_sent_3 : (Nat → Int32)) (z_m_timer_3 : (Nat → Int32)) (y4_6 : Int32) (z_m_send_7 : (Nat → Int32)) (lf_LX10_push_64 : Int32 → (Nat → Int32) → (Nat → Int32) → (Nat → Int32) → (Nat → Int32) → (Nat → Int32) → (Nat → Int32) → (Nat → Int32) × (Nat → Int32) × (Nat → Int32) × (Nat → Int32) × (Nat → Int32) × (Nat → Int32) × (Nat → Int32) × (Nat → Int32)) : (Nat → Int32) × (Nat → Int32) × (Nat → Int32) × (Nat → Int32) × (Nat → Int32) × (Nat → Int32) × (Nat → Int32) × (Nat → Int32) :=
  KX10_push_215 w_12.1 w_12.2.1 w_12.2.2 (FX10_advance w_12.1 z_m_sent_3 m_first z_m_timer_3 i0 y4_6) y3_3 y4_6 z_m_send_7 lf_LX10_push_64
def LX10_push_156 (m_known : (Nat → Int32)) (m_first : (Nat → Int32)) (m_queue : (Nat → Int32)) (m_address : (Nat → Int32)) (i0 : Int32) (y3_3 : Int32) (z_m_out_3 : (Nat → Int32)) (z_m_outLength_3 : (Nat → Int32)) (z_m_sent_3 : (Nat → Int32)) (z_m_timer_3 : (Nat → Int32)) (y4_6 : Int32) (lf_LX10_push_64 : Int32 → (Nat → Int32) → (Nat → Int32) → (Nat → Int32) → (Nat → Int32) → (Nat → Int32) → (Nat → Int32) → (Nat → Int32) × (Nat → Int32) × (Nat → Int32) × (Nat → Int32) × (Nat → Int32) × (Nat → Int32) × (Nat → Int32) × (Nat → Int32)) : Nat → Int32 → (Nat → Int32) → (Nat → Int32) → (Nat → Int32) × (Nat → Int32) × (Nat → Int32) × (Nat → Int32) × (Nat → Int32) × (Nat → Int32) × (Nat → Int32) × (Nat → Int32)
  | 0, _, _, _ => ((fun _ => 0), (fun _ => 0), (fun _ => 0), (fun _ => 0), (fun _ => 0), (fun _ => 0), (fun _ => 0), (fun _ => 0))
  | n + 1, y5_7, z_mF_7, z_m_send_7 =>
    if y4_6 ≤ y5_7 then
      KX10_push_208 m_first i0 (FX10_sendTo z_mF_7 m_known z_m_out_3 z_m_outLength_3 z_m_send_7 (m_address i0.toNatClampNeg) 6) y3_3 z_m_sent_3 z_m_timer_3 y4_6 z_m_send_7 lf_LX10_push_64
    else
      LX10_push_156 m_known m_first m_queue m_address i0 y3_3 z_m_out_3 z_m_outLength_3 z_m_sent_3 z_m_timer_3 y4_6 lf_LX10_push_64 n (y5_7 + 1) (upd z_mF_7 30 ((z_mF_7 30) + (1 : Int32))) (upd z_m_send_7 (z_mF_7 30).toNatClampNeg (m_queue ((((64 : Int32) * i0) + y3_3) + y5_7).toNatClampNeg))
def KX10_push_150 (m_known : (Nat → Int32)) (m_first : (Nat → Int32)) (m_queue : (Nat → Int32)) (m_address : (Nat → Int32)) (i0 : Int32) (w_10 : (Nat → Int32) × (Nat → Int32)) (y3_3 : Int32) (z_m_out_3 : (Nat → Int32)) (z_m_outLength_3 : (Nat → Int32)) (z_m_sent_3 : (Nat → Int32)) (z_m_timer_3 : (Nat → Int32)) (y4_6 : Int32) (lf_LX10_push_64 : Int32 → (Nat → Int32) → (Nat → Int32) → (Nat → Int32) → (Nat → Int32) → (Nat → Int32) → (Nat → Int32) → (Nat → Int32) × (Nat → Int32) × (Nat → Int32) × (Nat → Int32) × (Nat → Int32) × (Nat → Int32) × (Nat → Int32) × (Nat → Int32)) : (Nat → Int32) × (Nat → Int32) × (Nat → Int32) × (Nat → Int32) × (Nat → Int32) × (Nat → Int32) × (Nat → Int32) × (Nat → Int32) :=
  LX10_push_156 m_known m_first m_queue m_address i0 y3_3 z_m_out_3 z_m_outLength_3 z_m_sent_3 z_m_timer_3 y4_6 lf_LX10_push_64 128 0 w_10.1 w_10.2
def JX10_push_120 (m_known : (Nat → Int32)) (m_first : (Nat → Int32)) (m_port : (Nat → Int32)) (m_next : (Nat → Int32)) (m_boxed : (Nat → Int32)) (m_queue : (Nat → Int32)) (m_address : (Nat → Int32)) (i0 : Int32) (y3_3 : Int32) (z_mF_3 : (Nat → Int32)) (z_m_send_3 : (Nat → Int32)) (z_m_out_3 : (Nat → Int32)) (z_m_outLength_3 : (Nat → Int32)) (z_m_sent_3 : (Nat → Int32)) (z_m_timer_3 : (Nat → Int32)) (lf_LX10_push_64 : Int32 → (Nat → Int32) → (Nat → Int32) → (Nat → Int32) → (Nat → Int32) → (Nat → Int32) → (Nat → Int32) → (Nat → Int32) × (Nat → Int32) × (Nat → Int32) × (Nat → Int32) × (Nat → Int32) × (Nat → Int32) × (Nat → Int32) × (Nat → Int32)) (y4_6 : Int32) : (Nat → Int32) × (Nat → Int32) × (Nat → Int32) × (Nat → Int32) × (Nat → Int32) × (Nat → Int32) × (Nat → Int32) × (Nat → Int32) :=
  KX10_push_150 m_known m_first m_queue m_address i0 (FX10_say z_mF_3 z_m_send_3 (m_port i0.toNatClampNeg) (z_m_sent_3 i0.toNatClampNeg) (m_next i0.toNatClampNeg) 16 ((16 : Int32) - (m_boxed i0.toNatClampNeg))) y3_3 z_m_out_3 z_m_outLength_3 z_m_sent_3 z_m_timer_3 y4_6 lf_LX10_push_64
def JX10_push_107 (m_known : (Nat → Int32)) (m_first : (Nat → Int32)) (m_port : (Nat → Int32)) (m_next : (Nat → Int32)) (m_boxed : (Nat → Int32)) (m_queue : (Nat → Int32)) (m_address : (Nat → Int32)) (i0 : Int32) (y3_3 : Int32) (z_mF_3 : (Nat → Int32)) (z_m_send_3 : (Nat → Int32)) (z_m_out_3 : (Nat → Int32)) (z_m_outLength_3 : (Nat → Int32)) (z_m_sent_3 : (Nat → Int32)) (z_m_timer_3 : (Nat → Int32)) (lf_LX10_push_64 : Int32 → (Nat → Int32) → (Nat → Int32) → (Nat → Int32) → (Nat → Int32) → (Nat → Int32) → (Nat → Int32) → (Nat → Int32) × (Nat → Int32) × (Nat → Int32) × (Nat → Int32) × (Nat → Int32) × (Nat → Int32) × (Nat → Int32) × (Nat → Int32)) (k0_5 : Int32) : (Nat → Int32) × (Nat → Int32) × (Nat → Int32) × (Nat → Int32) × (Nat → Int32) × (Nat → Int32) × (Nat → Int32) × (Nat → Int32) :=
  if k0_5 ≤ 8 then
    JX10_push_120 m_known m_first m_port m_next m_boxed m_queue m_address i0 y3_3 z_mF_3 z_m_send_3 z_m_out_3 z_m_outLength_3 z_m_sent_3 z_m_timer_3 lf_LX10_push_64 k0_5
  else
    JX10_push_120 m_known m_first m_port m_next m_boxed m_queue m_address i0 y3_3 z_mF_3 z_m_send_3 z_m_out_3 z_m_outLength_3 z_m_sent_3 z_m_timer_3 lf_LX10_push_64 8
def KX10_push_272 (m_state : (Nat → Int32)) (m_boxed : (Nat → Int32)) (i0 : Int32) (u1_6 : (Nat → Int32)) (u2_6 : (Nat → Int32)) (u3_6 : (Nat → Int32)) (u4_6 : (Nat → Int32)) (w_7 : (Nat → Int32) × (Nat → Int32)) : (Nat → Int32) × (Nat → Int32) × (Nat → Int32) × (Nat → Int32) × (Nat → Int32) × (Nat → Int32) × (Nat → Int32) × (Nat → Int32) :=
  (u1_6, u2_6, u3_6, u4_6, (upd m_state i0.toNatClampNeg 4), w_7.1, (upd m_boxed i0.toNatClampNeg 0), w_7.2)
def KX10_push_266 (m_state : (Nat → Int32)) (m_first : (Nat → Int32)) (m_boxed : (Nat → Int32)) (i0 : Int32) (w_6 : (Nat → Int32) × (Nat → Int32) × (Nat → Int32) × (Nat → Int32)) (z_m_sent_3 : (Nat → Int32)) (z_m_timer_3 : (Nat → Int32)) : (Nat → Int32) × (Nat → Int32) × (Nat → Int32) × (Nat → Int32) × (Nat → Int32) × (Nat → Int32) × (Nat → Int32) × (Nat → Int32) :=
  KX10_push_272 m_state m_boxed i0 w_6.1 w_6.2.1 w_6.2.2.1 w_6.2.2.2 (FX10_advance w_6.1 z_m_sent_3 m_first z_m_timer_3 i0 1)
def JX10_push_226 (m_known : (Nat → Int32)) (m_state : (Nat → Int32)) (m_first : (Nat → Int32)) (m_queued : (Nat → Int32)) (m_port : (Nat → Int32)) (m_next : (Nat → Int32)) (m_boxed : (Nat → Int32)) (m_box : (Nat → Int32)) (m_address : (Nat → Int32)) (i0 : Int32) (y3_3 : Int32) (z_mF_3 : (Nat → Int32)) (z_m_send_3 : (Nat → Int32)) (z_m_out_3 : (Nat → Int32)) (z_m_outLength_3 : (Nat → Int32)) (z_m_sent_3 : (Nat → Int32)) (z_m_timer_3 : (Nat → Int32))  : (Nat → Int32) × (Nat → Int32) × (Nat → Int32) × (Nat → Int32) × (Nat → Int32) × (Nat → Int32) × (Nat → Int32) × (Nat → Int32) :=
  if (m_state i0.toNatClampNeg) = 3 then
    if y3_3 < (m_queued i0.toNatClampNeg) then
      (z_mF_3, z_m_out_3, z_m_outLength_3, z_m_send_3, m_state, z_m_sent_3, m_boxed, z_m_timer_3)
    else
      if (FX10_line z_mF_3 m_boxed m_box i0) ≤ 0 then
        KX10_push_266 m_state m_first m_boxed i0 (FX10_tell z_mF_3 m_known z_m_out_3 z_m_outLength_3 z_m_send_3 m_port z_m_sent_3 m_next (upd m_boxed i0.toNatClampNeg 0) m_address i0 17) z_m_sent_3 z_m_timer_3
      else
        (z_mF_3, z_m_out_3, z_m_outLength_3, z_m_send_3, m_state, z_m_sent_3, m_boxed, z_m_timer_3)
  else
    (z_mF_3, z_m_out_3, z_m_outLength_3, z_m_send_3, m_state, z_m_sent_3, m_boxed, z_m_timer_3)
def LX10_push_64 (m_known : (Nat → Int32)) (m_state : (Nat → Int32)) (m_first : (Nat → Int32)) (m_queued : (Nat → Int32)) (m_port : (Nat → Int32)) (m_next : (Nat → Int32)) (m_boxed : (Nat → Int32)) (m_box : (Nat → Int32)) (m_queue : (Nat → Int32)) (m_address : (Nat → Int32)) (i0 : Int32) (k0_2 : Int32) : Nat → Int32 → (Nat → Int32) → (Nat → Int32) → (Nat → Int32) → (Nat → Int32) → (Nat → Int32) → (Nat → Int32) → (Nat → Int32) × (Nat → Int32) × (Nat → Int32) × (Nat → Int32) × (Nat → Int32) × (Nat → Int32) × (Nat → Int32) × (Nat → Int32)
  | 0, _, _, _, _, _, _, _ => ((fun _ => 0), (fun _ => 0), (fun _ => 0), (fun _ => 0), (fun _ => 0), (fun _ => 0), (fun _ => 0), (fun _ => 0))
  | n + 1, y3_3, z_mF_3, z_m_send_3, z_m_out_3, z_m_outLength_3, z_m_sent_3, z_m_timer_3 =>
    if (m_queued i0.toNatClampNeg) ≤ y3_3 then
      JX10_push_226 m_known m_state m_first m_queued m_port m_next m_boxed m_box m_address i0 y3_3 z_mF_3 z_m_send_3 z_m_out_3 z_m_outLength_3 z_m_sent_3 z_m_timer_3 
    else
      if k0_2 ≤ y3_3 then
        JX10_push_226 m_known m_state m_first m_queued m_port m_next m_boxed m_box m_address i0 y3_3 z_mF_3 z_m_send_3 z_m_out_3 z_m_outLength_3 z_m_sent_3 z_m_timer_3 
      else
        if (k0_2 - y3_3) ≤ ((m_queued i0.toNatClampNeg) - y3_3) then
          JX10_push_107 m_known m_first m_port m_next m_boxed m_queue m_address i0 y3_3 z_mF_3 z_m_send_3 z_m_out_3 z_m_outLength_3 z_m_sent_3 z_m_timer_3 (LX10_push_64 m_known m_state m_first m_queued m_port m_next m_boxed m_box m_queue m_address i0 k0_2 n) (k0_2 - y3_3)
        else
          JX10_push_107 m_known m_first m_port m_next m_boxed m_queue m_address i0 y3_3 z_mF_3 z_m_send_3 z_m_out_3 z_m_outLength_3 z_m_sent_3 z_m_timer_3 (LX10_push_64 m_known m_state m_first m_queued m_port m_next m_boxed m_box m_queue m_address i0 k0_2 n) ((m_queued i0.toNatClampNeg) - y3_3)
def JX10_push_57 (mF : (Nat → Int32)) (m_known : (Nat → Int32)) (m_out : (Nat → Int32)) (m_outLength : (Nat → Int32)) (m_send : (Nat → Int32)) (m_state : (Nat → Int32)) (m_sent : (Nat → Int32)) (m_first : (Nat → Int32)) (m_queued : (Nat → Int32)) (m_port : (Nat → Int32)) (m_next : (Nat → Int32)) (m_boxed : (Nat → Int32)) (m_box : (Nat → Int32)) (m_queue : (Nat → Int32)) (m_address : (Nat → Int32)) (m_timer : (Nat → Int32)) (i0 : Int32) (k0_2 : Int32) : (Nat → Int32) × (Nat → Int32) × (Nat → Int32) × (Nat → Int32) × (Nat → Int32) × (Nat → Int32) × (Nat → Int32) × (Nat → Int32) :=
  LX10_push_64 m_known m_state m_first m_queued m_port m_next m_boxed m_box m_queue m_address i0 k0_2 128 (FX10_way mF m_sent m_first i0) mF m_send m_out m_outLength m_sent m_timer
def JX10_push_21 (mF : (Nat → Int32)) (m_known : (Nat → Int32)) (m_out : (Nat → Int32)) (m_outLength : (Nat → Int32)) (m_send : (Nat → Int32)) (m_state : (Nat → Int32)) (m_window : (Nat → Int32)) (m_pace : (Nat → Int32)) (m_sent : (Nat → Int32)) (m_first : (Nat → Int32)) (m_queued : (Nat → Int32)) (m_port : (Nat → Int32)) (m_next : (Nat → Int32)) (m_boxed : (Nat → Int32)) (m_box : (Nat → Int32)) (m_queue : (Nat → Int32)) (m_address : (Nat → Int32)) (m_timer : (Nat → Int32)) (i0 : Int32)  : (Nat → Int32) × (Nat → Int32) × (Nat → Int32) × (Nat → Int32) × (Nat → Int32) × (Nat → Int32) × (Nat → Int32) × (Nat → Int32) :=
  if ((8 : Int32) * (m_pace i0.toNatClampNeg)) ≤ (m_window i0.toNatClampNeg) then
    JX10_push_57 mF m_known m_out m_outLength m_send m_state m_sent m_first m_queued m_port m_next m_boxed m_box m_queue m_address m_timer i0 ((8 : Int32) * (m_pace i0.toNatClampNeg))
  else
    JX10_push_57 mF m_known m_out m_outLength m_send m_state m_sent m_first m_queued m_port m_next m_boxed m_box m_queue m_address m_timer i0 (m_window i0.toNatClampNeg)
def FX10_push (mF : (Nat → Int32)) (m_known : (Nat → Int32)) (m_out : (Nat → Int32)) (m_outLength : (Nat → Int32)) (m_send : (Nat → Int32)) (m_state : (Nat → Int32)) (m_window : (Nat → Int32)) (m_pace : (Nat → Int32)) (m_sent : (Nat → Int32)) (m_first : (Nat → Int32)) (m_queued : (Nat → Int32)) (m_port : (Nat → Int32)) (m_next : (Nat → Int32)) (m_boxed : (Nat → Int32)) (m_box : (Nat → Int32)) (m_queue : (Nat → Int32)) (m_address : (Nat → Int32)) (m_timer : (Nat → Int32)) (i0 : Int32) : (Nat → Int32) × (Nat → Int32) × (Nat → Int32) × (Nat → Int32) × (Nat → Int32) × (Nat → Int32) × (Nat → Int32) × (Nat → Int32) :=
  if (m_state i0.toNatClampNeg) = 2 then
    JX10_push_21 mF m_known m_out m_outLength m_send m_state m_window m_pace m_sent m_first m_queued m_port m_next m_boxed m_box m_queue m_address m_timer i0 
  else
    if (m_state i0.toNatClampNeg) = 3 then
      JX10_push_21 mF m_known m_out m_outLength m_send m_state m_window m_pace m_sent m_first m_queued m_port m_next m_boxed m_box m_queue m_address m_timer i0 
    else
      (mF, m_out, m_outLength, m_send, m_state, m_sent, m_boxed, m_timer)
def KX10_beat_157 (m_pace : (Nat → Int32)) (m_tries : (Nat → Int32)) (i0 : Int32) (v_4 : Int32) (w_8 : (Nat → Int32) × (Nat → Int32) × (Nat → Int32) × (Nat → Int32) × (Nat → Int32) × (Nat → Int32) × (Nat → Int32) × (Nat → Int32)) : (Nat → Int32) × (Nat → Int32) × (Nat → Int32) × (Nat → Int32) × (Nat → Int32) × (Nat → Int32) × (Nat → Int32) × (Nat → Int32) × (Nat → Int32) × (Nat → Int32) :=
  (w_8.1, w_8.2.1, w_8.2.2.1, w_8.2.2.2.1, w_8.2.2.2.2.1, (upd m_pace i0.toNatClampNeg 1), w_8.2.2.2.2.2.1, w_8.2.2.2.2.2.2.1, w_8.2.2.2.2.2.2.2, (upd m_tries i0.toNatClampNeg v_4))
def JX10_beat_155 (mF : (Nat → Int32)) (m_known : (Nat → Int32)) (m_out : (Nat → Int32)) (m_outLength : (Nat → Int32)) (m_send : (Nat → Int32)) (m_window : (Nat → Int32)) (m_pace : (Nat → Int32)) (m_sent : (Nat → Int32)) (m_first : (Nat → Int32)) (m_queued : (Nat → Int32)) (m_port : (Nat → Int32)) (m_next : (Nat → Int32)) (m_boxed : (Nat → Int32)) (m_box : (Nat → Int32)) (m_queue : (Nat → Int32)) (m_address : (Nat → Int32)) (m_timer : (Nat → Int32)) (m_tries : (Nat → Int32)) (i0 : Int32) (v_1 : Int32) (v_4 : Int32) (v_5 : Int32) (f_6 : Int32) (z_m_state : (Nat → Int32)) : (Nat → Int32) × (Nat → Int32) × (Nat → Int32) × (Nat → Int32) × (Nat → Int32) × (Nat → Int32) × (Nat → Int32) × (Nat → Int32) × (Nat → Int32) × (Nat → Int32) :=
  KX10_beat_157 m_pace m_tries i0 v_4 (FX10_push (upd mF 12 f_6) m_known m_out m_outLength m_send z_m_state m_window (upd m_pace i0.toNatClampNeg 1) (upd m_sent i0.toNatClampNeg v_5) m_first m_queued m_port m_next m_boxed m_box m_queue m_address (upd (upd m_timer i0.toNatClampNeg v_1) i0.toNatClampNeg 0) i0)
def KX10_beat_57 (m_state : (Nat → Int32)) (m_pace : (Nat → Int32)) (m_sent : (Nat → Int32)) (m_boxed : (Nat → Int32)) (m_timer : (Nat → Int32)) (m_tries : (Nat → Int32)) (i0 : Int32) (v_1 : Int32) (w_12 : (Nat → Int32) × (Nat → Int32) × (Nat → Int32) × (Nat → Int32)) : (Nat → Int32) × (Nat → Int32) × (Nat → Int32) × (Nat → Int32) × (Nat → Int32) × (Nat → Int32) × (Nat → Int32) × (Nat → Int32) × (Nat → Int32) × (Nat → Int32) :=
  (w_12.1, w_12.2.1, w_12.2.2.1, w_12.2.2.2, (upd m_state i0.toNatClampNeg 0), m_pace, m_sent, m_boxed, (upd m_timer i0.toNatClampNeg v_1), m_tries)
def KX10_beat_134 (m_state : (Nat → Int32)) (m_pace : (Nat → Int32)) (m_boxed : (Nat → Int32)) (m_tries : (Nat → Int32)) (i0 : Int32) (v_4 : Int32) (u1_10 : (Nat → Int32)) (u2_10 : (Nat → Int32)) (u3_10 : (Nat → Int32)) (u4_10 : (Nat → Int32)) (w_11 : (Nat → Int32) × (Nat → Int32)) : (Nat → Int32) × (Nat → Int32) × (Nat → Int32) × (Nat → Int32) × (Nat → Int32) × (Nat → Int32) × (Nat → Int32) × (Nat → Int32) × (Nat → Int32) × (Nat → Int32) :=
  (u1_10, u2_10, u3_10, u4_10, m_state, (upd m_pace i0.toNatClampNeg 1), w_11.1, m_boxed, w_11.2, (upd m_tries i0.toNatClampNeg v_4))
def KX10_beat_128 (m_state : (Nat → Int32)) (m_pace : (Nat → Int32)) (m_sent : (Nat → Int32)) (m_first : (Nat → Int32)) (m_boxed : (Nat → Int32)) (m_timer : (Nat → Int32)) (m_tries : (Nat → Int32)) (i0 : Int32) (v_1 : Int32) (v_4 : Int32) (v_5 : Int32) (w_10 : (Nat → Int32) × (Nat → Int32) × (Nat → Int32) × (Nat → Int32)) : (Nat → Int32) × (Nat → Int32) × (Nat → Int32) × (Nat → Int32) × (Nat → Int32) × (Nat → Int32) × (Nat → Int32) × (Nat → Int32) × (Nat → Int32) × (Nat → Int32) :=
  KX10_beat_134 m_state m_pace m_boxed m_tries i0 v_4 w_10.1 w_10.2.1 w_10.2.2.1 w_10.2.2.2 (FX10_advance w_10.1 (upd m_sent i0.toNatClampNeg v_5) m_first (upd (upd m_timer i0.toNatClampNeg v_1) i0.toNatClampNeg 0) i0 1)
def FX10_beat (mF : (Nat → Int32)) (m_known : (Nat → Int32)) (m_out : (Nat → Int32)) (m_outLength : (Nat → Int32)) (m_send : (Nat → Int32)) (m_state : (Nat → Int32)) (m_window : (Nat → Int32)) (m_pace : (Nat → Int32)) (m_sent : (Nat → Int32)) (m_first : (Nat → Int32)) (m_queued : (Nat → Int32)) (m_port : (Nat → Int32)) (m_next : (Nat → Int32)) (m_boxed : (Nat → Int32)) (m_box : (Nat → Int32)) (m_queue : (Nat → Int32)) (m_address : (Nat → Int32)) (m_timer : (Nat → Int32)) (m_tries : (Nat → Int32)) (i0 : Int32) : (Nat → Int32) × (Nat → Int32) × (Nat → Int32) × (Nat → Int32) × (Nat → Int32) × (Nat → Int32) × (Nat → Int32) × (Nat → Int32) × (Nat → Int32) × (Nat → Int32) :=
  if ((4 : Int32) <<< ((m_tries i0.toNatClampNeg) &&& 31)) ≤ ((upd m_timer i0.toNatClampNeg ((m_timer i0.toNatClampNeg) + (1 : Int32))) i0.toNatClampNeg) then
    if (m_tries i0.toNatClampNeg) = 3 then
      KX10_beat_57 m_state m_pace m_sent m_boxed m_timer m_tries i0 ((m_timer i0.toNatClampNeg) + (1 : Int32)) (FX10_reset mF m_known m_out m_outLength m_send (m_address i0.toNatClampNeg) (m_port i0.toNatClampNeg) (m_sent i0.toNatClampNeg))
    else
      if (m_state i0.toNatClampNeg) = 1 then
        KX10_beat_128 m_state m_pace m_sent m_first m_boxed m_timer m_tries i0 ((m_timer i0.toNatClampNeg) + (1 : Int32)) ((m_tries i0.toNatClampNeg) + (1 : Int32)) (m_first i0.toNatClampNeg) (FX10_tell (upd mF 12 ((mF 12) + (1 : Int32))) m_known m_out m_outLength m_send m_port (upd m_sent i0.toNatClampNeg (m_first i0.toNatClampNeg)) m_next m_boxed m_address i0 18)
      else
        if (m_state i0.toNatClampNeg) = 4 then
          JX10_beat_155 mF m_known m_out m_outLength m_send m_window m_pace m_sent m_first m_queued m_port m_next m_boxed m_box m_queue m_address m_timer m_tries i0 ((m_timer i0.toNatClampNeg) + (1 : Int32)) ((m_tries i0.toNatClampNeg) + (1 : Int32)) (m_first i0.toNatClampNeg) ((mF 12) + (1 : Int32)) (upd m_state i0.toNatClampNeg 3)
        else
          JX10_beat_155 mF m_known m_out m_outLength m_send m_window m_pace m_sent m_first m_queued m_port m_next m_boxed m_box m_queue m_address m_timer m_tries i0 ((m_timer i0.toNatClampNeg) + (1 : Int32)) ((m_tries i0.toNatClampNeg) + (1 : Int32)) (m_first i0.toNatClampNeg) ((mF 12) + (1 : Int32)) m_state
  else
    (mF, m_out, m_outLength, m_send, m_state, m_pace, m_sent, m_boxed, (upd m_timer i0.toNatClampNeg ((m_timer i0.toNatClampNeg) + (1 : Int32))), m_tries)
def KX10_begin_119 (m_state : (Nat → Int32)) (m_address : (Nat → Int32)) (m_port : (Nat → Int32)) (m_next : (Nat → Int32)) (m_first : (Nat → Int32)) (m_window : (Nat → Int32)) (m_pace : (Nat → Int32)) (m_tries : (Nat → Int32)) (m_queued : (Nat → Int32)) (m_boxed : (Nat → Int32)) (i0 : Int32) (i1 : Int32) (i2 : Int32) (i4 : Int32) (v_1 : Int32) (v_2 : Int32) (u1_5 : (Nat → Int32)) (u2_5 : (Nat → Int32)) (u3_5 : (Nat → Int32)) (u4_5 : (Nat → Int32)) (w_6 : (Nat → Int32) × (Nat → Int32)) : (Nat → Int32) × (Nat → Int32) × (Nat → Int32) × (Nat → Int32) × (Nat → Int32) × (Nat → Int32) × (Nat → Int32) × (Nat → Int32) × (Nat → Int32) × (Nat → Int32) × (Nat → Int32) × (Nat → Int32) × (Nat → Int32) × (Nat → Int32) × (Nat → Int32) × (Nat → Int32) :=
  (u1_5, u2_5, u3_5, u4_5, (upd m_state i0.toNatClampNeg 1), (upd m_address i0.toNatClampNeg i1), (upd m_port i0.toNatClampNeg i2), (upd m_next i0.toNatClampNeg v_1), (upd m_first i0.toNatClampNeg v_2), w_6.1, (upd m_window i0.toNatClampNeg i4), (upd m_pace i0.toNatClampNeg 1), (upd m_tries i0.toNatClampNeg 0), (upd m_queued i0.toNatClampNeg 0), (upd m_boxed i0.toNatClampNeg 0), w_6.2)
def KX10_begin_113 (m_state : (Nat → Int32)) (m_address : (Nat → Int32)) (m_port : (Nat → Int32)) (m_next : (Nat → Int32)) (m_first : (Nat → Int32)) (m_sent : (Nat → Int32)) (m_window : (Nat → Int32)) (m_pace : (Nat → Int32)) (m_tries : (Nat → Int32)) (m_queued : (Nat → Int32)) (m_boxed : (Nat → Int32)) (m_timer : (Nat → Int32)) (i0 : Int32) (i1 : Int32) (i2 : Int32) (i4 : Int32) (v_1 : Int32) (v_2 : Int32) (v_3 : Int32) (w_5 : (Nat → Int32) × (Nat → Int32) × (Nat → Int32) × (Nat → Int32)) : (Nat → Int32) × (Nat → Int32) × (Nat → Int32) × (Nat → Int32) × (Nat → Int32) × (Nat → Int32) × (Nat → Int32) × (Nat → Int32) × (Nat → Int32) × (Nat → Int32) × (Nat → Int32) × (Nat → Int32) × (Nat → Int32) × (Nat → Int32) × (Nat → Int32) × (Nat → Int32) :=
  KX10_begin_119 m_state m_address m_port m_next m_first m_window m_pace m_tries m_queued m_boxed i0 i1 i2 i4 v_1 v_2 w_5.1 w_5.2.1 w_5.2.2.1 w_5.2.2.2 (FX10_advance w_5.1 (upd m_sent i0.toNatClampNeg v_3) (upd m_first i0.toNatClampNeg v_2) m_timer i0 1)
def FX10_begin (mF : (Nat → Int32)) (m_known : (Nat → Int32)) (m_out : (Nat → Int32)) (m_outLength : (Nat → Int32)) (m_send : (Nat → Int32)) (m_state : (Nat → Int32)) (m_address : (Nat → Int32)) (m_port : (Nat → Int32)) (m_next : (Nat → Int32)) (m_first : (Nat → Int32)) (m_sent : (Nat → Int32)) (m_window : (Nat → Int32)) (m_pace : (Nat → Int32)) (m_tries : (Nat → Int32)) (m_queued : (Nat → Int32)) (m_boxed : (Nat → Int32)) (m_timer : (Nat → Int32)) (i0 : Int32) (i1 : Int32) (i2 : Int32) (i3 : Int32) (i4 : Int32) : (Nat → Int32) × (Nat → Int32) × (Nat → Int32) × (Nat → Int32) × (Nat → Int32) × (Nat → Int32) × (Nat → Int32) × (Nat → Int32) × (Nat → Int32) × (Nat → Int32) × (Nat → Int32) × (Nat → Int32) × (Nat → Int32) × (Nat → Int32) × (Nat → Int32) × (Nat → Int32) :=
  KX10_begin_113 m_state m_address m_port m_next m_first m_sent m_window m_pace m_tries m_queued m_boxed m_timer i0 i1 i2 i4 ((i3 + (1 : Int32)) &&& (255 : Int32)) (((4 : Int32) * (mF 5)) &&& (255 : Int32)) ((upd m_first i0.toNatClampNeg (((4 : Int32) * (mF 5)) &&& (255 : Int32))) i0.toNatClampNeg) (FX10_tell (upd mF 10 ((mF 10) + (1 : Int32))) m_known m_out m_outLength m_send (upd m_port i0.toNatClampNeg i2) (upd m_sent i0.toNatClampNeg ((upd m_first i0.toNatClampNeg (((4 : Int32) * (mF 5)) &&& (255 : Int32))) i0.toNatClampNeg)) (upd m_next i0.toNatClampNeg ((i3 + (1 : Int32)) &&& (255 : Int32))) (upd m_boxed i0.toNatClampNeg 0) (upd m_address i0.toNatClampNeg i1) i0 18)
def KX10_goOn_386 (m_window : (Nat → Int32)) (i0 : Int32) (i4 : Int32) (w_7 : (Nat → Int32) × (Nat → Int32) × (Nat → Int32) × (Nat → Int32)) (z_m_first : (Nat → Int32)) (z_m_pace : (Nat → Int32)) (z_m_tries : (Nat → Int32)) (z_m_next_2 : (Nat → Int32)) (z_m_answer_3 : (Nat → Int32)) (z_m_boxed_3 : (Nat → Int32)) (z_m_box_3 : (Nat → Int32)) (z_m_queue_3 : (Nat → Int32)) (z_m_queued_3 : (Nat → Int32)) (z_m_sent_3 : (Nat → Int32)) (z_m_timer_3 : (Nat → Int32)) (z_m_state_3 : (Nat → Int32)) : (Nat → Int32) × (Nat → Int32) × (Nat → Int32) × (Nat → Int32) × (Nat → Int32) × (Nat → Int32) × (Nat → Int32) × (Nat → Int32) × (Nat → Int32) × (Nat → Int32) × (Nat → Int32) × (Nat → Int32) × (Nat → Int32) × (Nat → Int32) × (Nat → Int32) × (Nat → Int32) × (Nat → Int32) :=
  (w_7.1, w_7.2.1, w_7.2.2.1, w_7.2.2.2, z_m_state_3, (upd m_window i0.toNatClampNeg i4), z_m_pace, z_m_sent_3, z_m_first, z_m_queued_3, z_m_next_2, z_m_boxed_3, z_m_box_3, z_m_queue_3, z_m_timer_3, z_m_tries, z_m_answer_3)
def KX10_goOn_386k1 (m_window : (Nat → Int32)) (i0 : Int32) (i4 : Int32) (w_10 : (Nat → Int32) × (Nat → Int32) × (Nat → Int32) × (Nat → Int32)) (z_m_first : (Nat → Int32)) (z_m_pace : (Nat → Int32)) (z_m_tries : (Nat → Int32)) (z_m_next_2 : (Nat → Int32)) (z_m_answer_3 : (Nat → Int32)) (z_m_boxed_3 : (Nat → Int32)) (z_m_box_3 : (Nat → Int32)) (z_m_queue_3 : (Nat → Int32)) (z_m_queued_3 : (Nat → Int32)) (z_m_sent_3 : (Nat → Int32)) (z_m_timer_3 : (Nat → Int32)) (z_m_state_3 : (Nat → Int32)) : (Nat → Int32) × (Nat → Int32) × (Nat → Int32) × (Nat → Int32) × (Nat → Int32) × (Nat → Int32) × (Nat → Int32) × (Nat → Int32) × (Nat → Int32) × (Nat → Int32) × (Nat → Int32) × (Nat → Int32) × (Nat → Int32) × (Nat → Int32) × (Nat → Int32) × (Nat → Int32) × (Nat → Int32) :=
  (w_10.1, w_10.2.1, w_10.2.2.1, w_10.2.2.2, z_m_state_3, (upd m_window i0.toNatClampNeg i4), z_m_pace, z_m_sent_3, z_m_first, z_m_queued_3, z_m_next_2, z_m_boxed_3, z_m_box_3, z_m_queue_3, z_m_timer_3, z_m_tries, z_m_answer_3)
def JX10_goOn_363 (m_known : (Nat → Int32)) (m_window : (Nat → Int32)) (m_port : (Nat → Int32)) (m_address : (Nat → Int32)) (i0 : Int32) (i3 : Int32) (i4 : Int32) (i5 : Int32) (z_m_first : (Nat → Int32)) (z_m_pace : (Nat → Int32)) (z_m_tries : (Nat → Int32)) (z_m_next_2 : (Nat → Int32)) (x_4 : Int32) (z_mF_3 : (Nat → Int32)) (z_m_answer_3 : (Nat → Int32)) (z_m_boxed_3 : (Nat → Int32)) (z_m_box_3 : (Nat → Int32)) (z_m_queue_3 : (Nat → Int32)) (z_m_queued_3 : (Nat → Int32)) (z_m_send_3 : (Nat → Int32)) (z_m_out_3 : (Nat → Int32)) (z_m_outLength_3 : (Nat → Int32)) (z_m_sent_3 : (Nat → Int32)) (z_m_timer_3 : (Nat → Int32)) (z_m_state_3 : (Nat → Int32)) : (Nat → Int32) × (Nat → Int32) × (Nat → Int32) × (Nat → Int32) × (Nat → Int32) × (Nat → Int32) × (Nat → Int32) × (Nat → Int32) × (Nat → Int32) × (Nat → Int32) × (Nat → Int32) × (Nat → Int32) × (Nat → Int32) × (Nat → Int32) × (Nat → Int32) × (Nat → Int32) × (Nat → Int32) :=
  if 0 < i5 then
    if (z_mF_3 8) = x_4 then
      KX10_goOn_386 m_window i0 i4 (FX10_tell z_mF_3 m_known z_m_out_3 z_m_outLength_3 z_m_send_3 m_port z_m_sent_3 z_m_next_2 z_m_boxed_3 m_address i0 16) z_m_first z_m_pace z_m_tries z_m_next_2 z_m_answer_3 z_m_boxed_3 z_m_box_3 z_m_queue_3 z_m_queued_3 z_m_sent_3 z_m_timer_3 z_m_state_3
    else
      (z_mF_3, z_m_out_3, z_m_outLength_3, z_m_send_3, z_m_state_3, (upd m_window i0.toNatClampNeg i4), z_m_pace, z_m_sent_3, z_m_first, z_m_queued_3, z_m_next_2, z_m_boxed_3, z_m_box_3, z_m_queue_3, z_m_timer_3, z_m_tries, z_m_answer_3)
  else
    if i3 = 0 then
      (z_mF_3, z_m_out_3, z_m_outLength_3, z_m_send_3, z_m_state_3, (upd m_window i0.toNatClampNeg i4), z_m_pace, z_m_sent_3, z_m_first, z_m_queued_3, z_m_next_2, z_m_boxed_3, z_m_box_3, z_m_queue_3, z_m_timer_3, z_m_tries, z_m_answer_3)
    else
      if (z_mF_3 8) = x_4 then
        KX10_goOn_386k1 m_window i0 i4 (FX10_tell z_mF_3 m_known z_m_out_3 z_m_outLength_3 z_m_send_3 m_port z_m_sent_3 z_m_next_2 z_m_boxed_3 m_address i0 16) z_m_first z_m_pace z_m_tries z_m_next_2 z_m_answer_3 z_m_boxed_3 z_m_box_3 z_m_queue_3 z_m_queued_3 z_m_sent_3 z_m_timer_3 z_m_state_3
      else
        (z_mF_3, z_m_out_3, z_m_outLength_3, z_m_send_3, z_m_state_3, (upd m_window i0.toNatClampNeg i4), z_m_pace, z_m_sent_3, z_m_first, z_m_queued_3, z_m_next_2, z_m_boxed_3, z_m_box_3, z_m_queue_3, z_m_timer_3, z_m_tries, z_m_answer_3)
def KX10_goOn_360 (m_known : (Nat → Int32)) (m_window : (Nat → Int32)) (m_port : (Nat → Int32)) (m_address : (Nat → Int32)) (i0 : Int32) (i3 : Int32) (i4 : Int32) (i5 : Int32) (x_4 : Int32) (u3_12 : (Nat → Int32)) (u4_12 : (Nat → Int32)) (u5_12 : (Nat → Int32)) (u6_12 : (Nat → Int32)) (w_13 : (Nat → Int32) × (Nat → Int32) × (Nat → Int32) × (Nat → Int32) × (Nat → Int32) × (Nat → Int32) × (Nat → Int32) × (Nat → Int32)) (z_m_first : (Nat → Int32)) (z_m_pace : (Nat → Int32)) (z_m_tries : (Nat → Int32)) (z_m_next_2 : (Nat → Int32)) : (Nat → Int32) × (Nat → Int32) × (Nat → Int32) × (Nat → Int32) × (Nat → Int32) × (Nat → Int32) × (Nat → Int32) × (Nat → Int32) × (Nat → Int32) × (Nat → Int32) × (Nat → Int32) × (Nat → Int32) × (Nat → Int32) × (Nat → Int32) × (Nat → Int32) × (Nat → Int32) × (Nat → Int32) :=
  JX10_goOn_363 m_known m_window m_port m_address i0 i3 i4 i5 z_m_first z_m_pace z_m_tries z_m_next_2 x_4 w_13.1 u4_12 w_13.2.2.2.2.2.2.1 u3_12 u6_12 u5_12 w_13.2.2.2.1 w_13.2.1 w_13.2.2.1 w_13.2.2.2.2.2.1 w_13.2.2.2.2.2.2.2 w_13.2.2.2.2.1
def KX10_goOn_355 (m_known : (Nat → Int32)) (m_out : (Nat → Int32)) (m_outLength : (Nat → Int32)) (m_send : (Nat → Int32)) (m_window : (Nat → Int32)) (m_sent : (Nat → Int32)) (m_port : (Nat → Int32)) (m_address : (Nat → Int32)) (i0 : Int32) (i3 : Int32) (i4 : Int32) (i5 : Int32) (x_4 : Int32) (w_12 : (Nat → Int32) × (Nat → Int32) × (Nat → Int32) × (Nat → Int32) × (Nat → Int32) × (Nat → Int32)) (z_m_first : (Nat → Int32)) (z_m_pace : (Nat → Int32)) (z_m_tries : (Nat → Int32)) (z_m_timer : (Nat → Int32)) (z_m_next_2 : (Nat → Int32)) (z_m_state_2 : (Nat → Int32)) : (Nat → Int32) × (Nat → Int32) × (Nat → Int32) × (Nat → Int32) × (Nat → Int32) × (Nat → Int32) × (Nat → Int32) × (Nat → Int32) × (Nat → Int32) × (Nat → Int32) × (Nat → Int32) × (Nat → Int32) × (Nat → Int32) × (Nat → Int32) × (Nat → Int32) × (Nat → Int32) × (Nat → Int32) :=
  KX10_goOn_360 m_known m_window m_port m_address i0 i3 i4 i5 x_4 w_12.2.2.1 w_12.2.2.2.1 w_12.2.2.2.2.1 w_12.2.2.2.2.2 (FX10_push w_12.1 m_known m_out m_outLength m_send z_m_state_2 (upd m_window i0.toNatClampNeg i4) z_m_pace m_sent z_m_first w_12.2.2.2.2.1 m_port z_m_next_2 w_12.2.1 w_12.2.2.1 w_12.2.2.2.2.2 m_address z_m_timer i0) z_m_first z_m_pace z_m_tries z_m_next_2
def JX10_goOn_337 (mF : (Nat → Int32)) (m_known : (Nat → Int32)) (m_out : (Nat → Int32)) (m_outLength : (Nat → Int32)) (m_send : (Nat → Int32)) (m_window : (Nat → Int32)) (m_sent : (Nat → Int32)) (m_port : (Nat → Int32)) (m_address : (Nat → Int32)) (m_answer : (Nat → Int32)) (m_nameLength : (Nat → Int32)) (m_name : (Nat → Int32)) (m_bodyLength : (Nat → Int32)) (m_body : (Nat → Int32)) (m_check : (Nat → Int32)) (i0 : Int32) (i3 : Int32) (i4 : Int32) (i5 : Int32) (z_m_first : (Nat → Int32)) (z_m_queued : (Nat → Int32)) (z_m_queue : (Nat → Int32)) (z_m_pace : (Nat → Int32)) (z_m_tries : (Nat → Int32)) (z_m_timer : (Nat → Int32)) (z_m_box_2 : (Nat → Int32)) (z_m_boxed_2 : (Nat → Int32)) (z_m_next_2 : (Nat → Int32)) (z_m_state_2 : (Nat → Int32)) : (Nat → Int32) × (Nat → Int32) × (Nat → Int32) × (Nat → Int32) × (Nat → Int32) × (Nat → Int32) × (Nat → Int32) × (Nat → Int32) × (Nat → Int32) × (Nat → Int32) × (Nat → Int32) × (Nat → Int32) × (Nat → Int32) × (Nat → Int32) × (Nat → Int32) × (Nat → Int32) × (Nat → Int32) :=
  if (z_m_state_2 i0.toNatClampNeg) = 4 then
    JX10_goOn_363 m_known m_window m_port m_address i0 i3 i4 i5 z_m_first z_m_pace z_m_tries z_m_next_2 (mF 8) mF m_answer z_m_boxed_2 z_m_box_2 z_m_queue z_m_queued m_send m_out m_outLength m_sent z_m_timer z_m_state_2
  else
    KX10_goOn_355 m_known m_out m_outLength m_send m_window m_sent m_port m_address i0 i3 i4 i5 (mF 8) (FX10_read mF z_m_boxed_2 z_m_box_2 m_answer m_nameLength m_name m_bodyLength m_body m_check z_m_queued z_m_queue i0) z_m_first z_m_pace z_m_tries z_m_timer z_m_next_2 z_m_state_2
def JX10_goOn_281 (mF : (Nat → Int32)) (m_known : (Nat → Int32)) (m_out : (Nat → Int32)) (m_outLength : (Nat → Int32)) (m_send : (Nat → Int32)) (m_window : (Nat → Int32)) (m_sent : (Nat → Int32)) (m_port : (Nat → Int32)) (m_next : (Nat → Int32)) (m_address : (Nat → Int32)) (m_answer : (Nat → Int32)) (m_nameLength : (Nat → Int32)) (m_name : (Nat → Int32)) (m_bodyLength : (Nat → Int32)) (m_body : (Nat → Int32)) (m_check : (Nat → Int32)) (i0 : Int32) (i3 : Int32) (i4 : Int32) (i5 : Int32) (z_m_state : (Nat → Int32)) (z_m_first : (Nat → Int32)) (z_m_queued : (Nat → Int32)) (z_m_queue : (Nat → Int32)) (z_m_pace : (Nat → Int32)) (z_m_tries : (Nat → Int32)) (z_m_timer : (Nat → Int32)) (y9_4 : Int32) (z_m_box_4 : (Nat → Int32)) (z_m_boxed_4 : (Nat → Int32))  : (Nat → Int32) × (Nat → Int32) × (Nat → Int32) × (Nat → Int32) × (Nat → Int32) × (Nat → Int32) × (Nat → Int32) × (Nat → Int32) × (Nat → Int32) × (Nat → Int32) × (Nat → Int32) × (Nat → Int32) × (Nat → Int32) × (Nat → Int32) × (Nat → Int32) × (Nat → Int32) × (Nat → Int32) :=
  if y9_4 = i5 then
    if i3 = 0 then
      JX10_goOn_337 mF m_known m_out m_outLength m_send m_window m_sent m_port m_address m_answer m_nameLength m_name m_bodyLength m_body m_check i0 i3 i4 i5 z_m_first z_m_queued z_m_queue z_m_pace z_m_tries z_m_timer z_m_box_4 z_m_boxed_4 (upd m_next i0.toNatClampNeg (((m_next i0.toNatClampNeg) + y9_4) &&& (255 : Int32))) z_m_state
    else
      JX10_goOn_337 mF m_known m_out m_outLength m_send m_window m_sent m_port m_address m_answer m_nameLength m_name m_bodyLength m_body m_check i0 i3 i4 i5 z_m_first z_m_queued z_m_queue z_m_pace z_m_tries z_m_timer z_m_box_4 z_m_boxed_4 (upd (upd m_next i0.toNatClampNeg (((m_next i0.toNatClampNeg) + y9_4) &&& (255 : Int32))) i0.toNatClampNeg ((((upd m_next i0.toNatClampNeg (((m_next i0.toNatClampNeg) + y9_4) &&& (255 : Int32))) i0.toNatClampNeg) + (1 : Int32)) &&& (255 : Int32))) (upd z_m_state i0.toNatClampNeg 3)
  else
    JX10_goOn_337 mF m_known m_out m_outLength m_send m_window m_sent m_port m_address m_answer m_nameLength m_name m_bodyLength m_body m_check i0 i3 i4 i5 z_m_first z_m_queued z_m_queue z_m_pace z_m_tries z_m_timer z_m_box_4 z_m_boxed_4 (upd m_next i0.toNatClampNeg (((m_next i0.toNatClampNeg) + y9_4) &&& (255 : Int32))) z_m_state
def LX10_goOn_227 (mF : (Nat → Int32)) (m_known : (Nat → Int32)) (m_out : (Nat → Int32)) (m_outLength : (Nat → Int32)) (m_send : (Nat → Int32)) (m_window : (Nat → Int32)) (m_sent : (Nat → Int32)) (m_port : (Nat → Int32)) (m_next : (Nat → Int32)) (m_address : (Nat → Int32)) (m_load : (Nat → Int32)) (m_answer : (Nat → Int32)) (m_nameLength : (Nat → Int32)) (m_name : (Nat → Int32)) (m_bodyLength : (Nat → Int32)) (m_body : (Nat → Int32)) (m_check : (Nat → Int32)) (i0 : Int32) (i3 : Int32) (i4 : Int32) (i5 : Int32) (z_m_state : (Nat → Int32)) (z_m_first : (Nat → Int32)) (z_m_queued : (Nat → Int32)) (z_m_queue : (Nat → Int32)) (z_m_pace : (Nat → Int32)) (z_m_tries : (Nat → Int32)) (z_m_timer : (Nat → Int32)) : Nat → Int32 → (Nat → Int32) → (Nat → Int32) → (Nat → Int32) × (Nat → Int32) × (Nat → Int32) × (Nat → Int32) × (Nat → Int32) × (Nat → Int32) × (Nat → Int32) × (Nat → Int32) × (Nat → Int32) × (Nat → Int32) × (Nat → Int32) × (Nat → Int32) × (Nat → Int32) × (Nat → Int32) × (Nat → Int32) × (Nat → Int32) × (Nat → Int32)
  | 0, _, _, _ => ((fun _ => 0), (fun _ => 0), (fun _ => 0), (fun _ => 0), (fun _ => 0), (fun _ => 0), (fun _ => 0), (fun _ => 0), (fun _ => 0), (fun _ => 0), (fun _ => 0), (fun _ => 0), (fun _ => 0), (fun _ => 0), (fun _ => 0), (fun _ => 0), (fun _ => 0))
  | n + 1, y9_4, z_m_box_4, z_m_boxed_4 =>
    if i5 ≤ y9_4 then
      JX10_goOn_281 mF m_known m_out m_outLength m_send m_window m_sent m_port m_next m_address m_answer m_nameLength m_name m_bodyLength m_body m_check i0 i3 i4 i5 z_m_state z_m_first z_m_queued z_m_queue z_m_pace z_m_tries z_m_timer y9_4 z_m_box_4 z_m_boxed_4 
    else
      if 16 ≤ (z_m_boxed_4 i0.toNatClampNeg) then
        JX10_goOn_281 mF m_known m_out m_outLength m_send m_window m_sent m_port m_next m_address m_answer m_nameLength m_name m_bodyLength m_body m_check i0 i3 i4 i5 z_m_state z_m_first z_m_queued z_m_queue z_m_pace z_m_tries z_m_timer y9_4 z_m_box_4 z_m_boxed_4 
      else
        LX10_goOn_227 mF m_known m_out m_outLength m_send m_window m_sent m_port m_next m_address m_load m_answer m_nameLength m_name m_bodyLength m_body m_check i0 i3 i4 i5 z_m_state z_m_first z_m_queued z_m_queue z_m_pace z_m_tries z_m_timer n (y9_4 + 1) (upd z_m_box_4 (((16 : Int32) * i0) + (z_m_boxed_4 i0.toNatClampNeg)).toNatClampNeg (m_load ((5 : Int32) + y9_4).toNatClampNeg)) (upd z_m_boxed_4 i0.toNatClampNeg ((z_m_boxed_4 i0.toNatClampNeg) + (1 : Int32)))
def JX10_goOn_185 (mF : (Nat → Int32)) (m_known : (Nat → Int32)) (m_out : (Nat → Int32)) (m_outLength : (Nat → Int32)) (m_send : (Nat → Int32)) (m_window : (Nat → Int32)) (m_sent : (Nat → Int32)) (m_port : (Nat → Int32)) (m_next : (Nat → Int32)) (m_boxed : (Nat → Int32)) (m_box : (Nat → Int32)) (m_address : (Nat → Int32)) (m_load : (Nat → Int32)) (m_answer : (Nat → Int32)) (m_nameLength : (Nat → Int32)) (m_name : (Nat → Int32)) (m_bodyLength : (Nat → Int32)) (m_body : (Nat → Int32)) (m_check : (Nat → Int32)) (i0 : Int32) (i1 : Int32) (i3 : Int32) (i4 : Int32) (i5 : Int32) (z_m_state : (Nat → Int32)) (z_m_first : (Nat → Int32)) (z_m_queued : (Nat → Int32)) (z_m_queue : (Nat → Int32)) (z_m_pace : (Nat → Int32)) (z_m_tries : (Nat → Int32)) (z_m_timer : (Nat → Int32)) : (Nat → Int32) × (Nat → Int32) × (Nat → Int32) × (Nat → Int32) × (Nat → Int32) × (Nat → Int32) × (Nat → Int32) × (Nat → Int32) × (Nat → Int32) × (Nat → Int32) × (Nat → Int32) × (Nat → Int32) × (Nat → Int32) × (Nat → Int32) × (Nat → Int32) × (Nat → Int32) × (Nat → Int32) :=
  if (z_m_state i0.toNatClampNeg) = 1 then
    (mF, m_out, m_outLength, m_send, z_m_state, (upd m_window i0.toNatClampNeg i4), z_m_pace, m_sent, z_m_first, z_m_queued, m_next, m_boxed, m_box, z_m_queue, z_m_timer, z_m_tries, m_answer)
  else
    if i1 = (m_next i0.toNatClampNeg) then
      if (z_m_state i0.toNatClampNeg) = 2 then
        LX10_goOn_227 mF m_known m_out m_outLength m_send m_window m_sent m_port m_next m_address m_load m_answer m_nameLength m_name m_bodyLength m_body m_check i0 i3 i4 i5 z_m_state z_m_first z_m_queued z_m_queue z_m_pace z_m_tries z_m_timer 128 0 m_box m_boxed
      else
        JX10_goOn_337 mF m_known m_out m_outLength m_send m_window m_sent m_port m_address m_answer m_nameLength m_name m_bodyLength m_body m_check i0 i3 i4 i5 z_m_first z_m_queued z_m_queue z_m_pace z_m_tries z_m_timer m_box m_boxed m_next z_m_state
    else
      JX10_goOn_337 mF m_known m_out m_outLength m_send m_window m_sent m_port m_address m_answer m_nameLength m_name m_bodyLength m_body m_check i0 i3 i4 i5 z_m_first z_m_queued z_m_queue z_m_pace z_m_tries z_m_timer m_box m_boxed m_next z_m_state
def JX10_goOn_170 (mF : (Nat → Int32)) (m_known : (Nat → Int32)) (m_out : (Nat → Int32)) (m_outLength : (Nat → Int32)) (m_send : (Nat → Int32)) (m_window : (Nat → Int32)) (m_pace : (Nat → Int32)) (m_sent : (Nat → Int32)) (m_first : (Nat → Int32)) (m_port : (Nat → Int32)) (m_next : (Nat → Int32)) (m_boxed : (Nat → Int32)) (m_box : (Nat → Int32)) (m_address : (Nat → Int32)) (m_timer : (Nat → Int32)) (m_tries : (Nat → Int32)) (m_load : (Nat → Int32)) (m_answer : (Nat → Int32)) (m_nameLength : (Nat → Int32)) (m_name : (Nat → Int32)) (m_bodyLength : (Nat → Int32)) (m_body : (Nat → Int32)) (m_check : (Nat → Int32)) (i0 : Int32) (i1 : Int32) (i2 : Int32) (i3 : Int32) (i4 : Int32) (i5 : Int32) (z_m_state_7 : (Nat → Int32)) (z_m_queued_7 : (Nat → Int32)) (z_m_queue_7 : (Nat → Int32)) (k0_8 : Int32) : (Nat → Int32) × (Nat → Int32) × (Nat → Int32) × (Nat → Int32) × (Nat → Int32) × (Nat → Int32) × (Nat → Int32) × (Nat → Int32) × (Nat → Int32) × (Nat → Int32) × (Nat → Int32) × (Nat → Int32) × (Nat → Int32) × (Nat → Int32) × (Nat → Int32) × (Nat → Int32) × (Nat → Int32) :=
  JX10_goOn_185 mF m_known m_out m_outLength m_send m_window m_sent m_port m_next m_boxed m_box m_address m_load m_answer m_nameLength m_name m_bodyLength m_body m_check i0 i1 i3 i4 i5 z_m_state_7 (upd m_first i0.toNatClampNeg i2) z_m_queued_7 z_m_queue_7 (upd m_pace i0.toNatClampNeg k0_8) (upd m_tries i0.toNatClampNeg 0) (upd m_timer i0.toNatClampNeg 0)
def JX10_goOn_143 (mF : (Nat → Int32)) (m_known : (Nat → Int32)) (m_out : (Nat → Int32)) (m_outLength : (Nat → Int32)) (m_send : (Nat → Int32)) (m_window : (Nat → Int32)) (m_pace : (Nat → Int32)) (m_sent : (Nat → Int32)) (m_first : (Nat → Int32)) (m_port : (Nat → Int32)) (m_next : (Nat → Int32)) (m_boxed : (Nat → Int32)) (m_box : (Nat → Int32)) (m_address : (Nat → Int32)) (m_timer : (Nat → Int32)) (m_tries : (Nat → Int32)) (m_load : (Nat → Int32)) (m_answer : (Nat → Int32)) (m_nameLength : (Nat → Int32)) (m_name : (Nat → Int32)) (m_bodyLength : (Nat → Int32)) (m_body : (Nat → Int32)) (m_check : (Nat → Int32)) (i0 : Int32) (i1 : Int32) (i2 : Int32) (i3 : Int32) (i4 : Int32) (i5 : Int32) (z_m_state_7 : (Nat → Int32)) (z_m_queued_7 : (Nat → Int32)) (z_m_queue_7 : (Nat → Int32)) : (Nat → Int32) × (Nat → Int32) × (Nat → Int32) × (Nat → Int32) × (Nat → Int32) × (Nat → Int32) × (Nat → Int32) × (Nat → Int32) × (Nat → Int32) × (Nat → Int32) × (Nat → Int32) × (Nat → Int32) × (Nat → Int32) × (Nat → Int32) × (Nat → Int32) × (Nat → Int32) × (Nat → Int32) :=
  if (m_pace i0.toNatClampNeg) = 4 then
    JX10_goOn_170 mF m_known m_out m_outLength m_send m_window m_pace m_sent m_first m_port m_next m_boxed m_box m_address m_timer m_tries m_load m_answer m_nameLength m_name m_bodyLength m_body m_check i0 i1 i2 i3 i4 i5 z_m_state_7 z_m_queued_7 z_m_queue_7 4
  else
    JX10_goOn_170 mF m_known m_out m_outLength m_send m_window m_pace m_sent m_first m_port m_next m_boxed m_box m_address m_timer m_tries m_load m_answer m_nameLength m_name m_bodyLength m_body m_check i0 i1 i2 i3 i4 i5 z_m_state_7 z_m_queued_7 z_m_queue_7 ((m_pace i0.toNatClampNeg) + (1 : Int32))
def LX10_goOn_99 (mF : (Nat → Int32)) (m_known : (Nat → Int32)) (m_out : (Nat → Int32)) (m_outLength : (Nat → Int32)) (m_send : (Nat → Int32)) (m_state : (Nat → Int32)) (m_window : (Nat → Int32)) (m_pace : (Nat → Int32)) (m_sent : (Nat → Int32)) (m_first : (Nat → Int32)) (m_queued : (Nat → Int32)) (m_port : (Nat → Int32)) (m_next : (Nat → Int32)) (m_boxed : (Nat → Int32)) (m_box : (Nat → Int32)) (m_address : (Nat → Int32)) (m_timer : (Nat → Int32)) (m_tries : (Nat → Int32)) (m_load : (Nat → Int32)) (m_answer : (Nat → Int32)) (m_nameLength : (Nat → Int32)) (m_name : (Nat → Int32)) (m_bodyLength : (Nat → Int32)) (m_body : (Nat → Int32)) (m_check : (Nat → Int32)) (i0 : Int32) (i1 : Int32) (i2 : Int32) (i3 : Int32) (i4 : Int32) (i5 : Int32) (x_1 : Int32) (v_29 : Int32) : Nat → Int32 → (Nat → Int32) → (Nat → Int32) × (Nat → Int32) × (Nat → Int32) × (Nat → Int32) × (Nat → Int32) × (Nat → Int32) × (Nat → Int32) × (Nat → Int32) × (Nat → Int32) × (Nat → Int32) × (Nat → Int32) × (Nat → Int32) × (Nat → Int32) × (Nat → Int32) × (Nat → Int32) × (Nat → Int32) × (Nat → Int32)
  | 0, _, _ => ((fun _ => 0), (fun _ => 0), (fun _ => 0), (fun _ => 0), (fun _ => 0), (fun _ => 0), (fun _ => 0), (fun _ => 0), (fun _ => 0), (fun _ => 0), (fun _ => 0), (fun _ => 0), (fun _ => 0), (fun _ => 0), (fun _ => 0), (fun _ => 0), (fun _ => 0))
  | n + 1, y9_9, z_m_queue_9 =>
    if ((upd m_queued i0.toNatClampNeg v_29) i0.toNatClampNeg) ≤ y9_9 then
      JX10_goOn_143 mF m_known m_out m_outLength m_send m_window m_pace m_sent m_first m_port m_next m_boxed m_box m_address m_timer m_tries m_load m_answer m_nameLength m_name m_bodyLength m_body m_check i0 i1 i2 i3 i4 i5 m_state (upd m_queued i0.toNatClampNeg v_29) z_m_queue_9
    else
      LX10_goOn_99 mF m_known m_out m_outLength m_send m_state m_window m_pace m_sent m_first m_queued m_port m_next m_boxed m_box m_address m_timer m_tries m_load m_answer m_nameLength m_name m_bodyLength m_body m_check i0 i1 i2 i3 i4 i5 x_1 v_29 n (y9_9 + 1) (upd z_m_queue_9 (((64 : Int32) * i0) + y9_9).toNatClampNeg (z_m_queue_9 ((((64 : Int32) * i0) + y9_9) + x_1).toNatClampNeg))
def JX10_goOn_58 (mF : (Nat → Int32)) (m_known : (Nat → Int32)) (m_out : (Nat → Int32)) (m_outLength : (Nat → Int32)) (m_send : (Nat → Int32)) (m_state : (Nat → Int32)) (m_window : (Nat → Int32)) (m_pace : (Nat → Int32)) (m_sent : (Nat → Int32)) (m_first : (Nat → Int32)) (m_queued : (Nat → Int32)) (m_port : (Nat → Int32)) (m_next : (Nat → Int32)) (m_boxed : (Nat → Int32)) (m_box : (Nat → Int32)) (m_queue : (Nat → Int32)) (m_address : (Nat → Int32)) (m_timer : (Nat → Int32)) (m_tries : (Nat → Int32)) (m_load : (Nat → Int32)) (m_answer : (Nat → Int32)) (m_nameLength : (Nat → Int32)) (m_name : (Nat → Int32)) (m_bodyLength : (Nat → Int32)) (m_body : (Nat → Int32)) (m_check : (Nat → Int32)) (i0 : Int32) (i1 : Int32) (i2 : Int32) (i3 : Int32) (i4 : Int32) (i5 : Int32) (x_1 : Int32)  : (Nat → Int32) × (Nat → Int32) × (Nat → Int32) × (Nat → Int32) × (Nat → Int32) × (Nat → Int32) × (Nat → Int32) × (Nat → Int32) × (Nat → Int32) × (Nat → Int32) × (Nat → Int32) × (Nat → Int32) × (Nat → Int32) × (Nat → Int32) × (Nat → Int32) × (Nat → Int32) × (Nat → Int32) :=
  if (m_state i0.toNatClampNeg) = 1 then
    JX10_goOn_143 mF m_known m_out m_outLength m_send m_window m_pace m_sent m_first m_port m_next m_boxed m_box m_address m_timer m_tries m_load m_answer m_nameLength m_name m_bodyLength m_body m_check i0 i1 i2 i3 i4 i5 (upd m_state i0.toNatClampNeg 2) m_queued m_queue
  else
    LX10_goOn_99 mF m_known m_out m_outLength m_send m_state m_window m_pace m_sent m_first m_queued m_port m_next m_boxed m_box m_address m_timer m_tries m_load m_answer m_nameLength m_name m_bodyLength m_body m_check i0 i1 i2 i3 i4 i5 x_1 ((m_queued i0.toNatClampNeg) - x_1) 128 0 m_queue
def FX10_goOn (mF : (Nat → Int32)) (m_known : (Nat → Int32)) (m_out : (Nat → Int32)) (m_outLength : (Nat → Int32)) (m_send : (Nat → Int32)) (m_state : (Nat → Int32)) (m_window : (Nat → Int32)) (m_pace : (Nat → Int32)) (m_sent : (Nat → Int32)) (m_first : (Nat → Int32)) (m_queued : (Nat → Int32)) (m_port : (Nat → Int32)) (m_next : (Nat → Int32)) (m_boxed : (Nat → Int32)) (m_box : (Nat → Int32)) (m_queue : (Nat → Int32)) (m_address : (Nat → Int32)) (m_timer : (Nat → Int32)) (m_tries : (Nat → Int32)) (m_load : (Nat → Int32)) (m_answer : (Nat → Int32)) (m_nameLength : (Nat → Int32)) (m_name : (Nat → Int32)) (m_bodyLength : (Nat → Int32)) (m_body : (Nat → Int32)) (m_check : (Nat → Int32)) (i0 : Int32) (i1 : Int32) (i2 : Int32) (i3 : Int32) (i4 : Int32) (i5 : Int32) : (Nat → Int32) × (Nat → Int32) × (Nat → Int32) × (Nat → Int32) × (Nat → Int32) × (Nat → Int32) × (Nat → Int32) × (Nat → Int32) × (Nat → Int32) × (Nat → Int32) × (Nat → Int32) × (Nat → Int32) × (Nat → Int32) × (Nat → Int32) × (Nat → Int32) × (Nat → Int32) × (Nat → Int32) :=
  if ((i2 - (m_first i0.toNatClampNeg)) &&& (255 : Int32)) ≤ 0 then
    JX10_goOn_185 mF m_known m_out m_outLength m_send m_window m_sent m_port m_next m_boxed m_box m_address m_load m_answer m_nameLength m_name m_bodyLength m_body m_check i0 i1 i3 i4 i5 m_state m_first m_queued m_queue m_pace m_tries m_timer
  else
    if (FX10_way mF m_sent m_first i0) < ((i2 - (m_first i0.toNatClampNeg)) &&& (255 : Int32)) then
      JX10_goOn_185 mF m_known m_out m_outLength m_send m_window m_sent m_port m_next m_boxed m_box m_address m_load m_answer m_nameLength m_name m_bodyLength m_body m_check i0 i1 i3 i4 i5 m_state m_first m_queued m_queue m_pace m_tries m_timer
    else
      if (m_state i0.toNatClampNeg) = 4 then
        if ((i2 - (m_first i0.toNatClampNeg)) &&& (255 : Int32)) = (FX10_way mF m_sent m_first i0) then
          (mF, m_out, m_outLength, m_send, (upd m_state i0.toNatClampNeg 0), m_window, m_pace, m_sent, m_first, m_queued, m_next, m_boxed, m_box, m_queue, m_timer, m_tries, m_answer)
        else
          JX10_goOn_58 mF m_known m_out m_outLength m_send m_state m_window m_pace m_sent m_first m_queued m_port m_next m_boxed m_box m_queue m_address m_timer m_tries m_load m_answer m_nameLength m_name m_bodyLength m_body m_check i0 i1 i2 i3 i4 i5 ((i2 - (m_first i0.toNatClampNeg)) &&& (255 : Int32)) 
      else
        JX10_goOn_58 mF m_known m_out m_outLength m_send m_state m_window m_pace m_sent m_first m_queued m_port m_next m_boxed m_box m_queue m_address m_timer m_tries m_load m_answer m_nameLength m_name m_bodyLength m_body m_check i0 i1 i2 i3 i4 i5 ((i2 - (m_first i0.toNatClampNeg)) &&& (255 : Int32)) 
def KX10_segment_164k2 (m_state : (Nat → Int32)) (m_window : (Nat → Int32)) (m_pace : (Nat → Int32)) (m_sent : (Nat → Int32)) (m_first : (Nat → Int32)) (m_queued : (Nat → Int32)) (m_port : (Nat → Int32)) (m_next : (Nat → Int32)) (m_boxed : (Nat → Int32)) (m_box : (Nat → Int32)) (m_queue : (Nat → Int32)) (m_address : (Nat → Int32)) (m_timer : (Nat → Int32)) (m_tries : (Nat → Int32)) (m_answer : (Nat → Int32)) (w_20 : (Nat → Int32) × (Nat → Int32) × (Nat → Int32) × (Nat → Int32)) : (Nat → Int32) × (Nat → Int32) × (Nat → Int32) × (Nat → Int32) × (Nat → Int32) × (Nat → Int32) × (Nat → Int32) × (Nat → Int32) × (Nat → Int32) × (Nat → Int32) × (Nat → Int32) × (Nat → Int32) × (Nat → Int32) × (Nat → Int32) × (Nat → Int32) × (Nat → Int32) × (Nat → Int32) × (Nat → Int32) × (Nat → Int32) :=
  (w_20.1, w_20.2.1, w_20.2.2.1, w_20.2.2.2, m_state, m_window, m_pace, m_sent, m_first, m_queued, m_port, m_next, m_boxed, m_box, m_queue, m_address, m_timer, m_tries, m_answer)
def KX10_segment_153 (m_box : (Nat → Int32)) (m_queue : (Nat → Int32)) (m_answer : (Nat → Int32)) (w_21 : (Nat → Int32) × (Nat → Int32) × (Nat → Int32) × (Nat → Int32) × (Nat → Int32) × (Nat → Int32) × (Nat → Int32) × (Nat → Int32) × (Nat → Int32) × (Nat → Int32) × (Nat → Int32) × (Nat → Int32) × (Nat → Int32) × (Nat → Int32) × (Nat → Int32) × (Nat → Int32)) : (Nat → Int32) × (Nat → Int32) × (Nat → Int32) × (Nat → Int32) × (Nat → Int32) × (Nat → Int32) × (Nat → Int32) × (Nat → Int32) × (Nat → Int32) × (Nat → Int32) × (Nat → Int32) × (Nat → Int32) × (Nat → Int32) × (Nat → Int32) × (Nat → Int32) × (Nat → Int32) × (Nat → Int32) × (Nat → Int32) × (Nat → Int32) :=
  (w_21.1, w_21.2.1, w_21.2.2.1, w_21.2.2.2.1, w_21.2.2.2.2.1, w_21.2.2.2.2.2.2.2.2.2.2.1, w_21.2.2.2.2.2.2.2.2.2.2.2.1, w_21.2.2.2.2.2.2.2.2.2.1, w_21.2.2.2.2.2.2.2.2.1, w_21.2.2.2.2.2.2.2.2.2.2.2.2.2.1, w_21.2.2.2.2.2.2.1, w_21.2.2.2.2.2.2.2.1, w_21.2.2.2.2.2.2.2.2.2.2.2.2.2.2.1, m_box, m_queue, w_21.2.2.2.2.2.1, w_21.2.2.2.2.2.2.2.2.2.2.2.2.2.2.2, w_21.2.2.2.2.2.2.2.2.2.2.2.2.1, m_answer)
def KX10_segment_164k1 (m_state : (Nat → Int32)) (m_window : (Nat → Int32)) (m_pace : (Nat → Int32)) (m_sent : (Nat → Int32)) (m_first : (Nat → Int32)) (m_queued : (Nat → Int32)) (m_port : (Nat → Int32)) (m_next : (Nat → Int32)) (m_boxed : (Nat → Int32)) (m_box : (Nat → Int32)) (m_queue : (Nat → Int32)) (m_address : (Nat → Int32)) (m_timer : (Nat → Int32)) (m_tries : (Nat → Int32)) (m_answer : (Nat → Int32)) (w_18 : (Nat → Int32) × (Nat → Int32) × (Nat → Int32) × (Nat → Int32)) : (Nat → Int32) × (Nat → Int32) × (Nat → Int32) × (Nat → Int32) × (Nat → Int32) × (Nat → Int32) × (Nat → Int32) × (Nat → Int32) × (Nat → Int32) × (Nat → Int32) × (Nat → Int32) × (Nat → Int32) × (Nat → Int32) × (Nat → Int32) × (Nat → Int32) × (Nat → Int32) × (Nat → Int32) × (Nat → Int32) × (Nat → Int32) :=
  (w_18.1, w_18.2.1, w_18.2.2.1, w_18.2.2.2, m_state, m_window, m_pace, m_sent, m_first, m_queued, m_port, m_next, m_boxed, m_box, m_queue, m_address, m_timer, m_tries, m_answer)
def KX10_segment_164 (m_state : (Nat → Int32)) (m_window : (Nat → Int32)) (m_pace : (Nat → Int32)) (m_sent : (Nat → Int32)) (m_first : (Nat → Int32)) (m_queued : (Nat → Int32)) (m_port : (Nat → Int32)) (m_next : (Nat → Int32)) (m_boxed : (Nat → Int32)) (m_box : (Nat → Int32)) (m_queue : (Nat → Int32)) (m_address : (Nat → Int32)) (m_timer : (Nat → Int32)) (m_tries : (Nat → Int32)) (m_answer : (Nat → Int32)) (w_16 : (Nat → Int32) × (Nat → Int32) × (Nat → Int32) × (Nat → Int32)) : (Nat → Int32) × (Nat → Int32) × (Nat → Int32) × (Nat → Int32) × (Nat → Int32) × (Nat → Int32) × (Nat → Int32) × (Nat → Int32) × (Nat → Int32) × (Nat → Int32) × (Nat → Int32) × (Nat → Int32) × (Nat → Int32) × (Nat → Int32) × (Nat → Int32) × (Nat → Int32) × (Nat → Int32) × (Nat → Int32) × (Nat → Int32) :=
  (w_16.1, w_16.2.1, w_16.2.2.1, w_16.2.2.2, m_state, m_window, m_pace, m_sent, m_first, m_queued, m_port, m_next, m_boxed, m_box, m_queue, m_address, m_timer, m_tries, m_answer)
def JX10_segment_125 (mF : (Nat → Int32)) (m_known : (Nat → Int32)) (m_out : (Nat → Int32)) (m_outLength : (Nat → Int32)) (m_send : (Nat → Int32)) (m_state : (Nat → Int32)) (m_window : (Nat → Int32)) (m_pace : (Nat → Int32)) (m_sent : (Nat → Int32)) (m_first : (Nat → Int32)) (m_queued : (Nat → Int32)) (m_port : (Nat → Int32)) (m_next : (Nat → Int32)) (m_boxed : (Nat → Int32)) (m_box : (Nat → Int32)) (m_queue : (Nat → Int32)) (m_address : (Nat → Int32)) (m_timer : (Nat → Int32)) (m_tries : (Nat → Int32)) (m_answer : (Nat → Int32)) (i0 : Int32) (i1 : Int32) (x_1 : Int32) (x_2 : Int32) (x_3 : Int32) (x_4 : Int32) (x_5 : Int32) (y9_4 : Int32)  : (Nat → Int32) × (Nat → Int32) × (Nat → Int32) × (Nat → Int32) × (Nat → Int32) × (Nat → Int32) × (Nat → Int32) × (Nat → Int32) × (Nat → Int32) × (Nat → Int32) × (Nat → Int32) × (Nat → Int32) × (Nat → Int32) × (Nat → Int32) × (Nat → Int32) × (Nat → Int32) × (Nat → Int32) × (Nat → Int32) × (Nat → Int32) :=
  if (x_4 &&& (19 : Int32)) = 2 then
    if i1 = 0 then
      if 3 ≤ y9_4 then
        KX10_segment_164k2 m_state m_window m_pace m_sent m_first m_queued m_port m_next m_boxed m_box m_queue m_address m_timer m_tries m_answer (FX10_reset mF m_known m_out m_outLength m_send i0 x_1 x_3)
      else
        KX10_segment_153 m_box m_queue m_answer (FX10_begin mF m_known m_out m_outLength m_send m_state m_address m_port m_next m_first m_sent m_window m_pace m_tries m_queued m_boxed m_timer y9_4 i0 x_1 x_2 x_5)
    else
      KX10_segment_164k1 m_state m_window m_pace m_sent m_first m_queued m_port m_next m_boxed m_box m_queue m_address m_timer m_tries m_answer (FX10_reset mF m_known m_out m_outLength m_send i0 x_1 x_3)
  else
    KX10_segment_164 m_state m_window m_pace m_sent m_first m_queued m_port m_next m_boxed m_box m_queue m_address m_timer m_tries m_answer (FX10_reset mF m_known m_out m_outLength m_send i0 x_1 x_3)
def LX10_segment_103 (mF : (Nat → Int32)) (m_known : (Nat → Int32)) (m_out : (Nat → Int32)) (m_outLength : (Nat → Int32)) (m_send : (Nat → Int32)) (m_state : (Nat → Int32)) (m_window : (Nat → Int32)) (m_pace : (Nat → Int32)) (m_sent : (Nat → Int32)) (m_first : (Nat → Int32)) (m_queued : (Nat → Int32)) (m_port : (Nat → Int32)) (m_next : (Nat → Int32)) (m_boxed : (Nat → Int32)) (m_box : (Nat → Int32)) (m_queue : (Nat → Int32)) (m_address : (Nat → Int32)) (m_timer : (Nat → Int32)) (m_tries : (Nat → Int32)) (m_answer : (Nat → Int32)) (i0 : Int32) (i1 : Int32) (x_1 : Int32) (x_2 : Int32) (x_3 : Int32) (x_4 : Int32) (x_5 : Int32) : Nat → Int32 → (Nat → Int32) × (Nat → Int32) × (Nat → Int32) × (Nat → Int32) × (Nat → Int32) × (Nat → Int32) × (Nat → Int32) × (Nat → Int32) × (Nat → Int32) × (Nat → Int32) × (Nat → Int32) × (Nat → Int32) × (Nat → Int32) × (Nat → Int32) × (Nat → Int32) × (Nat → Int32) × (Nat → Int32) × (Nat → Int32) × (Nat → Int32)
  | 0, _ => ((fun _ => 0), (fun _ => 0), (fun _ => 0), (fun _ => 0), (fun _ => 0), (fun _ => 0), (fun _ => 0), (fun _ => 0), (fun _ => 0), (fun _ => 0), (fun _ => 0), (fun _ => 0), (fun _ => 0), (fun _ => 0), (fun _ => 0), (fun _ => 0), (fun _ => 0), (fun _ => 0), (fun _ => 0))
  | n + 1, y9_4 =>
    if 3 ≤ y9_4 then
      JX10_segment_125 mF m_known m_out m_outLength m_send m_state m_window m_pace m_sent m_first m_queued m_port m_next m_boxed m_box m_queue m_address m_timer m_tries m_answer i0 i1 x_1 x_2 x_3 x_4 x_5 y9_4 
    else
      if (m_state y9_4.toNatClampNeg) = 0 then
        JX10_segment_125 mF m_known m_out m_outLength m_send m_state m_window m_pace m_sent m_first m_queued m_port m_next m_boxed m_box m_queue m_address m_timer m_tries m_answer i0 i1 x_1 x_2 x_3 x_4 x_5 y9_4 
      else
        LX10_segment_103 mF m_known m_out m_outLength m_send m_state m_window m_pace m_sent m_first m_queued m_port m_next m_boxed m_box m_queue m_address m_timer m_tries m_answer i0 i1 x_1 x_2 x_3 x_4 x_5 n (y9_4 + 1)
def KX10_segment_246 (m_port : (Nat → Int32)) (m_address : (Nat → Int32)) (w_10 : (Nat → Int32) × (Nat → Int32) × (Nat → Int32) × (Nat → Int32) × (Nat → Int32) × (Nat → Int32) × (Nat → Int32) × (Nat → Int32) × (Nat → Int32) × (Nat → Int32) × (Nat → Int32) × (Nat → Int32) × (Nat → Int32) × (Nat → Int32) × (Nat → Int32) × (Nat → Int32) × (Nat → Int32)) : (Nat → Int32) × (Nat → Int32) × (Nat → Int32) × (Nat → Int32) × (Nat → Int32) × (Nat → Int32) × (Nat → Int32) × (Nat → Int32) × (Nat → Int32) × (Nat → Int32) × (Nat → Int32) × (Nat → Int32) × (Nat → Int32) × (Nat → Int32) × (Nat → Int32) × (Nat → Int32) × (Nat → Int32) × (Nat → Int32) × (Nat → Int32) :=
  (w_10.1, w_10.2.1, w_10.2.2.1, w_10.2.2.2.1, w_10.2.2.2.2.1, w_10.2.2.2.2.2.1, w_10.2.2.2.2.2.2.1, w_10.2.2.2.2.2.2.2.1, w_10.2.2.2.2.2.2.2.2.1, w_10.2.2.2.2.2.2.2.2.2.1, m_port, w_10.2.2.2.2.2.2.2.2.2.2.1, w_10.2.2.2.2.2.2.2.2.2.2.2.1, w_10.2.2.2.2.2.2.2.2.2.2.2.2.1, w_10.2.2.2.2.2.2.2.2.2.2.2.2.2.1, m_address, w_10.2.2.2.2.2.2.2.2.2.2.2.2.2.2.1, w_10.2.2.2.2.2.2.2.2.2.2.2.2.2.2.2.1, w_10.2.2.2.2.2.2.2.2.2.2.2.2.2.2.2.2)
def JX10_segment_243 (mF : (Nat → Int32)) (m_known : (Nat → Int32)) (m_out : (Nat → Int32)) (m_outLength : (Nat → Int32)) (m_send : (Nat → Int32)) (m_state : (Nat → Int32)) (m_window : (Nat → Int32)) (m_pace : (Nat → Int32)) (m_sent : (Nat → Int32)) (m_first : (Nat → Int32)) (m_queued : (Nat → Int32)) (m_port : (Nat → Int32)) (m_next : (Nat → Int32)) (m_boxed : (Nat → Int32)) (m_box : (Nat → Int32)) (m_queue : (Nat → Int32)) (m_address : (Nat → Int32)) (m_timer : (Nat → Int32)) (m_tries : (Nat → Int32)) (m_load : (Nat → Int32)) (m_answer : (Nat → Int32)) (m_nameLength : (Nat → Int32)) (m_name : (Nat → Int32)) (m_bodyLength : (Nat → Int32)) (m_body : (Nat → Int32)) (m_check : (Nat → Int32)) (i1 : Int32) (x_2 : Int32) (x_3 : Int32) (x_5 : Int32) (y8 : Int32) (k0_3 : Int32) : (Nat → Int32) × (Nat → Int32) × (Nat → Int32) × (Nat → Int32) × (Nat → Int32) × (Nat → Int32) × (Nat → Int32) × (Nat → Int32) × (Nat → Int32) × (Nat → Int32) × (Nat → Int32) × (Nat → Int32) × (Nat → Int32) × (Nat → Int32) × (Nat → Int32) × (Nat → Int32) × (Nat → Int32) × (Nat → Int32) × (Nat → Int32) :=
  KX10_segment_246 m_port m_address (FX10_goOn mF m_known m_out m_outLength m_send m_state m_window m_pace m_sent m_first m_queued m_port m_next m_boxed m_box m_queue m_address m_timer m_tries m_load m_answer m_nameLength m_name m_bodyLength m_body m_check y8 x_2 x_3 k0_3 x_5 i1)
def KX10_segment_210 (m_state : (Nat → Int32)) (m_window : (Nat → Int32)) (m_pace : (Nat → Int32)) (m_sent : (Nat → Int32)) (m_first : (Nat → Int32)) (m_queued : (Nat → Int32)) (m_port : (Nat → Int32)) (m_next : (Nat → Int32)) (m_boxed : (Nat → Int32)) (m_box : (Nat → Int32)) (m_queue : (Nat → Int32)) (m_address : (Nat → Int32)) (m_timer : (Nat → Int32)) (m_tries : (Nat → Int32)) (m_answer : (Nat → Int32)) (w_12 : (Nat → Int32) × (Nat → Int32) × (Nat → Int32) × (Nat → Int32)) : (Nat → Int32) × (Nat → Int32) × (Nat → Int32) × (Nat → Int32) × (Nat → Int32) × (Nat → Int32) × (Nat → Int32) × (Nat → Int32) × (Nat → Int32) × (Nat → Int32) × (Nat → Int32) × (Nat → Int32) × (Nat → Int32) × (Nat → Int32) × (Nat → Int32) × (Nat → Int32) × (Nat → Int32) × (Nat → Int32) × (Nat → Int32) :=
  (w_12.1, w_12.2.1, w_12.2.2.1, w_12.2.2.2, m_state, m_window, m_pace, m_sent, m_first, m_queued, m_port, m_next, m_boxed, m_box, m_queue, m_address, m_timer, m_tries, m_answer)
def JX10_segment_86 (mF : (Nat → Int32)) (m_known : (Nat → Int32)) (m_out : (Nat → Int32)) (m_outLength : (Nat → Int32)) (m_send : (Nat → Int32)) (m_state : (Nat → Int32)) (m_window : (Nat → Int32)) (m_pace : (Nat → Int32)) (m_sent : (Nat → Int32)) (m_first : (Nat → Int32)) (m_queued : (Nat → Int32)) (m_port : (Nat → Int32)) (m_next : (Nat → Int32)) (m_boxed : (Nat → Int32)) (m_box : (Nat → Int32)) (m_queue : (Nat → Int32)) (m_address : (Nat → Int32)) (m_timer : (Nat → Int32)) (m_tries : (Nat → Int32)) (m_load : (Nat → Int32)) (m_answer : (Nat → Int32)) (m_nameLength : (Nat → Int32)) (m_name : (Nat → Int32)) (m_bodyLength : (Nat → Int32)) (m_body : (Nat → Int32)) (m_check : (Nat → Int32)) (i0 : Int32) (i1 : Int32) (x_1 : Int32) (x_2 : Int32) (x_3 : Int32) (x_4 : Int32) (x_5 : Int32) (y8 : Int32)  : (Nat → Int32) × (Nat → Int32) × (Nat → Int32) × (Nat → Int32) × (Nat → Int32) × (Nat → Int32) × (Nat → Int32) × (Nat → Int32) × (Nat → Int32) × (Nat → Int32) × (Nat → Int32) × (Nat → Int32) × (Nat → Int32) × (Nat → Int32) × (Nat → Int32) × (Nat → Int32) × (Nat → Int32) × (Nat → Int32) × (Nat → Int32) :=
  if y8 = 3 then
    if (x_4 &&& (4 : Int32)) = 0 then
      LX10_segment_103 mF m_known m_out m_outLength m_send m_state m_window m_pace m_sent m_first m_queued m_port m_next m_boxed m_box m_queue m_address m_timer m_tries m_answer i0 i1 x_1 x_2 x_3 x_4 x_5 128 0
    else
      (mF, m_out, m_outLength, m_send, m_state, m_window, m_pace, m_sent, m_first, m_queued, m_port, m_next, m_boxed, m_box, m_queue, m_address, m_timer, m_tries, m_answer)
  else
    if (x_4 &&& (4 : Int32)) = 0 then
      if (x_4 &&& (2 : Int32)) = 0 then
        if (x_4 &&& (16 : Int32)) = 0 then
          (mF, m_out, m_outLength, m_send, m_state, m_window, m_pace, m_sent, m_first, m_queued, m_port, m_next, m_boxed, m_box, m_queue, m_address, m_timer, m_tries, m_answer)
        else
          if (x_4 &&& (1 : Int32)) = 0 then
            JX10_segment_243 mF m_known m_out m_outLength m_send m_state m_window m_pace m_sent m_first m_queued m_port m_next m_boxed m_box m_queue m_address m_timer m_tries m_load m_answer m_nameLength m_name m_bodyLength m_body m_check i1 x_2 x_3 x_5 y8 0
          else
            JX10_segment_243 mF m_known m_out m_outLength m_send m_state m_window m_pace m_sent m_first m_queued m_port m_next m_boxed m_box m_queue m_address m_timer m_tries m_load m_answer m_nameLength m_name m_bodyLength m_body m_check i1 x_2 x_3 x_5 y8 1
      else
        KX10_segment_210 m_state m_window m_pace m_sent m_first m_queued m_port m_next m_boxed m_box m_queue m_address m_timer m_tries m_answer (FX10_tell mF m_known m_out m_outLength m_send m_port m_sent m_next m_boxed m_address y8 16)
    else
      if x_2 = (m_next y8.toNatClampNeg) then
        (mF, m_out, m_outLength, m_send, (upd m_state y8.toNatClampNeg 0), m_window, m_pace, m_sent, m_first, m_queued, m_port, m_next, m_boxed, m_box, m_queue, m_address, m_timer, m_tries, m_answer)
      else
        (mF, m_out, m_outLength, m_send, m_state, m_window, m_pace, m_sent, m_first, m_queued, m_port, m_next, m_boxed, m_box, m_queue, m_address, m_timer, m_tries, m_answer)
def LX10_segment_42 (mF : (Nat → Int32)) (m_known : (Nat → Int32)) (m_out : (Nat → Int32)) (m_outLength : (Nat → Int32)) (m_send : (Nat → Int32)) (m_state : (Nat → Int32)) (m_window : (Nat → Int32)) (m_pace : (Nat → Int32)) (m_sent : (Nat → Int32)) (m_first : (Nat → Int32)) (m_queued : (Nat → Int32)) (m_port : (Nat → Int32)) (m_next : (Nat → Int32)) (m_boxed : (Nat → Int32)) (m_box : (Nat → Int32)) (m_queue : (Nat → Int32)) (m_address : (Nat → Int32)) (m_timer : (Nat → Int32)) (m_tries : (Nat → Int32)) (m_load : (Nat → Int32)) (m_answer : (Nat → Int32)) (m_nameLength : (Nat → Int32)) (m_name : (Nat → Int32)) (m_bodyLength : (Nat → Int32)) (m_body : (Nat → Int32)) (m_check : (Nat → Int32)) (i0 : Int32) (i1 : Int32) (x_1 : Int32) (x_2 : Int32) (x_3 : Int32) (x_4 : Int32) (x_5 : Int32) : Nat → Int32 → (Nat → Int32) × (Nat → Int32) × (Nat → Int32) × (Nat → Int32) × (Nat → Int32) × (Nat → Int32) × (Nat → Int32) × (Nat → Int32) × (Nat → Int32) × (Nat → Int32) × (Nat → Int32) × (Nat → Int32) × (Nat → Int32) × (Nat → Int32) × (Nat → Int32) × (Nat → Int32) × (Nat → Int32) × (Nat → Int32) × (Nat → Int32)
  | 0, _ => ((fun _ => 0), (fun _ => 0), (fun _ => 0), (fun _ => 0), (fun _ => 0), (fun _ => 0), (fun _ => 0), (fun _ => 0), (fun _ => 0), (fun _ => 0), (fun _ => 0), (fun _ => 0), (fun _ => 0), (fun _ => 0), (fun _ => 0), (fun _ => 0), (fun _ => 0), (fun _ => 0), (fun _ => 0))
  | n + 1, y8 =>
    if 3 ≤ y8 then
      JX10_segment_86 mF m_known m_out m_outLength m_send m_state m_window m_pace m_sent m_first m_queued m_port m_next m_boxed m_box m_queue m_address m_timer m_tries m_load m_answer m_nameLength m_name m_bodyLength m_body m_check i0 i1 x_1 x_2 x_3 x_4 x_5 y8 
    else
      if (m_state y8.toNatClampNeg) = 0 then
        LX10_segment_42 mF m_known m_out m_outLength m_send m_state m_window m_pace m_sent m_first m_queued m_port m_next m_boxed m_box m_queue m_address m_timer m_tries m_load m_answer m_nameLength m_name m_bodyLength m_body m_check i0 i1 x_1 x_2 x_3 x_4 x_5 n (y8 + 1)
      else
        if (m_address y8.toNatClampNeg) = i0 then
          if (m_port y8.toNatClampNeg) = x_1 then
            JX10_segment_86 mF m_known m_out m_outLength m_send m_state m_window m_pace m_sent m_first m_queued m_port m_next m_boxed m_box m_queue m_address m_timer m_tries m_load m_answer m_nameLength m_name m_bodyLength m_body m_check i0 i1 x_1 x_2 x_3 x_4 x_5 y8 
          else
            LX10_segment_42 mF m_known m_out m_outLength m_send m_state m_window m_pace m_sent m_first m_queued m_port m_next m_boxed m_box m_queue m_address m_timer m_tries m_load m_answer m_nameLength m_name m_bodyLength m_body m_check i0 i1 x_1 x_2 x_3 x_4 x_5 n (y8 + 1)
        else
          LX10_segment_42 mF m_known m_out m_outLength m_send m_state m_window m_pace m_sent m_first m_queued m_port m_next m_boxed m_box m_queue m_address m_timer m_tries m_load m_answer m_nameLength m_name m_bodyLength m_body m_check i0 i1 x_1 x_2 x_3 x_4 x_5 n (y8 + 1)
def FX10_segment (mF : (Nat → Int32)) (m_known : (Nat → Int32)) (m_out : (Nat → Int32)) (m_outLength : (Nat → Int32)) (m_send : (Nat → Int32)) (m_state : (Nat → Int32)) (m_window : (Nat → Int32)) (m_pace : (Nat → Int32)) (m_sent : (Nat → Int32)) (m_first : (Nat → Int32)) (m_queued : (Nat → Int32)) (m_port : (Nat → Int32)) (m_next : (Nat → Int32)) (m_boxed : (Nat → Int32)) (m_box : (Nat → Int32)) (m_queue : (Nat → Int32)) (m_address : (Nat → Int32)) (m_timer : (Nat → Int32)) (m_tries : (Nat → Int32)) (m_load : (Nat → Int32)) (m_answer : (Nat → Int32)) (m_nameLength : (Nat → Int32)) (m_name : (Nat → Int32)) (m_bodyLength : (Nat → Int32)) (m_body : (Nat → Int32)) (m_check : (Nat → Int32)) (i0 : Int32) (i1 : Int32) : (Nat → Int32) × (Nat → Int32) × (Nat → Int32) × (Nat → Int32) × (Nat → Int32) × (Nat → Int32) × (Nat → Int32) × (Nat → Int32) × (Nat → Int32) × (Nat → Int32) × (Nat → Int32) × (Nat → Int32) × (Nat → Int32) × (Nat → Int32) × (Nat → Int32) × (Nat → Int32) × (Nat → Int32) × (Nat → Int32) × (Nat → Int32) :=
  LX10_segment_42 mF m_known m_out m_outLength m_send m_state m_window m_pace m_sent m_first m_queued m_port m_next m_boxed m_box m_queue m_address m_timer m_tries m_load m_answer m_nameLength m_name m_bodyLength m_body m_check i0 i1 (m_load 0) (m_load 1) (m_load 2) (m_load 3) (m_load 4) 128 0
def JX10_take_51 (y4_2 : Int32) (z_m_send_2 : (Nat → Int32)) (lf_LX10_take_23 : Int32 → (Nat → Int32) → (Nat → Int32) × (Nat → Int32) × (Nat → Int32) × (Nat → Int32) × (Nat → Int32) × (Nat → Int32) × (Nat → Int32) × (Nat → Int32) × (Nat → Int32) × (Nat → Int32) × (Nat → Int32) × (Nat → Int32) × (Nat → Int32) × (Nat → Int32) × (Nat → Int32) × (Nat → Int32) × (Nat → Int32) × (Nat → Int32) × (Nat → Int32)) (k0_3 : Int32) : (Nat → Int32) × (Nat → Int32) × (Nat → Int32) × (Nat → Int32) × (Nat → Int32) × (Nat → Int32) × (Nat → Int32) × (Nat → Int32) × (Nat → Int32) × (Nat → Int32) × (Nat → Int32) × (Nat → Int32) × (Nat → Int32) × (Nat → Int32) × (Nat → Int32) × (Nat → Int32) × (Nat → Int32) × (Nat → Int32) × (Nat → Int32) :=
  lf_LX10_take_23 (y4_2 + 1) (upd z_m_send_2 y4_2.toNatClampNeg k0_3)
def KX10_take_66 (m_state : (Nat → Int32)) (m_window : (Nat → Int32)) (m_pace : (Nat → Int32)) (m_sent : (Nat → Int32)) (m_first : (Nat → Int32)) (m_queued : (Nat → Int32)) (m_port : (Nat → Int32)) (m_next : (Nat → Int32)) (m_boxed : (Nat → Int32)) (m_box : (Nat → Int32)) (m_queue : (Nat → Int32)) (m_address : (Nat → Int32)) (m_timer : (Nat → Int32)) (m_tries : (Nat → Int32)) (m_answer : (Nat → Int32)) (w_8 : (Nat → Int32) × (Nat → Int32) × (Nat → Int32)) (z_m_send_2 : (Nat → Int32)) : (Nat → Int32) × (Nat → Int32) × (Nat → Int32) × (Nat → Int32) × (Nat → Int32) × (Nat → Int32) × (Nat → Int32) × (Nat → Int32) × (Nat → Int32) × (Nat → Int32) × (Nat → Int32) × (Nat → Int32) × (Nat → Int32) × (Nat → Int32) × (Nat → Int32) × (Nat → Int32) × (Nat → Int32) × (Nat → Int32) × (Nat → Int32) :=
  (w_8.1, w_8.2.1, w_8.2.2, z_m_send_2, m_state, m_window, m_pace, m_sent, m_first, m_queued, m_port, m_next, m_boxed, m_box, m_queue, m_address, m_timer, m_tries, m_answer)
def LX10_take_23 (mF : (Nat → Int32)) (m_known : (Nat → Int32)) (m_out : (Nat → Int32)) (m_outLength : (Nat → Int32)) (m_state : (Nat → Int32)) (m_window : (Nat → Int32)) (m_pace : (Nat → Int32)) (m_sent : (Nat → Int32)) (m_first : (Nat → Int32)) (m_queued : (Nat → Int32)) (m_port : (Nat → Int32)) (m_next : (Nat → Int32)) (m_boxed : (Nat → Int32)) (m_box : (Nat → Int32)) (m_queue : (Nat → Int32)) (m_address : (Nat → Int32)) (m_timer : (Nat → Int32)) (m_tries : (Nat → Int32)) (m_load : (Nat → Int32)) (m_answer : (Nat → Int32)) (i0 : Int32) (i2 : Int32) : Nat → Int32 → (Nat → Int32) → (Nat → Int32) × (Nat → Int32) × (Nat → Int32) × (Nat → Int32) × (Nat → Int32) × (Nat → Int32) × (Nat → Int32) × (Nat → Int32) × (Nat → Int32) × (Nat → Int32) × (Nat → Int32) × (Nat → Int32) × (Nat → Int32) × (Nat → Int32) × (Nat → Int32) × (Nat → Int32) × (Nat → Int32) × (Nat → Int32) × (Nat → Int32)
  | 0, _, _ => ((fun _ => 0), (fun _ => 0), (fun _ => 0), (fun _ => 0), (fun _ => 0), (fun _ => 0), (fun _ => 0), (fun _ => 0), (fun _ => 0), (fun _ => 0), (fun _ => 0), (fun _ => 0), (fun _ => 0), (fun _ => 0), (fun _ => 0), (fun _ => 0), (fun _ => 0), (fun _ => 0), (fun _ => 0))
  | n + 1, y4_2, z_m_send_2 =>
    if i2 ≤ y4_2 then
      KX10_take_66 m_state m_window m_pace m_sent m_first m_queued m_port m_next m_boxed m_box m_queue m_address m_timer m_tries m_answer (FX10_sendTo (upd mF 30 i2) m_known m_out m_outLength z_m_send_2 i0 1) z_m_send_2
    else
      if y4_2 = 0 then
        JX10_take_51 y4_2 z_m_send_2 (LX10_take_23 mF m_known m_out m_outLength m_state m_window m_pace m_sent m_first m_queued m_port m_next m_boxed m_box m_queue m_address m_timer m_tries m_load m_answer i0 i2 n) 0
      else
        JX10_take_51 y4_2 z_m_send_2 (LX10_take_23 mF m_known m_out m_outLength m_state m_window m_pace m_sent m_first m_queued m_port m_next m_boxed m_box m_queue m_address m_timer m_tries m_load m_answer i0 i2 n) (m_load y4_2.toNatClampNeg)
def KX10_take_88 (w_3 : (Nat → Int32) × (Nat → Int32) × (Nat → Int32) × (Nat → Int32) × (Nat → Int32) × (Nat → Int32) × (Nat → Int32) × (Nat → Int32) × (Nat → Int32) × (Nat → Int32) × (Nat → Int32) × (Nat → Int32) × (Nat → Int32) × (Nat → Int32) × (Nat → Int32) × (Nat → Int32) × (Nat → Int32) × (Nat → Int32) × (Nat → Int32)) : (Nat → Int32) × (Nat → Int32) × (Nat → Int32) × (Nat → Int32) × (Nat → Int32) × (Nat → Int32) × (Nat → Int32) × (Nat → Int32) × (Nat → Int32) × (Nat → Int32) × (Nat → Int32) × (Nat → Int32) × (Nat → Int32) × (Nat → Int32) × (Nat → Int32) × (Nat → Int32) × (Nat → Int32) × (Nat → Int32) × (Nat → Int32) :=
  (w_3.1, w_3.2.1, w_3.2.2.1, w_3.2.2.2.1, w_3.2.2.2.2.1, w_3.2.2.2.2.2.1, w_3.2.2.2.2.2.2.1, w_3.2.2.2.2.2.2.2.1, w_3.2.2.2.2.2.2.2.2.1, w_3.2.2.2.2.2.2.2.2.2.1, w_3.2.2.2.2.2.2.2.2.2.2.1, w_3.2.2.2.2.2.2.2.2.2.2.2.1, w_3.2.2.2.2.2.2.2.2.2.2.2.2.1, w_3.2.2.2.2.2.2.2.2.2.2.2.2.2.1, w_3.2.2.2.2.2.2.2.2.2.2.2.2.2.2.1, w_3.2.2.2.2.2.2.2.2.2.2.2.2.2.2.2.1, w_3.2.2.2.2.2.2.2.2.2.2.2.2.2.2.2.2.1, w_3.2.2.2.2.2.2.2.2.2.2.2.2.2.2.2.2.2.1, w_3.2.2.2.2.2.2.2.2.2.2.2.2.2.2.2.2.2.2)
def JX10_take_72 (mF : (Nat → Int32)) (m_known : (Nat → Int32)) (m_out : (Nat → Int32)) (m_outLength : (Nat → Int32)) (m_send : (Nat → Int32)) (m_state : (Nat → Int32)) (m_window : (Nat → Int32)) (m_pace : (Nat → Int32)) (m_sent : (Nat → Int32)) (m_first : (Nat → Int32)) (m_queued : (Nat → Int32)) (m_port : (Nat → Int32)) (m_next : (Nat → Int32)) (m_boxed : (Nat → Int32)) (m_box : (Nat → Int32)) (m_queue : (Nat → Int32)) (m_address : (Nat → Int32)) (m_timer : (Nat → Int32)) (m_tries : (Nat → Int32)) (m_load : (Nat → Int32)) (m_answer : (Nat → Int32)) (m_nameLength : (Nat → Int32)) (m_name : (Nat → Int32)) (m_bodyLength : (Nat → Int32)) (m_body : (Nat → Int32)) (m_check : (Nat → Int32)) (i0 : Int32) (i1 : Int32) (i2 : Int32)  : (Nat → Int32) × (Nat → Int32) × (Nat → Int32) × (Nat → Int32) × (Nat → Int32) × (Nat → Int32) × (Nat → Int32) × (Nat → Int32) × (Nat → Int32) × (Nat → Int32) × (Nat → Int32) × (Nat → Int32) × (Nat → Int32) × (Nat → Int32) × (Nat → Int32) × (Nat → Int32) × (Nat → Int32) × (Nat → Int32) × (Nat → Int32) :=
  if i1 = 6 then
    if i2 ≤ 4 then
      (mF, m_out, m_outLength, m_send, m_state, m_window, m_pace, m_sent, m_first, m_queued, m_port, m_next, m_boxed, m_box, m_queue, m_address, m_timer, m_tries, m_answer)
    else
      KX10_take_88 (FX10_segment mF m_known m_out m_outLength m_send m_state m_window m_pace m_sent m_first m_queued m_port m_next m_boxed m_box m_queue m_address m_timer m_tries m_load m_answer m_nameLength m_name m_bodyLength m_body m_check i0 (i2 - (5 : Int32)))
  else
    (mF, m_out, m_outLength, m_send, m_state, m_window, m_pace, m_sent, m_first, m_queued, m_port, m_next, m_boxed, m_box, m_queue, m_address, m_timer, m_tries, m_answer)
def FX10_take (mF : (Nat → Int32)) (m_known : (Nat → Int32)) (m_out : (Nat → Int32)) (m_outLength : (Nat → Int32)) (m_send : (Nat → Int32)) (m_state : (Nat → Int32)) (m_window : (Nat → Int32)) (m_pace : (Nat → Int32)) (m_sent : (Nat → Int32)) (m_first : (Nat → Int32)) (m_queued : (Nat → Int32)) (m_port : (Nat → Int32)) (m_next : (Nat → Int32)) (m_boxed : (Nat → Int32)) (m_box : (Nat → Int32)) (m_queue : (Nat → Int32)) (m_address : (Nat → Int32)) (m_timer : (Nat → Int32)) (m_tries : (Nat → Int32)) (m_load : (Nat → Int32)) (m_answer : (Nat → Int32)) (m_nameLength : (Nat → Int32)) (m_name : (Nat → Int32)) (m_bodyLength : (Nat → Int32)) (m_body : (Nat → Int32)) (m_check : (Nat → Int32)) (i0 : Int32) (i1 : Int32) (i2 : Int32) : (Nat → Int32) × (Nat → Int32) × (Nat → Int32) × (Nat → Int32) × (Nat → Int32) × (Nat → Int32) × (Nat → Int32) × (Nat → Int32) × (Nat → Int32) × (Nat → Int32) × (Nat → Int32) × (Nat → Int32) × (Nat → Int32) × (Nat → Int32) × (Nat → Int32) × (Nat → Int32) × (Nat → Int32) × (Nat → Int32) × (Nat → Int32) :=
  if i1 = 1 then
    if i2 ≤ 0 then
      JX10_take_72 mF m_known m_out m_outLength m_send m_state m_window m_pace m_sent m_first m_queued m_port m_next m_boxed m_box m_queue m_address m_timer m_tries m_load m_answer m_nameLength m_name m_bodyLength m_body m_check i0 i1 i2 
    else
      if (m_load 0) = 8 then
        LX10_take_23 mF m_known m_out m_outLength m_state m_window m_pace m_sent m_first m_queued m_port m_next m_boxed m_box m_queue m_address m_timer m_tries m_load m_answer i0 i2 128 0 m_send
      else
        JX10_take_72 mF m_known m_out m_outLength m_send m_state m_window m_pace m_sent m_first m_queued m_port m_next m_boxed m_box m_queue m_address m_timer m_tries m_load m_answer m_nameLength m_name m_bodyLength m_body m_check i0 i1 i2 
  else
    JX10_take_72 mF m_known m_out m_outLength m_send m_state m_window m_pace m_sent m_first m_queued m_port m_next m_boxed m_box m_queue m_address m_timer m_tries m_load m_answer m_nameLength m_name m_bodyLength m_body m_check i0 i1 i2 
def JX10_assemblyOf_86 (mF : (Nat → Int32)) (m_used : (Nat → Int32)) (m_source : (Nat → Int32)) (m_id : (Nat → Int32)) (m_units : (Nat → Int32)) (m_last : (Nat → Int32)) (m_since : (Nat → Int32)) (m_order : (Nat → Int32)) (i0 : Int32) (i1 : Int32) (k0_2 : Int32) : Int32 × (Nat → Int32) × (Nat → Int32) × (Nat → Int32) × (Nat → Int32) × (Nat → Int32) × (Nat → Int32) × (Nat → Int32) × (Nat → Int32) :=
  (k0_2, (upd mF 27 ((mF 27) + (1 : Int32))), (upd m_used k0_2.toNatClampNeg 1), (upd m_source k0_2.toNatClampNeg i0), (upd m_id k0_2.toNatClampNeg i1), (upd m_units k0_2.toNatClampNeg 0), (upd m_last k0_2.toNatClampNeg (-1)), (upd m_since k0_2.toNatClampNeg (mF 5)), (upd m_order k0_2.toNatClampNeg (mF 27)))
def LX10_assemblyOf_2 (mF : (Nat → Int32)) (m_used : (Nat → Int32)) (m_source : (Nat → Int32)) (m_id : (Nat → Int32)) (m_units : (Nat → Int32)) (m_last : (Nat → Int32)) (m_since : (Nat → Int32)) (m_order : (Nat → Int32)) (i0 : Int32) (i1 : Int32) : Nat → Int32 → Int32 × (Nat → Int32) × (Nat → Int32) × (Nat → Int32) × (Nat → Int32) × (Nat → Int32) × (Nat → Int32) × (Nat → Int32) × (Nat → Int32)
  | 0, _ => (0, (fun _ => 0), (fun _ => 0), (fun _ => 0), (fun _ => 0), (fun _ => 0), (fun _ => 0), (fun _ => 0), (fun _ => 0))
  | n + 1, y3 =>
    if 2 ≤ y3 then
      if (m_used 0) = 0 then
        JX10_assemblyOf_86 mF m_used m_source m_id m_units m_last m_since m_order i0 i1 0
      else
        if (m_used 1) = 0 then
          JX10_assemblyOf_86 mF m_used m_source m_id m_units m_last m_since m_order i0 i1 1
        else
          if (m_order 0) ≤ (m_order 1) then
            JX10_assemblyOf_86 mF m_used m_source m_id m_units m_last m_since m_order i0 i1 0
          else
            JX10_assemblyOf_86 mF m_used m_source m_id m_units m_last m_since m_order i0 i1 1
    else
      if (m_used y3.toNatClampNeg) = 0 then
        LX10_assemblyOf_2 mF m_used m_source m_id m_units m_last m_since m_order i0 i1 n (y3 + 1)
      else
        if (m_source y3.toNatClampNeg) = i0 then
          if (m_id y3.toNatClampNeg) = i1 then
            (y3, mF, m_used, m_source, m_id, m_units, m_last, m_since, m_order)
          else
            LX10_assemblyOf_2 mF m_used m_source m_id m_units m_last m_since m_order i0 i1 n (y3 + 1)
        else
          LX10_assemblyOf_2 mF m_used m_source m_id m_units m_last m_since m_order i0 i1 n (y3 + 1)
def FX10_assemblyOf (mF : (Nat → Int32)) (m_used : (Nat → Int32)) (m_source : (Nat → Int32)) (m_id : (Nat → Int32)) (m_units : (Nat → Int32)) (m_last : (Nat → Int32)) (m_since : (Nat → Int32)) (m_order : (Nat → Int32)) (i0 : Int32) (i1 : Int32) : Int32 × (Nat → Int32) × (Nat → Int32) × (Nat → Int32) × (Nat → Int32) × (Nat → Int32) × (Nat → Int32) × (Nat → Int32) × (Nat → Int32) :=
  LX10_assemblyOf_2 mF m_used m_source m_id m_units m_last m_since m_order i0 i1 128 0
def KX10_tick_115 (w_14 : (Nat → Int32) × (Nat → Int32) × (Nat → Int32) × (Nat → Int32) × (Nat → Int32) × (Nat → Int32) × (Nat → Int32) × (Nat → Int32) × (Nat → Int32) × (Nat → Int32)) (y4_3 : Int32) (lf_LX10_tick_87 : Int32 → (Nat → Int32) → (Nat → Int32) → (Nat → Int32) → (Nat → Int32) → (Nat → Int32) → (Nat → Int32) → (Nat → Int32) → (Nat → Int32) → (Nat → Int32) → (Nat → Int32) → Int32 × (Nat → Int32) × (Nat → Int32) × (Nat → Int32) × (Nat → Int32) × (Nat → Int32) × (Nat → Int32) × (Nat → Int32) × (Nat → Int32) × (Nat → Int32) × (Nat → Int32) × (Nat → Int32)) : Int32 × (Nat → Int32) × (Nat → Int32) × (Nat → Int32) × (Nat → Int32) × (Nat → Int32) × (Nat → Int32) × (Nat → Int32) × (Nat → Int32) × (Nat → Int32) × (Nat → Int32) × (Nat → Int32) :=
  lf_LX10_tick_87 (y4_3 + 1) w_14.1 w_14.2.2.2.1 w_14.2.1 w_14.2.2.1 w_14.2.2.2.2.1 w_14.2.2.2.2.2.1 w_14.2.2.2.2.2.2.1 w_14.2.2.2.2.2.2.2.2.1 w_14.2.2.2.2.2.2.2.2.2 w_14.2.2.2.2.2.2.2.1
def LX10_tick_87 (m_known : (Nat → Int32)) (m_window : (Nat → Int32)) (m_first : (Nat → Int32)) (m_queued : (Nat → Int32)) (m_port : (Nat → Int32)) (m_next : (Nat → Int32)) (m_box : (Nat → Int32)) (m_queue : (Nat → Int32)) (m_address : (Nat → Int32)) (y3 : Int32) (z_m_used_2 : (Nat → Int32)) (lf_LX10_tick_19 : Int32 → (Nat → Int32) → (Nat → Int32) → (Nat → Int32) → (Nat → Int32) → (Nat → Int32) → (Nat → Int32) → (Nat → Int32) → (Nat → Int32) → (Nat → Int32) → (Nat → Int32) → (Nat → Int32) → Int32 × (Nat → Int32) × (Nat → Int32) × (Nat → Int32) × (Nat → Int32) × (Nat → Int32) × (Nat → Int32) × (Nat → Int32) × (Nat → Int32) × (Nat → Int32) × (Nat → Int32) × (Nat → Int32)) : Nat → Int32 → (Nat → Int32) → (Nat → Int32) → (Nat → Int32) → (Nat → Int32) → (Nat → Int32) → (Nat → Int32) → (Nat → Int32) → (Nat → Int32) → (Nat → Int32) → (Nat → Int32) → Int32 × (Nat → Int32) × (Nat → Int32) × (Nat → Int32) × (Nat → Int32) × (Nat → Int32) × (Nat → Int32) × (Nat → Int32) × (Nat → Int32) × (Nat → Int32) × (Nat → Int32) × (Nat → Int32)
  | 0, _, _, _, _, _, _, _, _, _, _, _ => (0, (fun _ => 0), (fun _ => 0), (fun _ => 0), (fun _ => 0), (fun _ => 0), (fun _ => 0), (fun _ => 0), (fun _ => 0), (fun _ => 0), (fun _ => 0), (fun _ => 0))
  | n + 1, y4_3, z_mF_3, z_m_send_3, z_m_out_3, z_m_outLength_3, z_m_state_3, z_m_pace_3, z_m_sent_3, z_m_timer_3, z_m_tries_3, z_m_boxed_3 =>
    if 3 ≤ y4_3 then
      lf_LX10_tick_19 (y3 + 1) z_mF_3 z_m_used_2 z_m_send_3 z_m_out_3 z_m_outLength_3 z_m_state_3 z_m_pace_3 z_m_sent_3 z_m_timer_3 z_m_tries_3 z_m_boxed_3
    else
      if (z_m_state_3 y4_3.toNatClampNeg) = 0 then
        LX10_tick_87 m_known m_window m_first m_queued m_port m_next m_box m_queue m_address y3 z_m_used_2 lf_LX10_tick_19 n (y4_3 + 1) z_mF_3 z_m_send_3 z_m_out_3 z_m_outLength_3 z_m_state_3 z_m_pace_3 z_m_sent_3 z_m_timer_3 z_m_tries_3 z_m_boxed_3
      else
        if (FX10_way z_mF_3 z_m_sent_3 m_first y4_3) ≤ 0 then
          LX10_tick_87 m_known m_window m_first m_queued m_port m_next m_box m_queue m_address y3 z_m_used_2 lf_LX10_tick_19 n (y4_3 + 1) z_mF_3 z_m_send_3 z_m_out_3 z_m_outLength_3 z_m_state_3 z_m_pace_3 z_m_sent_3 z_m_timer_3 z_m_tries_3 z_m_boxed_3
        else
          KX10_tick_115 (FX10_beat z_mF_3 m_known z_m_out_3 z_m_outLength_3 z_m_send_3 z_m_state_3 m_window z_m_pace_3 z_m_sent_3 m_first m_queued m_port m_next z_m_boxed_3 m_box m_queue m_address z_m_timer_3 z_m_tries_3 y4_3) y4_3 (LX10_tick_87 m_known m_window m_first m_queued m_port m_next m_box m_queue m_address y3 z_m_used_2 lf_LX10_tick_19 n)
def LX10_tick_37 (m_known : (Nat → Int32)) (m_window : (Nat → Int32)) (m_first : (Nat → Int32)) (m_queued : (Nat → Int32)) (m_port : (Nat → Int32)) (m_next : (Nat → Int32)) (m_box : (Nat → Int32)) (m_queue : (Nat → Int32)) (m_address : (Nat → Int32)) (m_since : (Nat → Int32)) (y3 : Int32) (z_mF : (Nat → Int32)) (z_m_send : (Nat → Int32)) (z_m_out : (Nat → Int32)) (z_m_outLength : (Nat → Int32)) (z_m_state : (Nat → Int32)) (z_m_pace : (Nat → Int32)) (z_m_sent : (Nat → Int32)) (z_m_timer : (Nat → Int32)) (z_m_tries : (Nat → Int32)) (z_m_boxed : (Nat → Int32)) (f_5 : Int32) (lf_LX10_tick_19 : Int32 → (Nat → Int32) → (Nat → Int32) → (Nat → Int32) → (Nat → Int32) → (Nat → Int32) → (Nat → Int32) → (Nat → Int32) → (Nat → Int32) → (Nat → Int32) → (Nat → Int32) → (Nat → Int32) → Int32 × (Nat → Int32) × (Nat → Int32) × (Nat → Int32) × (Nat → Int32) × (Nat → Int32) × (Nat → Int32) × (Nat → Int32) × (Nat → Int32) × (Nat → Int32) × (Nat → Int32) × (Nat → Int32)) : Nat → Int32 → (Nat → Int32) → Int32 × (Nat → Int32) × (Nat → Int32) × (Nat → Int32) × (Nat → Int32) × (Nat → Int32) × (Nat → Int32) × (Nat → Int32) × (Nat → Int32) × (Nat → Int32) × (Nat → Int32) × (Nat → Int32)
  | 0, _, _ => (0, (fun _ => 0), (fun _ => 0), (fun _ => 0), (fun _ => 0), (fun _ => 0), (fun _ => 0), (fun _ => 0), (fun _ => 0), (fun _ => 0), (fun _ => 0), (fun _ => 0))
  | n + 1, y4_2, z_m_used_2 =>
    if 2 ≤ y4_2 then
      LX10_tick_87 m_known m_window m_first m_queued m_port m_next m_box m_queue m_address y3 z_m_used_2 lf_LX10_tick_19 128 0 (upd z_mF 5 f_5) z_m_send z_m_out z_m_outLength z_m_state z_m_pace z_m_sent z_m_timer z_m_tries z_m_boxed
    else
      if (z_m_used_2 y4_2.toNatClampNeg) = 0 then
        LX10_tick_37 m_known m_window m_first m_queued m_port m_next m_box m_queue m_address m_since y3 z_mF z_m_send z_m_out z_m_outLength z_m_state z_m_pace z_m_sent z_m_timer z_m_tries z_m_boxed f_5 lf_LX10_tick_19 n (y4_2 + 1) z_m_used_2
      else
        if (f_5 - (m_since y4_2.toNatClampNeg)) = 15 then
          LX10_tick_37 m_known m_window m_first m_queued m_port m_next m_box m_queue m_address m_since y3 z_mF z_m_send z_m_out z_m_outLength z_m_state z_m_pace z_m_sent z_m_timer z_m_tries z_m_boxed f_5 lf_LX10_tick_19 n (y4_2 + 1) (upd z_m_used_2 y4_2.toNatClampNeg 0)
        else
          LX10_tick_37 m_known m_window m_first m_queued m_port m_next m_box m_queue m_address m_since y3 z_mF z_m_send z_m_out z_m_outLength z_m_state z_m_pace z_m_sent z_m_timer z_m_tries z_m_boxed f_5 lf_LX10_tick_19 n (y4_2 + 1) z_m_used_2
def LX10_tick_19 (m_known : (Nat → Int32)) (m_window : (Nat → Int32)) (m_first : (Nat → Int32)) (m_queued : (Nat → Int32)) (m_port : (Nat → Int32)) (m_next : (Nat → Int32)) (m_box : (Nat → Int32)) (m_queue : (Nat → Int32)) (m_address : (Nat → Int32)) (m_since : (Nat → Int32)) (i0 : Int32) (x_3 : Int32) : Nat → Int32 → (Nat → Int32) → (Nat → Int32) → (Nat → Int32) → (Nat → Int32) → (Nat → Int32) → (Nat → Int32) → (Nat → Int32) → (Nat → Int32) → (Nat → Int32) → (Nat → Int32) → (Nat → Int32) → Int32 × (Nat → Int32) × (Nat → Int32) × (Nat → Int32) × (Nat → Int32) × (Nat → Int32) × (Nat → Int32) × (Nat → Int32) × (Nat → Int32) × (Nat → Int32) × (Nat → Int32) × (Nat → Int32)
  | 0, _, _, _, _, _, _, _, _, _, _, _, _ => (0, (fun _ => 0), (fun _ => 0), (fun _ => 0), (fun _ => 0), (fun _ => 0), (fun _ => 0), (fun _ => 0), (fun _ => 0), (fun _ => 0), (fun _ => 0), (fun _ => 0))
  | n + 1, y3, z_mF, z_m_used, z_m_send, z_m_out, z_m_outLength, z_m_state, z_m_pace, z_m_sent, z_m_timer, z_m_tries, z_m_boxed =>
    if i0 ≤ y3 then
      (((z_mF 8) - x_3), z_mF, z_m_out, z_m_outLength, z_m_send, z_m_state, z_m_pace, z_m_sent, z_m_boxed, z_m_timer, z_m_tries, z_m_used)
    else
      LX10_tick_37 m_known m_window m_first m_queued m_port m_next m_box m_queue m_address m_since y3 z_mF z_m_send z_m_out z_m_outLength z_m_state z_m_pace z_m_sent z_m_timer z_m_tries z_m_boxed ((z_mF 5) + (1 : Int32)) (LX10_tick_19 m_known m_window m_first m_queued m_port m_next m_box m_queue m_address m_since i0 x_3 n) 128 0 z_m_used
def FX10_tick (mF : (Nat → Int32)) (m_known : (Nat → Int32)) (m_out : (Nat → Int32)) (m_outLength : (Nat → Int32)) (m_send : (Nat → Int32)) (m_state : (Nat → Int32)) (m_window : (Nat → Int32)) (m_pace : (Nat → Int32)) (m_sent : (Nat → Int32)) (m_first : (Nat → Int32)) (m_queued : (Nat → Int32)) (m_port : (Nat → Int32)) (m_next : (Nat → Int32)) (m_boxed : (Nat → Int32)) (m_box : (Nat → Int32)) (m_queue : (Nat → Int32)) (m_address : (Nat → Int32)) (m_timer : (Nat → Int32)) (m_tries : (Nat → Int32)) (m_used : (Nat → Int32)) (m_since : (Nat → Int32)) (i0 : Int32) : Int32 × (Nat → Int32) × (Nat → Int32) × (Nat → Int32) × (Nat → Int32) × (Nat → Int32) × (Nat → Int32) × (Nat → Int32) × (Nat → Int32) × (Nat → Int32) × (Nat → Int32) × (Nat → Int32) :=
  if (FX10_is i0 1 40) = 0 then
    ((-1), mF, m_out, m_outLength, m_send, m_state, m_pace, m_sent, m_boxed, m_timer, m_tries, m_used)
  else
    LX10_tick_19 m_known m_window m_first m_queued m_port m_next m_box m_queue m_address m_since i0 (mF 8) 128 0 mF m_used m_send m_out m_outLength m_state m_pace m_sent m_timer m_tries m_boxed
def FX10_name (mF : (Nat → Int32)) (m_nameLength : (Nat → Int32)) (m_name : (Nat → Int32)) (i0 : Int32) (i1 : Int32) : Int32 × (Nat → Int32) × (Nat → Int32) :=
  if (FX10_is i0 0 5) = 0 then
    ((-1), m_nameLength, m_name)
  else
    if (FX10_is i1 97 122) = 0 then
      ((-1), m_nameLength, m_name)
    else
      if (m_nameLength i0.toNatClampNeg) = 4 then
        ((-2), m_nameLength, m_name)
      else
        (((m_nameLength i0.toNatClampNeg) + (1 : Int32)), (upd m_nameLength i0.toNatClampNeg ((m_nameLength i0.toNatClampNeg) + (1 : Int32))), (upd m_name (((4 : Int32) * i0) + (m_nameLength i0.toNatClampNeg)).toNatClampNeg i1))
def FX10_body (mF : (Nat → Int32)) (m_bodyLength : (Nat → Int32)) (m_body : (Nat → Int32)) (m_check : (Nat → Int32)) (i0 : Int32) (i1 : Int32) : Int32 × (Nat → Int32) × (Nat → Int32) × (Nat → Int32) :=
  if (FX10_is i0 0 5) = 0 then
    ((-1), m_bodyLength, m_body, m_check)
  else
    if (FX10_is i1 0 255) = 0 then
      ((-1), m_bodyLength, m_body, m_check)
    else
      if (m_bodyLength i0.toNatClampNeg) = 16 then
        ((-2), m_bodyLength, m_body, m_check)
      else
        (((m_bodyLength i0.toNatClampNeg) + (1 : Int32)), (upd m_bodyLength i0.toNatClampNeg ((m_bodyLength i0.toNatClampNeg) + (1 : Int32))), (upd m_body (((16 : Int32) * i0) + (m_bodyLength i0.toNatClampNeg)).toNatClampNeg i1), (upd m_check i0.toNatClampNeg (((m_check i0.toNatClampNeg) + i1) &&& (255 : Int32))))
def FX10_spoil (mF : (Nat → Int32)) (m_bodyLength : (Nat → Int32)) (m_body : (Nat → Int32)) (i0 : Int32) (i1 : Int32) (i2 : Int32) : Int32 × (Nat → Int32) :=
  if (FX10_is i0 0 5) = 0 then
    ((-1), m_body)
  else
    if (FX10_is i1 0 ((m_bodyLength i0.toNatClampNeg) - (1 : Int32))) = 0 then
      ((-1), m_body)
    else
      if (FX10_is i2 0 255) = 0 then
        ((-1), m_body)
      else
        ((m_body (((16 : Int32) * i0) + i1).toNatClampNeg), (upd m_body (((16 : Int32) * i0) + i1).toNatClampNeg i2))
def FX10_erase (mF : (Nat → Int32)) (m_nameLength : (Nat → Int32)) (m_bodyLength : (Nat → Int32)) (m_check : (Nat → Int32)) (i0 : Int32) : Int32 × (Nat → Int32) × (Nat → Int32) × (Nat → Int32) :=
  if (FX10_is i0 0 5) = 0 then
    ((-1), m_nameLength, m_bodyLength, m_check)
  else
    ((m_bodyLength i0.toNatClampNeg), (upd m_nameLength i0.toNatClampNeg 0), (upd m_bodyLength i0.toNatClampNeg 0), (upd m_check i0.toNatClampNeg 0))
def FX10_sent (mF : (Nat → Int32)) (m_outLength : (Nat → Int32)) (m_out : (Nat → Int32)) (i0 : Int32) (i1 : Int32) : Int32 :=
  if (FX10_is i0 0 11) = 0 then
    (-1)
  else
    if (FX10_is i1 0 ((m_outLength i0.toNatClampNeg) - (1 : Int32))) = 0 then
      (-1)
    else
      (m_out (((32 : Int32) * i0) + i1).toNatClampNeg)
def FX10_known (mF : (Nat → Int32)) (m_known : (Nat → Int32)) (i0 : Int32) : Int32 :=
  if (FX10_is i0 0 15) = 0 then
    (-1)
  else
    if (m_known i0.toNatClampNeg) < 0 then
      (-1)
    else
      (m_known i0.toNatClampNeg)
def FX10_stream (mF : (Nat → Int32)) (m_state : (Nat → Int32)) (m_address : (Nat → Int32)) (m_port : (Nat → Int32)) (m_next : (Nat → Int32)) (m_first : (Nat → Int32)) (m_sent : (Nat → Int32)) (m_queued : (Nat → Int32)) (m_boxed : (Nat → Int32)) (m_window : (Nat → Int32)) (m_pace : (Nat → Int32)) (m_tries : (Nat → Int32)) (m_timer : (Nat → Int32)) (i0 : Int32) (i1 : Int32) : Int32 :=
  if (FX10_is i0 0 2) = 0 then
    (-1)
  else
    if (FX10_is i1 0 11) = 0 then
      (-1)
    else
      if (m_state i0.toNatClampNeg) = 0 then
        0
      else
        if i1 = 0 then
          (m_state i0.toNatClampNeg)
        else
          if i1 = 1 then
            (m_address i0.toNatClampNeg)
          else
            if i1 = 2 then
              (m_port i0.toNatClampNeg)
            else
              if i1 = 3 then
                (m_next i0.toNatClampNeg)
              else
                if i1 = 4 then
                  (m_first i0.toNatClampNeg)
                else
                  if i1 = 5 then
                    (m_sent i0.toNatClampNeg)
                  else
                    if i1 = 6 then
                      (m_queued i0.toNatClampNeg)
                    else
                      if i1 = 7 then
                        (m_boxed i0.toNatClampNeg)
                      else
                        if i1 = 8 then
                          (m_window i0.toNatClampNeg)
                        else
                          if i1 = 9 then
                            (m_pace i0.toNatClampNeg)
                          else
                            if i1 = 10 then
                              (m_tries i0.toNatClampNeg)
                            else
                              if (FX10_way mF m_sent m_first i0) = 0 then
                                0
                              else
                                (m_timer i0.toNatClampNeg)
def FX10_assembly (mF : (Nat → Int32)) (m_used : (Nat → Int32)) (m_source : (Nat → Int32)) (m_id : (Nat → Int32)) (m_units : (Nat → Int32)) (m_last : (Nat → Int32)) (m_since : (Nat → Int32)) (i0 : Int32) (i1 : Int32) : Int32 :=
  if (FX10_is i0 0 1) = 0 then
    (-1)
  else
    if (FX10_is i1 0 5) = 0 then
      (-1)
    else
      if (m_used i0.toNatClampNeg) = 0 then
        0
      else
        if i1 = 0 then
          1
        else
          if i1 = 1 then
            (m_source i0.toNatClampNeg)
          else
            if i1 = 2 then
              (m_id i0.toNatClampNeg)
            else
              if i1 = 3 then
                (m_units i0.toNatClampNeg)
              else
                if i1 = 4 then
                  (m_last i0.toNatClampNeg)
                else
                  ((mF 5) - (m_since i0.toNatClampNeg))
def FX10_count (mF : (Nat → Int32)) (i0 : Int32) : Int32 :=
  if i0 = 0 then
    (mF 5)
  else
    if i0 = 1 then
      (mF 6)
    else
      if i0 = 2 then
        (mF 7)
      else
        if i0 = 3 then
          (mF 8)
        else
          if i0 = 4 then
            (mF 9)
          else
            if i0 = 5 then
              (mF 10)
            else
              if i0 = 6 then
                (mF 11)
              else
                if i0 = 7 then
                  (mF 4)
                else
                  if i0 = 8 then
                    (mF 12)
                  else
                    (-1)
