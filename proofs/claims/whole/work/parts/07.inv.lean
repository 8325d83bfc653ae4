-- what the class's numbers keep to
def iv_S (fS : Nat → Int32) : Prop := 0 ≤ (fS 3).toInt ∧ (fS 3).toInt < 16 ∧ 0 ≤ (fS 8).toInt ∧ (fS 8).toInt ≤ 64 ∧ 0 ≤ (fS 9).toInt ∧ (fS 9).toInt ≤ 16
def iv_W (fW : Nat → Int32) : Prop := 0 ≤ (fW 3).toInt ∧ (fW 3).toInt < 12
def iv_L (wl : Nat → Int32) : Prop := ∀ k, k < 12 → (wl k).toInt ≤ 41
def iv_T (fT : Nat → Int32) : Prop := 0 ≤ (fT 2).toInt ∧ (fT 2).toInt ≤ 4 ∧ 0 ≤ (fT 4).toInt ∧ (fT 4).toInt ≤ 16
def iv_Ts (fTs : Nat → Nat → Int32) : Prop := ∀ k, k < 6 → iv_T (fTs k)
def iv_Ss (fSs : Nat → Nat → Int32) : Prop := ∀ k, k < 3 → iv_S (fSs k)
def iv_M (fM : Nat → Int32) : Prop := (fM 6).toInt ≤ 32 ∧ 0 ≤ (fM 2).toInt ∧ (fM 2).toInt < 16
def iv_Ms (fMs : Nat → Nat → Int32) : Prop := ∀ k, k < 2 → iv_M (fMs k)
def iv_G (fG : Nat → Int32) : Prop := 0 ≤ (fG 1).toInt ∧ (fG 1).toInt ≤ 1
def iv_fit (fA ao : Nat → Int32) : Prop := 9 ≤ (fA 1).toInt ∧ (fA 1).toInt ≤ 41 ∧ 0 ≤ (ao 3).toInt ∧ (ao 3).toInt < 16 ∧ (¬ ao 6 = 0 → (FX0_unit fA ao).toInt ≤ 7 ∧ 4 * (FX0_unit fA ao).toInt + (fA 1).toInt ≤ 41)
theorem vi_asb {a b c : Int32} {n : Nat} (k : Int) (hk : a.toInt = k) (h : k + b.toInt < 2147483648) (h0 : 0 ≤ k + b.toInt - c.toInt) (h1 : k + b.toInt - c.toInt < n) (hc : 0 ≤ c.toInt) (hn : n ≤ 2147483648 := by omega) : vp_in (a + b - c) n :=
  vp_in_iff.mpr (by rw [tI_sub (by rw [tI_add (by omega) (by omega)]; omega) (by rw [tI_add (by omega) (by omega)]; omega), tI_add (by omega) (by omega)]; omega)
theorem iv_S_e {f g : Nat → Int32} (h : iv_S f) (h3 : g 3 = f 3) (h8 : g 8 = f 8) (h9 : g 9 = f 9) : iv_S g := by
  unfold iv_S; rw [h3, h8, h9]; exact h
theorem rem12 {x : Int32} (h0 : 0 ≤ x.toInt) (h1 : x.toInt < 12) : 0 ≤ (x + 1 - (x + 1) / 12 * 12).toInt ∧ (x + 1 - (x + 1) / 12 * 12).toInt < 12 := by
  rcases sp12 h0 h1 with h | h | h | h | h | h | h | h | h | h | h | h <;> (rw [h]; decide +kernel)
theorem rem12k {x k : Int32} (h0 : 0 ≤ x.toInt) (h1 : x.toInt < 12) (h2 : 0 ≤ k.toInt) (h3 : k.toInt < 12) : 0 ≤ (x + 12 - k - (x + 12 - k) / 12 * 12).toInt ∧ (x + 12 - k - (x + 12 - k) / 12 * 12).toInt < 12 := by
  rcases sp12 h0 h1 with h | h | h | h | h | h | h | h | h | h | h | h <;> rcases sp12 h2 h3 with g | g | g | g | g | g | g | g | g | g | g | g <;> (rw [h, g]; decide +kernel)
theorem nextFrame_lt {fW wl : Nat → Int32} {i0 : Int32} (h : iv_W fW) : (FX8_nextFrame fW wl i0).1 < 12 := by
  have h2 := rem12 h.1 h.2
  have h3 := tc_n (fW 3 + 1 - (fW 3 + 1) / 12 * 12)
  show (fW 3 + 1 - (fW 3 + 1) / 12 * 12).toNatClampNeg < 12
  rw [if_pos h2.1] at h3
  omega
theorem nextFrame_W {fW wl : Nat → Int32} {i0 : Int32} (h : iv_W fW) : iv_W (FX8_nextFrame fW wl i0).2.1 := rem12 h.1 h.2
theorem sendPieceL_1 {rb : Nat → Int32} {i2 i3 : Int32} {u1 u2 : Nat → Int32} {k : Nat} : ∀ (n : Nat) (y9 y8 : Int32) (z : Nat → Nat → Int32), (i3.toInt - y9.toInt).toNat < n → (LX8_sendPiece_88 rb i2 i3 u1 u2 k n y9 y8 z).1 = u1 ∧ (LX8_sendPiece_88 rb i2 i3 u1 u2 k n y9 y8 z).2.1 = u2 := by
  intro n
  induction n with
  | zero => intro y9 y8 z h; omega
  | succ n ih =>
    intro y9 y8 z h
    rw [LX8_sendPiece_88]
    split
    · exact ⟨rfl, rfl⟩
    · rename_i hc
      have hc := iTn hc
      have := tI_hi i3
      have h9 := tI_s (a := y9) (by omega)
      exact ih _ _ _ (by omega)
theorem sendPiece_W {fW wst wl : Nat → Int32} {wr : Nat → Nat → Int32} {rb : Nat → Int32} {i0 i1 i2 i3 i4 : Int32} (h : iv_W fW) (h2 : 0 ≤ i2.toInt := by first | assumption | decide) (h3 : i3.toInt ≤ 32 := by first | assumption | decide) (h4 : i2.toInt ≤ 32 := by first | assumption | decide) : iv_W (FX8_sendPiece fW wst wl wr rb i0 i1 i2 i3 i4).1 := by
  rw [FX8_sendPiece, KX8_sendPiece_9, (sendPieceL_1 128 _ _ _ (by omega)).1]
  exact nextFrame_W h
theorem sendShort_W {fW wl : Nat → Int32} {wr : Nat → Nat → Int32} {i0 i1 i2 : Int32} (h : iv_W fW) : iv_W (FX8_sendShort fW wl wr i0 i1 i2).1 := nextFrame_W (wl := wl) (i0 := 5) h
theorem iv_W_e {f g : Nat → Int32} (h : iv_W f) (h3 : g 3 = f 3) : iv_W g := by
  unfold iv_W; rw [h3]; exact h
theorem sendPayload_W {fW wst wl : Nat → Int32} {wr : Nat → Nat → Int32} {rb : Nat → Int32} {i0 i1 i2 : Int32} (h : iv_W fW) (h2 : i2.toInt ≤ 32) : iv_W (FX8_sendPayload fW wst wl wr rb i0 i1 i2).1 := by
  unfold FX8_sendPayload
  split
  · exact sendShort_W h
  · split
    · exact iv_W_e (sendPiece_W h (by decide) h2 (by decide)) rfl
    · exact iv_W_e (sendPiece_W (sendPiece_W h (by decide) (by decide) (by decide)) (by decide) h2 (by decide)) rfl
theorem sendReset_W {fR sg fW wst wl : Nat → Int32} {wr : Nat → Nat → Int32} {i0 i1 i2 : Int32} (h : iv_W fW) : iv_W (FX6_sendReset fR sg fW wst wl wr i0 i1 i2).2.1 := sendPayload_W h (by decide)
theorem goOn_iv {fS : Nat → Int32} {i0 : Int32} (h : iv_S fS) : iv_S (FX5_goOn fS i0) := by
  unfold FX5_goOn; split <;> exact iv_S_e h rfl rfl rfl
theorem goBack_iv {fS : Nat → Int32} (h : iv_S fS) : iv_S (FX5_goBack fS) := by
  unfold FX5_goBack; split <;> exact iv_S_e h rfl rfl rfl
theorem tick_iv {fS : Nat → Int32} (h : iv_S fS) : iv_S (FX5_tickEndsTimer fS).2 := by
  unfold FX5_tickEndsTimer; (repeat' split) <;> first | exact h | exact iv_S_e h rfl rfl rfl
theorem removeFirstL_1 {i1 x : Int32} : ∀ (n : Nat) (y : Int32) (z : Nat → Int32), (x.toInt - y.toInt).toNat < n → (LX5_removeFirst_7 i1 x n y z).1 = x := by
  intro n
  induction n with
  | zero => intro y z h; omega
  | succ n ih =>
    intro y z h
    rw [LX5_removeFirst_7]
    split
    · rfl
    · rename_i hc
      have hc := iTn hc
      have := tI_hi x
      have h9 := tI_s (a := y) (by omega)
      exact ih _ _ (by omega)
theorem removeFirst_1 {rb : Nat → Int32} {i0 i1 : Int32} (h0 : 0 ≤ i1.toInt) (h2 : i0.toInt ≤ 64 + i1.toInt) (h3 : 0 ≤ i0.toInt) : (FX5_removeFirst rb i0 i1).1 = i0 - i1 := by
  have := tI_hi i1
  have e := tI_sub (a := i0) (b := i1) (by omega) (by omega)
  rw [FX5_removeFirst]
  exact removeFirstL_1 128 0 rb (by rw [e, k0]; omega)
theorem unit_in (fA ao : Nat → Int32) : 0 ≤ (FX0_unit fA ao).toInt ∧ (FX0_unit fA ao).toInt < 128 := and127 _
theorem isWhole_n {fA ao : Nat → Int32} (h : FX0_isWhole fA ao = 0) : ¬ ao 6 = 0 := by
  intro q
  rw [FX0_isWhole, if_pos q] at h
  exact absurd h (by decide)
theorem ack_iv {fS so : Nat → Int32} {i0 : Int32} (h : iv_S fS) : iv_S (FX5_acknowledge fS so i0).1 := by
  obtain ⟨h_a0, h_a1, h_o0, h_o1, h_i0, h_i1⟩ := id h
  unfold FX5_acknowledge
  split
  · exact h
  · rename_i h1
    have h1 := lTn h1
    rw [k1] at h1
    split
    · split
      · exact iv_S_e h rfl rfl rfl
      · have hm := mn_i ((i0 - fS 6) &&& 255) (fS 8)
        have e := removeFirst_1 (rb := so) (i0 := fS 8) (i1 := mn ((i0 - fS 6) &&& 255) (fS 8)) (by omega) (by omega) (by omega)
        have e2 := tI_sub (a := fS 8) (b := mn ((i0 - fS 6) &&& 255) (fS 8)) (by omega) (by omega)
        unfold KX5_acknowledge_85
        (repeat' split) <;> (unfold iv_S; refine ⟨h_a0, h_a1, ?_, ?_, h_i0, h_i1⟩) <;> (show _ ≤ _; first | (show 0 ≤ (FX5_removeFirst so (fS 8) (mn ((i0 - fS 6) &&& 255) (fS 8))).1.toInt; rw [e, e2]; omega) | (show (FX5_removeFirst so (fS 8) (mn ((i0 - fS 6) &&& 255) (fS 8))).1.toInt ≤ 64; rw [e, e2]; omega))
    · exact h
theorem takeInL_1 {fS fD dp : Nat → Int32} {x3 x4 : Int32} : ∀ (n : Nat) (y : Int32) (z : Nat → Int32), (x4.toInt - y.toInt).toNat < n → (LX5_takeIn_44 fS fD dp x3 x4 n y z).1 9 = fS 9 + x4 ∧ (LX5_takeIn_44 fS fD dp x3 x4 n y z).1 3 = fS 3 ∧ (LX5_takeIn_44 fS fD dp x3 x4 n y z).1 8 = fS 8 := by
  intro n
  induction n with
  | zero => intro y z h; omega
  | succ n ih =>
    intro y z h
    rw [LX5_takeIn_44]
    split
    · (repeat' split) <;> exact ⟨rfl, rfl, rfl⟩
    · rename_i hc
      have hc := iTn hc
      have := tI_hi x4
      have h9 := tI_s (a := y) (by omega)
      exact ih _ _ (by omega)
theorem takeIn_iv {fS si fD dp : Nat → Int32} (h : iv_S fS) (h0 : 5 ≤ (fD 3).toInt) (h1 : (fD 3).toInt ≤ 32) : iv_S (FX5_takeIn fS si fD dp).1 := by
  obtain ⟨h_a0, h_a1, h_o0, h_o1, h_i0, h_i1⟩ := id h
  unfold FX5_takeIn
  split
  · split
    · have hm := mn_i (fD 3 - 5) (16 - fS 9)
      have e1 := tI_sc (a := fD 3) 5 k5 (by omega) (by omega)
      have e2 := tI_cs (a := fS 9) 16 k16 (by omega) (by omega)
      obtain ⟨q9, q3, q8⟩ := takeInL_1 (fS := fS) (fD := fD) (dp := dp) (x3 := fD 3 - 5) (x4 := mn (fD 3 - 5) (16 - fS 9)) 128 0 si (by rw [k0]; omega)
      have e3 := tI_add (a := fS 9) (b := mn (fD 3 - 5) (16 - fS 9)) (by omega) (by omega)
      unfold iv_S
      rw [q9, q3, q8, e3]
      omega
    · exact h
  · exact h
theorem follow_iv {fS so si fD dp : Nat → Int32} (h : iv_S fS) (h0 : 5 ≤ (fD 3).toInt) (h1 : (fD 3).toInt ≤ 32) : iv_S (FX5_follow fS so si fD dp).2.1 := by
  have h2 : iv_S (FX5_acknowledge fS so (dp 2)).1 := ack_iv h
  unfold FX5_follow KX5_follow_7
  split
  · exact h2
  · split
    · exact iv_S_e h2 rfl rfl rfl
    · exact takeIn_iv (iv_S_e h2 rfl rfl rfl) h0 h1
theorem lineLengthL_in {si : Nat → Int32} {x : Int32} (hx : 0 ≤ x.toInt) : ∀ (n : Nat) (y : Int32), 0 ≤ y.toInt → (x.toInt - y.toInt).toNat < n → 0 ≤ (LX5_lineLength_12 si x n y).toInt ∧ (LX5_lineLength_12 si x n y).toInt ≤ x.toInt := by
  intro n
  induction n with
  | zero => intro y _ h; omega
  | succ n ih =>
    intro y h0 h
    rw [LX5_lineLength_12]
    split
    · split
      · rename_i q
        rw [q, k7]; omega
      · rw [k0]; omega
    · rename_i hc
      have hc := iTn hc
      have := tI_hi x
      have h9 := tI_s (a := y) (by omega)
      split
      · omega
      · exact ih _ (by omega) (by omega)
theorem lineLength_in {fS si : Nat → Int32} (h : iv_S fS) : 0 ≤ (FX5_lineLength fS si).toInt ∧ (FX5_lineLength fS si).toInt ≤ (fS 9).toInt := by
  obtain ⟨h_a0, h_a1, h_o0, h_o1, h_i0, h_i1⟩ := id h
  have hm := mn_i (fS 9) 7
  rw [k7] at hm
  have := lineLengthL_in (si := si) (x := mn (fS 9) 7) (by omega) 128 0 (by decide) (by rw [k0]; omega)
  unfold FX5_lineLength
  omega
theorem replaceLineL_1 {fS rb : Nat → Int32} {i1 r : Int32} {u : Nat → Int32} : ∀ (n : Nat) (y : Int32) (z : Nat → Int32), (i1.toInt - y.toInt).toNat < n → (LX5_replaceLine_19 fS rb i1 r u n y z).1 = upd (upd fS 9 r) 8 (fS 8 + i1) := by
  intro n
  induction n with
  | zero => intro y z h; omega
  | succ n ih =>
    intro y z h
    rw [LX5_replaceLine_19]
    split
    · rfl
    · rename_i hc
      have hc := iTn hc
      have := tI_hi i1
      have h9 := tI_s (a := y) (by omega)
      exact ih _ _ (by omega)
theorem replaceLine_iv {fS so si rb : Nat → Int32} {i0 i1 : Int32} (h : iv_S fS) (h0 : 0 ≤ i0.toInt) (h1 : i0.toInt ≤ (fS 9).toInt) (h2 : 0 ≤ i1.toInt) (h3 : (fS 8).toInt + i1.toInt ≤ 64) : iv_S (FX5_replaceLine fS so si rb i0 i1).1 := by
  obtain ⟨h_a0, h_a1, h_o0, h_o1, h_i0, h_i1⟩ := id h
  rw [FX5_replaceLine, KX5_replaceLine_10, replaceLineL_1 128 0 so (by rw [k0]; omega), removeFirst_1 h0 (by omega) h_i0]
  have e := tI_sub (a := fS 9) (b := i0) (by omega) (by omega)
  have e2 := tI_add (a := fS 8) (b := i1) (by omega) (by omega)
  refine ⟨h_a0, h_a1, ?_, ?_, ?_, ?_⟩
  · show 0 ≤ (fS 8 + i1).toInt; omega
  · show (fS 8 + i1).toInt ≤ 64; omega
  · show 0 ≤ (fS 9 - i0).toInt; omega
  · show (fS 9 - i0).toInt ≤ 16; omega
theorem nss_in {fS : Nat → Int32} {y : Int32} (h : iv_S fS) (hy : y = FX5_nextSegmentSize fS) : 0 ≤ y.toInt ∧ y.toInt ≤ 8 ∧ ((FX5_onTheWay fS).toInt + y.toInt ≤ 64 ∨ y.toInt = 0) := by
  obtain ⟨h_a0, h_a1, h_o0, h_o1, h_i0, h_i1⟩ := id h
  have hw : 0 ≤ (FX5_onTheWay fS).toInt ∧ (FX5_onTheWay fS).toInt < 256 := and255 _
  have e2 := tI_sub (a := fS 8) (b := FX5_onTheWay fS) (by omega) (by omega)
  rw [hy, FX5_nextSegmentSize, mx_i, mn_i, mn_i, k0, k8, e2]
  omega
theorem sendL_1 {fW wst wl : Nat → Int32} {wr : Nat → Nat → Int32} {fS so : Nat → Int32} {i0 i1 r : Int32} (f : (Nat → Int32) × (Nat → Int32) × (Nat → Int32) × (Nat → Nat → Int32) × (Nat → Int32) → Prop)
    (hf : ∀ z : Nat → Int32, f (LX6_send_59 fW wst wl wr fS so i0 i1 r 1 i1 z)) : ∀ (n : Nat) (y : Int32) (z : Nat → Int32), (i1.toInt - y.toInt).toNat < n → f (LX6_send_59 fW wst wl wr fS so i0 i1 r n y z) := by
  intro n
  induction n with
  | zero => intro y z h; omega
  | succ n ih =>
    intro y z h
    rw [LX6_send_59]
    by_cases hc : i1 ≤ y
    · have := hf z
      rw [LX6_send_59, if_pos (Int32.le_refl i1)] at this
      rw [if_pos hc]
      exact this
    · rw [if_neg hc]
      have hc := iTn hc
      have := tI_hi i1
      have h9 := tI_s (a := y) (by omega)
      exact ih _ _ (by omega)
theorem send_both {fR sg fW wst wl : Nat → Int32} {wr : Nat → Nat → Int32} {fS so : Nat → Int32} {i0 i1 : Int32} (hW : iv_W fW) (hS : iv_S fS) (h0 : 0 ≤ i1.toInt) (h1 : i1.toInt ≤ 8) : iv_W (FX6_send fR sg fW wst wl wr fS so i0 i1).2.1 ∧ iv_S (FX6_send fR sg fW wst wl wr fS so i0 i1).2.2.2.2 := by
  have e5 : ((5 : Int32) + i1).toInt = 5 + i1.toInt := tI_ca 5 k5 (by omega) (by omega)
  unfold FX6_send
  refine sendL_1 (fun q => iv_W q.2.1 ∧ iv_S q.2.2.2.2) ?_ 128 0 _ (by rw [k0]; omega)
  intro z
  rw [LX6_send_59, if_pos (Int32.le_refl i1)]
  unfold KX6_send_107
  split
  · exact ⟨sendPayload_W hW (by omega), goOn_iv hS⟩
  · exact ⟨sendPayload_W hW (by omega), goOn_iv hS⟩
theorem send_W {fR sg fW wst wl : Nat → Int32} {wr : Nat → Nat → Int32} {fS so : Nat → Int32} {i0 i1 : Int32} (hW : iv_W fW) (hS : iv_S fS) (h0 : 0 ≤ i1.toInt) (h1 : i1.toInt ≤ 8) : iv_W (FX6_send fR sg fW wst wl wr fS so i0 i1).2.1 := (send_both hW hS h0 h1).1
theorem send_S {fR sg fW wst wl : Nat → Int32} {wr : Nat → Nat → Int32} {fS so : Nat → Int32} {i0 i1 : Int32} (hW : iv_W fW) (hS : iv_S fS) (h0 : 0 ≤ i1.toInt) (h1 : i1.toInt ≤ 8) : iv_S (FX6_send fR sg fW wst wl wr fS so i0 i1).2.2.2.2 := (send_both hW hS h0 h1).2
theorem put_len {fH an : Nat → Int32} {i0 : Int32} (h : (fH 2).toInt = 0) : ((FX4_put fH an i0).1 2).toInt = 1 := by
  show (fH 2 + 1).toInt = 1
  rw [tI_s (by omega)]; omega
theorem put_len2 {fH an : Nat → Int32} {i0 : Int32} {k : Int} (h : (fH 2).toInt = k) (hk : k < 100) : ((FX4_put fH an i0).1 2).toInt = k + 1 := by
  show (fH 2 + 1).toInt = _
  rw [tI_s (by omega)]; omega
theorem putTextL_len {fT tb : Nat → Int32} (hl : (fT 4).toInt ≤ 16) : ∀ (n : Nat) (y : Int32) (z z2 : Nat → Int32), 0 ≤ y.toInt → y.toInt ≤ 16 → ((fT 4).toInt - y.toInt).toNat < n → (z 2).toInt = 1 + y.toInt → 1 ≤ ((LX4_putText_37 fT tb n y z z2).1 2).toInt ∧ ((LX4_putText_37 fT tb n y z z2).1 2).toInt ≤ 17 := by
  intro n
  induction n with
  | zero => intro y z z2 _ _ h; omega
  | succ n ih =>
    intro y z z2 h0 h1 h hz
    rw [LX4_putText_37]
    split
    · show 1 ≤ (z 2).toInt ∧ (z 2).toInt ≤ 17
      omega
    · rename_i hc
      have hc := iTn hc
      have h9 := tI_s (a := y) (by omega)
      unfold KX4_putText_52
      exact ih _ _ _ (by omega) (by omega) (by omega) (by rw [put_len2 hz (by omega)]; omega)
theorem putText_len {fH an fT tb : Nat → Int32} (h : (fH 2).toInt = 0) (hl : (fT 4).toInt ≤ 16) : 1 ≤ ((FX4_putText fH an fT tb).1 2).toInt ∧ ((FX4_putText fH an fT tb).1 2).toInt ≤ 17 := by
  unfold FX4_putText
  split
  · show 1 ≤ ((FX4_put fH an 53).1 2).toInt ∧ ((FX4_put fH an 53).1 2).toInt ≤ 17
    rw [put_len h]; omega
  · unfold KX4_putText_32
    exact putTextL_len hl 128 0 _ _ (by decide) (by decide) (by rw [k0]; omega) (by rw [put_len h, k0]; omega)
theorem putTextN_len {fH an : Nat → Int32} (h : (fH 2).toInt = 0) : 1 ≤ ((FX4_putTextN fH an).1 2).toInt ∧ ((FX4_putTextN fH an).1 2).toInt ≤ 17 := by
  have hq : ((FX4_putTextN fH an).1 2).toInt = 1 := put_len h
  omega
theorem answerTo_len {fH : Nat → Int32} {fTs tls tbs : Nat → Nat → Int32} {an rb : Nat → Int32} {i0 : Int32} (h : iv_Ts fTs) : 1 ≤ ((FX4_answerTo fH fTs tls tbs an rb i0).1 2).toInt ∧ ((FX4_answerTo fH fTs tls tbs an rb i0).1 2).toInt ≤ 18 := by
  unfold FX4_answerTo
  split
  · show 1 ≤ ((FX4_put _ _ 10).1 2).toInt ∧ ((FX4_put _ _ 10).1 2).toInt ≤ 18
    rw [put_len2 (k := 1) (put_len rfl) (by omega)]; omega
  · split
    · rename_i hf
      have := putText_len (fH := upd fH 2 0) (an := an) (fT := fTs (FX4_find (upd fH 2 0) fTs tls rb i0)) (tb := tbs (FX4_find (upd fH 2 0) fTs tls rb i0)) rfl (h _ hf).2.2.2
      show 1 ≤ ((FX4_put _ _ 10).1 2).toInt ∧ ((FX4_put _ _ 10).1 2).toInt ≤ 18
      rw [put_len2 rfl (by omega)]; omega
    · have hq : ((FX4_putTextN (upd fH 2 0) an).1 2).toInt = 1 := put_len (fH := upd fH 2 0) rfl
      show 1 ≤ ((FX4_put _ _ 10).1 2).toInt ∧ ((FX4_put _ _ 10).1 2).toInt ≤ 18
      rw [put_len2 hq (by omega)]; omega
theorem iv_M_begin {fM : Nat → Int32} {i0 i1 : Int32} (h0 : 0 ≤ i0.toInt) (h1 : i0.toInt < 16) : iv_M (FX1_begin fM i0 i1) := ⟨by show (-1 : Int32).toInt ≤ 32; decide, h0, h1⟩
theorem iv_Ms_up {fMs : Nat → Nat → Int32} {k : Nat} {g : Nat → Int32} (h : iv_Ms fMs) (hg : iv_M g) : iv_Ms (va_up fMs k g) := by
  intro j hj
  unfold va_up
  split
  · exact hg
  · exact h j hj
theorem placeFor_iv {fG : Nat → Int32} {fMs : Nat → Nat → Int32} {fA ao : Nat → Int32} (h : iv_G fG) (hM : iv_Ms fMs) (h0 : 0 ≤ (ao 3).toInt) (h1 : (ao 3).toInt < 16) : 0 ≤ (FX3_placeFor fG fMs fA ao).1.toInt ∧ (FX3_placeFor fG fMs fA ao).1.toInt < 2 ∧ iv_Ms (FX3_placeFor fG fMs fA ao).2.2 ∧ iv_G (FX3_placeFor fG fMs fA ao).2.1 := by
  have e := tI_cs (a := fG 1) 1 k1 (by have := h.1; have := h.2; omega) (by have := h.1; have := h.2; omega)
  obtain ⟨a0, a1⟩ := id h
  unfold FX3_placeFor
  split
  · split
    · split
      · split
        · refine ⟨?_, ?_, iv_Ms_up hM (iv_M_begin h0 h1), ?_, ?_⟩ <;> first | exact (by decide : (0 : Int) ≤ (0 : Int32).toInt) | exact (by decide : (0 : Int32).toInt < 2) | exact (by decide : (0 : Int32).toInt ≤ 1) | exact (by decide : (0 : Int) ≤ (1 : Int32).toInt) | exact (by decide : (1 : Int32).toInt < 2) | exact (by decide : (1 : Int32).toInt ≤ 1)
        · refine ⟨?_, ?_, iv_Ms_up hM (iv_M_begin h0 h1), ?_, ?_⟩ <;> first | exact (by decide : (0 : Int) ≤ (0 : Int32).toInt) | exact (by decide : (0 : Int32).toInt < 2) | exact (by decide : (0 : Int32).toInt ≤ 1) | exact (by decide : (0 : Int) ≤ (1 : Int32).toInt) | exact (by decide : (1 : Int32).toInt < 2) | exact (by decide : (1 : Int32).toInt ≤ 1)
      · split
        · refine ⟨?_, ?_, iv_Ms_up hM (iv_M_begin h0 h1), ?_, ?_⟩ <;> first | exact (by decide : (0 : Int) ≤ (0 : Int32).toInt) | exact (by decide : (0 : Int32).toInt < 2) | exact (by decide : (0 : Int32).toInt ≤ 1) | exact (by decide : (0 : Int) ≤ (1 : Int32).toInt) | exact (by decide : (1 : Int32).toInt < 2) | exact (by decide : (1 : Int32).toInt ≤ 1)
        · refine ⟨?_, ?_, iv_Ms_up hM (iv_M_begin h0 h1), ?_, ?_⟩
          · show 0 ≤ (1 - fG 1).toInt; omega
          · show (1 - fG 1).toInt < 2; omega
          · show 0 ≤ (1 - fG 1).toInt; omega
          · show (1 - fG 1).toInt ≤ 1; omega
    · refine ⟨?_, ?_, hM, h⟩ <;> first | exact (by decide : (0 : Int) ≤ (0 : Int32).toInt) | exact (by decide : (0 : Int32).toInt < 2) | exact (by decide : (0 : Int32).toInt ≤ 1) | exact (by decide : (0 : Int) ≤ (1 : Int32).toInt) | exact (by decide : (1 : Int32).toInt < 2) | exact (by decide : (1 : Int32).toInt ≤ 1)
  · refine ⟨?_, ?_, hM, h⟩ <;> first | exact (by decide : (0 : Int) ≤ (0 : Int32).toInt) | exact (by decide : (0 : Int32).toInt < 2) | exact (by decide : (0 : Int32).toInt ≤ 1) | exact (by decide : (0 : Int) ≤ (1 : Int32).toInt) | exact (by decide : (1 : Int32).toInt < 2) | exact (by decide : (1 : Int32).toInt ≤ 1)
theorem reach_i {fA ao : Nat → Int32} (h9 : 9 ≤ (fA 1).toInt) (hl : (fA 1).toInt ≤ 41) : (FX0_reach fA ao).toInt = 4 * (FX0_unit fA ao).toInt + (fA 1).toInt - 9 := by
  obtain ⟨u0, u1⟩ := unit_in fA ao
  have e1 : (FX0_size fA).toInt = (fA 1).toInt - 9 := tI_sc 9 k9 (by omega) (by omega)
  have e2 : ((4 : Int32) * FX0_unit fA ao).toInt = 4 * (FX0_unit fA ao).toInt := tI_cm 4 k4 (by omega) (by omega)
  rw [FX0_reach, tI_add (by omega) (by omega), e1, e2]
  omega
theorem size_i {fA : Nat → Int32} (h9 : 0 ≤ (fA 1).toInt) (hl : (fA 1).toInt ≤ 44) : (FX0_size fA).toInt = (fA 1).toInt - 9 := tI_sc 9 k9 (by omega) (by omega)
theorem putL_iv {fM fA ao : Nat → Int32} {x : Int32} (h : iv_M fM) (h9 : 9 ≤ (fA 1).toInt) (hl : (fA 1).toInt ≤ 41) (hr : 4 * (FX0_unit fA ao).toInt + (fA 1).toInt ≤ 41) : ∀ (n : Nat) (y : Int32) (z : Nat → Int32), ((fA 1).toInt - 9 - y.toInt).toNat < n → iv_M (LX1_put_9 fM fA ao x n y z).1 := by
  have er := reach_i (ao := ao) h9 hl
  intro n
  induction n with
  | zero => intro y z h; omega
  | succ n ih =>
    intro y z hn
    rw [LX1_put_9]
    split
    · (repeat' split) <;> first | exact h | exact ⟨by show (FX0_reach fA ao).toInt ≤ 32; omega, h.2.1, h.2.2⟩
    · rename_i hc
      have hc := iTn hc
      rw [size_i (by omega) (by omega)] at hc
      have h9 := tI_s (a := y) (by omega)
      exact ih _ _ (by omega)
theorem put_iv {fM mo fA ao : Nat → Int32} (h : iv_M fM) (h9 : 9 ≤ (fA 1).toInt) (hl : (fA 1).toInt ≤ 41) (hu : (FX0_unit fA ao).toInt ≤ 7) (hr : 4 * (FX0_unit fA ao).toInt + (fA 1).toInt ≤ 41) : iv_M (FX1_put fM mo fA ao).1 := by
  unfold FX1_put
  exact putL_iv h h9 hl hr 128 0 mo (by rw [k0]; omega)
def iv_A (fA : Nat → Int32) : Prop := 0 ≤ (fA 1).toInt ∧ (fA 1).toInt ≤ 44
def iv_O (ao : Nat → Int32) : Prop := ∀ k, 0 ≤ (ao k).toInt
theorem iv_Ss_up {fSs : Nat → Nat → Int32} {k : Nat} {g : Nat → Int32} (h : iv_Ss fSs) (hg : iv_S g) : iv_Ss (va_up fSs k g) := by
  intro j hj
  unfold va_up
  split
  · exact hg
  · exact h j hj
theorem isText_in {x : Int32} (h : ¬ FX9_isText x = 0) : 0 ≤ x.toInt ∧ x.toInt < 6 := by
  unfold FX9_isText at h
  split at h
  · exact absurd rfl h
  · rename_i q
    split at h
    · exact absurd rfl h
    · rename_i q2
      have q := lTn q
      have q2 := iTn q2
      rw [k0] at q
      rw [k6] at q2
      exact ⟨q, q2⟩
theorem isSegment_in {fD : Nat → Int32} (h : ¬ FX2_isSegment fD = 0) : 5 ≤ (fD 3).toInt := by
  unfold FX2_isSegment at h
  split at h
  · split at h
    · exact absurd rfl h
    · rename_i q
      have q := lTn q
      rw [k5] at q
      exact q
  · exact absurd rfl h
theorem fillL_1 {fD rb : Nat → Int32} {i0 i1 i2 i3 : Int32} : ∀ (n : Nat) (y : Int32) (z : Nat → Int32), (i3.toInt - y.toInt).toNat < n → (LX2_fill_19 fD rb i0 i1 i2 i3 n y z).1 = upd (upd (upd fD 1 i0) 2 i1) 3 i3 := by
  intro n
  induction n with
  | zero => intro y z h; omega
  | succ n ih =>
    intro y z h
    rw [LX2_fill_19]
    split
    · rfl
    · rename_i hc
      have hc := iTn hc
      have := tI_hi i3
      have h9 := tI_s (a := y) (by omega)
      exact ih _ _ (by omega)
theorem fill_1 {fD dp rb : Nat → Int32} {i0 i1 i2 i3 : Int32} (h : i3.toInt ≤ 32) : (FX2_fill fD dp rb i0 i1 i2 i3).1 = upd (upd (upd fD 1 i0) 2 i1) 3 i3 := by
  unfold FX2_fill
  exact fillL_1 128 0 dp (by rw [k0]; omega)
theorem isFit_in {fA ao : Nat → Int32} (hO : iv_O ao) (h : ¬ FX0_isFit fA ao = 0) : 0 ≤ (ao 3).toInt ∧ (ao 3).toInt < 16 := by
  refine ⟨hO 3, ?_⟩
  unfold FX0_isFit at h
  (repeat' split at h) <;> first | exact absurd rfl h | (rename_i q _ _ _; have q := iTn q; rw [k16] at q; exact q) | (rename_i q _; have q := iTn q; rw [k16] at q; exact q) | (rename_i q _ _; have q := iTn q; rw [k16] at q; exact q) | (rename_i q _ _ _ _; have q := iTn q; rw [k16] at q; exact q) | (rename_i q _ _ _ _ _; have q := iTn q; rw [k16] at q; exact q)
theorem frag_in {fA ao : Nat → Int32} (h9 : 9 ≤ (fA 1).toInt) (hl : (fA 1).toInt ≤ 41) (h : ¬ FX0_isFitFragment fA ao = 0) : (FX0_unit fA ao).toInt ≤ 7 ∧ 4 * (FX0_unit fA ao).toInt + (fA 1).toInt ≤ 41 := by
  have er := reach_i (ao := ao) h9 hl
  unfold FX0_isFitFragment at h
  split at h
  · exact absurd rfl h
  · rename_i q
    have q := iTn q
    rw [k8] at q
    split at h
    · rename_i q2
      have q2 := iT q2
      rw [k32] at q2
      omega
    · exact absurd rfl h
theorem isFitDat_in {fA ao : Nat → Int32} (hl : (fA 1).toInt ≤ 41) (h : ¬ FX0_isFitDatagram fA ao = 0) : 9 ≤ (fA 1).toInt ∧ (¬ ao 6 = 0 → (FX0_unit fA ao).toInt ≤ 7 ∧ 4 * (FX0_unit fA ao).toInt + (fA 1).toInt ≤ 41) := by
  unfold FX0_isFitDatagram at h
  split at h
  · exact absurd rfl h
  · rename_i q
    have q := lTn q
    rw [k9] at q
    refine ⟨q, fun hw => ?_⟩
    split at h
    · split at h
      · exact absurd rfl h
      · have e : FX0_isWhole fA ao = 0 := by rw [FX0_isWhole, if_neg hw]
        rw [if_pos e] at h
        split at h
        · exact absurd rfl h
        · rename_i q2
          exact frag_in q hl q2
    · exact absurd rfl h
theorem isFit_dat {fA ao : Nat → Int32} (hO : iv_O ao) (h : ¬ FX0_isFit fA ao = 0) (h3 : ao 2 = 3) : iv_fit fA ao := by
  obtain ⟨a0, a1⟩ := isFit_in hO h
  have hd : (fA 1).toInt ≤ 41 ∧ ¬ FX0_isFitDatagram fA ao = 0 := by
    unfold FX0_isFit at h
    split at h
    · exact absurd rfl h
    · split at h
      · rename_i q
        refine ⟨by have q := iT q; rw [k41] at q; exact q, ?_⟩
        rw [h3] at h
        rw [if_neg (show ¬ (3 : Int32) = 1 by decide), if_neg (show ¬ (3 : Int32) = 2 by decide)] at h
        intro e
        rw [if_pos e] at h
        (repeat' split at h) <;> exact absurd rfl h
      · exact absurd rfl h
  obtain ⟨b0, b1⟩ := isFitDat_in hd.1 hd.2
  exact ⟨b0, hd.1, a0, a1, b1⟩
theorem completes_D {fG : Nat → Int32} {fMs mos : Nat → Nat → Int32} {fA ao fD dp : Nat → Int32} (hG : iv_G fG) (hM : iv_Ms fMs) (hf : iv_fit fA ao) (h : ¬ (FX3_completes fG fMs mos fA ao fD dp).1 = 0) :
    0 ≤ ((FX3_completes fG fMs mos fA ao fD dp).2.2.2.2.1 1).toInt ∧ ((FX3_completes fG fMs mos fA ao fD dp).2.2.2.2.1 1).toInt < 16 ∧ ((FX3_completes fG fMs mos fA ao fD dp).2.2.2.2.1 3).toInt ≤ 32 := by
  obtain ⟨h9, hl, a0, a1, hfr⟩ := hf
  obtain ⟨r0, r1, hM2, hG2⟩ := placeFor_iv (fA := fA) hG hM a0 a1
  by_cases hw : FX0_isWhole fA ao = 0
  · obtain ⟨hu, hr⟩ := hfr (isWhole_n hw)
    rw [FX3_completes, if_pos hw, KX3_completes_42] at h ⊢
    by_cases hc : FX1_clashesWith ((FX3_placeFor fG fMs fA ao).2.2 (FX3_placeFor fG fMs fA ao).1.toNatClampNeg) fA ao = 0
    · rw [if_pos hc, KX3_completes_64] at h ⊢
      have hk : (FX3_placeFor fG fMs fA ao).1.toNatClampNeg < 2 := by
        have := tc_n (FX3_placeFor fG fMs fA ao).1
        rw [if_pos r0] at this
        omega
      have h3 := put_iv (mo := mos (FX3_placeFor fG fMs fA ao).1.toNatClampNeg) (hM2 _ hk) h9 hl hu hr
      split at h
      · exact absurd rfl h
      · rename_i q
        rw [if_neg q, KX3_completes_99]
        show 0 ≤ ((FX2_fill _ _ _ _ _ _ _).1 1).toInt ∧ ((FX2_fill _ _ _ _ _ _ _).1 1).toInt < 16 ∧ ((FX2_fill _ _ _ _ _ _ _).1 3).toInt ≤ 32
        rw [fill_1 h3.1]
        exact ⟨h3.2.1, h3.2.2, h3.1⟩
    · rw [if_neg hc] at h
      exact absurd rfl h
  · rw [FX3_completes, if_neg hw, KX3_completes_31]
    have es := size_i (fA := fA) (by omega) (by omega)
    show 0 ≤ ((FX2_fill _ _ _ _ _ _ _).1 1).toInt ∧ ((FX2_fill _ _ _ _ _ _ _).1 1).toInt < 16 ∧ ((FX2_fill _ _ _ _ _ _ _).1 3).toInt ≤ 32
    rw [fill_1 (by omega)]
    refine ⟨a0, a1, ?_⟩
    show (FX0_size fA).toInt ≤ 32
    omega
theorem pushL_iv {fR wst so si : Nat → Int32} : ∀ (n : Nat) (y4 y3 y2 : Int32) (sg fW wl : Nat → Int32) (wr : Nat → Nat → Int32) (fS : Nat → Int32), iv_W fW → iv_S fS → y3 = FX5_nextSegmentSize fS → 0 ≤ y4.toInt → (64 - y4.toInt).toNat < n → iv_W (LX6_push_10 fR wst so si n y4 y3 y2 sg fW wl wr fS).2.2.1 ∧ iv_S (LX6_push_10 fR wst so si n y4 y3 y2 sg fW wl wr fS).2.2.2.2.2 := by
  intro n
  induction n with
  | zero => intro y4 y3 y2 sg fW wl wr fS _ _ _ _ h; omega
  | succ n ih =>
    intro y4 y3 y2 sg fW wl wr fS hW hS hy h0 h
    have h9 : iv_S (upd fS 9 0) := ⟨hS.1, hS.2.1, hS.2.2.1, hS.2.2.2.1, by show 0 ≤ (0 : Int32).toInt; decide, by show (0 : Int32).toInt ≤ 16; decide⟩
    rw [LX6_push_10]
    split
    · split
      · exact ⟨hW, hS⟩
      · obtain ⟨q1, q2⟩ := send_both (fR := fR) (sg := sg) (wst := wst) (wl := wl) (wr := wr) (so := so) (i0 := 17) (i1 := 0) hW h9 (by decide) (by decide)
        exact ⟨q1, iv_S_e q2 rfl rfl rfl⟩
    · rename_i hc
      have hc := iTn hc
      rw [k64] at hc
      split
      · split
        · exact ⟨hW, hS⟩
        · obtain ⟨q1, q2⟩ := send_both (fR := fR) (sg := sg) (wst := wst) (wl := wl) (wr := wr) (so := so) (i0 := 17) (i1 := 0) hW h9 (by decide) (by decide)
          exact ⟨q1, iv_S_e q2 rfl rfl rfl⟩
      · obtain ⟨g0, g1, g2⟩ := nss_in hS hy
        obtain ⟨q1, q2⟩ := send_both (fR := fR) (sg := sg) (wst := wst) (wl := wl) (wr := wr) (so := so) (i0 := 16) (i1 := y3) hW hS g0 g1
        have e4 := tI_s (a := y4) (by omega)
        unfold KX6_push_26
        exact ih _ _ _ _ _ _ _ _ q1 q2 rfl (by omega) (by omega)
theorem push_iv {fR sg fW wst wl : Nat → Int32} {wr : Nat → Nat → Int32} {fS so si : Nat → Int32} (hW : iv_W fW) (hS : iv_S fS) : iv_W (FX6_push fR sg fW wst wl wr fS so si).2.2.1 ∧ iv_S (FX6_push fR sg fW wst wl wr fS so si).2.2.2.2.2 := by
  unfold FX6_push
  exact pushL_iv 128 0 _ _ _ _ _ _ _ hW hS rfl (by decide) (by decide)
theorem runTimer_iv {fR sg fW wst wl : Nat → Int32} {wr : Nat → Nat → Int32} {fS so si : Nat → Int32} (hW : iv_W fW) (hS : iv_S fS) : iv_W (FX6_runTimer fR sg fW wst wl wr fS so si).2.2.1 ∧ iv_S (FX6_runTimer fR sg fW wst wl wr fS so si).2.2.2.2.2 := by
  have h1 : iv_S (FX5_tickEndsTimer fS).2 := tick_iv hS
  unfold FX6_runTimer KX6_runTimer_1
  split
  · exact ⟨hW, h1⟩
  · split
    · have h2 := goBack_iv h1
      unfold KX6_runTimer_39
      split
      · unfold KX6_runTimer_65
        dsimp only
        exact ⟨send_W hW h2 (by decide) (by decide), send_S hW h2 (by decide) (by decide)⟩
      · unfold KX6_runTimer_73
        dsimp only
        exact ⟨(push_iv hW h2).1, (push_iv hW h2).2⟩
    · unfold KX6_runTimer_29
      dsimp only
      exact ⟨sendReset_W hW, iv_S_e h1 rfl rfl rfl⟩
theorem readL_iv {fTs tls tbs : Nat → Nat → Int32} (hT : iv_Ts fTs) : ∀ (n : Nat) (y : Int32) (fR fH an fS so si : Nat → Int32), iv_S fS → 0 ≤ y.toInt → (16 - y.toInt).toNat < n → iv_S (LX6_read_2 fTs tls tbs n y fR fH an fS so si).2.2.2.1 := by
  intro n
  induction n with
  | zero => intro y fR fH an fS so si _ _ h; omega
  | succ n ih =>
    intro y fR fH an fS so si hS h0 h
    rw [LX6_read_2]
    split
    · exact hS
    · rename_i hc
      have hc := iTn hc
      rw [k16] at hc
      split
      · exact hS
      · have ha := answerTo_len (fH := fH) (tls := tls) (tbs := tbs) (an := an) (rb := si) (i0 := FX5_lineLength fS si) hT
        have hl := lineLength_in (si := si) hS
        have e := tI_add (a := fS 8) (b := (FX4_answerTo fH fTs tls tbs an si (FX5_lineLength fS si)).1 2) (by have := hS.2.2.1; have := hS.2.2.2.1; omega) (by have := hS.2.2.1; have := hS.2.2.2.1; omega)
        have e4 := tI_s (a := y) (by omega)
        unfold KX6_read_27
        split
        · rename_i q
          have q := iT q
          rw [k64, e] at q
          unfold KX6_read_64
          exact ih _ _ _ _ _ _ _ (replaceLine_iv hS hl.1 hl.2 (by omega) q) (by omega) (by omega)
        · exact hS
theorem read_iv {fR fH : Nat → Int32} {fTs tls tbs : Nat → Nat → Int32} {an fS so si : Nat → Int32} (hT : iv_Ts fTs) (hS : iv_S fS) : iv_S (FX6_read fR fH fTs tls tbs an fS so si).2.2.2.1 := by
  unfold FX6_read
  exact readL_iv hT 128 0 _ _ _ _ _ _ hS (by decide) (by decide)

