-- what the numbers keep to, over arrive and tick
theorem begin_iv {fS fD dp : (Nat → Int32)} {i0 : Int32} (a0 : 0 ≤ (fD 1).toInt) (a1 : (fD 1).toInt < 16) : iv_S (FX5_begin fS fD dp i0) := ⟨a0, a1, by show (0 : Int) ≤ (0 : Int32).toInt; decide, by show (0 : Int32).toInt ≤ 64; decide, by show (0 : Int) ≤ (0 : Int32).toInt; decide, by show (0 : Int32).toInt ≤ 16; decide⟩
theorem take87_iv {fR : (Nat → Int32)} {fSs sos sis : (Nat → Nat → Int32)} {sg fW wst wl : (Nat → Int32)} {wr : (Nat → Nat → Int32)} {fH : (Nat → Int32)} {fTs tls tbs : (Nat → Nat → Int32)} {aC fD dp : (Nat → Int32)} {n : Nat} {w : Int32 × (Nat → Int32) × (Nat → Int32) × (Nat → Int32)} (hW : iv_W fW) (hS : iv_Ss fSs) (hT : iv_Ts fTs) (hw : iv_S w.2.1) : iv_Ss (KX6_take_87 fR fSs sos sis sg fW wst wl wr fH fTs tls tbs aC fD dp n w).2.1 := by
  unfold KX6_take_87
  split
  · exact iv_Ss_up hS hw
  · split
    · split
      · exact iv_Ss_up hS hw
      · exact iv_Ss_up hS (send_S (i1 := 0) hW hw (by decide) (by decide))
    · unfold KX6_take_106 KX6_take_111
      have hr := read_iv (fR := fR) (fH := fH) (fTs := fTs) (tls := tls) (tbs := tbs) (an := aC) (fS := w.2.1) (so := w.2.2.1) (si := w.2.2.2) hT hw
      have hp := push_iv (fR := (FX6_read fR fH fTs tls tbs aC w.2.1 w.2.2.1 w.2.2.2).1) (sg := sg) (wst := wst) (wl := wl) (wr := wr) (so := (FX6_read fR fH fTs tls tbs aC w.2.1 w.2.2.1 w.2.2.2).2.2.2.2.1) (si := (FX6_read fR fH fTs tls tbs aC w.2.1 w.2.2.1 w.2.2.2).2.2.2.2.2) hW hr
      split
      · exact iv_Ss_up hS hp.2
      · split
        · exact iv_Ss_up hS (send_S (i1 := 0) hp.1 hp.2 (by decide) (by decide))
        · exact iv_Ss_up hS hp.2
theorem take_iv {fR : (Nat → Int32)} {fSs sos sis : (Nat → Nat → Int32)} {sg fW wst wl : (Nat → Int32)} {wr : (Nat → Nat → Int32)} {fH : (Nat → Int32)} {fTs tls tbs : (Nat → Nat → Int32)} {aC fD dp : (Nat → Int32)} {tm : Int32} (hW : iv_W fW) (hS : iv_Ss fSs) (hT : iv_Ts fTs) (a0 : 0 ≤ (fD 1).toInt) (a1 : (fD 1).toInt < 16) (h5 : 5 ≤ (fD 3).toInt) (h32 : (fD 3).toInt ≤ 32) : iv_Ss (FX6_take fR fSs sos sis sg fW wst wl wr fH fTs tls tbs aC fD dp tm).2.1 := by
  unfold FX6_take
  split
  · rename_i hn
    have hS1 := hS _ hn
    split
    · split
      · split
        · exact hS
        · exact take87_iv hW hS hT (follow_iv hS1 h5 h32)
      · exact iv_Ss_up hS (send_S (i1 := 0) hW hS1 (by decide) (by decide))
    · split
      · exact iv_Ss_up hS (iv_S_e hS1 rfl rfl rfl)
      · exact hS
  · unfold FX6_meetStranger KX6_take_22
    split
    · split
      · exact hS
      · split
        · split
          · split
            · exact iv_Ss_up hS (send_S (i1 := 0) hW (begin_iv a0 a1) (by decide) (by decide))
            · exact hS
          · exact hS
        · exact hS
    · exact hS
theorem completes_iv {fG : (Nat → Int32)} {fMs mos : (Nat → Nat → Int32)} {fA ao fD dp : (Nat → Int32)} (hG : iv_G fG) (hM : iv_Ms fMs) (hf : iv_fit fA ao) : iv_Ms (FX3_completes fG fMs mos fA ao fD dp).2.2.1 := by
  obtain ⟨h9, hl, a0, a1, hfr⟩ := hf
  obtain ⟨r0, r1, hM2, hG2⟩ := placeFor_iv (fA := fA) hG hM a0 a1
  unfold FX3_completes
  by_cases hw : FX0_isWhole fA ao = 0
  · obtain ⟨hu, hr⟩ := hfr (isWhole_n hw)
    have hk : (FX3_placeFor fG fMs fA ao).1.toNatClampNeg < 2 := by
      have := tc_n (FX3_placeFor fG fMs fA ao).1
      rw [if_pos r0] at this
      omega
    rw [if_pos hw]
    unfold KX3_completes_42
    split
    · have h3 := put_iv (mo := mos (FX3_placeFor fG fMs fA ao).1.toNatClampNeg) (hM2 _ hk) h9 hl hu hr
      unfold KX3_completes_64
      split
      · exact iv_Ms_up hM2 h3
      · exact iv_Ms_up hM2 h3
    · exact iv_Ms_up hM2 (hM2 _ hk)
  · rw [if_neg hw]
    exact hM
theorem gC_iv {fM : (Nat → Int32)} (h : iv_M fM) : iv_M (gC fM) := by
  unfold gC
  split <;> exact h
theorem tick26_iv {fG : (Nat → Int32)} {sos sis : (Nat → Nat → Int32)} {wst : (Nat → Int32)} {i0 x : Int32} : ∀ (n : Nat) (y : Int32) (fZ : (Nat → Int32)) (fMs : (Nat → Nat → Int32)) (fR : (Nat → Int32)) (fSs : (Nat → Nat → Int32)) (sg fW wl : (Nat → Int32)) (wr : (Nat → Nat → Int32)), iv_W fW → iv_Ss fSs → iv_Ms fMs → iv_Ss (LX9_tick_26 fG sos sis wst i0 x n y fZ fMs fR fSs sg fW wl wr).2.2.2.2.1 ∧ iv_Ms (LX9_tick_26 fG sos sis wst i0 x n y fZ fMs fR fSs sg fW wl wr).2.2.1 := by
  intro n
  induction n with
  | zero =>
    intro y fZ fMs fR fSs sg fW wl wr _ _ _
    refine ⟨fun k _ => ⟨?_, ?_, ?_, ?_, ?_, ?_⟩, fun k _ => ⟨?_, ?_, ?_⟩⟩
    · show (0 : Int) ≤ (0 : Int32).toInt; decide
    · show (0 : Int32).toInt < 16; decide
    · show (0 : Int) ≤ (0 : Int32).toInt; decide
    · show (0 : Int32).toInt ≤ 64; decide
    · show (0 : Int) ≤ (0 : Int32).toInt; decide
    · show (0 : Int32).toInt ≤ 16; decide
    · show (0 : Int32).toInt ≤ 32; decide
    · show (0 : Int) ≤ (0 : Int32).toInt; decide
    · show (0 : Int32).toInt < 16; decide
  | succ n ih =>
    intro y fZ fMs fR fSs sg fW wl wr hW hS hM
    rw [LX9_tick_26]
    by_cases q : i0 ≤ y
    · rw [if_pos q]; exact ⟨hS, hM⟩
    · rw [if_neg q]
      unfold KX9_tick_45 KX9_tick_71 KX9_tick_71b KX9_tick_71c
      have h0 := runTimer_iv (fR := fR) (sg := sg) (wst := wst) (wl := wl) (wr := wr) (so := sos 0) (si := sis 0) hW (hS 0 (by omega))
      generalize FX6_runTimer fR sg fW wst wl wr (fSs 0) (sos 0) (sis 0) = c0 at h0 ⊢
      have h1 := runTimer_iv (fR := c0.1) (sg := c0.2.1) (wst := wst) (wl := c0.2.2.2.1) (wr := c0.2.2.2.2.1) (so := sos 1) (si := sis 1) h0.1 (hS 1 (by omega))
      generalize FX6_runTimer c0.1 c0.2.1 c0.2.2.1 wst c0.2.2.2.1 c0.2.2.2.2.1 (fSs 1) (sos 1) (sis 1) = c1 at h1 ⊢
      have h2 := runTimer_iv (fR := c1.1) (sg := c1.2.1) (wst := wst) (wl := c1.2.2.2.1) (wr := c1.2.2.2.2.1) (so := sos 2) (si := sis 2) h1.1 (hS 2 (by omega))
      generalize FX6_runTimer c1.1 c1.2.1 c1.2.2.1 wst c1.2.2.2.1 c1.2.2.2.2.1 (fSs 2) (sos 2) (sis 2) = c2 at h2 ⊢
      exact ih _ _ _ _ _ _ _ _ _ h2.1 (iv_Ss_up (iv_Ss_up (iv_Ss_up hS h0.2) h1.2) h2.2) (by rw [grow_eq]; exact iv_Ms_up (iv_Ms_up hM (gC_iv (hM 0 (by omega)))) (gC_iv (hM 1 (by omega))))
theorem RF_L {fW wl : (Nat → Int32)} {wr : (Nat → Nat → Int32)} {mF out ol : (Nat → Int32)} (h : R_F fW wl wr mF out ol) : iv_L wl := by
  obtain ⟨a0, a1, a4, a5, ak⟩ := h
  intro r hr
  obtain ⟨b0, b1, b2, _⟩ := ak (((fW 3).toInt.toNat + 12 - r) % 12) (Nat.mod_lt _ (by omega))
  have e : r12 fW (((fW 3).toInt.toNat + 12 - r) % 12) = r := by
    unfold r12
    omega
  rw [e] at b0
  rw [b0]; omega

