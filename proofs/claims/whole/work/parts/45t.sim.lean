-- the other calls
theorem R_F_e {fW wl : (Nat → Int32)} {wr : (Nat → Nat → Int32)} {mF mF' out ol : (Nat → Int32)} (h : R_F fW wl wr mF out ol) (e : mF' 8 = mF 8) : R_F fW wl wr mF' out ol := by
  obtain ⟨f1, f2, f3, f4, f5⟩ := h
  exact ⟨f1, f2, by rw [f3, e], f4, f5⟩
theorem rel_octet {c : Int} {fZ fA ao fG : (Nat → Int32)} {fMs mos : (Nat → Nat → Int32)} {fR : (Nat → Int32)} {fSs sos sis : (Nat → Nat → Int32)} {fW wst wl : (Nat → Int32)} {wr fTs tls tbs : (Nat → Nat → Int32)} {mF mi kn out ol st wi pa se fi qd po ne bd bx qu ad ti tr nl nm bl bo ck us so di un la si od pr pc : (Nat → Int32)} {i0 : Int32} (h : Rel c fZ fA ao fG fMs mos fR fSs sos sis fW wst wl wr fTs tls tbs mF mi kn out ol st wi pa se fi qd po ne bd bx qu ad ti tr nl nm bl bo ck us so di un la si od pr pc) : (FX9_octet fZ fA ao i0).1 = (FX10_octet mF mi i0).1 ∧ Rel (c + 1) fZ (FX9_octet fZ fA ao i0).2.1 (FX9_octet fZ fA ao i0).2.2 fG fMs mos fR fSs sos sis fW wst wl wr fTs tls tbs (FX10_octet mF mi i0).2.1 (FX10_octet mF mi i0).2.2 kn out ol st wi pa se fi qd po ne bd bx qu ad ti tr nl nm bl bo ck us so di un la si od pr pc := by
  obtain ⟨hF, hid, hKn, hTx, hR, hM, hA, z4, z5, z6, hr4, hr5, hr6, hq64, had, hla, hiS, hiM, hb, h27, hc0⟩ := rel_s h
  obtain ⟨x1, x2, x3⟩ := sim_octet (fZ := fZ) (i0 := i0) hA
  exact ⟨x1, ⟨(R_F_e hF (x3 8 (by decide))), (hid.trans (x3 9 (by decide)).symm), hKn, hTx, hR, (R_M_e hM (x3 5 (by decide)) (x3 27 (by decide))), (x2), (z4.trans (x3 5 (by decide)).symm), (z5.trans (x3 6 (by decide)).symm), (z6.trans (x3 7 (by decide)).symm), (hr4.trans (x3 10 (by decide)).symm), (hr5.trans (x3 11 (by decide)).symm), (hr6.trans (x3 12 (by decide)).symm), hq64, had, hla, hiS, hiM, hb, (by rw [x3 27 (by decide)]; exact h27), hc0⟩⟩
theorem rel_name {c : Int} {fZ fA ao fG : (Nat → Int32)} {fMs mos : (Nat → Nat → Int32)} {fR : (Nat → Int32)} {fSs sos sis : (Nat → Nat → Int32)} {fW wst wl : (Nat → Int32)} {wr fTs tls tbs : (Nat → Nat → Int32)} {mF mi kn out ol st wi pa se fi qd po ne bd bx qu ad ti tr nl nm bl bo ck us so di un la si od pr pc : (Nat → Int32)} {fH : (Nat → Int32)} {i0 i1 : Int32} (h : Rel c fZ fA ao fG fMs mos fR fSs sos sis fW wst wl wr fTs tls tbs mF mi kn out ol st wi pa se fi qd po ne bd bx qu ad ti tr nl nm bl bo ck us so di un la si od pr pc) : (FX9_name fZ fR fH fTs tls i0 i1).1 = (FX10_name mF nl nm i0 i1).1 ∧ Rel (c + 1) fZ fA ao fG fMs mos fR fSs sos sis fW wst wl wr (FX9_name fZ fR fH fTs tls i0 i1).2.1 (FX9_name fZ fR fH fTs tls i0 i1).2.2 tbs mF mi kn out ol st wi pa se fi qd po ne bd bx qu ad ti tr (FX10_name mF nl nm i0 i1).2.1 (FX10_name mF nl nm i0 i1).2.2 bl bo ck us so di un la si od pr pc := by
  obtain ⟨hF, hid, hKn, hTx, hR, hM, hA, z4, z5, z6, hr4, hr5, hr6, hq64, had, hla, hiS, hiM, hb, h27, hc0⟩ := rel_s h
  obtain ⟨x1, x2⟩ := sim_name (fZ := fZ) (fR := fR) (fH := fH) (mF := mF) (i0 := i0) (i1 := i1) hTx
  exact ⟨x1, ⟨hF, hid, hKn, (x2), hR, hM, hA, z4, z5, z6, hr4, hr5, hr6, hq64, had, hla, hiS, hiM, hb, h27, hc0⟩⟩
theorem rel_body {c : Int} {fZ fA ao fG : (Nat → Int32)} {fMs mos : (Nat → Nat → Int32)} {fR : (Nat → Int32)} {fSs sos sis : (Nat → Nat → Int32)} {fW wst wl : (Nat → Int32)} {wr fTs tls tbs : (Nat → Nat → Int32)} {mF mi kn out ol st wi pa se fi qd po ne bd bx qu ad ti tr nl nm bl bo ck us so di un la si od pr pc : (Nat → Int32)} {fH : (Nat → Int32)} {i0 i1 : Int32} (h : Rel c fZ fA ao fG fMs mos fR fSs sos sis fW wst wl wr fTs tls tbs mF mi kn out ol st wi pa se fi qd po ne bd bx qu ad ti tr nl nm bl bo ck us so di un la si od pr pc) : (FX9_body fZ fR fH fTs tbs i0 i1).1 = (FX10_body mF bl bo ck i0 i1).1 ∧ Rel (c + 1) fZ fA ao fG fMs mos fR fSs sos sis fW wst wl wr (FX9_body fZ fR fH fTs tbs i0 i1).2.1 tls (FX9_body fZ fR fH fTs tbs i0 i1).2.2 mF mi kn out ol st wi pa se fi qd po ne bd bx qu ad ti tr nl nm (FX10_body mF bl bo ck i0 i1).2.1 (FX10_body mF bl bo ck i0 i1).2.2.1 (FX10_body mF bl bo ck i0 i1).2.2.2 us so di un la si od pr pc := by
  obtain ⟨hF, hid, hKn, hTx, hR, hM, hA, z4, z5, z6, hr4, hr5, hr6, hq64, had, hla, hiS, hiM, hb, h27, hc0⟩ := rel_s h
  obtain ⟨x1, x2⟩ := sim_body (fZ := fZ) (fR := fR) (fH := fH) (mF := mF) (i0 := i0) (i1 := i1) hTx
  exact ⟨x1, ⟨hF, hid, hKn, (x2), hR, hM, hA, z4, z5, z6, hr4, hr5, hr6, hq64, had, hla, hiS, hiM, hb, h27, hc0⟩⟩
theorem rel_spoil {c : Int} {fZ fA ao fG : (Nat → Int32)} {fMs mos : (Nat → Nat → Int32)} {fR : (Nat → Int32)} {fSs sos sis : (Nat → Nat → Int32)} {fW wst wl : (Nat → Int32)} {wr fTs tls tbs : (Nat → Nat → Int32)} {mF mi kn out ol st wi pa se fi qd po ne bd bx qu ad ti tr nl nm bl bo ck us so di un la si od pr pc : (Nat → Int32)} {fH : (Nat → Int32)} {i0 i1 i2 : Int32} (h : Rel c fZ fA ao fG fMs mos fR fSs sos sis fW wst wl wr fTs tls tbs mF mi kn out ol st wi pa se fi qd po ne bd bx qu ad ti tr nl nm bl bo ck us so di un la si od pr pc) : (FX9_spoil fZ fR fH fTs tbs i0 i1 i2).1 = (FX10_spoil mF bl bo i0 i1 i2).1 ∧ Rel (c + 1) fZ fA ao fG fMs mos fR fSs sos sis fW wst wl wr fTs tls (FX9_spoil fZ fR fH fTs tbs i0 i1 i2).2 mF mi kn out ol st wi pa se fi qd po ne bd bx qu ad ti tr nl nm bl (FX10_spoil mF bl bo i0 i1 i2).2 ck us so di un la si od pr pc := by
  obtain ⟨hF, hid, hKn, hTx, hR, hM, hA, z4, z5, z6, hr4, hr5, hr6, hq64, had, hla, hiS, hiM, hb, h27, hc0⟩ := rel_s h
  obtain ⟨x1, x2⟩ := sim_spoil (fZ := fZ) (fR := fR) (fH := fH) (mF := mF) (i0 := i0) (i1 := i1) (i2 := i2) hTx
  exact ⟨x1, ⟨hF, hid, hKn, (x2), hR, hM, hA, z4, z5, z6, hr4, hr5, hr6, hq64, had, hla, hiS, hiM, hb, h27, hc0⟩⟩
theorem rel_erase {c : Int} {fZ fA ao fG : (Nat → Int32)} {fMs mos : (Nat → Nat → Int32)} {fR : (Nat → Int32)} {fSs sos sis : (Nat → Nat → Int32)} {fW wst wl : (Nat → Int32)} {wr fTs tls tbs : (Nat → Nat → Int32)} {mF mi kn out ol st wi pa se fi qd po ne bd bx qu ad ti tr nl nm bl bo ck us so di un la si od pr pc : (Nat → Int32)} {fH : (Nat → Int32)} {i0 : Int32} (h : Rel c fZ fA ao fG fMs mos fR fSs sos sis fW wst wl wr fTs tls tbs mF mi kn out ol st wi pa se fi qd po ne bd bx qu ad ti tr nl nm bl bo ck us so di un la si od pr pc) : (FX9_erase fZ fR fH fTs i0).1 = (FX10_erase mF nl bl ck i0).1 ∧ Rel (c + 1) fZ fA ao fG fMs mos fR fSs sos sis fW wst wl wr (FX9_erase fZ fR fH fTs i0).2 tls tbs mF mi kn out ol st wi pa se fi qd po ne bd bx qu ad ti tr (FX10_erase mF nl bl ck i0).2.1 nm (FX10_erase mF nl bl ck i0).2.2.1 bo (FX10_erase mF nl bl ck i0).2.2.2 us so di un la si od pr pc := by
  obtain ⟨hF, hid, hKn, hTx, hR, hM, hA, z4, z5, z6, hr4, hr5, hr6, hq64, had, hla, hiS, hiM, hb, h27, hc0⟩ := rel_s h
  obtain ⟨x1, x2⟩ := sim_erase (fZ := fZ) (fR := fR) (fH := fH) (mF := mF) (i0 := i0) hTx
  exact ⟨x1, ⟨hF, hid, hKn, (x2), hR, hM, hA, z4, z5, z6, hr4, hr5, hr6, hq64, had, hla, hiS, hiM, hb, h27, hc0⟩⟩
theorem rel_tick {c : Int} {fZ fA ao fG : (Nat → Int32)} {fMs mos : (Nat → Nat → Int32)} {fR : (Nat → Int32)} {fSs sos sis : (Nat → Nat → Int32)} {fW wst wl : (Nat → Int32)} {wr fTs tls tbs : (Nat → Nat → Int32)} {mF mi kn out ol st wi pa se fi qd po ne bd bx qu ad ti tr nl nm bl bo ck us so di un la si od pr pc : (Nat → Int32)} {sg sd : (Nat → Int32)} {i0 : Int32} (h : Rel c fZ fA ao fG fMs mos fR fSs sos sis fW wst wl wr fTs tls tbs mF mi kn out ol st wi pa se fi qd po ne bd bx qu ad ti tr nl nm bl bo ck us so di un la si od pr pc) (hc : c ≤ 10000) :
    ∃ (C : Int32 × (Nat → Int32) × (Nat → Nat → Int32) × (Nat → Int32) × (Nat → Nat → Int32) × (Nat → Int32) × (Nat → Int32) × (Nat → Int32) × (Nat → Nat → Int32)) (M : Int32 × (Nat → Int32) × (Nat → Int32) × (Nat → Int32) × (Nat → Int32) × (Nat → Int32) × (Nat → Int32) × (Nat → Int32) × (Nat → Int32) × (Nat → Int32) × (Nat → Int32) × (Nat → Int32)), FX9_tick fZ fG fMs fR fSs sos sis sg fW wst wl wr i0 = C ∧ FX10_tick mF kn out ol sd st wi pa se fi qd po ne bd bx qu ad ti tr us si i0 = M ∧ C.1 = M.1 ∧ Rel (c + 1) C.2.1 fA ao fG C.2.2.1 mos C.2.2.2.1 C.2.2.2.2.1 sos sis C.2.2.2.2.2.2.1 wst C.2.2.2.2.2.2.2.1 C.2.2.2.2.2.2.2.2 fTs tls tbs M.2.1 mi kn M.2.2.1 M.2.2.2.1 M.2.2.2.2.2.1 wi M.2.2.2.2.2.2.1 M.2.2.2.2.2.2.2.1 fi qd po ne M.2.2.2.2.2.2.2.2.1 bx qu ad M.2.2.2.2.2.2.2.2.2.1 M.2.2.2.2.2.2.2.2.2.2.1 nl nm bl bo ck M.2.2.2.2.2.2.2.2.2.2.2 so di un la si od pr pc := by
  unfold FX9_tick FX10_tick
  by_cases z : FX10_is i0 1 40 = 0
  · have e : (if i0 < 1 then ((-1 : Int32), fZ, fMs, fR, fSs, sg, fW, wl, wr) else (if i0 ≤ 40 then LX9_tick_26 fG sos sis wst i0 (fW 4) 128 0 fZ fMs fR fSs sg fW wl wr else ((-1), fZ, fMs, fR, fSs, sg, fW, wl, wr))) = ((-1), fZ, fMs, fR, fSs, sg, fW, wl, wr) := by
      rcases is_f z with q | q
      · rw [if_pos (Int32.lt_iff_toInt_lt.mpr q)]
      · rw [show (40 : Int32).toInt = 40 from rfl] at q
        rw [if_neg (fun e => by have := lT e; rw [k1] at this; omega), if_neg (fun e => by have := iT e; rw [show (40 : Int32).toInt = 40 from rfl] at this; omega)]
    rw [if_pos z, e]
    exact ⟨_, _, rfl, rfl, rfl, rel_s h⟩
  · obtain ⟨z0, z1⟩ := is_in z
    rw [k1] at z0
    rw [show (40 : Int32).toInt = 40 from rfl] at z1
    rw [if_neg z, if_neg (show ¬ i0 < 1 from fun e => by have := lT e; rw [k1] at this; omega), if_pos (show i0 ≤ 40 from Int32.le_iff_toInt_le.mpr (by rw [show (40 : Int32).toInt = 40 from rfl]; omega))]
    obtain ⟨I, hI⟩ : ∃ I : Nat, i0.toInt = I := ⟨i0.toInt.toNat, by omega⟩
    obtain ⟨hF, hid, hKn, hTx, hR, hM, hA, z4, z5, z6, hr4, hr5, hr6, hq64, had, hla, hiS, hiM, hb, h27, hc0⟩ := id h
    have f8 : fW 4 = mF 8 := hF.2.2.1
    obtain ⟨C, M, g1, g2, g3, g4, g5, g6, g7, g8, g9, g10, g11, g12, g13⟩ := sim_tick26 (mos := mos) (so := so) (di := di) (un := un) (la := la) (od := od) (pr := pr) (pc := pc) (fG := fG) (sos := sos) (sis := sis) (wst := wst) (kn := kn) (wi := wi) (fi := fi) (qd := qd) (po := po) (ne := ne) (bx := bx) (qu := qu) (ad := ad) (si := si) (x := fW 4) hI (by omega) 128 0 0 fZ fMs fR fSs sg fW wl wr mF us sd out ol st pa se ti tr bd rfl (by omega) (by omega) ⟨hF, hid, hKn, hr6, hR⟩ hM z4 (by omega)
    obtain ⟨v1, v2⟩ := tick26_iv (fG := fG) (sos := sos) (sis := sis) (wst := wst) (i0 := i0) (x := fW 4) 128 0 fZ fMs fR fSs sg fW wl wr ⟨hF.1, hF.2.1⟩ hiS hiM
    rw [g1] at v1 v2
    rw [← f8, g1, g2]
    obtain ⟨t1, t2, t3, t4, t5⟩ := g4
    refine ⟨C, M, rfl, rfl, g3, t1, t2, t3, hTx, t5, g5, ⟨?_, ?_, hA.2.2⟩, g8, ?_, ?_, ?_, ?_, t4, hq64, had, hla, v1, v2, by omega, ?_, by omega⟩
    · rw [g11 4 (by decide) (by decide) (by decide) (by decide) (by decide)]; exact hA.1
    · rw [g11 4 (by decide) (by decide) (by decide) (by decide) (by decide)]; exact hA.2.1
    · rw [g9, g11 6 (by decide) (by decide) (by decide) (by decide) (by decide)]; exact z5
    · rw [g10, g11 7 (by decide) (by decide) (by decide) (by decide) (by decide)]; exact z6
    · rw [g6, g11 10 (by decide) (by decide) (by decide) (by decide) (by decide)]; exact hr4
    · rw [g7, g11 11 (by decide) (by decide) (by decide) (by decide) (by decide)]; exact hr5
    · rw [g11 27 (by decide) (by decide) (by decide) (by decide) (by decide)]; omega

