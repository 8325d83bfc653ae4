-- the relation of the two, and the calls
def Rel (c : Int) (fZ fA ao fG : (Nat → Int32)) (fMs mos : (Nat → Nat → Int32)) (fR : (Nat → Int32)) (fSs sos sis : (Nat → Nat → Int32)) (fW wst wl : (Nat → Int32)) (wr fTs tls tbs : (Nat → Nat → Int32)) (mF mi kn out ol st wi pa se fi qd po ne bd bx qu ad ti tr nl nm bl bo ck us so di un la si od pr pc : (Nat → Int32)) : Prop :=
  R_F fW wl wr mF out ol ∧ fW 5 = mF 9 ∧ R_K wst kn ∧ R_T fTs tls tbs nl nm bl bo ck ∧ R_Ss fSs sos sis st wi pa se fi qd po ne bd bx qu ad ti tr ∧ R_M fG fMs mos mF us so di un la si od pr pc ∧ R_A fA ao mF mi ∧ fZ 4 = mF 5 ∧ fZ 5 = mF 6 ∧ fZ 6 = mF 7 ∧ fR 4 = mF 10 ∧ fR 5 = mF 11 ∧ fR 6 = mF 12 ∧ q_in qd ∧ ad_in ad ∧ (∀ k, (la k).toInt ≤ 32) ∧ iv_Ss fSs ∧ iv_Ms fMs ∧ (fW 4).toInt ≤ 30000 * c ∧ (mF 27).toInt ≤ c ∧ 0 ≤ c
theorem rel_s {c : Int} {fZ fA ao fG : (Nat → Int32)} {fMs mos : (Nat → Nat → Int32)} {fR : (Nat → Int32)} {fSs sos sis : (Nat → Nat → Int32)} {fW wst wl : (Nat → Int32)} {wr fTs tls tbs : (Nat → Nat → Int32)} {mF mi kn out ol st wi pa se fi qd po ne bd bx qu ad ti tr nl nm bl bo ck us so di un la si od pr pc : (Nat → Int32)} (h : Rel c fZ fA ao fG fMs mos fR fSs sos sis fW wst wl wr fTs tls tbs mF mi kn out ol st wi pa se fi qd po ne bd bx qu ad ti tr nl nm bl bo ck us so di un la si od pr pc) : Rel (c + 1) fZ fA ao fG fMs mos fR fSs sos sis fW wst wl wr fTs tls tbs mF mi kn out ol st wi pa se fi qd po ne bd bx qu ad ti tr nl nm bl bo ck us so di un la si od pr pc := by
  obtain ⟨hF, hid, hKn, hTx, hR, hM, hA, z4, z5, z6, hr4, hr5, hr6, hq64, had, hla, hiS, hiM, hb, h27, hc0⟩ := h
  exact ⟨hF, hid, hKn, hTx, hR, hM, hA, z4, z5, z6, hr4, hr5, hr6, hq64, had, hla, hiS, hiM, (by omega), (by omega), (by omega)⟩
theorem rel_Ts {fTs tls tbs : (Nat → Nat → Int32)} {nl nm bl bo ck : (Nat → Int32)} (h : R_T fTs tls tbs nl nm bl bo ck) : iv_Ts fTs := fun t ht => by
  obtain ⟨e2, r2, e4, r4, _⟩ := h t ht
  unfold iv_T
  rw [e2, e4]
  exact ⟨r2.1, r2.2, r4.1, r4.2⟩
theorem rel_dat {c : Int} {fZ fA ao fG : (Nat → Int32)} {fMs mos : (Nat → Nat → Int32)} {fR : (Nat → Int32)} {fSs sos sis : (Nat → Nat → Int32)} {fW wst wl : (Nat → Int32)} {wr fTs tls tbs : (Nat → Nat → Int32)} {mF mi kn out ol st wi pa se fi qd po ne bd bx qu ad ti tr nl nm bl bo ck us so di un la si od pr pc : (Nat → Int32)} (h : Rel c fZ fA ao fG fMs mos fR fSs sos sis fW wst wl wr fTs tls tbs mF ao kn out ol st wi pa se fi qd po ne bd bx qu ad ti tr nl nm bl bo ck us so di un la si od pr pc) {D : (Nat → Int32) × (Nat → Nat → Int32) × (Nat → Nat → Int32) × (Nat → Nat → Int32) × (Nat → Int32) × (Nat → Int32) × (Nat → Int32) × (Nat → Nat → Int32) × (Nat → Int32) × (Nat → Int32)} {M : (Nat → Int32) × (Nat → Int32) × (Nat → Int32) × (Nat → Int32) × (Nat → Int32) × (Nat → Int32) × (Nat → Int32) × (Nat → Int32) × (Nat → Int32) × (Nat → Int32) × (Nat → Int32) × (Nat → Int32) × (Nat → Int32) × (Nat → Int32) × (Nat → Int32) × (Nat → Int32) × (Nat → Int32) × (Nat → Int32) × (Nat → Int32)} {A2 fG' : (Nat → Int32)} {fMs' mos' : (Nat → Nat → Int32)} {us' so' di' un' la' si' od' pr' pc' : (Nat → Int32)} (hA2 : ∀ j, j ≠ 27 → A2 j = upd (upd mF 4 0) 6 (mF 6 + 1) j) (h27' : (A2 27).toInt ≤ (mF 27).toInt + 1) (hTa : TaP D M A2 (fW 4).toInt) (hM' : R_M fG' fMs' mos' M.1 us' so' di' un' la' si' od' pr' pc') (hla' : ∀ k, (la' k).toInt ≤ 32) (hiS' : iv_Ss D.2.1) (hiM' : iv_Ms fMs') :
    D.2.2.2.2.2.1 4 - fW 4 = M.1 8 - mF 8 ∧ Rel (c + 1) (upd fZ 5 (fZ 5 + 1)) (upd fA 1 0) ao fG' fMs' mos' D.1 D.2.1 D.2.2.1 D.2.2.2.1 D.2.2.2.2.2.1 wst D.2.2.2.2.2.2.1 D.2.2.2.2.2.2.2.1 fTs tls tbs M.1 ao kn M.2.1 M.2.2.1 M.2.2.2.2.1 M.2.2.2.2.2.1 M.2.2.2.2.2.2.1 M.2.2.2.2.2.2.2.1 M.2.2.2.2.2.2.2.2.1 M.2.2.2.2.2.2.2.2.2.1 M.2.2.2.2.2.2.2.2.2.2.1 M.2.2.2.2.2.2.2.2.2.2.2.1 M.2.2.2.2.2.2.2.2.2.2.2.2.1 M.2.2.2.2.2.2.2.2.2.2.2.2.2.1 M.2.2.2.2.2.2.2.2.2.2.2.2.2.2.1 M.2.2.2.2.2.2.2.2.2.2.2.2.2.2.2.1 M.2.2.2.2.2.2.2.2.2.2.2.2.2.2.2.2.1 M.2.2.2.2.2.2.2.2.2.2.2.2.2.2.2.2.2.1 nl nm bl bo ck us' so' di' un' la' si' od' pr' pc' := by
  obtain ⟨hF, hid, hKn, hTx, hR, hM, hA, z4, z5, z6, hr4, hr5, hr6, hq64, had, hla, hiS, hiM, hb, h27, hc0⟩ := h
  obtain ⟨x1, x2, x3, x4, x5, x6, x7, x8, x9, x10, x11⟩ := hTa
  have fr : ∀ j, j ≠ 27 → j ≠ 8 → j ≠ 9 → j ≠ 10 → j ≠ 11 → j ≠ 12 → j ≠ 30 → j ≠ 46 → M.1 j = upd (upd mF 4 0) 6 (mF 6 + 1) j := fun j q q8 q9 q10 q11 q12 q30 q46 => (x7 j q8 q9 q10 q11 q12 q30 q46).trans (hA2 j q)
  have m4 : M.1 4 = 0 := fr 4 (by decide) (by decide) (by decide) (by decide) (by decide) (by decide) (by decide) (by decide)
  refine ⟨by rw [x1.2.2.1, hF.2.2.1], x1, x2, hKn, hTx, x3, hM', ⟨?_, ?_, hA.2.2⟩, ?_, ?_, ?_, x4, x5, x6, x8, x9, hla', hiS', hiM', by omega, ?_, by omega⟩
  · rw [m4]; rfl
  · rw [m4]; decide
  · exact z4.trans (fr 5 (by decide) (by decide) (by decide) (by decide) (by decide) (by decide) (by decide) (by decide)).symm
  · show fZ 5 + 1 = M.1 6
    rw [fr 6 (by decide) (by decide) (by decide) (by decide) (by decide) (by decide) (by decide) (by decide), pk_us, z5]
  · exact z6.trans (fr 7 (by decide) (by decide) (by decide) (by decide) (by decide) (by decide) (by decide) (by decide)).symm
  · rw [x7 27 (by decide) (by decide) (by decide) (by decide) (by decide) (by decide) (by decide)]; omega
set_option maxRecDepth 20000 in
theorem sim_arrive {c : Int} {fZ fA ao fG : (Nat → Int32)} {fMs mos : (Nat → Nat → Int32)} {fR : (Nat → Int32)} {fSs sos sis : (Nat → Nat → Int32)} {fW wst wl : (Nat → Int32)} {wr fTs tls tbs : (Nat → Nat → Int32)} {mF mi kn out ol st wi pa se fi qd po ne bd bx qu ad ti tr nl nm bl bo ck us so di un la si od pr pc : (Nat → Int32)} {fD dp sg fH aC sd ld an : (Nat → Int32)} (h : Rel c fZ fA ao fG fMs mos fR fSs sos sis fW wst wl wr fTs tls tbs mF mi kn out ol st wi pa se fi qd po ne bd bx qu ad ti tr nl nm bl bo ck us so di un la si od pr pc) (hc : c ≤ 10000) :
    ∃ (C : Int32 × (Nat → Int32) × (Nat → Int32) × (Nat → Int32) × (Nat → Nat → Int32) × (Nat → Nat → Int32) × (Nat → Int32) × (Nat → Int32) × (Nat → Int32) × (Nat → Nat → Int32) × (Nat → Nat → Int32) × (Nat → Nat → Int32) × (Nat → Int32) × (Nat → Int32) × (Nat → Int32) × (Nat → Int32) × (Nat → Nat → Int32) × (Nat → Int32) × (Nat → Int32)) (M : Int32 × (Nat → Int32) × (Nat → Int32) × (Nat → Int32) × (Nat → Int32) × (Nat → Int32) × (Nat → Int32) × (Nat → Int32) × (Nat → Int32) × (Nat → Int32) × (Nat → Int32) × (Nat → Int32) × (Nat → Int32) × (Nat → Int32) × (Nat → Int32) × (Nat → Int32) × (Nat → Int32) × (Nat → Int32) × (Nat → Int32) × (Nat → Int32) × (Nat → Int32) × (Nat → Int32) × (Nat → Int32) × (Nat → Int32) × (Nat → Int32) × (Nat → Int32) × (Nat → Int32) × (Nat → Int32) × (Nat → Int32) × (Nat → Int32) × (Nat → Int32)), FX9_arrive fZ fA ao fG fMs mos fD dp fR fSs sos sis sg fW wst wl wr fH fTs tls tbs aC = C ∧ FX10_arrive mF kn out ol sd st wi pa se fi qd po ne bd bx qu ad ti tr ld an nl nm bl bo ck us so di un la si od pr pc mi = M ∧ C.1 = M.1 ∧ Rel (c + 1) C.2.1 C.2.2.1 ao C.2.2.2.1 C.2.2.2.2.1 C.2.2.2.2.2.1 C.2.2.2.2.2.2.2.2.1 C.2.2.2.2.2.2.2.2.2.1 C.2.2.2.2.2.2.2.2.2.2.1 C.2.2.2.2.2.2.2.2.2.2.2.1 C.2.2.2.2.2.2.2.2.2.2.2.2.2.1 C.2.2.2.2.2.2.2.2.2.2.2.2.2.2.1 C.2.2.2.2.2.2.2.2.2.2.2.2.2.2.2.1 C.2.2.2.2.2.2.2.2.2.2.2.2.2.2.2.2.1 fTs tls tbs M.2.1 mi M.2.2.1 M.2.2.2.1 M.2.2.2.2.1 M.2.2.2.2.2.2.1 M.2.2.2.2.2.2.2.1 M.2.2.2.2.2.2.2.2.1 M.2.2.2.2.2.2.2.2.2.1 M.2.2.2.2.2.2.2.2.2.2.1 M.2.2.2.2.2.2.2.2.2.2.2.1 M.2.2.2.2.2.2.2.2.2.2.2.2.1 M.2.2.2.2.2.2.2.2.2.2.2.2.2.1 M.2.2.2.2.2.2.2.2.2.2.2.2.2.2.1 M.2.2.2.2.2.2.2.2.2.2.2.2.2.2.2.1 M.2.2.2.2.2.2.2.2.2.2.2.2.2.2.2.2.1 M.2.2.2.2.2.2.2.2.2.2.2.2.2.2.2.2.2.1 M.2.2.2.2.2.2.2.2.2.2.2.2.2.2.2.2.2.2.1 M.2.2.2.2.2.2.2.2.2.2.2.2.2.2.2.2.2.2.2.1 nl nm bl bo ck M.2.2.2.2.2.2.2.2.2.2.2.2.2.2.2.2.2.2.2.2.2.2.1 M.2.2.2.2.2.2.2.2.2.2.2.2.2.2.2.2.2.2.2.2.2.2.2.1 M.2.2.2.2.2.2.2.2.2.2.2.2.2.2.2.2.2.2.2.2.2.2.2.2.1 M.2.2.2.2.2.2.2.2.2.2.2.2.2.2.2.2.2.2.2.2.2.2.2.2.2.1 M.2.2.2.2.2.2.2.2.2.2.2.2.2.2.2.2.2.2.2.2.2.2.2.2.2.2.1 M.2.2.2.2.2.2.2.2.2.2.2.2.2.2.2.2.2.2.2.2.2.2.2.2.2.2.2.1 M.2.2.2.2.2.2.2.2.2.2.2.2.2.2.2.2.2.2.2.2.2.2.2.2.2.2.2.2.1 M.2.2.2.2.2.2.2.2.2.2.2.2.2.2.2.2.2.2.2.2.2.2.2.2.2.2.2.2.2.1 M.2.2.2.2.2.2.2.2.2.2.2.2.2.2.2.2.2.2.2.2.2.2.2.2.2.2.2.2.2.2 := by
  obtain rfl : ao = mi := funext fun i => (h.2.2.2.2.2.2.1.2.2 i).1
  obtain ⟨hF, hid, hKn, hTx, hR, hM, hA, z4, z5, z6, hr4, hr5, hr6, hq64, had, hla, hiS, hiM, hb, h27, hc0⟩ := id h
  have hO : ∀ i, oct (ao i) := fun i => (hA.2.2 i).2
  have h4 : mF 4 = fA 1 := hA.1.symm
  have hl44 : 0 ≤ (fA 1).toInt ∧ (fA 1).toInt ≤ 44 := by rw [← h4]; exact hA.2.1
  have ef := sim_fit (fA := fA) (ao := ao) (mF := upd (upd mF 4 0) 6 (mF 6 + 1))
  have hTs := rel_Ts hTx
  have hW : iv_W fW := ⟨hF.1, hF.2.1⟩
  have hG : iv_G fG := by
    unfold iv_G
    rcases hM.2.1 with q | q <;> rw [q] <;> decide
  unfold FX9_arrive FX10_arrive
  rw [h4, ef]
  by_cases g : FX10_isGood (upd (upd mF 4 0) 6 (mF 6 + 1)) ao (fA 1) = 0
  · rw [if_pos g, if_pos g]
    refine ⟨_, _, rfl, rfl, rfl, ⟨hF, hid, hKn, hTx, hR, (R_M_e hM rfl rfl), (⟨rfl, by show 0 ≤ (0 : Int32).toInt ∧ (0 : Int32).toInt ≤ 44; decide, hA.2.2⟩), z4, (by show fZ 5 + 1 = mF 6 + 1; rw [z5]), (by show fZ 6 + 1 = mF 7 + 1; rw [z6]), hr4, hr5, hr6, hq64, had, hla, hiS, hiM, (by show (fW 4).toInt ≤ _; omega), (by show (mF 27).toInt ≤ _; omega), (by omega)⟩⟩
  · rw [if_neg g, if_neg g]
    have hfit : ¬ FX0_isFit fA ao = 0 := by rw [ef]; exact g
    by_cases k3 : ao 2 = 3
    · rw [if_pos k3, if_pos k3]
      have hf := isFit_dat (fA := fA) (ao := ao) (fun k => (hO k).1) hfit k3
      obtain ⟨h9, hl41, a0, a1, hfr⟩ := id hf
      obtain ⟨m, hm⟩ : ∃ m : Nat, (fA 1).toInt = m + 9 := ⟨(fA 1).toInt.toNat - 9, by omega⟩
      have e9 : (fA 1 - 9).toInt = m := by rw [tI_sc 9 k9 (by omega) (by omega)]; omega
      obtain ⟨ld', e58, l1, _⟩ := ar58 (mF := mF) (kn := kn) (out := out) (ol := ol) (sd := sd) (st := st) (wi := wi) (pa := pa) (se := se) (fi := fi) (qd := qd) (po := po) (ne := ne) (bd := bd) (bx := bx) (qu := qu) (ad := ad) (ti := ti) (tr := tr) (an := an) (nl := nl) (nm := nm) (bl := bl) (bo := bo) (ck := ck) (us := us) (so := so) (di := di) (un := un) (la := la) (si := si) (od := od) (pr := pr) (pc := pc) (mi := ao) (x1 := fA 1) (x2 := mF 8) (f3 := mF 6 + 1) (n0 := m + 9) hm (by omega) 128 9 0 ld rfl (by omega) (by omega)
      rw [e58]
      have hF1 : R_F fW wl wr (upd (upd mF 4 0) 6 (mF 6 + 1)) out ol := hF
      by_cases w0 : ao 6 = 0
      · rw [if_pos w0]
        have hwn : ¬ FX0_isWhole fA ao = 0 := by
          unfold FX0_isWhole
          rw [if_pos w0]; decide
        have es : FX0_size fA = fA 1 - 9 := rfl
        obtain ⟨dp', g1, g2, _⟩ := fill19 (fD := fD) (rb := ao) (i0 := ao 3) (i1 := ao 7) (i2 := 9) (i3 := fA 1 - 9) (A := 9) (m := m) rfl e9 (by omega) (by omega) 128 0 0 dp rfl (by omega) (by omega)
        have eC : FX3_completes fG fMs mos fA ao fD dp = (1, fG, fMs, mos, upd (upd (upd fD 1 (ao 3)) 2 (ao 7)) 3 (fA 1 - 9), dp') := by
          unfold FX3_completes KX3_completes_31 FX2_fill
          rw [if_neg hwn, es, g1]
        rw [eC]
        obtain ⟨dX, e78⟩ := ar78 (fZ := fZ) (fA := fA) (fR := fR) (fSs := fSs) (sos := sos) (sis := sis) (sg := sg) (fW := fW) (wst := wst) (wl := wl) (wr := wr) (fH := fH) (fTs := fTs) (tls := tls) (tbs := tbs) (aC := aC) (x1 := fW 4) (f3 := fZ 5 + 1) (cw := (1, fG, fMs, mos, upd (upd (upd fD 1 (ao 3)) 2 (ao 7)) 3 (fA 1 - 9), dp'))
        rw [e78]
        have key := sim_dat (fR := fR) (fSs := fSs) (sos := sos) (sis := sis) (sg := sg) (fW := fW) (wst := wst) (wl := wl) (wr := wr) (fH := fH) (fTs := fTs) (tls := tls) (tbs := tbs) (aC := aC) (fD := upd (upd (upd fD 1 (ao 3)) 2 (ao 7)) 3 (fA 1 - 9)) (dp := dp') (mF := upd (upd mF 4 0) 6 (mF 6 + 1)) (kn := kn) (out := out) (ol := ol) (sd := sd) (ld := ld') (an := an) (nl := nl) (nm := nm) (bl := bl) (bo := bo) (ck := ck) (i0 := ao 3) (i1 := ao 7) (i2 := fA 1 - 9) (tm := fZ 4) (m := m) hR hF1 (by omega) hid hKn hTx hr4 hr5 hr6 hq64 had a0 a1 rfl rfl rfl e9 (by omega) (fun i hi => by
          rw [g2 i (by omega) hi, l1 i (by omega) (by omega)]
          exact ⟨rfl, hO _⟩) z4
        have hiS2 := frC_iv (fR := fR) (sos := sos) (sis := sis) (sg := sg) (wst := wst) (wl := wl) (wr := wr) (fH := fH) (tls := tls) (tbs := tbs) (aC := aC) (tm := fZ 4) (cw := (1, fG, fMs, mos, upd (upd (upd fD 1 (ao 3)) 2 (ao 7)) 3 (fA 1 - 9), dp')) hW hiS hTs (fun _ => ⟨a0, a1, by show (fA 1 - 9).toInt ≤ 32; omega⟩)
        have efr : frC fR fSs sos sis sg fW wst wl wr fH fTs tls tbs aC (fZ 4) (1, fG, fMs, mos, upd (upd (upd fD 1 (ao 3)) 2 (ao 7)) 3 (fA 1 - 9), dp') = datC fR fSs sos sis sg fW wst wl wr fH fTs tls tbs aC (upd (upd (upd fD 1 (ao 3)) 2 (ao 7)) 3 (fA 1 - 9)) dp' (fZ 4) := by
          unfold frC
          rw [if_neg (show ¬ (1 : Int32) = 0 by decide)]
        rw [efr] at hiS2 ⊢
        have k7 := key.2.2.2.2.2.2.1
        obtain ⟨r1, r2⟩ := rel_dat (mi := ao) (fG' := fG) (fMs' := fMs) (mos' := mos) (us' := us) (so' := so) (di' := di) (un' := un) (la' := la) (si' := si) (od' := od) (pr' := pr) (pc' := pc) h (fun _ _ => rfl) (by show (mF 27).toInt ≤ _; omega) key (R_M_e hM (k7 5 (by decide) (by decide) (by decide) (by decide) (by decide) (by decide) (by decide)) (k7 27 (by decide) (by decide) (by decide) (by decide) (by decide) (by decide) (by decide))) hla hiS2 hiM
        exact ⟨_, _, rfl, rfl, r1, r2⟩
      · rw [if_neg w0]
        obtain ⟨cw, M, A2, eC, eM, q1, q2, q3, q4, q5⟩ := sim_frag (fG := fG) (fMs := fMs) (mos := mos) (fA := fA) (ao := ao) (fD := fD) (dp := dp) (fR := fR) (fSs := fSs) (sos := sos) (sis := sis) (sg := sg) (fW := fW) (wst := wst) (wl := wl) (wr := wr) (fH := fH) (fTs := fTs) (tls := tls) (tbs := tbs) (aC := aC) (mF := upd (upd mF 4 0) 6 (mF 6 + 1)) (kn := kn) (out := out) (ol := ol) (sd := sd) (ld := ld') (an := an) (nl := nl) (nm := nm) (bl := bl) (bo := bo) (ck := ck) (us := us) (so := so) (di := di) (un := un) (la := la) (si := si) (od := od) (pr := pr) (pc := pc) (i4 := fA 1 - 9) (tm := fZ 4) (m := m) (R_M_e hM rfl rfl) hla (by show (mF 27).toInt < _; omega) hf w0 hO e9 hm (fun i hi => l1 i (by omega) (by omega)) hR hF1 (by omega) hid hKn hTx hr4 hr5 hr6 hq64 had z4
        have hD := completes_D (fD := fD) (dp := dp) (mos := mos) hG hiM hf
        have hiM2 := completes_iv (fD := fD) (dp := dp) (mos := mos) hG hiM hf
        rw [eC] at hD hiM2 ⊢
        rw [eM]
        obtain ⟨dX, e78⟩ := ar78 (fZ := fZ) (fA := fA) (fR := fR) (fSs := fSs) (sos := sos) (sis := sis) (sg := sg) (fW := fW) (wst := wst) (wl := wl) (wr := wr) (fH := fH) (fTs := fTs) (tls := tls) (tbs := tbs) (aC := aC) (x1 := fW 4) (f3 := fZ 5 + 1) (cw := cw)
        rw [e78]
        have hiS2 := frC_iv (fR := fR) (sos := sos) (sis := sis) (sg := sg) (wst := wst) (wl := wl) (wr := wr) (fH := fH) (tls := tls) (tbs := tbs) (aC := aC) (tm := fZ 4) (cw := cw) hW hiS hTs hD
        obtain ⟨r1, r2⟩ := rel_dat (mi := ao) h q1 q2 q3 q4 q5 hiS2 hiM2
        exact ⟨_, _, rfl, rfl, r1, r2⟩
    · rw [if_neg k3, if_neg k3]
      obtain ⟨a0, a1⟩ := isFit_in (fA := fA) (ao := ao) (fun k => (hO k).1) hfit
      obtain ⟨A, hA3⟩ : ∃ A : Nat, (ao 3).toInt = A := ⟨(ao 3).toInt.toNat, by omega⟩
      have hK2 : R_K (upd wst (ao 3).toNatClampNeg (ao 1)) (upd kn (ao 3).toNatClampNeg (ao 1)) := fun a ha => by
        by_cases e : a = (ao 3).toNatClampNeg
        · rw [e, pk_us, pk_us]; exact ⟨rfl, Or.inr (hO 1)⟩
        · rw [pk_un e, pk_un e]; exact hKn a ha
      have hA2 : R_A (upd fA 1 0) ao (upd (upd mF 4 0) 6 (mF 6 + 1)) ao := ⟨rfl, by show 0 ≤ (0 : Int32).toInt ∧ (0 : Int32).toInt ≤ 44; decide, hA.2.2⟩
      have f8 : fW 4 = mF 8 := hF.2.2.1
      have e0 : fW 4 - fW 4 = mF 8 - mF 8 := by rw [f8]
      unfold FX9_meetNeighbour
      by_cases k4' : ao 4 = 1
      · rw [if_pos k4', if_pos k4']
        by_cases k1' : ao 2 = 1
        · rw [if_pos k1', if_pos k1']
          obtain ⟨x1, x2, x3⟩ := sim_short (fW := fW) (wl := wl) (wr := wr) (mF := upd (upd mF 4 0) 6 (mF 6 + 1)) (out := out) (ol := ol) hF (by omega) (i0 := ao 1) (i1 := 2) (i2 := ao 3) (hO 1) (by unfold oct; decide) (hO 3)
          have o1 := open_1 (mF := upd (upd mF 4 0) 6 (mF 6 + 1)) (out := out) (ol := ol) (i0 := ao 1) (i1 := 2)
          have t4 := tI_s (a := fW 4) (by omega)
          unfold KX9_meetNeighbour_54 KX9_arrive_60 KX10_arrive_207 KX10_arrive_212 KX10_arrive_217
          generalize FX10_open (upd (upd mF 4 0) 6 (mF 6 + 1)) out ol (ao 1) 2 = O at x1 o1 ⊢
          generalize FX8_sendShort fW wl wr (ao 1) 2 (ao 3) = S at x1 x2 x3 ⊢
          generalize FX10_put O.1 (FX10_put O.1 O.2.1 O.2.2 1).1 (FX10_put O.1 O.2.1 O.2.2 1).2 (ao 3) = P at x1 ⊢
          have oj : ∀ j, j ≠ 8 → O.1 j = upd (upd mF 4 0) 6 (mF 6 + 1) j := fun j hj => by rw [o1, pk_un hj]
          refine ⟨_, _, rfl, rfl, ?_, x1, x2.trans (hid.trans (oj 9 (by decide)).symm), hK2, hTx, hR, R_M_e hM (oj 5 (by decide)) (oj 27 (by decide)), ⟨(oj 4 (by decide)).symm, ?_, hA.2.2⟩, z4.trans (oj 5 (by decide)).symm, ?_, z6.trans (oj 7 (by decide)).symm, hr4.trans (oj 10 (by decide)).symm, hr5.trans (oj 11 (by decide)).symm, hr6.trans (oj 12 (by decide)).symm, hq64, had, hla, hiS, hiM, ?_, ?_, by omega⟩
          · show S.1 4 - fW 4 = O.1 8 - mF 8
            rw [x3, o1, pk_us, f8]; rfl
          · show 0 ≤ (O.1 4).toInt ∧ (O.1 4).toInt ≤ 44
            rw [oj 4 (by decide)]
            show 0 ≤ (0 : Int32).toInt ∧ (0 : Int32).toInt ≤ 44
            decide
          · show fZ 5 + 1 = O.1 6
            rw [oj 6 (by decide), pk_us, z5]
          · show (S.1 4).toInt ≤ _
            rw [x3]; omega
          · show (O.1 27).toInt ≤ _
            rw [oj 27 (by decide)]
            show (mF 27).toInt ≤ _
            omega
        · rw [if_neg k1', if_neg k1']
          exact ⟨_, _, rfl, rfl, e0, ⟨hF, hid, (hK2), hTx, hR, (R_M_e hM rfl rfl), (hA2), z4, (by show fZ 5 + 1 = mF 6 + 1; rw [z5]), z6, hr4, hr5, hr6, hq64, had, hla, hiS, hiM, (by show (fW 4).toInt ≤ _; omega), (by show (mF 27).toInt ≤ _; omega), (by omega)⟩⟩
      · rw [if_neg k4', if_neg k4']
        exact ⟨_, _, rfl, rfl, e0, ⟨hF, hid, hKn, hTx, hR, (R_M_e hM rfl rfl), (hA2), z4, (by show fZ 5 + 1 = mF 6 + 1; rw [z5]), z6, hr4, hr5, hr6, hq64, had, hla, hiS, hiM, (by show (fW 4).toInt ≤ _; omega), (by show (mF 27).toInt ≤ _; omega), (by omega)⟩⟩

