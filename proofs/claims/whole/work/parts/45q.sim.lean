-- the simulation: a fragment
theorem clash_eq {T : Type} {fM fA ao : (Nat → Int32)} {un la R mine hi place : Int32} (X Y Z : T) (e5 : fM 5 = un) (e6 : fM 6 = la) (em : FX0_units fA ao = mine) (er : FX0_reach fA ao = R) (ep : ao 6 = place) (E1 : la.toInt < 0 → ((un >>> ((R / 4) &&& 31)) = 0 ↔ 4 * hi + 4 ≤ R)) (E2 : (un &&& mine) = 0 → 0 ≤ la.toInt → R = la → (un >>> ((R / 4) &&& 31)) = 0) :
    (if 128 ≤ place then (if (un &&& mine) = 0 then (if la < 0 then X else (if la < R then Z else X)) else Z) else (if (un &&& mine) = 0 then (if la < 0 then (if 0 ≤ la then Y else (if (((4 : Int32) * hi) + (4 : Int32)) ≤ R then Y else Z)) else (if la < R then Z else (if R = la then (if 0 ≤ la then Y else (if (((4 : Int32) * hi) + (4 : Int32)) ≤ R then Y else Z)) else Z))) else Z)) = if FX1_clashesWith fM fA ao = 0 then (if FX0_isEnd fA ao = 0 then X else Y) else Z := by
  unfold FX1_clashesWith FX0_isEnd
  rw [e5, e6, em, er, ep]
  by_cases p : 128 ≤ place
  · rw [if_pos p, if_pos p]
    by_cases a : (un &&& mine) = 0
    · rw [if_pos a, if_pos a]
      by_cases b : la < 0
      · rw [if_pos b, if_pos b, if_pos rfl, if_pos rfl, if_pos rfl]
      · rw [if_neg b, if_neg b]
        by_cases c : la < R
        · rw [if_pos c, if_pos c, if_neg (show ¬ (1 : Int32) = 0 by decide)]
        · rw [if_neg c, if_neg c, if_pos rfl, if_pos rfl, if_pos rfl, if_pos rfl]
    · rw [if_neg a, if_neg a, if_neg (show ¬ (1 : Int32) = 0 by decide)]
  · have n10 : ¬ (1 : Int32) = 0 := by decide
    rw [if_neg p, if_neg p]
    by_cases a : (un &&& mine) = 0
    · rw [if_pos a, if_pos a]
      by_cases b : la < 0
      · have b' := lT b
        rw [k0] at b'
        rw [if_pos b, if_pos b, if_neg (show ¬ 0 ≤ la from fun e => by have := iT e; rw [k0] at this; omega), if_neg n10]
        by_cases c : (((4 : Int32) * hi) + (4 : Int32)) ≤ R
        · rw [if_pos c, if_pos ((E1 b').mpr c), if_pos rfl, if_neg n10]
        · rw [if_neg c, if_neg (fun e => c ((E1 b').mp e)), if_neg n10]
      · have b' := lTn b
        rw [k0] at b'
        rw [if_neg b, if_neg b]
        by_cases c : la < R
        · rw [if_pos c, if_pos c, if_neg n10]
        · rw [if_neg c, if_neg c, if_neg n10]
          by_cases d : R = la
          · rw [if_pos d, if_pos d, if_pos (show 0 ≤ la from Int32.le_iff_toInt_le.mpr (by rw [k0]; omega)), if_neg n10, if_pos (E2 a b' d), if_pos rfl, if_neg n10]
          · rw [if_neg d, if_neg d, if_neg n10]
    · rw [if_neg a, if_neg a, if_neg n10]
theorem clash_0 {fM fA ao : (Nat → Int32)} (h : FX1_clashesWith fM fA ao = 0) : (fM 5 &&& FX0_units fA ao) = 0 ∧ (fM 6 < 0 ∨ ¬ fM 6 < FX0_reach fA ao) ∧ (¬ FX0_isEnd fA ao = 0 → (fM 5 >>> ((FX0_reach fA ao / 4) &&& 31)) = 0) := by
  have n10 : ¬ (1 : Int32) = 0 := by decide
  unfold FX1_clashesWith at h
  split at h
  · rename_i a
    refine ⟨a, ?_⟩
    split at h
    · rename_i b
      refine ⟨Or.inl b, fun e => ?_⟩
      rw [if_neg e] at h
      split at h
      · rename_i c; exact c
      · exact absurd h n10
    · rename_i b
      split at h
      · exact absurd h n10
      · rename_i c
        refine ⟨Or.inr c, fun e => ?_⟩
        rw [if_neg e] at h
        split at h
        · (try rw [if_neg e] at h)
          split at h
          · rename_i d; exact d
          · exact absurd h n10
        · exact absurd h n10
  · exact absurd h n10
def frC (fR : (Nat → Int32)) (fSs sos sis : (Nat → Nat → Int32)) (sg fW wst wl : (Nat → Int32)) (wr : (Nat → Nat → Int32)) (fH : (Nat → Int32)) (fTs tls tbs : (Nat → Nat → Int32)) (aC : (Nat → Int32)) (tm : Int32) (cw : Int32 × (Nat → Int32) × (Nat → Nat → Int32) × (Nat → Nat → Int32) × (Nat → Int32) × (Nat → Int32)) : (Nat → Int32) × (Nat → Nat → Int32) × (Nat → Nat → Int32) × (Nat → Nat → Int32) × (Nat → Int32) × (Nat → Int32) × (Nat → Int32) × (Nat → Nat → Int32) × (Nat → Int32) × (Nat → Int32) :=
  if cw.1 = 0 then (fR, fSs, sos, sis, sg, fW, wl, wr, fH, aC) else datC fR fSs sos sis sg fW wst wl wr fH fTs tls tbs aC cw.2.2.2.2.1 cw.2.2.2.2.2 tm
theorem sim_frag {fG : (Nat → Int32)} {fMs mos : (Nat → Nat → Int32)} {fA ao fD dp fR : (Nat → Int32)} {fSs sos sis : (Nat → Nat → Int32)} {sg fW wst wl : (Nat → Int32)} {wr : (Nat → Nat → Int32)} {fH : (Nat → Int32)} {fTs tls tbs : (Nat → Nat → Int32)} {aC mF kn out ol sd st wi pa se fi qd po ne bd bx qu ad ti tr ld an nl nm bl bo ck us so di un la si od pr pc : (Nat → Int32)} {i4 tm : Int32} {m : Nat} (hM : R_M fG fMs mos mF us so di un la si od pr pc) (hla : ∀ k, (la k).toInt ≤ 32) (hN : (mF 27).toInt < 2000000000) (hf : iv_fit fA ao) (hw : ¬ ao 6 = 0) (hO : ∀ i, oct (ao i)) (h4 : i4.toInt = m) (hm : (fA 1).toInt = m + 9) (hld : ∀ i, i < m → ld i = ao (9 + i))
    (hR : R_Ss fSs sos sis st wi pa se fi qd po ne bd bx qu ad ti tr) (hF : R_F fW wl wr mF out ol) (hT : (fW 4).toInt < 1900000000) (hid : fW 5 = mF 9) (hKn : R_K wst kn) (hTx : R_T fTs tls tbs nl nm bl bo ck) (hr4 : fR 4 = mF 10) (hr5 : fR 5 = mF 11) (hr6 : fR 6 = mF 12) (hq64 : q_in qd) (had : ad_in ad) (ht : tm = mF 5) :
    ∃ (cw : Int32 × (Nat → Int32) × (Nat → Nat → Int32) × (Nat → Nat → Int32) × (Nat → Int32) × (Nat → Int32)) (M : (Nat → Int32) × (Nat → Int32) × (Nat → Int32) × (Nat → Int32) × (Nat → Int32) × (Nat → Int32) × (Nat → Int32) × (Nat → Int32) × (Nat → Int32) × (Nat → Int32) × (Nat → Int32) × (Nat → Int32) × (Nat → Int32) × (Nat → Int32) × (Nat → Int32) × (Nat → Int32) × (Nat → Int32) × (Nat → Int32) × (Nat → Int32) × (Nat → Int32) × (Nat → Int32) × (Nat → Int32) × (Nat → Int32) × (Nat → Int32) × (Nat → Int32) × (Nat → Int32) × (Nat → Int32) × (Nat → Int32) × (Nat → Int32)) (A2 : (Nat → Int32)), FX3_completes fG fMs mos fA ao fD dp = cw ∧ FX10_fragment mF kn out ol sd st wi pa se fi qd po ne bd bx qu ad ti tr ld an nl nm bl bo ck us so di un la si od pr pc (ao 3) (ao 5) (ao 6) (ao 7) i4 = M ∧ (∀ j, j ≠ 27 → A2 j = mF j) ∧ (A2 27).toInt ≤ (mF 27).toInt + 1
      ∧ TaP (frC fR fSs sos sis sg fW wst wl wr fH fTs tls tbs aC tm cw) (M.1, M.2.1, M.2.2.1, M.2.2.2.1, M.2.2.2.2.1, M.2.2.2.2.2.1, M.2.2.2.2.2.2.1, M.2.2.2.2.2.2.2.1, M.2.2.2.2.2.2.2.2.1, M.2.2.2.2.2.2.2.2.2.1, M.2.2.2.2.2.2.2.2.2.2.1, M.2.2.2.2.2.2.2.2.2.2.2.1, M.2.2.2.2.2.2.2.2.2.2.2.2.1, M.2.2.2.2.2.2.2.2.2.2.2.2.2.1, M.2.2.2.2.2.2.2.2.2.2.2.2.2.2.1, M.2.2.2.2.2.2.2.2.2.2.2.2.2.2.2.1, M.2.2.2.2.2.2.2.2.2.2.2.2.2.2.2.2.1, M.2.2.2.2.2.2.2.2.2.2.2.2.2.2.2.2.2.1, M.2.2.2.2.2.2.2.2.2.2.2.2.2.2.2.2.2.2.2.1) A2 (fW 4).toInt
      ∧ R_M cw.2.1 cw.2.2.1 cw.2.2.2.1 M.1 M.2.2.2.2.2.2.2.2.2.2.2.2.2.2.2.2.2.2.2.2.1 M.2.2.2.2.2.2.2.2.2.2.2.2.2.2.2.2.2.2.2.2.2.1 M.2.2.2.2.2.2.2.2.2.2.2.2.2.2.2.2.2.2.2.2.2.2.1 M.2.2.2.2.2.2.2.2.2.2.2.2.2.2.2.2.2.2.2.2.2.2.2.1 M.2.2.2.2.2.2.2.2.2.2.2.2.2.2.2.2.2.2.2.2.2.2.2.2.1 M.2.2.2.2.2.2.2.2.2.2.2.2.2.2.2.2.2.2.2.2.2.2.2.2.2.1 M.2.2.2.2.2.2.2.2.2.2.2.2.2.2.2.2.2.2.2.2.2.2.2.2.2.2.1 M.2.2.2.2.2.2.2.2.2.2.2.2.2.2.2.2.2.2.2.2.2.2.2.2.2.2.2.1 M.2.2.2.2.2.2.2.2.2.2.2.2.2.2.2.2.2.2.2.2.2.2.2.2.2.2.2.2 ∧ (∀ k, (M.2.2.2.2.2.2.2.2.2.2.2.2.2.2.2.2.2.2.2.2.2.2.2.2.1 k).toInt ≤ 32) := by
  obtain ⟨h9, hl41, a0, a1, hfr⟩ := hf
  obtain ⟨hu7, hr41⟩ := hfr hw
  have hu0 := (unit_in fA ao).1
  obtain ⟨U, hU⟩ : ∃ U : Nat, (FX0_unit fA ao).toInt = U := ⟨(FX0_unit fA ao).toInt.toNat, by omega⟩
  have hs : (FX0_size fA).toInt = m := by rw [size_i (by omega) (by omega)]; omega
  have es : FX0_size fA = i4 := Int32.toInt_inj.mp (by rw [hs, h4])
  have hre : (FX0_reach fA ao).toInt = ((4 * U + m : Nat) : Int) := by rw [reach_i h9 hl41]; omega
  have eR : (4 : Int32) * (ao 6 &&& 127) + i4 = FX0_reach fA ao := by
    unfold FX0_reach FX0_unit
    rw [es]
  have eUn : FX0_unit fA ao = ao 6 &&& 127 := rfl
  have oU : ao 6 &&& 127 = Int32.ofNat U := Int32.toInt_inj.mp (by rw [← eUn, hU]; exact (nI_toInt (by omega)).symm)
  have oR : FX0_reach fA ao = Int32.ofNat (4 * U + m) := Int32.toInt_inj.mp (by rw [hre]; exact (nI_toInt (by omega)).symm)
  have oS : FX0_size fA = Int32.ofNat m := Int32.toInt_inj.mp (by rw [hs]; exact (nI_toInt (by omega)).symm)
  have eun : FX0_units fA ao = ((((1 : Int32) <<< ((((Int32.ofNat m + (4 : Int32)) - (1 : Int32)) / (4 : Int32)) &&& 31)) - (1 : Int32)) <<< (Int32.ofNat U &&& 31)) := by
    unfold FX0_units FX9_unitsUpTo
    rw [oS, eUn, oU]
  have emn : mnL (ao 6 &&& 127) (FX0_reach fA ao) 8 0 0 = FX0_units fA ao := by
    rw [oU, oR, eun]; exact mnL_v U (by omega) m (by omega) (by omega)
  have ec := eun.trans (cu_v U (by omega) m (by omega) (by omega))
  obtain ⟨cl, ce⟩ := cu_lt U (by omega) m (by omega) (by omega)
  have c256 : (2 ^ ((m + 3) / 4) - 1) * 2 ^ U < 256 := Nat.lt_of_lt_of_le cl (pow_8 (4 * U + m) (by omega))
  have cb := cu_bit U (by omega) m (by omega) (by omega)
  generalize (2 ^ ((m + 3) / 4) - 1) * 2 ^ U = c at ec cl ce c256 cb
  obtain ⟨k, K, P2, P3, A2, A3, A4, A5, A6, A7, A8, A9, eP, eA, hk, hK, hM2, hus, hso, hA2, hA27⟩ := sim_place (fA := fA) (ao := ao) hM a0 a1 hN
  have ek : k.toNatClampNeg = K := tcE hk
  obtain ⟨c1, c2, c3, c4⟩ := hM2.1 K hK
  obtain ⟨b1, b2, b3, b4, b5, b6, b7, b8, b9, b10⟩ := c4 hus
  obtain ⟨j, hj⟩ : ∃ j : Nat, (A6 K).toInt = j := ⟨(A6 K).toInt.toNat, by have := b5.1; omega⟩
  have j256 : j < 256 := by have := b5.2; omega
  have oj : A6 K = Int32.ofNat j := Int32.toInt_inj.mp (by rw [hj]; exact (nI_toInt (by omega)).symm)
  have hla7 : ∀ q, (A7 q).toInt ≤ 32 := by
    intro q
    have := asm_last (mF := mF) (us := us) (so := so) (di := di) (un := un) (si := si) (od := od) (i0 := ao 3) (i1 := ao 5) hla q
    rw [eA] at this
    exact this
  have hdiv : (FX0_reach fA ao / 4) = Int32.ofNat ((4 * U + m) / 4) := by
    rw [oR]
    exact pk_div (a := 4 * U + m) (d := 4) (by omega) (by omega) (by omega)
  have hsh : ((A6 K) >>> ((FX0_reach fA ao / 4) &&& 31)) = Int32.ofNat (j / 2 ^ ((4 * U + m) / 4)) := by
    rw [hdiv, oj]; exact shr_q j j256 _ (by omega)
  have hjd : j / 2 ^ ((4 * U + m) / 4) ≤ j := Nat.div_le_self _ _
  have hsz : ((A6 K) >>> ((FX0_reach fA ao / 4) &&& 31)) = 0 ↔ j / 2 ^ ((4 * U + m) / 4) = 0 := by
    rw [hsh]; exact ofN_0 (by omega)
  have hlt : j / 2 ^ ((4 * U + m) / 4) = 0 → j < 2 ^ ((4 * U + m) / 4) := fun e => by
    rcases Nat.div_eq_zero_iff.mp e with z | z
    · exact absurd z (Nat.ne_of_gt (Nat.two_pow_pos _))
    · exact z
  have hiE := hiL_v hj j256
  have hib := hiv_b j j256
  have hiq := hiv_q j j256 ((4 * U + m) / 4) (by omega)
  have E1 : (A7 K).toInt < 0 → (((A6 K) >>> ((FX0_reach fA ao / 4) &&& 31)) = 0 ↔ (4 : Int32) * hiv j + 4 ≤ FX0_reach fA ao) := fun _ => by
    have e4 : ((4 : Int32) * hiv j).toInt = 4 * (hiv j).toInt := tI_cm 4 k4 (by omega) (by omega)
    have e5 : ((4 : Int32) * hiv j + 4).toInt = 4 * (hiv j).toInt + 4 := by rw [tI_ac 4 k4 (by omega) (by omega), e4]
    rw [hsz, hiq, Int32.le_iff_toInt_le, e5, hre]
    omega
  have E2 : ((A6 K) &&& FX0_units fA ao) = 0 → 0 ≤ (A7 K).toInt → FX0_reach fA ao = A7 K → ((A6 K) >>> ((FX0_reach fA ao / 4) &&& 31)) = 0 := fun e0 e1 e2 => by
    rw [hsz]
    have e7 : (A7 K).toInt = ((4 * U + m : Nat) : Int) := by rw [← e2]; exact hre
    rcases b7 with z | ⟨z1, z2, z3⟩
    · rw [z, km1] at e1; omega
    · rw [hj, e7] at z3
      have z4 : j < 2 ^ ((4 * U + m + 3) / 4) := by
        rw [show ((4 * U + m : Nat) : Int).toNat = 4 * U + m from rfl] at z3
        have z5 : ((2 : Int) ^ ((4 * U + m + 3) / 4)) = ((2 ^ ((4 * U + m + 3) / 4) : Nat) : Int) := by rw [Int.natCast_pow]; rfl
        rw [z5] at z3
        omega
      apply Nat.div_eq_of_lt
      by_cases r4 : (4 * U + m) % 4 = 0
      · rw [show (4 * U + m + 3) / 4 = (4 * U + m) / 4 by omega] at z4
        exact z4
      · rw [show (4 * U + m + 3) / 4 = (4 * U + m) / 4 + 1 by omega] at z4
        refine bit_lt z4 ?_ (cb r4)
        rw [oj, ec, and_N j c j256 c256] at e0
        exact (ofN_0 (Nat.lt_of_le_of_lt Nat.and_le_left (by omega))).mp e0
  have R8 : A2 8 = mF 8 := hA2 8 (by decide)
  have hF2 : R_F fW wl wr A2 out ol := by
    obtain ⟨f1, f2, f3, f4, f5⟩ := id hF
    exact ⟨f1, f2, by rw [f3, R8], f4, f5⟩
  have base : TaP (fR, fSs, sos, sis, sg, fW, wl, wr, fH, aC) (A2, out, ol, sd, st, wi, pa, se, fi, qd, po, ne, bd, bx, qu, ad, ti, tr, an) A2 (fW 4).toInt := ⟨hF2, hid.trans (hA2 9 (by decide)).symm, hR, hr4.trans (hA2 10 (by decide)).symm, hr5.trans (hA2 11 (by decide)).symm, hr6.trans (hA2 12 (by decide)).symm, fun _ _ _ _ _ _ _ _ => rfl, hq64, had, Int.le_refl _, by show (fW 4).toInt ≤ _; omega⟩
  have hw0 : FX0_isWhole fA ao = 0 := by
    unfold FX0_isWhole
    rw [if_neg hw]
  obtain ⟨n', y', e32, hy8⟩ := fr32 (kn := kn) (out := out) (ol := ol) (sd := sd) (st := st) (wi := wi) (pa := pa) (se := se) (fi := fi) (qd := qd) (po := po) (ne := ne) (bd := bd) (bx := bx) (qu := qu) (ad := ad) (ti := ti) (tr := tr) (ld := ld) (an := an) (nl := nl) (nm := nm) (bl := bl) (bo := bo) (ck := ck) (pr := pr) (pc := pc) (i0 := ao 3) (i2 := ao 6) (i3 := ao 7) (i4 := i4) (r := k) (u1 := A2) (u2 := A3) (u3 := A4) (u4 := A5) (u5 := A6) (u6 := A7) (u7 := A8) (u8 := A9) (x2 := ao 6 &&& 127) (x3 := FX0_reach fA ao) 8 128 0 0 (-1) 0 rfl (by omega) (by omega)
  have eM : FX10_fragment mF kn out ol sd st wi pa se fi qd po ne bd bx qu ad ti tr ld an nl nm bl bo ck us so di un la si od pr pc (ao 3) (ao 5) (ao 6) (ao 7) i4 = if FX1_clashesWith (P3 K) fA ao = 0 then (if FX0_isEnd fA ao = 0 then JX10_fragment_191 kn out ol sd st wi pa se fi qd po ne bd bx qu ad ti tr ld an nl nm bl bo ck pr pc (ao 3) (ao 7) i4 k A2 A3 A4 A5 A6 A7 A8 A9 (ao 6 &&& 127) (FX0_reach fA ao) (FX0_units fA ao) 0 else JX10_fragment_191 kn out ol sd st wi pa se fi qd po ne bd bx qu ad ti tr ld an nl nm bl bo ck pr pc (ao 3) (ao 7) i4 k A2 A3 A4 A5 A6 A7 A8 A9 (ao 6 &&& 127) (FX0_reach fA ao) (FX0_units fA ao) 1) else JX10_fragment_182 out ol sd st wi pa se fi qd po ne bd bx qu ad ti tr ld an pr pc k A2 A3 A4 A5 A6 A7 A8 A9 := by
    unfold FX10_fragment KX10_fragment_3
    rw [eA]
    dsimp only
    rw [eR, e32, ek, hiE, emn, LX10_fragment_32, if_pos (Int32.le_iff_toInt_le.mpr (by rw [k8]; omega)), ek]
    exact clash_eq _ _ _ b4 b6 rfl rfl rfl E1 E2
  have eC : FX3_completes fG fMs mos fA ao fD dp = if FX1_clashesWith (P3 K) fA ao = 0 then KX3_completes_64 mos fD dp k P2 P3 (FX1_put (P3 K) (mos K) fA ao) else (0, P2, va_up P3 K (upd (P3 K) 1 0), mos, fD, dp) := by
    unfold FX3_completes
    rw [if_pos hw0, eP]
    unfold KX3_completes_42
    dsimp only
    rw [ek]
  by_cases hc : FX1_clashesWith (P3 K) fA ao = 0
  · rw [if_pos hc] at eM eC
    obtain ⟨d1, d2, d3⟩ := clash_0 hc
    rw [b4] at d1 d3
    rw [b6] at d2
    -- the one side
    obtain ⟨f', mo', p1, p2, p3, p4, p5, p6, p7⟩ := put9 (fM := P3 K) (fA := fA) (ao := ao) (x := (4 : Int32) * FX0_unit fA ao) (U4 := 4 * U) (S := m) (tI_mulN 4 U k4 hU (by omega)) hs (by omega) 128 0 0 (mos K) rfl (by omega) (by omega)
    have ePut : FX1_put (P3 K) (mos K) fA ao = (f', mo') := p1
    rw [ePut] at eC
    unfold KX3_completes_64 at eC
    dsimp only at eC
    rw [ek] at eC
    -- the other side
    have oun : A6 K ||| FX0_units fA ao = Int32.ofNat (j ||| c) := by rw [oj, ec]; exact or_N j c j256 c256
    have jc : j ||| c < 2 ^ 8 := Nat.or_lt_two_pow (n := 8) j256 c256
    have hunI : (A6 K ||| FX0_units fA ao).toInt = ((j ||| c : Nat) : Int) := by rw [oun]; exact nI_toInt (by omega)
    obtain ⟨zl, hzl, hzlj, hzl32⟩ : ∃ zl : (Nat → Int32), zl = (if FX0_isEnd fA ao = 0 then A7 else upd A7 K (FX0_reach fA ao)) ∧ (∀ q, q ≠ K → zl q = A7 q) ∧ (∀ q, (zl q).toInt ≤ 32) := by
      refine ⟨_, rfl, fun q hq => ?_, fun q => ?_⟩
      · split
        · rfl
        · exact pk_un hq
      · split
        · exact hla7 q
        · by_cases e : q = K
          · rw [e, pk_us, hre]; omega
          · rw [pk_un e]; exact hla7 q
    obtain ⟨zp, hzp, hzpj⟩ : ∃ zp : (Nat → Int32), zp = (if ao 6 &&& 127 = 0 then upd pr K (ao 7) else pr) ∧ (∀ q, q ≠ K → zp q = pr q) := by
      refine ⟨_, rfl, fun q hq => ?_⟩
      split
      · exact pk_un hq
      · rfl
    have eJ : (if FX0_isEnd fA ao = 0 then JX10_fragment_191 kn out ol sd st wi pa se fi qd po ne bd bx qu ad ti tr ld an nl nm bl bo ck pr pc (ao 3) (ao 7) i4 k A2 A3 A4 A5 A6 A7 A8 A9 (ao 6 &&& 127) (FX0_reach fA ao) (FX0_units fA ao) 0 else JX10_fragment_191 kn out ol sd st wi pa se fi qd po ne bd bx qu ad ti tr ld an nl nm bl bo ck pr pc (ao 3) (ao 7) i4 k A2 A3 A4 A5 A6 A7 A8 A9 (ao 6 &&& 127) (FX0_reach fA ao) (FX0_units fA ao) 1) = LX10_fragment_234 kn out ol sd st wi pa se fi qd po ne bd bx qu ad ti tr ld an nl nm bl bo ck (ao 3) i4 k A2 A3 A4 A5 A6 A8 A9 (ao 6 &&& 127) (A6 K ||| FX0_units fA ao) zl zp 128 0 pc := by
      unfold JX10_fragment_191 JX10_fragment_217 JX10_fragment_231
      rw [ek, hzl, hzp]
      by_cases q : FX0_isEnd fA ao = 0
      · rw [if_pos q, if_pos rfl, if_pos q]
        by_cases z : ao 6 &&& 127 = 0
        · rw [if_pos z, if_pos z]
        · rw [if_neg z, if_neg z]
      · rw [if_neg q, if_neg (show ¬ (1 : Int32) = 0 by decide), if_neg q]
        by_cases z : ao 6 &&& 127 = 0
        · rw [if_pos z, if_pos z]
        · rw [if_neg z, if_neg z]
    rw [eJ] at eM
    obtain ⟨n2, y2, pc', e234, hy2, q1, q2⟩ := fr234 (kn := kn) (out := out) (ol := ol) (sd := sd) (st := st) (wi := wi) (pa := pa) (se := se) (fi := fi) (qd := qd) (po := po) (ne := ne) (bd := bd) (bx := bx) (qu := qu) (ad := ad) (ti := ti) (tr := tr) (ld := ld) (an := an) (nl := nl) (nm := nm) (bl := bl) (bo := bo) (ck := ck) (i0 := ao 3) (u1 := A2) (u2 := A3) (u3 := A4) (u4 := A5) (u5 := A6) (u7 := A8) (u8 := A9) (x2 := ao 6 &&& 127) (v5 := A6 K ||| FX0_units fA ao) (zl := zl) (zp := zp) (r := k) hk hK (by rw [← eUn]; exact hU) h4 (by omega) 128 0 0 pc rfl (by omega) (by omega)
    rw [e234, LX10_fragment_234, if_pos hy2, ek, pk_us] at eM
    -- the numbers of the assembly
    have hl6 : f' 6 = zl K := by
      rw [p5, hzl, b6]
      split
      · rfl
      · rw [pk_us]
    have hp4 : (j ||| c) % 2 = 1 → f' 4 = zp K := fun od => by
      rw [p4, hzp, eUn]
      by_cases z : ao 6 &&& 127 = 0
      · rw [if_pos z, if_pos z, pk_us]
      · rw [if_neg z, if_neg z]
        have hU1 : 1 ≤ U := by
          have := neT (a := 0) z rfl
          rw [← eUn, hU] at this
          omega
        exact b10 (by rw [hj]; have := odd_or (ce hU1) od; omega)
    have hlaK : zl K = -1 ∨ (4 ≤ (zl K).toInt ∧ (zl K).toInt ≤ 32 ∧ j ||| c < 2 ^ (((zl K).toInt.toNat + 3) / 4)) := by
      rw [hzl]
      by_cases q : FX0_isEnd fA ao = 0
      · rw [if_pos q]
        rcases b7 with z | ⟨z1, z2, z3⟩
        · exact Or.inl z
        · refine Or.inr ⟨z1, z2, ?_⟩
          have z5 : ((2 : Int) ^ (((A7 K).toInt.toNat + 3) / 4)) = ((2 ^ (((A7 K).toInt.toNat + 3) / 4) : Nat) : Int) := by rw [Int.natCast_pow]; rfl
          rw [z5, hj] at z3
          have hle : 4 * U + m ≤ (A7 K).toInt.toNat := by
            rcases d2 with w | w
            · have := lT w; rw [k0] at this; omega
            · have := lTn w; omega
          exact Nat.or_lt_two_pow (by omega) (Nat.lt_of_lt_of_le cl (pow_mono hle))
      · rw [if_neg q, pk_us]
        have pl : (ao 6).toInt < 128 := by
          unfold FX0_isEnd at q
          split at q
          · exact absurd rfl q
          · rename_i w
            have := iTn w; rw [k128] at this; exact this
        have hU1 : 1 ≤ U := by
          have o6 := (hO 6).1
          have e6 : ao 6 &&& 127 = ao 6 := by
            obtain ⟨t, ht, e⟩ := nI_of (x := ao 6) (fun w => by have := lT w; rw [k0] at this; omega)
            have ht2 : (ao 6).toInt = t := by rw [e]; exact nI_toInt ht
            rw [e, pk_andN (by omega) 7 (by decide), show 2 ^ 7 = 128 from rfl, Nat.mod_eq_of_lt (by omega)]
          have := neT (a := 0) hw rfl
          rw [eUn, e6] at hU
          omega
        refine Or.inr ⟨by rw [hre]; omega, by rw [hre]; omega, ?_⟩
        rw [hre]
        have hj4 := hlt (hsz.mp (d3 q))
        exact Nat.or_lt_two_pow (Nat.lt_of_lt_of_le hj4 (Nat.pow_le_pow_right (by decide) (by omega))) cl
    have hmo : ∀ i, i < 32 → mo' i = pc' (32 * K + i) ∧ oct (pc' (32 * K + i)) := fun i hi => by
      by_cases z : 4 * U ≤ i ∧ i < 4 * U + m
      · obtain ⟨t, rfl⟩ : ∃ t, i = 4 * U + t := ⟨i - 4 * U, by omega⟩
        rw [p6 t (by omega) (by omega), q1 t (by omega) (by omega), hld t (by omega)]
        exact ⟨rfl, hO _⟩
      · rw [p7 i (by omega), q2 _ (by omega)]
        exact c3 i hi
    have hRM : RM f' mo' (A3 K) (A4 K) (A5 K) (upd A6 K (A6 K ||| FX0_units fA ao) K) (zl K) (A8 K) (zp K) (A2 5) (fun i => pc' (32 * K + i)) := by
      rw [pk_us]
      refine ⟨(p2 1 (by decide) (by decide) (by decide)).trans c1, c2, hmo, fun _ => ⟨(p2 2 (by decide) (by decide) (by decide)).trans b1, b2, (p2 3 (by decide) (by decide) (by decide)).trans b3, by rw [p3, b4], ⟨by rw [hunI]; omega, by rw [hunI]; omega⟩, hl6, ?_, (p2 7 (by decide) (by decide) (by decide)).trans b8, b9, fun e => hp4 (by rw [hunI] at e; omega)⟩⟩
      rcases hlaK with z | ⟨z1, z2, z3⟩
      · exact Or.inl z
      · refine Or.inr ⟨z1, z2, ?_⟩
        have z5 : ((2 : Int) ^ (((zl K).toInt.toNat + 3) / 4)) = ((2 ^ (((zl K).toInt.toNat + 3) / 4) : Nat) : Int) := by rw [Int.natCast_pow]; rfl
        rw [hunI, z5]
        omega
    have hpcj : ∀ q, (q < 32 * K ∨ 32 * K + 32 ≤ q) → pc' q = pc q := fun q hq => q2 q (by omega)
    have ret : FX1_isComplete f' = 0 → FX10_fragment mF kn out ol sd st wi pa se fi qd po ne bd bx qu ad ti tr ld an nl nm bl bo ck us so di un la si od pr pc (ao 3) (ao 5) (ao 6) (ao 7) i4 = (A2, out, ol, sd, st, wi, pa, se, fi, qd, po, ne, bd, bx, qu, ad, ti, tr, ld, an, A3, A4, A5, upd A6 K (A6 K ||| FX0_units fA ao), zl, A8, A9, zp, pc') → ∃ (cw : Int32 × (Nat → Int32) × (Nat → Nat → Int32) × (Nat → Nat → Int32) × (Nat → Int32) × (Nat → Int32)) (M : (Nat → Int32) × (Nat → Int32) × (Nat → Int32) × (Nat → Int32) × (Nat → Int32) × (Nat → Int32) × (Nat → Int32) × (Nat → Int32) × (Nat → Int32) × (Nat → Int32) × (Nat → Int32) × (Nat → Int32) × (Nat → Int32) × (Nat → Int32) × (Nat → Int32) × (Nat → Int32) × (Nat → Int32) × (Nat → Int32) × (Nat → Int32) × (Nat → Int32) × (Nat → Int32) × (Nat → Int32) × (Nat → Int32) × (Nat → Int32) × (Nat → Int32) × (Nat → Int32) × (Nat → Int32) × (Nat → Int32) × (Nat → Int32)) (A2 : (Nat → Int32)), FX3_completes fG fMs mos fA ao fD dp = cw ∧ FX10_fragment mF kn out ol sd st wi pa se fi qd po ne bd bx qu ad ti tr ld an nl nm bl bo ck us so di un la si od pr pc (ao 3) (ao 5) (ao 6) (ao 7) i4 = M ∧ (∀ j, j ≠ 27 → A2 j = mF j) ∧ (A2 27).toInt ≤ (mF 27).toInt + 1
      ∧ TaP (frC fR fSs sos sis sg fW wst wl wr fH fTs tls tbs aC tm cw) (M.1, M.2.1, M.2.2.1, M.2.2.2.1, M.2.2.2.2.1, M.2.2.2.2.2.1, M.2.2.2.2.2.2.1, M.2.2.2.2.2.2.2.1, M.2.2.2.2.2.2.2.2.1, M.2.2.2.2.2.2.2.2.2.1, M.2.2.2.2.2.2.2.2.2.2.1, M.2.2.2.2.2.2.2.2.2.2.2.1, M.2.2.2.2.2.2.2.2.2.2.2.2.1, M.2.2.2.2.2.2.2.2.2.2.2.2.2.1, M.2.2.2.2.2.2.2.2.2.2.2.2.2.2.1, M.2.2.2.2.2.2.2.2.2.2.2.2.2.2.2.1, M.2.2.2.2.2.2.2.2.2.2.2.2.2.2.2.2.1, M.2.2.2.2.2.2.2.2.2.2.2.2.2.2.2.2.2.1, M.2.2.2.2.2.2.2.2.2.2.2.2.2.2.2.2.2.2.2.1) A2 (fW 4).toInt
      ∧ R_M cw.2.1 cw.2.2.1 cw.2.2.2.1 M.1 M.2.2.2.2.2.2.2.2.2.2.2.2.2.2.2.2.2.2.2.2.1 M.2.2.2.2.2.2.2.2.2.2.2.2.2.2.2.2.2.2.2.2.2.1 M.2.2.2.2.2.2.2.2.2.2.2.2.2.2.2.2.2.2.2.2.2.2.1 M.2.2.2.2.2.2.2.2.2.2.2.2.2.2.2.2.2.2.2.2.2.2.2.1 M.2.2.2.2.2.2.2.2.2.2.2.2.2.2.2.2.2.2.2.2.2.2.2.2.1 M.2.2.2.2.2.2.2.2.2.2.2.2.2.2.2.2.2.2.2.2.2.2.2.2.2.1 M.2.2.2.2.2.2.2.2.2.2.2.2.2.2.2.2.2.2.2.2.2.2.2.2.2.2.1 M.2.2.2.2.2.2.2.2.2.2.2.2.2.2.2.2.2.2.2.2.2.2.2.2.2.2.2.1 M.2.2.2.2.2.2.2.2.2.2.2.2.2.2.2.2.2.2.2.2.2.2.2.2.2.2.2.2 ∧ (∀ k, (M.2.2.2.2.2.2.2.2.2.2.2.2.2.2.2.2.2.2.2.2.2.2.2.2.1 k).toInt ≤ 32) := fun hcp e => by
      rw [if_pos hcp] at eC
      refine ⟨_, _, A2, eC, e, hA2, hA27, ?_, ?_, hzl32⟩
      · unfold frC
        rw [if_pos rfl]
        exact base
      · exact R_M_up hM2 rfl rfl hRM (fun q hq => ⟨rfl, rfl, rfl, pk_un hq, hzlj q hq, rfl, hzpj q hq⟩) id hpcj vu_s (fun q hq => vu_n hq)
    have hic : FX1_isComplete f' = if zl K < 0 then 0 else if (A6 K ||| FX0_units fA ao) = FX9_unitsUpTo (zl K) then 1 else 0 := by
      unfold FX1_isComplete
      rw [hl6, p3, b4]
    by_cases z0 : zl K < 0
    · rw [if_pos z0] at eM hic
      exact ret hic eM
    · have z0' := lTn z0
      rw [k0] at z0'
      rw [if_neg z0] at eM hic
      obtain ⟨L, hL⟩ : ∃ L : Nat, (zl K).toInt = L := ⟨(zl K).toInt.toNat, by omega⟩
      have hL32 := hzl32 K
      have eup : FX9_unitsUpTo (zl K) = (((1 : Int32) <<< (((zl K + (3 : Int32)) / (4 : Int32)) &&& 31)) - (1 : Int32)) := by
        unfold FX9_unitsUpTo
        have e3 : zl K + 4 - 1 = zl K + 3 := Int32.toInt_inj.mp (by
          have e4 : (zl K + 4).toInt = (zl K).toInt + 4 := tI_ac 4 k4 (by omega) (by omega)
          rw [tI_sc 1 k1 (by omega) (by omega), e4, tI_ac 3 k3 (by omega) (by omega)]; omega)
        rw [e3]
      rw [eup] at hic
      by_cases zc : (A6 K ||| FX0_units fA ao) = (((1 : Int32) <<< (((zl K + (3 : Int32)) / (4 : Int32)) &&& 31)) - (1 : Int32))
      · rw [if_pos zc] at eM hic
        rw [hic, if_neg (show ¬ (1 : Int32) = 0 by decide)] at eC
        have hL4 : 4 ≤ L := by
          rcases hlaK with z | ⟨z1, _, _⟩
          · rw [z, km1] at z0'; omega
          · omega
        have hodd : (j ||| c) % 2 = 1 := by
          have oL : zl K = Int32.ofNat L := Int32.toInt_inj.mp (by rw [hL]; exact (nI_toInt (by omega)).symm)
          have e1 : Int32.ofNat (j ||| c) = Int32.ofNat (2 ^ ((L + 3) / 4) - 1) := by rw [← oun, zc, oL]; exact upTo_v L (by omega)
          have e2 := pow_8 L (by omega)
          have e3 : (j ||| c) = 2 ^ ((L + 3) / 4) - 1 := by
            have i1 := nI_toInt (n := j ||| c) (by omega)
            have i2 := nI_toInt (n := 2 ^ ((L + 3) / 4) - 1) (by omega)
            have e1' : nI (j ||| c) = nI (2 ^ ((L + 3) / 4) - 1) := e1
            rw [e1', i2] at i1
            omega
          have e4 : 2 ^ ((L + 3) / 4) = 2 * 2 ^ ((L + 3) / 4 - 1) := by
            rw [← Nat.pow_succ']
            congr 1
            omega
          have e5 := Nat.two_pow_pos ((L + 3) / 4 - 1)
          omega
        obtain ⟨dp', g1, g2, _⟩ := fill19 (fD := fD) (rb := mo') (i0 := f' 2) (i1 := f' 4) (i2 := 0) (i3 := f' 6) (A := 0) (m := L) rfl (by rw [hl6]; exact hL) (by omega) (by omega) 128 0 0 dp rfl (by omega) (by omega)
        have eFill : FX2_fill fD dp mo' (f' 2) (f' 4) 0 (f' 6) = (upd (upd (upd fD 1 (f' 2)) 2 (f' 4)) 3 (f' 6), dp') := g1
        rw [eFill] at eC
        unfold KX3_completes_99 at eC
        dsimp only at eC
        rw [ek] at eC
        obtain ⟨ld', t1, t2, _⟩ := fr319 (kn := kn) (out := out) (ol := ol) (sd := sd) (st := st) (wi := wi) (pa := pa) (se := se) (fi := fi) (qd := qd) (po := po) (ne := ne) (bd := bd) (bx := bx) (qu := qu) (ad := ad) (ti := ti) (tr := tr) (an := an) (nl := nl) (nm := nm) (bl := bl) (bo := bo) (ck := ck) (i0 := ao 3) (u1 := A2) (u2 := A3) (u3 := A4) (u4 := A5) (u5 := A6) (u7 := A8) (u8 := A9) (v5 := A6 K ||| FX0_units fA ao) (zl := zl) (zp := zp) (zc := pc') (r := k) hk hK hL (by omega) 128 0 0 ld rfl (by omega) (by omega)
        rw [t1] at eM
        unfold KX10_fragment_373 at eM
        rw [ek] at eM
        have key := sim_dat (fR := fR) (fSs := fSs) (sos := sos) (sis := sis) (sg := sg) (fW := fW) (wst := wst) (wl := wl) (wr := wr) (fH := fH) (fTs := fTs) (tls := tls) (tbs := tbs) (aC := aC) (fD := upd (upd (upd fD 1 (f' 2)) 2 (f' 4)) 3 (f' 6)) (dp := dp') (mF := A2) (kn := kn) (out := out) (ol := ol) (sd := sd) (ld := ld') (an := an) (nl := nl) (nm := nm) (bl := bl) (bo := bo) (ck := ck) (i0 := ao 3) (i1 := zp K) (i2 := zl K) (tm := tm) (m := L) hR hF2 hT (by rw [hA2 9 (by decide)]; exact hid) hKn hTx (by rw [hA2 10 (by decide)]; exact hr4) (by rw [hA2 11 (by decide)]; exact hr5) (by rw [hA2 12 (by decide)]; exact hr6) hq64 had a0 a1 (((p2 2 (by decide) (by decide) (by decide)).trans b1).trans hso) (hp4 hodd) hl6 hL (by omega) (fun i hi => by
          rw [g2 i (by omega) hi, t2 i (by omega) hi, Nat.zero_add]
          exact hmo i (by omega)) (by rw [hA2 5 (by decide)]; exact ht)
        generalize FX10_take A2 kn out ol sd st wi pa se fi qd po ne bd bx qu ad ti tr ld' an nl nm bl bo ck (ao 3) (zp K) (zl K) = w at key eM
        have k7 := key.2.2.2.2.2.2.1
        refine ⟨_, _, A2, eC, eM, hA2, hA27, ?_, ?_, hzl32⟩
        · unfold frC
          rw [if_neg (show ¬ (1 : Int32) = 0 by decide)]
          exact key
        · refine R_M_up hM2 (k7 5 (by decide) (by decide) (by decide) (by decide) (by decide) (by decide) (by decide)) (k7 27 (by decide) (by decide) (by decide) (by decide) (by decide) (by decide) (by decide)) (K := K) (f' := upd f' 1 0) (m' := mo') ?_ (fun q hq => ⟨pk_un hq, rfl, rfl, pk_un hq, hzlj q hq, rfl, hzpj q hq⟩) (fun e => absurd (pk_us (f := A3) (k := K) (x := 0)) e) hpcj vu_s (fun q hq => vu_n hq)
          show RM (upd f' 1 0) mo' (upd A3 K 0 K) (A4 K) (A5 K) (upd A6 K (A6 K ||| FX0_units fA ao) K) (zl K) (A8 K) (zp K) (A2 5) (fun i => pc' (32 * K + i))
          rw [pk_us (f := A3)]
          exact ⟨rfl, Or.inl rfl, hmo, fun e => absurd rfl e⟩
      · rw [if_neg zc] at eM hic
        exact ret hic eM
  · rw [if_neg hc] at eM eC
    unfold JX10_fragment_182 at eM
    rw [ek] at eM
    refine ⟨_, _, A2, eC, eM, hA2, hA27, ?_, ?_, hla7⟩
    · unfold frC
      rw [if_pos rfl]
      exact base
    · refine R_M_up hM2 rfl rfl (K := K) (f' := upd (P3 K) 1 0) (m' := mos K) ?_ (fun q hq => ⟨pk_un hq, rfl, rfl, rfl, rfl, rfl, rfl⟩) (fun e => absurd (pk_us (f := A3) (k := K) (x := 0)) e) (fun _ _ => rfl) rfl (fun _ _ => rfl)
      show RM (upd (P3 K) 1 0) (mos K) (upd A3 K 0 K) (A4 K) (A5 K) (A6 K) (A7 K) (A8 K) (pr K) (A2 5) (fun i => pc (32 * K + i))
      rw [pk_us (f := A3)]
      exact ⟨rfl, Or.inl rfl, c3, fun e => absurd rfl e⟩

