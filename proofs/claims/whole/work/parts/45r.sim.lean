-- the simulation: a frame arrives
theorem sz4 {fA ao : (Nat → Int32)} : ∀ (n : Nat) (y s : Int32) (Y m : Nat), y.toInt = Y → (fA 1).toInt = ((Y + m : Nat) : Int) → m < n → Y + m ≤ 100 → LX0_sumsToZero_4 fA ao n y s = if (smf ao m Y s &&& 255) = 0 then 1 else 0 := by
  intro n
  induction n with
  | zero => intro y s Y m _ _ h; omega
  | succ n ih =>
    intro y s Y m hy hm h hs
    rw [LX0_sumsToZero_4]
    by_cases q : fA 1 ≤ y
    · have q' := iT q
      obtain rfl : m = 0 := by omega
      rw [if_pos q]; rfl
    · have q' := iTn q
      obtain ⟨m', rfl⟩ : ∃ m', m = m' + 1 := ⟨m - 1, by omega⟩
      have h9 := tI_s (a := y) (by omega)
      rw [if_neg q, ih (y + 1) _ (Y + 1) m' (by omega) (by omega) (by omega) (by omega), tcE hy]
      rfl
theorem gd105 {ao : (Nat → Int32)} {i0 : Int32} : ∀ (n : Nat) (y s : Int32) (Y m : Nat), y.toInt = Y → i0.toInt = ((Y + m : Nat) : Int) → m < n → Y + m ≤ 100 → ∃ (n' : Nat) (y' : Int32), LX10_isGood_105 ao i0 n y s = LX10_isGood_105 ao i0 (n' + 1) y' (smf ao m Y s) ∧ i0 ≤ y' := by
  intro n
  induction n with
  | zero => intro y s Y m _ _ h; omega
  | succ n ih =>
    intro y s Y m hy hm h hs
    by_cases q : i0 ≤ y
    · have q' := iT q
      obtain rfl : m = 0 := by omega
      exact ⟨n, y, rfl, q⟩
    · have q' := iTn q
      obtain ⟨m', rfl⟩ : ∃ m', m = m' + 1 := ⟨m - 1, by omega⟩
      have h9 := tI_s (a := y) (by omega)
      rw [LX10_isGood_105, if_neg q, tcE hy]
      exact ih (y + 1) _ (Y + 1) m' (by omega) (by omega) (by omega) (by omega)
theorem sim_fitD {fA ao : (Nat → Int32)} (h5 : 5 ≤ (fA 1).toInt) (h41 : (fA 1).toInt ≤ 41) : (if FX0_isFitDatagram fA ao = 0 then (0 : Int32) else 1) = LX10_isGood_105 ao (fA 1) 128 3 0 := by
  have n10 : ¬ (1 : Int32) = 0 := by decide
  obtain ⟨m, hm⟩ : ∃ m : Nat, (fA 1).toInt = ((3 + m : Nat) : Int) := ⟨(fA 1).toInt.toNat - 3, by omega⟩
  obtain ⟨n', y', e, hy⟩ := gd105 (ao := ao) (i0 := fA 1) 128 3 0 3 m rfl hm (by omega) (by omega)
  rw [e, LX10_isGood_105, if_pos hy]
  unfold FX0_isFitDatagram FX0_sumsToZero
  rw [sz4 128 3 0 3 m rfl hm (by omega) (by omega)]
  by_cases a : fA 1 < 9
  · rw [if_pos a, if_pos a, if_pos rfl]
  · have a' := lTn a
    rw [k9] at a'
    rw [if_neg a, if_neg a]
    by_cases b : (smf ao m 3 0 &&& 255) = 0
    · rw [if_pos b, if_pos b]
      by_cases c : ao 4 = 1
      · rw [if_pos c, if_pos c, if_neg n10]
        unfold FX0_isWhole
        by_cases d : ao 6 = 0
        · rw [if_pos d, if_pos d, if_neg n10, if_neg n10]
        · rw [if_neg d, if_neg d, if_pos rfl]
          have es : (FX0_size fA).toInt = (fA 1).toInt - 9 := size_i (by omega) (by omega)
          have er := reach_i (ao := ao) a' h41
          have eu := unit_in fA ao
          have eS : FX0_size fA = fA 1 - 9 := rfl
          have eR : (4 : Int32) * (ao 6 &&& 127) + (fA 1 - 9) = FX0_reach fA ao := rfl
          have eU : ao 6 &&& 127 = FX0_unit fA ao := rfl
          unfold FX0_isFitFragment FX0_isEnd
          rw [eR, eU, ← eS]
          by_cases f : 8 ≤ FX0_unit fA ao
          · rw [if_pos f, if_pos f, if_pos rfl, if_pos rfl]
          · rw [if_neg f, if_neg f]
            by_cases g : FX0_reach fA ao ≤ 32
            · have g' := iT g
              rw [k32] at g'
              rw [if_pos g, if_neg (show ¬ 33 ≤ FX0_reach fA ao from fun q => by have := iT q; rw [show (33 : Int32).toInt = 33 from rfl] at this; omega)]
              by_cases i : 128 ≤ ao 6
              · have i' := iT i
                rw [if_pos i, if_pos rfl, if_neg (show ¬ ao 6 < 128 from fun q => by have := lT q; omega)]
                by_cases k : FX0_size fA ≤ 0
                · rw [if_pos k, if_pos rfl, if_pos rfl]
                · rw [if_neg k]
                  by_cases l : FX0_size fA - FX0_size fA / 4 * 4 = 0
                  · rw [if_pos l, if_neg n10, if_neg n10]
                  · rw [if_neg l, if_pos rfl, if_pos rfl]
              · have i' := iTn i
                rw [if_neg i, if_neg n10, if_pos (show ao 6 < 128 from Int32.lt_iff_toInt_lt.mpr i'), if_neg n10, if_neg n10]
            · have g' := iTn g
              rw [k32] at g'
              rw [if_neg g, if_pos (show 33 ≤ FX0_reach fA ao from Int32.le_iff_toInt_le.mpr (by rw [show (33 : Int32).toInt = 33 from rfl]; omega)), if_pos rfl, if_pos rfl]
      · rw [if_neg c, if_neg c, if_pos rfl]
    · rw [if_neg b, if_neg b]
      by_cases c : ao 4 = 1
      · rw [if_pos c, if_pos rfl, if_pos rfl]
      · rw [if_neg c, if_pos rfl]
theorem sim_fitJ {fA ao : (Nat → Int32)} (h5 : 5 ≤ (fA 1).toInt) (h41 : (fA 1).toInt ≤ 41) : (if (ao 1) < 15 then (if 16 ≤ (ao 3) then (0 : Int32) else (if (ao 4) < 16 then (if (ao 2) = 1 then (if (fA 1) = 5 then 1 else 0) else (if (ao 2) = 2 then (if (fA 1) = 5 then 1 else 0) else (if (ao 2) = 3 then (if (FX0_isFitDatagram fA ao) = 0 then 0 else 1) else 0))) else 0)) else 0) = JX10_isGood_31 ao (fA 1) := by
  have n10 : ¬ (1 : Int32) = 0 := by decide
  have e14 : (14 : Int32).toInt = 14 := rfl
  unfold JX10_isGood_31
  rw [sim_fitD h5 h41]
  by_cases a : ao 1 < 15
  · have a' := lT a
    rw [k15] at a'
    rw [if_pos a, if_neg (show ¬ (14 : Int32) < ao 1 from fun q => by have := lT q; rw [e14] at this; omega)]
    have in2 : FX10_is (ao 2) 1 3 = 0 ↔ ¬ (ao 2 = 1 ∨ ao 2 = 2 ∨ ao 2 = 3) := by
      constructor
      · intro q
        rcases is_f q with w | w
        · rintro (e | e | e) <;> rw [e] at w <;> exact absurd w (by decide)
        · rintro (e | e | e) <;> rw [e] at w <;> exact absurd w (by decide)
      · intro q
        apply Classical.byContradiction
        intro w
        obtain ⟨w0, w1⟩ := is_in w
        rw [k1] at w0
        rw [k3] at w1
        apply q
        rcases (show (ao 2).toInt = (1 : Nat) ∨ (ao 2).toInt = (2 : Nat) ∨ (ao 2).toInt = (3 : Nat) by omega) with e | e | e
        · exact Or.inl (sp_of e 1 rfl)
        · exact Or.inr (Or.inl (sp_of e 2 rfl))
        · exact Or.inr (Or.inr (sp_of e 3 rfl))
    by_cases b : 16 ≤ ao 3
    · have b' := iT b
      rw [k16] at b'
      rw [if_pos b, if_pos (show (15 : Int32) < ao 3 from Int32.lt_iff_toInt_lt.mpr (by rw [k15]; omega))]
      split <;> rfl
    · have b' := iTn b
      rw [k16] at b'
      rw [if_neg b, if_neg (show ¬ (15 : Int32) < ao 3 from fun q => by have := lT q; rw [k15] at this; omega)]
      by_cases c : ao 4 < 16
      · have c' := lT c
        rw [k16] at c'
        rw [if_pos c, if_pos (show ao 4 ≤ 15 from Int32.le_iff_toInt_le.mpr (by rw [k15]; omega))]
        by_cases d1 : ao 2 = 1
        · rw [if_pos d1, if_neg (fun q => (in2.mp q) (Or.inl d1)), if_neg (show ¬ 3 ≤ ao 2 by rw [d1]; decide)]
        · rw [if_neg d1]
          by_cases d2 : ao 2 = 2
          · rw [if_pos d2, if_neg (fun q => (in2.mp q) (Or.inr (Or.inl d2))), if_neg (show ¬ 3 ≤ ao 2 by rw [d2]; decide)]
          · rw [if_neg d2]
            by_cases d3 : ao 2 = 3
            · rw [if_pos d3, if_neg (fun q => (in2.mp q) (Or.inr (Or.inr d3))), if_pos (show 3 ≤ ao 2 by rw [d3]; decide)]
            · rw [if_neg d3, if_pos (in2.mpr (fun q => q.elim d1 (fun q => q.elim d2 d3)))]
      · have c' := lTn c
        rw [k16] at c'
        rw [if_neg c, if_neg (show ¬ ao 4 ≤ 15 from fun q => by have := iT q; rw [k15] at this; omega)]
        split <;> rfl
  · have a' := lTn a
    rw [k15] at a'
    rw [if_neg a, if_pos (show (14 : Int32) < ao 1 from Int32.lt_iff_toInt_lt.mpr (by rw [e14]; omega))]
theorem sim_fit {fA ao mF : (Nat → Int32)} : FX0_isFit fA ao = FX10_isGood mF ao (fA 1) := by
  have n10 : ¬ (1 : Int32) = 0 := by decide
  unfold FX0_isFit FX10_isGood FX10_is
  by_cases a : fA 1 < 5
  · rw [if_pos a, if_pos a, if_pos rfl]
  · have a' := lTn a
    rw [k5] at a'
    rw [if_neg a, if_neg a]
    by_cases b : fA 1 ≤ 41
    · have b' := iT b
      rw [k41] at b'
      rw [if_pos b, if_neg (show ¬ (41 : Int32) < fA 1 from fun q => by have := lT q; rw [k41] at this; omega), if_neg n10, sim_fitJ a' b']
    · have b' := iTn b
      rw [k41] at b'
      rw [if_neg b, if_pos (show (41 : Int32) < fA 1 from Int32.lt_iff_toInt_lt.mpr (by rw [k41]; omega)), if_pos rfl]
theorem ar58 {mF kn out ol sd st wi pa se fi qd po ne bd bx qu ad ti tr an nl nm bl bo ck us so di un la si od pr pc mi : (Nat → Int32)} {x1 x2 f3 : Int32} {n0 : Nat} (h1 : x1.toInt = n0) (hn : n0 ≤ 41) : ∀ (n : Nat) (y : Int32) (Y : Nat) (z : (Nat → Int32)), y.toInt = ((9 + Y : Nat) : Int) → 9 + Y ≤ n0 → n0 - (9 + Y) < n →
    ∃ z', LX10_arrive_58 mF kn out ol sd st wi pa se fi qd po ne bd bx qu ad ti tr an nl nm bl bo ck us so di un la si od pr pc mi x1 x2 f3 n y z = (if mi 6 = 0 then KX10_arrive_112 kn us so di un la si od pr pc x2 (FX10_take (upd (upd mF 4 0) 6 f3) kn out ol sd st wi pa se fi qd po ne bd bx qu ad ti tr z' an nl nm bl bo ck (mi 3) (mi 7) (x1 - (9 : Int32))) z' else KX10_arrive_149 kn x2 (FX10_fragment (upd (upd mF 4 0) 6 f3) kn out ol sd st wi pa se fi qd po ne bd bx qu ad ti tr z' an nl nm bl bo ck us so di un la si od pr pc (mi 3) (mi 5) (mi 6) (mi 7) (x1 - (9 : Int32)))) ∧ (∀ i, Y ≤ i → 9 + i < n0 → z' i = mi (9 + i)) ∧ (∀ i, i < Y → z' i = z i) := by
  intro n
  induction n with
  | zero => intro y Y z _ _ h; omega
  | succ n ih =>
    intro y Y z hy hY h
    rw [LX10_arrive_58]
    by_cases q : x1 ≤ y
    · have q' := iT q
      rw [if_pos q]
      exact ⟨z, rfl, fun i a b => by omega, fun _ _ => rfl⟩
    · have q' := iTn q
      have h9 := tI_s (a := y) (by omega)
      have e1 : (y - (9 : Int32)).toNatClampNeg = Y := tcE (by rw [tI_sc 9 k9 (by omega) (by omega)]; omega)
      rw [if_neg q, e1, tcE hy]
      obtain ⟨z', a, b, c⟩ := ih (y + 1) (Y + 1) (upd z Y (mi (9 + Y))) (by omega) (by omega) (by omega)
      refine ⟨z', a, fun i i0 i1 => ?_, fun i hi => by rw [c i (by omega), pk_un (by omega)]⟩
      by_cases v : i = Y
      · subst v
        rw [c i (by omega), pk_us]
      · exact b i (by omega) i1
theorem ar78 {fZ fA fR : (Nat → Int32)} {fSs sos sis : (Nat → Nat → Int32)} {sg fW wst wl : (Nat → Int32)} {wr : (Nat → Nat → Int32)} {fH : (Nat → Int32)} {fTs tls tbs : (Nat → Nat → Int32)} {aC : (Nat → Int32)} {x1 f3 : Int32} {cw : Int32 × (Nat → Int32) × (Nat → Nat → Int32) × (Nat → Nat → Int32) × (Nat → Int32) × (Nat → Int32)} :
    ∃ (dX : (Nat → Int32)), KX9_arrive_78 fZ fA fR fSs sos sis sg fW wst wl wr fH fTs tls tbs aC x1 f3 cw = ((frC fR fSs sos sis sg fW wst wl wr fH fTs tls tbs aC (fZ 4) cw).2.2.2.2.2.1 4 - x1, upd fZ 5 f3, upd fA 1 0, cw.2.1, cw.2.2.1, cw.2.2.2.1, cw.2.2.2.2.1, dX, (frC fR fSs sos sis sg fW wst wl wr fH fTs tls tbs aC (fZ 4) cw).1, (frC fR fSs sos sis sg fW wst wl wr fH fTs tls tbs aC (fZ 4) cw).2.1, (frC fR fSs sos sis sg fW wst wl wr fH fTs tls tbs aC (fZ 4) cw).2.2.1, (frC fR fSs sos sis sg fW wst wl wr fH fTs tls tbs aC (fZ 4) cw).2.2.2.1, (frC fR fSs sos sis sg fW wst wl wr fH fTs tls tbs aC (fZ 4) cw).2.2.2.2.1, (frC fR fSs sos sis sg fW wst wl wr fH fTs tls tbs aC (fZ 4) cw).2.2.2.2.2.1, wst, (frC fR fSs sos sis sg fW wst wl wr fH fTs tls tbs aC (fZ 4) cw).2.2.2.2.2.2.1, (frC fR fSs sos sis sg fW wst wl wr fH fTs tls tbs aC (fZ 4) cw).2.2.2.2.2.2.2.1, (frC fR fSs sos sis sg fW wst wl wr fH fTs tls tbs aC (fZ 4) cw).2.2.2.2.2.2.2.2.1, (frC fR fSs sos sis sg fW wst wl wr fH fTs tls tbs aC (fZ 4) cw).2.2.2.2.2.2.2.2.2) := by
  unfold KX9_arrive_78 frC datC
  by_cases a : cw.1 = 0
  · rw [if_pos a, if_pos a]
    exact ⟨_, rfl⟩
  · rw [if_neg a, if_neg a]
    by_cases b : FX2_isEchoAsked cw.2.2.2.2.1 cw.2.2.2.2.2 = 0
    · rw [if_pos b, if_pos b]
      by_cases c : FX2_isSegment cw.2.2.2.2.1 = 0
      · rw [if_pos c, if_pos c]
        exact ⟨_, rfl⟩
      · rw [if_neg c, if_neg c]
        exact ⟨_, rfl⟩
    · rw [if_neg b, if_neg b]
      exact ⟨_, rfl⟩
theorem frC_iv {fR : (Nat → Int32)} {fSs sos sis : (Nat → Nat → Int32)} {sg fW wst wl : (Nat → Int32)} {wr : (Nat → Nat → Int32)} {fH : (Nat → Int32)} {fTs tls tbs : (Nat → Nat → Int32)} {aC : (Nat → Int32)} {tm : Int32} {cw : Int32 × (Nat → Int32) × (Nat → Nat → Int32) × (Nat → Nat → Int32) × (Nat → Int32) × (Nat → Int32)} (hW : iv_W fW) (hS : iv_Ss fSs) (hT : iv_Ts fTs) (h : ¬ cw.1 = 0 → 0 ≤ (cw.2.2.2.2.1 1).toInt ∧ (cw.2.2.2.2.1 1).toInt < 16 ∧ (cw.2.2.2.2.1 3).toInt ≤ 32) : iv_Ss (frC fR fSs sos sis sg fW wst wl wr fH fTs tls tbs aC tm cw).2.1 := by
  unfold frC datC
  by_cases a : cw.1 = 0
  · rw [if_pos a]; exact hS
  · rw [if_neg a]
    obtain ⟨h1, h2, h3⟩ := h a
    by_cases b : FX2_isEchoAsked cw.2.2.2.2.1 cw.2.2.2.2.2 = 0
    · rw [if_pos b]
      by_cases c : FX2_isSegment cw.2.2.2.2.1 = 0
      · rw [if_pos c]; exact hS
      · rw [if_neg c]
        exact take_iv hW hS hT h1 h2 (isSegment_in c) h3
    · rw [if_neg b]; exact hS

