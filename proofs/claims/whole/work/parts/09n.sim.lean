-- the simulation: a whole datagram
theorem take23 {mF kn out ol st wi pa se fi qd po ne bd bx qu ad ti tr ld an : (Nat → Int32)} {i0 i2 : Int32} {m : Nat} (h2 : i2.toInt = m) (hm : m ≤ 32) : ∀ (n : Nat) (y : Int32) (Y : Nat) (z : (Nat → Int32)), y.toInt = Y → Y ≤ m → m - Y < n →
    ∃ z', LX10_take_23 mF kn out ol st wi pa se fi qd po ne bd bx qu ad ti tr ld an i0 i2 n y z = KX10_take_66 st wi pa se fi qd po ne bd bx qu ad ti tr an (FX10_sendTo (upd mF 30 i2) kn out ol z' i0 1) z' ∧ (∀ i, Y ≤ i → i < m → z' i = if i = 0 then 0 else ld i) ∧ (∀ i, i < Y → z' i = z i) := by
  intro n
  induction n with
  | zero => intro y Y z _ _ h; omega
  | succ n ih =>
    intro y Y z hy hY h
    rw [LX10_take_23]
    by_cases q : i2 ≤ y
    · have q' := iT q
      rw [if_pos q]
      exact ⟨z, rfl, fun i a b => by omega, fun _ _ => rfl⟩
    · have q' := iTn q
      have h9 := tI_s (a := y) (by omega)
      rw [if_neg q]
      unfold JX10_take_51
      have st : (if y = 0 then LX10_take_23 mF kn out ol st wi pa se fi qd po ne bd bx qu ad ti tr ld an i0 i2 n (y + 1) (upd z y.toNatClampNeg 0) else LX10_take_23 mF kn out ol st wi pa se fi qd po ne bd bx qu ad ti tr ld an i0 i2 n (y + 1) (upd z y.toNatClampNeg (ld y.toNatClampNeg))) = LX10_take_23 mF kn out ol st wi pa se fi qd po ne bd bx qu ad ti tr ld an i0 i2 n (y + 1) (upd z Y (if Y = 0 then 0 else ld Y)) := by
        rw [tcE hy]
        by_cases c : y = 0
        · rw [if_pos c, if_pos (show Y = 0 by rw [c, k0] at hy; omega)]
        · rw [if_neg c, if_neg (show ¬ Y = 0 from fun e => c (Int32.toInt_inj.mp (by rw [hy, e]; rfl)))]
      rw [st]
      obtain ⟨z', p, r, s⟩ := ih (y + 1) (Y + 1) (upd z Y (if Y = 0 then 0 else ld Y)) (by omega) (by omega) (by omega)
      refine ⟨z', p, fun i i1 i2 => ?_, fun i hi => by rw [s i (by omega), pk_un (by omega)]⟩
      by_cases e : i = Y
      · subst e
        rw [s i (by omega), pk_us]
      · exact r i (by omega) i2
def datC (fR : (Nat → Int32)) (fSs sos sis : (Nat → Nat → Int32)) (sg fW wst wl : (Nat → Int32)) (wr : (Nat → Nat → Int32)) (fH : (Nat → Int32)) (fTs tls tbs : (Nat → Nat → Int32)) (aC fD dp : (Nat → Int32)) (tm : Int32) : (Nat → Int32) × (Nat → Nat → Int32) × (Nat → Nat → Int32) × (Nat → Nat → Int32) × (Nat → Int32) × (Nat → Int32) × (Nat → Int32) × (Nat → Nat → Int32) × (Nat → Int32) × (Nat → Int32) :=
  if FX2_isEchoAsked fD dp = 0 then (if FX2_isSegment fD = 0 then (fR, fSs, sos, sis, sg, fW, wl, wr, fH, aC) else FX6_take fR fSs sos sis sg fW wst wl wr fH fTs tls tbs aC fD dp tm) else (fR, fSs, sos, sis, sg, (FX8_sendPayload fW wst wl wr (upd dp 0 0) (fD 1) 1 (fD 3)).1, (FX8_sendPayload fW wst wl wr (upd dp 0 0) (fD 1) 1 (fD 3)).2.1, (FX8_sendPayload fW wst wl wr (upd dp 0 0) (fD 1) 1 (fD 3)).2.2, fH, aC)
theorem sim_dat {fR : (Nat → Int32)} {fSs sos sis : (Nat → Nat → Int32)} {sg fW wst wl : (Nat → Int32)} {wr : (Nat → Nat → Int32)} {fH : (Nat → Int32)} {fTs tls tbs : (Nat → Nat → Int32)} {aC fD dp mF kn out ol sd st wi pa se fi qd po ne bd bx qu ad ti tr ld an nl nm bl bo ck : (Nat → Int32)} (hR : R_Ss fSs sos sis st wi pa se fi qd po ne bd bx qu ad ti tr) {i0 i1 i2 tm : Int32} {m : Nat} (hF : R_F fW wl wr mF out ol) (hT : (fW 4).toInt < 1900000000) (hid : fW 5 = mF 9) (hKn : R_K wst kn) (hTx : R_T fTs tls tbs nl nm bl bo ck) (hr4 : fR 4 = mF 10) (hr5 : fR 5 = mF 11) (hr6 : fR 6 = mF 12) (hq64 : q_in qd) (had : ad_in ad) (a0 : 0 ≤ i0.toInt) (a1 : i0.toInt < 16) (d1 : fD 1 = i0) (d2 : fD 2 = i1) (d3 : fD 3 = i2) (h2 : i2.toInt = m) (hm : m ≤ 32) (hp : ∀ i, i < m → dp i = ld i ∧ oct (ld i)) (ht : tm = mF 5) :
    TaP (datC fR fSs sos sis sg fW wst wl wr fH fTs tls tbs aC fD dp tm) (FX10_take mF kn out ol sd st wi pa se fi qd po ne bd bx qu ad ti tr ld an nl nm bl bo ck i0 i1 i2) mF (fW 4).toInt := by
  have base : TaP (fR, fSs, sos, sis, sg, fW, wl, wr, fH, aC) (mF, out, ol, sd, st, wi, pa, se, fi, qd, po, ne, bd, bx, qu, ad, ti, tr, an) mF (fW 4).toInt := ⟨hF, hid, hR, hr4, hr5, hr6, fun _ _ _ _ _ _ _ _ => rfl, hq64, had, Int.le_refl _, by show (fW 4).toInt ≤ _; omega⟩
  have seg : TaP (if FX2_isSegment fD = 0 then (fR, fSs, sos, sis, sg, fW, wl, wr, fH, aC) else FX6_take fR fSs sos sis sg fW wst wl wr fH fTs tls tbs aC fD dp tm) (JX10_take_72 mF kn out ol sd st wi pa se fi qd po ne bd bx qu ad ti tr ld an nl nm bl bo ck i0 i1 i2) mF (fW 4).toInt := by
    unfold FX2_isSegment JX10_take_72
    rw [d2, d3]
    by_cases a : i1 = 6
    · rw [if_pos a, if_pos a]
      by_cases b : i2 ≤ 4
      · have b' := iT b
        rw [k4] at b'
        rw [if_pos b, if_pos (show i2 < 5 from Int32.lt_iff_toInt_lt.mpr (by rw [k5]; omega)), if_pos rfl]
        exact base
      · have b' := iTn b
        rw [k4] at b'
        rw [if_neg b, if_neg (show ¬ i2 < 5 from fun e => by have := lT e; rw [k5] at this; omega), if_neg (show ¬ (1 : Int32) = 0 by decide)]
        have e5 : (i2 - 5).toInt = ((m - 5 : Nat) : Int) := by rw [tI_sc 5 k5 (by omega) (by omega)]; omega
        exact sim_segment (sg := sg) (fH := fH) (aC := aC) (fD := fD) (dp := dp) (kn := kn) (sd := sd) (ld := ld) (an := an) hR hF hT hid hKn hTx hr4 hr5 hr6 hq64 had a0 a1 d1 e5 (by omega) (by rw [d3]; omega) (fun i hi => hp i (by omega)) ht
    · rw [if_neg a, if_neg a, if_pos rfl]
      exact base
  unfold datC FX10_take FX2_isEchoAsked
  rw [d2, d3]
  by_cases a : i1 = 1
  · rw [if_pos a, if_pos a]
    by_cases b : i2 ≤ 0
    · rw [if_pos b, if_pos b, if_pos rfl]
      exact seg
    · have b' := iTn b
      rw [k0] at b'
      rw [if_neg b, if_neg b, (hp 0 (by omega)).1]
      by_cases c : ld 0 = 8
      · rw [if_pos c, if_pos c, if_neg (show ¬ (1 : Int32) = 0 by decide)]
        obtain ⟨z', p, r, s⟩ := take23 (mF := mF) (kn := kn) (out := out) (ol := ol) (st := st) (wi := wi) (pa := pa) (se := se) (fi := fi) (qd := qd) (po := po) (ne := ne) (bd := bd) (bx := bx) (qu := qu) (ad := ad) (ti := ti) (tr := tr) (ld := ld) (an := an) (i0 := i0) h2 hm 128 0 0 sd rfl (by omega) (by omega)
        rw [p]
        unfold KX10_take_66
        obtain ⟨x1, x2, x3, x4, x5⟩ := sim_sendTo (rb := upd dp 0 0) (se := z') (mF := upd mF 30 i2) (kn := kn) (wst := wst) (fW := fW) (wl := wl) (wr := wr) (out := out) (ol := ol) hF (by omega) hid hKn (i0 := i0) (i1 := 1) (i2 := i2) a0 a1 (by unfold oct; decide) m h2 hm rfl (fun i hi => by
          rw [r i (by omega) hi]
          by_cases z : i = 0
          · rw [if_pos z, z, pk_us]; exact ⟨rfl, by unfold oct; decide⟩
          · rw [if_neg z, pk_un z]; exact hp i hi)
        rw [d1]
        have fr : ∀ j, j ≠ 8 → j ≠ 9 → j ≠ 30 → (FX10_sendTo (upd mF 30 i2) kn out ol z' i0 1).1 j = mF j := fun j j8 j9 j30 => (x5 j j8 j9).trans (pk_un j30)
        exact ⟨x1, x2, hR, hr4.trans (fr 10 (by decide) (by decide) (by decide)).symm, hr5.trans (fr 11 (by decide) (by decide) (by decide)).symm, hr6.trans (fr 12 (by decide) (by decide) (by decide)).symm, fun j j8 j9 _ _ _ j30 _ => fr j j8 j9 j30, hq64, had, by show _ ≤ ((FX8_sendPayload fW wst wl wr (upd dp 0 0) i0 1 i2).1 4).toInt; omega, by show ((FX8_sendPayload fW wst wl wr (upd dp 0 0) i0 1 i2).1 4).toInt ≤ _; omega⟩
      · rw [if_neg c, if_neg c, if_pos rfl]
        exact seg
  · rw [if_neg a, if_neg a, if_pos rfl]
    exact seg

