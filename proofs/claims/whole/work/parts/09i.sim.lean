-- the simulation: a segment of an stream begun, whole
def SgP (fR' f' s' i' fW' wl' : (Nat → Int32)) (wr' : (Nat → Nat → Int32)) (M : (Nat → Int32) × (Nat → Int32) × (Nat → Int32) × (Nat → Int32) × (Nat → Int32) × (Nat → Int32) × (Nat → Int32) × (Nat → Int32) × (Nat → Int32) × (Nat → Int32) × (Nat → Int32) × (Nat → Int32) × (Nat → Int32) × (Nat → Int32) × (Nat → Int32) × (Nat → Int32) × (Nat → Int32)) (fR mF po ad st wi pa se fi qd ne bd bx qu ti tr : (Nat → Int32)) (K : Nat) (T : Int) : Prop :=
  R_F fW' wl' wr' M.1 M.2.1 M.2.2.1 ∧ fW' 5 = M.1 9 ∧ fR' 4 = fR 4 ∧ fR' 5 = M.1 11 ∧ fR' 6 = fR 6 ∧ (∀ j, j ≠ 8 → j ≠ 9 → j ≠ 11 → j ≠ 30 → j ≠ 46 → M.1 j = mF j)
  ∧ RS f' s' i' (M.2.2.2.2.1 K) (ad K) (po K) (M.2.2.2.2.2.2.2.2.2.2.1 K) (M.2.2.2.2.2.2.2.2.1 K) (M.2.2.2.2.2.2.2.1 K) (M.2.2.2.2.2.1 K) (M.2.2.2.2.2.2.1 K) (M.2.2.2.2.2.2.2.2.2.2.2.2.2.2.2.1 K) (M.2.2.2.2.2.2.2.2.2.2.2.2.2.2.1 K) (M.2.2.2.2.2.2.2.2.2.1 K) (M.2.2.2.2.2.2.2.2.2.2.2.1 K) (fun i => M.2.2.2.2.2.2.2.2.2.2.2.2.2.1 (64 * K + i)) (fun i => M.2.2.2.2.2.2.2.2.2.2.2.2.1 (16 * K + i))
  ∧ (∀ j, j ≠ K → M.2.2.2.2.1 j = st j ∧ M.2.2.2.2.2.1 j = wi j ∧ M.2.2.2.2.2.2.1 j = pa j ∧ M.2.2.2.2.2.2.2.1 j = se j ∧ M.2.2.2.2.2.2.2.2.1 j = fi j ∧ M.2.2.2.2.2.2.2.2.2.1 j = qd j ∧ M.2.2.2.2.2.2.2.2.2.2.1 j = ne j ∧ M.2.2.2.2.2.2.2.2.2.2.2.1 j = bd j ∧ M.2.2.2.2.2.2.2.2.2.2.2.2.2.2.1 j = ti j ∧ M.2.2.2.2.2.2.2.2.2.2.2.2.2.2.2.1 j = tr j)
  ∧ (∀ j, (j < 16 * K ∨ 16 * K + 16 ≤ j) → M.2.2.2.2.2.2.2.2.2.2.2.2.1 j = bx j) ∧ (∀ j, (j < 64 * K ∨ 64 * K + 64 ≤ j) → M.2.2.2.2.2.2.2.2.2.2.2.2.2.1 j = qu j) ∧ (M.2.2.2.2.2.2.2.2.2.1 K).toInt ≤ 64 ∧ T ≤ (fW' 4).toInt ∧ (fW' 4).toInt ≤ T + 210
def SgQ (C : (Nat → Int32) × (Nat → Nat → Int32) × (Nat → Nat → Int32) × (Nat → Nat → Int32) × (Nat → Int32) × (Nat → Int32) × (Nat → Int32) × (Nat → Nat → Int32) × (Nat → Int32) × (Nat → Int32)) (M : (Nat → Int32) × (Nat → Int32) × (Nat → Int32) × (Nat → Int32) × (Nat → Int32) × (Nat → Int32) × (Nat → Int32) × (Nat → Int32) × (Nat → Int32) × (Nat → Int32) × (Nat → Int32) × (Nat → Int32) × (Nat → Int32) × (Nat → Int32) × (Nat → Int32) × (Nat → Int32) × (Nat → Int32)) (fSs sos sis : (Nat → Nat → Int32)) (fR mF po ad st wi pa se fi qd ne bd bx qu ti tr : (Nat → Int32)) (K : Nat) (T : Int) : Prop :=
  ∃ f' s' i' : (Nat → Int32), C.2.1 = va_up fSs K f' ∧ C.2.2.1 = va_up sos K s' ∧ C.2.2.2.1 = va_up sis K i' ∧ SgP C.1 f' s' i' C.2.2.2.2.2.1 C.2.2.2.2.2.2.1 C.2.2.2.2.2.2.2.1 M fR mF po ad st wi pa se fi qd ne bd bx qu ti tr K T
theorem sim_end {fR : (Nat → Int32)} {fSs sos sis : (Nat → Nat → Int32)} {sg fW wst wl : (Nat → Int32)} {wr : (Nat → Nat → Int32)} {fH : (Nat → Int32)} {fTs tls tbs : (Nat → Nat → Int32)} {aC fD dp f so si mF kn out ol sd st wi pa se fi qd po ne bd bx qu ad ti tr an nl nm bl bo ck : (Nat → Int32)} {k i3 i4 i5 : Int32} {K m : Nat} (hk : k.toInt = K) (hK : K < 3) (hF : R_F fW wl wr mF out ol) (hT : (fW 4).toInt < 1900000000) (hid : fW 5 = mF 9) (hKn : R_K wst kn) (hR : R_T fTs tls tbs nl nm bl bo ck) (h5 : i5.toInt = m) (hD : (fD 3).toInt = m + 5) (h3 : i3 = FX2_hasFlag fD dp 1) (hr5 : fR 5 = mF 11) (e2 : f 2 = st K) (hst : st K = 2 ∨ st K = 3 ∨ st K = 4)
    (hS : RS1 f so si (st K) (ad K) (po K) (ne K) (fi K) (se K) i4 (pa K) (tr K) (ti K) (qd K) (bd K) (fun i => qu (64 * K + i)) (fun i => bx (16 * K + i))) :
    SgQ (KX6_take_87 fR fSs sos sis sg fW wst wl wr fH fTs tls tbs aC fD dp K (1, f, so, si)) (JX10_goOn_337 mF kn out ol sd wi se po ad an nl nm bl bo ck k i3 i4 i5 fi qd qu pa tr ti bx bd ne st) fSs sos sis fR mF po ad st wi pa se fi qd ne bd bx qu ti tr K (fW 4).toInt := by
  have ek : k.toNatClampNeg = K := tcE hk
  obtain ⟨s4, e3, r3, e4, r4, e5, r5, e6, r6, e7, r7, e10, r10, e11, r11, e12, q12, e8, r8, e9, r9, t1, t0, hq, hb, w2, w4, w1⟩ := id hS
  unfold KX6_take_87 JX10_goOn_337
  rw [if_neg (show ¬ (1 : Int32) = 0 by decide), ek]
  by_cases c4 : st K = 4
  · rw [if_pos c4, if_pos (show f 2 = 4 from e2.trans c4)]
    obtain ⟨R, o1, o2, o3, o4, er, ej, y1, y2, y3, y4, y5, y6, y7⟩ := sim_fin (fR := fR) (sg := sg) (fW := fW) (wst := wst) (wl := wl) (wr := wr) (f := f) (so := so) (si := si) (fD := fD) (dp := dp) (mF := mF) (kn := kn) (out := out) (ol := ol) (sd := sd) (wi := wi) (po := po) (ad := ad) (fi := fi) (pa := pa) (tr := tr) (ne := ne) (an := an) (bd := bd) (bx := bx) (qu := qu) (qd := qd) (se := se) (ti := ti) (st := st) (k := k) (i3 := i3) (i4 := i4) (i5 := i5) (x := mF 8) (p := 0) hk hF (by omega) hid hKn h5 hD h3 (fun _ => rfl) (fun e => absurd rfl e) hS
    have ec : (if FX2_wantsAck fD dp = 0 then (fR, va_up fSs K f, va_up sos K so, va_up sis K si, sg, fW, wl, wr, fH, aC) else KX6_take_133 fR fSs sos sis fH aC K so si (FX6_send fR sg fW wst wl wr f so 16 0)) = (fR, va_up fSs K R.2.2.2.2, va_up sos K so, va_up sis K si, R.1, R.2.1, R.2.2.1, R.2.2.2.1, fH, aC) := by
      by_cases w : FX2_wantsAck fD dp = 0
      · rw [if_pos w] at er ⊢
        rw [← er]
      · rw [if_neg w, if_pos rfl] at er
        rw [if_neg w, ← er]
        rfl
    rw [ej]
    refine ⟨R.2.2.2.2, so, si, ?_⟩
    have ec2 := ec
    show (if FX2_wantsAck fD dp = 0 then (fR, va_up fSs K f, va_up sos K so, va_up sis K si, sg, fW, wl, wr, fH, aC) else KX6_take_133 fR fSs sos sis fH aC K so si (FX6_send fR sg fW wst wl wr f so 16 0)).2.1 = va_up fSs K R.2.2.2.2 ∧ _
    rw [ec]
    refine ⟨rfl, rfl, rfl, y1, y2, rfl, ?_, rfl, fun j j8 j9 _ j30 _ => y3 j j8 j9 j30, ⟨y5.trans e2, fun _ => ?_⟩, fun j hj => ⟨rfl, pk_un hj, rfl, rfl, rfl, rfl, rfl, rfl, rfl, rfl⟩, fun _ _ => rfl, fun _ _ => rfl, r8.2, y6, by show (R.2.1 4).toInt ≤ _; omega⟩
    · show fR 5 = o1 11
      rw [y3 11 (by decide) (by decide) (by decide)]; exact hr5
    · show RS1 R.2.2.2.2 so si (st K) (ad K) (po K) (ne K) (fi K) (se K) (upd wi K i4 K) (pa K) (tr K) (ti K) (qd K) (bd K) _ _
      rw [pk_us]; exact y4
  · have h23 : st K = 2 ∨ st K = 3 := by
      rcases hst with a | a | a
      · exact Or.inl a
      · exact Or.inr a
      · exact absurd a c4
    rw [if_neg c4, if_neg (show ¬ f 2 = 4 from fun e => c4 (e2.symm.trans e))]
    unfold KX6_take_106 KX6_take_111 KX10_goOn_355 KX10_goOn_360
    obtain ⟨i, g⟩ := sim_read (fTs := fTs) (tls := tls) (tbs := tbs) hR hk hK (fR := fR) (fH := fH) (aC := aC) (fS := f) (so := so) (si := si) (mF := mF) (an := an) (bd := bd) (bx := bx) (qu := qu) (qd := qd) ⟨hr5, e9, r9, e8, r8, hb, hq⟩
    rw [ek]
    generalize FX6_read fR fH fTs tls tbs aC f so si = c at i g ⊢
    generalize FX10_read mF bd bx an nl nm bl bo ck qd qu k = d at i g ⊢
    obtain ⟨i1, i2, i3', i4', i5', i6, i7⟩ := i
    obtain ⟨g1, g2, g3, g4, g5, g6, g7, g8, g9⟩ := g
    have hS2 : RS1 c.2.2.2.1 c.2.2.2.2.1 c.2.2.2.2.2 (st K) (ad K) (po K) (ne K) (fi K) (se K) (upd wi K i4 K) (pa K) (tr K) (ti K) (d.2.2.2.2.1 K) (d.2.1 K) (fun i => d.2.2.2.2.2 (64 * K + i)) (fun i => d.2.2.1 (16 * K + i)) := by
      rw [pk_us]
      exact ⟨s4, ((g1 3 (by decide) (by decide)).trans e3), r3, ((g1 4 (by decide) (by decide)).trans e4), r4, ((g1 5 (by decide) (by decide)).trans e5), r5, ((g1 6 (by decide) (by decide)).trans e6), r6, ((g1 7 (by decide) (by decide)).trans e7), r7, ((g1 10 (by decide) (by decide)).trans e10), r10, ((g1 11 (by decide) (by decide)).trans e11), r11, ((g1 12 (by decide) (by decide)).trans e12), q12, (i4'), (i5'), (i2), (i3'), (fun e => (g1 13 (by decide) (by decide)).trans (t1 e)), (fun e => (g1 13 (by decide) (by decide)).trans (t0 e)), (i7), (i6), (fun e => Int.le_trans (w2 e) g9), (fun e => absurd e c4), w1⟩
    have m8 : d.1 8 = mF 8 := g4 8 (by decide) (by decide)
    have hF2 : R_F fW wl wr d.1 out ol := by
      obtain ⟨f1, f2, f3, f4, f5⟩ := id hF
      exact ⟨f1, f2, by rw [f3, m8], f4, f5⟩
    obtain ⟨x1, x2, x3, x4, x5, x6, x7, x8, x9⟩ := sim_push (fR := c.1) (sg := sg) (fS := c.2.2.2.1) (so := c.2.2.2.2.1) (si := c.2.2.2.2.2) (mF := d.1) (kn := kn) (sd := sd) (st := st) (ad := ad) (po := po) (ne := ne) (fi := fi) (se := se) (wi := upd wi K i4) (pa := pa) (ti := ti) (qd := d.2.2.2.2.1) (bd := d.2.1) (qu := d.2.2.2.2.2) (bx := d.2.2.1) hk hK hF2 (by rw [g4 9 (by decide) (by decide)]; exact hid) hKn ((g1 2 (by decide) (by decide)).trans e2) h23 hS2 hT
    generalize FX6_push c.1 sg fW wst wl wr c.2.2.2.1 c.2.2.2.2.1 c.2.2.2.2.2 = u at x1 x2 x3 x4 x5 x6 x7 x8 x9 ⊢
    generalize FX10_push d.1 kn out ol sd st (upd wi K i4) pa se fi d.2.2.2.2.1 po ne d.2.1 d.2.2.1 d.2.2.2.2.2 ad ti k = v at x1 x2 x3 x4 x5 x6 x7 x8 x9 ⊢
    rw [pk_us] at x4
    have f8 : fW 4 = mF 8 := hF.2.2.1
    have u8 : u.2.2.1 4 = v.1 8 := x1.2.2.1
    have hT0 : (fW 4).toInt ≤ (u.2.2.1 4).toInt := by
      by_cases z : u.1 = 0
      · exact Int.le_of_eq (x5 z).symm
      · exact Int.le_of_lt (x6 z)
    obtain ⟨R, o1, o2, o3, o4, er, ej, y1, y2, y3, y4, y5, y6, y7⟩ := sim_fin (fR := c.1) (sg := u.2.1) (fW := u.2.2.1) (wst := wst) (wl := u.2.2.2.1) (wr := u.2.2.2.2.1) (f := u.2.2.2.2.2) (so := c.2.2.2.2.1) (si := c.2.2.2.2.2) (fD := fD) (dp := dp) (mF := v.1) (kn := kn) (out := v.2.1) (ol := v.2.2.1) (sd := v.2.2.2.1) (wi := wi) (po := po) (ad := ad) (fi := fi) (pa := pa) (tr := tr) (ne := ne) (an := d.2.2.2.1) (bd := v.2.2.2.2.2.2.1) (bx := d.2.2.1) (qu := d.2.2.2.2.2) (qd := d.2.2.2.2.1) (se := v.2.2.2.2.2.1) (ti := v.2.2.2.2.2.2.2) (st := v.2.2.2.2.1) (k := k) (i3 := i3) (i4 := i4) (i5 := i5) (x := mF 8) (p := u.1) hk x1 (by omega) x2 hKn h5 hD h3 (fun e => by rw [← u8, ← f8]; exact Int32.toInt_inj.mp (x5 e)) (fun e q => by rw [← u8, ← f8] at q; have := x6 e; rw [q] at this; omega) x4
    have ec : (if FX2_wantsAck fD dp = 0 then (c.1, va_up fSs K u.2.2.2.2.2, va_up sos K c.2.2.2.2.1, va_up sis K c.2.2.2.2.2, u.2.1, u.2.2.1, u.2.2.2.1, u.2.2.2.2.1, c.2.1, c.2.2.1) else if u.1 = 0 then KX6_take_133b fSs sos sis K c.1 c.2.1 c.2.2.1 c.2.2.2.2.1 c.2.2.2.2.2 (FX6_send c.1 u.2.1 u.2.2.1 wst u.2.2.2.1 u.2.2.2.2.1 u.2.2.2.2.2 c.2.2.2.2.1 16 0) else (c.1, va_up fSs K u.2.2.2.2.2, va_up sos K c.2.2.2.2.1, va_up sis K c.2.2.2.2.2, u.2.1, u.2.2.1, u.2.2.2.1, u.2.2.2.2.1, c.2.1, c.2.2.1)) = (c.1, va_up fSs K R.2.2.2.2, va_up sos K c.2.2.2.2.1, va_up sis K c.2.2.2.2.2, R.1, R.2.1, R.2.2.1, R.2.2.2.1, c.2.1, c.2.2.1) := by
      by_cases w : FX2_wantsAck fD dp = 0
      · rw [if_pos w] at er ⊢
        rw [← er]
      · rw [if_neg w] at er ⊢
        by_cases z : u.1 = 0
        · rw [if_pos z] at er ⊢
          rw [← er]; rfl
        · rw [if_neg z] at er ⊢
          rw [← er]
    rw [ej]
    refine ⟨R.2.2.2.2, c.2.2.2.2.1, c.2.2.2.2.2, ?_⟩
    show (if FX2_wantsAck fD dp = 0 then (c.1, va_up fSs K u.2.2.2.2.2, va_up sos K c.2.2.2.2.1, va_up sis K c.2.2.2.2.2, u.2.1, u.2.2.1, u.2.2.2.1, u.2.2.2.2.1, c.2.1, c.2.2.1) else if u.1 = 0 then KX6_take_133b fSs sos sis K c.1 c.2.1 c.2.2.1 c.2.2.2.2.1 c.2.2.2.2.2 (FX6_send c.1 u.2.1 u.2.2.1 wst u.2.2.2.1 u.2.2.2.2.1 u.2.2.2.2.2 c.2.2.2.2.1 16 0) else (c.1, va_up fSs K u.2.2.2.2.2, va_up sos K c.2.2.2.2.1, va_up sis K c.2.2.2.2.2, u.2.1, u.2.2.1, u.2.2.2.1, u.2.2.2.2.1, c.2.1, c.2.2.1)).2.1 = va_up fSs K R.2.2.2.2 ∧ _
    rw [ec]
    refine ⟨rfl, rfl, rfl, y1, y2, g2, ?_, g3, fun j j8 j9 j11 j30 j46 => (y3 j j8 j9 j30).trans ((x9 j j8 j9 j30).trans (g4 j j11 j46)), ⟨y5.trans x3, fun _ => ?_⟩, fun j hj => ?_, g7, g8, i5'.2, by show _ ≤ (R.2.1 4).toInt; omega, by show (R.2.1 4).toInt ≤ _; omega⟩
    · show c.1 5 = o1 11
      rw [y3 11 (by decide) (by decide) (by decide), x9 11 (by decide) (by decide) (by decide)]; exact i1
    · show RS1 R.2.2.2.2 _ _ _ (ad K) (po K) (ne K) (fi K) _ (upd wi K i4 K) (pa K) (tr K) _ _ _ _ _
      rw [pk_us]; exact y4
    · obtain ⟨z1, z2, z3, z4⟩ := x8 j hj
      exact ⟨z1, pk_un hj, rfl, z2, rfl, g6 j hj, rfl, z3.trans (g5 j hj), z4, rfl⟩
theorem sim_goOn {fR : (Nat → Int32)} {fSs sos sis : (Nat → Nat → Int32)} {sg fW wst wl : (Nat → Int32)} {wr : (Nat → Nat → Int32)} {fH : (Nat → Int32)} {fTs tls tbs : (Nat → Nat → Int32)} {aC fD dp fS so si mF kn out ol sd st wi pa se fi qd po ne bd bx qu ad ti tr ld an nl nm bl bo ck : (Nat → Int32)} {k i1 i2 i3 i4 i5 : Int32} {K m : Nat} (hk : k.toInt = K) (hK : K < 3) (hF : R_F fW wl wr mF out ol) (hT : (fW 4).toInt < 1900000000) (hid : fW 5 = mF 9) (hKn : R_K wst kn) (hR : R_T fTs tls tbs nl nm bl bo ck) (h5 : i5.toInt = m) (hm : m ≤ 27) (hD : (fD 3).toInt = m + 5) (h1 : dp 1 = i1) (h2 : dp 2 = i2) (ho2 : oct i2) (h3 : i3 = FX2_hasFlag fD dp 1) (h4 : dp 4 = i4) (ho4 : oct i4) (hld : ∀ u, u < m → dp (5 + u) = ld (5 + u)) (hr5 : fR 5 = mF 11) (e2 : fS 2 = st K) (hst : ¬ st K = 0) (hq64 : (qd K).toInt ≤ 64)
    (hS : RS1 fS so si (st K) (ad K) (po K) (ne K) (fi K) (se K) (wi K) (pa K) (tr K) (ti K) (qd K) (bd K) (fun i => qu (64 * K + i)) (fun i => bx (16 * K + i))) :
    SgQ (KX6_take_87 fR fSs sos sis sg fW wst wl wr fH fTs tls tbs aC fD dp K (FX5_follow fS so si fD dp)) (FX10_goOn mF kn out ol sd st wi pa se fi qd po ne bd bx qu ad ti tr ld an nl nm bl bo ck k i1 i2 i3 i4 i5) fSs sos sis fR mF po ad st wi pa se fi qd ne bd bx qu ti tr K (fW 4).toInt := by
  have ek : k.toNatClampNeg = K := tcE hk
  unfold FX5_follow
  rw [h2]
  rcases sim_ack (mF := mF) (kn := kn) (out := out) (ol := ol) (sd := sd) (ld := ld) (an := an) (nl := nl) (nm := nm) (bl := bl) (bo := bo) (ck := ck) (i1 := i1) (i2 := i2) (i3 := i3) (i4 := i4) (i5 := i5) hk hK e2 hst ho2 hS with ⟨a1, a2⟩ | ⟨st1, fi1, qd1, qu1, pa1, tr1, ti1, b1, b2, b3, b4, b5, b6⟩
  · rw [a2]
    generalize FX5_acknowledge fS so i2 = c at a1 ⊢
    unfold KX5_follow_7
    rw [if_pos a1]
    unfold KX6_take_87
    rw [if_pos (show (0 : Int32) = 0 from rfl)]
    refine ⟨c.1, c.2, si, rfl, rfl, rfl, hF, hid, rfl, hr5, rfl, fun _ _ _ _ _ _ => rfl, ⟨?_, fun e => absurd (pk_us (f := st) (k := K) (x := 0)) e⟩, fun j hj => ⟨pk_un hj, rfl, rfl, rfl, rfl, rfl, rfl, rfl, rfl, rfl⟩, fun _ _ => rfl, fun _ _ => rfl, hq64, Int.le_refl _, by show (fW 4).toInt ≤ _; omega⟩
    show c.1 2 = upd st K 0 K
    rw [pk_us]; exact a1
  · rw [b1]
    generalize FX5_acknowledge fS so i2 = c at b2 b4 ⊢
    unfold KX5_follow_7
    rw [if_neg (show ¬ c.1 2 = 0 by rw [b2]; exact b3)]
    by_cases s1 : st1 K = 1
    · rw [if_pos (b2.trans s1)]
      unfold KX6_take_87 JX10_goOn_185
      rw [if_pos (show (0 : Int32) = 0 from rfl), ek, if_pos s1, h4]
      obtain ⟨s4, e3, r3, e4, r4, e5, r5, e6, r6, e7, r7, e10, r10, e11, r11, e12, q12, e8, r8, e9, r9, t1, t0, hq, hb, w2, w4, w1⟩ := id b4
      refine ⟨upd c.1 10 i4, c.2, si, rfl, rfl, rfl, hF, hid, rfl, hr5, rfl, fun _ _ _ _ _ _ => rfl, ⟨b2, fun _ => ?_⟩, fun j hj => ?_, fun _ _ => rfl, b6, r8.2, Int.le_refl _, by show (fW 4).toInt ≤ _; omega⟩
      · show RS1 (upd c.1 10 i4) c.2 si (st1 K) (ad K) (po K) (ne K) (fi1 K) (se K) (upd wi K i4 K) (pa1 K) (tr1 K) (ti1 K) (qd1 K) (bd K) _ _
        rw [pk_us]
        exact ⟨s4, e3, r3, e4, r4, e5, r5, e6, r6, e7, r7, (rfl), (ho4), e11, r11, e12, q12, e8, r8, e9, r9, t1, t0, hq, hb, w2, w4, w1⟩
      · obtain ⟨z1, z2, z3, z4, z5, z6⟩ := b5 j hj
        exact ⟨z1, pk_un hj, z4, rfl, z2, z3, rfl, rfl, z6, z5⟩
    · rw [if_neg (show ¬ c.1 2 = 1 from fun e => s1 (b2.symm.trans e))]
      obtain ⟨bx2, bd2, ne2, st2, d1, d2, d3, d4, d5, d6⟩ := sim_in (fD := fD) (dp := dp) (mF := mF) (kn := kn) (out := out) (ol := ol) (sd := sd) (ld := ld) (an := an) (nl := nl) (nm := nm) (bl := bl) (bo := bo) (ck := ck) (i1 := i1) (i3 := i3) (i4 := i4) (i5 := i5) hk hK h5 hm hD h3 h1 ho4 h4 hld b2 b3 s1 b4
      rw [d1]
      unfold KX5_follow_41
      obtain ⟨f', s', i', g1, g2, g3, x1, x2, x3, x4, x5, x6, x7, x8, x9, x10, x11, x12, x13⟩ := sim_end (fR := fR) (fSs := fSs) (sos := sos) (sis := sis) (sg := sg) (wst := wst) (fH := fH) (aC := aC) (fD := fD) (dp := dp) (kn := kn) (sd := sd) (wi := wi) (po := po) (ad := ad) (an := an) (nl := nl) (nm := nm) (bl := bl) (bo := bo) (ck := ck) (k := k) (i3 := i3) (i4 := i4) (i5 := i5) hk hK hF hT hid hKn hR h5 hD h3 hr5 d3 d4 d2
      refine ⟨f', s', i', g1, g2, g3, x1, x2, x3, x4, x5, x6, x7, fun j hj => ?_, fun j hj => (x9 j hj).trans (d6 j hj), fun j hj => (x10 j hj).trans (b6 j hj), x11, x12, x13⟩
      obtain ⟨y1, y2, y3, y4, y5, y6, y7, y8, y9, y10⟩ := x8 j hj
      obtain ⟨z1, z2, z3, z4, z5, z6⟩ := b5 j hj
      obtain ⟨w1, w2, w3⟩ := d5 j hj
      exact ⟨y1.trans (w3.trans z1), y2, y3.trans z4, y4, y5.trans z2, y6.trans z3, y7.trans w2, y8.trans w1, y9.trans z6, y10.trans z5⟩

