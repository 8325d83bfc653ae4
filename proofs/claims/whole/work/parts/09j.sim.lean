-- the simulation: a segment
def R_Ss (fSs sos sis : (Nat → Nat → Int32)) (st wi pa se fi qd po ne bd bx qu ad ti tr : (Nat → Int32)) : Prop := ∀ K, K < 3 → RS (fSs K) (sos K) (sis K) (st K) (ad K) (po K) (ne K) (fi K) (se K) (wi K) (pa K) (tr K) (ti K) (qd K) (bd K) (fun i => qu (64 * K + i)) (fun i => bx (16 * K + i))
theorem RS_c {fS so si : (Nat → Int32)} {st ad po ne fi se wi pa tr ti qd bd : Int32} {q b q' b' : (Nat → Int32)} (h : RS fS so si st ad po ne fi se wi pa tr ti qd bd q b) (hq' : ∀ i, i < 64 → q' i = q i) (hb' : ∀ i, i < 16 → b' i = b i) : RS fS so si st ad po ne fi se wi pa tr ti qd bd q' b' := by
  refine ⟨h.1, fun z => ?_⟩
  obtain ⟨s4, e3, r3, e4, r4, e5, r5, e6, r6, e7, r7, e10, r10, e11, r11, e12, q12, e8, r8, e9, r9, t1, t0, hq, hb, w2, w4, w1⟩ := h.2 z
  exact ⟨s4, e3, r3, e4, r4, e5, r5, e6, r6, e7, r7, e10, r10, e11, r11, e12, q12, e8, r8, e9, r9, t1, t0, (fun i hi => by rw [hq' i (by omega)]; exact hq i hi), (fun i hi => by rw [hb' i (by omega)]; exact hb i hi), w2, w4, w1⟩
theorem R_Ss_up {fSs sos sis fSs' sos' sis' : (Nat → Nat → Int32)} {st wi pa se fi qd po ne bd bx qu ad ti tr st' wi' pa' se' fi' qd' po' ne' bd' bx' qu' ad' ti' tr' : (Nat → Int32)} {K : Nat} (h : R_Ss fSs sos sis st wi pa se fi qd po ne bd bx qu ad ti tr) (hc : ∀ j, j ≠ K → fSs' j = fSs j ∧ sos' j = sos j ∧ sis' j = sis j) (hm : ∀ j, j ≠ K → st' j = st j ∧ wi' j = wi j ∧ pa' j = pa j ∧ se' j = se j ∧ fi' j = fi j ∧ qd' j = qd j ∧ po' j = po j ∧ ne' j = ne j ∧ bd' j = bd j ∧ ad' j = ad j ∧ ti' j = ti j ∧ tr' j = tr j)
    (hx : ∀ j, (j < 16 * K ∨ 16 * K + 16 ≤ j) → bx' j = bx j) (hu : ∀ j, (j < 64 * K ∨ 64 * K + 64 ≤ j) → qu' j = qu j) (hK : RS (fSs' K) (sos' K) (sis' K) (st' K) (ad' K) (po' K) (ne' K) (fi' K) (se' K) (wi' K) (pa' K) (tr' K) (ti' K) (qd' K) (bd' K) (fun i => qu' (64 * K + i)) (fun i => bx' (16 * K + i))) : R_Ss fSs' sos' sis' st' wi' pa' se' fi' qd' po' ne' bd' bx' qu' ad' ti' tr' := by
  intro j hj
  by_cases e : j = K
  · rw [e]; exact hK
  · obtain ⟨c1, c2, c3⟩ := hc j e
    obtain ⟨m1, m2, m3, m4, m5, m6, m7, m8, m9, m10, m11, m12⟩ := hm j e
    rw [c1, c2, c3, m1, m2, m3, m4, m5, m6, m7, m8, m9, m10, m11, m12]
    exact RS_c (h j hj) (fun i hi => hu _ (by omega)) (fun i hi => hx _ (by omega))
def fdS (fSs : (Nat → Nat → Int32)) (i0 i1 : Int32) : Nat → Nat → Nat
  | 0, t => t
  | m + 1, t => if fSs t 2 = 0 then fdS fSs i0 i1 m (t + 1) else if fSs t 3 = i0 then (if fSs t 4 = i1 then t else fdS fSs i0 i1 m (t + 1)) else fdS fSs i0 i1 m (t + 1)
theorem find_fdS {fR : (Nat → Int32)} {fSs : (Nat → Nat → Int32)} {i0 i1 : Int32} : FX6_find fR fSs i0 i1 = fdS fSs i0 i1 3 0 := rfl
def fdF (fSs : (Nat → Nat → Int32)) : Nat → Nat → Nat
  | 0, t => t
  | m + 1, t => if fSs t 2 = 0 then t else fdF fSs m (t + 1)
theorem find_fdF {fR : (Nat → Int32)} {fSs : (Nat → Nat → Int32)} : FX6_findFree fR fSs = fdF fSs 3 0 := rfl
theorem seg42 {fSs sos sis : (Nat → Nat → Int32)} {mF kn out ol sd st wi pa se fi qd po ne bd bx qu ad ti tr ld an nl nm bl bo ck : (Nat → Int32)} (hR : R_Ss fSs sos sis st wi pa se fi qd po ne bd bx qu ad ti tr) {i0 i1 x1 x2 x3 x4 x5 : Int32} : ∀ (m n : Nat) (y : Int32) (Y : Nat), y.toInt = Y → Y + m = 3 → m < n →
    ∃ w : Int32, LX10_segment_42 mF kn out ol sd st wi pa se fi qd po ne bd bx qu ad ti tr ld an nl nm bl bo ck i0 i1 x1 x2 x3 x4 x5 n y = JX10_segment_86 mF kn out ol sd st wi pa se fi qd po ne bd bx qu ad ti tr ld an nl nm bl bo ck i0 i1 x1 x2 x3 x4 x5 w ∧ w.toInt = (fdS fSs i0 x1 m Y : Nat) ∧ (fdS fSs i0 x1 m Y < 3 → ¬ st (fdS fSs i0 x1 m Y) = 0) ∧ fdS fSs i0 x1 m Y ≤ 3 := by
  intro m
  induction m with
  | zero =>
    intro n y Y hy hm h
    obtain ⟨n', rfl⟩ : ∃ n', n = n' + 1 := ⟨n - 1, by omega⟩
    rw [LX10_segment_42, if_pos (Int32.le_iff_toInt_le.mpr (by rw [k3]; omega))]
    exact ⟨y, rfl, hy, fun e => absurd e (by show ¬ Y < 3; omega), by show Y ≤ 3; omega⟩
  | succ m ih =>
    intro n y Y hy hm h
    obtain ⟨n', rfl⟩ : ∃ n', n = n' + 1 := ⟨n - 1, by omega⟩
    have h9 := tI_s (a := y) (by omega)
    obtain ⟨s1, s2⟩ := hR Y (by omega)
    have recc := ih n' (y + 1) (Y + 1) (by omega) (by omega) (by omega)
    rw [LX10_segment_42, if_neg (fun e => by have := iT e; rw [k3] at this; omega), tcE hy, fdS, s1]
    by_cases a : st Y = 0
    · rw [if_pos a, if_pos a]; exact recc
    · obtain ⟨s4, e3, r3, e4, r4, e5, r5, e6, r6, e7, r7, e10, r10, e11, r11, e12, q12, e8, r8, e9, r9, t1, t0, hq, hb, w2, w4, w1⟩ := s2 a
      rw [if_neg a, if_neg a, e3, e4]
      by_cases b : ad Y = i0
      · rw [if_pos b, if_pos b]
        by_cases c : po Y = x1
        · rw [if_pos c, if_pos c]
          exact ⟨y, rfl, hy, fun _ => a, by omega⟩
        · rw [if_neg c, if_neg c]; exact recc
      · rw [if_neg b, if_neg b]; exact recc
theorem seg103 {fSs sos sis : (Nat → Nat → Int32)} {mF kn out ol sd st wi pa se fi qd po ne bd bx qu ad ti tr an : (Nat → Int32)} (hR : R_Ss fSs sos sis st wi pa se fi qd po ne bd bx qu ad ti tr) {i0 i1 x1 x2 x3 x4 x5 : Int32} : ∀ (m n : Nat) (y : Int32) (Y : Nat), y.toInt = Y → Y + m = 3 → m < n →
    ∃ w : Int32, LX10_segment_103 mF kn out ol sd st wi pa se fi qd po ne bd bx qu ad ti tr an i0 i1 x1 x2 x3 x4 x5 n y = JX10_segment_125 mF kn out ol sd st wi pa se fi qd po ne bd bx qu ad ti tr an i0 i1 x1 x2 x3 x4 x5 w ∧ w.toInt = (fdF fSs m Y : Nat) ∧ fdF fSs m Y ≤ 3 := by
  intro m
  induction m with
  | zero =>
    intro n y Y hy hm h
    obtain ⟨n', rfl⟩ : ∃ n', n = n' + 1 := ⟨n - 1, by omega⟩
    rw [LX10_segment_103, if_pos (Int32.le_iff_toInt_le.mpr (by rw [k3]; omega))]
    exact ⟨y, rfl, hy, by show Y ≤ 3; omega⟩
  | succ m ih =>
    intro n y Y hy hm h
    obtain ⟨n', rfl⟩ : ∃ n', n = n' + 1 := ⟨n - 1, by omega⟩
    have h9 := tI_s (a := y) (by omega)
    obtain ⟨s1, s2⟩ := hR Y (by omega)
    rw [LX10_segment_103, if_neg (fun e => by have := iT e; rw [k3] at this; omega), tcE hy, fdF, s1]
    by_cases a : st Y = 0
    · rw [if_pos a, if_pos a]; exact ⟨y, rfl, hy, by omega⟩
    · rw [if_neg a, if_neg a]
      exact ih n' (y + 1) (Y + 1) (by omega) (by omega) (by omega)
theorem fl19 {x : Int32} (h : oct x) : (x &&& 19) = 2 ↔ (¬ (x &&& 2) = 0 ∧ (x &&& 17) = 0) := by
  obtain ⟨h0, h1⟩ := h
  obtain ⟨j, hj, rfl⟩ := nI_of (x := x) (fun q => by have := lT q; rw [k0] at this; omega)
  rw [nI_toInt hj] at h1
  have key : ∀ j, j < 256 → ((Int32.ofNat j &&& 19) = 2 ↔ (¬ (Int32.ofNat j &&& 2) = 0 ∧ (Int32.ofNat j &&& 17) = 0)) := by decide +kernel
  exact key j (by omega)
def TaP (C : (Nat → Int32) × (Nat → Nat → Int32) × (Nat → Nat → Int32) × (Nat → Nat → Int32) × (Nat → Int32) × (Nat → Int32) × (Nat → Int32) × (Nat → Nat → Int32) × (Nat → Int32) × (Nat → Int32)) (M : (Nat → Int32) × (Nat → Int32) × (Nat → Int32) × (Nat → Int32) × (Nat → Int32) × (Nat → Int32) × (Nat → Int32) × (Nat → Int32) × (Nat → Int32) × (Nat → Int32) × (Nat → Int32) × (Nat → Int32) × (Nat → Int32) × (Nat → Int32) × (Nat → Int32) × (Nat → Int32) × (Nat → Int32) × (Nat → Int32) × (Nat → Int32)) (mF : (Nat → Int32)) (T : Int) : Prop :=
  R_F C.2.2.2.2.2.1 C.2.2.2.2.2.2.1 C.2.2.2.2.2.2.2.1 M.1 M.2.1 M.2.2.1 ∧ C.2.2.2.2.2.1 5 = M.1 9 ∧ R_Ss C.2.1 C.2.2.1 C.2.2.2.1 M.2.2.2.2.1 M.2.2.2.2.2.1 M.2.2.2.2.2.2.1 M.2.2.2.2.2.2.2.1 M.2.2.2.2.2.2.2.2.1 M.2.2.2.2.2.2.2.2.2.1 M.2.2.2.2.2.2.2.2.2.2.1 M.2.2.2.2.2.2.2.2.2.2.2.1 M.2.2.2.2.2.2.2.2.2.2.2.2.1 M.2.2.2.2.2.2.2.2.2.2.2.2.2.1 M.2.2.2.2.2.2.2.2.2.2.2.2.2.2.1 M.2.2.2.2.2.2.2.2.2.2.2.2.2.2.2.1 M.2.2.2.2.2.2.2.2.2.2.2.2.2.2.2.2.1 M.2.2.2.2.2.2.2.2.2.2.2.2.2.2.2.2.2.1
  ∧ C.1 4 = M.1 10 ∧ C.1 5 = M.1 11 ∧ C.1 6 = M.1 12 ∧ (∀ j, j ≠ 8 → j ≠ 9 → j ≠ 10 → j ≠ 11 → j ≠ 12 → j ≠ 30 → j ≠ 46 → M.1 j = mF j) ∧ q_in M.2.2.2.2.2.2.2.2.2.1 ∧ ad_in M.2.2.2.2.2.2.2.2.2.2.2.2.2.2.2.1 ∧ T ≤ (C.2.2.2.2.2.1 4).toInt ∧ (C.2.2.2.2.2.1 4).toInt ≤ T + 210
theorem sim_begin {fR : (Nat → Int32)} {fSs sos sis : (Nat → Nat → Int32)} {sg fW wst wl : (Nat → Int32)} {wr : (Nat → Nat → Int32)} {fH aC fD dp mF kn out ol sd st wi pa se fi qd po ne bd bx qu ad ti tr an : (Nat → Int32)} (hR : R_Ss fSs sos sis st wi pa se fi qd po ne bd bx qu ad ti tr) {k i0 x1 x2 x5 tm : Int32} {K : Nat} (hk : k.toInt = K) (hK : K < 3) (hF : R_F fW wl wr mF out ol) (hT : (fW 4).toInt < 1900000000) (hid : fW 5 = mF 9) (hKn : R_K wst kn) (hr4 : fR 4 = mF 10) (hr5 : fR 5 = mF 11) (hr6 : fR 6 = mF 12) (hq64 : q_in qd) (had : ad_in ad) (a0 : 0 ≤ i0.toInt) (a1 : i0.toInt < 16) (d1 : fD 1 = i0) (d2 : dp 0 = x1) (o2 : oct x1) (d3 : dp 1 = x2) (d4 : dp 4 = x5) (o5 : oct x5) (ht : tm = mF 5) :
    TaP (KX6_take_22 sos sis fH aC (KX6_meetStranger_90 fR fSs sos sg fW wst wl wr K (FX5_begin (fSs K) fD dp (((4 : Int32) * tm) &&& 255)))) (KX10_segment_153 bx qu an (FX10_begin mF kn out ol sd st ad po ne fi se wi pa tr qd bd ti k i0 x1 x2 x5)) mF (fW 4).toInt := by
  have ek : k.toNatClampNeg = K := tcE hk
  subst ht
  generalize hf0 : FX5_begin (fSs K) fD dp (((4 : Int32) * mF 5) &&& 255) = f0
  have ov : oct (((4 : Int32) * mF 5) &&& 255) := oct_and _
  have z2 : f0 2 = 1 := by rw [← hf0]; rfl
  have z3 : f0 3 = i0 := by rw [← hf0]; exact d1
  have z4 : f0 4 = x1 := by rw [← hf0]; exact d2
  have z5 : f0 5 = (x2 + 1) &&& 255 := by rw [← hf0, ← d3]; rfl
  have z6 : f0 6 = ((4 : Int32) * mF 5) &&& 255 := by rw [← hf0]; rfl
  have z7 : f0 7 = ((4 : Int32) * mF 5) &&& 255 := by rw [← hf0]; rfl
  have z8 : f0 8 = 0 := by rw [← hf0]; rfl
  have z9 : f0 9 = 0 := by rw [← hf0]; rfl
  have z10 : f0 10 = x5 := by rw [← hf0]; exact d4
  have z11 : f0 11 = 1 := by rw [← hf0]; rfl
  have z12 : f0 12 = 0 := by rw [← hf0]; rfl
  unfold KX6_take_22 KX6_meetStranger_90 KX6_meetStranger_109 FX10_begin KX10_begin_113 KX10_begin_119 KX10_segment_153
  rw [ek, pk_us]
  obtain ⟨y1, y2, y3, y4, y5, y6⟩ := sim_tell (fR := upd fR 4 (fR 4 + 1)) (sg := sg) (fS := f0) (so := sos K) (mF := upd mF 10 (mF 10 + 1)) (sd := sd) (po := upd po K x1) (se := upd se K (((4 : Int32) * mF 5) &&& 255)) (ne := upd ne K ((x2 + 1) &&& 255)) (bd := upd bd K 0) (ad := upd ad K i0) hF (by omega) hid hKn (k := k) (fl := 18) (by unfold oct; decide) (by rw [ek, pk_us]; exact z3) (by rw [ek, pk_us]; exact ⟨a0, a1⟩) (by rw [ek, pk_us]; exact z4) (by rw [ek, pk_us]; exact o2) (by rw [ek, pk_us]; exact z5) (by rw [ek, pk_us]; exact oct_and _) (by rw [ek, pk_us]; exact z7) (by rw [ek, pk_us]; exact ov) (by rw [ek, pk_us]; exact z9) (by rw [ek, pk_us]; decide)
  rw [if_neg (show ¬ ((18 : Int32) &&& 3) = 0 by decide)] at y6
  obtain ⟨b1, b2, b3, b4, b5, b6, b7, b8⟩ := sim_adv (fS := f0) (mF := (FX10_tell (upd mF 10 (mF 10 + 1)) kn out ol sd (upd po K x1) (upd se K (((4 : Int32) * mF 5) &&& 255)) (upd ne K ((x2 + 1) &&& 255)) (upd bd K 0) (upd ad K i0) k 18).1) (se := upd se K (((4 : Int32) * mF 5) &&& 255)) (fi := upd fi K (((4 : Int32) * mF 5) &&& 255)) (ti := ti) (k := k) (i1 := 0 + 1) (m := 1) hk (by rw [pk_us]; exact z6) (by rw [pk_us]; exact ov) (by rw [pk_us]; exact z7) (by rw [pk_us]; exact ov) rfl (by omega) (by rw [pk_us, pk_us, wayI ov ov]; omega) (fun e => absurd (by rw [pk_us, pk_us]) e)
  have wy : (((FX10_advance (FX10_tell (upd mF 10 (mF 10 + 1)) kn out ol sd (upd po K x1) (upd se K (((4 : Int32) * mF 5) &&& 255)) (upd ne K ((x2 + 1) &&& 255)) (upd bd K 0) (upd ad K i0) k 18).1 (upd se K (((4 : Int32) * mF 5) &&& 255)) (upd fi K (((4 : Int32) * mF 5) &&& 255)) ti k (0 + 1)).1 K - (((4 : Int32) * mF 5) &&& 255)) &&& 255).toInt = 1 := by
    have := b8
    rw [pk_us, pk_us, wayI ov ov] at this
    rw [this]; omega
  refine ⟨y1, y2, ?_, ?_, ?_, ?_, fun j j8 j9 j10 _ _ j30 _ => (y5 j j8 j9 j30).trans (pk_un j10), ?_, ad_in_upd had a0 a1, ?_, ?_⟩
  · refine R_Ss_up (K := K) hR (fun j hj => ⟨vu_n hj, rfl, rfl⟩) (fun j hj => ⟨pk_un hj, pk_un hj, pk_un hj, (b5 j hj).trans (pk_un hj), pk_un hj, pk_un hj, pk_un hj, pk_un hj, pk_un hj, pk_un hj, b6 j hj, pk_un hj⟩) (fun _ _ => rfl) (fun _ _ => rfl) ?_
    show RS (va_up fSs K (FX6_send (upd fR 4 (fR 4 + 1)) sg fW wst wl wr f0 (sos K) 18 0).2.2.2.2 K) (sos K) (sis K) (upd st K 1 K) (upd ad K i0 K) (upd po K x1 K) (upd ne K ((x2 + 1) &&& 255) K) (upd fi K (((4 : Int32) * mF 5) &&& 255) K) _ (upd wi K x5 K) (upd pa K 1 K) (upd tr K 0 K) _ (upd qd K 0 K) (upd bd K 0 K) _ _
    rw [vu_s, y6, pk_us, pk_us, pk_us, pk_us, pk_us, pk_us, pk_us, pk_us, pk_us, pk_us]
    refine ⟨(b7 2 (by decide) (by decide)).trans z2, fun _ => ⟨Or.inl rfl, (b7 3 (by decide) (by decide)).trans z3, ⟨a0, a1⟩, (b7 4 (by decide) (by decide)).trans z4, o2, (b7 5 (by decide) (by decide)).trans z5, oct_and _, (b7 6 (by decide) (by decide)).trans z6, ov, b1, b2, (b7 10 (by decide) (by decide)).trans z10, o5, (b7 11 (by decide) (by decide)).trans z11, by decide, (b7 12 (by decide) (by decide)).trans z12, by decide, (b7 8 (by decide) (by decide)).trans z8, by decide, (b7 9 (by decide) (by decide)).trans z9, by decide, fun _ => b4, fun e => absurd (by rw [pk_us]; exact e) b3, fun i hi => absurd hi (by rw [k0]; omega), fun i hi => absurd hi (by rw [k0]; omega), fun e => absurd e (by decide), fun e => absurd e (by decide), fun _ => Int.le_of_eq wy⟩⟩
  · show fR 4 + 1 = (FX10_tell (upd mF 10 (mF 10 + 1)) kn out ol sd (upd po K x1) (upd se K (((4 : Int32) * mF 5) &&& 255)) (upd ne K ((x2 + 1) &&& 255)) (upd bd K 0) (upd ad K i0) k 18).1 10
    rw [y5 10 (by decide) (by decide) (by decide), pk_us, hr4]
  · show fR 5 = (FX10_tell (upd mF 10 (mF 10 + 1)) kn out ol sd (upd po K x1) (upd se K (((4 : Int32) * mF 5) &&& 255)) (upd ne K ((x2 + 1) &&& 255)) (upd bd K 0) (upd ad K i0) k 18).1 11
    rw [y5 11 (by decide) (by decide) (by decide)]; exact hr5
  · show fR 6 = (FX10_tell (upd mF 10 (mF 10 + 1)) kn out ol sd (upd po K x1) (upd se K (((4 : Int32) * mF 5) &&& 255)) (upd ne K ((x2 + 1) &&& 255)) (upd bd K 0) (upd ad K i0) k 18).1 12
    rw [y5 12 (by decide) (by decide) (by decide)]; exact hr6
  · intro j
    show (upd qd K 0 j).toInt ≤ 64
    by_cases e : j = K
    · rw [e, pk_us]; decide
    · rw [pk_un e]; exact hq64 j
  · show _ ≤ ((FX6_send (upd fR 4 (fR 4 + 1)) sg fW wst wl wr f0 (sos K) 18 0).2.1 4).toInt
    omega
  · show ((FX6_send (upd fR 4 (fR 4 + 1)) sg fW wst wl wr f0 (sos K) 18 0).2.1 4).toInt ≤ _
    omega
theorem sim_segment {fR : (Nat → Int32)} {fSs sos sis : (Nat → Nat → Int32)} {sg fW wst wl : (Nat → Int32)} {wr : (Nat → Nat → Int32)} {fH : (Nat → Int32)} {fTs tls tbs : (Nat → Nat → Int32)} {aC fD dp mF kn out ol sd st wi pa se fi qd po ne bd bx qu ad ti tr ld an nl nm bl bo ck : (Nat → Int32)} (hR : R_Ss fSs sos sis st wi pa se fi qd po ne bd bx qu ad ti tr) {i0 i1 tm : Int32} {m : Nat} (hF : R_F fW wl wr mF out ol) (hT : (fW 4).toInt < 1900000000) (hid : fW 5 = mF 9) (hKn : R_K wst kn) (hTx : R_T fTs tls tbs nl nm bl bo ck) (hr4 : fR 4 = mF 10) (hr5 : fR 5 = mF 11) (hr6 : fR 6 = mF 12) (hq64 : q_in qd) (had : ad_in ad) (a0 : 0 ≤ i0.toInt) (a1 : i0.toInt < 16) (d1 : fD 1 = i0) (h1 : i1.toInt = m) (hm : m ≤ 27) (hD : (fD 3).toInt = m + 5) (hp : ∀ i, i < 5 + m → dp i = ld i ∧ oct (ld i)) (ht : tm = mF 5) :
    TaP (FX6_take fR fSs sos sis sg fW wst wl wr fH fTs tls tbs aC fD dp tm) (FX10_segment mF kn out ol sd st wi pa se fi qd po ne bd bx qu ad ti tr ld an nl nm bl bo ck i0 i1) mF (fW 4).toInt := by
  have hfl : ∀ x, FX2_hasFlag fD dp x = if (ld 3 &&& x) = 0 then 0 else 1 := fun x => by
    unfold FX2_hasFlag
    rw [(hp 3 (by omega)).1]
  have hz : ∀ x, FX2_hasFlag fD dp x = 0 ↔ (ld 3 &&& x) = 0 := fun x => by
    rw [hfl x]
    by_cases q : (ld 3 &&& x) = 0
    · rw [if_pos q]; exact ⟨fun _ => q, fun _ => rfl⟩
    · rw [if_neg q]; exact ⟨fun e => absurd e (by decide), fun e => absurd e q⟩
  have base : TaP (fR, fSs, sos, sis, sg, fW, wl, wr, fH, aC) (mF, out, ol, sd, st, wi, pa, se, fi, qd, po, ne, bd, bx, qu, ad, ti, tr, an) mF (fW 4).toInt := ⟨hF, hid, hR, hr4, hr5, hr6, fun _ _ _ _ _ _ _ _ => rfl, hq64, had, Int.le_refl _, by show (fW 4).toInt ≤ _; omega⟩
  obtain ⟨w, ew, hw, hw2, hw3⟩ := seg42 (mF := mF) (kn := kn) (out := out) (ol := ol) (sd := sd) (ld := ld) (an := an) (nl := nl) (nm := nm) (bl := bl) (bo := bo) (ck := ck) (i0 := i0) (i1 := i1) (x1 := ld 0) (x2 := ld 1) (x3 := ld 2) (x4 := ld 3) (x5 := ld 4) hR 3 128 0 0 rfl (by omega) (by omega)
  unfold FX10_segment FX6_take
  rw [ew, d1, (hp 0 (by omega)).1, find_fdS]
  generalize fdS fSs i0 (ld 0) 3 0 = K at hw hw2 hw3 ⊢
  unfold JX10_segment_86
  by_cases c : K < 3
  · have hst := hw2 c
    have ek : w.toNatClampNeg = K := tcE hw
    obtain ⟨e2, hS1⟩ := hR K c
    have hS := hS1 hst
    obtain ⟨s4, e3, r3, e4, r4, e5, r5, e6, r6, e7, r7, e10, r10, e11, r11, e12, q12, e8, r8, e9, r9, t1, t0, hq, hb, w2, w4, w1⟩ := id hS
    rw [if_pos c, if_neg (show ¬ w = 3 from fun e => by rw [e, k3] at hw; omega), ek]
    by_cases f4 : (ld 3 &&& 4) = 0
    · rw [if_pos f4, if_pos ((hz 4).mpr f4)]
      by_cases f2 : (ld 3 &&& 2) = 0
      · rw [if_pos f2, if_pos ((hz 2).mpr f2)]
        by_cases f16 : (ld 3 &&& 16) = 0
        · rw [if_pos f16, if_pos ((hz 16).mpr f16)]
          exact base
        · rw [if_neg f16, if_neg (fun e => f16 ((hz 16).mp e))]
          have ref : (if (ld 3 &&& 1) = 0 then JX10_segment_243 mF kn out ol sd st wi pa se fi qd po ne bd bx qu ad ti tr ld an nl nm bl bo ck i1 (ld 1) (ld 2) (ld 4) w 0 else JX10_segment_243 mF kn out ol sd st wi pa se fi qd po ne bd bx qu ad ti tr ld an nl nm bl bo ck i1 (ld 1) (ld 2) (ld 4) w 1) = JX10_segment_243 mF kn out ol sd st wi pa se fi qd po ne bd bx qu ad ti tr ld an nl nm bl bo ck i1 (ld 1) (ld 2) (ld 4) w (FX2_hasFlag fD dp 1) := by
            rw [hfl 1]
            by_cases z : (ld 3 &&& 1) = 0
            · rw [if_pos z, if_pos z]
            · rw [if_neg z, if_neg z]
          rw [ref]
          unfold JX10_segment_243 KX10_segment_246
          obtain ⟨f', s', i', g1, g2, g3, x1, x2, x3, x4, x5, x6, x7, x8, x9, x10, x11, x12, x13⟩ := sim_goOn (fR := fR) (fSs := fSs) (sos := sos) (sis := sis) (sg := sg) (wst := wst) (fH := fH) (fTs := fTs) (tls := tls) (tbs := tbs) (aC := aC) (fD := fD) (dp := dp) (fS := fSs K) (so := sos K) (si := sis K) (kn := kn) (sd := sd) (an := an) (nl := nl) (nm := nm) (bl := bl) (bo := bo) (ck := ck) (ld := ld) (k := w) (i1 := ld 1) (i2 := ld 2) (i3 := FX2_hasFlag fD dp 1) (i4 := ld 4) (i5 := i1) hw c hF hT hid hKn hTx h1 hm hD (hp 1 (by omega)).1 (hp 2 (by omega)).1 (hp 2 (by omega)).2 rfl (hp 4 (by omega)).1 (hp 4 (by omega)).2 (fun u hu => (hp (5 + u) (by omega)).1) hr5 e2 hst (hq64 K) hS
          refine ⟨x1, x2, ?_, x3.trans (hr4.trans (x6 10 (by decide) (by decide) (by decide) (by decide) (by decide)).symm), x4, x5.trans (hr6.trans (x6 12 (by decide) (by decide) (by decide) (by decide) (by decide)).symm), fun j j8 j9 _ j11 _ j30 j46 => x6 j j8 j9 j11 j30 j46, ?_, had, x12, x13⟩
          · refine R_Ss_up (K := K) hR (fun j hj => ⟨by rw [g1]; exact vu_n hj, by rw [g2]; exact vu_n hj, by rw [g3]; exact vu_n hj⟩) (fun j hj => ?_) x9 x10 ?_
            · obtain ⟨y1, y2, y3, y4, y5, y6, y7, y8, y9, y10⟩ := x8 j hj
              exact ⟨y1, y2, y3, y4, y5, y6, rfl, y7, y8, rfl, y9, y10⟩
            · rw [g1, g2, g3, vu_s, vu_s, vu_s]
              exact x7
          · intro j
            by_cases e : j = K
            · rw [e]; exact x11
            · rw [(x8 j e).2.2.2.2.2.1]; exact hq64 j
      · rw [if_neg f2, if_neg (fun e => f2 ((hz 2).mp e))]
        unfold KX6_take_70 KX10_segment_210
        obtain ⟨y1, y2, y3, y4, y5, y6⟩ := sim_tell (fR := fR) (sg := sg) (fS := fSs K) (so := sos K) (mF := mF) (sd := sd) (po := po) (se := se) (ne := ne) (bd := bd) (ad := ad) hF (by omega) hid hKn (k := w) (fl := 16) (by unfold oct; decide) (by rw [ek]; exact e3) (by rw [ek]; exact r3) (by rw [ek]; exact e4) (by rw [ek]; exact r4) (by rw [ek]; exact e5) (by rw [ek]; exact r5) (by rw [ek]; exact e7) (by rw [ek]; exact r7) (by rw [ek]; exact e9) (by rw [ek]; exact r9)
        rw [if_pos (show ((16 : Int32) &&& 3) = 0 by decide)] at y6
        obtain ⟨g1, g2⟩ := goOn0 hS
        refine ⟨y1, y2, ?_, hr4.trans (y5 10 (by decide) (by decide) (by decide)).symm, hr5.trans (y5 11 (by decide) (by decide) (by decide)).symm, hr6.trans (y5 12 (by decide) (by decide) (by decide)).symm, fun j j8 j9 _ _ _ j30 _ => y5 j j8 j9 j30, hq64, had, ?_, ?_⟩
        · refine R_Ss_up (K := K) hR (fun j hj => ⟨vu_n hj, rfl, rfl⟩) (fun j hj => ⟨rfl, rfl, rfl, rfl, rfl, rfl, rfl, rfl, rfl, rfl, rfl, rfl⟩) (fun _ _ => rfl) (fun _ _ => rfl) ?_
          show RS (va_up fSs K (FX6_send fR sg fW wst wl wr (fSs K) (sos K) 16 0).2.2.2.2 K) (sos K) (sis K) (st K) (ad K) (po K) (ne K) (fi K) (se K) (wi K) (pa K) (tr K) (ti K) (qd K) (bd K) _ _
          rw [vu_s, y6]
          exact ⟨g2.trans e2, fun _ => g1⟩
        · show _ ≤ ((FX6_send fR sg fW wst wl wr (fSs K) (sos K) 16 0).2.1 4).toInt
          omega
        · show ((FX6_send fR sg fW wst wl wr (fSs K) (sos K) 16 0).2.1 4).toInt ≤ _
          omega
    · rw [if_neg f4, if_neg (fun e => f4 ((hz 4).mp e)), (hp 1 (by omega)).1, e5]
      by_cases q : ld 1 = ne K
      · rw [if_pos q, if_pos q]
        refine ⟨hF, hid, ?_, hr4, hr5, hr6, fun _ _ _ _ _ _ _ _ => rfl, hq64, had, Int.le_refl _, by show (fW 4).toInt ≤ _; omega⟩
        refine R_Ss_up (K := K) hR (fun j hj => ⟨vu_n hj, rfl, rfl⟩) (fun j hj => ⟨pk_un hj, rfl, rfl, rfl, rfl, rfl, rfl, rfl, rfl, rfl, rfl, rfl⟩) (fun _ _ => rfl) (fun _ _ => rfl) ?_
        show RS (va_up fSs K (upd (fSs K) 2 0) K) (sos K) (sis K) (upd st K 0 K) (ad K) (po K) (ne K) (fi K) (se K) (wi K) (pa K) (tr K) (ti K) (qd K) (bd K) _ _
        rw [vu_s, pk_us]
        exact ⟨rfl, fun e => absurd rfl e⟩
      · rw [if_neg q, if_neg q]
        exact base
  · rw [if_neg c, if_pos (show w = 3 from Int32.toInt_inj.mp (by rw [k3]; omega))]
    unfold FX6_meetStranger
    by_cases f4 : (ld 3 &&& 4) = 0
    · rw [if_pos f4, if_pos ((hz 4).mpr f4)]
      obtain ⟨v, ev, hv, hv2⟩ := seg103 (mF := mF) (kn := kn) (out := out) (ol := ol) (sd := sd) (an := an) (i0 := i0) (i1 := i1) (x1 := ld 0) (x2 := ld 1) (x3 := ld 2) (x4 := ld 3) (x5 := ld 4) hR 3 128 0 0 rfl (by omega) (by omega)
      rw [ev, d1, (hp 0 (by omega)).1, (hp 2 (by omega)).1, find_fdF]
      have reset : ∀ z, z = (fR, fSs, (FX6_sendReset fR sg fW wst wl wr i0 (ld 0) (ld 2)).1, (FX6_sendReset fR sg fW wst wl wr i0 (ld 0) (ld 2)).2.1, (FX6_sendReset fR sg fW wst wl wr i0 (ld 0) (ld 2)).2.2.1, (FX6_sendReset fR sg fW wst wl wr i0 (ld 0) (ld 2)).2.2.2) → TaP (KX6_take_22 sos sis fH aC z) (KX10_segment_164 st wi pa se fi qd po ne bd bx qu ad ti tr an (FX10_reset mF kn out ol sd i0 (ld 0) (ld 2))) mF (fW 4).toInt := by
        intro z hz'
        subst hz'
        obtain ⟨y1, y2, y3, y4, y5⟩ := sim_reset (fR := fR) (sg := sg) (sd := sd) (i0 := i0) (i1 := ld 0) (i2 := ld 2) hF (by omega) hid hKn a0 a1 (hp 0 (by omega)).2 (hp 2 (by omega)).2
        unfold KX6_take_22 KX10_segment_164
        refine ⟨y1, y2, hR, hr4.trans (y5 10 (by decide) (by decide) (by decide)).symm, hr5.trans (y5 11 (by decide) (by decide) (by decide)).symm, hr6.trans (y5 12 (by decide) (by decide) (by decide)).symm, fun j j8 j9 _ _ _ j30 _ => y5 j j8 j9 j30, hq64, had, ?_, ?_⟩
        · show _ ≤ ((FX6_sendReset fR sg fW wst wl wr i0 (ld 0) (ld 2)).2.1 4).toInt
          omega
        · show ((FX6_sendReset fR sg fW wst wl wr i0 (ld 0) (ld 2)).2.1 4).toInt ≤ _
          omega
      generalize fdF fSs 3 0 = N at hv hv2 ⊢
      unfold JX10_segment_125
      have f19 := fl19 (hp 3 (by omega)).2
      by_cases f2 : (ld 3 &&& 2) = 0
      · rw [if_pos ((hz 2).mpr f2), if_neg (fun e => (f19.mp e).1 f2)]
        exact reset _ rfl
      · rw [if_neg (fun e => f2 ((hz 2).mp e))]
        by_cases f17 : (ld 3 &&& 17) = 0
        · rw [if_pos ((hz 17).mpr f17), if_pos (f19.mpr ⟨f2, f17⟩)]
          by_cases m0 : m = 0
          · rw [if_pos (show fD 3 = 5 from Int32.toInt_inj.mp (by rw [k5]; omega)), if_pos (show i1 = 0 from Int32.toInt_inj.mp (by rw [k0]; omega))]
            by_cases n3 : N < 3
            · rw [if_pos n3, if_neg (show ¬ 3 ≤ v from fun e => by have := iT e; rw [k3] at this; omega)]
              exact sim_begin hR hv n3 hF hT hid hKn hr4 hr5 hr6 hq64 had a0 a1 d1 (hp 0 (by omega)).1 (hp 0 (by omega)).2 (hp 1 (by omega)).1 (hp 4 (by omega)).1 (hp 4 (by omega)).2 ht
            · rw [if_neg n3, if_pos (show 3 ≤ v from Int32.le_iff_toInt_le.mpr (by rw [k3]; omega))]
              exact reset _ rfl
          · rw [if_neg (show ¬ fD 3 = 5 from fun e => by rw [e, k5] at hD; omega), if_neg (show ¬ i1 = 0 from fun e => by rw [e, k0] at h1; omega)]
            exact reset _ rfl
        · rw [if_neg (fun e => f17 ((hz 17).mp e)), if_neg (fun e => f17 (f19.mp e).2)]
          exact reset _ rfl
    · rw [if_neg f4, if_neg (fun e => f4 ((hz 4).mp e))]
      exact base

