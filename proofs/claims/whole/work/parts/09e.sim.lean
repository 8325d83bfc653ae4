-- the simulation: what is pushed
theorem and255_mod (x : Int32) : (x &&& 255).toInt = x.toInt % 256 := by
  have e : x &&& 255 = nI (x.toBitVec.toNat % 2 ^ 8) := pk_and x 8 (by decide)
  have hl : x.toBitVec.toNat % 2 ^ 8 < 2 ^ 8 := Nat.mod_lt _ (by decide)
  have hb := x.toBitVec.isLt
  have h : x.toInt = x.toBitVec.toInt := rfl
  rw [e, nI_toInt (by omega), h, BitVec.toInt_eq_toNat_cond]
  split <;> omega
theorem wayI {a b : Int32} (ha : oct a) (hb : oct b) : ((a - b) &&& 255).toInt = (a.toInt - b.toInt) % 256 := by
  obtain ⟨a0, a1⟩ := ha
  obtain ⟨b0, b1⟩ := hb
  rw [and255_mod, tI_sub (by omega) (by omega)]
theorem addI {a b : Int32} (ha : oct a) (h0 : 0 ≤ b.toInt) (h1 : b.toInt < 1000) : ((a + b) &&& 255).toInt = (a.toInt + b.toInt) % 256 := by
  obtain ⟨a0, a1⟩ := ha
  rw [and255_mod, tI_add (by omega) (by omega)]
def RS1 (fS so si : (Nat → Int32)) (st ad po ne fi se wi pa tr ti qd bd : Int32) (q b : (Nat → Int32)) : Prop := (st = 1 ∨ st = 2 ∨ st = 3 ∨ st = 4) ∧ fS 3 = ad ∧ (0 ≤ ad.toInt ∧ ad.toInt < 16) ∧ fS 4 = po ∧ oct po ∧ fS 5 = ne ∧ oct ne ∧ fS 6 = fi ∧ oct fi ∧ fS 7 = se ∧ oct se ∧ fS 10 = wi ∧ oct wi ∧ fS 11 = pa ∧ (1 ≤ pa.toInt ∧ pa.toInt ≤ 4) ∧ fS 12 = tr ∧ (0 ≤ tr.toInt ∧ tr.toInt ≤ 3) ∧ fS 8 = qd ∧ (0 ≤ qd.toInt ∧ qd.toInt ≤ 64) ∧ fS 9 = bd ∧ (0 ≤ bd.toInt ∧ bd.toInt ≤ 16) ∧ (¬ fi = se → fS 13 = ti) ∧ (fi = se → fS 13 = 0) ∧ (∀ i : Nat, (i : Int) < qd.toInt → so i = q i ∧ oct (q i)) ∧ (∀ i : Nat, (i : Int) < bd.toInt → si i = b i) ∧ (st = 2 ∨ st = 3 → ((se - fi) &&& 255).toInt ≤ qd.toInt) ∧ (st = 4 → ((se - fi) &&& 255).toInt ≤ qd.toInt + 1) ∧ (st = 1 → ((se - fi) &&& 255).toInt ≤ 1)
theorem sim_adv {fS mF se fi ti : (Nat → Int32)} {k i1 : Int32} {K m : Nat} (hk : k.toInt = K) (e6 : fS 6 = fi K) (r6 : oct (fi K)) (e7 : fS 7 = se K) (r7 : oct (se K)) (hm : i1.toInt = m) (h1 : 1 ≤ m) (hw : ((se K - fi K) &&& 255).toInt + m ≤ 255) (t1 : ¬ fi K = se K → fS 13 = ti K) :
    FX5_goOn fS i1 7 = (FX10_advance mF se fi ti k i1).1 K ∧ oct ((FX10_advance mF se fi ti k i1).1 K) ∧ ¬ fi K = (FX10_advance mF se fi ti k i1).1 K ∧ FX5_goOn fS i1 13 = (FX10_advance mF se fi ti k i1).2 K ∧ (∀ j, j ≠ K → (FX10_advance mF se fi ti k i1).1 j = se j) ∧ (∀ j, j ≠ K → (FX10_advance mF se fi ti k i1).2 j = ti j) ∧ (∀ j, j ≠ 7 → j ≠ 13 → FX5_goOn fS i1 j = fS j) ∧ (((FX10_advance mF se fi ti k i1).1 K - fi K) &&& 255).toInt = ((se K - fi K) &&& 255).toInt + m := by
  have hw2 := wayI r7 r6
  have ha := addI (b := i1) r7 (by omega) (by omega)
  have hoc : oct ((se K + i1) &&& 255) := oct_and _
  have hx := wayI hoc r6
  obtain ⟨p0, p1⟩ := id r6
  obtain ⟨p2, p3⟩ := id r7
  have hne : ¬ fi K = ((se K + i1) &&& 255) := fun e => by rw [← e] at ha; omega
  have hws : (((se K + i1) &&& 255) - fi K &&& 255).toInt = ((se K - fi K) &&& 255).toInt + m := by rw [hx, ha]; omega
  unfold FX10_advance FX10_way FX5_goOn
  rw [tcE hk, e6, e7]
  by_cases q : fi K = se K
  · rw [if_pos q, if_pos (show ((se K - fi K) &&& 255) = 0 from Int32.toInt_inj.mp (by rw [hw2, q, k0]; omega))]
    dsimp only
    refine ⟨?_, ?_, ?_, ?_, fun j hj => pk_un hj, fun j hj => pk_un hj, fun j j7 j13 => by rw [pk_un j7, pk_un j13], ?_⟩
    · rw [pk_us, pk_us]
    · rw [pk_us]; exact hoc
    · rw [pk_us]; exact hne
    · rw [pk_us]; rfl
    · rw [pk_us]; exact hws
  · rw [if_neg q, if_neg (show ¬ ((se K - fi K) &&& 255) = 0 from fun e => q (Int32.toInt_inj.mp (by rw [e, k0] at hw2; omega)))]
    dsimp only
    refine ⟨?_, ?_, ?_, ?_, fun j hj => pk_un hj, fun j hj => rfl, fun j j7 j13 => by rw [pk_un j7], ?_⟩
    · rw [pk_us, pk_us]
    · rw [pk_us]; exact hoc
    · rw [pk_us]; exact hne
    · rw [← t1 q]; rfl
    · rw [pk_us]; exact hws
theorem nss_i {fS : (Nat → Int32)} {wi pa qd fi se : Int32} (e10 : fS 10 = wi) (r10 : oct wi) (e11 : fS 11 = pa) (r11 : 1 ≤ pa.toInt ∧ pa.toInt ≤ 4) (e8 : fS 8 = qd) (r8 : 0 ≤ qd.toInt ∧ qd.toInt ≤ 64) (e6 : fS 6 = fi) (e7 : fS 7 = se) : (FX5_nextSegmentSize fS).toInt = max 0 (min 8 (min (min wi.toInt (8 * pa.toInt) - ((se - fi) &&& 255).toInt) (qd.toInt - ((se - fi) &&& 255).toInt))) := by
  have hw := and255 (se - fi)
  obtain ⟨p0, p1⟩ := r10
  have e8p : ((8 : Int32) * pa).toInt = 8 * pa.toInt := tI_cm 8 k8 (by omega) (by omega)
  have em : (mn wi (8 * pa)).toInt = min wi.toInt (8 * pa.toInt) := by rw [mn_i, e8p]
  unfold FX5_nextSegmentSize FX5_onTheWay
  rw [e10, e11, e8, e6, e7, mx_i, mn_i, mn_i, tI_sub (by omega) (by omega), em, tI_sub (by omega) (by omega), k0, k8]
theorem pu156 {kn fi qu ad out ol se ti : (Nat → Int32)} {k on sz : Int32} {lf : Int32 → (Nat → Int32) → (Nat → Int32) → (Nat → Int32) → (Nat → Int32) → (Nat → Int32) → (Nat → Int32) → (Nat → Int32) × (Nat → Int32) × (Nat → Int32) × (Nat → Int32) × (Nat → Int32) × (Nat → Int32) × (Nat → Int32) × (Nat → Int32)} {K O m : Nat} (hk : k.toInt = K) (hK : K < 3) (ho : on.toInt = O) (hO : O ≤ 255) (hs : sz.toInt = m) (hm : m ≤ 8) : ∀ (n : Nat) (y : Int32) (Y : Nat) (mF sd : (Nat → Int32)), y.toInt = Y → Y ≤ m → m - Y < n → (mF 30).toInt = ((5 + Y : Nat) : Int) →
    ∃ mF' sd', LX10_push_156 kn fi qu ad k on out ol se ti sz lf n y mF sd = KX10_push_208 fi k (FX10_sendTo mF' kn out ol sd' (ad k.toNatClampNeg) 6) on se ti sz sd' lf ∧ (mF' 30).toInt = ((5 + m : Nat) : Int) ∧ (∀ j, j ≠ 30 → mF' j = mF j) ∧ (∀ i, i < 5 + Y → sd' i = sd i) ∧ (∀ t, Y ≤ t → t < m → sd' (5 + t) = qu (64 * K + O + t)) := by
  intro n
  induction n with
  | zero => intro y Y mF sd _ _ h; omega
  | succ n ih =>
    intro y Y mF sd hy hY h h30
    rw [LX10_push_156]
    by_cases q : sz ≤ y
    · have q' := iT q
      obtain rfl : Y = m := by omega
      rw [if_pos q]
      exact ⟨mF, sd, rfl, h30, fun _ _ => rfl, fun _ _ => rfl, fun t a b => by omega⟩
    · have q' := iTn q
      have h9 := tI_s (a := y) (by omega)
      have h3 := tI_s (a := mF 30) (by omega)
      have e0 : (((64 : Int32) * k) + on).toInt = ((64 * K + O : Nat) : Int) := by
        have a := tI_mulN (c := 64) (a := k) 64 K k64 hk (by omega)
        rw [tI_add (by omega) (by omega)]; omega
      have e2 : ((((64 : Int32) * k) + on) + y).toNatClampNeg = 64 * K + O + Y := tcE (by rw [tI_add (by omega) (by omega)]; omega)
      rw [if_neg q, e2, tcE h30]
      obtain ⟨mF', sd', a, b, c, d, e⟩ := ih (y + 1) (Y + 1) (upd mF 30 (mF 30 + 1)) (upd sd (5 + Y) (qu (64 * K + O + Y))) (by omega) (by omega) (by omega) (by rw [pk_us]; omega)
      refine ⟨mF', sd', a, b, fun j hj => by rw [c j hj, pk_un hj], fun i hi => by rw [d i (by omega), pk_un (by omega)], fun t t0 t1 => ?_⟩
      by_cases f : t = Y
      · subst f
        rw [d _ (by omega), pk_us]
      · exact e t (by omega) t1
def PuP (C : Int32 × (Nat → Int32) × (Nat → Int32) × (Nat → Int32) × (Nat → Nat → Int32) × (Nat → Int32)) (M : (Nat → Int32) × (Nat → Int32) × (Nat → Int32) × (Nat → Int32) × (Nat → Int32) × (Nat → Int32) × (Nat → Int32) × (Nat → Int32)) (so si st ad po ne fi se wi pa : (Nat → Int32)) (tr : Int32) (ti qd bd qu bx mF : (Nat → Int32)) (K : Nat) (T : Int) : Prop :=
  R_F C.2.2.1 C.2.2.2.1 C.2.2.2.2.1 M.1 M.2.1 M.2.2.1 ∧ C.2.2.1 5 = M.1 9 ∧ C.2.2.2.2.2 2 = M.2.2.2.2.1 K ∧ RS1 C.2.2.2.2.2 so si (M.2.2.2.2.1 K) (ad K) (po K) (ne K) (fi K) (M.2.2.2.2.2.1 K) (wi K) (pa K) tr (M.2.2.2.2.2.2.2 K) (qd K) (M.2.2.2.2.2.2.1 K) (fun i => qu (64 * K + i)) (fun i => bx (16 * K + i)) ∧ (C.1 = 0 → (C.2.2.1 4).toInt = T) ∧ (¬ C.1 = 0 → T < (C.2.2.1 4).toInt) ∧ (C.2.2.1 4).toInt ≤ T + 200 ∧ (∀ j, j ≠ K → M.2.2.2.2.1 j = st j ∧ M.2.2.2.2.2.1 j = se j ∧ M.2.2.2.2.2.2.1 j = bd j ∧ M.2.2.2.2.2.2.2 j = ti j) ∧ (∀ j, j ≠ 8 → j ≠ 9 → j ≠ 30 → M.1 j = mF j)
theorem push_exit {fR sg fW wst wl : (Nat → Int32)} {wr : (Nat → Nat → Int32)} {fS so si mF mF0 kn out ol sd st ad po ne fi se se0 wi pa ti ti0 qd bd qu bx : (Nat → Int32)} {tr k on y2 : Int32} {K : Nat} {T : Int} (hk : k.toInt = K) (hK : K < 3) (hF : R_F fW wl wr mF out ol) (hid : fW 5 = mF 9) (hKn : R_K wst kn) (e2 : fS 2 = st K) (hst : st K = 2 ∨ st K = 3)
    (hS : RS1 fS so si (st K) (ad K) (po K) (ne K) (fi K) (se K) (wi K) (pa K) tr (ti K) (qd K) (bd K) (fun i => qu (64 * K + i)) (fun i => bx (16 * K + i))) (ho : on.toInt = ((se K - fi K) &&& 255).toInt)
    (y0 : y2 = 0 → (fW 4).toInt = T) (y1 : ¬ y2 = 0 → T < (fW 4).toInt) (hT : (fW 4).toInt ≤ T + 190) (hT2 : T < 1900000000) (hT0 : T ≤ (fW 4).toInt) (hj : ∀ j, j ≠ K → se j = se0 j ∧ ti j = ti0 j) (hm : ∀ j, j ≠ 8 → j ≠ 9 → j ≠ 30 → mF j = mF0 j) :
    PuP (if (FX5_canEnd fS si) = 0 then (y2, sg, fW, wl, wr, fS) else KX6_push_59 (FX6_send fR sg fW wst wl wr (upd fS 9 0) so 17 0)) (JX10_push_226 kn st fi qd po ne bd bx ad k on mF sd out ol se ti) so si st ad po ne fi se0 wi pa tr ti0 qd bd qu bx mF0 K T := by
  obtain ⟨s4, e3, r3, e4, r4, e5, r5, e6, r6, e7, r7, e10, r10, e11, r11, e12, q12, e8, r8, e9, r9, t1, t0, hq, hb, w2, w4, w1⟩ := id hS
  have ek : k.toNatClampNeg = K := tcE hk
  have base : PuP (y2, sg, fW, wl, wr, fS) (mF, out, ol, sd, st, se, bd, ti) so si st ad po ne fi se0 wi pa tr ti0 qd bd qu bx mF0 K T := ⟨hF, hid, e2, hS, y0, y1, by show (fW 4).toInt ≤ _; omega, fun j h => ⟨rfl, (hj j h).1, rfl, (hj j h).2⟩, hm⟩
  have hw := w2 hst
  have eo : on = FX5_onTheWay fS := by
    unfold FX5_onTheWay
    rw [e6, e7]; exact Int32.toInt_inj.mp ho
  unfold JX10_push_226
  rw [ek]
  by_cases s3 : st K = 3
  · rw [if_pos s3]
    by_cases o : on < qd K
    · have o' := lT o
      have ce : FX5_canEnd fS si = 0 := by
        unfold FX5_canEnd
        rw [e2, if_pos s3, ← eo, e8, if_neg (fun e => by rw [e] at o'; omega)]
      rw [if_pos ce, if_pos o]
      exact base
    · have o' := lTn o
      have eq : on = qd K := Int32.toInt_inj.mp (by omega)
      have el : FX5_lineLength fS si = FX10_line mF bd bx k := sim_line hk hK e9 hb
      have hl := mline_in (mF := mF) (bo := bd) (bx := bx) (i0 := k) (by rw [ek]; omega)
      rw [if_neg o]
      by_cases l : FX10_line mF bd bx k ≤ 0
      · have l' := iT l
        rw [k0] at l'
        have ce : FX5_canEnd fS si = 1 := by
          unfold FX5_canEnd
          rw [e2, if_pos s3, ← eo, e8, if_pos eq, el, if_pos (Int32.toInt_inj.mp (by rw [k0]; omega))]
        rw [if_neg (by rw [ce]; decide), if_pos l]
        have h40 := tI_s (a := fW 4) (by omega)
        obtain ⟨a1, a2, a3, a4, a5, a6⟩ := sim_tell (fR := fR) (sg := sg) (fS := upd fS 9 0) (so := so) (mF := mF) (sd := sd) (po := po) (se := se) (ne := ne) (bd := upd bd K 0) (ad := ad) hF (by omega) hid hKn (k := k) (fl := 17) (by unfold oct; decide) (by rw [ek]; exact e3) (by rw [ek]; exact r3) (by rw [ek]; exact e4) (by rw [ek]; exact r4) (by rw [ek]; exact e5) (by rw [ek]; exact r5) (by rw [ek]; exact e7) (by rw [ek]; exact r7) (by rw [ek, pk_us, pk_us]) (by rw [ek, pk_us]; decide)
        unfold KX6_push_59 KX10_push_266 KX10_push_272
        rw [ek]
        rw [if_neg (show ¬ ((17 : Int32) &&& 3) = 0 by decide)] at a6
        obtain ⟨b1, b2, b3, b4, b5, b6, b7, b8⟩ := sim_adv (fS := upd fS 9 0) (mF := (FX10_tell mF kn out ol sd po se ne (upd bd K 0) ad k 17).1) (se := se) (fi := fi) (ti := ti) (k := k) (i1 := 0 + 1) (m := 1) hk e6 r6 e7 r7 rfl (by omega) (by omega) t1
        refine ⟨a1, a2, ?_, ?_, fun e => absurd e (show ¬ (1 : Int32) = 0 by decide), fun _ => ?_, ?_, fun j hjk => ?_, fun j j8 j9 j30 => (a5 j j8 j9 j30).trans (hm j j8 j9 j30)⟩
        · show (4 : Int32) = upd st K 4 K
          rw [pk_us]
        · show RS1 (upd (FX6_send fR sg fW wst wl wr (upd fS 9 0) so 17 0).2.2.2.2 2 4) so si (upd st K 4 K) (ad K) (po K) (ne K) (fi K) ((FX10_advance (FX10_tell mF kn out ol sd po se ne (upd bd K 0) ad k 17).1 se fi ti k 1).1 K) (wi K) (pa K) tr ((FX10_advance (FX10_tell mF kn out ol sd po se ne (upd bd K 0) ad k 17).1 se fi ti k 1).2 K) (qd K) (upd bd K 0 K) _ _
          rw [a6, pk_us, pk_us]
          have fr : ∀ j, j ≠ 7 → j ≠ 13 → j ≠ 2 → j ≠ 9 → upd (FX5_goOn (upd fS 9 0) (0 + 1)) 2 4 j = fS j := fun j x7 x13 x2 x9 => by rw [pk_un x2, b7 j x7 x13, pk_un x9]
          refine ⟨(Or.inr (Or.inr (Or.inr rfl))), ((fr 3 (by decide) (by decide) (by decide) (by decide)).trans e3), r3, ((fr 4 (by decide) (by decide) (by decide) (by decide)).trans e4), r4, ((fr 5 (by decide) (by decide) (by decide) (by decide)).trans e5), r5, ((fr 6 (by decide) (by decide) (by decide) (by decide)).trans e6), r6, (b1), (b2), ((fr 10 (by decide) (by decide) (by decide) (by decide)).trans e10), r10, ((fr 11 (by decide) (by decide) (by decide) (by decide)).trans e11), r11, ((fr 12 (by decide) (by decide) (by decide) (by decide)).trans e12), q12, ((fr 8 (by decide) (by decide) (by decide) (by decide)).trans e8), r8, ?_, ((by decide)), (fun _ => b4), (fun e => absurd e b3), hq, (fun i hi => absurd hi (by rw [k0]; omega)), (fun e => absurd e (by decide)), (fun _ => ?_), (fun e => absurd e (by decide))⟩
          · show FX5_goOn (upd fS 9 0) (0 + 1) 9 = 0
            rw [b7 9 (by decide) (by decide), pk_us]
          · have b8' : (((FX10_advance (FX10_tell mF kn out ol sd po se ne (upd bd K 0) ad k 17).1 se fi ti k 1).1 K - fi K) &&& 255).toInt = ((se K - fi K) &&& 255).toInt + (1 : Nat) := b8
            rw [b8']; omega
        · show T < ((FX6_send fR sg fW wst wl wr (upd fS 9 0) so 17 0).2.1 4).toInt
          omega
        · show ((FX6_send fR sg fW wst wl wr (upd fS 9 0) so 17 0).2.1 4).toInt ≤ T + 200
          omega
        · exact ⟨pk_un hjk, (b5 j hjk).trans (hj j hjk).1, pk_un hjk, (b6 j hjk).trans (hj j hjk).2⟩
      · have l' := iTn l
        rw [k0] at l'
        have ce : FX5_canEnd fS si = 0 := by
          unfold FX5_canEnd
          rw [e2, if_pos s3, ← eo, e8, if_pos eq, el, if_neg (fun e => by rw [e, k0] at l'; omega)]
        rw [if_pos ce, if_neg l]
        exact base
  · have ce : FX5_canEnd fS si = 0 := by
      unfold FX5_canEnd
      rw [e2, if_neg s3]
    rw [if_pos ce, if_neg s3]
    exact base
theorem push_sz {kn fi po ne bd qu ad mF sd out ol se ti : (Nat → Int32)} {k on k0 qk s : Int32} {lf : Int32 → (Nat → Int32) → (Nat → Int32) → (Nat → Int32) → (Nat → Int32) → (Nat → Int32) → (Nat → Int32) → (Nat → Int32) × (Nat → Int32) × (Nat → Int32) × (Nat → Int32) × (Nat → Int32) × (Nat → Int32) × (Nat → Int32) × (Nat → Int32)} (ho : 0 ≤ on.toInt ∧ on.toInt < 256) (hk : 0 ≤ k0.toInt ∧ k0.toInt < 300) (hq : 0 ≤ qk.toInt ∧ qk.toInt ≤ 64) (hs : s.toInt = min 8 (min (k0.toInt - on.toInt) (qk.toInt - on.toInt))) :
    (if (k0 - on) ≤ (qk - on) then JX10_push_107 kn fi po ne bd qu ad k on mF sd out ol se ti lf (k0 - on) else JX10_push_107 kn fi po ne bd qu ad k on mF sd out ol se ti lf (qk - on)) = JX10_push_120 kn fi po ne bd qu ad k on mF sd out ol se ti lf s := by
  have e1 : (k0 - on).toInt = k0.toInt - on.toInt := tI_sub (by omega) (by omega)
  have e2 : (qk - on).toInt = qk.toInt - on.toInt := tI_sub (by omega) (by omega)
  have st : ∀ x : Int32, s.toInt = min 8 x.toInt → JX10_push_107 kn fi po ne bd qu ad k on mF sd out ol se ti lf x = JX10_push_120 kn fi po ne bd qu ad k on mF sd out ol se ti lf s := fun x hx => by
    unfold JX10_push_107
    by_cases q : x ≤ 8
    · have q' := iT q
      rw [k8] at q'
      rw [if_pos q, show x = s from Int32.toInt_inj.mp (by omega)]
    · have q' := iTn q
      rw [k8] at q'
      rw [if_neg q, show (8 : Int32) = s from Int32.toInt_inj.mp (by rw [k8]; omega)]
  by_cases q : k0 - on ≤ qk - on
  · have q' := iT q
    rw [if_pos q]
    exact st _ (by omega)
  · have q' := iTn q
    rw [if_neg q]
    exact st _ (by omega)
theorem push10 {fR wst so si kn st ad po ne fi se0 wi pa ti0 qd bd qu bx mF0 : (Nat → Int32)} {tr k lim : Int32} {K : Nat} {T : Int} (hk : k.toInt = K) (hK : K < 3) (hKn : R_K wst kn) (hst : st K = 2 ∨ st K = 3) (hlim : lim.toInt = min (wi K).toInt (8 * (pa K).toInt)) (hT2 : T < 1900000000) :
    ∀ (n n' : Nat) (y4 : Int32) (Y : Nat) (y2 : Int32) (sg fW wl : (Nat → Int32)) (wr : (Nat → Nat → Int32)) (fS : (Nat → Int32)) (on : Int32) (mF sd out ol se ti : (Nat → Int32)), R_F fW wl wr mF out ol → fW 5 = mF 9 → fS 2 = st K → RS1 fS so si (st K) (ad K) (po K) (ne K) (fi K) (se K) (wi K) (pa K) tr (ti K) (qd K) (bd K) (fun i => qu (64 * K + i)) (fun i => bx (16 * K + i)) → on.toInt = ((se K - fi K) &&& 255).toInt → (y2 = 0 → (fW 4).toInt = T) → (¬ y2 = 0 → T < (fW 4).toInt) → (fW 4).toInt ≤ T + 2 * Y → T ≤ (fW 4).toInt → (∀ j, j ≠ K → se j = se0 j ∧ ti j = ti0 j) → (∀ j, j ≠ 8 → j ≠ 9 → j ≠ 30 → mF j = mF0 j) →
      y4.toInt = Y → Y + ((qd K).toInt - on.toInt) ≤ 64 → Y ≤ 64 → 64 - Y < n → ((qd K).toInt - on.toInt).toNat < n' →
      PuP (LX6_push_10 fR wst so si n y4 (FX5_nextSegmentSize fS) y2 sg fW wl wr fS) (LX10_push_64 kn st fi qd po ne bd bx qu ad k lim n' on mF sd out ol se ti) so si st ad po ne fi se0 wi pa tr ti0 qd bd qu bx mF0 K T := by
  have ek : k.toNatClampNeg = K := tcE hk
  intro n
  induction n with
  | zero => intro n' y4 Y y2 sg fW wl wr fS on mF sd out ol se ti _ _ _ _ _ _ _ _ _ _ _ _ _ _ h; omega
  | succ n ih =>
    intro n' y4 Y y2 sg fW wl wr fS on mF sd out ol se ti hF hid e2 hS ho y0 y1 hT hT0 hj hm hy hY1 hY2 hn hn'
    obtain ⟨s4, e3, r3, e4, r4, e5, r5, e6, r6, e7, r7, e10, r10, e11, r11, e12, q12, e8, r8, e9, r9, t1, t0, hq, hb, w2, w4, w1⟩ := id hS
    obtain ⟨n'', rfl⟩ : ∃ m, n' = m + 1 := ⟨n' - 1, by omega⟩
    have hs := nss_i (fS := fS) e10 r10 e11 r11 e8 r8 e6 e7
    have hw := and255 (se K - fi K)
    have hw2 := w2 hst
    have ex := push_exit (fR := fR) (sg := sg) (wst := wst) (kn := kn) (sd := sd) (y2 := y2) hk hK hF hid hKn e2 hst hS ho y0 y1 (by omega) hT2 hT0 hj hm
    obtain ⟨r10a, r10b⟩ := id r10
    rw [LX6_push_10, LX10_push_64, ek]
    by_cases cA : qd K ≤ on
    · have cA' := iT cA
      rw [if_pos cA, if_pos (show FX5_nextSegmentSize fS ≤ 0 from Int32.le_iff_toInt_le.mpr (by rw [hs, k0]; omega))]
      by_cases c64 : 64 ≤ y4
      · rw [if_pos c64]; exact ex
      · rw [if_neg c64]; exact ex
    · have cA' := iTn cA
      have n64 : ¬ (64 : Int32) ≤ y4 := fun e => by have := iT e; rw [k64] at this; omega
      rw [if_neg cA, if_neg n64]
      by_cases cB : lim ≤ on
      · have cB' := iT cB
        rw [if_pos cB, if_pos (show FX5_nextSegmentSize fS ≤ 0 from Int32.le_iff_toInt_le.mpr (by rw [hs, k0]; omega))]
        exact ex
      · have cB' := iTn cB
        have hs2 : (FX5_nextSegmentSize fS).toInt = min 8 (min (lim.toInt - on.toInt) ((qd K).toInt - on.toInt)) := by rw [hs]; omega
        obtain ⟨m, hm8⟩ : ∃ m : Nat, (FX5_nextSegmentSize fS).toInt = m := ⟨(FX5_nextSegmentSize fS).toInt.toNat, by omega⟩
        rw [if_neg cB, if_neg (show ¬ FX5_nextSegmentSize fS ≤ 0 from fun e => by have := iT e; rw [k0] at this; omega), push_sz (by omega) (by omega) (by omega) hs2]
        generalize FX5_nextSegmentSize fS = s at hs hs2 hm8 ⊢
        have h9 := tI_s (a := y4) (by omega)
        obtain ⟨O, hO⟩ : ∃ O : Nat, on.toInt = O := ⟨on.toInt.toNat, by omega⟩
        obtain ⟨g, ga, g0, g1, g2, g3, g4, g5⟩ := send_eq (fR := fR) (sg := sg) (fW := fW) (wst := wst) (wl := wl) (wr := wr) (fS := fS) (so := so) (i0 := 16) (i1 := s) m hm8 (by omega)
        rw [if_pos (show ((16 : Int32) &&& 3) = 0 by decide)] at ga
        have eow : (FX5_onTheWay fS).toInt.toNat = O := by
          unfold FX5_onTheWay
          rw [e6, e7]; omega
        rw [eow] at g5
        unfold JX10_push_120 KX10_push_150 FX10_say
        rw [ek]
        obtain ⟨mF', sd', p, p1, p2, p3, p4⟩ := pu156 (kn := kn) (fi := fi) (qu := qu) (ad := ad) (out := out) (ol := ol) (se := se) (ti := ti) (lf := LX10_push_64 kn st fi qd po ne bd bx qu ad k lim n'') hk hK hO (by omega) hm8 (by omega) 128 0 0 (upd mF 30 5) (upd (upd (upd (upd (upd sd 0 (po K)) 1 (se K &&& 255)) 2 (ne K &&& 255)) 3 16) 4 ((16 : Int32) - bd K)) rfl (by omega) (by omega) rfl
        have e16 : ((16 : Int32) - bd K).toInt = 16 - (bd K).toInt := tI_cs 16 k16 (by omega) (by omega)
        have e5s : ((5 : Int32) + s).toInt = ((5 + m : Nat) : Int) := by rw [tI_ca 5 k5 (by omega) (by omega)]; omega
        have key := sim_sendTo (rb := g) (se := sd') (mF := mF') (kn := kn) (wst := wst) (fW := fW) (wl := wl) (wr := wr) (out := out) (ol := ol) (show R_F fW wl wr mF' out ol by
            obtain ⟨f1, f2, f3, f4, f5⟩ := id hF
            exact ⟨f1, f2, by rw [f3, p2 8 (by decide)]; rfl, f4, f5⟩) (by omega) (by rw [p2 9 (by decide)]; exact hid) hKn (i0 := ad K) (i1 := 6) (i2 := (5 : Int32) + s) r3.1 r3.2 (by unfold oct; decide) (5 + m) e5s (by omega) (Int32.toInt_inj.mp (by rw [p1, e5s])) (fun i hi => by
          by_cases i5 : i < 5
          · rw [p3 i (by omega)]
            obtain rfl | rfl | rfl | rfl | rfl : i = 0 ∨ i = 1 ∨ i = 2 ∨ i = 3 ∨ i = 4 := by omega
            · exact ⟨g0.trans e4, r4⟩
            · exact ⟨(g1.trans e7).trans (o255 r7).symm, oct_and _⟩
            · exact ⟨(g2.trans e5).trans (o255 r5).symm, oct_and _⟩
            · exact ⟨g3, (by unfold oct; decide : oct (16 : Int32))⟩
            · refine ⟨g4.trans (by rw [e9]; rfl), ?_⟩
              show oct ((16 : Int32) - bd K)
              unfold oct; omega
          · obtain ⟨t, rfl⟩ : ∃ t, i = 5 + t := ⟨i - 5, by omega⟩
            rw [g5 t (by omega), p4 t (by omega) (by omega), show 64 * K + O + t = 64 * K + (O + t) by omega]
            exact hq (O + t) (by omega))
        obtain ⟨x1, x2, x3, x4, x5⟩ := key
        rw [p, ek]
        unfold KX6_push_26 KX10_push_208 KX10_push_215
        rw [ga, e3]
        dsimp only
        obtain ⟨b1, b2, b3, b4, b5, b6, b7, b8⟩ := sim_adv (fS := fS) (mF := (FX10_sendTo mF' kn out ol sd' (ad K) 6).1) (se := se) (fi := fi) (ti := ti) (k := k) (i1 := s) (m := m) hk e6 r6 e7 r7 hm8 (by omega) (by omega) t1
        have e8' := (b7 8 (by decide) (by decide)).trans e8
        refine ih n'' (y4 + 1) (Y + 1) 1 _ _ _ _ _ (on + s) _ _ _ _ _ _ x1 x2 ((b7 2 (by decide) (by decide)).trans e2) ?_ ?_ (fun e => absurd e (by decide)) (fun _ => by omega) (by omega) (by omega) (fun j hjk => ⟨(b5 j hjk).trans (hj j hjk).1, (b6 j hjk).trans (hj j hjk).2⟩) (fun j j8 j9 j30 => by rw [x5 j j8 j9, p2 j j30, pk_un j30]; exact hm j j8 j9 j30) (by omega) ?_ (by omega) (by omega) ?_
        · exact ⟨s4, ((b7 3 (by decide) (by decide)).trans e3), r3, ((b7 4 (by decide) (by decide)).trans e4), r4, ((b7 5 (by decide) (by decide)).trans e5), r5, ((b7 6 (by decide) (by decide)).trans e6), r6, (b1), (b2), ((b7 10 (by decide) (by decide)).trans e10), r10, ((b7 11 (by decide) (by decide)).trans e11), r11, ((b7 12 (by decide) (by decide)).trans e12), q12, (e8'), r8, ((b7 9 (by decide) (by decide)).trans e9), r9, (fun _ => b4), (fun e => absurd e b3), hq, hb, (fun _ => by rw [b8]; omega), (fun _ => by rw [b8]; omega), (fun e => absurd e (by rcases hst with q | q <;> rw [q] <;> decide))⟩
        · rw [b8, tI_add (by omega) (by omega)]; omega
        · rw [tI_add (by omega) (by omega)]; omega
        · rw [tI_add (by omega) (by omega)]; omega
theorem sim_push {fR sg fW wst wl : (Nat → Int32)} {wr : (Nat → Nat → Int32)} {fS so si mF kn out ol sd st ad po ne fi se wi pa ti qd bd qu bx : (Nat → Int32)} {tr k : Int32} {K : Nat} (hk : k.toInt = K) (hK : K < 3) (hF : R_F fW wl wr mF out ol) (hid : fW 5 = mF 9) (hKn : R_K wst kn) (e2 : fS 2 = st K) (hst : st K = 2 ∨ st K = 3)
    (hS : RS1 fS so si (st K) (ad K) (po K) (ne K) (fi K) (se K) (wi K) (pa K) tr (ti K) (qd K) (bd K) (fun i => qu (64 * K + i)) (fun i => bx (16 * K + i))) (hT : (fW 4).toInt < 1900000000) :
    PuP (FX6_push fR sg fW wst wl wr fS so si) (FX10_push mF kn out ol sd st wi pa se fi qd po ne bd bx qu ad ti k) so si st ad po ne fi se wi pa tr ti qd bd qu bx mF K (fW 4).toInt := by
  have ek : k.toNatClampNeg = K := tcE hk
  obtain ⟨s4, e3, r3, e4, r4, e5, r5, e6, r6, e7, r7, e10, r10, e11, r11, e12, q12, e8, r8, e9, r9, t1, t0, hq, hb, w2, w4, w1⟩ := id hS
  obtain ⟨r10a, r10b⟩ := id r10
  have hw := and255 (se K - fi K)
  have hw2 := w2 hst
  have e8p : ((8 : Int32) * pa K).toInt = 8 * (pa K).toInt := tI_cm 8 k8 (by omega) (by omega)
  have key : ∀ lim : Int32, lim.toInt = min (wi K).toInt (8 * (pa K).toInt) → PuP (FX6_push fR sg fW wst wl wr fS so si) (JX10_push_57 mF kn out ol sd st se fi qd po ne bd bx qu ad ti k lim) so si st ad po ne fi se wi pa tr ti qd bd qu bx mF K (fW 4).toInt := fun lim hl => by
    unfold FX6_push JX10_push_57 FX10_way
    rw [ek]
    exact push10 (n := 128) (n' := 128) hk hK hKn hst hl hT 0 0 0 sg fW wl wr fS ((se K - fi K) &&& 255) mF sd out ol se ti hF hid e2 hS rfl (fun _ => rfl) (fun e => absurd rfl e) (by omega) (Int.le_refl _) (fun _ _ => ⟨rfl, rfl⟩) (fun _ _ _ _ => rfl) rfl (by omega) (by omega) (by omega) (by omega)
  have key2 : PuP (FX6_push fR sg fW wst wl wr fS so si) (JX10_push_21 mF kn out ol sd st wi pa se fi qd po ne bd bx qu ad ti k) so si st ad po ne fi se wi pa tr ti qd bd qu bx mF K (fW 4).toInt := by
    unfold JX10_push_21
    rw [ek]
    by_cases q : (8 : Int32) * pa K ≤ wi K
    · have q' := iT q
      rw [if_pos q]
      exact key _ (by omega)
    · have q' := iTn q
      rw [if_neg q]
      exact key _ (by omega)
  unfold FX10_push
  rw [ek]
  rcases hst with q | q
  · rw [if_pos q]; exact key2
  · rw [if_neg (by rw [q]; decide), if_pos q]; exact key2

