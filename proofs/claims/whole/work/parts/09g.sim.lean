-- the simulation: a segment of an stream begun, its acknowledgement
theorem go99 {mF kn out ol sd st wi pa se fi qd po ne bd bx ad ti tr ld an nl nm bl bo ck : (Nat → Int32)} {k i1 i2 i3 i4 i5 x v : Int32} {K D X : Nat} (hk : k.toInt = K) (hK : K < 3) (hx : x.toInt = D) (hv : v.toInt = X) (hb : D + X ≤ 64) : ∀ (n : Nat) (y : Int32) (Y : Nat) (z : (Nat → Int32)), y.toInt = Y → Y ≤ X → X - Y < n →
    ∃ z', LX10_goOn_99 mF kn out ol sd st wi pa se fi qd po ne bd bx ad ti tr ld an nl nm bl bo ck k i1 i2 i3 i4 i5 x v n y z = JX10_goOn_143 mF kn out ol sd wi pa se fi po ne bd bx ad ti tr ld an nl nm bl bo ck k i1 i2 i3 i4 i5 st (upd qd k.toNatClampNeg v) z' ∧ (∀ i, Y ≤ i → i < X → z' (64 * K + i) = z (64 * K + i + D)) ∧ (∀ j, (j < 64 * K + Y ∨ 64 * K + 64 ≤ j) → z' j = z j) := by
  intro n
  induction n with
  | zero => intro y Y z _ _ h; omega
  | succ n ih =>
    intro y Y z hy hY h
    rw [LX10_goOn_99, pk_us]
    by_cases q : v ≤ y
    · have q' := iT q
      rw [if_pos q]
      exact ⟨z, rfl, fun i a b => by omega, fun j _ => rfl⟩
    · have q' := iTn q
      have h9 := tI_s (a := y) (by omega)
      have e1 : (((64 : Int32) * k) + y).toNatClampNeg = 64 * K + Y := tcMA 64 K Y k64 hk hy (by omega) (by omega) (by omega)
      have e0 : (((64 : Int32) * k) + y).toInt = ((64 * K + Y : Nat) : Int) := by
        have a := tI_mulN (c := 64) (a := k) 64 K k64 hk (by omega)
        rw [tI_add (by omega) (by omega)]; omega
      have e2 : ((((64 : Int32) * k) + y) + x).toNatClampNeg = 64 * K + Y + D := tcE (by rw [tI_add (by omega) (by omega)]; omega)
      rw [if_neg q, e1, e2]
      obtain ⟨z', a, b, c⟩ := ih (y + 1) (Y + 1) (upd z (64 * K + Y) (z (64 * K + Y + D))) (by omega) (by omega) (by omega)
      refine ⟨z', a, fun i i1 i2 => ?_, fun j hj => ?_⟩
      · by_cases e : i = Y
        · subst e
          rw [c _ (Or.inl (by omega)), pk_us]
        · rw [b i (by omega) i2, pk_un (by omega)]
      · rw [c j (by omega), pk_un (by omega)]
theorem pace_v {pa : Int32} (h : 1 ≤ pa.toInt ∧ pa.toInt ≤ 4) : mn (pa + 1) 4 = (if pa = 4 then 4 else pa + 1) ∧ 1 ≤ (if pa = 4 then (4 : Int32) else pa + 1).toInt ∧ (if pa = 4 then (4 : Int32) else pa + 1).toInt ≤ 4 := by
  have e := tI_s (a := pa) (by omega)
  by_cases q : pa = 4
  · rw [if_pos q, q]; decide
  · rw [if_neg q]
    have := neT (a := 4) q rfl
    exact ⟨Int32.toInt_inj.mp (by rw [mn_i, e, k4]; omega), by omega, by omega⟩
theorem sim_ack {fS so si mF kn out ol sd st wi pa se fi qd po ne bd bx qu ad ti tr ld an nl nm bl bo ck : (Nat → Int32)} {k i1 i2 i3 i4 i5 : Int32} {K : Nat} (hk : k.toInt = K) (hK : K < 3) (e2 : fS 2 = st K) (hst : ¬ st K = 0) (ho : oct i2)
    (hS : RS1 fS so si (st K) (ad K) (po K) (ne K) (fi K) (se K) (wi K) (pa K) (tr K) (ti K) (qd K) (bd K) (fun i => qu (64 * K + i)) (fun i => bx (16 * K + i))) :
    ((FX5_acknowledge fS so i2).1 2 = 0 ∧ FX10_goOn mF kn out ol sd st wi pa se fi qd po ne bd bx qu ad ti tr ld an nl nm bl bo ck k i1 i2 i3 i4 i5 = (mF, out, ol, sd, upd st K 0, wi, pa, se, fi, qd, ne, bd, bx, qu, ti, tr, an)) ∨
    (∃ st1 fi1 qd1 qu1 pa1 tr1 ti1 : (Nat → Int32), FX10_goOn mF kn out ol sd st wi pa se fi qd po ne bd bx qu ad ti tr ld an nl nm bl bo ck k i1 i2 i3 i4 i5 = JX10_goOn_185 mF kn out ol sd wi se po ne bd bx ad ld an nl nm bl bo ck k i1 i3 i4 i5 st1 fi1 qd1 qu1 pa1 tr1 ti1 ∧ (FX5_acknowledge fS so i2).1 2 = st1 K ∧ ¬ st1 K = 0 ∧
      RS1 (FX5_acknowledge fS so i2).1 (FX5_acknowledge fS so i2).2 si (st1 K) (ad K) (po K) (ne K) (fi1 K) (se K) (wi K) (pa1 K) (tr1 K) (ti1 K) (qd1 K) (bd K) (fun i => qu1 (64 * K + i)) (fun i => bx (16 * K + i)) ∧ (∀ j, j ≠ K → st1 j = st j ∧ fi1 j = fi j ∧ qd1 j = qd j ∧ pa1 j = pa j ∧ tr1 j = tr j ∧ ti1 j = ti j) ∧ (∀ j, (j < 64 * K ∨ 64 * K + 64 ≤ j) → qu1 j = qu j)) := by
  have ek : k.toNatClampNeg = K := tcE hk
  obtain ⟨s4, e3, r3, e4, r4, e5, r5, e6, r6, e7, r7, e10, r10, e11, r11, e12, q12, e8, r8, e9, r9, t1, t0, hq, hb, w2, w4, w1⟩ := id hS
  have hfar := wayI ho r6
  have hon := wayI r7 r6
  obtain ⟨p0, p1⟩ := id r6
  obtain ⟨p2, p3⟩ := id r7
  obtain ⟨p4, p5⟩ := id ho
  obtain ⟨pv1, pv2, pv3⟩ := pace_v r11
  unfold FX10_goOn FX5_acknowledge FX10_way FX5_onTheWay
  rw [ek, e6, e7]
  have same : ∀ x, x = JX10_goOn_185 mF kn out ol sd wi se po ne bd bx ad ld an nl nm bl bo ck k i1 i3 i4 i5 st fi qd qu pa tr ti → ∀ c, c = (fS, so) → ((c.1 2 = 0 ∧ x = (mF, out, ol, sd, upd st K 0, wi, pa, se, fi, qd, ne, bd, bx, qu, ti, tr, an)) ∨ (∃ st1 fi1 qd1 qu1 pa1 tr1 ti1 : (Nat → Int32), x = JX10_goOn_185 mF kn out ol sd wi se po ne bd bx ad ld an nl nm bl bo ck k i1 i3 i4 i5 st1 fi1 qd1 qu1 pa1 tr1 ti1 ∧ c.1 2 = st1 K ∧ ¬ st1 K = 0 ∧ RS1 c.1 c.2 si (st1 K) (ad K) (po K) (ne K) (fi1 K) (se K) (wi K) (pa1 K) (tr1 K) (ti1 K) (qd1 K) (bd K) (fun i => qu1 (64 * K + i)) (fun i => bx (16 * K + i)) ∧ (∀ j, j ≠ K → st1 j = st j ∧ fi1 j = fi j ∧ qd1 j = qd j ∧ pa1 j = pa j ∧ tr1 j = tr j ∧ ti1 j = ti j) ∧ (∀ j, (j < 64 * K ∨ 64 * K + 64 ≤ j) → qu1 j = qu j))) := by
    intro x hx c hc
    subst hx hc
    exact Or.inr ⟨st, fi, qd, qu, pa, tr, ti, rfl, e2, hst, hS, fun _ _ => ⟨rfl, rfl, rfl, rfl, rfl, rfl⟩, fun _ _ => rfl⟩
  by_cases a : ((i2 - fi K) &&& 255) ≤ 0
  · have a' := iT a
    rw [k0] at a'
    rw [if_pos a, if_pos (show ((i2 - fi K) &&& 255) < 1 from Int32.lt_iff_toInt_lt.mpr (by rw [k1]; omega))]
    exact same _ rfl _ rfl
  · have a' := iTn a
    rw [k0] at a'
    rw [if_neg a, if_neg (show ¬ ((i2 - fi K) &&& 255) < 1 from fun e => by have := lT e; rw [k1] at this; omega)]
    by_cases b : ((se K - fi K) &&& 255) < ((i2 - fi K) &&& 255)
    · have b' := lT b
      rw [if_pos b, if_neg (show ¬ ((i2 - fi K) &&& 255) ≤ ((se K - fi K) &&& 255) from fun e => by have := iT e; omega)]
      exact same _ rfl _ rfl
    · have b' := lTn b
      rw [if_neg b, if_pos (show ((i2 - fi K) &&& 255) ≤ ((se K - fi K) &&& 255) from Int32.le_iff_toInt_le.mpr b')]
      have hw' := wayI (a := se K) (b := i2) r7 ho
      have eJ : ∀ (s q z : (Nat → Int32)), JX10_goOn_143 mF kn out ol sd wi pa se fi po ne bd bx ad ti tr ld an nl nm bl bo ck k i1 i2 i3 i4 i5 s q z = JX10_goOn_185 mF kn out ol sd wi se po ne bd bx ad ld an nl nm bl bo ck k i1 i3 i4 i5 s (upd fi K i2) q z (upd pa K (if pa K = 4 then 4 else pa K + 1)) (upd tr K 0) (upd ti K 0) := fun s q z => by
        unfold JX10_goOn_143 JX10_goOn_170
        rw [ek]
        by_cases p : pa K = 4
        · rw [if_pos p, if_pos p]
        · rw [if_neg p, if_neg p]
      by_cases s1 : st K = 1
      · rw [if_neg (show ¬ st K = 4 by rw [s1]; decide), if_pos (e2.trans s1)]
        unfold JX10_goOn_58
        rw [ek, if_pos s1, eJ, e11, pv1]
        refine Or.inr ⟨upd st K 2, upd fi K i2, qd, qu, upd pa K (if pa K = 4 then 4 else pa K + 1), upd tr K 0, upd ti K 0, rfl, ?_, ?_, ?_, fun j hj => ⟨pk_un hj, pk_un hj, rfl, pk_un hj, pk_un hj, pk_un hj⟩, fun _ _ => rfl⟩
        · rw [pk_us]; rfl
        · rw [pk_us]; decide
        · rw [pk_us, pk_us, pk_us, pk_us, pk_us]
          have hw1 := w1 s1
          exact ⟨(Or.inr (Or.inl rfl)), e3, r3, e4, r4, e5, r5, (rfl), (ho), e7, r7, e10, r10, (rfl), (⟨pv2, pv3⟩), (rfl), ((by decide)), e8, r8, e9, r9, (fun _ => rfl), (fun _ => rfl), hq, hb, (fun _ => by rw [hw']; omega), (fun e => absurd e (by decide)), (fun e => absurd e (by decide))⟩
      · rw [if_neg (show ¬ fS 2 = 1 from fun e => s1 (e2.symm.trans e)), e8, e11, pv1]
        by_cases g : st K = 4 ∧ ((i2 - fi K) &&& 255) = ((se K - fi K) &&& 255)
        · rw [if_pos g.1, if_pos g.2]
          have g2 : ((i2 - fi K) &&& 255).toInt = ((se K - fi K) &&& 255).toInt := by rw [g.2]
          have gi : i2 = se K := Int32.toInt_inj.mp (by omega)
          unfold KX5_acknowledge_85
          rw [if_pos (e2.trans g.1), if_pos (gi.trans e7.symm)]
          exact Or.inl ⟨rfl, rfl⟩
        · have hfq : ((i2 - fi K) &&& 255).toInt ≤ (qd K).toInt := by
            rcases s4 with z | z | z | z
            · exact absurd z s1
            · have := w2 (Or.inl z); omega
            · have := w2 (Or.inr z); omega
            · have := w4 z
              have : ((i2 - fi K) &&& 255).toInt ≠ ((se K - fi K) &&& 255).toInt := fun e => g ⟨z, Int32.toInt_inj.mp e⟩
              omega
          have hn4 : st K = 4 → ¬ i2 = se K := fun z e => g ⟨z, by rw [e]⟩
          have emn : mn ((i2 - fi K) &&& 255) (qd K) = ((i2 - fi K) &&& 255) := Int32.toInt_inj.mp (by rw [mn_i]; omega)
          obtain ⟨D, hD⟩ : ∃ D : Nat, ((i2 - fi K) &&& 255).toInt = D := ⟨((i2 - fi K) &&& 255).toInt.toNat, by omega⟩
          obtain ⟨Q, hQ⟩ : ∃ Q : Nat, (qd K).toInt = Q := ⟨(qd K).toInt.toNat, by omega⟩
          have ev : (qd K - ((i2 - fi K) &&& 255)).toInt = ((Q - D : Nat) : Int) := by rw [tI_sub (by omega) (by omega)]; omega
          obtain ⟨z', u1, u2, u3⟩ := go99 (mF := mF) (kn := kn) (out := out) (ol := ol) (sd := sd) (st := st) (wi := wi) (pa := pa) (se := se) (fi := fi) (qd := qd) (po := po) (ne := ne) (bd := bd) (bx := bx) (ad := ad) (ti := ti) (tr := tr) (ld := ld) (an := an) (nl := nl) (nm := nm) (bl := bl) (bo := bo) (ck := ck) (i1 := i1) (i2 := i2) (i3 := i3) (i4 := i4) (i5 := i5) hk hK hD ev (by omega) 128 0 0 qu rfl (by omega) (by omega)
          obtain ⟨v1, v2, v3⟩ := rmF7 (i1 := (i2 - fi K) &&& 255) (x := qd K - ((i2 - fi K) &&& 255)) hD ev (by omega) (by omega) 128 0 0 so rfl (by omega) (by omega)
          have ref : (if st K = 4 then (if ((i2 - fi K) &&& 255) = ((se K - fi K) &&& 255) then (mF, out, ol, sd, (upd st K 0), wi, pa, se, fi, qd, ne, bd, bx, qu, ti, tr, an) else JX10_goOn_58 mF kn out ol sd st wi pa se fi qd po ne bd bx qu ad ti tr ld an nl nm bl bo ck k i1 i2 i3 i4 i5 ((i2 - fi K) &&& 255)) else JX10_goOn_58 mF kn out ol sd st wi pa se fi qd po ne bd bx qu ad ti tr ld an nl nm bl bo ck k i1 i2 i3 i4 i5 ((i2 - fi K) &&& 255)) = JX10_goOn_58 mF kn out ol sd st wi pa se fi qd po ne bd bx qu ad ti tr ld an nl nm bl bo ck k i1 i2 i3 i4 i5 ((i2 - fi K) &&& 255) := by
            by_cases z : st K = 4
            · rw [if_pos z, if_neg (fun e => g ⟨z, e⟩)]
            · rw [if_neg z]
          rw [ref]
          unfold JX10_goOn_58 FX5_removeFirst
          rw [ek, if_neg s1, u1, eJ, ek, emn]
          have cl : KX5_acknowledge_85 fS i2 (if pa K = 4 then 4 else pa K + 1) (LX5_removeFirst_7 ((i2 - fi K) &&& 255) (qd K - ((i2 - fi K) &&& 255)) 128 0 so) = ((upd (upd (upd (upd (upd fS 6 i2) 11 (if pa K = 4 then 4 else pa K + 1)) 12 0) 13 0) 8 (qd K - ((i2 - fi K) &&& 255))), (LX5_removeFirst_7 ((i2 - fi K) &&& 255) (qd K - ((i2 - fi K) &&& 255)) 128 0 so).2) := by
            unfold KX5_acknowledge_85
            rw [v1, e2, e7]
            by_cases z : st K = 4
            · rw [if_pos z, if_neg (hn4 z)]
            · rw [if_neg z]
          rw [cl]
          refine Or.inr ⟨st, upd fi K i2, upd qd K (qd K - ((i2 - fi K) &&& 255)), z', upd pa K (if pa K = 4 then 4 else pa K + 1), upd tr K 0, upd ti K 0, rfl, e2, hst, ?_, fun j hj => ⟨rfl, pk_un hj, pk_un hj, pk_un hj, pk_un hj, pk_un hj⟩, fun j hj => u3 j (by omega)⟩
          rw [pk_us, pk_us, pk_us, pk_us, pk_us]
          refine ⟨s4, e3, r3, e4, r4, e5, r5, (rfl), (ho), e7, r7, e10, r10, (rfl), (⟨pv2, pv3⟩), (rfl), ((by decide)), (rfl), ((by omega)), e9, r9, (fun _ => rfl), (fun _ => rfl), (fun i hi => ?_), hb, (fun e => ?_), (fun e => ?_), (fun e => absurd e s1)⟩
          · show (LX5_removeFirst_7 ((i2 - fi K) &&& 255) (qd K - ((i2 - fi K) &&& 255)) 128 0 so).2 i = z' (64 * K + i) ∧ oct (z' (64 * K + i))
            rw [v2 i (by omega) (by omega), u2 i (by omega) (by omega), show 64 * K + i + D = 64 * K + (D + i) by omega]
            exact hq (D + i) (by omega)
          · have := w2 e
            rw [hw']; omega
          · have := w4 e
            rw [hw']; omega

