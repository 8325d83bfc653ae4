-- the simulation: a segment of an stream begun, its octets and what is answered
theorem in44 {fS fD dp : (Nat → Int32)} {x3 x4 : Int32} {t B : Nat} (hx : x4.toInt = t) (hB : (fS 9).toInt = B) (hb : B + t ≤ 16) : ∀ (n : Nat) (y : Int32) (Y : Nat) (z : (Nat → Int32)), y.toInt = Y → Y ≤ t → t - Y < n →
    ∃ z', LX5_takeIn_44 fS fD dp x3 x4 n y z = ((if x4 = x3 ∧ ¬ FX2_hasFlag fD dp 1 = 0 then (upd (upd (upd (upd fS 9 (fS 9 + x4)) 5 ((fS 5 + x4) &&& 255)) 5 ((((fS 5 + x4) &&& 255) + 1) &&& 255)) 2 3) else (upd (upd fS 9 (fS 9 + x4)) 5 ((fS 5 + x4) &&& 255))), z') ∧ (∀ u, Y ≤ u → u < t → z' (B + u) = dp (5 + u)) ∧ (∀ i, i < B + Y → z' i = z i) := by
  intro n
  induction n with
  | zero => intro y Y z _ _ h; omega
  | succ n ih =>
    intro y Y z hy hY h
    rw [LX5_takeIn_44]
    by_cases q : x4 ≤ y
    · have q' := iT q
      rw [if_pos q]
      refine ⟨z, ?_, fun i a b => by omega, fun i _ => rfl⟩
      by_cases a : x4 = x3
      · by_cases b : FX2_hasFlag fD dp 1 = 0
        · rw [if_pos a, if_pos b, if_neg (fun e => e.2 b)]
        · rw [if_pos a, if_neg b, if_pos ⟨a, b⟩]
      · rw [if_neg a, if_neg (fun e => a e.1)]
    · have q' := iTn q
      have h9 := tI_s (a := y) (by omega)
      have e1 : (fS 9 + y).toNatClampNeg = B + Y := tcE (by rw [tI_add (by omega) (by omega)]; omega)
      have e2 : ((5 : Int32) + y).toNatClampNeg = 5 + Y := tcE (by rw [tI_ca 5 k5 (by omega) (by omega)]; omega)
      rw [if_neg q, e1, e2]
      obtain ⟨z', a, b, c⟩ := ih (y + 1) (Y + 1) (upd z (B + Y) (dp (5 + Y))) (by omega) (by omega) (by omega)
      refine ⟨z', a, fun u u0 u1 => ?_, fun i hi => by rw [c i (by omega), pk_un (by omega)]⟩
      by_cases f : u = Y
      · subst f
        rw [c _ (by omega), pk_us]
      · exact b u (by omega) u1
theorem go227 {mF kn out ol sd wi se po ne ad ld an nl nm bl bo ck st fi qd qu pa tr ti : (Nat → Int32)} {k i3 i4 i5 : Int32} {K m t B : Nat} (hk : k.toInt = K) (hK : K < 3) (h5 : i5.toInt = m) (hm : m ≤ 27) (hB : B ≤ 16) (ht : t = min m (16 - B)) : ∀ (n : Nat) (y : Int32) (Y : Nat) (z zb : (Nat → Int32)), y.toInt = Y → Y ≤ t → t - Y < n → (zb K).toInt = ((B + Y : Nat) : Int) →
    ∃ y' z' zb', LX10_goOn_227 mF kn out ol sd wi se po ne ad ld an nl nm bl bo ck k i3 i4 i5 st fi qd qu pa tr ti n y z zb = JX10_goOn_281 mF kn out ol sd wi se po ne ad an nl nm bl bo ck k i3 i4 i5 st fi qd qu pa tr ti y' z' zb' ∧ y'.toInt = t ∧ (zb' K).toInt = ((B + t : Nat) : Int) ∧ (∀ j, j ≠ K → zb' j = zb j) ∧ (∀ u, Y ≤ u → u < t → z' (16 * K + (B + u)) = ld (5 + u)) ∧ (∀ j, (j < 16 * K + (B + Y) ∨ 16 * K + 16 ≤ j) → z' j = z j) := by
  have ek : k.toNatClampNeg = K := tcE hk
  intro n
  induction n with
  | zero => intro y Y z zb _ _ h; omega
  | succ n ih =>
    intro y Y z zb hy hY h hz
    rw [LX10_goOn_227, ek]
    by_cases q : i5 ≤ y
    · have q' := iT q
      rw [if_pos q]
      obtain rfl : Y = t := by omega
      exact ⟨y, z, zb, rfl, hy, hz, fun _ _ => rfl, fun u a b => by omega, fun _ _ => rfl⟩
    · have q' := iTn q
      rw [if_neg q]
      by_cases c : 16 ≤ zb K
      · have c' := iT c
        rw [k16] at c'
        rw [if_pos c]
        obtain rfl : Y = t := by omega
        exact ⟨y, z, zb, rfl, hy, hz, fun _ _ => rfl, fun u a b => by omega, fun _ _ => rfl⟩
      · have c' := iTn c
        rw [k16] at c'
        rw [if_neg c]
        have h9 := tI_s (a := y) (by omega)
        have h8 := tI_s (a := zb K) (by omega)
        have e1 : (((16 : Int32) * k) + zb K).toNatClampNeg = 16 * K + (B + Y) := tcMA 16 K (B + Y) k16 hk hz (by omega) (by omega) (by omega)
        have e2 : ((5 : Int32) + y).toNatClampNeg = 5 + Y := tcE (by rw [tI_ca 5 k5 (by omega) (by omega)]; omega)
        rw [e1, e2]
        obtain ⟨y', z', zb', a, b, d, e, f, g⟩ := ih (y + 1) (Y + 1) (upd z (16 * K + (B + Y)) (ld (5 + Y))) (upd zb K (zb K + 1)) (by omega) (by omega) (by omega) (by rw [pk_us]; omega)
        refine ⟨y', z', zb', a, b, d, fun j hj => by rw [e j hj, pk_un hj], fun u u0 u1 => ?_, fun j hj => by rw [g j (by omega), pk_un (by omega)]⟩
        by_cases i : u = Y
        · subst i
          rw [g _ (Or.inl (by omega)), pk_us]
        · exact f u (by omega) u1
theorem hasF {fD dp : (Nat → Int32)} {x : Int32} (h : ¬ FX2_hasFlag fD dp x = 0) : FX2_hasFlag fD dp x = 1 := by
  unfold FX2_hasFlag at h ⊢
  split at h
  · exact absurd rfl h
  · rename_i q
    rw [if_neg q]
theorem sim_in {f so si fD dp mF kn out ol sd st wi pa se fi qd po ne bd bx qu ad ti tr ld an nl nm bl bo ck : (Nat → Int32)} {k i1 i3 i4 i5 : Int32} {K m : Nat} (hk : k.toInt = K) (hK : K < 3) (h5 : i5.toInt = m) (hm : m ≤ 27) (hD : (fD 3).toInt = m + 5) (h3 : i3 = FX2_hasFlag fD dp 1) (h1 : dp 1 = i1) (ho4 : oct i4) (h4 : dp 4 = i4) (hld : ∀ u, u < m → dp (5 + u) = ld (5 + u)) (e2 : f 2 = st K) (hst : ¬ st K = 0) (hst1 : ¬ st K = 1)
    (hS : RS1 f so si (st K) (ad K) (po K) (ne K) (fi K) (se K) (wi K) (pa K) (tr K) (ti K) (qd K) (bd K) (fun i => qu (64 * K + i)) (fun i => bx (16 * K + i))) :
    ∃ bx2 bd2 ne2 st2 : (Nat → Int32), JX10_goOn_185 mF kn out ol sd wi se po ne bd bx ad ld an nl nm bl bo ck k i1 i3 i4 i5 st fi qd qu pa tr ti = JX10_goOn_337 mF kn out ol sd wi se po ad an nl nm bl bo ck k i3 i4 i5 fi qd qu pa tr ti bx2 bd2 ne2 st2 ∧
      RS1 (FX5_takeIn (upd f 10 (dp 4)) si fD dp).1 so (FX5_takeIn (upd f 10 (dp 4)) si fD dp).2 (st2 K) (ad K) (po K) (ne2 K) (fi K) (se K) i4 (pa K) (tr K) (ti K) (qd K) (bd2 K) (fun i => qu (64 * K + i)) (fun i => bx2 (16 * K + i)) ∧ (FX5_takeIn (upd f 10 (dp 4)) si fD dp).1 2 = st2 K ∧ (st2 K = 2 ∨ st2 K = 3 ∨ st2 K = 4) ∧ (∀ j, j ≠ K → bd2 j = bd j ∧ ne2 j = ne j ∧ st2 j = st j) ∧ (∀ j, (j < 16 * K ∨ 16 * K + 16 ≤ j) → bx2 j = bx j) := by
  have ek : k.toNatClampNeg = K := tcE hk
  obtain ⟨s4, e3, r3, e4, r4, e5, r5, e6, r6, e7, r7, e10, r10, e11, r11, e12, q12, e8, r8, e9, r9, t1, t0, hq, hb, w2, w4, w1⟩ := id hS
  have s234 : st K = 2 ∨ st K = 3 ∨ st K = 4 := s4.resolve_left hst1
  unfold JX10_goOn_185 FX5_takeIn
  rw [ek, if_neg hst1, h4, h1, show upd f 10 i4 2 = st K from e2, show upd f 10 i4 5 = ne K from e5]
  have same : ∃ bx2 bd2 ne2 st2 : (Nat → Int32), JX10_goOn_337 mF kn out ol sd wi se po ad an nl nm bl bo ck k i3 i4 i5 fi qd qu pa tr ti bx bd ne st = JX10_goOn_337 mF kn out ol sd wi se po ad an nl nm bl bo ck k i3 i4 i5 fi qd qu pa tr ti bx2 bd2 ne2 st2 ∧
      RS1 (upd f 10 i4) so si (st2 K) (ad K) (po K) (ne2 K) (fi K) (se K) i4 (pa K) (tr K) (ti K) (qd K) (bd2 K) (fun i => qu (64 * K + i)) (fun i => bx2 (16 * K + i)) ∧ upd f 10 i4 2 = st2 K ∧ (st2 K = 2 ∨ st2 K = 3 ∨ st2 K = 4) ∧ (∀ j, j ≠ K → bd2 j = bd j ∧ ne2 j = ne j ∧ st2 j = st j) ∧ (∀ j, (j < 16 * K ∨ 16 * K + 16 ≤ j) → bx2 j = bx j) :=
    ⟨bx, bd, ne, st, rfl, ⟨s4, e3, r3, e4, r4, e5, r5, e6, r6, e7, r7, (rfl), (ho4), e11, r11, e12, q12, e8, r8, e9, r9, t1, t0, hq, hb, w2, w4, w1⟩, e2, s234, fun _ _ => ⟨rfl, rfl, rfl⟩, fun _ _ => rfl⟩
  by_cases a : i1 = ne K
  · rw [if_pos a, if_pos a]
    by_cases b : st K = 2
    · rw [if_pos b, if_pos b]
      obtain ⟨B, hB⟩ : ∃ B : Nat, (bd K).toInt = B := ⟨(bd K).toInt.toNat, by omega⟩
      have es : (fD 3 - 5).toInt = m := by rw [tI_sc 5 k5 (by omega) (by omega)]; omega
      have e35 : fD 3 - 5 = i5 := Int32.toInt_inj.mp (by rw [es, h5])
      rw [show upd f 10 i4 9 = bd K from e9, e35]
      have ex4 : (mn i5 (16 - bd K)).toInt = ((min m (16 - B) : Nat) : Int) := by rw [mn_i, tI_cs 16 k16 (by omega) (by omega)]; omega
      obtain ⟨z', c1, c2, c3⟩ := in44 (fS := upd f 10 i4) (fD := fD) (dp := dp) (x3 := i5) (x4 := mn i5 (16 - bd K)) ex4 (show (upd f 10 i4 9).toInt = B by rw [show upd f 10 i4 9 = bd K from e9]; exact hB) (by omega) 128 0 0 si rfl (by omega) (by omega)
      obtain ⟨y', w', zb', d1, d2, d3, d4, d5, d6⟩ := go227 (mF := mF) (kn := kn) (out := out) (ol := ol) (sd := sd) (wi := wi) (se := se) (po := po) (ne := ne) (ad := ad) (ld := ld) (an := an) (nl := nl) (nm := nm) (bl := bl) (bo := bo) (ck := ck) (st := st) (fi := fi) (qd := qd) (qu := qu) (pa := pa) (tr := tr) (ti := ti) (i3 := i3) (i4 := i4) (i5 := i5) hk hK h5 hm (by omega) rfl 128 0 0 bx bd rfl (by omega) (by omega) hB
      rw [c1, d1]
      have ey : y' = mn i5 (16 - bd K) := Int32.toInt_inj.mp (by rw [d2, ex4])
      generalize mn i5 (16 - bd K) = x at *
      subst ey
      have eb : bd K + y' = zb' K := Int32.toInt_inj.mp (by rw [tI_add (by omega) (by omega)]; omega)
      have hbx : ∀ i : Nat, (i : Int) < (zb' K).toInt → z' i = w' (16 * K + i) := fun i hi => by
        by_cases g : i < B
        · rw [c3 i (by omega), d6 _ (Or.inl (by omega))]
          exact hb i (by omega)
        · obtain ⟨u, rfl⟩ : ∃ u, i = B + u := ⟨i - B, by omega⟩
          rw [c2 u (by omega) (by omega), d5 u (by omega) (by omega)]
          exact hld u (by omega)
      have e5' : upd f 10 i4 5 = ne K := e5
      have e9' : upd f 10 i4 9 = bd K := e9
      unfold JX10_goOn_281
      rw [ek]
      by_cases g : y' = i5 ∧ ¬ FX2_hasFlag fD dp 1 = 0
      · rw [if_pos g, if_pos g.1, if_neg (show ¬ i3 = 0 by rw [h3]; exact g.2), e5', e9']
        refine ⟨w', zb', _, _, rfl, ?_, ?_, ?_, fun j hj => ⟨d4 j hj, by rw [pk_un hj, pk_un hj], pk_un hj⟩, fun j hj => d6 j (by omega)⟩
        · rw [pk_us, pk_us, pk_us]
          exact ⟨(Or.inr (Or.inr (Or.inl rfl))), e3, r3, e4, r4, (rfl), (oct_and _), e6, r6, e7, r7, (rfl), (ho4), e11, r11, e12, q12, e8, r8, (eb), ((by omega)), t1, t0, hq, (hbx), (fun _ => w2 (Or.inl b)), (fun e => absurd e (by decide)), (fun e => absurd e (by decide))⟩
        · rw [pk_us]; rfl
        · rw [pk_us]; exact Or.inr (Or.inl rfl)
      · have ref : (if y' = i5 then (if i3 = 0 then JX10_goOn_337 mF kn out ol sd wi se po ad an nl nm bl bo ck k i3 i4 i5 fi qd qu pa tr ti w' zb' (upd ne K ((ne K + y') &&& 255)) st else JX10_goOn_337 mF kn out ol sd wi se po ad an nl nm bl bo ck k i3 i4 i5 fi qd qu pa tr ti w' zb' (upd (upd ne K ((ne K + y') &&& 255)) K (((upd ne K ((ne K + y') &&& 255)) K + 1) &&& 255)) (upd st K 3)) else JX10_goOn_337 mF kn out ol sd wi se po ad an nl nm bl bo ck k i3 i4 i5 fi qd qu pa tr ti w' zb' (upd ne K ((ne K + y') &&& 255)) st) = JX10_goOn_337 mF kn out ol sd wi se po ad an nl nm bl bo ck k i3 i4 i5 fi qd qu pa tr ti w' zb' (upd ne K ((ne K + y') &&& 255)) st := by
          by_cases z : y' = i5
          · rw [if_pos z]
            by_cases zz : i3 = 0
            · rw [if_pos zz]
            · exact absurd ⟨z, by rw [← h3]; exact zz⟩ g
          · rw [if_neg z]
        rw [if_neg g, ref, e5', e9']
        refine ⟨w', zb', _, _, rfl, ?_, ?_, ?_, fun j hj => ⟨d4 j hj, pk_un hj, rfl⟩, fun j hj => d6 j (by omega)⟩
        · rw [pk_us]
          exact ⟨s4, e3, r3, e4, r4, (rfl), (oct_and _), e6, r6, e7, r7, (rfl), (ho4), e11, r11, e12, q12, e8, r8, (eb), ((by omega)), t1, t0, hq, (hbx), w2, w4, w1⟩
        · exact e2
        · exact s234
    · rw [if_neg b, if_neg b]
      exact same
  · rw [if_neg a, if_neg a]
    by_cases b : st K = 2
    · rw [if_pos b]; exact same
    · rw [if_neg b]; exact same
theorem goOn0 {fS so si : (Nat → Int32)} {st ad po ne fi se wi pa tr ti qd bd : Int32} {q b : (Nat → Int32)} (hS : RS1 fS so si st ad po ne fi se wi pa tr ti qd bd q b) : RS1 (FX5_goOn fS 0) so si st ad po ne fi se wi pa tr ti qd bd q b ∧ FX5_goOn fS 0 2 = fS 2 := by
  obtain ⟨s4, e3, r3, e4, r4, e5, r5, e6, r6, e7, r7, e10, r10, e11, r11, e12, q12, e8, r8, e9, r9, t1, t0, hq, hb, w2, w4, w1⟩ := id hS
  have e0 : (se + 0) &&& 255 = se := by rw [Int32.add_zero]; exact o255 r7
  unfold FX5_goOn
  rw [e6, e7, e0]
  by_cases c : fi = se
  · rw [if_pos c]
    exact ⟨⟨s4, e3, r3, e4, r4, e5, r5, e6, r6, (rfl), r7, e10, r10, e11, r11, e12, q12, e8, r8, e9, r9, (fun e => absurd c e), (fun _ => rfl), hq, hb, w2, w4, w1⟩, rfl⟩
  · rw [if_neg c]
    exact ⟨⟨s4, e3, r3, e4, r4, e5, r5, e6, r6, (rfl), r7, e10, r10, e11, r11, e12, q12, e8, r8, e9, r9, t1, t0, hq, hb, w2, w4, w1⟩, rfl⟩
theorem sim_fin {fR sg fW wst wl : (Nat → Int32)} {wr : (Nat → Nat → Int32)} {f so si fD dp mF kn out ol sd wi po ad fi pa tr ne an bd bx qu qd se ti st : (Nat → Int32)} {k i3 i4 i5 x p : Int32} {K m : Nat} (hk : k.toInt = K) (hF : R_F fW wl wr mF out ol) (hT : (fW 4).toInt < 2000000000) (hid : fW 5 = mF 9) (hKn : R_K wst kn) (h5 : i5.toInt = m) (hD : (fD 3).toInt = m + 5) (h3 : i3 = FX2_hasFlag fD dp 1) (p0 : p = 0 → mF 8 = x) (p1 : ¬ p = 0 → ¬ mF 8 = x)
    (hS : RS1 f so si (st K) (ad K) (po K) (ne K) (fi K) (se K) i4 (pa K) (tr K) (ti K) (qd K) (bd K) (fun i => qu (64 * K + i)) (fun i => bx (16 * K + i))) :
    ∃ (R : (Nat → Int32) × (Nat → Int32) × (Nat → Int32) × (Nat → Nat → Int32) × (Nat → Int32)) (o1 o2 o3 o4 : (Nat → Int32)), (if FX2_wantsAck fD dp = 0 then (sg, fW, wl, wr, f) else if p = 0 then FX6_send fR sg fW wst wl wr f so 16 0 else (sg, fW, wl, wr, f)) = R ∧ JX10_goOn_363 kn wi po ad k i3 i4 i5 fi pa tr ne x mF an bd bx qu qd sd out ol se ti st = (o1, o2, o3, o4, st, upd wi K i4, pa, se, fi, qd, ne, bd, bx, qu, ti, tr, an) ∧ R_F R.2.1 R.2.2.1 R.2.2.2.1 o1 o2 o3 ∧ R.2.1 5 = o1 9 ∧ (∀ j, j ≠ 8 → j ≠ 9 → j ≠ 30 → o1 j = mF j)
      ∧ RS1 R.2.2.2.2 so si (st K) (ad K) (po K) (ne K) (fi K) (se K) i4 (pa K) (tr K) (ti K) (qd K) (bd K) (fun i => qu (64 * K + i)) (fun i => bx (16 * K + i)) ∧ R.2.2.2.2 2 = f 2 ∧ (fW 4).toInt ≤ (R.2.1 4).toInt ∧ (R.2.1 4).toInt ≤ (fW 4).toInt + 2 := by
  have ek : k.toNatClampNeg = K := tcE hk
  obtain ⟨s4, e3, r3, e4, r4, e5, r5, e6, r6, e7, r7, e10, r10, e11, r11, e12, q12, e8, r8, e9, r9, t1, t0, hq, hb, w2, w4, w1⟩ := id hS
  have keep : JX10_goOn_363 kn wi po ad k i3 i4 i5 fi pa tr ne x mF an bd bx qu qd sd out ol se ti st = (mF, out, ol, sd, st, upd wi K i4, pa, se, fi, qd, ne, bd, bx, qu, ti, tr, an) → ∀ r, r = (sg, fW, wl, wr, f) → ∃ (R : (Nat → Int32) × (Nat → Int32) × (Nat → Int32) × (Nat → Nat → Int32) × (Nat → Int32)) (o1 o2 o3 o4 : (Nat → Int32)), r = R ∧ JX10_goOn_363 kn wi po ad k i3 i4 i5 fi pa tr ne x mF an bd bx qu qd sd out ol se ti st = (o1, o2, o3, o4, st, upd wi K i4, pa, se, fi, qd, ne, bd, bx, qu, ti, tr, an) ∧ R_F R.2.1 R.2.2.1 R.2.2.2.1 o1 o2 o3 ∧ R.2.1 5 = o1 9 ∧ (∀ j, j ≠ 8 → j ≠ 9 → j ≠ 30 → o1 j = mF j) ∧ RS1 R.2.2.2.2 so si (st K) (ad K) (po K) (ne K) (fi K) (se K) i4 (pa K) (tr K) (ti K) (qd K) (bd K) (fun i => qu (64 * K + i)) (fun i => bx (16 * K + i)) ∧ R.2.2.2.2 2 = f 2 ∧ (fW 4).toInt ≤ (R.2.1 4).toInt ∧ (R.2.1 4).toInt ≤ (fW 4).toInt + 2 := by
    intro h r hr
    subst hr
    exact ⟨_, mF, out, ol, sd, rfl, h, hF, hid, fun _ _ _ _ => rfl, hS, rfl, Int.le_refl _, by show (fW 4).toInt ≤ _; omega⟩
  by_cases w : FX2_wantsAck fD dp = 0
  · rw [if_pos w]
    refine keep ?_ _ rfl
    unfold FX2_wantsAck at w
    split at w
    · exact absurd w (by decide)
    · rename_i q
      have q := lTn q
      rw [k5] at q
      split at w
      · rename_i q2
        unfold JX10_goOn_363
        rw [if_neg (show ¬ 0 < i5 from fun e => by have := lT e; rw [k0] at this; omega), if_pos (h3.trans q2), ek]
      · exact absurd w (by decide)
  · rw [if_neg w]
    have ref : JX10_goOn_363 kn wi po ad k i3 i4 i5 fi pa tr ne x mF an bd bx qu qd sd out ol se ti st = if mF 8 = x then KX10_goOn_386 wi k i4 (FX10_tell mF kn out ol sd po se ne bd ad k 16) fi pa tr ne an bd bx qu qd se ti st else (mF, out, ol, sd, st, upd wi K i4, pa, se, fi, qd, ne, bd, bx, qu, ti, tr, an) := by
      unfold JX10_goOn_363
      rw [ek]
      by_cases a : 0 < i5
      · rw [if_pos a]
      · rw [if_neg a]
        by_cases c : i3 = 0
        · refine absurd ?_ w
          have a' := lTn a
          rw [k0] at a'
          unfold FX2_wantsAck
          rw [if_neg (fun e => by have := lT e; rw [k5] at this; omega), if_pos (h3.symm.trans c)]
        · rw [if_neg c]; rfl
    by_cases c : p = 0
    · rw [if_pos c]
      obtain ⟨a1, a2, a3, a4, a5, a6⟩ := sim_tell (fR := fR) (sg := sg) (fS := f) (so := so) (mF := mF) (sd := sd) (po := po) (se := se) (ne := ne) (bd := bd) (ad := ad) hF hT hid hKn (k := k) (fl := 16) (by unfold oct; decide) (by rw [ek]; exact e3) (by rw [ek]; exact r3) (by rw [ek]; exact e4) (by rw [ek]; exact r4) (by rw [ek]; exact e5) (by rw [ek]; exact r5) (by rw [ek]; exact e7) (by rw [ek]; exact r7) (by rw [ek]; exact e9) (by rw [ek]; exact r9)
      rw [if_pos (show ((16 : Int32) &&& 3) = 0 by decide)] at a6
      obtain ⟨g1, g2⟩ := goOn0 hS
      rw [if_pos (p0 c)] at ref
      unfold KX10_goOn_386 at ref
      rw [ek] at ref
      exact ⟨_, _, _, _, _, rfl, ref, a1, a2, a5, by rw [a6]; exact g1, by rw [a6]; exact g2, by omega, a4⟩
    · rw [if_neg c]
      rw [if_neg (p1 c)] at ref
      exact keep ref _ rfl

