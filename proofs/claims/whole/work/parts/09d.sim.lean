-- the simulation: lines read and answered
theorem rmF7 {i1 x : Int32} {D X : Nat} (h1 : i1.toInt = D) (hx : x.toInt = X) (hD : D ≤ 300) (hX : X ≤ 100) : ∀ (n : Nat) (y : Int32) (Y : Nat) (z : (Nat → Int32)), y.toInt = Y → Y ≤ X → X - Y < n →
    (LX5_removeFirst_7 i1 x n y z).1 = x ∧ (∀ i, Y ≤ i → i < X → (LX5_removeFirst_7 i1 x n y z).2 i = z (D + i)) ∧ (∀ i, i < Y → (LX5_removeFirst_7 i1 x n y z).2 i = z i) := by
  intro n
  induction n with
  | zero => intro y Y z _ _ h; omega
  | succ n ih =>
    intro y Y z hy hY h
    rw [LX5_removeFirst_7]
    by_cases q : x ≤ y
    · have q' := iT q
      rw [if_pos q]
      exact ⟨rfl, fun i a b => by omega, fun i _ => rfl⟩
    · have q' := iTn q
      have h9 := tI_s (a := y) (by omega)
      have e1 : (i1 + y).toNatClampNeg = D + Y := tcE (by rw [tI_add (by omega) (by omega)]; omega)
      rw [if_neg q, e1, tcE hy]
      obtain ⟨a, b, c⟩ := ih (y + 1) (Y + 1) (upd z Y (z (D + Y))) (by omega) (by omega) (by omega)
      refine ⟨a, fun i i0 i2 => ?_, fun i hi => ?_⟩
      · by_cases e : i = Y
        · subst e
          rw [c i (by omega), pk_us]
        · rw [b i (by omega) i2, pk_un (by omega)]
      · rw [c i (by omega), pk_un (by omega)]
theorem repl19 {fS rb : (Nat → Int32)} {i1 r : Int32} {u : (Nat → Int32)} {A Q : Nat} (ha : i1.toInt = A) (hq : (fS 8).toInt = Q) (hb : Q + A ≤ 100) : ∀ (n : Nat) (y : Int32) (Y : Nat) (z : (Nat → Int32)), y.toInt = Y → Y ≤ A → A - Y < n →
    ∃ z', LX5_replaceLine_19 fS rb i1 r u n y z = (upd (upd fS 9 r) 8 (fS 8 + i1), z', u) ∧ (∀ t, Y ≤ t → t < A → z' (Q + t) = rb t) ∧ (∀ i, i < Q + Y → z' i = z i) := by
  intro n
  induction n with
  | zero => intro y Y z _ _ h; omega
  | succ n ih =>
    intro y Y z hy hY h
    rw [LX5_replaceLine_19]
    by_cases q : i1 ≤ y
    · have q' := iT q
      rw [if_pos q]
      exact ⟨z, rfl, fun i a b => by omega, fun i _ => rfl⟩
    · have q' := iTn q
      have h9 := tI_s (a := y) (by omega)
      have e1 : (fS 8 + y).toNatClampNeg = Q + Y := tcE (by rw [tI_add (by omega) (by omega)]; omega)
      rw [if_neg q, e1, tcE hy]
      obtain ⟨z', a, b, c⟩ := ih (y + 1) (Y + 1) (upd z (Q + Y) (rb Y)) (by omega) (by omega) (by omega)
      refine ⟨z', a, fun t t0 t1 => ?_, fun i hi => ?_⟩
      · by_cases e : t = Y
        · subst e
          rw [c _ (by omega), pk_us]
        · exact b t (by omega) t1
      · rw [c i (by omega), pk_un (by omega)]
theorem repl_eq {fS so si rb : (Nat → Int32)} {i0 i1 : Int32} {A Q D B : Nat} (ha : i1.toInt = A) (hq : (fS 8).toInt = Q) (hd : i0.toInt = D) (hB : (fS 9).toInt = B) (hb : Q + A ≤ 64) (hDB : D ≤ B) (hB2 : B ≤ 16) :
    ∃ so' si', FX5_replaceLine fS so si rb i0 i1 = (upd (upd fS 9 (fS 9 - i0)) 8 (fS 8 + i1), so', si') ∧ (∀ t, t < A → so' (Q + t) = rb t) ∧ (∀ i, i < Q → so' i = so i) ∧ (∀ i, i < B - D → si' i = si (D + i)) := by
  have e : (fS 9 - i0).toInt = ((B - D : Nat) : Int) := by rw [tI_sub (by omega) (by omega)]; omega
  obtain ⟨a, b, c⟩ := rmF7 (i1 := i0) (x := fS 9 - i0) hd e (by omega) (by omega) 128 0 0 si rfl (by omega) (by omega)
  obtain ⟨z', p, r, s⟩ := repl19 (fS := fS) (rb := rb) (i1 := i1) (r := (LX5_removeFirst_7 i0 (fS 9 - i0) 128 0 si).1) (u := (LX5_removeFirst_7 i0 (fS 9 - i0) 128 0 si).2) ha hq (by omega) 128 0 0 so rfl (by omega) (by omega)
  refine ⟨z', (LX5_removeFirst_7 i0 (fS 9 - i0) 128 0 si).2, ?_, fun t ht => r t (by omega) ht, fun i hi => s i (by omega), fun i hi => b i (by omega) hi⟩
  unfold FX5_replaceLine KX5_replaceLine_10 FX5_removeFirst
  rw [p, a]
theorem rd45s {i0 y2 : Int32} {zb qu zq u1 u2 : (Nat → Int32)} {v : Int32} {lf : Int32 → (Nat → Int32) → (Nat → Int32) → (Nat → Int32) → (Nat → Int32) → (Nat → Int32) → (Nat → Int32) → (Nat → Int32) × (Nat → Int32) × (Nat → Int32) × (Nat → Int32) × (Nat → Int32) × (Nat → Int32)} {K D X : Nat} (hk : i0.toInt = K) (hK : K < 3) (hD : y2.toInt = D) (hX : v.toInt = X) (hb : D + X ≤ 16) : ∀ (n : Nat) (y : Int32) (Y : Nat) (z : (Nat → Int32)), y.toInt = Y → Y ≤ X → X - Y < n →
    ∃ zx, LX10_read_45 i0 y2 zb qu zq u1 u2 v lf n y z = LX10_read_87 i0 zb u1 u2 v zx lf 128 0 qu zq ∧ (∀ i, Y ≤ i → i < X → zx (16 * K + i) = z (16 * K + i + D)) ∧ (∀ j, (j < 16 * K + Y ∨ 16 * K + 16 ≤ j) → zx j = z j) := by
  intro n
  induction n with
  | zero => intro y Y z _ _ h; omega
  | succ n ih =>
    intro y Y z hy hY h
    rw [LX10_read_45, pk_us]
    by_cases q : v ≤ y
    · have q' := iT q
      rw [if_pos q]
      exact ⟨z, rfl, fun i a b => by omega, fun j _ => rfl⟩
    · have q' := iTn q
      have h9 := tI_s (a := y) (by omega)
      have e1 : (((16 : Int32) * i0) + y).toNatClampNeg = 16 * K + Y := tcMA 16 K Y k16 hk hy (by omega) (by omega) (by omega)
      have e0 : (((16 : Int32) * i0) + y).toInt = ((16 * K + Y : Nat) : Int) := by
        have a := tI_mulN (c := 16) (a := i0) 16 K k16 hk (by omega)
        rw [tI_add (by omega) (by omega)]; omega
      have e2 : ((((16 : Int32) * i0) + y) + y2).toNatClampNeg = 16 * K + Y + D := tcE (by rw [tI_add (by omega) (by omega)]; omega)
      rw [if_neg q, e1, e2]
      obtain ⟨zx, a, b, c⟩ := ih (y + 1) (Y + 1) (upd z (16 * K + Y) (z (16 * K + Y + D))) (by omega) (by omega) (by omega)
      refine ⟨zx, a, fun i i1 i2 => ?_, fun j hj => ?_⟩
      · by_cases e : i = Y
        · subst e
          rw [c _ (Or.inl (by omega)), pk_us]
        · rw [b i (by omega) i2, pk_un (by omega)]
      · rw [c j (by omega), pk_un (by omega)]
theorem rd87s {i0 : Int32} {zb u1 u2 : (Nat → Int32)} {v : Int32} {zx : (Nat → Int32)} {lf : Int32 → (Nat → Int32) → (Nat → Int32) → (Nat → Int32) → (Nat → Int32) → (Nat → Int32) → (Nat → Int32) → (Nat → Int32) × (Nat → Int32) × (Nat → Int32) × (Nat → Int32) × (Nat → Int32) × (Nat → Int32)} {K A : Nat} (hk : i0.toInt = K) (hK : K < 3) (ha : (u1 46).toInt = A) (hA : A ≤ 18) : ∀ (n : Nat) (y : Int32) (Y : Nat) (z zq : (Nat → Int32)) (Q : Nat), y.toInt = Y → Y ≤ A → A - Y < n → (zq K).toInt = Q → Q + (A - Y) ≤ 64 →
    ∃ z' zq', LX10_read_87 i0 zb u1 u2 v zx lf n y z zq = lf (FX10_line (upd u1 11 (u1 11 + 1)) (upd zb i0.toNatClampNeg v) zx i0) (upd u1 11 (u1 11 + 1)) u2 (upd zb i0.toNatClampNeg v) zx z' zq' ∧ (zq' K).toInt = ((Q + (A - Y) : Nat) : Int) ∧ (∀ j, j ≠ K → zq' j = zq j) ∧ (∀ t, Y ≤ t → t < A → z' (64 * K + Q + (t - Y)) = u2 t) ∧ (∀ j, (j < 64 * K + Q ∨ 64 * K + 64 ≤ j) → z' j = z j) := by
  intro n
  induction n with
  | zero => intro y Y z zq Q _ _ h; omega
  | succ n ih =>
    intro y Y z zq Q hy hY h hQ hb
    rw [LX10_read_87]
    by_cases q : u1 46 ≤ y
    · have q' := iT q
      rw [if_pos q]
      exact ⟨z, zq, rfl, by omega, fun j _ => rfl, fun i a b => by omega, fun j _ => rfl⟩
    · have q' := iTn q
      have h9 := tI_s (a := y) (by omega)
      have h8 := tI_s (a := zq K) (by omega)
      have e1 : (((64 : Int32) * i0) + zq K).toNatClampNeg = 64 * K + Q := tcMA 64 K Q k64 hk hQ (by omega) (by omega) (by omega)
      rw [if_neg q, tcE hk, tcE hy, e1]
      obtain ⟨z', zq', a, b, c, d, e⟩ := ih (y + 1) (Y + 1) (upd z (64 * K + Q) (u2 Y)) (upd zq K (zq K + 1)) (Q + 1) (by omega) (by omega) (by omega) (by rw [pk_us]; omega) (by omega)
      rw [tcE hk] at a
      refine ⟨z', zq', a, by omega, fun j hj => by rw [c j hj, pk_un hj], fun t t0 t1 => ?_, fun j hj => ?_⟩
      · by_cases f : t = Y
        · subst f
          rw [e _ (Or.inl (by omega)), Nat.sub_self, Nat.add_zero, pk_us]
        · rw [← d t (by omega) t1, show 64 * K + (Q + 1) + (t - (Y + 1)) = 64 * K + Q + (t - Y) by omega]
      · rw [e j (by omega), pk_un (by omega)]
def RdI (fR fS so si mF bd bx qd qu : (Nat → Int32)) (K : Nat) : Prop := fR 5 = mF 11 ∧ fS 9 = bd K ∧ (0 ≤ (bd K).toInt ∧ (bd K).toInt ≤ 16) ∧ fS 8 = qd K ∧ (0 ≤ (qd K).toInt ∧ (qd K).toInt ≤ 64) ∧ (∀ i : Nat, (i : Int) < (bd K).toInt → si i = bx (16 * K + i)) ∧ (∀ i : Nat, (i : Int) < (qd K).toInt → so i = qu (64 * K + i) ∧ oct (qu (64 * K + i)))
def RdF (fR fS mF bd bx qd qu fR' fS' mF' bd' bx' qd' qu' : (Nat → Int32)) (K : Nat) : Prop := (∀ j, j ≠ 8 → j ≠ 9 → fS' j = fS j) ∧ fR' 4 = fR 4 ∧ fR' 6 = fR 6 ∧ (∀ j, j ≠ 11 → j ≠ 46 → mF' j = mF j) ∧ (∀ j, j ≠ K → bd' j = bd j) ∧ (∀ j, j ≠ K → qd' j = qd j) ∧ (∀ j, (j < 16 * K ∨ 16 * K + 16 ≤ j) → bx' j = bx j) ∧ (∀ j, (j < 64 * K ∨ 64 * K + 64 ≤ j) → qu' j = qu j) ∧ (qd K).toInt ≤ (qd' K).toInt
theorem RdF_r {fR fS mF bd bx qd qu : (Nat → Int32)} {K : Nat} : RdF fR fS mF bd bx qd qu fR fS mF bd bx qd qu K := ⟨fun _ _ _ => rfl, rfl, rfl, fun _ _ _ => rfl, fun _ _ => rfl, fun _ _ => rfl, fun _ _ => rfl, fun _ _ => rfl, Int.le_refl _⟩
theorem RdF_t {fR fS mF bd bx qd qu fR1 fS1 mF1 bd1 bx1 qd1 qu1 fR2 fS2 mF2 bd2 bx2 qd2 qu2 : (Nat → Int32)} {K : Nat} (h : RdF fR fS mF bd bx qd qu fR1 fS1 mF1 bd1 bx1 qd1 qu1 K) (g : RdF fR1 fS1 mF1 bd1 bx1 qd1 qu1 fR2 fS2 mF2 bd2 bx2 qd2 qu2 K) : RdF fR fS mF bd bx qd qu fR2 fS2 mF2 bd2 bx2 qd2 qu2 K := by
  obtain ⟨a1, a2, a3, a4, a5, a6, a7, a8, a9⟩ := h
  obtain ⟨b1, b2, b3, b4, b5, b6, b7, b8, b9⟩ := g
  exact ⟨fun j x y => (b1 j x y).trans (a1 j x y), b2.trans a2, b3.trans a3, fun j x y => (b4 j x y).trans (a4 j x y), fun j x => (b5 j x).trans (a5 j x), fun j x => (b6 j x).trans (a6 j x), fun j x => (b7 j x).trans (a7 j x), fun j x => (b8 j x).trans (a8 j x), Int.le_trans a9 b9⟩
theorem sim_read2 {fTs tls tbs : (Nat → Nat → Int32)} {nl nm bl bo ck : (Nat → Int32)} (hR : R_T fTs tls tbs nl nm bl bo ck) {k : Int32} {K : Nat} (hk : k.toInt = K) (hK : K < 3) : ∀ (n n' : Nat) (y : Int32) (Y : Nat) (fR fH aC fS so si mF an bd bx qu qd : (Nat → Int32)), RdI fR fS so si mF bd bx qd qu K → y.toInt = Y → (bd K).toInt + Y ≤ 16 → 16 - Y < n → (bd K).toInt < n' →
    RdI (LX6_read_2 fTs tls tbs n y fR fH aC fS so si).1 (LX6_read_2 fTs tls tbs n y fR fH aC fS so si).2.2.2.1 (LX6_read_2 fTs tls tbs n y fR fH aC fS so si).2.2.2.2.1 (LX6_read_2 fTs tls tbs n y fR fH aC fS so si).2.2.2.2.2 (LX10_read_6 nl nm bl bo ck k n' (FX10_line mF bd bx k) mF an bd bx qu qd).1 (LX10_read_6 nl nm bl bo ck k n' (FX10_line mF bd bx k) mF an bd bx qu qd).2.1 (LX10_read_6 nl nm bl bo ck k n' (FX10_line mF bd bx k) mF an bd bx qu qd).2.2.1 (LX10_read_6 nl nm bl bo ck k n' (FX10_line mF bd bx k) mF an bd bx qu qd).2.2.2.2.1 (LX10_read_6 nl nm bl bo ck k n' (FX10_line mF bd bx k) mF an bd bx qu qd).2.2.2.2.2 K
    ∧ RdF fR fS mF bd bx qd qu (LX6_read_2 fTs tls tbs n y fR fH aC fS so si).1 (LX6_read_2 fTs tls tbs n y fR fH aC fS so si).2.2.2.1 (LX10_read_6 nl nm bl bo ck k n' (FX10_line mF bd bx k) mF an bd bx qu qd).1 (LX10_read_6 nl nm bl bo ck k n' (FX10_line mF bd bx k) mF an bd bx qu qd).2.1 (LX10_read_6 nl nm bl bo ck k n' (FX10_line mF bd bx k) mF an bd bx qu qd).2.2.1 (LX10_read_6 nl nm bl bo ck k n' (FX10_line mF bd bx k) mF an bd bx qu qd).2.2.2.2.1 (LX10_read_6 nl nm bl bo ck k n' (FX10_line mF bd bx k) mF an bd bx qu qd).2.2.2.2.2 K := by
  have ek : k.toNatClampNeg = K := tcE hk
  intro n
  induction n with
  | zero => intro n' y Y fR fH aC fS so si mF an bd bx qu qd _ _ _ h; omega
  | succ n ih =>
    intro n' y Y fR fH aC fS so si mF an bd bx qu qd hI hy hY hn hn'
    obtain ⟨i1, i2, i3, i4, i5, i6, i7⟩ := id hI
    obtain ⟨n'', rfl⟩ : ∃ m, n' = m + 1 := ⟨n' - 1, by omega⟩
    have el : FX5_lineLength fS si = FX10_line mF bd bx k := sim_line hk hK i2 i6
    have hl := mline_in2 (bo := bd) (bx := bx) (i0 := k) (by rw [ek]; omega) 128 0 (by decide) (by decide)
    rw [ek] at hl
    have hl' : 0 ≤ (FX10_line mF bd bx k).toInt ∧ (FX10_line mF bd bx k).toInt ≤ (bd K).toInt ∧ (FX10_line mF bd bx k).toInt ≤ 7 := hl
    obtain ⟨D, hD⟩ : ∃ D : Nat, (FX10_line mF bd bx k).toInt = D := ⟨(FX10_line mF bd bx k).toInt.toNat, by omega⟩
    rw [LX6_read_2, LX10_read_6, el]
    generalize hln : FX10_line mF bd bx k = ln at hD hl' ⊢
    by_cases q : ln ≤ 0
    · have q' := iT q
      rw [k0] at q'
      rw [if_pos q, if_pos (Int32.toInt_inj.mp (by rw [k0]; omega) : ln = 0)]
      by_cases c : 16 ≤ y
      · rw [if_pos c]; exact ⟨hI, RdF_r⟩
      · rw [if_neg c]; exact ⟨hI, RdF_r⟩
    · have q' := iTn q
      rw [k0] at q'
      have h9 := tI_s (a := y) (by omega)
      rw [if_neg q, if_neg (show ¬ ln = 0 from fun e => by rw [e, k0] at q'; omega), if_neg (show ¬ (16 : Int32) ≤ y from fun e => by have := iT e; rw [k16] at this; omega)]
      obtain ⟨s1, s2, s3⟩ := sim_reply (fH := fH) (aC := aC) (mF := mF) (an := an) (bx := bx) (rb := si) hR hk hK hD (by omega) (fun i hi => i6 i (by omega))
      obtain ⟨l0, l1⟩ := reply_len (mF := mF) (bx := bx) (an := an) (nl := nl) (nm := nm) (bd := bo) (bl := bl) (ck := ck) (i0 := k) (i1 := ln) (fun t ht => (hR t ht).2.2.2.1) (by omega) (by omega)
      unfold KX6_read_27 KX10_read_13
      rw [ek, s1, i4]
      generalize FX10_reply mF bx an nl nm bl bo ck k ln = W at s1 s2 s3 l0 l1 ⊢
      generalize FX4_answerTo fH fTs tls tbs aC si ln = w at s1 s2 ⊢
      obtain ⟨A, hA⟩ : ∃ A : Nat, (W.1 46).toInt = A := ⟨(W.1 46).toInt.toNat, by omega⟩
      obtain ⟨Q, hQ⟩ : ∃ Q : Nat, (qd K).toInt = Q := ⟨(qd K).toInt.toNat, by omega⟩
      obtain ⟨B, hB⟩ : ∃ B : Nat, (bd K).toInt = B := ⟨(bd K).toInt.toNat, by omega⟩
      have eA : (qd K + W.1 46).toInt = (qd K).toInt + (W.1 46).toInt := tI_add (by omega) (by omega)
      by_cases c : qd K + W.1 46 ≤ 64
      · have c' := iT c
        rw [k64] at c'
        rw [if_pos c, if_pos c]
        obtain ⟨so', si', p, p1, p2, p3⟩ := repl_eq (fS := fS) (so := so) (si := si) (rb := w.2) (i0 := ln) (i1 := W.1 46) (A := A) (Q := Q) (D := D) (B := B) hA (by rw [i4]; exact hQ) hD (by rw [i2]; exact hB) (by omega) (by omega) (by omega)
        have eB : (bd K - ln).toInt = ((B - D : Nat) : Int) := by rw [tI_sub (by omega) (by omega)]; omega
        obtain ⟨zx, r, r1, r2⟩ := rd45s (i0 := k) (y2 := ln) (zb := bd) (qu := qu) (zq := qd) (u1 := W.1) (u2 := W.2) (v := bd K - ln) (lf := LX10_read_6 nl nm bl bo ck k n'') hk hK hD eB (by omega) 128 0 0 bx rfl (by omega) (by omega)
        obtain ⟨zq, zd, t, t1, t2, t3, t4⟩ := rd87s (i0 := k) (zb := bd) (u1 := W.1) (u2 := W.2) (v := bd K - ln) (zx := zx) (lf := LX10_read_6 nl nm bl bo ck k n'') hk hK hA (by omega) 128 0 0 qu qd Q rfl (by omega) (by omega) hQ (by omega)
        rw [r, t]
        unfold KX6_read_64
        rw [p, ek]
        have hI2 : RdI (upd fR 5 (fR 5 + 1)) (upd (upd fS 9 (fS 9 - ln)) 8 (fS 8 + W.1 46)) so' si' (upd W.1 11 (W.1 11 + 1)) (upd bd K (bd K - ln)) zx zd zq K := by
          refine ⟨?_, ?_, ?_, ?_, ?_, fun i hi => ?_, fun i hi => ?_⟩
          · show fR 5 + 1 = W.1 11 + 1
            rw [s3 11 (by omega), i1]
          · rw [pk_us]
            show fS 9 - ln = bd K - ln
            rw [i2]
          · rw [pk_us]; omega
          · show fS 8 + W.1 46 = zd K
            exact Int32.toInt_inj.mp (by rw [i4, eA]; omega)
          · omega
          · rw [pk_us] at hi
            rw [p3 i (by omega), i6 (D + i) (by omega), r1 i (by omega) (by omega), show 16 * K + (D + i) = 16 * K + i + D by omega]
          · by_cases e : i < Q
            · rw [p2 i e, t4 _ (Or.inl (by omega))]
              exact i7 i (by omega)
            · obtain ⟨u, rfl⟩ : ∃ u, i = Q + u := ⟨i - Q, by omega⟩
              have h3 := t3 u (by omega) (by omega)
              rw [show 64 * K + Q + (u - 0) = 64 * K + (Q + u) by omega] at h3
              rw [p1 u (by omega), h3]
              exact s2 u (by omega)
        have hF2 : RdF fR fS mF bd bx qd qu (upd fR 5 (fR 5 + 1)) (upd (upd fS 9 (fS 9 - ln)) 8 (fS 8 + W.1 46)) (upd W.1 11 (W.1 11 + 1)) (upd bd K (bd K - ln)) zx zd zq K := by
          refine ⟨fun j j8 j9 => ?_, rfl, rfl, fun j ja jb => ?_, fun j hj => pk_un hj, t2, fun j hj => r2 j (by omega), fun j hj => t4 j (by omega), by omega⟩
          · rw [pk_un j8, pk_un j9]
          · rw [pk_un ja, s3 j jb]
        obtain ⟨g1, g2⟩ := ih n'' (y + 1) (Y + 1) (upd fR 5 (fR 5 + 1)) w.1 w.2 (upd (upd fS 9 (fS 9 - ln)) 8 (fS 8 + W.1 46)) so' si' (upd W.1 11 (W.1 11 + 1)) W.2 (upd bd K (bd K - ln)) zx zq zd hI2 (by omega) (by rw [pk_us]; omega) (by omega) (by rw [pk_us]; omega)
        rw [i4] at g1 g2 hF2 ⊢
        exact ⟨g1, RdF_t hF2 g2⟩
      · rw [if_neg c, if_neg c]
        exact ⟨⟨by show fR 5 = W.1 11; rw [s3 11 (by omega), i1], i2, i3, i4, i5, i6, i7⟩, fun _ _ _ => rfl, rfl, rfl, fun j _ jb => s3 j jb, fun _ _ => rfl, fun _ _ => rfl, fun _ _ => rfl, fun _ _ => rfl, Int.le_refl _⟩
theorem sim_read {fTs tls tbs : (Nat → Nat → Int32)} {nl nm bl bo ck : (Nat → Int32)} (hR : R_T fTs tls tbs nl nm bl bo ck) {k : Int32} {K : Nat} (hk : k.toInt = K) (hK : K < 3) {fR fH aC fS so si mF an bd bx qu qd : (Nat → Int32)} (hI : RdI fR fS so si mF bd bx qd qu K) :
    RdI (FX6_read fR fH fTs tls tbs aC fS so si).1 (FX6_read fR fH fTs tls tbs aC fS so si).2.2.2.1 (FX6_read fR fH fTs tls tbs aC fS so si).2.2.2.2.1 (FX6_read fR fH fTs tls tbs aC fS so si).2.2.2.2.2 (FX10_read mF bd bx an nl nm bl bo ck qd qu k).1 (FX10_read mF bd bx an nl nm bl bo ck qd qu k).2.1 (FX10_read mF bd bx an nl nm bl bo ck qd qu k).2.2.1 (FX10_read mF bd bx an nl nm bl bo ck qd qu k).2.2.2.2.1 (FX10_read mF bd bx an nl nm bl bo ck qd qu k).2.2.2.2.2 K
    ∧ RdF fR fS mF bd bx qd qu (FX6_read fR fH fTs tls tbs aC fS so si).1 (FX6_read fR fH fTs tls tbs aC fS so si).2.2.2.1 (FX10_read mF bd bx an nl nm bl bo ck qd qu k).1 (FX10_read mF bd bx an nl nm bl bo ck qd qu k).2.1 (FX10_read mF bd bx an nl nm bl bo ck qd qu k).2.2.1 (FX10_read mF bd bx an nl nm bl bo ck qd qu k).2.2.2.2.1 (FX10_read mF bd bx an nl nm bl bo ck qd qu k).2.2.2.2.2 K := by
  have h3 := hI.2.2.1
  exact sim_read2 hR hk hK 128 128 0 0 fR fH aC fS so si mF an bd bx qu qd hI rfl (by omega) (by omega) (by omega)

