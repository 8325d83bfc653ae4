-- the simulation: one segment sent
theorem send59 {fW wst wl : (Nat → Int32)} {wr : (Nat → Nat → Int32)} {fS so : (Nat → Int32)} {i0 i1 r : Int32} {m W : Nat} (h1 : i1.toInt = m) (hm : m ≤ 8) (hr : r.toInt = W) (hw : W ≤ 255) : ∀ (n : Nat) (y : Int32) (j : Nat) (z : (Nat → Int32)), y.toInt = j → j ≤ m → m - j < n →
    ∃ g : (Nat → Int32), LX6_send_59 fW wst wl wr fS so i0 i1 r n y z = (g, (FX8_sendPayload fW wst wl wr g (fS 3) 6 ((5 : Int32) + i1)).1, (FX8_sendPayload fW wst wl wr g (fS 3) 6 ((5 : Int32) + i1)).2.1, (FX8_sendPayload fW wst wl wr g (fS 3) 6 ((5 : Int32) + i1)).2.2, FX5_goOn fS (if (i0 &&& 3) = 0 then i1 else i1 + 1)) ∧ (∀ i, i < 5 → g i = z i) ∧ (∀ t, t < j → g (5 + t) = z (5 + t)) ∧ (∀ t, j ≤ t → t < m → g (5 + t) = so (W + t)) := by
  intro n
  induction n with
  | zero => intro y j z _ _ h; omega
  | succ n ih =>
    intro y j z hy hj h
    rw [LX6_send_59]
    split
    · rename_i hc
      have hc := iT hc
      refine ⟨z, ?_, fun i _ => rfl, fun t _ => rfl, fun t a b => by omega⟩
      unfold KX6_send_107
      by_cases q : (i0 &&& 3) = 0
      · rw [if_pos q, if_pos q]; rfl
      · rw [if_neg q, if_neg q]; rfl
    · rename_i hc
      have hc := iTn hc
      have h9 := tI_s (a := y) (by omega)
      have e1 : ((5 : Int32) + y).toNatClampNeg = 5 + j := tcE (by rw [tI_ca 5 k5 (by omega) (by omega)]; omega)
      have e2 : (r + y).toNatClampNeg = W + j := tcE (by rw [tI_add (by omega) (by omega)]; omega)
      rw [e1, e2]
      obtain ⟨g, a, b, c, d⟩ := ih (y + 1) (j + 1) (upd z (5 + j) (so (W + j))) (by omega) (by omega) (by omega)
      refine ⟨g, a, fun i hi => ?_, fun t ht => ?_, fun t t0 t1 => ?_⟩
      · rw [b i hi, pk_un (by omega)]
      · rw [c t (by omega), pk_un (by omega)]
      · by_cases q : t = j
        · subst q
          rw [c t (by omega), pk_us]
        · exact d t (by omega) t1
theorem send_eq {fR sg fW wst wl : (Nat → Int32)} {wr : (Nat → Nat → Int32)} {fS so : (Nat → Int32)} {i0 i1 : Int32} (m : Nat) (h1 : i1.toInt = m) (hm : m ≤ 8) :
    ∃ g : (Nat → Int32), FX6_send fR sg fW wst wl wr fS so i0 i1 = (g, (FX8_sendPayload fW wst wl wr g (fS 3) 6 ((5 : Int32) + i1)).1, (FX8_sendPayload fW wst wl wr g (fS 3) 6 ((5 : Int32) + i1)).2.1, (FX8_sendPayload fW wst wl wr g (fS 3) 6 ((5 : Int32) + i1)).2.2, FX5_goOn fS (if (i0 &&& 3) = 0 then i1 else i1 + 1)) ∧ g 0 = fS 4 ∧ g 1 = fS 7 ∧ g 2 = fS 5 ∧ g 3 = i0 ∧ g 4 = 16 - fS 9 ∧ (∀ t, t < m → g (5 + t) = so ((FX5_onTheWay fS).toInt.toNat + t)) := by
  have hw : 0 ≤ (FX5_onTheWay fS).toInt ∧ (FX5_onTheWay fS).toInt < 256 := and255 _
  obtain ⟨g, a, b, c, d⟩ := send59 (fW := fW) (wst := wst) (wl := wl) (wr := wr) (fS := fS) (so := so) (i0 := i0) (i1 := i1) (r := FX5_onTheWay fS) (W := (FX5_onTheWay fS).toInt.toNat) h1 hm (by omega) (by omega) 128 0 0 (upd (upd (upd (upd (upd sg 0 (fS 4)) 1 (fS 7)) 2 (fS 5)) 3 i0) 4 ((16 : Int32) - (fS 9))) rfl (by omega) (by omega)
  exact ⟨g, a, b 0 (by omega), b 1 (by omega), b 2 (by omega), b 3 (by omega), b 4 (by omega), fun t ht => d t (by omega) ht⟩
theorem sim_tell {fR sg fW wst wl : (Nat → Int32)} {wr : (Nat → Nat → Int32)} {fS so mF kn out ol sd po se ne bd ad : (Nat → Int32)} (h : R_F fW wl wr mF out ol) (hT : (fW 4).toInt < 2000000000) (hid : fW 5 = mF 9) (hK : R_K wst kn) {k fl : Int32} (hf : oct fl)
    (e3 : fS 3 = ad k.toNatClampNeg) (r3 : 0 ≤ (ad k.toNatClampNeg).toInt ∧ (ad k.toNatClampNeg).toInt < 16) (e4 : fS 4 = po k.toNatClampNeg) (r4 : oct (po k.toNatClampNeg)) (e5 : fS 5 = ne k.toNatClampNeg) (r5 : oct (ne k.toNatClampNeg)) (e7 : fS 7 = se k.toNatClampNeg) (r7 : oct (se k.toNatClampNeg)) (e9 : fS 9 = bd k.toNatClampNeg) (r9 : 0 ≤ (bd k.toNatClampNeg).toInt ∧ (bd k.toNatClampNeg).toInt ≤ 16) :
    R_F (FX6_send fR sg fW wst wl wr fS so fl 0).2.1 (FX6_send fR sg fW wst wl wr fS so fl 0).2.2.1 (FX6_send fR sg fW wst wl wr fS so fl 0).2.2.2.1 (FX10_tell mF kn out ol sd po se ne bd ad k fl).1 (FX10_tell mF kn out ol sd po se ne bd ad k fl).2.1 (FX10_tell mF kn out ol sd po se ne bd ad k fl).2.2.1
    ∧ (FX6_send fR sg fW wst wl wr fS so fl 0).2.1 5 = (FX10_tell mF kn out ol sd po se ne bd ad k fl).1 9 ∧ (fW 4).toInt + 1 ≤ ((FX6_send fR sg fW wst wl wr fS so fl 0).2.1 4).toInt ∧ ((FX6_send fR sg fW wst wl wr fS so fl 0).2.1 4).toInt ≤ (fW 4).toInt + 2 ∧ (∀ j, j ≠ 8 → j ≠ 9 → j ≠ 30 → (FX10_tell mF kn out ol sd po se ne bd ad k fl).1 j = mF j)
    ∧ (FX6_send fR sg fW wst wl wr fS so fl 0).2.2.2.2 = FX5_goOn fS (if (fl &&& 3) = 0 then 0 else 0 + 1) := by
  obtain ⟨g, a, g0, g1, g2, g3, g4, _⟩ := send_eq (fR := fR) (sg := sg) (fW := fW) (wst := wst) (wl := wl) (wr := wr) (fS := fS) (so := so) (i0 := fl) (i1 := 0) 0 rfl (by omega)
  have e16 : ((16 : Int32) - bd k.toNatClampNeg).toInt = 16 - (bd k.toNatClampNeg).toInt := tI_cs 16 k16 (by omega) (by omega)
  have key := sim_sendTo (rb := g) (se := upd (upd (upd (upd (upd sd 0 (po k.toNatClampNeg)) 1 (se k.toNatClampNeg &&& 255)) 2 (ne k.toNatClampNeg &&& 255)) 3 fl) 4 ((16 : Int32) - bd k.toNatClampNeg)) (mF := upd mF 30 5) (kn := kn) (wst := wst) (fW := fW) (wl := wl) (wr := wr) (out := out) (ol := ol) h hT hid hK (i0 := ad k.toNatClampNeg) (i1 := 6) (i2 := (5 : Int32) + 0) r3.1 r3.2 (by unfold oct; decide) 5 rfl (by omega) rfl (fun i hi => by
    obtain rfl | rfl | rfl | rfl | rfl : i = 0 ∨ i = 1 ∨ i = 2 ∨ i = 3 ∨ i = 4 := by omega
    · exact ⟨g0.trans e4, r4⟩
    · exact ⟨(g1.trans e7).trans (o255 r7).symm, oct_and _⟩
    · exact ⟨(g2.trans e5).trans (o255 r5).symm, oct_and _⟩
    · exact ⟨g3, hf⟩
    · refine ⟨g4.trans (by rw [e9]; rfl), ?_⟩
      show oct ((16 : Int32) - bd k.toNatClampNeg)
      unfold oct; omega)
  rw [← e3] at key
  obtain ⟨x, y, z, w, v⟩ := key
  rw [a]
  unfold FX10_tell KX10_tell_29 KX10_tell_41 FX10_say
  rw [← e3]
  refine ⟨x, y, z, w, fun j j8 j9 j30 => (v j j8 j9).trans (pk_un j30), rfl⟩
theorem sim_reset {fR sg fW wst wl : (Nat → Int32)} {wr : (Nat → Nat → Int32)} {mF kn out ol sd : (Nat → Int32)} (h : R_F fW wl wr mF out ol) (hT : (fW 4).toInt < 2000000000) (hid : fW 5 = mF 9) (hK : R_K wst kn) {i0 i1 i2 : Int32} (a0 : 0 ≤ i0.toInt) (a1 : i0.toInt < 16) (o1 : oct i1) (o2 : oct i2) :
    R_F (FX6_sendReset fR sg fW wst wl wr i0 i1 i2).2.1 (FX6_sendReset fR sg fW wst wl wr i0 i1 i2).2.2.1 (FX6_sendReset fR sg fW wst wl wr i0 i1 i2).2.2.2 (FX10_reset mF kn out ol sd i0 i1 i2).1 (FX10_reset mF kn out ol sd i0 i1 i2).2.1 (FX10_reset mF kn out ol sd i0 i1 i2).2.2.1
    ∧ (FX6_sendReset fR sg fW wst wl wr i0 i1 i2).2.1 5 = (FX10_reset mF kn out ol sd i0 i1 i2).1 9 ∧ (fW 4).toInt + 1 ≤ ((FX6_sendReset fR sg fW wst wl wr i0 i1 i2).2.1 4).toInt ∧ ((FX6_sendReset fR sg fW wst wl wr i0 i1 i2).2.1 4).toInt ≤ (fW 4).toInt + 2 ∧ (∀ j, j ≠ 8 → j ≠ 9 → j ≠ 30 → (FX10_reset mF kn out ol sd i0 i1 i2).1 j = mF j) := by
  have key := sim_sendTo (rb := upd (upd (upd (upd (upd sg 0 i1) 1 i2) 2 0) 3 4) 4 0) (se := upd (upd (upd (upd (upd sd 0 i1) 1 (i2 &&& 255)) 2 ((0 : Int32) &&& 255)) 3 4) 4 0) (mF := upd mF 30 5) (kn := kn) (wst := wst) (fW := fW) (wl := wl) (wr := wr) (out := out) (ol := ol) h hT hid hK (i0 := i0) (i1 := 6) (i2 := 5) a0 a1 (by unfold oct; decide) 5 rfl (by omega) rfl (fun i hi => by
    obtain rfl | rfl | rfl | rfl | rfl : i = 0 ∨ i = 1 ∨ i = 2 ∨ i = 3 ∨ i = 4 := by omega
    · exact ⟨rfl, o1⟩
    · exact ⟨(o255 o2).symm, oct_and _⟩
    · exact ⟨rfl, (by unfold oct; decide : oct ((0 : Int32) &&& 255))⟩
    · exact ⟨rfl, (by unfold oct; decide : oct (4 : Int32))⟩
    · exact ⟨rfl, (by unfold oct; decide : oct (0 : Int32))⟩)
  obtain ⟨x, y, z, w, v⟩ := key
  unfold FX6_sendReset KX6_sendReset_47 FX10_reset KX10_reset_6 KX10_reset_13 FX10_say
  exact ⟨x, y, z, w, fun j j8 j9 j30 => (v j j8 j9).trans (pk_un j30)⟩

