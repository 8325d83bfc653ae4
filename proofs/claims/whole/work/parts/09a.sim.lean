-- the simulation: frames
def oct (x : Int32) : Prop := 0 ≤ x.toInt ∧ x.toInt < 256
theorem o255 {x : Int32} (h : oct x) : x &&& 255 = x := by
  obtain ⟨h0, h1⟩ := h
  obtain ⟨j, hj, rfl⟩ := nI_of (x := x) (fun q => by have := lT q; rw [k0] at this; omega)
  rw [nI_toInt hj] at h1
  rw [pk_andN (by omega) 8 (by decide), show 2 ^ 8 = 256 from rfl, Nat.mod_eq_of_lt (by omega)]
theorem oct_and (x : Int32) : oct (x &&& 255) := and255 x
theorem vu_n {f : (Nat → Nat → Int32)} {k j : Nat} {g : (Nat → Int32)} (h : j ≠ k) : va_up f k g j = f j := if_neg h
theorem vu_s {f : (Nat → Nat → Int32)} {k : Nat} {g : (Nat → Int32)} : va_up f k g k = g := if_pos rfl
theorem tcE {x : Int32} {k : Nat} (h : x.toInt = k) : x.toNatClampNeg = k := by
  have := tc_n x
  rw [if_pos (by omega)] at this
  omega
theorem tI_mulN {c a : Int32} (m A : Nat) (hc : c.toInt = m) (ha : a.toInt = A) (h : m * A < 2147483648) : (c * a).toInt = ((m * A : Nat) : Int) := by
  have e : c.toInt * a.toInt = ((m * A : Nat) : Int) := by rw [hc, ha]; exact (Int.natCast_mul m A).symm
  rw [tI_mul (by omega) (by omega), e]
theorem tcMA {c a b : Int32} (m A B : Nat) (hc : c.toInt = m) (ha : a.toInt = A) (hb : b.toInt = B) (hm : m ≤ 64) (hA : A ≤ 100) (hB : B ≤ 1000) : (c * a + b).toNatClampNeg = m * A + B := by
  have hx := Nat.mul_le_mul hm hA
  have e1 := tI_mulN (c := c) (a := a) m A hc ha (by omega)
  have e2 : (c * a + b).toInt = (c * a).toInt + b.toInt := tI_add (by omega) (by omega)
  exact tcE (by rw [e2, e1, hb]; omega)
theorem op24s {y3 : Int32} {zol : (Nat → Int32)} {v : Int32} {lf : Int32 → (Nat → Int32) → (Nat → Int32) → (Nat → Int32) × (Nat → Int32) × (Nat → Int32)} {Y : Nat} (hY : y3.toInt = Y) (h1 : 1 ≤ Y) (h11 : Y ≤ 11) : ∀ (n : Nat) (y4 : Int32) (B : Nat) (z : (Nat → Int32)), y4.toInt = B → B ≤ 32 → 32 - B < n →
    ∃ z', LX10_open_24 y3 zol v lf n y4 z = lf (y3 + (-1)) z' (upd zol y3.toNatClampNeg v) ∧ (∀ i, B ≤ i → i < 32 → z' (32 * Y + i) = z (32 * (Y - 1) + i)) ∧ (∀ j, (j < 32 * Y + B ∨ 32 * Y + 32 ≤ j) → z' j = z j) := by
  intro n
  induction n with
  | zero => intro y4 B z _ _ h; omega
  | succ n ih =>
    intro y4 B z hB hB2 h
    rw [LX10_open_24]
    split
    · rename_i hc
      have hc := iT hc
      rw [k32] at hc
      exact ⟨z, rfl, fun i a b => by omega, fun j _ => rfl⟩
    · rename_i hc
      have hc := iTn hc
      rw [k32] at hc
      have h9 := tI_s (a := y4) (by omega)
      have e1 : (((32 : Int32) * y3) + y4).toNatClampNeg = 32 * Y + B := tcMA 32 Y B k32 hY hB (by omega) (by omega) (by omega)
      have hY1 : (y3 - 1).toInt = ((Y - 1 : Nat) : Int) := by rw [tI_sc 1 k1 (by omega) (by omega)]; omega
      have e2 : (((32 : Int32) * (y3 - (1 : Int32))) + y4).toNatClampNeg = 32 * (Y - 1) + B := tcMA 32 (Y - 1) B k32 hY1 hB (by omega) (by omega) (by omega)
      rw [e1, e2]
      obtain ⟨z', a, b, c⟩ := ih (y4 + 1) (B + 1) (upd z (32 * Y + B) (z (32 * (Y - 1) + B))) (by omega) (by omega) (by omega)
      refine ⟨z', a, fun i i0 i1 => ?_, fun j hj => ?_⟩
      · by_cases q : i = B
        · subst q
          rw [c _ (Or.inl (by omega)), pk_us]
        · rw [b i (by omega) i1, pk_un (by omega)]
      · rw [c j (by omega), pk_un (by omega)]
theorem op3s {mF : (Nat → Int32)} {i0 i1 : Int32} : ∀ (n : Nat) (y3 : Int32) (Y : Nat) (z zol : (Nat → Int32)), y3.toInt = Y → Y ≤ 11 → Y < n →
    ∃ z' zol', LX10_open_3 mF i0 i1 n y3 z zol = KX10_open_78 mF i1 (FX10_put mF z' (upd zol' 0 0) i0) ∧ (∀ k, 1 ≤ k → k ≤ Y → zol' k = zol (k - 1)) ∧ (∀ k, Y < k → zol' k = zol k) ∧ (∀ k i, 1 ≤ k → k ≤ Y → i < 32 → z' (32 * k + i) = z (32 * (k - 1) + i)) ∧ (∀ j, 32 * Y + 32 ≤ j → z' j = z j) := by
  intro n
  induction n with
  | zero => intro y3 Y z zol _ _ h; omega
  | succ n ih =>
    intro y3 Y z zol hY h11 h
    rw [LX10_open_3]
    split
    · rename_i hc
      have hc := iT hc
      rw [k0] at hc
      exact ⟨z, zol, rfl, fun k a b => by omega, fun k _ => rfl, fun k i a b _ => by omega, fun j _ => rfl⟩
    · rename_i hc
      have hc := iTn hc
      rw [k0] at hc
      obtain ⟨z1, a, b, c⟩ := op24s (y3 := y3) (zol := zol) (v := zol (y3 - 1).toNatClampNeg) (lf := LX10_open_3 mF i0 i1 n) hY (by omega) h11 64 0 0 z rfl (by omega) (by omega)
      rw [a]
      have h9 : (y3 + (-1)).toInt = ((Y - 1 : Nat) : Int) := by rw [tI_ac (-1) rfl (by omega) (by omega)]; omega
      have eY : y3.toNatClampNeg = Y := tcE hY
      have eY1 : (y3 - 1).toNatClampNeg = Y - 1 := tcE (by rw [tI_sc 1 k1 (by omega) (by omega)]; omega)
      obtain ⟨z', zol', p, q, r, s, t⟩ := ih _ (Y - 1) z1 (upd zol y3.toNatClampNeg (zol (y3 - 1).toNatClampNeg)) h9 (by omega) (by omega)
      rw [eY, eY1] at q r
      refine ⟨z', zol', p, fun k ka kb => ?_, fun k hk => ?_, fun k i ka kb hi => ?_, fun j hj => ?_⟩
      · by_cases e : k = Y
        · subst e
          rw [r k (by omega), pk_us]
        · rw [q k ka (by omega), pk_un (by omega)]
      · rw [r k (by omega), pk_un (by omega)]
      · by_cases e : k = Y
        · subst e
          rw [t _ (by omega), b i (by omega) hi]
        · rw [s k i ka (by omega) hi, c _ (Or.inl (by omega))]
      · rw [t j (by omega), c j (Or.inr (by omega))]
def FrN (out ol out0 ol0 : (Nat → Int32)) (n : Nat) (c : (Nat → Int32)) : Prop := (ol 0).toInt = n ∧ (∀ k, k < 11 → ol (k + 1) = ol0 k) ∧ (∀ k i, k < 11 → i < 32 → out (32 * (k + 1) + i) = out0 (32 * k + i)) ∧ (∀ i, i < n → out i = c i)
theorem FrN_put {mF out ol out0 ol0 c : (Nat → Int32)} {n : Nat} {v : Int32} (h : FrN out ol out0 ol0 n c) (hn : n < 32) (hv : v &&& 255 = c n) : FrN (FX10_put mF out ol v).1 (FX10_put mF out ol v).2 out0 ol0 (n + 1) c := by
  obtain ⟨a, b, d, e⟩ := h
  have e0 : (ol 0).toNatClampNeg = n := tcE a
  refine ⟨?_, fun k hk => ?_, fun k i hk hi => ?_, fun i hi => ?_⟩
  · show (ol 0 + 1).toInt = ((n + 1 : Nat) : Int)
    rw [tI_s (by omega)]; omega
  · show upd ol 0 (ol 0 + 1) (k + 1) = ol0 k
    rw [pk_un (by omega)]; exact b k hk
  · show upd out (ol 0).toNatClampNeg (v &&& 255) (32 * (k + 1) + i) = _
    rw [e0, pk_un (by omega)]; exact d k i hk hi
  · show upd out (ol 0).toNatClampNeg (v &&& 255) i = _
    rw [e0]
    by_cases q : i = n
    · rw [q, pk_us]; exact hv
    · rw [pk_un q]; exact e i (by omega)
theorem opn_fr {mF out ol c : (Nat → Int32)} {i0 i1 : Int32} (h0 : i0 &&& 255 = c 0) (h1 : c 1 = 1) (h2 : i1 &&& 255 = c 2) : FrN (FX10_open mF out ol i0 i1).2.1 (FX10_open mF out ol i0 i1).2.2 out ol 3 c := by
  obtain ⟨z, zo, e, p, q, r, s⟩ := op3s (mF := mF) (i0 := i0) (i1 := i1) 128 11 11 out ol rfl (by omega) (by omega)
  have b0 : FrN z (upd zo 0 0) out ol 0 c := ⟨rfl, fun k hk => by rw [pk_un (by omega), p (k + 1) (by omega) (by omega), Nat.add_sub_cancel], fun k i hk hi => by rw [r (k + 1) i (by omega) (by omega) hi, Nat.add_sub_cancel], fun i hi => by omega⟩
  have b1 := FrN_put (mF := mF) (v := i0) b0 (by omega) h0
  have b2 := FrN_put (mF := mF) (v := 1) b1 (by omega) (by rw [h1]; rfl)
  have b3 := FrN_put (mF := mF) (v := i1) b2 (by omega) h2
  rw [FX10_open, e]
  exact b3
def smf (f : (Nat → Int32)) : Nat → Nat → Int32 → Int32
  | 0, _, s => s
  | m + 1, a, s => smf f m (a + 1) (s + f a)
theorem smf_c {f g : (Nat → Int32)} : ∀ (m A : Nat) (s : Int32), (∀ i, A ≤ i → i < A + m → f i = g i) → smf f m A s = smf g m A s := by
  intro m
  induction m with
  | zero => intro A s _; rfl
  | succ m ih =>
    intro A s h
    show smf f m (A + 1) (s + f A) = smf g m (A + 1) (s + g A)
    rw [h A (by omega) (by omega)]
    exact ih _ _ (fun i a b => h i (by omega) (by omega))
theorem dg23s {se : (Nat → Int32)} {i1 i2 i3 i4 i5 i6 : Int32} {u u2 u3 : (Nat → Int32)} {E : Nat} (he : (i5 + i6).toInt = E) (hE : E ≤ 100) : ∀ (n : Nat) (y y8 : Int32) (Y m : Nat), y.toInt = Y → Y + m = E → m < n →
    LX10_datagram_23 se i1 i2 i3 i4 i5 i6 u u2 u3 n y y8 = KX10_datagram_53 se i1 i2 i3 i4 i5 i6 u (FX10_put u u2 u3 1) (smf se m Y y8) := by
  intro n
  induction n with
  | zero => intro y y8 Y m _ _ h; omega
  | succ n ih =>
    intro y y8 Y m hY hm h
    rw [LX10_datagram_23]
    split
    · rename_i hc
      have hc := iT hc
      obtain rfl : m = 0 := by omega
      rfl
    · rename_i hc
      have hc := iTn hc
      obtain ⟨m', rfl⟩ : ∃ m', m = m' + 1 := ⟨m - 1, by omega⟩
      have h9 := tI_s (a := y) (by omega)
      rw [ih (y + 1) _ (Y + 1) m' (by omega) (by omega) (by omega), tcE hY]
      rfl
theorem dg89s {se out0 ol0 c u : (Nat → Int32)} {i5 i6 : Int32} {A m : Nat} (he : (i5 + i6).toInt = ((A + m : Nat) : Int)) (hA : A ≤ 32) (hm : m ≤ 16) (hc9 : ∀ j, j < m → se (A + j) &&& 255 = c (9 + j)) : ∀ (n : Nat) (y : Int32) (z zo : (Nat → Int32)) (j : Nat), y.toInt = ((A + j : Nat) : Int) → j ≤ m → m - j < n → FrN z zo out0 ol0 (9 + j) c →
    FrN (LX10_datagram_89 se i5 i6 u n y z zo).2.1 (LX10_datagram_89 se i5 i6 u n y z zo).2.2 out0 ol0 (9 + m) c := by
  intro n
  induction n with
  | zero => intro y z zo j _ _ h; omega
  | succ n ih =>
    intro y z zo j hy hj h hF
    rw [LX10_datagram_89]
    split
    · rename_i hc
      have hc := iT hc
      obtain rfl : j = m := by omega
      exact hF
    · rename_i hc
      have hc := iTn hc
      have h9 := tI_s (a := y) (by omega)
      unfold KX10_datagram_107
      exact ih (y + 1) _ _ (j + 1) (by omega) (by omega) (by omega) (FrN_put (n := 9 + j) hF (by omega) (by rw [tcE hy]; exact hc9 j (by omega)))
theorem dg_fr {mF out ol se c : (Nat → Int32)} {i0 i1 i2 i3 i4 i5 i6 : Int32} (A m : Nat) (h5 : i5.toInt = A) (h6 : i6.toInt = m) (hA : A ≤ 16) (hm : m ≤ 16) (c0 : i0 &&& 255 = c 0) (c1 : c 1 = 1) (c2 : c 2 = 3) (c3 : c 3 = 1) (c4 : i1 &&& 255 = c 4) (c5 : i2 &&& 255 = c 5) (c6 : i3 &&& 255 = c 6) (c7 : i4 &&& 255 = c 7)
    (c8 : (-(smf se m A ((((1 + i1) + i2) + i3) + i4))) &&& 255 = c 8) (c9 : ∀ j, j < m → se (A + j) &&& 255 = c (9 + j)) : FrN (FX10_datagram mF out ol se i0 i1 i2 i3 i4 i5 i6).2.1 (FX10_datagram mF out ol se i0 i1 i2 i3 i4 i5 i6).2.2 out ol (9 + m) c := by
  have he : (i5 + i6).toInt = ((A + m : Nat) : Int) := by rw [tI_add (by omega) (by omega)]; omega
  have b3 := opn_fr (mF := mF) (out := out) (ol := ol) (i0 := i0) (i1 := 3) c0 c1 (by rw [c2]; rfl)
  rw [FX10_datagram, KX10_datagram_3, dg23s he (by omega) 128 i5 _ A m h5 rfl (by omega)]
  unfold KX10_datagram_53 KX10_datagram_58 KX10_datagram_63 KX10_datagram_69 KX10_datagram_75 KX10_datagram_82
  have b4 := FrN_put (mF := (FX10_open mF out ol i0 3).1) (v := 1) b3 (by omega) (by rw [c3]; rfl)
  have b5 := FrN_put (mF := (FX10_open mF out ol i0 3).1) (v := i1) b4 (by omega) c4
  have b6 := FrN_put (mF := (FX10_open mF out ol i0 3).1) (v := i2) b5 (by omega) c5
  have b7 := FrN_put (mF := (FX10_open mF out ol i0 3).1) (v := i3) b6 (by omega) c6
  have b8 := FrN_put (mF := (FX10_open mF out ol i0 3).1) (v := i4) b7 (by omega) c7
  have b9 := FrN_put (mF := (FX10_open mF out ol i0 3).1) (v := -(smf se m A ((((1 + i1) + i2) + i3) + i4))) b8 (by omega) c8
  exact dg89s he (by omega) hm c9 128 i5 _ _ 0 h5 (by omega) (by omega) b9
theorem sp88s {rb u1 u2 : (Nat → Int32)} {i2 i3 : Int32} {k A m : Nat} (h2 : i2.toInt = A) (h3 : i3.toInt = ((A + m : Nat) : Int)) (hA : A ≤ 16) (hm : m ≤ 32) : ∀ (n : Nat) (y9 y8 : Int32) (j : Nat) (z : (Nat → Nat → Int32)), y9.toInt = ((A + j : Nat) : Int) → j ≤ m → m - j < n →
    (LX8_sendPiece_88 rb i2 i3 u1 u2 k n y9 y8 z).1 = u1 ∧ (LX8_sendPiece_88 rb i2 i3 u1 u2 k n y9 y8 z).2.1 = u2 ∧ (∀ q, q ≠ k → (LX8_sendPiece_88 rb i2 i3 u1 u2 k n y9 y8 z).2.2 q = z q) ∧ (∀ i, i < 8 → (LX8_sendPiece_88 rb i2 i3 u1 u2 k n y9 y8 z).2.2 k i = z k i) ∧ (LX8_sendPiece_88 rb i2 i3 u1 u2 k n y9 y8 z).2.2 k 8 = (-(smf rb (m - j) (A + j) y8)) &&& 255 ∧ (∀ t, t < j → (LX8_sendPiece_88 rb i2 i3 u1 u2 k n y9 y8 z).2.2 k (9 + t) = z k (9 + t)) ∧ (∀ t, j ≤ t → t < m → (LX8_sendPiece_88 rb i2 i3 u1 u2 k n y9 y8 z).2.2 k (9 + t) = rb (A + t)) := by
  intro n
  induction n with
  | zero => intro y9 y8 j z _ _ h; omega
  | succ n ih =>
    intro y9 y8 j z hy hj h
    rw [LX8_sendPiece_88]
    split
    · rename_i hc
      have hc := iT hc
      obtain rfl : j = m := by omega
      refine ⟨rfl, rfl, fun q hq => vu_n hq, fun i hi => ?_, ?_, fun t ht => ?_, fun t a b => by omega⟩
      · show va_up z k _ k i = _
        rw [vu_s, pk_un (by omega)]
      · show va_up z k _ k 8 = _
        rw [vu_s, pk_us, Nat.sub_self]
        rfl
      · show va_up z k _ k (9 + t) = _
        rw [vu_s, pk_un (by omega)]
    · rename_i hc
      have hc := iTn hc
      have h9 := tI_s (a := y9) (by omega)
      have e0 : (9 + y9).toInt = 9 + y9.toInt := tI_ca 9 k9 (by omega) (by omega)
      have e1 : (9 + y9 - i2).toNatClampNeg = 9 + j := tcE (by rw [tI_sub (by omega) (by omega)]; omega)
      have e2 : y9.toNatClampNeg = A + j := tcE hy
      rw [e1, e2]
      obtain ⟨a, b, c, d, e, f, g⟩ := ih (y9 + 1) (y8 + rb (A + j)) (j + 1) (va_up z k (upd (z k) (9 + j) (rb (A + j)))) (by omega) (by omega) (by omega)
      refine ⟨a, b, fun q hq => (c q hq).trans (vu_n hq), fun i hi => ?_, ?_, fun t ht => ?_, fun t t0 t1 => ?_⟩
      · rw [d i hi, vu_s, pk_un (by omega)]
      · rw [e, show m - j = (m - (j + 1)) + 1 by omega]
        rfl
      · rw [f t (by omega), vu_s, pk_un (by omega)]
      · by_cases q : t = j
        · subst q
          rw [f t (by omega), vu_s, pk_us]
        · rw [g t (by omega) t1]
def cnt9 (to goal id place prot s : Int32) (pl : (Nat → Int32)) (A : Nat) : (Nat → Int32) := fun i => if i = 0 then to else if i = 1 then 1 else if i = 2 then 3 else if i = 3 then 1 else if i = 4 then goal else if i = 5 then id else if i = 6 then place else if i = 7 then prot else if i = 8 then s else pl (A + (i - 9))
theorem cnt9_9 {to goal id place prot s : Int32} {pl : (Nat → Int32)} {A j : Nat} : cnt9 to goal id place prot s pl A (9 + j) = pl (A + j) := by
  unfold cnt9
  rw [if_neg (by omega), if_neg (by omega), if_neg (by omega), if_neg (by omega), if_neg (by omega), if_neg (by omega), if_neg (by omega), if_neg (by omega), if_neg (by omega), Nat.add_sub_cancel_left]
theorem sp_fr {fW wst wl : (Nat → Int32)} {wr : (Nat → Nat → Int32)} {rb : (Nat → Int32)} {i0 i1 i2 i3 i4 : Int32} (A m : Nat) (h2 : i2.toInt = A) (h3 : i3.toInt = ((A + m : Nat) : Int)) (hA : A ≤ 16) (hm : m ≤ 32) :
    (FX8_sendPiece fW wst wl wr rb i0 i1 i2 i3 i4).1 = (FX8_nextFrame fW wl (((9 : Int32) + i3) - i2)).2.1 ∧ (FX8_sendPiece fW wst wl wr rb i0 i1 i2 i3 i4).2.1 = (FX8_nextFrame fW wl (((9 : Int32) + i3) - i2)).2.2 ∧ (∀ q, q ≠ (FX8_nextFrame fW wl (((9 : Int32) + i3) - i2)).1 → (FX8_sendPiece fW wst wl wr rb i0 i1 i2 i3 i4).2.2 q = wr q) ∧
    (∀ i, i < 9 + m → (FX8_sendPiece fW wst wl wr rb i0 i1 i2 i3 i4).2.2 (FX8_nextFrame fW wl (((9 : Int32) + i3) - i2)).1 i = cnt9 (wst i0.toNatClampNeg) i0 (fW 5 &&& 255) i4 i1 ((-(smf rb m A ((((1 + i0) + (fW 5 &&& 255)) + i4) + i1))) &&& 255) rb A i) := by
  rw [FX8_sendPiece, KX8_sendPiece_9]
  obtain ⟨a, b, c, d, e, f, g⟩ := sp88s (rb := rb) (u1 := (FX8_nextFrame fW wl (((9 : Int32) + i3) - i2)).2.1) (u2 := (FX8_nextFrame fW wl (((9 : Int32) + i3) - i2)).2.2) (k := (FX8_nextFrame fW wl (((9 : Int32) + i3) - i2)).1) h2 h3 hA hm 128 i2 ((((1 + i0) + (fW 5 &&& 255)) + i4) + i1) 0 (va_up wr (FX8_nextFrame fW wl (((9 : Int32) + i3) - i2)).1 (upd (upd (upd (upd (upd (upd (upd (upd (wr (FX8_nextFrame fW wl (((9 : Int32) + i3) - i2)).1) 0 (wst i0.toNatClampNeg)) 1 1) 2 3) 3 1) 4 i0) 5 (fW 5 &&& 255)) 6 i4) 7 i1)) h2 (by omega) (by omega)
  refine ⟨a, b, fun q hq => (c q hq).trans (vu_n hq), fun i hi => ?_⟩
  by_cases q : i < 8
  · refine (d i q).trans ?_
    rw [vu_s]
    obtain rfl | rfl | rfl | rfl | rfl | rfl | rfl | rfl : i = 0 ∨ i = 1 ∨ i = 2 ∨ i = 3 ∨ i = 4 ∨ i = 5 ∨ i = 6 ∨ i = 7 := by omega
    all_goals rfl
  · by_cases q8 : i = 8
    · rw [q8]
      exact e
    · obtain ⟨t, rfl⟩ : ∃ t, i = 9 + t := ⟨i - 9, by omega⟩
      rw [cnt9_9]
      exact g t (by omega) (by omega)
def r12 (fW : (Nat → Int32)) (k : Nat) : Nat := ((fW 3).toInt.toNat + 12 - k) % 12
def R_F (fW wl : (Nat → Int32)) (wr : (Nat → Nat → Int32)) (mF out ol : (Nat → Int32)) : Prop := 0 ≤ (fW 3).toInt ∧ (fW 3).toInt < 12 ∧ fW 4 = mF 8 ∧ 0 ≤ (fW 4).toInt ∧ ∀ k, k < 12 → wl (r12 fW k) = ol k ∧ 0 ≤ (ol k).toInt ∧ (ol k).toInt ≤ 25 ∧ ((fW 4).toInt ≤ k → ol k = 0) ∧ ∀ i : Nat, (i : Int) < (ol k).toInt → wr (r12 fW k) i = out (32 * k + i)
theorem nx12 {x : Int32} (h0 : 0 ≤ x.toInt) (h1 : x.toInt < 12) : (x + 1 - (x + 1) / 12 * 12).toInt = if x.toInt = 11 then 0 else x.toInt + 1 := by
  rcases sp12 h0 h1 with e | e | e | e | e | e | e | e | e | e | e | e <;> rw [e] <;> rfl
theorem RF_add {fW wl : (Nat → Int32)} {wr : (Nat → Nat → Int32)} {mF out ol : (Nat → Int32)} (h : R_F fW wl wr mF out ol) (hT : (fW 4).toInt < 2000000100) {fW' wl' : (Nat → Int32)} {wr' : (Nat → Nat → Int32)} {mF' out' ol' c : (Nat → Int32)} {n : Nat} {ln : Int32} (e3 : fW' 3 = (FX8_nextFrame fW wl ln).2.1 3) (e4 : fW' 4 = fW 4 + 1) (e5 : wl' = (FX8_nextFrame fW wl ln).2.2)
    (e6 : ∀ q, q ≠ (FX8_nextFrame fW wl ln).1 → wr' q = wr q) (e7 : ∀ i, i < n → wr' (FX8_nextFrame fW wl ln).1 i = c i) (hl : ln.toInt = n) (hn : n ≤ 25) (m8 : mF' 8 = mF 8 + 1) (hF : FrN out' ol' out ol n c) : R_F fW' wl' wr' mF' out' ol' := by
  obtain ⟨a0, a1, a4, a5, ak⟩ := h
  obtain ⟨f0, f1, f2, f3⟩ := hF
  have x3 : (fW' 3).toInt = if (fW 3).toInt = 11 then 0 else (fW 3).toInt + 1 := by rw [e3]; exact nx12 a0 a1
  have hX : (FX8_nextFrame fW wl ln).1 = (fW' 3).toInt.toNat := by rw [e3]; exact (Int32.toNat_toInt _).symm
  have x4 : (fW' 4).toInt = (fW 4).toInt + 1 := by rw [e4, tI_s (by omega)]
  refine ⟨by rw [x3]; split <;> omega, by rw [x3]; split <;> omega, by rw [e4, m8, a4], by omega, fun k hk => ?_⟩
  cases k with
  | zero =>
    have r0 : r12 fW' 0 = (FX8_nextFrame fW wl ln).1 := by
      rw [hX]; unfold r12
      split at x3 <;> omega
    refine ⟨?_, by omega, by omega, fun q => by omega, fun i hi => ?_⟩
    · rw [r0, e5]
      show upd wl (FX8_nextFrame fW wl ln).1 ln (FX8_nextFrame fW wl ln).1 = ol' 0
      rw [pk_us]
      exact Int32.toInt_inj.mp (by omega)
    · rw [r0, e7 i (by omega), ← f3 i (by omega), show 32 * 0 + i = i by omega]
  | succ k =>
    have rk : r12 fW' (k + 1) = r12 fW k := by
      unfold r12
      split at x3 <;> omega
    have rne : r12 fW k ≠ (FX8_nextFrame fW wl ln).1 := by
      rw [hX]; unfold r12
      split at x3 <;> omega
    obtain ⟨b0, b1, b2, b3, b4⟩ := ak k (by omega)
    rw [f1 k (by omega)]
    refine ⟨?_, b1, b2, fun q => b3 (by omega), fun i hi => ?_⟩
    · rw [rk, e5]
      show upd wl (FX8_nextFrame fW wl ln).1 ln (r12 fW k) = _
      rw [pk_un rne]; exact b0
    · rw [rk, e6 _ rne, b4 i hi]
      exact (f2 k i (by omega) (by omega)).symm
theorem sim_short {fW wl : (Nat → Int32)} {wr : (Nat → Nat → Int32)} {mF out ol : (Nat → Int32)} (h : R_F fW wl wr mF out ol) (hT : (fW 4).toInt < 2000000100) {i0 i1 i2 : Int32} (h0 : oct i0) (h1 : oct i1) (h2 : oct i2) :
    R_F (FX8_sendShort fW wl wr i0 i1 i2).1 (FX8_sendShort fW wl wr i0 i1 i2).2.1 (FX8_sendShort fW wl wr i0 i1 i2).2.2 (FX10_open mF out ol i0 i1).1 (FX10_put (FX10_open mF out ol i0 i1).1 (FX10_put (FX10_open mF out ol i0 i1).1 (FX10_open mF out ol i0 i1).2.1 (FX10_open mF out ol i0 i1).2.2 1).1 (FX10_put (FX10_open mF out ol i0 i1).1 (FX10_open mF out ol i0 i1).2.1 (FX10_open mF out ol i0 i1).2.2 1).2 i2).1 (FX10_put (FX10_open mF out ol i0 i1).1 (FX10_put (FX10_open mF out ol i0 i1).1 (FX10_open mF out ol i0 i1).2.1 (FX10_open mF out ol i0 i1).2.2 1).1 (FX10_put (FX10_open mF out ol i0 i1).1 (FX10_open mF out ol i0 i1).2.1 (FX10_open mF out ol i0 i1).2.2 1).2 i2).2
    ∧ (FX8_sendShort fW wl wr i0 i1 i2).1 5 = fW 5 ∧ (FX8_sendShort fW wl wr i0 i1 i2).1 4 = fW 4 + 1 := by
  have b3 := opn_fr (mF := mF) (out := out) (ol := ol) (i0 := i0) (i1 := i1) (c := fun i => if i = 0 then i0 else if i = 1 then 1 else if i = 2 then i1 else if i = 3 then 1 else i2) (o255 h0) rfl (o255 h1)
  have b4 := FrN_put (mF := (FX10_open mF out ol i0 i1).1) (v := 1) b3 (by omega) rfl
  have b5 := FrN_put (mF := (FX10_open mF out ol i0 i1).1) (v := i2) b4 (by omega) (o255 h2)
  refine ⟨RF_add h hT (ln := 5) (n := 5) rfl rfl rfl (fun q hq => vu_n hq) (fun i hi => ?_) rfl (by omega) (by rw [open_1]; rfl) b5, rfl, rfl⟩
  show va_up wr _ _ _ i = _
  rw [vu_s]
  obtain rfl | rfl | rfl | rfl | rfl : i = 0 ∨ i = 1 ∨ i = 2 ∨ i = 3 ∨ i = 4 := by omega
  all_goals rfl
theorem sim_piece {fW wst wl : (Nat → Int32)} {wr : (Nat → Nat → Int32)} {rb mF out ol se : (Nat → Int32)} (h : R_F fW wl wr mF out ol) (hT : (fW 4).toInt < 2000000100) {i0 i1 i2 i3 i4 to id j5 j6 : Int32} (A m : Nat) (h2 : i2.toInt = A) (h3 : i3.toInt = ((A + m : Nat) : Int)) (h5 : j5.toInt = A) (h6 : j6.toInt = m) (hA : A ≤ 16) (hm : m ≤ 16) (ht : wst i0.toNatClampNeg = to) (o1 : oct to) (o2 : oct i0) (o3 : oct i1) (o4 : oct i4) (hid : id = fW 5 &&& 255) (hp : ∀ i, A ≤ i → i < A + m → rb i = se i ∧ oct (se i)) :
    R_F (FX8_sendPiece fW wst wl wr rb i0 i1 i2 i3 i4).1 (FX8_sendPiece fW wst wl wr rb i0 i1 i2 i3 i4).2.1 (FX8_sendPiece fW wst wl wr rb i0 i1 i2 i3 i4).2.2 (FX10_datagram mF out ol se to i0 id i4 i1 j5 j6).1 (FX10_datagram mF out ol se to i0 id i4 i1 j5 j6).2.1 (FX10_datagram mF out ol se to i0 id i4 i1 j5 j6).2.2
    ∧ (FX8_sendPiece fW wst wl wr rb i0 i1 i2 i3 i4).1 5 = fW 5 ∧ (FX8_sendPiece fW wst wl wr rb i0 i1 i2 i3 i4).1 4 = fW 4 + 1 ∧ (FX10_datagram mF out ol se to i0 id i4 i1 j5 j6).1 = upd mF 8 (mF 8 + 1) := by
  subst hid
  have hd := dg_1 (mF := mF) (out := out) (ol := ol) (se := se) (i0 := to) (i1 := i0) (i2 := fW 5 &&& 255) (i3 := i4) (i4 := i1) (i5 := j5) (i6 := j6) (by omega) (by omega) (by omega)
  obtain ⟨s1, s2, s3, s4⟩ := sp_fr (fW := fW) (wst := wst) (wl := wl) (wr := wr) (rb := rb) (i0 := i0) (i1 := i1) (i4 := i4) A m h2 h3 hA (by omega)
  rw [ht] at s4
  have hF := dg_fr (mF := mF) (out := out) (ol := ol) (se := se) (c := cnt9 to i0 (fW 5 &&& 255) i4 i1 ((-(smf rb m A ((((1 + i0) + (fW 5 &&& 255)) + i4) + i1))) &&& 255) rb A) (i0 := to) (i1 := i0) (i2 := fW 5 &&& 255) (i3 := i4) (i4 := i1) (i5 := j5) (i6 := j6) A m h5 h6 hA hm (o255 o1) rfl rfl rfl (o255 o2) (o255 (oct_and _)) (o255 o4) (o255 o3)
    (by rw [smf_c (f := se) (g := rb) m A _ (fun i a b => (hp i a b).1.symm)]; rfl) (fun j hj => by rw [cnt9_9, (hp (A + j) (by omega) (by omega)).1]; exact o255 (hp (A + j) (by omega) (by omega)).2)
  have hl : ((9 : Int32) + i3 - i2).toInt = ((9 + m : Nat) : Int) := by
    have e0 : (9 + i3).toInt = 9 + i3.toInt := tI_ca 9 k9 (by omega) (by omega)
    rw [tI_sub (by omega) (by omega)]; omega
  refine ⟨RF_add h hT (by rw [s1]) (by rw [s1]; rfl) s2 s3 s4 hl (by omega) (by rw [hd]; rfl) hF, by rw [s1]; rfl, by rw [s1]; rfl, hd⟩
def R_K (wst kn : (Nat → Int32)) : Prop := ∀ a, a < 16 → wst a = kn a ∧ (kn a = -1 ∨ oct (kn a))
theorem sim_sendTo {fW wst wl : (Nat → Int32)} {wr : (Nat → Nat → Int32)} {rb mF kn out ol se : (Nat → Int32)} (h : R_F fW wl wr mF out ol) (hT : (fW 4).toInt < 2000000000) (hid : fW 5 = mF 9) (hK : R_K wst kn) {i0 i1 i2 : Int32} (a0 : 0 ≤ i0.toInt) (a1 : i0.toInt < 16) (p1 : oct i1) (n : Nat) (hn : i2.toInt = n) (hn2 : n ≤ 32) (hl : mF 30 = i2) (hpl : ∀ i, i < n → rb i = se i ∧ oct (se i)) :
    R_F (FX8_sendPayload fW wst wl wr rb i0 i1 i2).1 (FX8_sendPayload fW wst wl wr rb i0 i1 i2).2.1 (FX8_sendPayload fW wst wl wr rb i0 i1 i2).2.2 (FX10_sendTo mF kn out ol se i0 i1).1 (FX10_sendTo mF kn out ol se i0 i1).2.1 (FX10_sendTo mF kn out ol se i0 i1).2.2
    ∧ (FX8_sendPayload fW wst wl wr rb i0 i1 i2).1 5 = (FX10_sendTo mF kn out ol se i0 i1).1 9 ∧ (fW 4).toInt + 1 ≤ ((FX8_sendPayload fW wst wl wr rb i0 i1 i2).1 4).toInt ∧ ((FX8_sendPayload fW wst wl wr rb i0 i1 i2).1 4).toInt ≤ (fW 4).toInt + 2 ∧ (∀ j, j ≠ 8 → j ≠ 9 → (FX10_sendTo mF kn out ol se i0 i1).1 j = mF j) := by
  have ia : i0.toNatClampNeg < 16 := by
    have := tc_n i0
    rw [if_pos a0] at this
    omega
  have h4 := tI_s (a := fW 4) (by omega)
  have o0 : oct i0 := ⟨a0, by omega⟩
  obtain ⟨ke, ko⟩ := hK _ ia
  unfold FX8_sendPayload FX10_sendTo
  by_cases q : kn i0.toNatClampNeg = -1
  · rw [if_pos (by rw [ke]; exact q), if_neg (by rw [q]; decide)]
    obtain ⟨x, y, z⟩ := sim_short h (by omega) (i0 := 15) (i1 := 1) (i2 := i0) (by unfold oct; decide) (by unfold oct; decide) o0
    unfold KX8_sendPayload_15 KX10_sendTo_15 KX10_sendTo_20 KX10_sendTo_25
    dsimp only
    refine ⟨x, ?_, ?_, ?_, fun j j8 j9 => ?_⟩
    · show (FX8_sendShort fW wl wr 15 1 i0).1 5 = (FX10_open mF out ol 15 1).1 9
      rw [open_1, y, hid]; rfl
    · show _ ≤ ((FX8_sendShort fW wl wr 15 1 i0).1 4).toInt
      rw [z]; omega
    · show ((FX8_sendShort fW wl wr 15 1 i0).1 4).toInt ≤ _
      rw [z]; omega
    · show (FX10_open mF out ol 15 1).1 j = mF j
      rw [open_1, pk_un j8]
  · have ho : oct (kn i0.toNatClampNeg) := ko.resolve_left q
    rw [if_neg (by rw [ke]; exact q), if_pos (show (0 : Int32) ≤ kn i0.toNatClampNeg from Int32.le_iff_toInt_le.mpr ho.1), hl]
    by_cases c : i2 ≤ 16
    · rw [if_pos c, if_pos c]
      have c2 := iT c
      rw [k16] at c2
      obtain ⟨x, y, z, w⟩ := sim_piece (fW := fW) (wst := wst) (wl := wl) (wr := wr) (rb := rb) (mF := upd mF 9 (mF 9 + 1)) (out := out) (ol := ol) (se := se) h (by omega) (i0 := i0) (i1 := i1) (i2 := 0) (i3 := i2) (i4 := 0) (id := mF 9 &&& 255) (j5 := 0) (j6 := i2) 0 n rfl (by omega) rfl hn (by omega) (by omega) ke ho o0 p1 (by unfold oct; decide) (by rw [hid]) (fun i _ hi => hpl i (by omega))
      unfold KX8_sendPayload_62 KX10_sendTo_104
      dsimp only
      refine ⟨x, ?_, ?_, ?_, fun j j8 j9 => ?_⟩
      · show (FX8_sendPiece fW wst wl wr rb i0 i1 0 i2 0).1 5 + 1 = (FX10_datagram _ _ _ _ _ _ _ _ _ _ _).1 9
        rw [w, y, hid]; rfl
      · show _ ≤ ((FX8_sendPiece fW wst wl wr rb i0 i1 0 i2 0).1 4).toInt
        rw [z]; omega
      · show ((FX8_sendPiece fW wst wl wr rb i0 i1 0 i2 0).1 4).toInt ≤ _
        rw [z]; omega
      · show (FX10_datagram _ _ _ _ _ _ _ _ _ _ _).1 j = mF j
        rw [w, pk_un j8, pk_un j9]
    · rw [if_neg c, if_neg c]
      have c2 := iTn c
      rw [k16] at c2
      obtain ⟨x, y, z, w⟩ := sim_piece (fW := fW) (wst := wst) (wl := wl) (wr := wr) (rb := rb) (mF := upd mF 9 (mF 9 + 1)) (out := out) (ol := ol) (se := se) h (by omega) (i0 := i0) (i1 := i1) (i2 := 0) (i3 := 16) (i4 := 128) (id := mF 9 &&& 255) (j5 := 0) (j6 := 16) 0 16 rfl rfl rfl rfl (by omega) (by omega) ke ho o0 p1 (by unfold oct; decide) (by rw [hid]) (fun i _ hi => hpl i (by omega))
      unfold KX8_sendPayload_36 KX10_sendTo_67
      have w30 : (FX10_datagram (upd mF 9 (mF 9 + 1)) out ol se (kn i0.toNatClampNeg) i0 (mF 9 &&& 255) 128 i1 0 16).1 30 = i2 := by rw [w]; exact hl
      rw [w30]
      have e16 : (i2 - 16).toInt = ((n - 16 : Nat) : Int) := by rw [tI_sc 16 k16 (by omega) (by omega)]; omega
      obtain ⟨x', y', z', w'⟩ := sim_piece (rb := rb) (wst := wst) (se := se) x (by rw [z]; omega) (i0 := i0) (i1 := i1) (i2 := 16) (i3 := i2) (i4 := 4) (id := mF 9 &&& 255) (j5 := 16) (j6 := i2 - 16) 16 (n - 16) rfl (by omega) rfl e16 (by omega) (by omega) ke ho o0 p1 (by unfold oct; decide) (by rw [y, hid]) (fun i _ hi => hpl i (by omega))
      unfold KX8_sendPayload_48 KX10_sendTo_86
      dsimp only
      have z2 : ((FX8_sendPiece fW wst wl wr rb i0 i1 0 16 128).1 4).toInt = (fW 4).toInt + 1 := by rw [z]; omega
      have h5 := tI_s (a := (FX8_sendPiece fW wst wl wr rb i0 i1 0 16 128).1 4) (by omega)
      refine ⟨x', ?_, ?_, ?_, fun j j8 j9 => ?_⟩
      · show (FX8_sendPiece _ _ _ _ _ _ _ 16 _ _).1 5 + 1 = (FX10_datagram _ _ _ _ _ _ _ 4 _ _ _).1 9
        rw [w', w, y', y, hid]; rfl
      · show _ ≤ ((FX8_sendPiece _ _ _ _ _ _ _ 16 _ _).1 4).toInt
        rw [z']; omega
      · show ((FX8_sendPiece _ _ _ _ _ _ _ 16 _ _).1 4).toInt ≤ _
        rw [z']; omega
      · show (FX10_datagram _ _ _ _ _ _ _ 4 _ _ _).1 j = mF j
        rw [w', pk_un j8, w, pk_un j8, pk_un j9]

