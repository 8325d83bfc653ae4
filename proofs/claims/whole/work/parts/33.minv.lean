-- what the reference's numbers keep to
def ad_in (f : Nat → Int32) : Prop := ∀ k, 0 ≤ (f k).toInt ∧ (f k).toInt < 16
def nl_in (f : Nat → Int32) : Prop := ∀ k, k < 6 → 0 ≤ (f k).toInt ∧ (f k).toInt ≤ 4
def bl_in (f : Nat → Int32) : Prop := ∀ k, k < 6 → 0 ≤ (f k).toInt ∧ (f k).toInt ≤ 16
theorem is_in {x a b : Int32} (h : ¬ FX10_is x a b = 0) : a.toInt ≤ x.toInt ∧ x.toInt ≤ b.toInt := by
  unfold FX10_is at h
  split at h
  · exact absurd rfl h
  · rename_i q
    split at h
    · exact absurd rfl h
    · rename_i q2
      exact ⟨lTn q, lTn q2⟩
def ms_in (st sn fi qu bo : Nat → Int32) (k : Nat) : Prop := 0 ≤ (qu k).toInt ∧ (qu k).toInt ≤ 64 ∧ 0 ≤ (bo k).toInt ∧ (bo k).toInt ≤ 16 ∧ (st k = 2 ∨ st k = 3 → ((sn k - fi k) &&& 255).toInt ≤ (qu k).toInt) ∧ (st k = 4 → ((sn k - fi k) &&& 255).toInt ≤ (qu k).toInt + 1)
theorem mput_len {mF out ol : Nat → Int32} {i0 : Int32} {k : Int} (h : (ol 0).toInt = k) (hk : k < 1000) : ((FX10_put mF out ol i0).2 0).toInt = k + 1 := by
  show (ol 0 + 1).toInt = k + 1
  rw [tI_s (by omega)]; omega
theorem op24 {y3 : Int32} {zol : Nat → Int32} {v : Int32} {lf : Int32 → (Nat → Int32) → (Nat → Int32) → (Nat → Int32) × (Nat → Int32) × (Nat → Int32)} : ∀ (n : Nat) (y4 : Int32) (z : Nat → Int32), (32 - y4.toInt).toNat < n → ∃ z', LX10_open_24 y3 zol v lf n y4 z = lf (y3 + (-1)) z' (upd zol y3.toNatClampNeg v) := by
  intro n
  induction n with
  | zero => intro y4 z h; omega
  | succ n ih =>
    intro y4 z h
    rw [LX10_open_24]
    split
    · exact ⟨z, rfl⟩
    · rename_i hc
      have hc := iTn hc
      rw [k32] at hc
      have h9 := tI_s (a := y4) (by omega)
      exact ih _ _ (by omega)
theorem op3 {mF : Nat → Int32} {i0 i1 : Int32} : ∀ (n : Nat) (y3 : Int32) (z zol : Nat → Int32), 0 ≤ y3.toInt → y3.toInt.toNat < n → ∃ z' zol', LX10_open_3 mF i0 i1 n y3 z zol = KX10_open_78 mF i1 (FX10_put mF z' (upd zol' 0 0) i0) := by
  intro n
  induction n with
  | zero => intro y3 z zol _ h; omega
  | succ n ih =>
    intro y3 z zol h0 h
    rw [LX10_open_3]
    split
    · exact ⟨z, zol, rfl⟩
    · rename_i hc
      have hc := iTn hc
      rw [k0] at hc
      obtain ⟨z', hz⟩ := op24 (y3 := y3) (zol := zol) (v := zol (y3 - 1).toNatClampNeg) (lf := LX10_open_3 mF i0 i1 n) 64 0 z (by decide)
      rw [hz]
      have h9 : (y3 + (-1)).toInt = y3.toInt + -1 := tI_ac (-1) rfl (by omega) (by have := tI_hi y3; omega)
      exact ih _ _ _ (by omega) (by omega)
theorem open_1 {mF out ol : Nat → Int32} {i0 i1 : Int32} : (FX10_open mF out ol i0 i1).1 = upd mF 8 (mF 8 + 1) := by
  obtain ⟨z, zo, h⟩ := op3 (mF := mF) (i0 := i0) (i1 := i1) 128 11 out ol (by decide) (by decide)
  rw [FX10_open, h]
  rfl
theorem open_len {mF out ol : Nat → Int32} {i0 i1 : Int32} : ((FX10_open mF out ol i0 i1).2.2 0).toInt = 3 := by
  obtain ⟨z, zo, h⟩ := op3 (mF := mF) (i0 := i0) (i1 := i1) 128 11 out ol (by decide) (by decide)
  rw [FX10_open, h]
  have h1 : ((FX10_put mF z (upd zo 0 0) i0).2 0).toInt = 0 + 1 := mput_len rfl (by omega)
  have h2 := mput_len (mF := mF) (out := (FX10_put mF z (upd zo 0 0) i0).1) (i0 := 1) h1 (by omega)
  have h3 := mput_len (mF := mF) (out := (FX10_put mF (FX10_put mF z (upd zo 0 0) i0).1 (FX10_put mF z (upd zo 0 0) i0).2 1).1) (i0 := i1) h2 (by omega)
  exact h3.trans (by omega)
theorem dg89_1 {se : Nat → Int32} {i5 i6 : Int32} {u : Nat → Int32} (he : (i5 + i6).toInt = i5.toInt + i6.toInt) : ∀ (n : Nat) (y : Int32) (z zo : Nat → Int32), (i5.toInt + i6.toInt - y.toInt).toNat < n → (LX10_datagram_89 se i5 i6 u n y z zo).1 = u := by
  intro n
  induction n with
  | zero => intro y z zo h; omega
  | succ n ih =>
    intro y z zo h
    rw [LX10_datagram_89]
    split
    · rfl
    · rename_i hc
      have hc := iTn hc
      have := tI_hi (i5 + i6)
      have h9 := tI_s (a := y) (by omega)
      unfold KX10_datagram_107
      exact ih _ _ _ (by omega)
theorem dg23_1 {se : Nat → Int32} {i1 i2 i3 i4 i5 i6 : Int32} {u u2 u3 : Nat → Int32} (he : (i5 + i6).toInt = i5.toInt + i6.toInt) (h6 : i6.toInt < 100) : ∀ (n : Nat) (y y8 : Int32), (i5.toInt + i6.toInt - y.toInt).toNat < n → (LX10_datagram_23 se i1 i2 i3 i4 i5 i6 u u2 u3 n y y8).1 = u := by
  intro n
  induction n with
  | zero => intro y y8 h; omega
  | succ n ih =>
    intro y y8 h
    rw [LX10_datagram_23]
    split
    · unfold KX10_datagram_53 KX10_datagram_58 KX10_datagram_63 KX10_datagram_69 KX10_datagram_75 KX10_datagram_82
      exact dg89_1 he 128 i5 _ _ (by omega)
    · rename_i hc
      have hc := iTn hc
      have := tI_hi (i5 + i6)
      have h9 := tI_s (a := y) (by omega)
      exact ih _ _ (by omega)
theorem dg_1 {mF out ol se : Nat → Int32} {i0 i1 i2 i3 i4 i5 i6 : Int32} (h5 : 0 ≤ i5.toInt) (h6 : 0 ≤ i6.toInt) (h : i5.toInt + i6.toInt ≤ 32) : (FX10_datagram mF out ol se i0 i1 i2 i3 i4 i5 i6).1 = upd mF 8 (mF 8 + 1) := by
  have he : (i5 + i6).toInt = i5.toInt + i6.toInt := tI_add (by omega) (by omega)
  rw [FX10_datagram, KX10_datagram_3, dg23_1 he (by omega) 128 i5 _ (by omega)]
  exact open_1

