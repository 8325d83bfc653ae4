-- what the reference's numbers keep to
def ad_in (f : Nat → Int32) : Prop := ∀ k, 0 ≤ (f k).toInt ∧ (f k).toInt < 16
def nl_in (f : Nat → Int32) : Prop := ∀ k, k < 6 → 0 ≤ (f k).toInt ∧ (f k).toInt ≤ 4
def bl_in (f : Nat → Int32) : Prop := ∀ k, k < 6 → 0 ≤ (f k).toInt ∧ (f k).toInt ≤ 16
theorem is_in {x a b : Int32} (h : ¬ FX10_is x a b = 0) : a.toInt ≤ x.toInt ∧ x.toInt ≤ b.toInt := by
  unfold FX10_is at h
  split at h
  · exact absurd rfl h
  · rename_i q
    split at h
    · exact absurd rfl h
    · rename_i q2
      exact ⟨lTn q, lTn q2⟩
def ms_in (st sn fi qu bo : Nat → Int32) (k : Nat) : Prop := (st k = 1 ∨ st k = 2 ∨ st k = 3 ∨ st k = 4) ∧ 0 ≤ (qu k).toInt ∧ (qu k).toInt ≤ 64 ∧ 0 ≤ (bo k).toInt ∧ (bo k).toInt ≤ 16 ∧ (st k = 2 ∨ st k = 3 → ((sn k - fi k) &&& 255).toInt ≤ (qu k).toInt) ∧ (st k = 4 → ((sn k - fi k) &&& 255).toInt ≤ (qu k).toInt + 1)
theorem mput_len {mF out ol : Nat → Int32} {i0 : Int32} {k : Int} (h : (ol 0).toInt = k) (hk : k < 1000) : ((FX10_put mF out ol i0).2 0).toInt = k + 1 := by
  show (ol 0 + 1).toInt = k + 1
  rw [tI_s (by omega)]; omega
theorem op24 {y3 : Int32} {zol : Nat → Int32} {v : Int32} {lf : Int32 → (Nat → Int32) → (Nat → Int32) → (Nat → Int32) × (Nat → Int32) × (Nat → Int32)} : ∀ (n : Nat) (y4 : Int32) (z : Nat → Int32), (32 - y4.toInt).toNat < n → ∃ z', LX10_open_24 y3 zol v lf n y4 z = lf (y3 + (-1)) z' (upd zol y3.toNatClampNeg v) := by
  intro n
  induction n with
  | zero => intro y4 z h; omega
  | succ n ih =>
    intro y4 z h
    rw [LX10_open_24]
    split
    · exact ⟨z, rfl⟩
    · rename_i hc
      have hc := iTn hc
      rw [k32] at hc
      have h9 := tI_s (a := y4) (by omega)
      exact ih _ _ (by omega)
theorem op3 {mF : Nat → Int32} {i0 i1 : Int32} : ∀ (n : Nat) (y3 : Int32) (z zol : Nat → Int32), 0 ≤ y3.toInt → y3.toInt.toNat < n → ∃ z' zol', LX10_open_3 mF i0 i1 n y3 z zol = KX10_open_78 mF i1 (FX10_put mF z' (upd zol' 0 0) i0) := by
  intro n
  induction n with
  | zero => intro y3 z zol _ h; omega
  | succ n ih =>
    intro y3 z zol h0 h
    rw [LX10_open_3]
    split
    · exact ⟨z, zol, rfl⟩
    · rename_i hc
      have hc := iTn hc
      rw [k0] at hc
      obtain ⟨z', hz⟩ := op24 (y3 := y3) (zol := zol) (v := zol (y3 - 1).toNatClampNeg) (lf := LX10_open_3 mF i0 i1 n) 64 0 z (by decide)
      rw [hz]
      have h9 : (y3 + (-1)).toInt = y3.toInt + -1 := tI_ac (-1) rfl (by omega) (by have := tI_hi y3; omega)
      exact ih _ _ _ (by omega) (by omega)
theorem open_1 {mF out ol : Nat → Int32} {i0 i1 : Int32} : (FX10_open mF out ol i0 i1).1 = upd mF 8 (mF 8 + 1) := by
  obtain ⟨z, zo, h⟩ := op3 (mF := mF) (i0 := i0) (i1 := i1) 128 11 out ol (by decide) (by decide)
  rw [FX10_open, h]
  rfl
theorem open_len {mF out ol : Nat → Int32} {i0 i1 : Int32} : ((FX10_open mF out ol i0 i1).2.2 0).toInt = 3 := by
  obtain ⟨z, zo, h⟩ := op3 (mF := mF) (i0 := i0) (i1 := i1) 128 11 out ol (by decide) (by decide)
  rw [FX10_open, h]
  have h1 : ((FX10_put mF z (upd zo 0 0) i0).2 0).toInt = 0 + 1 := mput_len rfl (by omega)
  have h2 := mput_len (mF := mF) (out := (FX10_put mF z (upd zo 0 0) i0).1) (i0 := 1) h1 (by omega)
  have h3 := mput_len (mF := mF) (out := (FX10_put mF (FX10_put mF z (upd zo 0 0) i0).1 (FX10_put mF z (upd zo 0 0) i0).2 1).1) (i0 := i1) h2 (by omega)
  exact h3.trans (by omega)
theorem dg89_1 {se : Nat → Int32} {i5 i6 : Int32} {u : Nat → Int32} (he : (i5 + i6).toInt = i5.toInt + i6.toInt) : ∀ (n : Nat) (y : Int32) (z zo : Nat → Int32), (i5.toInt + i6.toInt - y.toInt).toNat < n → (LX10_datagram_89 se i5 i6 u n y z zo).1 = u := by
  intro n
  induction n with
  | zero => intro y z zo h; omega
  | succ n ih =>
    intro y z zo h
    rw [LX10_datagram_89]
    split
    · rfl
    · rename_i hc
      have hc := iTn hc
      have := tI_hi (i5 + i6)
      have h9 := tI_s (a := y) (by omega)
      unfold KX10_datagram_107
      exact ih _ _ _ (by omega)
theorem dg23_1 {se : Nat → Int32} {i1 i2 i3 i4 i5 i6 : Int32} {u u2 u3 : Nat → Int32} (he : (i5 + i6).toInt = i5.toInt + i6.toInt) (h6 : i6.toInt < 100) : ∀ (n : Nat) (y y8 : Int32), (i5.toInt + i6.toInt - y.toInt).toNat < n → (LX10_datagram_23 se i1 i2 i3 i4 i5 i6 u u2 u3 n y y8).1 = u := by
  intro n
  induction n with
  | zero => intro y y8 h; omega
  | succ n ih =>
    intro y y8 h
    rw [LX10_datagram_23]
    split
    · unfold KX10_datagram_53 KX10_datagram_58 KX10_datagram_63 KX10_datagram_69 KX10_datagram_75 KX10_datagram_82
      exact dg89_1 he 128 i5 _ _ (by omega)
    · rename_i hc
      have hc := iTn hc
      have := tI_hi (i5 + i6)
      have h9 := tI_s (a := y) (by omega)
      exact ih _ _ (by omega)
theorem dg_1 {mF out ol se : Nat → Int32} {i0 i1 i2 i3 i4 i5 i6 : Int32} (h5 : 0 ≤ i5.toInt) (h6 : 0 ≤ i6.toInt) (h : i5.toInt + i6.toInt ≤ 32) : (FX10_datagram mF out ol se i0 i1 i2 i3 i4 i5 i6).1 = upd mF 8 (mF 8 + 1) := by
  have he : (i5 + i6).toInt = i5.toInt + i6.toInt := tI_add (by omega) (by omega)
  rw [FX10_datagram, KX10_datagram_3, dg23_1 he (by omega) 128 i5 _ (by omega)]
  exact open_1
theorem mline_in2 {bo bx : Nat → Int32} {i0 : Int32} (h0 : 0 ≤ (bo i0.toNatClampNeg).toInt) : ∀ (n : Nat) (y : Int32), 0 ≤ y.toInt → (7 - y.toInt).toNat < n → 0 ≤ (LX10_line_2 bo bx i0 n y).toInt ∧ (LX10_line_2 bo bx i0 n y).toInt ≤ (bo i0.toNatClampNeg).toInt ∧ (LX10_line_2 bo bx i0 n y).toInt ≤ 7 := by
  intro n
  induction n with
  | zero => intro y _ h; omega
  | succ n ih =>
    intro y hy h
    rw [LX10_line_2]
    split
    · split
      · rw [k0]; omega
      · rename_i q
        have q := iTn q
        rw [k6] at q
        rw [k7]; omega
    · rename_i hc
      have hc := iTn hc
      split
      · split
        · rw [k0]; omega
        · rename_i q
          have q := iTn q
          rw [k6] at q
          rw [k7]; omega
      · rename_i h7
        have h7 := iTn h7
        rw [k7] at h7
        have h9 := tI_s (a := y) (by omega)
        split
        · omega
        · exact ih _ (by omega) (by omega)
theorem mline_in {mF bo bx : Nat → Int32} {i0 : Int32} (h0 : 0 ≤ (bo i0.toNatClampNeg).toInt) : 0 ≤ (FX10_line mF bo bx i0).toInt ∧ (FX10_line mF bo bx i0).toInt ≤ (bo i0.toNatClampNeg).toInt := by
  have := mline_in2 (bx := bx) h0 128 0 (by decide) (by decide)
  unfold FX10_line
  omega
def rp_P (q : (Nat → Int32) × (Nat → Int32)) : Prop := 2 ≤ (q.1 46).toInt ∧ (q.1 46).toInt ≤ 18
theorem rp_2 {mF a : Nat → Int32} : rp_P (upd mF 46 2, a) := ⟨by show 2 ≤ (2 : Int32).toInt; decide, by show (2 : Int32).toInt ≤ 18; decide⟩
theorem rp236 {mF bl bd : Nat → Int32} {t : Int32} (h0 : 0 ≤ (bl t.toNatClampNeg).toInt) (h1 : (bl t.toNatClampNeg).toInt ≤ 16) : ∀ (n : Nat) (y : Int32) (z : Nat → Int32), (16 - y.toInt).toNat < n → rp_P (LX10_reply_236 mF bl bd t n y z) := by
  intro n
  induction n with
  | zero => intro y z h; omega
  | succ n ih =>
    intro y z h
    rw [LX10_reply_236]
    split
    · have e : (bl t.toNatClampNeg + 2).toInt = (bl t.toNatClampNeg).toInt + 2 := tI_ac 2 rfl (by omega) (by omega)
      refine ⟨?_, ?_⟩
      · show 2 ≤ (bl t.toNatClampNeg + 2).toInt; omega
      · show (bl t.toNatClampNeg + 2).toInt ≤ 18; omega
    · rename_i hc
      have hc := iTn hc
      have h9 := tI_s (a := y) (by omega)
      exact ih _ _ (by omega)
theorem rp164 {mF an bl bd ck : Nat → Int32} {t : Int32} (h0 : 0 ≤ (bl t.toNatClampNeg).toInt) (h1 : (bl t.toNatClampNeg).toInt ≤ 16) : ∀ (n : Nat) (y z : Int32), (16 - y.toInt).toNat < n → rp_P (LX10_reply_164 mF an bl bd ck t n y z) := by
  intro n
  induction n with
  | zero => intro y z h; omega
  | succ n ih =>
    intro y z h
    rw [LX10_reply_164]
    split
    · split
      · exact rp236 h0 h1 128 0 _ (by decide)
      · exact rp_2
    · rename_i hc
      have hc := iTn hc
      have h9 := tI_s (a := y) (by omega)
      exact ih _ _ (by omega)
theorem rp145 {mF an bl bd ck : Nat → Int32} {t : Int32} (hb : bl_in bl) (h0 : 0 ≤ t.toInt) (h1 : t.toInt ≤ 6) : rp_P (JX10_reply_145 mF an bl bd ck t) := by
  unfold JX10_reply_145
  split
  · exact rp_2
  · rename_i q
    have q := neT (a := 6) q rfl
    obtain ⟨b0, b1⟩ := hb t.toNatClampNeg (by have := tc_n t; omega)
    exact rp164 b0 b1 128 0 0 (by decide)
theorem rp121 {mF bx an nl nm bl bd ck : Nat → Int32} {i0 i1 : Int32} (hb : bl_in bl) : ∀ (n : Nat) (y : Int32), 0 ≤ y.toInt → y.toInt ≤ 6 → (6 - y.toInt).toNat < n → rp_P (LX10_reply_121 mF bx an nl nm bl bd ck i0 i1 n y) := by
  intro n
  induction n with
  | zero => intro y _ _ h; omega
  | succ n ih =>
    intro y h0 h1 h
    rw [LX10_reply_121]
    split
    · exact rp145 hb h0 h1
    · rename_i hc
      have hc := iTn hc
      rw [k6] at hc
      have h9 := tI_s (a := y) (by omega)
      split
      · exact ih _ (by omega) (by omega) (by omega)
      · exact rp145 hb h0 h1
theorem rp89 {mF bx an nl nm bl bd ck : Nat → Int32} {i0 i1 y : Int32} (hb : bl_in bl) : rp_P (JX10_reply_89 mF bx an nl nm bl bd ck i0 i1 y) := by
  unfold JX10_reply_89
  split
  · exact rp_2
  · exact rp121 hb 128 0 (by decide) (by decide) (by decide)
theorem rp51 {mF bx an nl nm bl bd ck : Nat → Int32} {i0 i1 : Int32} (hb : bl_in bl) (hi : 0 ≤ i1.toInt) : ∀ (n : Nat) (y z : Int32), (i1.toInt - y.toInt).toNat < n → rp_P (LX10_reply_51 mF bx an nl nm bl bd ck i0 i1 n y z) := by
  intro n
  induction n with
  | zero => intro y z h; omega
  | succ n ih =>
    intro y z h
    rw [LX10_reply_51]
    split
    · exact rp89 hb
    · rename_i hc
      have hc := iTn hc
      have e : (i1 - 1).toInt = i1.toInt - 1 := tI_sc 1 rfl (by omega) (by have := tI_hi i1; omega)
      have := tI_hi i1
      have h9 := tI_s (a := y) (by omega)
      split
      · exact rp89 hb
      · exact ih _ _ (by omega)
theorem reply_len {mF bx an nl nm bl bd ck : Nat → Int32} {i0 i1 : Int32} (hb : bl_in bl) (hi : 0 ≤ i1.toInt) (h2 : i1.toInt ≤ 16) : 2 ≤ ((FX10_reply mF bx an nl nm bl bd ck i0 i1).1 46).toInt ∧ ((FX10_reply mF bx an nl nm bl bd ck i0 i1).1 46).toInt ≤ 18 := by
  show rp_P (FX10_reply mF bx an nl nm bl bd ck i0 i1)
  unfold FX10_reply JX10_reply_47
  (repeat' split) <;> exact rp51 hb hi 128 1 _ (by rw [k1]; omega)
theorem ad_in_upd {f : Nat → Int32} {k : Nat} {x : Int32} (h : ad_in f) (h0 : 0 ≤ x.toInt) (h1 : x.toInt < 16) : ad_in (upd f k x) := by
  intro j
  unfold upd
  split
  · exact ⟨h0, h1⟩
  · exact h j
theorem is_or {x a b : Int32} : (FX10_is x a b).toInt = 0 ∨ (a.toInt ≤ x.toInt ∧ x.toInt ≤ b.toInt) := by
  by_cases h : FX10_is x a b = 0
  · exact Or.inl (by rw [h]; rfl)
  · exact Or.inr (is_in h)
def ol_in (f : Nat → Int32) : Prop := ∀ k, k < 12 → 0 ≤ (f k).toInt ∧ (f k).toInt ≤ 32
def q_in (f : Nat → Int32) : Prop := ∀ k, (f k).toInt ≤ 64

