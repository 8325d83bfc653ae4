theorem go_fq {st fr on : Int32} {q : Int} (hs : st = 1 ∨ st = 2 ∨ st = 3 ∨ st = 4) (h2 : st = 2 ∨ st = 3 → on.toInt ≤ q) (h4 : st = 4 → on.toInt ≤ q + 1) (h : fr.toInt ≤ on.toInt) (hn : ¬ (st = 4 ∧ fr = on)) : st = 1 ∨ fr.toInt ≤ q := by
  rcases hs with e | e | e | e
  · exact Or.inl e
  · exact Or.inr (Int.le_trans h (h2 (Or.inl e)))
  · exact Or.inr (Int.le_trans h (h2 (Or.inr e)))
  · refine Or.inr ?_
    have h5 := h4 e
    have h6 : fr.toInt ≠ on.toInt := fun z => hn ⟨e, Int32.toInt_inj.mp z⟩
    omega
theorem rd87 {i0 : Int32} {zb u1 u2 : Nat → Int32} {v : Int32} {zx : Nat → Int32} {T : Type} {lf : Int32 → (Nat → Int32) → (Nat → Int32) → (Nat → Int32) → (Nat → Int32) → (Nat → Int32) → (Nat → Int32) → (Nat → Int32) × (Nat → Int32) × (Nat → Int32) × (Nat → Int32) × (Nat → Int32) × (Nat → Int32)} (P : (Nat → Int32) × (Nat → Int32) × (Nat → Int32) × (Nat → Int32) × (Nat → Int32) × (Nat → Int32) → Prop)
    (ha : (u1 46).toInt ≤ 18) (hP : ∀ qu zq : Nat → Int32, 0 ≤ (zq i0.toNatClampNeg).toInt → (zq i0.toNatClampNeg).toInt ≤ 64 → P (lf (FX10_line (upd u1 11 (u1 11 + 1)) (upd zb i0.toNatClampNeg v) zx i0) (upd u1 11 (u1 11 + 1)) u2 (upd zb i0.toNatClampNeg v) zx qu zq)) :
    ∀ (n : Nat) (y : Int32) (qu zq : Nat → Int32), (18 - y.toInt).toNat < n → 0 ≤ y.toInt → y.toInt ≤ (u1 46).toInt → 0 ≤ (zq i0.toNatClampNeg).toInt → (zq i0.toNatClampNeg).toInt + ((u1 46).toInt - y.toInt) ≤ 64 → P (LX10_read_87 i0 zb u1 u2 v zx lf n y qu zq) := by
  intro n
  induction n with
  | zero => intro y qu zq h; omega
  | succ n ih =>
    intro y qu zq h h0 h1 h2 h3
    rw [LX10_read_87]
    split
    · exact hP _ _ h2 (by omega)
    · rename_i hc
      have hc := iTn hc
      have h9 := tI_s (a := y) (by omega)
      have h8 := tI_s (a := zq i0.toNatClampNeg) (by omega)
      exact ih _ _ _ (by omega) (by omega) (by omega) (by rw [pk_us]; omega) (by rw [pk_us]; omega)
theorem rd45 {i0 y2 : Int32} {zb qu zq u1 u2 : Nat → Int32} {v : Int32} {lf : Int32 → (Nat → Int32) → (Nat → Int32) → (Nat → Int32) → (Nat → Int32) → (Nat → Int32) → (Nat → Int32) → (Nat → Int32) × (Nat → Int32) × (Nat → Int32) × (Nat → Int32) × (Nat → Int32) × (Nat → Int32)} (P : (Nat → Int32) × (Nat → Int32) × (Nat → Int32) × (Nat → Int32) × (Nat → Int32) × (Nat → Int32) → Prop)
    (hv : v.toInt ≤ 16) (ha0 : 0 ≤ (u1 46).toInt) (ha : (u1 46).toInt ≤ 18) (hq0 : 0 ≤ (zq i0.toNatClampNeg).toInt) (hq1 : (zq i0.toNatClampNeg).toInt + (u1 46).toInt ≤ 64) (hP : ∀ zx qu zq : Nat → Int32, 0 ≤ (zq i0.toNatClampNeg).toInt → (zq i0.toNatClampNeg).toInt ≤ 64 → P (lf (FX10_line (upd u1 11 (u1 11 + 1)) (upd zb i0.toNatClampNeg v) zx i0) (upd u1 11 (u1 11 + 1)) u2 (upd zb i0.toNatClampNeg v) zx qu zq)) :
    ∀ (n : Nat) (y : Int32) (zx : Nat → Int32), (16 - y.toInt).toNat < n → P (LX10_read_45 i0 y2 zb qu zq u1 u2 v lf n y zx) := by
  intro n
  induction n with
  | zero => intro y zx h; omega
  | succ n ih =>
    intro y zx h
    rw [LX10_read_45]
    split
    · exact rd87 (T := Unit) P ha (hP zx) 128 0 _ _ (by decide) (by decide) (by rw [k0]; omega) hq0 (by rw [k0]; omega)
    · rename_i hc
      have hc := iTn hc
      rw [pk_us] at hc
      have h9 := tI_s (a := y) (by omega)
      exact ih _ _ (by omega)
theorem rd6 {nl nm bl bd ck : Nat → Int32} {i0 : Int32} (hb : bl_in bl) : ∀ (n : Nat) (y2 : Int32) (mF an bo bx qu zq : Nat → Int32), 0 ≤ (bo i0.toNatClampNeg).toInt → (bo i0.toNatClampNeg).toInt ≤ 16 → 0 ≤ y2.toInt → y2.toInt ≤ (bo i0.toNatClampNeg).toInt → (bo i0.toNatClampNeg).toInt.toNat < n → 0 ≤ (zq i0.toNatClampNeg).toInt → (zq i0.toNatClampNeg).toInt ≤ 64 →
    0 ≤ ((LX10_read_6 nl nm bl bd ck i0 n y2 mF an bo bx qu zq).2.2.2.2.1 i0.toNatClampNeg).toInt ∧ ((LX10_read_6 nl nm bl bd ck i0 n y2 mF an bo bx qu zq).2.2.2.2.1 i0.toNatClampNeg).toInt ≤ 64 ∧ 0 ≤ ((LX10_read_6 nl nm bl bd ck i0 n y2 mF an bo bx qu zq).2.1 i0.toNatClampNeg).toInt ∧ ((LX10_read_6 nl nm bl bd ck i0 n y2 mF an bo bx qu zq).2.1 i0.toNatClampNeg).toInt ≤ 16 := by
  intro n
  induction n with
  | zero => intro y2 mF an bo bx qu zq _ _ _ _ h; omega
  | succ n ih =>
    intro y2 mF an bo bx qu zq hb0 hb1 hy0 hy1 hn hq0 hq1
    rw [LX10_read_6]
    split
    · exact ⟨hq0, hq1, hb0, hb1⟩
    · rename_i hc
      have hc := iTn hc
      rw [k0] at hc
      obtain ⟨a0, a1⟩ := reply_len (mF := mF) (bx := bx) (an := an) (nl := nl) (nm := nm) (bd := bd) (ck := ck) (i0 := i0) (i1 := y2) hb hy0 (by omega)
      have e := tI_add (a := zq i0.toNatClampNeg) (b := (FX10_reply mF bx an nl nm bl bd ck i0 y2).1 46) (by omega) (by omega)
      have e2 := tI_sub (a := bo i0.toNatClampNeg) (b := y2) (by omega) (by omega)
      unfold KX10_read_13
      split
      · rename_i q
        have q := iT q
        rw [e, k64] at q
        refine rd45 (fun r => 0 ≤ (r.2.2.2.2.1 i0.toNatClampNeg).toInt ∧ (r.2.2.2.2.1 i0.toNatClampNeg).toInt ≤ 64 ∧ 0 ≤ (r.2.1 i0.toNatClampNeg).toInt ∧ (r.2.1 i0.toNatClampNeg).toInt ≤ 16) (by omega) (by omega) a1 hq0 q ?_ 128 0 bx (by decide)
        intro zx qu2 zq2 g0 g1
        have hl := mline_in (mF := upd (FX10_reply mF bx an nl nm bl bd ck i0 y2).1 11 ((FX10_reply mF bx an nl nm bl bd ck i0 y2).1 11 + 1)) (bo := upd bo i0.toNatClampNeg (bo i0.toNatClampNeg - y2)) (bx := zx) (i0 := i0) (by rw [pk_us]; omega)
        exact ih _ _ _ _ _ _ _ (by rw [pk_us]; omega) (by rw [pk_us]; omega) hl.1 hl.2 (by rw [pk_us]; omega) g0 g1
      · exact ⟨hq0, hq1, hb0, hb1⟩
theorem mread_q {mF bo bx an nl nm bl bd ck zq qu : Nat → Int32} {i0 : Int32} (hb : bl_in bl) (h0 : 0 ≤ (bo i0.toNatClampNeg).toInt) (h1 : (bo i0.toNatClampNeg).toInt ≤ 16) (h2 : 0 ≤ (zq i0.toNatClampNeg).toInt) (h3 : (zq i0.toNatClampNeg).toInt ≤ 64) :
    0 ≤ ((FX10_read mF bo bx an nl nm bl bd ck zq qu i0).2.2.2.2.1 i0.toNatClampNeg).toInt ∧ ((FX10_read mF bo bx an nl nm bl bd ck zq qu i0).2.2.2.2.1 i0.toNatClampNeg).toInt ≤ 64 ∧ 0 ≤ ((FX10_read mF bo bx an nl nm bl bd ck zq qu i0).2.1 i0.toNatClampNeg).toInt ∧ ((FX10_read mF bo bx an nl nm bl bd ck zq qu i0).2.1 i0.toNatClampNeg).toInt ≤ 16 := by
  have hl := mline_in (mF := mF) (bx := bx) h0
  unfold FX10_read
  exact rd6 hb 128 _ _ _ _ _ _ _ h0 h1 hl.1 hl.2 (by omega) h2 h3

