-- own small rows: numbers without overflow, places of arrays, references known by their place
theorem vi_c {x : Int32} {n : Nat} (h : ¬ (x < 0 ∨ n ≤ x.toNatClampNeg)) : vp_in x n := h
theorem tI_add {a b : Int32} (h0 : -2147483648 ≤ a.toInt + b.toInt) (h1 : a.toInt + b.toInt < 2147483648) : (a + b).toInt = a.toInt + b.toInt := by
  rw [Int32.toInt_add]; exact Int.bmod_eq_of_le (by omega) (by omega)
theorem tI_sub {a b : Int32} (h0 : -2147483648 ≤ a.toInt - b.toInt) (h1 : a.toInt - b.toInt < 2147483648) : (a - b).toInt = a.toInt - b.toInt := by
  rw [Int32.toInt_sub]; exact Int.bmod_eq_of_le (by omega) (by omega)
theorem tI_mul {a b : Int32} (h0 : -2147483648 ≤ a.toInt * b.toInt) (h1 : a.toInt * b.toInt < 2147483648) : (a * b).toInt = a.toInt * b.toInt := by
  rw [Int32.toInt_mul]; exact Int.bmod_eq_of_le (by omega) (by omega)
theorem tI_s {a : Int32} (h : a.toInt < 2147483647) : (a + 1).toInt = a.toInt + 1 := by
  have h2 : (1 : Int32).toInt = 1 := rfl
  have := Int32.le_toInt a
  rw [tI_add (by omega) (by omega), h2]
theorem tI_ac {a c : Int32} (k : Int) (hc : c.toInt = k) (h0 : -2147483648 ≤ a.toInt + k) (h1 : a.toInt + k < 2147483648) : (a + c).toInt = a.toInt + k := by
  rw [tI_add (by omega) (by omega), hc]
theorem tI_ca {a c : Int32} (k : Int) (hc : c.toInt = k) (h0 : -2147483648 ≤ k + a.toInt) (h1 : k + a.toInt < 2147483648) : (c + a).toInt = k + a.toInt := by
  rw [tI_add (by omega) (by omega), hc]
theorem tI_sc {a c : Int32} (k : Int) (hc : c.toInt = k) (h0 : -2147483648 ≤ a.toInt - k) (h1 : a.toInt - k < 2147483648) : (a - c).toInt = a.toInt - k := by
  rw [tI_sub (by omega) (by omega), hc]
theorem tI_cs {a c : Int32} (k : Int) (hc : c.toInt = k) (h0 : -2147483648 ≤ k - a.toInt) (h1 : k - a.toInt < 2147483648) : (c - a).toInt = k - a.toInt := by
  rw [tI_sub (by omega) (by omega), hc]
theorem tI_cm {a c : Int32} (k : Int) (hc : c.toInt = k) (h0 : -2147483648 ≤ k * a.toInt) (h1 : k * a.toInt < 2147483648) : (c * a).toInt = k * a.toInt := by
  rw [tI_mul (by rw [hc]; exact h0) (by rw [hc]; exact h1), hc]
theorem tI_lo (a : Int32) : -2147483648 ≤ a.toInt := Int32.le_toInt a
theorem tI_hi (a : Int32) : a.toInt < 2147483648 := Int32.toInt_lt a
theorem vi_add {a b : Int32} {n : Nat} (h0 : 0 ≤ a.toInt + b.toInt) (h1 : a.toInt + b.toInt < n) (hn : n ≤ 2147483648) : vp_in (a + b) n :=
  vp_in_iff.mpr (by rw [tI_add (by omega) (by omega)]; omega)
theorem vi_addl {a b : Int32} {n : Nat} (k : Int) (hk : a.toInt = k) (h0 : 0 ≤ k + b.toInt) (h1 : k + b.toInt < n) (hn : n ≤ 2147483648) : vp_in (a + b) n :=
  vi_add (by omega) (by omega) hn
theorem vi_subr {a b : Int32} {n : Nat} (k : Int) (hk : b.toInt = k) (h0 : 0 ≤ a.toInt - k) (h1 : a.toInt - k < n) (hn : n ≤ 2147483648) : vp_in (a - b) n :=
  vp_in_iff.mpr (by rw [tI_sub (by omega) (by omega)]; omega)
theorem neT {x b : Int32} (h : ¬ x = b) {a : Int} (hb : b.toInt = a) : x.toInt ≠ a := fun q => h (Int32.toInt_inj.mp (by rw [q, hb]))
theorem sp_of {x : Int32} {k : Nat} (h : x.toInt = k) (c : Int32) (hc : c.toInt = k) : x = c := Int32.toInt_inj.mp (by rw [h, hc])
theorem sp2 {x : Int32} (h0 : 0 ≤ x.toInt) (h1 : x.toInt < 2) : x = 0 ∨ x = 1 := by
  rcases (show x.toInt = (0 : Nat) ∨ x.toInt = (1 : Nat) by omega) with h | h
  · exact Or.inl (sp_of h 0 rfl)
  · exact Or.inr (sp_of h 1 rfl)
theorem sp3 {x : Int32} (h0 : 0 ≤ x.toInt) (h1 : x.toInt < 3) : x = 0 ∨ x = 1 ∨ x = 2 := by
  rcases (show x.toInt = (0 : Nat) ∨ x.toInt = (1 : Nat) ∨ x.toInt = (2 : Nat) by omega) with h | h | h
  · exact Or.inl (sp_of h 0 rfl)
  · exact Or.inr (Or.inl (sp_of h 1 rfl))
  · exact Or.inr (Or.inr (sp_of h 2 rfl))
theorem sp6 {x : Int32} (h0 : 0 ≤ x.toInt) (h1 : x.toInt < 6) : x = 0 ∨ x = 1 ∨ x = 2 ∨ x = 3 ∨ x = 4 ∨ x = 5 := by
  rcases (show x.toInt = (0 : Nat) ∨ x.toInt = (1 : Nat) ∨ x.toInt = (2 : Nat) ∨ x.toInt = (3 : Nat) ∨ x.toInt = (4 : Nat) ∨ x.toInt = (5 : Nat) by omega) with h | h | h | h | h | h
  · exact Or.inl (sp_of h 0 rfl)
  · exact Or.inr (Or.inl (sp_of h 1 rfl))
  · exact Or.inr (Or.inr (Or.inl (sp_of h 2 rfl)))
  · exact Or.inr (Or.inr (Or.inr (Or.inl (sp_of h 3 rfl))))
  · exact Or.inr (Or.inr (Or.inr (Or.inr (Or.inl (sp_of h 4 rfl)))))
  · exact Or.inr (Or.inr (Or.inr (Or.inr (Or.inr (sp_of h 5 rfl)))))
theorem sp12N {x : Nat} (h : x < 12) : x = 0 ∨ x = 1 ∨ x = 2 ∨ x = 3 ∨ x = 4 ∨ x = 5 ∨ x = 6 ∨ x = 7 ∨ x = 8 ∨ x = 9 ∨ x = 10 ∨ x = 11 := by omega
theorem sp6N {x : Nat} (h : x < 6) : x = 0 ∨ x = 1 ∨ x = 2 ∨ x = 3 ∨ x = 4 ∨ x = 5 := by omega
theorem sp3N {x : Nat} (h : x < 3) : x = 0 ∨ x = 1 ∨ x = 2 := by omega
theorem sp12 {x : Int32} (h0 : 0 ≤ x.toInt) (h1 : x.toInt < 12) : x = 0 ∨ x = 1 ∨ x = 2 ∨ x = 3 ∨ x = 4 ∨ x = 5 ∨ x = 6 ∨ x = 7 ∨ x = 8 ∨ x = 9 ∨ x = 10 ∨ x = 11 := by
  rcases sp12N (x := x.toInt.toNat) (by omega) with h | h | h | h | h | h | h | h | h | h | h | h
  · exact Or.inl (sp_of (k := 0) (by omega) 0 rfl)
  · exact Or.inr (Or.inl (sp_of (k := 1) (by omega) 1 rfl))
  · exact Or.inr (Or.inr (Or.inl (sp_of (k := 2) (by omega) 2 rfl)))
  · exact Or.inr (Or.inr (Or.inr (Or.inl (sp_of (k := 3) (by omega) 3 rfl))))
  · exact Or.inr (Or.inr (Or.inr (Or.inr (Or.inl (sp_of (k := 4) (by omega) 4 rfl)))))
  · exact Or.inr (Or.inr (Or.inr (Or.inr (Or.inr (Or.inl (sp_of (k := 5) (by omega) 5 rfl))))))
  · exact Or.inr (Or.inr (Or.inr (Or.inr (Or.inr (Or.inr (Or.inl (sp_of (k := 6) (by omega) 6 rfl)))))))
  · exact Or.inr (Or.inr (Or.inr (Or.inr (Or.inr (Or.inr (Or.inr (Or.inl (sp_of (k := 7) (by omega) 7 rfl))))))))
  · exact Or.inr (Or.inr (Or.inr (Or.inr (Or.inr (Or.inr (Or.inr (Or.inr (Or.inl (sp_of (k := 8) (by omega) 8 rfl)))))))))
  · exact Or.inr (Or.inr (Or.inr (Or.inr (Or.inr (Or.inr (Or.inr (Or.inr (Or.inr (Or.inl (sp_of (k := 9) (by omega) 9 rfl))))))))))
  · exact Or.inr (Or.inr (Or.inr (Or.inr (Or.inr (Or.inr (Or.inr (Or.inr (Or.inr (Or.inr (Or.inl (sp_of (k := 10) (by omega) 10 rfl)))))))))))
  · exact Or.inr (Or.inr (Or.inr (Or.inr (Or.inr (Or.inr (Or.inr (Or.inr (Or.inr (Or.inr (Or.inr (sp_of (k := 11) (by omega) 11 rfl)))))))))))
theorem tc0 : (0 : Int32).toNatClampNeg = 0 := rfl
theorem tc1 : (1 : Int32).toNatClampNeg = 1 := rfl
theorem tc2 : (2 : Int32).toNatClampNeg = 2 := rfl
theorem tc3 : (3 : Int32).toNatClampNeg = 3 := rfl
theorem tc4 : (4 : Int32).toNatClampNeg = 4 := rfl
theorem tc5 : (5 : Int32).toNatClampNeg = 5 := rfl
theorem tc6 : (6 : Int32).toNatClampNeg = 6 := rfl
theorem tc7 : (7 : Int32).toNatClampNeg = 7 := rfl
theorem tc8 : (8 : Int32).toNatClampNeg = 8 := rfl
theorem tc9 : (9 : Int32).toNatClampNeg = 9 := rfl
theorem tc10 : (10 : Int32).toNatClampNeg = 10 := rfl
theorem tc11 : (11 : Int32).toNatClampNeg = 11 := rfl
theorem tc_n (x : Int32) : (x.toNatClampNeg : Int) = if 0 ≤ x.toInt then x.toInt else 0 := by
  rw [← Int32.toNat_toInt]; split <;> omega
def vr2 (a b : Nat) : Nat → Option Nat
  | 0 => some a
  | 1 => some b
  | _ + 2 => none
def vr3 (a b c : Nat) : Nat → Option Nat
  | 0 => some a
  | 1 => some b
  | 2 => some c
  | _ + 3 => none
def vr6 (a b c d e f : Nat) : Nat → Option Nat
  | 0 => some a
  | 1 => some b
  | 2 => some c
  | 3 => some d
  | 4 => some e
  | 5 => some f
  | _ + 6 => none
def vr12 (a b c d e f g h i j k l : Nat) : Nat → Option Nat
  | 0 => some a
  | 1 => some b
  | 2 => some c
  | 3 => some d
  | 4 => some e
  | 5 => some f
  | 6 => some g
  | 7 => some h
  | 8 => some i
  | 9 => some j
  | 10 => some k
  | 11 => some l
  | _ + 12 => none
theorem vr3_n {a b c n : Nat} (h : ¬ n < 3) : vr3 a b c n = none := by
  obtain ⟨k, rfl⟩ : ∃ k, n = k + 3 := ⟨n - 3, by omega⟩
  rfl
theorem vr6_n {a b c d e f n : Nat} (h : ¬ n < 6) : vr6 a b c d e f n = none := by
  obtain ⟨k, rfl⟩ : ∃ k, n = k + 6 := ⟨n - 6, by omega⟩
  rfl
section OWN1
variable {p : Program} {l : Launch} {e : Env} {R : Room} {s : State} {m : MethodId} {args : Array Value} {below : List Frame} {meth : Method} {c : Code} {H : Heap} {locs : List Loc} {cells slots : Nat} {Q : State → Prop}
variable {cc : ByteArray} {pc : Nat} {ls : Array Slot} {rest : List Value} {D : va_G} {cl : List vw_C} {a : Nat} {tys : List (ClassId × FieldType)} {ws : va_W}
theorem va_aldr (hexec : p.tables.exec = Jvm.exec) (hb : c.code = cc) (hK : va_K D cl tys s) (hP : va_P D cl ws H) (q0 t0 : Nat) {cA : ClassId} {ty : FieldType} {n : Nat} {f : Nat → Option Nat} (ha : ws[q0]? = some (a, .inl (cA, n, .inr (.inr (.inr (.inr f)))))) (ht : tys[t0]? = some (cA, ty)) (hty : ty.isReference = true) {i : Int32} (hin : vp_in i n) {b : Nat} (hv : f i.toNatClampNeg = some b) (hdg : decode cc pc = .ok (.aaload, 1))
    (kk : W p l e R s m args below meth c H locs cells slots Q (F0 m (pc + 1) ls (.ref b :: rest))) : W p l e R s m args below meth c H locs cells slots Q (F0 m pc ls (.int i :: .ref a :: rest)) := by
  have hlt : i.toNatClampNeg < n := Nat.not_le.mp fun q => hin (Or.inr q)
  exact W.aald (v := .ref b) (ty := ty) hexec hb (hP q0 _ ha) ((hK.2 t0 _ ht).1 n (fun j => va_rf (f j))) hty (fun q => by cases q) (by show ¬ (i < 0 ∨ (arrV _ _ _).slots.size ≤ _); rw [arrV_size]; exact hin) (by show (arrV _ _ _).slots[_]? = _; rw [arrV_read _ _ hlt, hv]; rfl) rfl rfl hdg kk
end OWN1
def mn (x y : Int32) : Int32 := if y < x then y else x
def mx (x y : Int32) : Int32 := if x < y then y else x
theorem mn_i (x y : Int32) : (mn x y).toInt = min x.toInt y.toInt := by
  unfold mn
  split
  · rename_i h
    have h := Int32.lt_iff_toInt_lt.mp h
    omega
  · rename_i h
    have h : ¬ y.toInt < x.toInt := fun q => h (Int32.lt_iff_toInt_lt.mpr q)
    omega
theorem mx_i (x y : Int32) : (mx x y).toInt = max x.toInt y.toInt := by
  unfold mx
  split
  · rename_i h
    have h := Int32.lt_iff_toInt_lt.mp h
    omega
  · rename_i h
    have h : ¬ x.toInt < y.toInt := fun q => h (Int32.lt_iff_toInt_lt.mpr q)
    omega
theorem and_in (x : Int32) {m : Int32} (k : Nat) (hm : m.toBitVec.toNat = 2 ^ k - 1) (N : Nat) (hN : 2 ^ k = N) (hb : N < 2147483648) : 0 ≤ (x &&& m).toInt ∧ (x &&& m).toInt < N := by
  obtain ⟨j, hj, e⟩ := pk_andE x k hm
  rw [hN] at hj
  rw [e, nI_toInt (by omega)]
  omega
theorem and255 (x : Int32) : 0 ≤ (x &&& 255).toInt ∧ (x &&& 255).toInt < 256 := and_in x 8 rfl 256 rfl (by decide)
theorem and127 (x : Int32) : 0 ≤ (x &&& 127).toInt ∧ (x &&& 127).toInt < 128 := and_in x 7 rfl 128 rfl (by decide)
theorem k0 : (0 : Int32).toInt = 0 := rfl
theorem k1 : (1 : Int32).toInt = 1 := rfl
theorem k2 : (2 : Int32).toInt = 2 := rfl
theorem k3 : (3 : Int32).toInt = 3 := rfl
theorem k4 : (4 : Int32).toInt = 4 := rfl
theorem k5 : (5 : Int32).toInt = 5 := rfl
theorem k6 : (6 : Int32).toInt = 6 := rfl
theorem k7 : (7 : Int32).toInt = 7 := rfl
theorem k8 : (8 : Int32).toInt = 8 := rfl
theorem k9 : (9 : Int32).toInt = 9 := rfl
theorem k10 : (10 : Int32).toInt = 10 := rfl
theorem k12 : (12 : Int32).toInt = 12 := rfl
theorem k13 : (13 : Int32).toInt = 13 := rfl
theorem k15 : (15 : Int32).toInt = 15 := rfl
theorem k16 : (16 : Int32).toInt = 16 := rfl
theorem k17 : (17 : Int32).toInt = 17 := rfl
theorem k18 : (18 : Int32).toInt = 18 := rfl
theorem k32 : (32 : Int32).toInt = 32 := rfl
theorem k41 : (41 : Int32).toInt = 41 := rfl
theorem k44 : (44 : Int32).toInt = 44 := rfl
theorem k64 : (64 : Int32).toInt = 64 := rfl
theorem k127 : (127 : Int32).toInt = 127 := rfl
theorem k128 : (128 : Int32).toInt = 128 := rfl
theorem k255 : (255 : Int32).toInt = 255 := rfl
theorem km1 : (-1 : Int32).toInt = -1 := rfl
theorem iT {a b : Int32} (h : a ≤ b) : a.toInt ≤ b.toInt := Int32.le_iff_toInt_le.mp h
theorem iTn {a b : Int32} (h : ¬ a ≤ b) : b.toInt < a.toInt := by
  have : ¬ a.toInt ≤ b.toInt := fun q => h (Int32.le_iff_toInt_le.mpr q)
  omega
theorem lT {a b : Int32} (h : a < b) : a.toInt < b.toInt := Int32.lt_iff_toInt_lt.mp h
theorem lTn {a b : Int32} (h : ¬ a < b) : b.toInt ≤ a.toInt := by
  have : ¬ a.toInt < b.toInt := fun q => h (Int32.lt_iff_toInt_lt.mpr q)
  omega

