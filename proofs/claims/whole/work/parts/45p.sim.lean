-- the simulation: fragments
theorem R_M_up {fG : (Nat → Int32)} {fMs mos mos' : (Nat → Nat → Int32)} {f' m' mF mF' us so di un la si od pr pc us' so' di' un' la' si' pr' pc' : (Nat → Int32)} {K : Nat} (h : R_M fG fMs mos mF us so di un la si od pr pc) (h5 : mF' 5 = mF 5) (h27 : mF' 27 = mF 27) (hK : RM f' m' (us' K) (so' K) (di' K) (un' K) (la' K) (si' K) (pr' K) (mF 5) (fun i => pc' (32 * K + i))) (hj : ∀ j, j ≠ K → us' j = us j ∧ so' j = so j ∧ di' j = di j ∧ un' j = un j ∧ la' j = la j ∧ si' j = si j ∧ pr' j = pr j) (hu : ¬ us' K = 0 → ¬ us K = 0) (hp : ∀ j, (j < 32 * K ∨ 32 * K + 32 ≤ j) → pc' j = pc j) (hm : mos' K = m') (hm2 : ∀ j, j ≠ K → mos' j = mos j) :
    R_M fG (va_up fMs K f') mos' mF' us' so' di' un' la' si' od pr' pc' := by
  obtain ⟨h1, h2, h3, h4, h6⟩ := h
  have hz : ∀ k, ¬ us' k = 0 → ¬ us k = 0 := fun k e => by
    by_cases z : k = K
    · subst z; exact hu e
    · rw [(hj k z).1] at e; exact e
  refine ⟨fun k hk => ?_, h2, fun a b => h3 (hz 0 a) (hz 1 b), fun k hk e => by rw [h27]; exact h4 k hk (hz k e), by rw [h27]; exact h6⟩
  rw [h5]
  by_cases z : k = K
  · subst z
    rw [vu_s, hm]; exact hK
  · obtain ⟨z1, z2, z3, z4, z5, z6, z7⟩ := hj k z
    rw [vu_n z, hm2 k z, z1, z2, z3, z4, z5, z6, z7]
    obtain ⟨b1, b2, b3, b4⟩ := h1 k hk
    exact ⟨b1, b2, fun i hi => by
      show mos k i = pc' (32 * k + i) ∧ oct (pc' (32 * k + i))
      rw [hp _ (by omega)]; exact b3 i hi, b4⟩
theorem put9 {fM fA ao : (Nat → Int32)} {x : Int32} {U4 S : Nat} (hx : x.toInt = U4) (hs : (FX0_size fA).toInt = S) (hb : U4 + S ≤ 32) : ∀ (n : Nat) (y : Int32) (Y : Nat) (z : (Nat → Int32)), y.toInt = Y → Y ≤ S → S - Y < n →
    ∃ f' z', LX1_put_9 fM fA ao x n y z = (f', z') ∧ (∀ j, j ≠ 4 → j ≠ 5 → j ≠ 6 → f' j = fM j) ∧ f' 5 = fM 5 ||| FX0_units fA ao ∧ f' 4 = (if FX0_unit fA ao = 0 then ao 7 else fM 4) ∧ f' 6 = (if FX0_isEnd fA ao = 0 then fM 6 else FX0_reach fA ao) ∧ (∀ i, Y ≤ i → i < S → z' (U4 + i) = ao (9 + i)) ∧ (∀ j, (j < U4 + Y ∨ U4 + S ≤ j) → z' j = z j) := by
  intro n
  induction n with
  | zero => intro y Y z _ _ h; omega
  | succ n ih =>
    intro y Y z hy hY h
    rw [LX1_put_9]
    by_cases q : FX0_size fA ≤ y
    · have q' := iT q
      rw [if_pos q]
      by_cases a : FX0_unit fA ao = 0
      · by_cases b : FX0_isEnd fA ao = 0
        · rw [if_pos a, if_pos b, if_pos a, if_pos b]
          exact ⟨_, z, rfl, fun j j4 j5 _ => by rw [pk_un j4, pk_un j5], rfl, rfl, rfl, fun i c d => by omega, fun _ _ => rfl⟩
        · rw [if_pos a, if_neg b, if_pos a, if_neg b]
          exact ⟨_, z, rfl, fun j j4 j5 j6 => by rw [pk_un j6, pk_un j4, pk_un j5], rfl, rfl, rfl, fun i c d => by omega, fun _ _ => rfl⟩
      · by_cases b : FX0_isEnd fA ao = 0
        · rw [if_neg a, if_pos b, if_neg a, if_pos b]
          exact ⟨_, z, rfl, fun j j4 j5 _ => by rw [pk_un j5], rfl, rfl, rfl, fun i c d => by omega, fun _ _ => rfl⟩
        · rw [if_neg a, if_neg b, if_neg a, if_neg b]
          exact ⟨_, z, rfl, fun j j4 j5 j6 => by rw [pk_un j6, pk_un j5], rfl, rfl, rfl, fun i c d => by omega, fun _ _ => rfl⟩
    · have q' := iTn q
      have h9 := tI_s (a := y) (by omega)
      have e1 : (x + y).toNatClampNeg = U4 + Y := tcE (by rw [tI_add (by omega) (by omega)]; omega)
      have e2 : ((9 : Int32) + y).toNatClampNeg = 9 + Y := tcE (by rw [tI_ca 9 k9 (by omega) (by omega)]; omega)
      rw [if_neg q, e1, e2]
      obtain ⟨f', z', a, b, c, d, e, f, g⟩ := ih (y + 1) (Y + 1) (upd z (U4 + Y) (ao (9 + Y))) (by omega) (by omega) (by omega)
      refine ⟨f', z', a, b, c, d, e, fun i i0 i1 => ?_, fun j hj => by rw [g j (by omega), pk_un (by omega)]⟩
      by_cases v : i = Y
      · subst v
        rw [g _ (Or.inl (by omega)), pk_us]
      · exact f i (by omega) i1
theorem fill19 {fD rb : (Nat → Int32)} {i0 i1 i2 i3 : Int32} {A m : Nat} (h2 : i2.toInt = A) (h3 : i3.toInt = m) (hA : A ≤ 100) (hm : m ≤ 32) : ∀ (n : Nat) (y : Int32) (Y : Nat) (z : (Nat → Int32)), y.toInt = Y → Y ≤ m → m - Y < n →
    ∃ z', LX2_fill_19 fD rb i0 i1 i2 i3 n y z = (upd (upd (upd fD 1 i0) 2 i1) 3 i3, z') ∧ (∀ i, Y ≤ i → i < m → z' i = rb (A + i)) ∧ (∀ i, i < Y → z' i = z i) := by
  intro n
  induction n with
  | zero => intro y Y z _ _ h; omega
  | succ n ih =>
    intro y Y z hy hY h
    rw [LX2_fill_19]
    by_cases q : i3 ≤ y
    · have q' := iT q
      rw [if_pos q]
      exact ⟨z, rfl, fun i c d => by omega, fun _ _ => rfl⟩
    · have q' := iTn q
      have h9 := tI_s (a := y) (by omega)
      have e1 : (i2 + y).toNatClampNeg = A + Y := tcE (by rw [tI_add (by omega) (by omega)]; omega)
      rw [if_neg q, e1, tcE hy]
      obtain ⟨z', a, b, c⟩ := ih (y + 1) (Y + 1) (upd z Y (rb (A + Y))) (by omega) (by omega) (by omega)
      refine ⟨z', a, fun i i0 i1 => ?_, fun i hi => by rw [c i (by omega), pk_un (by omega)]⟩
      by_cases v : i = Y
      · subst v
        rw [c i (by omega), pk_us]
      · exact b i (by omega) i1
theorem fr32 {kn out ol sd st wi pa se fi qd po ne bd bx qu ad ti tr ld an nl nm bl bo ck pr pc u1 u2 u3 u4 u5 u6 u7 u8 : (Nat → Int32)} {i0 i2 i3 i4 r x2 x3 : Int32} : ∀ (m n : Nat) (y : Int32) (Y : Nat) (hi mi : Int32), y.toInt = Y → Y + m = 8 → m < n →
    ∃ (n' : Nat) (y' : Int32), LX10_fragment_32 kn out ol sd st wi pa se fi qd po ne bd bx qu ad ti tr ld an nl nm bl bo ck pr pc i0 i2 i3 i4 r u1 u2 u3 u4 u5 u6 u7 u8 x2 x3 n y hi mi = LX10_fragment_32 kn out ol sd st wi pa se fi qd po ne bd bx qu ad ti tr ld an nl nm bl bo ck pr pc i0 i2 i3 i4 r u1 u2 u3 u4 u5 u6 u7 u8 x2 x3 (n' + 1) y' (hiL (u5 r.toNatClampNeg) m y hi) (mnL x2 x3 m y mi) ∧ y'.toInt = 8 := by
  intro m
  induction m with
  | zero =>
    intro n y Y hi mi hy hm h
    obtain ⟨n', rfl⟩ : ∃ n', n = n' + 1 := ⟨n - 1, by omega⟩
    exact ⟨n', y, rfl, by omega⟩
  | succ m ih =>
    intro n y Y hi mi hy hm h
    obtain ⟨n', rfl⟩ : ∃ n', n = n' + 1 := ⟨n - 1, by omega⟩
    have h9 := tI_s (a := y) (by omega)
    have st : LX10_fragment_32 kn out ol sd st wi pa se fi qd po ne bd bx qu ad ti tr ld an nl nm bl bo ck pr pc i0 i2 i3 i4 r u1 u2 u3 u4 u5 u6 u7 u8 x2 x3 (n' + 1) y hi mi = LX10_fragment_32 kn out ol sd st wi pa se fi qd po ne bd bx qu ad ti tr ld an nl nm bl bo ck pr pc i0 i2 i3 i4 r u1 u2 u3 u4 u5 u6 u7 u8 x2 x3 n' (y + 1) (if ((u5 r.toNatClampNeg >>> (y &&& 31)) &&& 1) = 1 then y else hi) (if x2 ≤ y ∧ 4 * y < x3 then mi ||| (1 <<< (y &&& 31)) else mi) := by
      rw [LX10_fragment_32, if_neg (fun e => by have := iT e; rw [k8] at this; omega)]
      by_cases a : y < x2
      · have a' := lT a
        rw [if_pos a, if_neg (show ¬ (x2 ≤ y ∧ 4 * y < x3) from fun e => by have := iT e.1; omega)]
        by_cases b : ((u5 r.toNatClampNeg >>> (y &&& 31)) &&& 1) = 1
        · rw [if_pos b, if_pos b]
        · rw [if_neg b, if_neg b]
      · have a' := lTn a
        rw [if_neg a]
        by_cases c : x3 ≤ 4 * y
        · have c' := iT c
          rw [if_pos c, if_neg (show ¬ (x2 ≤ y ∧ 4 * y < x3) from fun e => by have := lT e.2; omega)]
          by_cases b : ((u5 r.toNatClampNeg >>> (y &&& 31)) &&& 1) = 1
          · rw [if_pos b, if_pos b]
          · rw [if_neg b, if_neg b]
        · have c' := iTn c
          rw [if_neg c, if_pos (show x2 ≤ y ∧ 4 * y < x3 from ⟨Int32.le_iff_toInt_le.mpr a', Int32.lt_iff_toInt_lt.mpr c'⟩)]
          by_cases b : ((u5 r.toNatClampNeg >>> (y &&& 31)) &&& 1) = 1
          · rw [if_pos b, if_pos b]
          · rw [if_neg b, if_neg b]
    rw [st]
    exact ih n' (y + 1) (Y + 1) _ _ (by omega) (by omega) (by omega)
theorem fr234 {kn out ol sd st wi pa se fi qd po ne bd bx qu ad ti tr ld an nl nm bl bo ck u1 u2 u3 u4 u5 u7 u8 zl zp : (Nat → Int32)} {i0 i4 r x2 v5 : Int32} {K U m : Nat} (hk : r.toInt = K) (hK : K < 2) (hu : x2.toInt = U) (h4 : i4.toInt = m) (hb : 4 * U + m ≤ 32) : ∀ (n : Nat) (y : Int32) (Y : Nat) (z : (Nat → Int32)), y.toInt = Y → Y ≤ m → m - Y < n →
    ∃ (n' : Nat) (y' : Int32) (z' : (Nat → Int32)), LX10_fragment_234 kn out ol sd st wi pa se fi qd po ne bd bx qu ad ti tr ld an nl nm bl bo ck i0 i4 r u1 u2 u3 u4 u5 u7 u8 x2 v5 zl zp n y z = LX10_fragment_234 kn out ol sd st wi pa se fi qd po ne bd bx qu ad ti tr ld an nl nm bl bo ck i0 i4 r u1 u2 u3 u4 u5 u7 u8 x2 v5 zl zp (n' + 1) y' z' ∧ i4 ≤ y' ∧ (∀ i, Y ≤ i → i < m → z' (32 * K + (4 * U + i)) = ld i) ∧ (∀ j, (j < 32 * K + (4 * U + Y) ∨ 32 * K + (4 * U + m) ≤ j) → z' j = z j) := by
  intro n
  induction n with
  | zero => intro y Y z _ _ h; omega
  | succ n ih =>
    intro y Y z hy hY h
    by_cases q : i4 ≤ y
    · have q' := iT q
      exact ⟨n, y, z, rfl, q, fun i c d => by omega, fun _ _ => rfl⟩
    · have q' := iTn q
      have h9 := tI_s (a := y) (by omega)
      have e0 : ((32 : Int32) * r).toInt = ((32 * K : Nat) : Int) := tI_mulN 32 K k32 hk (by omega)
      have e1 : ((4 : Int32) * x2).toInt = ((4 * U : Nat) : Int) := tI_mulN 4 U k4 hu (by omega)
      have e2 : ((32 : Int32) * r + (4 : Int32) * x2).toInt = ((32 * K + 4 * U : Nat) : Int) := by rw [tI_add (by omega) (by omega)]; omega
      have e3 : (((32 : Int32) * r + (4 : Int32) * x2) + y).toNatClampNeg = 32 * K + (4 * U + Y) := tcE (by rw [tI_add (by omega) (by omega)]; omega)
      rw [LX10_fragment_234, if_neg q, e3, tcE hy]
      obtain ⟨n', y', z', a, b, c, d⟩ := ih (y + 1) (Y + 1) (upd z (32 * K + (4 * U + Y)) (ld Y)) (by omega) (by omega) (by omega)
      refine ⟨n', y', z', a, b, fun i i0 i1 => ?_, fun j hj => by rw [d j (by omega), pk_un (by omega)]⟩
      by_cases v : i = Y
      · subst v
        rw [d _ (Or.inl (by omega)), pk_us]
      · exact c i (by omega) i1
theorem fr319 {kn out ol sd st wi pa se fi qd po ne bd bx qu ad ti tr an nl nm bl bo ck u1 u2 u3 u4 u5 u7 u8 zl zp zc : (Nat → Int32)} {i0 r v5 : Int32} {K m : Nat} (hk : r.toInt = K) (hK : K < 2) (hl : (zl K).toInt = m) (hm : m ≤ 32) : ∀ (n : Nat) (y : Int32) (Y : Nat) (z : (Nat → Int32)), y.toInt = Y → Y ≤ m → m - Y < n →
    ∃ z', LX10_fragment_319 kn out ol sd st wi pa se fi qd po ne bd bx qu ad ti tr an nl nm bl bo ck i0 r u1 u2 u3 u4 u5 u7 u8 v5 zl zp zc n y z = KX10_fragment_373 r u2 u3 u4 u5 u7 u8 v5 (FX10_take u1 kn out ol sd st wi pa se fi qd po ne bd bx qu ad ti tr z' an nl nm bl bo ck i0 (zp K) (zl K)) zl zp zc z' ∧ (∀ i, Y ≤ i → i < m → z' i = zc (32 * K + i)) ∧ (∀ i, i < Y → z' i = z i) := by
  have ek : r.toNatClampNeg = K := tcE hk
  intro n
  induction n with
  | zero => intro y Y z _ _ h; omega
  | succ n ih =>
    intro y Y z hy hY h
    rw [LX10_fragment_319, ek]
    by_cases q : zl K ≤ y
    · have q' := iT q
      rw [if_pos q]
      exact ⟨z, rfl, fun i c d => by omega, fun _ _ => rfl⟩
    · have q' := iTn q
      have h9 := tI_s (a := y) (by omega)
      have e1 : (((32 : Int32) * r) + y).toNatClampNeg = 32 * K + Y := tcMA 32 K Y k32 hk hy (by omega) (by omega) (by omega)
      rw [if_neg q, e1, tcE hy]
      obtain ⟨z', a, b, c⟩ := ih (y + 1) (Y + 1) (upd z Y (zc (32 * K + Y))) (by omega) (by omega) (by omega)
      refine ⟨z', a, fun i i0 i1 => ?_, fun i hi => by rw [c i (by omega), pk_un (by omega)]⟩
      by_cases v : i = Y
      · subst v
        rw [c i (by omega), pk_us]
      · exact b i (by omega) i1
theorem shr_q : ∀ j : Nat, j < 256 → ∀ q : Nat, q < 9 → (Int32.ofNat j >>> (Int32.ofNat q &&& 31)) = Int32.ofNat (j / 2 ^ q) := by decide +kernel
theorem upTo_v : ∀ r : Nat, r < 33 → (((1 : Int32) <<< ((((Int32.ofNat r) + (3 : Int32)) / (4 : Int32)) &&& 31)) - (1 : Int32)) = Int32.ofNat (2 ^ ((r + 3) / 4) - 1) := by decide +kernel
theorem cu_bit : ∀ U : Nat, U < 8 → ∀ S : Nat, S < 33 → 4 * U + S ≤ 32 → ¬ (4 * U + S) % 4 = 0 → ((2 ^ ((S + 3) / 4) - 1) * 2 ^ U).testBit ((4 * U + S) / 4) = true := by decide +kernel
theorem cu_lt : ∀ U : Nat, U < 8 → ∀ S : Nat, S < 33 → 4 * U + S ≤ 32 → (2 ^ ((S + 3) / 4) - 1) * 2 ^ U < 2 ^ ((4 * U + S + 3) / 4) ∧ (1 ≤ U → ((2 ^ ((S + 3) / 4) - 1) * 2 ^ U) % 2 = 0) := by decide +kernel
theorem pow_8 : ∀ r : Nat, r < 33 → 2 ^ ((r + 3) / 4) ≤ 256 := by decide +kernel
theorem pow_mono {a b : Nat} (h : a ≤ b) : (2 : Nat) ^ ((a + 3) / 4) ≤ 2 ^ ((b + 3) / 4) := Nat.pow_le_pow_right (by decide) (by omega)
theorem ofN_0 {a : Nat} (h : a < 2147483648) : Int32.ofNat a = 0 ↔ a = 0 := by
  constructor
  · intro e
    have := nI_toInt (n := a) (by omega)
    have e2 : (nI a).toInt = 0 := by rw [show nI a = Int32.ofNat a from rfl, e]; rfl
    omega
  · intro e; rw [e]; rfl
theorem and_N (a b : Nat) (ha : a < 256) (hb : b < 256) : Int32.ofNat a &&& Int32.ofNat b = Int32.ofNat (a &&& b) := by
  apply Int32.toBitVec_inj.mp
  apply BitVec.eq_of_toNat_eq
  have h1 : a &&& b < 256 := Nat.lt_of_le_of_lt Nat.and_le_left ha
  rw [Int32.toBitVec_and, BitVec.toNat_and]
  show (nI a).toBitVec.toNat &&& (nI b).toBitVec.toNat = (nI (a &&& b)).toBitVec.toNat
  rw [pk_tn (by omega), pk_tn (by omega), pk_tn (by omega)]
theorem or_N (a b : Nat) (ha : a < 256) (hb : b < 256) : Int32.ofNat a ||| Int32.ofNat b = Int32.ofNat (a ||| b) := by
  apply Int32.toBitVec_inj.mp
  apply BitVec.eq_of_toNat_eq
  have h1 : a ||| b < 2 ^ 8 := Nat.or_lt_two_pow (n := 8) ha hb
  rw [Int32.toBitVec_or, BitVec.toNat_or]
  show (nI a).toBitVec.toNat ||| (nI b).toBitVec.toNat = (nI (a ||| b)).toBitVec.toNat
  rw [pk_tn (by omega), pk_tn (by omega), pk_tn (by omega)]
theorem bit_lt {j c r : Nat} (h : j < 2 ^ (r + 1)) (h0 : j &&& c = 0) (hc : c.testBit r = true) : j < 2 ^ r := by
  apply Nat.lt_pow_two_of_testBit
  intro i hi
  by_cases e : i = r
  · have : (j &&& c).testBit r = false := by rw [h0]; exact Nat.zero_testBit r
    rw [Nat.testBit_and, hc, Bool.and_true] at this
    rw [e]; exact this
  · exact Nat.testBit_lt_two_pow (Nat.lt_of_lt_of_le h (Nat.pow_le_pow_right (by decide) (by omega)))
theorem odd_or {j c : Nat} (hc : c % 2 = 0) (h : (j ||| c) % 2 = 1) : j % 2 = 1 := by
  have a : (j ||| c).testBit 0 = true := by rw [Nat.testBit_zero]; exact decide_eq_true h
  rw [Nat.testBit_or] at a
  have b : c.testBit 0 = false := by rw [Nat.testBit_zero]; exact decide_eq_false (by omega)
  rw [b, Bool.or_false, Nat.testBit_zero] at a
  exact of_decide_eq_true a

