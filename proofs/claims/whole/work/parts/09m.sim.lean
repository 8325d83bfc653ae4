-- the simulation: assemblies
theorem asm_new {fG : (Nat → Int32)} {fMs mos : (Nat → Nat → Int32)} {mF us so di un la si od pr pc : (Nat → Int32)} (h : R_M fG fMs mos mF us so di un la si od pr pc) {k i0 i1 : Int32} {K : Nat} (hk : k.toInt = K) (hK : K < 2) (a0 : 0 ≤ i0.toInt) (a1 : i0.toInt < 16) (hN : (mF 27).toInt < 2000000000) :
    R_M (upd fG 1 k) (va_up fMs K (FX1_begin (fMs K) i0 i1)) mos (upd mF 27 (mF 27 + 1)) (upd us K 1) (upd so K i0) (upd di K i1) (upd un K 0) (upd la K (-1)) (upd si K (mF 5)) (upd od K (mF 27)) pr pc := by
  obtain ⟨h1, h2, h3, h4, h5⟩ := h
  have e27 := tI_s (a := mF 27) (by omega)
  have ez : mF 5 - mF 5 = 0 := Int32.sub_self _
  refine ⟨fun j hj => ?_, ?_, fun u0 u1 => ?_, fun j hj hu => ?_, ?_⟩
  · by_cases e : j = K
    · subst e
      rw [vu_s, pk_us, pk_us, pk_us, pk_us, pk_us, pk_us]
      show RM _ _ _ _ _ _ _ _ _ (mF 5) _
      obtain ⟨b1, b2, b3, b4⟩ := h1 j hj
      refine ⟨rfl, Or.inr rfl, b3, fun _ => ⟨rfl, ⟨a0, a1⟩, rfl, rfl, by unfold oct; decide, rfl, Or.inl rfl, ?_, ?_, fun q => absurd q (by decide)⟩⟩
      · rw [ez]; rfl
      · rw [ez]; decide
    · rw [vu_n e, pk_un e, pk_un e, pk_un e, pk_un e, pk_un e, pk_un e]
      exact h1 j hj
  · show k = 0 ∨ k = 1
    exact sp2 (by omega) (by omega)
  · show (k = 1 → _) ∧ (k = 0 → _)
    refine ⟨fun e => ?_, fun e => ?_⟩
    · obtain rfl : K = 1 := by rw [e, k1] at hk; omega
      rw [pk_us, pk_un (by decide)]
      exact h4 0 (by omega) (by rw [pk_un (by decide)] at u0; exact u0)
    · obtain rfl : K = 0 := by rw [e, k0] at hk; omega
      rw [pk_us, pk_un (by decide)]
      exact h4 1 (by omega) (by rw [pk_un (by decide)] at u1; exact u1)
  · show _ < (mF 27 + 1).toInt
    by_cases e : j = K
    · rw [e, pk_us]; omega
    · rw [pk_un e]
      rw [pk_un e] at hu
      have := h4 j hj hu
      omega
  · show 0 ≤ (mF 27 + 1).toInt
    omega
theorem sim_place {fG : (Nat → Int32)} {fMs mos : (Nat → Nat → Int32)} {fA ao mF us so di un la si od pr pc : (Nat → Int32)} (h : R_M fG fMs mos mF us so di un la si od pr pc) (a0 : 0 ≤ (ao 3).toInt) (a1 : (ao 3).toInt < 16) (hN : (mF 27).toInt < 2000000000) :
    ∃ (k : Int32) (K : Nat) (P2 : (Nat → Int32)) (P3 : (Nat → Nat → Int32)) (A2 A3 A4 A5 A6 A7 A8 A9 : (Nat → Int32)), FX3_placeFor fG fMs fA ao = (k, P2, P3) ∧ FX10_assemblyOf mF us so di un la si od (ao 3) (ao 5) = (k, A2, A3, A4, A5, A6, A7, A8, A9) ∧ k.toInt = K ∧ K < 2 ∧ R_M P2 P3 mos A2 A3 A4 A5 A6 A7 A8 A9 pr pc ∧ ¬ A3 K = 0 ∧ A4 K = ao 3 ∧ (∀ j, j ≠ 27 → A2 j = mF j) ∧ (A2 27).toInt ≤ (mF 27).toInt + 1 := by
  obtain ⟨h1, h2, h3, h4, h5⟩ := id h
  obtain ⟨s01, s02, s03, s04⟩ := h1 0 (by omega)
  obtain ⟨s11, s12, s13, s14⟩ := h1 1 (by omega)
  have e27 := tI_s (a := mF 27) (by omega)
  have of0 : FX1_isOf (fMs 0) fA ao = if us 0 = 0 then 0 else if so 0 = ao 3 then (if di 0 = ao 5 then 1 else 0) else 0 := by
    unfold FX1_isOf
    rw [s01]
    by_cases z : us 0 = 0
    · rw [if_pos z, if_pos z]
    · obtain ⟨b1, _, b3, _⟩ := s04 z
      rw [if_neg z, if_neg z, b1, b3]
  have of1 : FX1_isOf (fMs 1) fA ao = if us 1 = 0 then 0 else if so 1 = ao 3 then (if di 1 = ao 5 then 1 else 0) else 0 := by
    unfold FX1_isOf
    rw [s11]
    by_cases z : us 1 = 0
    · rw [if_pos z, if_pos z]
    · obtain ⟨b1, _, b3, _⟩ := s14 z
      rw [if_neg z, if_neg z, b1, b3]
  have neu : ∀ (k : Int32) (K : Nat), k.toInt = K → K < 2 → FX3_placeFor fG fMs fA ao = (k, upd fG 1 k, va_up fMs K (FX1_begin (fMs K) (ao 3) (ao 5))) → FX10_assemblyOf mF us so di un la si od (ao 3) (ao 5) = JX10_assemblyOf_86 mF us so di un la si od (ao 3) (ao 5) k → ∃ (k : Int32) (K : Nat) (P2 : (Nat → Int32)) (P3 : (Nat → Nat → Int32)) (A2 A3 A4 A5 A6 A7 A8 A9 : (Nat → Int32)), FX3_placeFor fG fMs fA ao = (k, P2, P3) ∧ FX10_assemblyOf mF us so di un la si od (ao 3) (ao 5) = (k, A2, A3, A4, A5, A6, A7, A8, A9) ∧ k.toInt = K ∧ K < 2 ∧ R_M P2 P3 mos A2 A3 A4 A5 A6 A7 A8 A9 pr pc ∧ ¬ A3 K = 0 ∧ A4 K = ao 3 ∧ (∀ j, j ≠ 27 → A2 j = mF j) ∧ (A2 27).toInt ≤ (mF 27).toInt + 1 := by
    intro k K hk hK e1 e2
    unfold JX10_assemblyOf_86 at e2
    rw [tcE hk] at e2
    exact ⟨k, K, _, _, _, _, _, _, _, _, _, _, e1, e2, hk, hK, asm_new h hk hK a0 a1 hN, by rw [pk_us]; decide, pk_us, fun j hj => pk_un hj, by rw [pk_us]; omega⟩
  have old : ∀ (k : Int32) (K : Nat), k.toInt = K → K < 2 → ¬ us K = 0 → so K = ao 3 → FX3_placeFor fG fMs fA ao = (k, fG, fMs) → FX10_assemblyOf mF us so di un la si od (ao 3) (ao 5) = (k, mF, us, so, di, un, la, si, od) → ∃ (k : Int32) (K : Nat) (P2 : (Nat → Int32)) (P3 : (Nat → Nat → Int32)) (A2 A3 A4 A5 A6 A7 A8 A9 : (Nat → Int32)), FX3_placeFor fG fMs fA ao = (k, P2, P3) ∧ FX10_assemblyOf mF us so di un la si od (ao 3) (ao 5) = (k, A2, A3, A4, A5, A6, A7, A8, A9) ∧ k.toInt = K ∧ K < 2 ∧ R_M P2 P3 mos A2 A3 A4 A5 A6 A7 A8 A9 pr pc ∧ ¬ A3 K = 0 ∧ A4 K = ao 3 ∧ (∀ j, j ≠ 27 → A2 j = mF j) ∧ (A2 27).toInt ≤ (mF 27).toInt + 1 := by
    intro k K hk hK hu hs e1 e2
    exact ⟨k, K, _, _, _, _, _, _, _, _, _, _, e1, e2, hk, hK, h, hu, hs, fun _ _ => rfl, by omega⟩
  -- the reference, step by step
  have r2 : LX10_assemblyOf_2 mF us so di un la si od (ao 3) (ao 5) 126 (0 + 1 + 1) = (if us 0 = 0 then JX10_assemblyOf_86 mF us so di un la si od (ao 3) (ao 5) 0 else if us 1 = 0 then JX10_assemblyOf_86 mF us so di un la si od (ao 3) (ao 5) 1 else if od 0 ≤ od 1 then JX10_assemblyOf_86 mF us so di un la si od (ao 3) (ao 5) 0 else JX10_assemblyOf_86 mF us so di un la si od (ao 3) (ao 5) 1) := by
    rw [LX10_assemblyOf_2, if_pos (show (2 : Int32) ≤ 0 + 1 + 1 by decide)]
  have r1 : LX10_assemblyOf_2 mF us so di un la si od (ao 3) (ao 5) 127 (0 + 1) = (if us 1 = 0 then LX10_assemblyOf_2 mF us so di un la si od (ao 3) (ao 5) 126 (0 + 1 + 1) else if so 1 = ao 3 then (if di 1 = ao 5 then (0 + 1, mF, us, so, di, un, la, si, od) else LX10_assemblyOf_2 mF us so di un la si od (ao 3) (ao 5) 126 (0 + 1 + 1)) else LX10_assemblyOf_2 mF us so di un la si od (ao 3) (ao 5) 126 (0 + 1 + 1)) := by
    rw [LX10_assemblyOf_2, if_neg (show ¬ (2 : Int32) ≤ 0 + 1 by decide)]
    rfl
  have r0 : FX10_assemblyOf mF us so di un la si od (ao 3) (ao 5) = (if us 0 = 0 then LX10_assemblyOf_2 mF us so di un la si od (ao 3) (ao 5) 127 (0 + 1) else if so 0 = ao 3 then (if di 0 = ao 5 then (0, mF, us, so, di, un, la, si, od) else LX10_assemblyOf_2 mF us so di un la si od (ao 3) (ao 5) 127 (0 + 1)) else LX10_assemblyOf_2 mF us so di un la si od (ao 3) (ao 5) 127 (0 + 1)) := by
    rw [FX10_assemblyOf, LX10_assemblyOf_2, if_neg (show ¬ (2 : Int32) ≤ 0 by decide)]
    rfl
  by_cases p0 : ¬ us 0 = 0 ∧ so 0 = ao 3 ∧ di 0 = ao 5
  · refine old 0 0 rfl (by omega) p0.1 p0.2.1 ?_ ?_
    · unfold FX3_placeFor
      rw [of0, if_neg p0.1, if_pos p0.2.1, if_pos p0.2.2, if_neg (show ¬ (1 : Int32) = 0 by decide)]
    · rw [r0, if_neg p0.1, if_pos p0.2.1, if_pos p0.2.2]
  · have of0' : FX1_isOf (fMs 0) fA ao = 0 := by
      rw [of0]
      by_cases z : us 0 = 0
      · rw [if_pos z]
      · rw [if_neg z]
        by_cases z2 : so 0 = ao 3
        · rw [if_pos z2, if_neg (fun z3 => p0 ⟨z, z2, z3⟩)]
        · rw [if_neg z2]
    have r0' : FX10_assemblyOf mF us so di un la si od (ao 3) (ao 5) = LX10_assemblyOf_2 mF us so di un la si od (ao 3) (ao 5) 127 (0 + 1) := by
      rw [r0]
      by_cases z : us 0 = 0
      · rw [if_pos z]
      · rw [if_neg z]
        by_cases z2 : so 0 = ao 3
        · rw [if_pos z2, if_neg (fun z3 => p0 ⟨z, z2, z3⟩)]
        · rw [if_neg z2]
    by_cases p1 : ¬ us 1 = 0 ∧ so 1 = ao 3 ∧ di 1 = ao 5
    · refine old (0 + 1) 1 rfl (by omega) p1.1 p1.2.1 ?_ ?_
      · unfold FX3_placeFor
        rw [if_pos of0', of1, if_neg p1.1, if_pos p1.2.1, if_pos p1.2.2, if_neg (show ¬ (1 : Int32) = 0 by decide)]
        rfl
      · rw [r0', r1, if_neg p1.1, if_pos p1.2.1, if_pos p1.2.2]
    · have of1' : FX1_isOf (fMs 1) fA ao = 0 := by
        rw [of1]
        by_cases z : us 1 = 0
        · rw [if_pos z]
        · rw [if_neg z]
          by_cases z2 : so 1 = ao 3
          · rw [if_pos z2, if_neg (fun z3 => p1 ⟨z, z2, z3⟩)]
          · rw [if_neg z2]
      have r1' : LX10_assemblyOf_2 mF us so di un la si od (ao 3) (ao 5) 127 (0 + 1) = LX10_assemblyOf_2 mF us so di un la si od (ao 3) (ao 5) 126 (0 + 1 + 1) := by
        rw [r1]
        by_cases z : us 1 = 0
        · rw [if_pos z]
        · rw [if_neg z]
          by_cases z2 : so 1 = ao 3
          · rw [if_pos z2, if_neg (fun z3 => p1 ⟨z, z2, z3⟩)]
          · rw [if_neg z2]
      have ra := r0'.trans (r1'.trans r2)
      have cl : FX3_placeFor fG fMs fA ao = (if us 1 = 0 then (if us 0 = 0 then KX3_placeFor_79d fG fMs (FX1_begin (fMs 0) (ao 3) (ao 5)) else KX3_placeFor_79c fG fMs (FX1_begin (fMs 1) (ao 3) (ao 5))) else (if us 0 = 0 then KX3_placeFor_79b fG fMs (FX1_begin (fMs 0) (ao 3) (ao 5)) else KX3_placeFor_79 fG fMs ((1 : Int32) - (fG 1)) (FX1_begin (fMs ((1 : Int32) - (fG 1)).toNatClampNeg) (ao 3) (ao 5)))) := by
        unfold FX3_placeFor
        rw [if_pos of0', if_pos of1', s01, s11]
      by_cases z0 : us 0 = 0
      · rw [if_pos z0] at ra
        refine neu 0 0 rfl (by omega) ?_ ra
        rw [cl]
        by_cases z1 : us 1 = 0
        · rw [if_pos z1, if_pos z0]; rfl
        · rw [if_neg z1, if_pos z0]; rfl
      · rw [if_neg z0] at ra
        by_cases z1 : us 1 = 0
        · rw [if_pos z1] at ra
          refine neu 1 1 rfl (by omega) ?_ ra
          rw [cl, if_pos z1, if_neg z0]; rfl
        · rw [if_neg z1] at ra
          rw [if_neg z1, if_neg z0] at cl
          obtain ⟨g1, g0⟩ := h3 z0 z1
          rcases h2 with q | q
          · have := g0 q
            rw [if_neg (show ¬ od 0 ≤ od 1 from fun e => by have := iT e; omega)] at ra
            refine neu 1 1 rfl (by omega) ?_ ra
            rw [cl, q]; rfl
          · have := g1 q
            rw [if_pos (show od 0 ≤ od 1 from Int32.le_iff_toInt_le.mpr (by omega))] at ra
            refine neu 0 0 rfl (by omega) ?_ ra
            rw [cl, q]; rfl
def mnL (unit reach : Int32) : Nat → Int32 → Int32 → Int32
  | 0, _, m => m
  | n + 1, u, m => mnL unit reach n (u + 1) (if unit ≤ u ∧ 4 * u < reach then m ||| (1 <<< (u &&& 31)) else m)
def hiL (un : Int32) : Nat → Int32 → Int32 → Int32
  | 0, _, h => h
  | n + 1, u, h => hiL un n (u + 1) (if ((un >>> (u &&& 31)) &&& 1) = 1 then u else h)
def hiv (u : Nat) : Int32 := if u = 0 then -1 else Int32.ofNat (Nat.log2 u)
theorem hiL_v {x : Int32} {j : Nat} (h : x.toInt = j) (h1 : j < 256) : hiL x 8 0 (-1) = hiv j := by
  have e : x = Int32.ofNat j := Int32.toInt_inj.mp (by rw [h]; exact (nI_toInt (by omega)).symm)
  have key : ∀ j, j < 256 → hiL (Int32.ofNat j) 8 0 (-1) = hiv j := by decide +kernel
  rw [e]; exact key j h1
theorem hiv_q : ∀ j : Nat, j < 256 → ∀ q : Nat, q < 9 → (j / 2 ^ q = 0 ↔ (hiv j).toInt < q) := by decide +kernel
theorem hiv_b : ∀ j : Nat, j < 256 → -1 ≤ (hiv j).toInt ∧ (hiv j).toInt < 8 := by decide +kernel
theorem mnL_v : ∀ U : Nat, U < 8 → ∀ S : Nat, S < 33 → 4 * U + S ≤ 32 → mnL (Int32.ofNat U) (Int32.ofNat (4 * U + S)) 8 0 0 = (((1 : Int32) <<< ((((Int32.ofNat S + (4 : Int32)) - (1 : Int32)) / (4 : Int32)) &&& 31)) - (1 : Int32)) <<< (Int32.ofNat U &&& 31) := by decide +kernel
theorem cu_v : ∀ U : Nat, U < 8 → ∀ S : Nat, S < 33 → 4 * U + S ≤ 32 → ((((1 : Int32) <<< ((((Int32.ofNat S + (4 : Int32)) - (1 : Int32)) / (4 : Int32)) &&& 31)) - (1 : Int32)) <<< (Int32.ofNat U &&& 31)) = Int32.ofNat ((2 ^ ((S + 3) / 4) - 1) * 2 ^ U) := by decide +kernel

