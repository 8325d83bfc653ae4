theorem asm_L {mF us so di un la si od : Nat → Int32} {i0 i1 : Int32} (P : Int32 × (Nat → Int32) × (Nat → Int32) × (Nat → Int32) × (Nat → Int32) × (Nat → Int32) × (Nat → Int32) × (Nat → Int32) × (Nat → Int32) → Prop)
    (h0 : ∀ k, (k = 0 ∨ k = 1) → P (k, mF, us, so, di, un, la, si, od)) (h1 : ∀ k, (k = 0 ∨ k = 1) → P (JX10_assemblyOf_86 mF us so di un la si od i0 i1 k)) :
    ∀ (n : Nat) (y : Int32), 0 ≤ y.toInt → y.toInt ≤ 2 → (2 - y.toInt).toNat < n → P (LX10_assemblyOf_2 mF us so di un la si od i0 i1 n y) := by
  intro n
  induction n with
  | zero => intro y _ _ h; omega
  | succ n ih =>
    intro y hy hy2 h
    rw [LX10_assemblyOf_2]
    split
    · (repeat' split) <;> first | exact h1 _ (Or.inl rfl) | exact h1 _ (Or.inr rfl)
    · rename_i hc
      have hc := iTn hc
      rw [k2] at hc
      have h9 := tI_s (a := y) (by omega)
      have hi := ih (y + 1) (by omega) (by omega) (by omega)
      (repeat' split) <;> first | exact hi | exact h0 _ (sp2 hy hc)
theorem asm_P {mF us so di un la si od : Nat → Int32} {i0 i1 : Int32} (P : Int32 × (Nat → Int32) × (Nat → Int32) × (Nat → Int32) × (Nat → Int32) × (Nat → Int32) × (Nat → Int32) × (Nat → Int32) × (Nat → Int32) → Prop)
    (h0 : ∀ k, (k = 0 ∨ k = 1) → P (k, mF, us, so, di, un, la, si, od)) (h1 : ∀ k, (k = 0 ∨ k = 1) → P (JX10_assemblyOf_86 mF us so di un la si od i0 i1 k)) : P (FX10_assemblyOf mF us so di un la si od i0 i1) := by
  unfold FX10_assemblyOf
  exact asm_L P h0 h1 128 0 (by decide) (by decide) (by decide)
theorem asm_in {mF us so di un la si od : Nat → Int32} {i0 i1 : Int32} : 0 ≤ (FX10_assemblyOf mF us so di un la si od i0 i1).1.toInt ∧ (FX10_assemblyOf mF us so di un la si od i0 i1).1.toInt < 2 :=
  asm_P (fun r => 0 ≤ r.1.toInt ∧ r.1.toInt < 2) (fun k hk => by show 0 ≤ k.toInt ∧ k.toInt < 2; rcases hk with e | e <;> rw [e] <;> decide) (fun k hk => by show 0 ≤ k.toInt ∧ k.toInt < 2; rcases hk with e | e <;> rw [e] <;> decide)
theorem asm_last {mF us so di un la si od : Nat → Int32} {i0 i1 : Int32} (h : ∀ k, (la k).toInt ≤ 32) : ∀ j, ((FX10_assemblyOf mF us so di un la si od i0 i1).2.2.2.2.2.2.1 j).toInt ≤ 32 :=
  asm_P (fun r => ∀ j, (r.2.2.2.2.2.2.1 j).toInt ≤ 32) (fun k hk => h) (fun k hk => by
    intro j
    show (upd la k.toNatClampNeg (-1) j).toInt ≤ 32
    unfold upd
    split
    · decide
    · exact h j)
theorem good_L {mi : Nat → Int32} {i0 : Int32} (h0 : 5 ≤ i0.toInt) (h4 : i0.toInt ≤ 41) : ∀ (n : Nat) (y z : Int32), ¬ LX10_isGood_105 mi i0 n y z = 0 → 9 ≤ i0.toInt ∧ (¬ mi 6 = 0 → (mi 6 &&& 127).toInt ≤ 7 ∧ 4 * (mi 6 &&& 127).toInt + i0.toInt ≤ 41) := by
  intro n
  induction n with
  | zero => intro y z h; exact absurd rfl h
  | succ n ih =>
    intro y z h
    rw [LX10_isGood_105] at h
    split at h
    · split at h
      · exact absurd rfl h
      · rename_i q
        have q := lTn q
        rw [k9] at q
        refine ⟨q, fun hw => ?_⟩
        rw [if_neg hw] at h
        split at h
        · split at h
          · split at h
            · exact absurd rfl h
            · rename_i q1
              have q1 := iTn q1
              rw [k8] at q1
              split at h
              · exact absurd rfl h
              · rename_i q2
                have q2 := iTn q2
                have b := and127 (mi 6)
                have e9 : (i0 - 9).toInt = i0.toInt - 9 := tI_sc 9 k9 (by omega) (by omega)
                have e4 : ((4 : Int32) * (mi 6 &&& 127)).toInt = 4 * (mi 6 &&& 127).toInt := tI_cm 4 rfl (by omega) (by omega)
                rw [tI_add (by omega) (by omega), e4, e9, show (33 : Int32).toInt = 33 from rfl] at q2
                omega
          · exact absurd rfl h
        · exact absurd rfl h
    · exact ih _ _ h
theorem good_J {mi : Nat → Int32} {i0 : Int32} (h0 : 5 ≤ i0.toInt) (h4 : i0.toInt ≤ 41) (h : ¬ JX10_isGood_31 mi i0 = 0) : (mi 3).toInt ≤ 15 ∧ (mi 2 = 3 → 9 ≤ i0.toInt ∧ (¬ mi 6 = 0 → (mi 6 &&& 127).toInt ≤ 7 ∧ 4 * (mi 6 &&& 127).toInt + i0.toInt ≤ 41)) := by
  unfold JX10_isGood_31 at h
  split at h
  · exact absurd rfl h
  · split at h
    · exact absurd rfl h
    · split at h
      · exact absurd rfl h
      · rename_i q
        have q := lTn q
        rw [k15] at q
        refine ⟨q, fun e => ?_⟩
        split at h
        · rw [if_pos (show (3 : Int32) ≤ mi 2 by rw [e]; decide)] at h
          exact good_L h0 h4 _ _ _ h
        · exact absurd rfl h
theorem good_in {mF mi : Nat → Int32} {i0 : Int32} (h : ¬ FX10_isGood mF mi i0 = 0) : 5 ≤ i0.toInt ∧ i0.toInt ≤ 41 ∧ (mi 3).toInt ≤ 15 ∧ (mi 2 = 3 → 9 ≤ i0.toInt ∧ (¬ mi 6 = 0 → (mi 6 &&& 127).toInt ≤ 7 ∧ 4 * (mi 6 &&& 127).toInt + i0.toInt ≤ 41)) := by
  unfold FX10_isGood at h
  split at h
  · exact absurd rfl h
  · rename_i q
    obtain ⟨q0, q1⟩ := is_in q
    rw [k5] at q0
    rw [k41] at q1
    split at h
    · obtain ⟨a, b⟩ := good_J q0 q1 h
      exact ⟨q0, q1, a, b⟩
    · split at h
      · obtain ⟨a, b⟩ := good_J q0 q1 h
        exact ⟨q0, q1, a, b⟩
      · exact absurd rfl h

