-- what the calls may count on, and the beginning
theorem rel_pre {c : Int} {fZ fA ao fG : (Nat → Int32)} {fMs mos : (Nat → Nat → Int32)} {fR : (Nat → Int32)} {fSs sos sis : (Nat → Nat → Int32)} {fW wst wl : (Nat → Int32)} {wr fTs tls tbs : (Nat → Nat → Int32)} {mF mi kn out ol st wi pa se fi qd po ne bd bx qu ad ti tr nl nm bl bo ck us so di un la si od pr pc : (Nat → Int32)} (h : Rel c fZ fA ao fG fMs mos fR fSs sos sis fW wst wl wr fTs tls tbs mF mi kn out ol st wi pa se fi qd po ne bd bx qu ad ti tr nl nm bl bo ck us so di un la si od pr pc) : iv_A fA ∧ iv_O ao ∧ iv_G fG ∧ iv_W fW ∧ iv_L wl ∧ iv_Ts fTs ∧ 0 ≤ (mF 4).toInt ∧ (mF 4).toInt ≤ 44 ∧ nl_in nl ∧ bl_in bl ∧ (∀ k, k < 3 → ¬ st k = 0 → ms_in st se fi qd bd k) ∧ (∀ k, 0 ≤ (mi k).toInt) ∧ ol_in ol := by
  obtain ⟨hF, hid, hKn, hTx, hR, hM, hA, z4, z5, z6, hr4, hr5, hr6, hq64, had, hla, hiS, hiM, hb, h27, hc0⟩ := h
  refine ⟨?_, fun k => ?_, ?_, ⟨hF.1, hF.2.1⟩, RF_L hF, rel_Ts hTx, hA.2.1.1, hA.2.1.2, fun t ht => (hTx t ht).2.1, fun t ht => (hTx t ht).2.2.2.1, fun k hk hz => ?_, fun k => (hA.2.2 k).2.1, fun k hk => ?_⟩
  · unfold iv_A
    rw [hA.1]; exact hA.2.1
  · rw [(hA.2.2 k).1]; exact (hA.2.2 k).2.1
  · unfold iv_G
    rcases hM.2.1 with q | q <;> rw [q] <;> decide
  · obtain ⟨s4, e3, r3, e4, r4, e5, r5, e6, r6, e7, r7, e10, r10, e11, r11, e12, q12, e8, r8, e9, r9, t1, t0, hq, hb, w2, w4, w1⟩ := (hR k hk).2 hz
    exact ⟨s4, r8.1, r8.2, r9.1, r9.2, w2, w4⟩
  · obtain ⟨b0, b1, b2, _⟩ := hF.2.2.2.2 k hk
    exact ⟨b1, by omega⟩
theorem rel_0 {wst kn : (Nat → Int32)} (hk : R_K wst kn) : Rel 0 (fun _ => 0) (fun _ => 0) (fun _ => 0) (fun _ => 0) (fun _ _ => 0) (fun _ _ => 0) (fun _ => 0) (fun _ _ => 0) (fun _ _ => 0) (fun _ _ => 0) (fun _ => 0) wst (fun _ => 0) (fun _ _ => 0) (fun _ _ => 0) (fun _ _ => 0) (fun _ _ => 0) (fun _ => 0) (fun _ => 0) kn (fun _ => 0) (fun _ => 0) (fun _ => 0) (fun _ => 0) (fun _ => 0) (fun _ => 0) (fun _ => 0) (fun _ => 0) (fun _ => 0) (fun _ => 0) (fun _ => 0) (fun _ => 0) (fun _ => 0) (fun _ => 0) (fun _ => 0) (fun _ => 0) (fun _ => 0) (fun _ => 0) (fun _ => 0) (fun _ => 0) (fun _ => 0) (fun _ => 0) (fun _ => 0) (fun _ => 0) (fun _ => 0) (fun _ => 0) (fun _ => 0) (fun _ => 0) (fun _ => 0) (fun _ => 0) := by
  have o0 : oct (0 : Int32) := by unfold oct; decide
  have i0 : (0 : Int) ≤ (0 : Int32).toInt := by decide
  have le : ∀ n : Int, 0 ≤ n → (0 : Int32).toInt ≤ n := fun n h => h
  have lt : ∀ n : Int, 0 < n → (0 : Int32).toInt < n := fun n h => h
  refine ⟨⟨i0, lt 12 (by decide), rfl, i0, fun k _ => ⟨rfl, i0, le 25 (by decide), fun _ => rfl, fun i _ => rfl⟩⟩, rfl, hk, fun t _ => ⟨rfl, ⟨i0, le 4 (by decide)⟩, rfl, ⟨i0, le 16 (by decide)⟩, rfl, fun _ _ => rfl, fun _ _ => ⟨rfl, o0⟩⟩, fun K _ => ⟨rfl, fun e => absurd rfl e⟩, ⟨fun k _ => ⟨rfl, Or.inl rfl, fun _ _ => ⟨rfl, o0⟩, fun e => absurd rfl e⟩, Or.inl rfl, fun e => absurd rfl e, fun k _ e => absurd rfl e, i0⟩, ⟨rfl, ⟨i0, le 44 (by decide)⟩, fun _ => ⟨rfl, o0⟩⟩, rfl, rfl, rfl, rfl, rfl, rfl, fun _ => le 64 (by decide), fun _ => ⟨i0, lt 16 (by decide)⟩, fun _ => le 32 (by decide), fun k _ => ⟨i0, lt 16 (by decide), i0, le 64 (by decide), i0, le 16 (by decide)⟩, fun k _ => ⟨le 32 (by decide), i0, lt 16 (by decide)⟩, le _ (by decide), le _ (by decide), by decide⟩

