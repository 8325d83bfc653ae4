-- the simulation: the small calls
def R_A (fA ao mF mi : (Nat → Int32)) : Prop := fA 1 = mF 4 ∧ (0 ≤ (mF 4).toInt ∧ (mF 4).toInt ≤ 44) ∧ ∀ i, ao i = mi i ∧ oct (mi i)
theorem sim_octet {fZ fA ao mF mi : (Nat → Int32)} {i0 : Int32} (h : R_A fA ao mF mi) : (FX9_octet fZ fA ao i0).1 = (FX10_octet mF mi i0).1 ∧ R_A (FX9_octet fZ fA ao i0).2.1 (FX9_octet fZ fA ao i0).2.2 (FX10_octet mF mi i0).2.1 (FX10_octet mF mi i0).2.2 ∧ (∀ j, j ≠ 4 → (FX10_octet mF mi i0).2.1 j = mF j) := by
  obtain ⟨h1, h2, h3⟩ := id h
  have ei : FX9_isOctet i0 = FX10_is i0 0 255 := rfl
  unfold FX9_octet FX10_octet
  rw [ei, h1]
  by_cases q : FX10_is i0 0 255 = 0
  · rw [if_pos q, if_pos q]
    exact ⟨rfl, h, fun _ _ => rfl⟩
  · obtain ⟨b0, b1⟩ := is_in q
    rw [k0] at b0
    rw [k255] at b1
    rw [if_neg q, if_neg q]
    by_cases c : mF 4 = 44
    · rw [if_pos c, if_neg (show ¬ mF 4 < 44 by rw [c]; decide)]
      exact ⟨rfl, h, fun _ _ => rfl⟩
    · have c' := neT (a := 44) c rfl
      rw [if_neg c, if_pos (show mF 4 < 44 from Int32.lt_iff_toInt_lt.mpr (by rw [k44]; omega))]
      have e := tI_s (a := mF 4) (by omega)
      refine ⟨rfl, ⟨rfl, ?_, fun i => ?_⟩, fun j hj => pk_un hj⟩
      · show 0 ≤ (mF 4 + 1).toInt ∧ (mF 4 + 1).toInt ≤ 44
        omega
      · show upd ao (mF 4).toNatClampNeg i0 i = upd mi (mF 4).toNatClampNeg i0 i ∧ oct (upd mi (mF 4).toNatClampNeg i0 i)
        by_cases z : i = (mF 4).toNatClampNeg
        · rw [z, pk_us, pk_us]; exact ⟨rfl, b0, by omega⟩
        · rw [pk_un z, pk_un z]; exact h3 i
theorem look_row {x k : Int32} {K : Nat} (h0 : 0 ≤ x.toInt) (h1 : x.toInt < 12) (hk : k.toInt = K) (hK : K < 12) : (x + 12 - k - (x + 12 - k) / 12 * 12).toNatClampNeg = (x.toInt.toNat + 12 - K) % 12 := by
  obtain ⟨j, hj, rfl⟩ := nI_of (x := x) (fun q => by have := lT q; rw [k0] at this; omega)
  rw [nI_toInt hj] at h1 ⊢
  have e12 : (12 : Int32) = nI 12 := rfl
  have ek : k = nI K := Int32.toInt_inj.mp (by rw [hk, nI_toInt (by omega)])
  rw [ek, e12, nI_add, pk_sub (by omega), pk_rem (by omega) (by omega) (by omega), nI_clamp (by omega)]
  rfl
theorem sim_sent {fZ fR fW wl : (Nat → Int32)} {wr : (Nat → Nat → Int32)} {mF out ol : (Nat → Int32)} {i0 i1 : Int32} (h : R_F fW wl wr mF out ol) : FX9_sent fZ fR fW wl wr i0 i1 = FX10_sent mF ol out i0 i1 := by
  obtain ⟨a0, a1, a4, a5, ak⟩ := h
  unfold FX9_sent FX8_look FX10_sent FX10_is
  by_cases q0 : i0 < 0
  · rw [if_pos q0, if_pos q0, if_pos rfl]
  · have q0' := lTn q0
    rw [k0] at q0'
    rw [if_neg q0, if_neg q0]
    by_cases q1 : 12 ≤ i0
    · have q1' := iT q1
      rw [k12] at q1'
      rw [if_pos q1, if_pos (show (11 : Int32) < i0 from Int32.lt_iff_toInt_lt.mpr (by rw [show (11 : Int32).toInt = 11 from rfl]; omega)), if_pos rfl]
    · have q1' := iTn q1
      rw [k12] at q1'
      rw [if_neg q1, if_neg (show ¬ (11 : Int32) < i0 from fun e => by have := lT e; rw [show (11 : Int32).toInt = 11 from rfl] at this; omega), if_neg (show ¬ (1 : Int32) = 0 by decide)]
      obtain ⟨K, hK⟩ : ∃ K : Nat, i0.toInt = K := ⟨i0.toInt.toNat, by omega⟩
      obtain ⟨b0, b1, b2, b3, b4⟩ := ak K (by omega)
      have er := look_row (k := i0) a0 a1 hK (by omega)
      have er' : (fW 3 + 12 - i0 - (fW 3 + 12 - i0) / 12 * 12).toNatClampNeg = r12 fW K := er
      rw [er', tcE hK, b0]
      have e1 : (ol K - 1).toInt = (ol K).toInt - 1 := tI_sc 1 k1 (by omega) (by omega)
      by_cases q2 : i1 < 0
      · rw [if_pos q2, if_pos q2, if_pos rfl]
        split <;> rfl
      · have q2' := lTn q2
        rw [k0] at q2'
        rw [if_neg q2, if_neg q2]
        by_cases q3 : i0 < fW 4
        · rw [if_pos q3]
          by_cases q4 : i1 < ol K
          · have q4' := lT q4
            rw [if_pos q4, if_neg (show ¬ ol K - 1 < i1 from fun e => by have := lT e; omega), if_neg (show ¬ (1 : Int32) = 0 by decide)]
            obtain ⟨J, hJ⟩ : ∃ J : Nat, i1.toInt = J := ⟨i1.toInt.toNat, by omega⟩
            rw [tcE hJ, tcMA 32 K J k32 hK hJ (by omega) (by omega) (by omega)]
            exact b4 J (by omega)
          · have q4' := lTn q4
            rw [if_neg q4, if_pos (show ol K - 1 < i1 from Int32.lt_iff_toInt_lt.mpr (by omega)), if_pos rfl]
        · have q3' := lTn q3
          have z := b3 (by omega)
          rw [if_neg q3, if_pos (show ol K - 1 < i1 from Int32.lt_iff_toInt_lt.mpr (by rw [e1, z, k0]; omega)), if_pos rfl]
theorem sim_known {fZ fR fW wst mF kn : (Nat → Int32)} {i0 : Int32} (h : R_K wst kn) : FX9_known fZ fR fW wst i0 = FX10_known mF kn i0 := by
  unfold FX9_known FX10_known FX10_is
  by_cases q0 : i0 < 0
  · rw [if_pos q0, if_pos q0, if_pos rfl]
  · have q0' := lTn q0
    rw [k0] at q0'
    rw [if_neg q0, if_neg q0]
    by_cases q1 : i0 < 16
    · have q1' := lT q1
      rw [k16] at q1'
      rw [if_pos q1, if_neg (show ¬ (15 : Int32) < i0 from fun e => by have := lT e; rw [k15] at this; omega), if_neg (show ¬ (1 : Int32) = 0 by decide)]
      obtain ⟨K, hK⟩ : ∃ K : Nat, i0.toInt = K := ⟨i0.toInt.toNat, by omega⟩
      rw [tcE hK]
      obtain ⟨e, o⟩ := h K (by omega)
      rw [e]
      rcases o with z | z
      · rw [z]; decide
      · rw [if_neg (fun q => by have := lT q; rw [k0] at this; have := z.1; omega)]
    · have q1' := lTn q1
      rw [k16] at q1'
      rw [if_neg q1, if_pos (show (15 : Int32) < i0 from Int32.lt_iff_toInt_lt.mpr (by rw [k15]; omega)), if_pos rfl]
theorem is_f {x a b : Int32} (h : FX10_is x a b = 0) : x.toInt < a.toInt ∨ b.toInt < x.toInt := by
  unfold FX10_is at h
  split at h
  · rename_i q; exact Or.inl (lT q)
  · split at h
    · rename_i q; exact Or.inr (lT q)
    · exact absurd h (by decide)
theorem sim_stream {fZ fR : (Nat → Int32)} {fSs sos sis : (Nat → Nat → Int32)} {mF st wi pa se fi qd po ne bd bx qu ad ti tr : (Nat → Int32)} {i0 i1 : Int32} (h : R_Ss fSs sos sis st wi pa se fi qd po ne bd bx qu ad ti tr) : FX9_stream fZ fR fSs i0 i1 = FX10_stream mF st ad po ne fi se qd bd wi pa tr ti i0 i1 := by
  unfold FX9_stream FX10_stream
  by_cases z : FX10_is i0 0 2 = 0
  · rw [if_pos z]
    rcases is_f z with q | q
    · rw [k0] at q
      rw [if_pos (show i0 < 0 from Int32.lt_iff_toInt_lt.mpr (by rw [k0]; omega))]
    · rw [k2] at q
      rw [if_neg (show ¬ i0 < 0 from fun e => by have := lT e; rw [k0] at this; omega), if_neg (show ¬ i0 < 3 from fun e => by have := lT e; rw [k3] at this; omega)]
  · obtain ⟨z0, z1⟩ := is_in z
    rw [k0] at z0
    rw [k2] at z1
    rw [if_neg z, if_neg (show ¬ i0 < 0 from fun e => by have := lT e; rw [k0] at this; omega), if_pos (show i0 < 3 from Int32.lt_iff_toInt_lt.mpr (by rw [k3]; omega))]
    obtain ⟨K, hK⟩ : ∃ K : Nat, i0.toInt = K := ⟨i0.toInt.toNat, by omega⟩
    obtain ⟨s1, s2⟩ := h K (by omega)
    unfold FX10_way
    rw [tcE hK]
    by_cases w : FX10_is i1 0 11 = 0
    · rw [if_pos w]
      unfold FX5_tell
      have ne : ∀ c : Int32, ¬ FX10_is c 0 11 = 0 → ¬ i1 = c := fun c hc e => hc (by rw [← e]; exact w)
      rw [if_neg (ne 0 (by decide)), if_neg (ne 1 (by decide)), if_neg (ne 2 (by decide)), if_neg (ne 3 (by decide)), if_neg (ne 4 (by decide)), if_neg (ne 5 (by decide)), if_neg (ne 6 (by decide)), if_neg (ne 7 (by decide)), if_neg (ne 8 (by decide)), if_neg (ne 9 (by decide)), if_neg (ne 10 (by decide)), if_neg (ne 11 (by decide))]
    · obtain ⟨w0, w1'⟩ := is_in w
      rw [k0] at w0
      rw [show (11 : Int32).toInt = 11 from rfl] at w1'
      rw [if_neg w]
      by_cases e : st K = 0
      · rw [if_pos e]
        rcases sp12 w0 (by omega) with v | v | v | v | v | v | v | v | v | v | v | v <;> rw [v] <;> exact if_pos (s1.trans e)
      · have t : ∀ (x y : Int32), x = y → (if fSs K 2 = 0 then (0 : Int32) else x) = y := fun x y hxy => by rw [if_neg (show ¬ fSs K 2 = 0 from fun q => e (s1.symm.trans q))]; exact hxy
        obtain ⟨s4, e3, r3, e4, r4, e5, r5, e6, r6, e7, r7, e10, r10, e11, r11, e12, q12, e8, r8, e9, r9, t1, t0, hq, hb, w2, w4, w1⟩ := s2 e
        rw [if_neg e]
        rcases sp12 w0 (by omega) with v | v | v | v | v | v | v | v | v | v | v | v <;> rw [v]
        · exact t _ _ s1
        · exact t _ _ e3
        · exact t _ _ e4
        · exact t _ _ e5
        · exact t _ _ e6
        · exact t _ _ e7
        · exact t _ _ e8
        · exact t _ _ e9
        · exact t _ _ e10
        · exact t _ _ e11
        · exact t _ _ e12
        · show (if fSs K 2 = 0 then (0 : Int32) else fSs K 13) = (if ((se K - fi K) &&& 255) = 0 then 0 else ti K)
          have hw := wayI r7 r6
          obtain ⟨p0, p1⟩ := id r6
          obtain ⟨p2, p3⟩ := id r7
          by_cases g : fi K = se K
          · rw [if_pos (show ((se K - fi K) &&& 255) = 0 from Int32.toInt_inj.mp (by rw [hw, g, k0]; omega))]
            exact t _ _ (t0 g)
          · rw [if_neg (show ¬ ((se K - fi K) &&& 255) = 0 from fun q => g (Int32.toInt_inj.mp (by rw [q, k0] at hw; omega)))]
            exact t _ _ (t1 g)
theorem sim_assembly {fZ fG : (Nat → Int32)} {fMs mos : (Nat → Nat → Int32)} {mF us so di un la si od pr pc : (Nat → Int32)} {i0 i1 : Int32} (h : R_M fG fMs mos mF us so di un la si od pr pc) : FX9_assembly fZ fG fMs i0 i1 = FX10_assembly mF us so di un la si i0 i1 := by
  unfold FX9_assembly FX10_assembly
  by_cases z : FX10_is i0 0 1 = 0
  · rw [if_pos z]
    rcases is_f z with q | q
    · rw [k0] at q
      rw [if_pos (show i0 < 0 from Int32.lt_iff_toInt_lt.mpr (by rw [k0]; omega))]
    · rw [k1] at q
      rw [if_neg (show ¬ i0 < 0 from fun e => by have := lT e; rw [k0] at this; omega), if_neg (show ¬ i0 < 2 from fun e => by have := lT e; rw [k2] at this; omega)]
  · obtain ⟨z0, z1⟩ := is_in z
    rw [k0] at z0
    rw [k1] at z1
    rw [if_neg z, if_neg (show ¬ i0 < 0 from fun e => by have := lT e; rw [k0] at this; omega), if_pos (show i0 < 2 from Int32.lt_iff_toInt_lt.mpr (by rw [k2]; omega))]
    obtain ⟨K, hK⟩ : ∃ K : Nat, i0.toInt = K := ⟨i0.toInt.toNat, by omega⟩
    obtain ⟨s1, s3, s4, s2⟩ := h.1 K (by omega)
    rw [tcE hK]
    by_cases w : FX10_is i1 0 5 = 0
    · rw [if_pos w]
      unfold FX1_tell
      have ne : ∀ c : Int32, ¬ FX10_is c 0 5 = 0 → ¬ i1 = c := fun c hc e => hc (by rw [← e]; exact w)
      rw [if_neg (ne 0 (by decide)), if_neg (ne 1 (by decide)), if_neg (ne 2 (by decide)), if_neg (ne 3 (by decide)), if_neg (ne 4 (by decide)), if_neg (ne 5 (by decide))]
    · obtain ⟨w0, w1'⟩ := is_in w
      rw [k0] at w0
      rw [k5] at w1'
      rw [if_neg w]
      by_cases e : us K = 0
      · rw [if_pos e]
        rcases sp6 w0 (by omega) with v | v | v | v | v | v <;> rw [v] <;> exact if_pos (s1.trans e)
      · have t : ∀ (x y : Int32), x = y → (if fMs K 1 = 0 then (0 : Int32) else x) = y := fun x y hxy => by rw [if_neg (show ¬ fMs K 1 = 0 from fun q => e (s1.symm.trans q))]; exact hxy
        obtain ⟨a1, a2, a3, a4, a5, a6, a7, a8, a9, a10⟩ := s2 e
        rw [if_neg e]
        rcases sp6 w0 (by omega) with v | v | v | v | v | v <;> rw [v]
        · exact t _ _ rfl
        · exact t _ _ a1
        · exact t _ _ a3
        · exact t _ _ a4
        · exact t _ _ a6
        · exact t _ _ a8
theorem sim_count {fZ fA fR fW mF : (Nat → Int32)} {i0 : Int32} (h0 : fZ 4 = mF 5) (h1 : fZ 5 = mF 6) (h2 : fZ 6 = mF 7) (h3 : fW 4 = mF 8) (h4 : fW 5 = mF 9) (h5 : fR 4 = mF 10) (h6 : fR 5 = mF 11) (h7 : fA 1 = mF 4) (h8 : fR 6 = mF 12) : FX9_count fZ fA fR fW i0 = FX10_count mF i0 := by
  unfold FX9_count FX10_count
  rw [h0, h1, h2, h3, h4, h5, h6, h7, h8]
theorem isTxt {x : Int32} : FX9_isText x = FX10_is x 0 5 := by
  unfold FX9_isText FX10_is
  by_cases a : x < 0
  · rw [if_pos a, if_pos a]
  · rw [if_neg a, if_neg a]
    by_cases b : 6 ≤ x
    · have b' := iT b
      rw [k6] at b'
      rw [if_pos b, if_pos (show (5 : Int32) < x from Int32.lt_iff_toInt_lt.mpr (by rw [k5]; omega))]
    · have b' := iTn b
      rw [k6] at b'
      rw [if_neg b, if_neg (show ¬ (5 : Int32) < x from fun e => by have := lT e; rw [k5] at this; omega)]
theorem sim_name {fZ fR fH : (Nat → Int32)} {fTs tls tbs : (Nat → Nat → Int32)} {mF nl nm bl bo ck : (Nat → Int32)} {i0 i1 : Int32} (h : R_T fTs tls tbs nl nm bl bo ck) : (FX9_name fZ fR fH fTs tls i0 i1).1 = (FX10_name mF nl nm i0 i1).1 ∧ R_T (FX9_name fZ fR fH fTs tls i0 i1).2.1 (FX9_name fZ fR fH fTs tls i0 i1).2.2 tbs (FX10_name mF nl nm i0 i1).2.1 (FX10_name mF nl nm i0 i1).2.2 bl bo ck := by
  unfold FX9_name FX10_name
  rw [isTxt, ← isLet]
  by_cases z : FX10_is i0 0 5 = 0
  · rw [if_pos z, if_pos z]; exact ⟨rfl, h⟩
  · obtain ⟨z0, z1⟩ := is_in z
    rw [k0] at z0
    rw [k5] at z1
    rw [if_neg z, if_neg z]
    by_cases w : FX10_is i1 97 122 = 0
    · rw [if_pos w, if_pos w]; exact ⟨rfl, h⟩
    · rw [if_neg w, if_neg w]
      obtain ⟨K, hK⟩ : ∃ K : Nat, i0.toInt = K := ⟨i0.toInt.toNat, by omega⟩
      obtain ⟨e2, r2, e4, r4, e3, hl, hb⟩ := h K (by omega)
      unfold KX9_name_29 FX7_addLetter
      rw [tcE hK, e2]
      by_cases q : nl K = 4
      · rw [if_pos q, if_neg (show ¬ nl K < 4 by rw [q]; decide)]
        refine ⟨rfl, ?_⟩
        have e1 : va_up fTs K (fTs K) = fTs := funext fun j => by by_cases g : j = K; { rw [g, vu_s] }; { rw [vu_n g] }
        have e2' : va_up tls K (tls K) = tls := funext fun j => by by_cases g : j = K; { rw [g, vu_s] }; { rw [vu_n g] }
        show R_T (va_up fTs K (fTs K)) (va_up tls K (tls K)) tbs nl nm bl bo ck
        rw [e1, e2']; exact h
      · have q' := neT (a := 4) q rfl
        obtain ⟨L, hL⟩ : ∃ L : Nat, (nl K).toInt = L := ⟨(nl K).toInt.toNat, by omega⟩
        have e := tI_s (a := nl K) (by omega)
        rw [if_neg q, if_pos (show nl K < 4 from Int32.lt_iff_toInt_lt.mpr (by rw [k4]; omega)), tcMA 4 K L k4 hK hL (by omega) (by omega) (by omega), tcE hL]
        refine ⟨rfl, fun t ht => ?_⟩
        show (va_up fTs K (upd (fTs K) 2 (nl K + 1)) t) 2 = upd nl K (nl K + 1) t ∧ (0 ≤ (upd nl K (nl K + 1) t).toInt ∧ (upd nl K (nl K + 1) t).toInt ≤ 4) ∧ (va_up fTs K (upd (fTs K) 2 (nl K + 1)) t) 4 = bl t ∧ (0 ≤ (bl t).toInt ∧ (bl t).toInt ≤ 16) ∧ (va_up fTs K (upd (fTs K) 2 (nl K + 1)) t) 3 = ck t ∧ (∀ i, i < 4 → va_up tls K (upd (tls K) L i1) t i = upd nm (4 * K + L) i1 (4 * t + i)) ∧ (∀ i, i < 16 → tbs t i = bo (16 * t + i) ∧ oct (bo (16 * t + i)))
        by_cases g : t = K
        · subst g
          rw [vu_s, vu_s, pk_us (f := nl)]
          refine ⟨rfl, by omega, e4, r4, e3, fun i hi => ?_, hb⟩
          by_cases u : i = L
          · rw [u, pk_us, pk_us]
          · rw [pk_un u, pk_un (by omega)]; exact hl i hi
        · rw [vu_n g, vu_n g, pk_un g]
          obtain ⟨y1, y2, y3, y4, y5, y6, y7⟩ := h t ht
          exact ⟨y1, y2, y3, y4, y5, fun i hi => by rw [pk_un (by omega)]; exact y6 i hi, y7⟩
theorem sim_body {fZ fR fH : (Nat → Int32)} {fTs tls tbs : (Nat → Nat → Int32)} {mF nl nm bl bo ck : (Nat → Int32)} {i0 i1 : Int32} (h : R_T fTs tls tbs nl nm bl bo ck) : (FX9_body fZ fR fH fTs tbs i0 i1).1 = (FX10_body mF bl bo ck i0 i1).1 ∧ R_T (FX9_body fZ fR fH fTs tbs i0 i1).2.1 tls (FX9_body fZ fR fH fTs tbs i0 i1).2.2 nl nm (FX10_body mF bl bo ck i0 i1).2.1 (FX10_body mF bl bo ck i0 i1).2.2.1 (FX10_body mF bl bo ck i0 i1).2.2.2 := by
  have ei : FX9_isOctet i1 = FX10_is i1 0 255 := rfl
  unfold FX9_body FX10_body
  rw [isTxt, ei]
  by_cases z : FX10_is i0 0 5 = 0
  · rw [if_pos z, if_pos z]; exact ⟨rfl, h⟩
  · obtain ⟨z0, z1⟩ := is_in z
    rw [k0] at z0
    rw [k5] at z1
    rw [if_neg z, if_neg z]
    by_cases w : FX10_is i1 0 255 = 0
    · rw [if_pos w, if_pos w]; exact ⟨rfl, h⟩
    · obtain ⟨w0, w1⟩ := is_in w
      rw [k0] at w0
      rw [k255] at w1
      rw [if_neg w, if_neg w]
      obtain ⟨K, hK⟩ : ∃ K : Nat, i0.toInt = K := ⟨i0.toInt.toNat, by omega⟩
      obtain ⟨e2, r2, e4, r4, e3, hl, hb⟩ := h K (by omega)
      unfold KX9_body_29 FX7_addOctet
      rw [tcE hK, e4, e3]
      by_cases q : bl K = 16
      · rw [if_pos q, if_neg (show ¬ bl K < 16 by rw [q]; decide)]
        refine ⟨rfl, ?_⟩
        have e1 : va_up fTs K (fTs K) = fTs := funext fun j => by by_cases g : j = K; { rw [g, vu_s] }; { rw [vu_n g] }
        have e2' : va_up tbs K (tbs K) = tbs := funext fun j => by by_cases g : j = K; { rw [g, vu_s] }; { rw [vu_n g] }
        show R_T (va_up fTs K (fTs K)) tls (va_up tbs K (tbs K)) nl nm bl bo ck
        rw [e1, e2']; exact h
      · have q' := neT (a := 16) q rfl
        obtain ⟨L, hL⟩ : ∃ L : Nat, (bl K).toInt = L := ⟨(bl K).toInt.toNat, by omega⟩
        have e := tI_s (a := bl K) (by omega)
        rw [if_neg q, if_pos (show bl K < 16 from Int32.lt_iff_toInt_lt.mpr (by rw [k16]; omega)), tcMA 16 K L k16 hK hL (by omega) (by omega) (by omega), tcE hL]
        refine ⟨rfl, fun t ht => ?_⟩
        show (va_up fTs K (upd (upd (fTs K) 4 (bl K + 1)) 3 ((ck K + i1) &&& 255)) t) 2 = nl t ∧ (0 ≤ (nl t).toInt ∧ (nl t).toInt ≤ 4) ∧ (va_up fTs K (upd (upd (fTs K) 4 (bl K + 1)) 3 ((ck K + i1) &&& 255)) t) 4 = upd bl K (bl K + 1) t ∧ (0 ≤ (upd bl K (bl K + 1) t).toInt ∧ (upd bl K (bl K + 1) t).toInt ≤ 16) ∧ (va_up fTs K (upd (upd (fTs K) 4 (bl K + 1)) 3 ((ck K + i1) &&& 255)) t) 3 = upd ck K ((ck K + i1) &&& 255) t ∧ (∀ i, i < 4 → tls t i = nm (4 * t + i)) ∧ (∀ i, i < 16 → va_up tbs K (upd (tbs K) L i1) t i = upd bo (16 * K + L) i1 (16 * t + i) ∧ oct (upd bo (16 * K + L) i1 (16 * t + i)))
        by_cases g : t = K
        · subst g
          rw [vu_s, vu_s, pk_us (f := bl), pk_us (f := ck)]
          refine ⟨e2, r2, rfl, by omega, rfl, hl, fun i hi => ?_⟩
          by_cases u : i = L
          · rw [u, pk_us, pk_us]; exact ⟨rfl, w0, by omega⟩
          · rw [pk_un u, pk_un (by omega)]; exact hb i hi
        · rw [vu_n g, vu_n g, pk_un g, pk_un g]
          obtain ⟨y1, y2, y3, y4, y5, y6, y7⟩ := h t ht
          exact ⟨y1, y2, y3, y4, y5, y6, fun i hi => by rw [pk_un (by omega)]; exact y7 i hi⟩
theorem sim_spoil {fZ fR fH : (Nat → Int32)} {fTs tls tbs : (Nat → Nat → Int32)} {mF nl nm bl bo ck : (Nat → Int32)} {i0 i1 i2 : Int32} (h : R_T fTs tls tbs nl nm bl bo ck) : (FX9_spoil fZ fR fH fTs tbs i0 i1 i2).1 = (FX10_spoil mF bl bo i0 i1 i2).1 ∧ R_T fTs tls (FX9_spoil fZ fR fH fTs tbs i0 i1 i2).2 nl nm bl (FX10_spoil mF bl bo i0 i1 i2).2 ck := by
  have ei : FX9_isOctet i2 = FX10_is i2 0 255 := rfl
  unfold FX9_spoil FX10_spoil
  rw [isTxt, ei]
  by_cases z : FX10_is i0 0 5 = 0
  · rw [if_pos z, if_pos z]; exact ⟨rfl, h⟩
  · obtain ⟨z0, z1⟩ := is_in z
    rw [k0] at z0
    rw [k5] at z1
    rw [if_neg z, if_neg z]
    obtain ⟨K, hK⟩ : ∃ K : Nat, i0.toInt = K := ⟨i0.toInt.toNat, by omega⟩
    obtain ⟨e2, r2, e4, r4, e3, hl, hb⟩ := h K (by omega)
    rw [tcE hK]
    have e1 : (bl K - 1).toInt = (bl K).toInt - 1 := tI_sc 1 k1 (by omega) (by omega)
    have e2' : va_up tbs K (tbs K) = tbs := funext fun j => by by_cases g : j = K; { rw [g, vu_s] }; { rw [vu_n g] }
    by_cases w : FX10_is i2 0 255 = 0
    · rw [if_pos w]
      by_cases v : FX10_is i1 0 (bl K - 1) = 0
      · rw [if_pos v]; exact ⟨rfl, h⟩
      · rw [if_neg v, if_pos w]; exact ⟨rfl, h⟩
    · obtain ⟨w0, w1⟩ := is_in w
      rw [k0] at w0
      rw [k255] at w1
      rw [if_neg w]
      unfold KX9_spoil_30 FX7_replace
      rw [tcE hK, e4]
      by_cases v : FX10_is i1 0 (bl K - 1) = 0
      · rw [if_pos v]
        rcases is_f v with u | u
        · rw [k0] at u
          rw [if_pos (show i1 < 0 from Int32.lt_iff_toInt_lt.mpr (by rw [k0]; omega))]
          refine ⟨rfl, ?_⟩
          show R_T fTs tls (va_up tbs K (tbs K)) nl nm bl bo ck
          rw [e2']; exact h
        · by_cases n0 : i1 < 0
          · rw [if_pos n0]
            refine ⟨rfl, ?_⟩
            show R_T fTs tls (va_up tbs K (tbs K)) nl nm bl bo ck
            rw [e2']; exact h
          · rw [if_neg n0, if_neg (show ¬ i1 < bl K from fun e => by have := lT e; omega)]
            refine ⟨rfl, ?_⟩
            show R_T fTs tls (va_up tbs K (tbs K)) nl nm bl bo ck
            rw [e2']; exact h
      · obtain ⟨v0, v1⟩ := is_in v
        rw [k0] at v0
        obtain ⟨J, hJ⟩ : ∃ J : Nat, i1.toInt = J := ⟨i1.toInt.toNat, by omega⟩
        rw [if_neg v, if_neg w, if_neg (show ¬ i1 < 0 from fun e => by have := lT e; rw [k0] at this; omega), if_pos (show i1 < bl K from Int32.lt_iff_toInt_lt.mpr (by omega)), tcMA 16 K J k16 hK hJ (by omega) (by omega) (by omega), tcE hJ]
        refine ⟨(hb J (by omega)).1, fun t ht => ?_⟩
        obtain ⟨y1, y2, y3, y4, y5, y6, y7⟩ := h t ht
        refine ⟨y1, y2, y3, y4, y5, y6, fun i hi => ?_⟩
        show va_up tbs K (upd (tbs K) J i2) t i = upd bo (16 * K + J) i2 (16 * t + i) ∧ oct (upd bo (16 * K + J) i2 (16 * t + i))
        by_cases g : t = K
        · subst g
          rw [vu_s]
          by_cases u : i = J
          · rw [u, pk_us, pk_us]; exact ⟨rfl, w0, by omega⟩
          · rw [pk_un u, pk_un (by omega)]; exact y7 i hi
        · rw [vu_n g, pk_un (by omega)]; exact y7 i hi
theorem sim_erase {fZ fR fH : (Nat → Int32)} {fTs tls tbs : (Nat → Nat → Int32)} {mF nl nm bl bo ck : (Nat → Int32)} {i0 : Int32} (h : R_T fTs tls tbs nl nm bl bo ck) : (FX9_erase fZ fR fH fTs i0).1 = (FX10_erase mF nl bl ck i0).1 ∧ R_T (FX9_erase fZ fR fH fTs i0).2 tls tbs (FX10_erase mF nl bl ck i0).2.1 nm (FX10_erase mF nl bl ck i0).2.2.1 bo (FX10_erase mF nl bl ck i0).2.2.2 := by
  unfold FX9_erase FX10_erase
  rw [isTxt]
  by_cases z : FX10_is i0 0 5 = 0
  · rw [if_pos z, if_pos z]; exact ⟨rfl, h⟩
  · obtain ⟨z0, z1⟩ := is_in z
    rw [k0] at z0
    rw [k5] at z1
    rw [if_neg z, if_neg z]
    obtain ⟨K, hK⟩ : ∃ K : Nat, i0.toInt = K := ⟨i0.toInt.toNat, by omega⟩
    obtain ⟨e2, r2, e4, r4, e3, hl, hb⟩ := h K (by omega)
    unfold KX9_erase_21 FX7_empty
    rw [tcE hK]
    refine ⟨e4, fun t ht => ?_⟩
    show (va_up fTs K (upd (upd (upd (fTs K) 2 0) 4 0) 3 0) t) 2 = upd nl K 0 t ∧ (0 ≤ (upd nl K 0 t).toInt ∧ (upd nl K 0 t).toInt ≤ 4) ∧ (va_up fTs K (upd (upd (upd (fTs K) 2 0) 4 0) 3 0) t) 4 = upd bl K 0 t ∧ (0 ≤ (upd bl K 0 t).toInt ∧ (upd bl K 0 t).toInt ≤ 16) ∧ (va_up fTs K (upd (upd (upd (fTs K) 2 0) 4 0) 3 0) t) 3 = upd ck K 0 t ∧ (∀ i, i < 4 → tls t i = nm (4 * t + i)) ∧ (∀ i, i < 16 → tbs t i = bo (16 * t + i) ∧ oct (bo (16 * t + i)))
    by_cases g : t = K
    · subst g
      rw [vu_s, pk_us (f := nl), pk_us (f := bl), pk_us (f := ck)]
      exact ⟨rfl, by decide, rfl, by decide, rfl, hl, hb⟩
    · rw [vu_n g, pk_un g, pk_un g, pk_un g]
      exact h t ht

