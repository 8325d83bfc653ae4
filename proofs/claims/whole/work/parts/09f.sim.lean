-- the simulation: a stream's timer
def RS (fS so si : (Nat → Int32)) (st ad po ne fi se wi pa tr ti qd bd : Int32) (q b : (Nat → Int32)) : Prop := fS 2 = st ∧ (¬ st = 0 → RS1 fS so si st ad po ne fi se wi pa tr ti qd bd q b)
def BeP (C : (Nat → Int32) × (Nat → Int32) × (Nat → Int32) × (Nat → Int32) × (Nat → Nat → Int32) × (Nat → Int32)) (M : (Nat → Int32) × (Nat → Int32) × (Nat → Int32) × (Nat → Int32) × (Nat → Int32) × (Nat → Int32) × (Nat → Int32) × (Nat → Int32) × (Nat → Int32) × (Nat → Int32)) (fR so si st ad po ne fi se wi pa tr ti qd bd qu bx mF : (Nat → Int32)) (K : Nat) (T : Int) : Prop :=
  R_F C.2.2.1 C.2.2.2.1 C.2.2.2.2.1 M.1 M.2.1 M.2.2.1 ∧ C.2.2.1 5 = M.1 9 ∧ C.1 4 = fR 4 ∧ C.1 5 = fR 5 ∧ C.1 6 = M.1 12 ∧ (∀ j, j ≠ 8 → j ≠ 9 → j ≠ 12 → j ≠ 30 → M.1 j = mF j)
  ∧ RS C.2.2.2.2.2 so si (M.2.2.2.2.1 K) (ad K) (po K) (ne K) (fi K) (M.2.2.2.2.2.2.1 K) (wi K) (M.2.2.2.2.2.1 K) (M.2.2.2.2.2.2.2.2.2 K) (M.2.2.2.2.2.2.2.2.1 K) (qd K) (M.2.2.2.2.2.2.2.1 K) (fun i => qu (64 * K + i)) (fun i => bx (16 * K + i))
  ∧ (∀ j, j ≠ K → M.2.2.2.2.1 j = st j ∧ M.2.2.2.2.2.1 j = pa j ∧ M.2.2.2.2.2.2.1 j = se j ∧ M.2.2.2.2.2.2.2.1 j = bd j ∧ M.2.2.2.2.2.2.2.2.1 j = ti j ∧ M.2.2.2.2.2.2.2.2.2 j = tr j) ∧ T ≤ (C.2.2.1 4).toInt ∧ (C.2.2.1 4).toInt ≤ T + 200
theorem sim_beat {fR sg fW wst wl : (Nat → Int32)} {wr : (Nat → Nat → Int32)} {fS so si mF kn out ol sd st ad po ne fi se wi pa tr ti qd bd qu bx : (Nat → Int32)} {k : Int32} {K : Nat} (hk : k.toInt = K) (hK : K < 3) (hF : R_F fW wl wr mF out ol) (hid : fW 5 = mF 9) (hKn : R_K wst kn) (hr6 : fR 6 = mF 12) (e2 : fS 2 = st K) (hst : ¬ st K = 0) (hfs : ¬ fi K = se K)
    (hS : RS1 fS so si (st K) (ad K) (po K) (ne K) (fi K) (se K) (wi K) (pa K) (tr K) (ti K) (qd K) (bd K) (fun i => qu (64 * K + i)) (fun i => bx (16 * K + i))) (hT : (fW 4).toInt < 1900000000) :
    BeP (FX6_runTimer fR sg fW wst wl wr fS so si) (FX10_beat mF kn out ol sd st wi pa se fi qd po ne bd bx qu ad ti tr k) fR so si st ad po ne fi se wi pa tr ti qd bd qu bx mF K (fW 4).toInt := by
  have ek : k.toNatClampNeg = K := tcE hk
  obtain ⟨s4, e3, r3, e4, r4, e5, r5, e6, r6, e7, r7, e10, r10, e11, r11, e12, q12, e8, r8, e9, r9, t1, t0, hq, hb, w2, w4, w1⟩ := id hS
  have h13 := t1 hfs
  unfold FX6_runTimer FX5_tickEndsTimer FX10_beat
  rw [ek, pk_us, e2, if_neg hst, e6, e7, if_neg hfs, e12, h13]
  by_cases q : ((4 : Int32) <<< (tr K &&& 31)) ≤ ti K + 1
  · rw [if_pos q, if_neg (show ¬ ti K + 1 < ((4 : Int32) <<< (tr K &&& 31)) from fun e => by have a := lT e; have b := iT q; omega)]
    unfold KX6_runTimer_1
    dsimp only
    rw [if_neg (show ¬ (1 : Int32) = 0 by decide)]
    have e12' : upd fS 13 (ti K + 1) 12 = tr K := e12
    by_cases t3 : tr K = 3
    · rw [if_pos t3, if_neg (show ¬ upd fS 13 (ti K + 1) 12 < 3 by rw [e12', t3]; decide)]
      unfold KX6_runTimer_29 KX10_beat_57
      rw [show upd fS 13 (ti K + 1) 3 = ad K from e3, show upd fS 13 (ti K + 1) 4 = po K from e4, show upd fS 13 (ti K + 1) 7 = se K from e7, ek]
      obtain ⟨x1, x2, x3, x4, x5⟩ := sim_reset (fR := fR) (sg := sg) (sd := sd) (i0 := ad K) (i1 := po K) (i2 := se K) hF (by omega) hid hKn r3.1 r3.2 r4 r7
      refine ⟨x1, x2, rfl, rfl, ?_, fun j j8 j9 _ j30 => x5 j j8 j9 j30, ⟨?_, fun e => absurd (pk_us (f := st) (k := K) (x := 0)) e⟩, fun j hj => ⟨pk_un hj, rfl, rfl, rfl, pk_un hj, rfl⟩, ?_, ?_⟩
      · show fR 6 = (FX10_reset mF kn out ol sd (ad K) (po K) (se K)).1 12
        rw [x5 12 (by decide) (by decide) (by decide)]; exact hr6
      · show (0 : Int32) = upd st K 0 K
        rw [pk_us]
      · show _ ≤ ((FX6_sendReset fR sg fW wst wl wr (ad K) (po K) (se K)).2.1 4).toInt
        omega
      · show ((FX6_sendReset fR sg fW wst wl wr (ad K) (po K) (se K)).2.1 4).toInt ≤ _
        omega
    · have t3' : (tr K).toInt < 3 := by have := neT (a := 3) t3 rfl; omega
      rw [if_neg t3, if_pos (show upd fS 13 (ti K + 1) 12 < 3 by rw [e12']; exact Int32.lt_iff_toInt_lt.mpr (by rw [k3]; omega))]
      have et := tI_s (a := tr K) (by omega)
      unfold KX6_runTimer_39
      by_cases s1 : st K = 1
      · have gb : FX5_goBack (upd fS 13 (ti K + 1)) = upd (upd (upd (upd (upd fS 13 (ti K + 1)) 12 (tr K + 1)) 11 1) 13 0) 7 (fi K) := by
          unfold FX5_goBack
          rw [if_neg (show ¬ upd fS 13 (ti K + 1) 2 = 4 from fun e => by rw [show upd fS 13 (ti K + 1) 2 = st K from e2, s1] at e; exact absurd e (by decide)), e12', show upd fS 13 (ti K + 1) 6 = fi K from e6]
        rw [if_pos s1, gb, if_pos (show upd (upd (upd (upd (upd fS 13 (ti K + 1)) 12 (tr K + 1)) 11 1) 13 0) 7 (fi K) 2 = 1 from e2.trans s1)]
        generalize hf2 : upd (upd (upd (upd (upd fS 13 (ti K + 1)) 12 (tr K + 1)) 11 1) 13 0) 7 (fi K) = f2
        have g : ∀ j, j ≠ 7 → j ≠ 13 → j ≠ 11 → j ≠ 12 → f2 j = fS j := fun j a b c d => by rw [← hf2, pk_un a, pk_un b, pk_un c, pk_un d, pk_un b]
        have g7 : f2 7 = fi K := by rw [← hf2, pk_us]
        have g13 : f2 13 = 0 := by rw [← hf2]; rfl
        have g11 : f2 11 = 1 := by rw [← hf2]; rfl
        have g12 : f2 12 = tr K + 1 := by rw [← hf2]; rfl
        obtain ⟨a1, a2, a3, a4, a5, a6⟩ := sim_tell (fR := upd fR 6 (fR 6 + 1)) (sg := sg) (fS := f2) (so := so) (mF := upd mF 12 (mF 12 + 1)) (sd := sd) (po := po) (se := upd se K (fi K)) (ne := ne) (bd := bd) (ad := ad) hF (by omega) hid hKn (k := k) (fl := 18) (by unfold oct; decide) (by rw [ek]; exact (g 3 (by decide) (by decide) (by decide) (by decide)).trans e3) (by rw [ek]; exact r3) (by rw [ek]; exact (g 4 (by decide) (by decide) (by decide) (by decide)).trans e4) (by rw [ek]; exact r4) (by rw [ek]; exact (g 5 (by decide) (by decide) (by decide) (by decide)).trans e5) (by rw [ek]; exact r5) (by rw [ek, pk_us]; exact g7) (by rw [ek, pk_us]; exact r6) (by rw [ek]; exact (g 9 (by decide) (by decide) (by decide) (by decide)).trans e9) (by rw [ek]; exact r9)
        rw [if_neg (show ¬ ((18 : Int32) &&& 3) = 0 by decide)] at a6
        unfold KX6_runTimer_65 KX10_beat_128 KX10_beat_134
        rw [ek]
        obtain ⟨b1, b2, b3, b4, b5, b6, b7, b8⟩ := sim_adv (fS := f2) (mF := (FX10_tell (upd mF 12 (mF 12 + 1)) kn out ol sd po (upd se K (fi K)) ne bd ad k 18).1) (se := upd se K (fi K)) (fi := fi) (ti := upd (upd ti K (ti K + 1)) K 0) (k := k) (i1 := 0 + 1) (m := 1) hk ((g 6 (by decide) (by decide) (by decide) (by decide)).trans e6) r6 (by rw [pk_us]; exact g7) (by rw [pk_us]; exact r6) rfl (by omega) (by rw [pk_us, wayI r6 r6]; omega) (fun e => absurd (by rw [pk_us]) e)
        have g' : ∀ j, j ≠ 7 → j ≠ 13 → j ≠ 11 → j ≠ 12 → FX5_goOn f2 (0 + 1) j = fS j := fun j a b c d => (b7 j a b).trans (g j a b c d)
        refine ⟨a1, a2, rfl, rfl, ?_, fun j j8 j9 j12 j30 => (a5 j j8 j9 j30).trans (pk_un j12), ?_, fun j hj => ⟨rfl, pk_un hj, (b5 j hj).trans (pk_un hj), rfl, (b6 j hj).trans (by rw [pk_un hj, pk_un hj]), pk_un hj⟩, ?_, ?_⟩
        · show fR 6 + 1 = (FX10_tell (upd mF 12 (mF 12 + 1)) kn out ol sd po (upd se K (fi K)) ne bd ad k 18).1 12
          rw [a5 12 (by decide) (by decide) (by decide), pk_us, hr6]
        · show RS (FX6_send (upd fR 6 (fR 6 + 1)) sg fW wst wl wr f2 so 18 0).2.2.2.2 so si (st K) (ad K) (po K) (ne K) (fi K) ((FX10_advance (FX10_tell (upd mF 12 (mF 12 + 1)) kn out ol sd po (upd se K (fi K)) ne bd ad k 18).1 (upd se K (fi K)) fi (upd (upd ti K (ti K + 1)) K 0) k 1).1 K) (wi K) (upd pa K 1 K) (upd tr K (tr K + 1) K) ((FX10_advance (FX10_tell (upd mF 12 (mF 12 + 1)) kn out ol sd po (upd se K (fi K)) ne bd ad k 18).1 (upd se K (fi K)) fi (upd (upd ti K (ti K + 1)) K 0) k 1).2 K) (qd K) (bd K) _ _
          rw [a6, pk_us, pk_us]
          refine ⟨(g' 2 (by decide) (by decide) (by decide) (by decide)).trans e2, fun _ => ?_⟩
          exact ⟨s4, ((g' 3 (by decide) (by decide) (by decide) (by decide)).trans e3), r3, ((g' 4 (by decide) (by decide) (by decide) (by decide)).trans e4), r4, ((g' 5 (by decide) (by decide) (by decide) (by decide)).trans e5), r5, ((g' 6 (by decide) (by decide) (by decide) (by decide)).trans e6), r6, (b1), (b2), ((g' 10 (by decide) (by decide) (by decide) (by decide)).trans e10), r10, ((b7 11 (by decide) (by decide)).trans g11), ((by decide)), ((b7 12 (by decide) (by decide)).trans g12), ((by omega)), ((g' 8 (by decide) (by decide) (by decide) (by decide)).trans e8), r8, ((g' 9 (by decide) (by decide) (by decide) (by decide)).trans e9), r9, (fun _ => b4), (fun e => absurd e b3), hq, hb, (fun e => absurd e (by rw [s1]; decide)), (fun e => absurd e (by rw [s1]; decide)), (fun _ => by have b9 := b8; rw [pk_us, wayI r6 r6] at b9; exact Int.le_of_eq (b9.trans (by omega)))⟩
        · show _ ≤ ((FX6_send (upd fR 6 (fR 6 + 1)) sg fW wst wl wr f2 so 18 0).2.1 4).toInt
          omega
        · show ((FX6_send (upd fR 6 (fR 6 + 1)) sg fW wst wl wr f2 so 18 0).2.1 4).toInt ≤ _
          omega
      · -- the rest is pushed
        have fin : ∀ (f2 st2 : (Nat → Int32)), f2 2 = st2 K → (st2 K = 2 ∨ st2 K = 3) → (∀ j, j ≠ K → st2 j = st j) → (∀ j, j ≠ 2 → f2 j = upd (upd (upd (upd (upd fS 13 (ti K + 1)) 12 (tr K + 1)) 11 1) 13 0) 7 (fi K) j) → BeP (KX6_runTimer_73 fR (fR 6 + 1) (FX6_push (upd fR 6 (fR 6 + 1)) sg fW wst wl wr f2 so si)) (JX10_beat_155 mF kn out ol sd wi pa se fi qd po ne bd bx qu ad ti tr k (ti K + 1) (tr K + 1) (fi K) (mF 12 + 1) st2) fR so si st ad po ne fi se wi pa tr ti qd bd qu bx mF K (fW 4).toInt := by
          intro f2 st2 f22 hs2 hsj hf
          have g : ∀ j, j ≠ 7 → j ≠ 13 → j ≠ 11 → j ≠ 12 → j ≠ 2 → f2 j = fS j := fun j a b c d e => by rw [hf j e, pk_un a, pk_un b, pk_un c, pk_un d, pk_un b]
          have w0 : ((fi K - fi K) &&& 255).toInt = 0 := by rw [wayI r6 r6]; omega
          have hS2 : RS1 f2 so si (st2 K) (ad K) (po K) (ne K) (fi K) (upd se K (fi K) K) (wi K) (upd pa K 1 K) (tr K + 1) (upd (upd ti K (ti K + 1)) K 0 K) (qd K) (bd K) (fun i => qu (64 * K + i)) (fun i => bx (16 * K + i)) := by
            rw [pk_us, pk_us, pk_us]
            exact ⟨(Or.inr (hs2.elim Or.inl (fun e => Or.inr (Or.inl e)))), ((g 3 (by decide) (by decide) (by decide) (by decide) (by decide)).trans e3), r3, ((g 4 (by decide) (by decide) (by decide) (by decide) (by decide)).trans e4), r4, ((g 5 (by decide) (by decide) (by decide) (by decide) (by decide)).trans e5), r5, ((g 6 (by decide) (by decide) (by decide) (by decide) (by decide)).trans e6), r6, (hf 7 (by decide)), (r6), ((g 10 (by decide) (by decide) (by decide) (by decide) (by decide)).trans e10), r10, (hf 11 (by decide)), ((by decide)), (hf 12 (by decide)), ((by omega)), ((g 8 (by decide) (by decide) (by decide) (by decide) (by decide)).trans e8), r8, ((g 9 (by decide) (by decide) (by decide) (by decide) (by decide)).trans e9), r9, (fun e => absurd rfl e), (fun _ => hf 13 (by decide)), hq, hb, (fun _ => by rw [w0]; omega), (fun _ => by rw [w0]; omega), (fun _ => by rw [w0]; omega)⟩
          obtain ⟨x1, x2, x3, x4, x5, x6, x7, x8, x9⟩ := sim_push (fR := upd fR 6 (fR 6 + 1)) (sg := sg) (fS := f2) (so := so) (si := si) (mF := upd mF 12 (mF 12 + 1)) (sd := sd) (st := st2) (pa := upd pa K 1) (se := upd se K (fi K)) (ti := upd (upd ti K (ti K + 1)) K 0) hk hK hF hid hKn f22 hs2 hS2 hT
          unfold KX6_runTimer_73 JX10_beat_155 KX10_beat_157
          rw [ek]
          generalize FX6_push (upd fR 6 (fR 6 + 1)) sg fW wst wl wr f2 so si = u at x1 x2 x3 x4 x5 x6 x7 x8 x9 ⊢
          generalize FX10_push (upd mF 12 (mF 12 + 1)) kn out ol sd st2 wi (upd pa K 1) (upd se K (fi K)) fi qd po ne bd bx qu ad (upd (upd ti K (ti K + 1)) K 0) k = v at x1 x2 x3 x4 x5 x6 x7 x8 x9 ⊢
          refine ⟨x1, x2, rfl, rfl, ?_, fun j j8 j9 j12 j30 => (x9 j j8 j9 j30).trans (pk_un j12), ⟨x3, fun _ => ?_⟩, fun j hj => ?_, ?_, x7⟩
          · show fR 6 + 1 = _
            rw [hr6]
            exact (x9 12 (by decide) (by decide) (by decide)).symm
          · show RS1 _ so si _ (ad K) (po K) (ne K) (fi K) _ (wi K) (upd pa K 1 K) (upd tr K (tr K + 1) K) _ (qd K) _ _ _
            rw [pk_us (f := tr)]
            exact x4
          · obtain ⟨y1, y2, y3, y4⟩ := x8 j hj
            exact ⟨y1.trans (hsj j hj), pk_un hj, y2.trans (pk_un hj), y3, y4.trans (by rw [pk_un hj, pk_un hj]), pk_un hj⟩
          · by_cases z : u.1 = 0
            · exact Int.le_of_eq (x5 z).symm
            · exact Int.le_of_lt (x6 z)
        rw [if_neg s1]
        by_cases s4' : st K = 4
        · have gb : FX5_goBack (upd fS 13 (ti K + 1)) = upd (upd (upd (upd (upd (upd fS 13 (ti K + 1)) 12 (tr K + 1)) 11 1) 13 0) 7 (fi K)) 2 3 := by
            unfold FX5_goBack
            rw [if_pos (show upd fS 13 (ti K + 1) 2 = 4 from e2.trans s4'), e12', show upd fS 13 (ti K + 1) 6 = fi K from e6]
          rw [if_pos s4', gb, if_neg (show ¬ upd (upd (upd (upd (upd (upd fS 13 (ti K + 1)) 12 (tr K + 1)) 11 1) 13 0) 7 (fi K)) 2 3 2 = 1 by rw [pk_us]; decide)]
          exact fin _ _ (by rw [pk_us, pk_us]) (Or.inr pk_us) (fun j hj => pk_un hj) (fun j hj => pk_un hj)
        · have gb : FX5_goBack (upd fS 13 (ti K + 1)) = upd (upd (upd (upd (upd fS 13 (ti K + 1)) 12 (tr K + 1)) 11 1) 13 0) 7 (fi K) := by
            unfold FX5_goBack
            rw [if_neg (show ¬ upd fS 13 (ti K + 1) 2 = 4 from fun e => s4' (e2.symm.trans e)), e12', show upd fS 13 (ti K + 1) 6 = fi K from e6]
          rw [if_neg s4', gb, if_neg (show ¬ upd (upd (upd (upd (upd fS 13 (ti K + 1)) 12 (tr K + 1)) 11 1) 13 0) 7 (fi K) 2 = 1 from fun e => s1 (e2.symm.trans e))]
          refine fin _ _ e2 ?_ (fun j hj => rfl) (fun j hj => rfl)
          rcases s4 with a | a | a | a
          · exact absurd a s1
          · exact Or.inl a
          · exact Or.inr a
          · exact absurd a s4'
  · rw [if_neg q, if_pos (show ti K + 1 < ((4 : Int32) <<< (tr K &&& 31)) from Int32.lt_iff_toInt_lt.mpr (by have := iTn q; omega))]
    unfold KX6_runTimer_1
    dsimp only
    rw [if_pos (show (0 : Int32) = 0 from rfl)]
    refine ⟨hF, hid, rfl, rfl, hr6, fun _ _ _ _ _ => rfl, ⟨e2, fun _ => ?_⟩, fun j hj => ⟨rfl, rfl, rfl, rfl, pk_un hj, rfl⟩, Int.le_refl _, by show (fW 4).toInt ≤ _; omega⟩
    show RS1 (upd fS 13 (ti K + 1)) so si (st K) (ad K) (po K) (ne K) (fi K) (se K) (wi K) (pa K) (tr K) (upd ti K (ti K + 1) K) (qd K) (bd K) _ _
    rw [pk_us]
    exact ⟨s4, e3, r3, e4, r4, e5, r5, e6, r6, e7, r7, e10, r10, e11, r11, e12, q12, e8, r8, e9, r9, (fun _ => rfl), (fun e => absurd e hfs), hq, hb, w2, w4, w1⟩
def tkS (mF kn out ol sd st wi pa se fi qd po ne bd bx qu ad ti tr : (Nat → Int32)) (k : Int32) : (Nat → Int32) × (Nat → Int32) × (Nat → Int32) × (Nat → Int32) × (Nat → Int32) × (Nat → Int32) × (Nat → Int32) × (Nat → Int32) × (Nat → Int32) × (Nat → Int32) := if st k.toNatClampNeg = 0 then (mF, out, ol, sd, st, pa, se, bd, ti, tr) else if FX10_way mF se fi k ≤ 0 then (mF, out, ol, sd, st, pa, se, bd, ti, tr) else FX10_beat mF kn out ol sd st wi pa se fi qd po ne bd bx qu ad ti tr k
theorem sim_tkS {fR sg fW wst wl : (Nat → Int32)} {wr : (Nat → Nat → Int32)} {fS so si mF kn out ol sd st ad po ne fi se wi pa tr ti qd bd qu bx : (Nat → Int32)} {k : Int32} {K : Nat} (hk : k.toInt = K) (hK : K < 3) (hF : R_F fW wl wr mF out ol) (hid : fW 5 = mF 9) (hKn : R_K wst kn) (hr6 : fR 6 = mF 12)
    (hS : RS fS so si (st K) (ad K) (po K) (ne K) (fi K) (se K) (wi K) (pa K) (tr K) (ti K) (qd K) (bd K) (fun i => qu (64 * K + i)) (fun i => bx (16 * K + i))) (hT : (fW 4).toInt < 1900000000) :
    BeP (FX6_runTimer fR sg fW wst wl wr fS so si) (tkS mF kn out ol sd st wi pa se fi qd po ne bd bx qu ad ti tr k) fR so si st ad po ne fi se wi pa tr ti qd bd qu bx mF K (fW 4).toInt := by
  have ek : k.toNatClampNeg = K := tcE hk
  obtain ⟨e2, h1⟩ := id hS
  have skip : FX5_tickEndsTimer fS = (0, fS) → BeP (FX6_runTimer fR sg fW wst wl wr fS so si) (mF, out, ol, sd, st, pa, se, bd, ti, tr) fR so si st ad po ne fi se wi pa tr ti qd bd qu bx mF K (fW 4).toInt := fun e => by
    unfold FX6_runTimer
    rw [e]
    unfold KX6_runTimer_1
    dsimp only
    rw [if_pos (show (0 : Int32) = 0 from rfl)]
    exact ⟨hF, hid, rfl, rfl, hr6, fun _ _ _ _ _ => rfl, hS, fun j hj => ⟨rfl, rfl, rfl, rfl, rfl, rfl⟩, Int.le_refl _, by show (fW 4).toInt ≤ _; omega⟩
  unfold tkS
  rw [ek]
  by_cases z : st K = 0
  · rw [if_pos z]
    refine skip ?_
    unfold FX5_tickEndsTimer
    rw [if_pos (e2.trans z)]
  · rw [if_neg z]
    have hS1 := h1 z
    obtain ⟨s4, e3, r3, e4, r4, e5, r5, e6, r6, e7, r7, e10, r10, e11, r11, e12, q12, e8, r8, e9, r9, t1, t0, hq, hb, w2, w4, w1⟩ := id hS1
    have hw := wayI r7 r6
    obtain ⟨p0, p1⟩ := id r6
    obtain ⟨p2, p3⟩ := id r7
    by_cases c : fi K = se K
    · rw [if_pos (show FX10_way mF se fi k ≤ 0 from Int32.le_iff_toInt_le.mpr (by unfold FX10_way; rw [ek, hw, k0, c]; omega))]
      refine skip ?_
      unfold FX5_tickEndsTimer
      rw [if_neg (fun e => z (e2.symm.trans e)), if_pos (e6.trans (c.trans e7.symm))]
    · rw [if_neg (show ¬ FX10_way mF se fi k ≤ 0 from fun e => c (Int32.toInt_inj.mp (by
        have e := iT e
        unfold FX10_way at e
        rw [ek, hw, k0] at e; omega)))]
      exact sim_beat hk hK hF hid hKn hr6 e2 z c hS1 hT

