-- the simulation: ticks
def RM (fM mo : (Nat → Int32)) (us so di un la si pr tk : Int32) (pc : (Nat → Int32)) : Prop := fM 1 = us ∧ (us = 0 ∨ us = 1) ∧ (∀ i, i < 32 → mo i = pc i ∧ oct (pc i)) ∧ (¬ us = 0 → fM 2 = so ∧ (0 ≤ so.toInt ∧ so.toInt < 16) ∧ fM 3 = di ∧ fM 5 = un ∧ oct un ∧ fM 6 = la ∧ (la = -1 ∨ (4 ≤ la.toInt ∧ la.toInt ≤ 32 ∧ un.toInt < 2 ^ ((la.toInt.toNat + 3) / 4))) ∧ fM 7 = tk - si ∧ (0 ≤ (tk - si).toInt ∧ (tk - si).toInt < 15) ∧ (un.toInt % 2 = 1 → fM 4 = pr))
def R_M (fG : (Nat → Int32)) (fMs mos : (Nat → Nat → Int32)) (mF us so di un la si od pr pc : (Nat → Int32)) : Prop := (∀ k, k < 2 → RM (fMs k) (mos k) (us k) (so k) (di k) (un k) (la k) (si k) (pr k) (mF 5) (fun i => pc (32 * k + i))) ∧ (fG 1 = 0 ∨ fG 1 = 1) ∧ (¬ us 0 = 0 → ¬ us 1 = 0 → (fG 1 = 1 → (od 0).toInt < (od 1).toInt) ∧ (fG 1 = 0 → (od 1).toInt < (od 0).toInt)) ∧ (∀ k, k < 2 → ¬ us k = 0 → (od k).toInt < (mF 27).toInt) ∧ 0 ≤ (mF 27).toInt
def gk (u f s : Int32) : Int32 := if u = 0 then u else if f - s = 15 then 0 else u
def gC (fM : (Nat → Int32)) : (Nat → Int32) := if fM 7 + 1 < 15 then upd fM 7 (fM 7 + 1) else upd (upd fM 7 (fM 7 + 1)) 1 0
theorem grow_eq {fG : (Nat → Int32)} {fMs : (Nat → Nat → Int32)} : FX3_grow fG fMs = va_up (va_up fMs 0 (gC (fMs 0))) 1 (gC (fMs 1)) := by
  unfold FX3_grow gC
  by_cases a : fMs 0 7 + 1 < 15
  · by_cases b : fMs 1 7 + 1 < 15
    · rw [if_pos a, if_pos b, if_pos a, if_pos b]
    · rw [if_pos a, if_neg b, if_pos a, if_neg b]
  · by_cases b : fMs 1 7 + 1 < 15
    · rw [if_neg a, if_pos b, if_neg a, if_pos b]
    · rw [if_neg a, if_neg b, if_neg a, if_neg b]
theorem sub_s (a b : Int32) : a + 1 - b = a - b + 1 := by
  rw [Int32.sub_eq_add_neg, Int32.sub_eq_add_neg, Int32.add_assoc, Int32.add_comm 1, ← Int32.add_assoc]
theorem RM_gk {fM mo : (Nat → Int32)} {us so di un la si pr tk : Int32} {pc : (Nat → Int32)} (h : RM fM mo us so di un la si pr tk pc) : RM (gC fM) mo (gk us (tk + 1) si) so di un la si pr (tk + 1) pc := by
  obtain ⟨h1, h2, h3, h4⟩ := h
  unfold gC gk
  rw [sub_s]
  by_cases z : us = 0
  · rw [if_pos z]
    refine ⟨?_, h2, h3, fun e => absurd z e⟩
    split
    · exact h1
    · rw [z]; rfl
  · obtain ⟨a1, a2, a3, a4, a5, a6, a7, a8, a9, a10⟩ := h4 z
    have e := tI_s (a := tk - si) (by omega)
    rw [if_neg z, a8]
    by_cases q : tk - si + 1 = 15
    · rw [if_pos q, if_neg (show ¬ tk - si + 1 < 15 by rw [q]; decide)]
      exact ⟨rfl, Or.inl rfl, h3, fun e => absurd rfl e⟩
    · have := neT (a := 15) q rfl
      rw [if_neg q, if_pos (show tk - si + 1 < 15 from Int32.lt_iff_toInt_lt.mpr (by rw [k15]; omega))]
      exact ⟨h1, h2, h3, fun _ => ⟨a1, a2, a3, a4, a5, a6, a7, by rw [sub_s]; rfl, by rw [sub_s]; omega, a10⟩⟩
theorem tick37 {kn wi fi qd po ne bx qu ad si mF sd out ol st pa se ti tr bd : (Nat → Int32)} {y3 f5 : Int32} {lf : Int32 → (Nat → Int32) → (Nat → Int32) → (Nat → Int32) → (Nat → Int32) → (Nat → Int32) → (Nat → Int32) → (Nat → Int32) → (Nat → Int32) → (Nat → Int32) → (Nat → Int32) → (Nat → Int32) → Int32 × (Nat → Int32) × (Nat → Int32) × (Nat → Int32) × (Nat → Int32) × (Nat → Int32) × (Nat → Int32) × (Nat → Int32) × (Nat → Int32) × (Nat → Int32) × (Nat → Int32) × (Nat → Int32)} : ∀ (n : Nat) (y : Int32) (Y : Nat) (z : (Nat → Int32)), y.toInt = Y → Y ≤ 2 → 2 - Y < n →
    ∃ z', LX10_tick_37 kn wi fi qd po ne bx qu ad si y3 mF sd out ol st pa se ti tr bd f5 lf n y z = LX10_tick_87 kn wi fi qd po ne bx qu ad y3 z' lf 128 0 (upd mF 5 f5) sd out ol st pa se ti tr bd ∧ (∀ k, Y ≤ k → k < 2 → z' k = gk (z k) f5 (si k)) ∧ (∀ k, k < Y → z' k = z k) := by
  intro n
  induction n with
  | zero => intro y Y z _ _ h; omega
  | succ n ih =>
    intro y Y z hy hY h
    rw [LX10_tick_37]
    by_cases q : 2 ≤ y
    · have q' := iT q
      rw [k2] at q'
      rw [if_pos q]
      exact ⟨z, rfl, fun k a b => by omega, fun _ _ => rfl⟩
    · have q' := iTn q
      rw [k2] at q'
      have h9 := tI_s (a := y) (by omega)
      rw [if_neg q, tcE hy]
      by_cases a : z Y = 0
      · rw [if_pos a]
        obtain ⟨z', p, r, s⟩ := ih (y + 1) (Y + 1) z (by omega) (by omega) (by omega)
        refine ⟨z', p, fun k k0 k1 => ?_, fun k hk => s k (by omega)⟩
        by_cases e : k = Y
        · subst e
          rw [s k (by omega), gk, if_pos a]
        · exact r k (by omega) k1
      · rw [if_neg a]
        by_cases b : f5 - si Y = 15
        · rw [if_pos b]
          obtain ⟨z', p, r, s⟩ := ih (y + 1) (Y + 1) (upd z Y 0) (by omega) (by omega) (by omega)
          refine ⟨z', p, fun k k0 k1 => ?_, fun k hk => by rw [s k (by omega), pk_un (by omega)]⟩
          by_cases e : k = Y
          · subst e
            rw [s k (by omega), pk_us, gk, if_neg a, if_pos b]
          · rw [r k (by omega) k1, pk_un e]
        · rw [if_neg b]
          obtain ⟨z', p, r, s⟩ := ih (y + 1) (Y + 1) z (by omega) (by omega) (by omega)
          refine ⟨z', p, fun k k0 k1 => ?_, fun k hk => s k (by omega)⟩
          by_cases e : k = Y
          · subst e
            rw [s k (by omega), gk, if_neg a, if_neg b]
          · exact r k (by omega) k1
theorem tick87 {kn wi fi qd po ne bx qu ad us mF sd out ol st pa se ti tr bd : (Nat → Int32)} {y3 y : Int32} {lf : Int32 → (Nat → Int32) → (Nat → Int32) → (Nat → Int32) → (Nat → Int32) → (Nat → Int32) → (Nat → Int32) → (Nat → Int32) → (Nat → Int32) → (Nat → Int32) → (Nat → Int32) → (Nat → Int32) → Int32 × (Nat → Int32) × (Nat → Int32) × (Nat → Int32) × (Nat → Int32) × (Nat → Int32) × (Nat → Int32) × (Nat → Int32) × (Nat → Int32) × (Nat → Int32) × (Nat → Int32) × (Nat → Int32)} (n : Nat) (h : ¬ 3 ≤ y) :
    LX10_tick_87 kn wi fi qd po ne bx qu ad y3 us lf (n + 1) y mF sd out ol st pa se ti tr bd = LX10_tick_87 kn wi fi qd po ne bx qu ad y3 us lf n (y + 1) (tkS mF kn out ol sd st wi pa se fi qd po ne bd bx qu ad ti tr y).1 (tkS mF kn out ol sd st wi pa se fi qd po ne bd bx qu ad ti tr y).2.2.2.1 (tkS mF kn out ol sd st wi pa se fi qd po ne bd bx qu ad ti tr y).2.1 (tkS mF kn out ol sd st wi pa se fi qd po ne bd bx qu ad ti tr y).2.2.1 (tkS mF kn out ol sd st wi pa se fi qd po ne bd bx qu ad ti tr y).2.2.2.2.1 (tkS mF kn out ol sd st wi pa se fi qd po ne bd bx qu ad ti tr y).2.2.2.2.2.1 (tkS mF kn out ol sd st wi pa se fi qd po ne bd bx qu ad ti tr y).2.2.2.2.2.2.1 (tkS mF kn out ol sd st wi pa se fi qd po ne bd bx qu ad ti tr y).2.2.2.2.2.2.2.2.1 (tkS mF kn out ol sd st wi pa se fi qd po ne bd bx qu ad ti tr y).2.2.2.2.2.2.2.2.2 (tkS mF kn out ol sd st wi pa se fi qd po ne bd bx qu ad ti tr y).2.2.2.2.2.2.2.1 := by
  rw [LX10_tick_87, if_neg h]
  unfold tkS
  by_cases a : st y.toNatClampNeg = 0
  · rw [if_pos a, if_pos a]
  · rw [if_neg a, if_neg a]
    by_cases b : FX10_way mF se fi y ≤ 0
    · rw [if_pos b, if_pos b]
    · rw [if_neg b, if_neg b]; rfl
def TkR (fR fW wst wl : (Nat → Int32)) (wr fSs sos sis : (Nat → Nat → Int32)) (mF kn out ol st wi pa se fi qd po ne bd bx qu ad ti tr : (Nat → Int32)) : Prop := R_F fW wl wr mF out ol ∧ fW 5 = mF 9 ∧ R_K wst kn ∧ fR 6 = mF 12 ∧ R_Ss fSs sos sis st wi pa se fi qd po ne bd bx qu ad ti tr
theorem sim_tk1 {fR sg fW wst wl : (Nat → Int32)} {wr fSs sos sis : (Nat → Nat → Int32)} {mF kn out ol sd st wi pa se fi qd po ne bd bx qu ad ti tr : (Nat → Int32)} (h : TkR fR fW wst wl wr fSs sos sis mF kn out ol st wi pa se fi qd po ne bd bx qu ad ti tr) {k : Int32} {K : Nat} (hk : k.toInt = K) (hK : K < 3) (hT : (fW 4).toInt < 1900000000) {c : (Nat → Int32) × (Nat → Int32) × (Nat → Int32) × (Nat → Int32) × (Nat → Nat → Int32) × (Nat → Int32)} {m : (Nat → Int32) × (Nat → Int32) × (Nat → Int32) × (Nat → Int32) × (Nat → Int32) × (Nat → Int32) × (Nat → Int32) × (Nat → Int32) × (Nat → Int32) × (Nat → Int32)} (hc : FX6_runTimer fR sg fW wst wl wr (fSs K) (sos K) (sis K) = c) (hm : tkS mF kn out ol sd st wi pa se fi qd po ne bd bx qu ad ti tr k = m) :
    TkR c.1 c.2.2.1 wst c.2.2.2.1 c.2.2.2.2.1 (va_up fSs K c.2.2.2.2.2) sos sis m.1 kn m.2.1 m.2.2.1 m.2.2.2.2.1 wi m.2.2.2.2.2.1 m.2.2.2.2.2.2.1 fi qd po ne m.2.2.2.2.2.2.2.1 bx qu ad m.2.2.2.2.2.2.2.2.1 m.2.2.2.2.2.2.2.2.2 ∧ c.1 4 = fR 4 ∧ c.1 5 = fR 5 ∧ (∀ j, j ≠ 8 → j ≠ 9 → j ≠ 12 → j ≠ 30 → m.1 j = mF j) ∧ (fW 4).toInt ≤ (c.2.2.1 4).toInt ∧ (c.2.2.1 4).toInt ≤ (fW 4).toInt + 200 := by
  obtain ⟨h1, h2, h3, h4, h5⟩ := h
  obtain ⟨x1, x2, x3, x4, x5, x6, x7, x8, x9, x10⟩ := sim_tkS (sg := sg) (sd := sd) hk hK h1 h2 h3 h4 (h5 K hK) hT
  rw [hc] at x1 x2 x3 x4 x5 x7 x9 x10
  rw [hm] at x1 x2 x5 x6 x7 x8
  refine ⟨⟨x1, x2, h3, x5, ?_⟩, x3, x4, x6, x9, x10⟩
  refine R_Ss_up (K := K) h5 (fun j hj => ⟨vu_n hj, rfl, rfl⟩) (fun j hj => ?_) (fun _ _ => rfl) (fun _ _ => rfl) ?_
  · obtain ⟨y1, y2, y3, y4, y5, y6⟩ := x8 j hj
    exact ⟨y1, rfl, y2, y3, rfl, rfl, rfl, rfl, y4, rfl, y5, y6⟩
  · rw [vu_s]; exact x7
theorem R_M_gk {fG : (Nat → Int32)} {fMs mos : (Nat → Nat → Int32)} {mF mF' us us' so di un la si od pr pc : (Nat → Int32)} (h : R_M fG fMs mos mF us so di un la si od pr pc) (h5 : mF' 5 = mF 5 + 1) (h27 : mF' 27 = mF 27) (hu : ∀ k, k < 2 → us' k = gk (us k) (mF 5 + 1) (si k)) : R_M fG (FX3_grow fG fMs) mos mF' us' so di un la si od pr pc := by
  obtain ⟨h1, h2, h3, h4, h6⟩ := h
  have hz : ∀ k, k < 2 → ¬ us' k = 0 → ¬ us k = 0 := fun k hk e q => e (by rw [hu k hk, gk, if_pos q]; exact q)
  refine ⟨fun k hk => ?_, h2, fun a b => h3 (hz 0 (by omega) a) (hz 1 (by omega) b), fun k hk e => by rw [h27]; exact h4 k hk (hz k hk e), by rw [h27]; exact h6⟩
  rw [hu k hk, h5, grow_eq]
  obtain rfl | rfl : k = 0 ∨ k = 1 := by omega
  · rw [vu_n (by decide), vu_s]
    exact RM_gk (h1 0 (by omega))
  · rw [vu_s]
    exact RM_gk (h1 1 (by omega))
theorem R_M_e {fG : (Nat → Int32)} {fMs mos : (Nat → Nat → Int32)} {mF mF' us so di un la si od pr pc : (Nat → Int32)} (h : R_M fG fMs mos mF us so di un la si od pr pc) (h5 : mF' 5 = mF 5) (h27 : mF' 27 = mF 27) : R_M fG fMs mos mF' us so di un la si od pr pc := by
  unfold R_M
  rw [h5, h27]
  exact h
theorem sim_tick26 {fG : (Nat → Int32)} {sos sis mos : (Nat → Nat → Int32)} {wst kn wi fi qd po ne bx qu ad so di un la si od pr pc : (Nat → Int32)} {i0 x : Int32} {I : Nat} (hi : i0.toInt = I) (hI : I ≤ 40) : ∀ (n : Nat) (y : Int32) (Y : Nat) (fZ : (Nat → Int32)) (fMs : (Nat → Nat → Int32)) (fR : (Nat → Int32)) (fSs : (Nat → Nat → Int32)) (sg fW wl : (Nat → Int32)) (wr : (Nat → Nat → Int32)) (mF us sd out ol st pa se ti tr bd : (Nat → Int32)), y.toInt = Y → Y ≤ I → I - Y < n → TkR fR fW wst wl wr fSs sos sis mF kn out ol st wi pa se fi qd po ne bd bx qu ad ti tr → R_M fG fMs mos mF us so di un la si od pr pc → fZ 4 = mF 5 → (fW 4).toInt + 600 * (I - Y : Nat) < 1900000000 →
    ∃ (c : Int32 × (Nat → Int32) × (Nat → Nat → Int32) × (Nat → Int32) × (Nat → Nat → Int32) × (Nat → Int32) × (Nat → Int32) × (Nat → Int32) × (Nat → Nat → Int32)) (m : Int32 × (Nat → Int32) × (Nat → Int32) × (Nat → Int32) × (Nat → Int32) × (Nat → Int32) × (Nat → Int32) × (Nat → Int32) × (Nat → Int32) × (Nat → Int32) × (Nat → Int32) × (Nat → Int32)), LX9_tick_26 fG sos sis wst i0 x n y fZ fMs fR fSs sg fW wl wr = c ∧ LX10_tick_19 kn wi fi qd po ne bx qu ad si i0 x n y mF us sd out ol st pa se ti tr bd = m ∧ c.1 = m.1 ∧ TkR c.2.2.2.1 c.2.2.2.2.2.2.1 wst c.2.2.2.2.2.2.2.1 c.2.2.2.2.2.2.2.2 c.2.2.2.2.1 sos sis m.2.1 kn m.2.2.1 m.2.2.2.1 m.2.2.2.2.2.1 wi m.2.2.2.2.2.2.1 m.2.2.2.2.2.2.2.1 fi qd po ne m.2.2.2.2.2.2.2.2.1 bx qu ad m.2.2.2.2.2.2.2.2.2.1 m.2.2.2.2.2.2.2.2.2.2.1
      ∧ R_M fG c.2.2.1 mos m.2.1 m.2.2.2.2.2.2.2.2.2.2.2 so di un la si od pr pc ∧ c.2.2.2.1 4 = fR 4 ∧ c.2.2.2.1 5 = fR 5 ∧ c.2.1 4 = m.2.1 5 ∧ c.2.1 5 = fZ 5 ∧ c.2.1 6 = fZ 6 ∧ (∀ j, j ≠ 5 → j ≠ 8 → j ≠ 9 → j ≠ 12 → j ≠ 30 → m.2.1 j = mF j) ∧ (fW 4).toInt ≤ (c.2.2.2.2.2.2.1 4).toInt ∧ (c.2.2.2.2.2.2.1 4).toInt ≤ (fW 4).toInt + 600 * (I - Y : Nat) := by
  intro n
  induction n with
  | zero => intro y Y fZ fMs fR fSs sg fW wl wr mF us sd out ol st pa se ti tr bd _ _ h; omega
  | succ n ih =>
    intro y Y fZ fMs fR fSs sg fW wl wr mF us sd out ol st pa se ti tr bd hy hY hn hK hM hz hT
    rw [LX9_tick_26, LX10_tick_19]
    by_cases q : i0 ≤ y
    · rw [if_pos q, if_pos q]
      have f8 : fW 4 = mF 8 := hK.1.2.2.1
      exact ⟨_, _, rfl, rfl, by show fW 4 - x = mF 8 - x; rw [f8], hK, hM, rfl, rfl, hz, rfl, rfl, fun _ _ _ _ _ _ => rfl, Int.le_refl _, by show (fW 4).toInt ≤ _; omega⟩
    · have q' := iTn q
      rw [if_neg q, if_neg q]
      have h9 := tI_s (a := y) (by omega)
      obtain ⟨us', p, p1, p2⟩ := tick37 (kn := kn) (wi := wi) (fi := fi) (qd := qd) (po := po) (ne := ne) (bx := bx) (qu := qu) (ad := ad) (si := si) (mF := mF) (sd := sd) (out := out) (ol := ol) (st := st) (pa := pa) (se := se) (ti := ti) (tr := tr) (bd := bd) (y3 := y) (f5 := mF 5 + 1) (lf := LX10_tick_19 kn wi fi qd po ne bx qu ad si i0 x n) 128 0 0 us rfl (by omega) (by omega)
      have hM2 := R_M_gk (mF' := upd mF 5 (mF 5 + 1)) (us' := us') hM rfl rfl (fun k hk => p1 k (by omega) hk)
      have hK0 : TkR fR fW wst wl wr fSs sos sis (upd mF 5 (mF 5 + 1)) kn out ol st wi pa se fi qd po ne bd bx qu ad ti tr := hK
      rw [p, tick87 127 (by decide)]
      unfold KX9_tick_45 KX9_tick_71
      obtain ⟨c0, hc0⟩ : ∃ c, FX6_runTimer fR sg fW wst wl wr (fSs 0) (sos 0) (sis 0) = c := ⟨_, rfl⟩
      obtain ⟨m0, hm0⟩ : ∃ m, tkS (upd mF 5 (mF 5 + 1)) kn out ol sd st wi pa se fi qd po ne bd bx qu ad ti tr 0 = m := ⟨_, rfl⟩
      obtain ⟨k1', a1, a2, a3, a4, a5⟩ := sim_tk1 (K := 0) hK0 rfl (by omega) (by omega) hc0 hm0
      rw [hc0, hm0, tick87 126 (by decide)]
      unfold KX9_tick_71b
      obtain ⟨c1, hc1⟩ : ∃ c, FX6_runTimer c0.1 c0.2.1 c0.2.2.1 wst c0.2.2.2.1 c0.2.2.2.2.1 (fSs 1) (sos 1) (sis 1) = c := ⟨_, rfl⟩
      obtain ⟨m1, hm1⟩ : ∃ m, tkS m0.1 kn m0.2.1 m0.2.2.1 m0.2.2.2.1 m0.2.2.2.2.1 wi m0.2.2.2.2.2.1 m0.2.2.2.2.2.2.1 fi qd po ne m0.2.2.2.2.2.2.2.1 bx qu ad m0.2.2.2.2.2.2.2.2.1 m0.2.2.2.2.2.2.2.2.2 (0 + 1) = m := ⟨_, rfl⟩
      obtain ⟨k2', b1, b2, b3, b4, b5⟩ := sim_tk1 (K := 1) k1' (k := 0 + 1) rfl (by omega) (by omega) (c := c1) (by rw [vu_n (by decide)]; exact hc1) hm1
      rw [hc1, hm1, tick87 125 (by decide)]
      unfold KX9_tick_71c
      obtain ⟨c2, hc2⟩ : ∃ c, FX6_runTimer c1.1 c1.2.1 c1.2.2.1 wst c1.2.2.2.1 c1.2.2.2.2.1 (fSs 2) (sos 2) (sis 2) = c := ⟨_, rfl⟩
      obtain ⟨m2, hm2⟩ : ∃ m, tkS m1.1 kn m1.2.1 m1.2.2.1 m1.2.2.2.1 m1.2.2.2.2.1 wi m1.2.2.2.2.2.1 m1.2.2.2.2.2.2.1 fi qd po ne m1.2.2.2.2.2.2.2.1 bx qu ad m1.2.2.2.2.2.2.2.2.1 m1.2.2.2.2.2.2.2.2.2 (0 + 1 + 1) = m := ⟨_, rfl⟩
      obtain ⟨k3', d1, d2, d3, d4, d5⟩ := sim_tk1 (K := 2) k2' (k := 0 + 1 + 1) rfl (by omega) (by omega) (c := c2) (by rw [vu_n (by decide), vu_n (by decide)]; exact hc2) hm2
      rw [hc2, hm2, LX10_tick_87, if_pos (show (3 : Int32) ≤ 0 + 1 + 1 + 1 by decide)]
      have fr : ∀ j, j ≠ 5 → j ≠ 8 → j ≠ 9 → j ≠ 12 → j ≠ 30 → m2.1 j = mF j := fun j j5 j8 j9 j12 j30 => (d3 j j8 j9 j12 j30).trans ((b3 j j8 j9 j12 j30).trans ((a3 j j8 j9 j12 j30).trans (pk_un j5)))
      have e5 : m2.1 5 = mF 5 + 1 := (d3 5 (by decide) (by decide) (by decide) (by decide)).trans ((b3 5 (by decide) (by decide) (by decide) (by decide)).trans ((a3 5 (by decide) (by decide) (by decide) (by decide)).trans pk_us))
      obtain ⟨c, m, g1, g2, g3, g4, g5, g6, g7, g8, g9, g10, g11, g12, g13⟩ := ih (y + 1) (Y + 1) (upd fZ 4 (fZ 4 + 1)) (FX3_grow fG fMs) c2.1 (va_up (va_up (va_up fSs 0 c0.2.2.2.2.2) 1 c1.2.2.2.2.2) 2 c2.2.2.2.2.2) c2.2.1 c2.2.2.1 c2.2.2.2.1 c2.2.2.2.2.1 m2.1 us' m2.2.2.2.1 m2.2.1 m2.2.2.1 m2.2.2.2.2.1 m2.2.2.2.2.2.1 m2.2.2.2.2.2.2.1 m2.2.2.2.2.2.2.2.2.1 m2.2.2.2.2.2.2.2.2.2 m2.2.2.2.2.2.2.2.1 (by omega) (by omega) (by omega) k3' (R_M_e hM2 (e5.trans rfl) (fr 27 (by decide) (by decide) (by decide) (by decide) (by decide))) (by rw [pk_us, e5, hz]) (by omega)
      exact ⟨c, m, g1, g2, g3, g4, g5, g6.trans (d1.trans (b1.trans a1)), g7.trans (d2.trans (b2.trans a2)), g8, g9, g10, fun j j5 j8 j9 j12 j30 => (g11 j j5 j8 j9 j12 j30).trans (fr j j5 j8 j9 j12 j30), by omega, by omega⟩

