-- the simulation: lines, texts, answers
theorem line12 {si bd bx : (Nat → Int32)} {x k : Int32} {K : Nat} (hk : k.toInt = K) (hK : K < 3) (hx : x.toInt = min (bd K).toInt 7) (hb : ∀ i : Nat, (i : Int) < (bd K).toInt → si i = bx (16 * K + i)) : ∀ (n : Nat) (y : Int32) (Y : Nat), y.toInt = Y → Y ≤ 7 → 7 - Y < n → LX5_lineLength_12 si x n y = LX10_line_2 bd bx k n y := by
  have ek : k.toNatClampNeg = K := tcE hk
  have fin : (if x = 7 then (7 : Int32) else 0) = (if bd K ≤ 6 then 0 else 7) := by
    by_cases q : bd K ≤ 6
    · have q' := iT q
      rw [k6] at q'
      rw [if_neg (fun e => by rw [e, k7] at hx; omega), if_pos q]
    · have q' := iTn q
      rw [k6] at q'
      rw [if_pos (Int32.toInt_inj.mp (by rw [hx, k7]; omega)), if_neg q]
  intro n
  induction n with
  | zero => intro y Y _ _ h; omega
  | succ n ih =>
    intro y Y hy hY h
    rw [LX5_lineLength_12, LX10_line_2, ek]
    by_cases q : bd K ≤ y
    · have q' := iT q
      rw [if_pos (Int32.le_iff_toInt_le.mpr (by omega)), if_pos q, fin]
    · have q' := iTn q
      by_cases q7 : 7 ≤ y
      · have q7' := iT q7
        rw [k7] at q7'
        rw [if_pos (Int32.le_iff_toInt_le.mpr (by omega)), if_neg q, if_pos q7, fin]
      · have q7' := iTn q7
        rw [k7] at q7'
        have h9 := tI_s (a := y) (by omega)
        have ei : (((16 : Int32) * k) + y).toNatClampNeg = 16 * K + Y := tcMA 16 K Y k16 hk hy (by omega) (by omega) (by omega)
        rw [if_neg (fun e => by have := iT e; omega), if_neg q, if_neg q7, ei, tcE hy, hb Y (by omega)]
        by_cases q1 : bx (16 * K + Y) = 10
        · rw [if_pos q1, if_pos q1]
        · rw [if_neg q1, if_neg q1]
          exact ih _ (Y + 1) (by omega) (by omega) (by omega)
theorem sim_line {fS si mF bd bx : (Nat → Int32)} {k : Int32} {K : Nat} (hk : k.toInt = K) (hK : K < 3) (e9 : fS 9 = bd K) (hb : ∀ i : Nat, (i : Int) < (bd K).toInt → si i = bx (16 * K + i)) : FX5_lineLength fS si = FX10_line mF bd bx k := by
  unfold FX5_lineLength FX10_line
  exact line12 hk hK (by rw [mn_i, e9, k7]) hb 128 0 0 rfl (by omega) (by omega)
def R_T (fTs tls tbs : (Nat → Nat → Int32)) (nl nm bl body ck : (Nat → Int32)) : Prop := ∀ t, t < 6 → fTs t 2 = nl t ∧ (0 ≤ (nl t).toInt ∧ (nl t).toInt ≤ 4) ∧ fTs t 4 = bl t ∧ (0 ≤ (bl t).toInt ∧ (bl t).toInt ≤ 16) ∧ fTs t 3 = ck t ∧ (∀ i, i < 4 → tls t i = nm (4 * t + i)) ∧ (∀ i, i < 16 → tbs t i = body (16 * t + i) ∧ oct (body (16 * t + i)))
theorem named0 {nl nm bx : (Nat → Int32)} {t s : Int32} : ∀ (n : Nat) (y : Int32), LX10_isNamed_22 nl nm bx t s n y 0 = 0 := by
  intro n y
  cases n with
  | zero => rfl
  | succ n =>
    rw [LX10_isNamed_22]
    split
    · rfl
    · rw [if_pos rfl]
theorem named22 {fT tl rb nl nm bx : (Nat → Int32)} {t s : Int32} {T S : Nat} (ht : t.toInt = T) (hT : T < 6) (hs : s.toInt = S) (hS : S < 3) (e2 : fT 2 = nl T) (r2 : 0 ≤ (nl T).toInt ∧ (nl T).toInt ≤ 4) (hl : ∀ i, i < 4 → tl i = nm (4 * T + i)) (hb : ∀ i : Nat, (i : Int) < (nl T).toInt → rb (1 + i) = bx (16 * S + i + 1)) : ∀ (n : Nat) (y : Int32) (Y : Nat), y.toInt = Y → Y ≤ 4 → 4 - Y < n →
    LX7_isAskedBy_14 fT tl rb n y = LX10_isNamed_22 nl nm bx t s n y 1 := by
  intro n
  induction n with
  | zero => intro y Y _ _ h; omega
  | succ n ih =>
    intro y Y hy hY h
    rw [LX7_isAskedBy_14, LX10_isNamed_22, tcE ht, e2]
    by_cases q : nl T ≤ y
    · rw [if_pos q, if_pos q]
    · have q' := iTn q
      have h9 := tI_s (a := y) (by omega)
      have e1 : (((4 : Int32) * t) + y).toNatClampNeg = 4 * T + Y := tcMA 4 T Y k4 ht hy (by omega) (by omega) (by omega)
      have e0 : (((16 : Int32) * s) + y).toInt = ((16 * S + Y : Nat) : Int) := by
        have a := tI_mulN (c := 16) (a := s) 16 S k16 hs (by omega)
        rw [tI_add (by omega) (by omega)]; omega
      have e3 : ((((16 : Int32) * s) + y) + 1).toNatClampNeg = 16 * S + Y + 1 := tcE (by rw [tI_s (by omega)]; omega)
      have e5 : ((1 : Int32) + y).toNatClampNeg = 1 + Y := tcE (by rw [tI_ca 1 k1 (by omega) (by omega)]; omega)
      rw [if_neg q, if_neg q, if_neg (show ¬ (1 : Int32) = 0 by decide), e1, e3, e5, tcE hy, hl Y (by omega), hb Y (by omega)]
      by_cases c : nm (4 * T + Y) = bx (16 * S + Y + 1)
      · rw [if_pos c, if_pos c]
        exact ih _ (Y + 1) (by omega) (by omega) (by omega)
      · rw [if_neg c, if_neg c]
        exact (named0 _ _).symm
theorem sim_named {fTs tls tbs : (Nat → Nat → Int32)} {rb mF nl nm bl body ck bx : (Nat → Int32)} (hR : R_T fTs tls tbs nl nm bl body ck) {t s n : Int32} {T S : Nat} (ht : t.toInt = T) (hT : T < 6) (hs : s.toInt = S) (hS : S < 3) (hn : 0 ≤ n.toInt) (hb : ∀ i : Nat, (i : Int) < n.toInt → rb i = bx (16 * S + i)) : FX7_isAskedBy (fTs T) (tls T) rb n = FX10_isNamed mF nl nm bx t s n := by
  obtain ⟨e2, r2, _, _, _, hl, _⟩ := hR T hT
  unfold FX7_isAskedBy FX10_isNamed JX10_isNamed_17
  rw [tcE ht, e2]
  by_cases q : nl T = n - 2
  · rw [if_pos q, if_pos q]
    have e : (n - 2).toInt = n.toInt - 2 := tI_sc 2 k2 (by omega) (by have := tI_hi n; omega)
    refine named22 ht hT hs hS e2 r2 hl (fun i hi => ?_) 128 0 0 rfl (by omega) (by omega)
    rw [q, e] at hi
    rw [hb (1 + i) (by omega), show 16 * S + (1 + i) = 16 * S + i + 1 by omega]
  · rw [if_neg q, if_neg q, named0]
theorem sound4 {fT tb : (Nat → Int32)} : ∀ (n : Nat) (y s : Int32) (Y m : Nat), y.toInt = Y → (fT 4).toInt = ((Y + m : Nat) : Int) → m < n → Y + m ≤ 100 → LX7_isSound_4 fT tb n y s = if (smf tb m Y s &&& 255) = fT 3 then 1 else 0 := by
  intro n
  induction n with
  | zero => intro y s Y m _ _ h; omega
  | succ n ih =>
    intro y s Y m hy hm h hs
    rw [LX7_isSound_4]
    by_cases q : fT 4 ≤ y
    · have q' := iT q
      obtain rfl : m = 0 := by omega
      rw [if_pos q]; rfl
    · have q' := iTn q
      obtain ⟨m', rfl⟩ : ∃ m', m = m' + 1 := ⟨m - 1, by omega⟩
      have h9 := tI_s (a := y) (by omega)
      rw [if_neg q, ih (y + 1) _ (Y + 1) m' (by omega) (by omega) (by omega) (by omega), tcE hy]
      rfl
theorem reply164 {mF an bl bd ck : (Nat → Int32)} {t : Int32} {T : Nat} (ht : t.toInt = T) (hT : T < 6) : ∀ (n : Nat) (y s : Int32) (Y m : Nat), y.toInt = Y → (bl T).toInt = ((Y + m : Nat) : Int) → m < n → Y + m ≤ 100 →
    LX10_reply_164 mF an bl bd ck t n y s = if (smf (fun i => bd (16 * T + i)) m Y s &&& 255) = ck T then LX10_reply_236 mF bl bd t 128 0 (upd (upd (upd (upd (upd an 0 48) 1 10) 0 52) 0 53) 0 50) else ((upd mF 46 2), (upd (upd (upd (upd an 0 48) 1 10) 0 52) 0 53)) := by
  intro n
  induction n with
  | zero => intro y s Y m _ _ h; omega
  | succ n ih =>
    intro y s Y m hy hm h hs
    rw [LX10_reply_164, tcE ht]
    by_cases q : bl T ≤ y
    · have q' := iT q
      obtain rfl : m = 0 := by omega
      rw [if_pos q]; rfl
    · have q' := iTn q
      obtain ⟨m', rfl⟩ : ∃ m', m = m' + 1 := ⟨m - 1, by omega⟩
      have h9 := tI_s (a := y) (by omega)
      have ei : (((16 : Int32) * t) + y).toNatClampNeg = 16 * T + Y := tcMA 16 T Y k16 ht hy (by omega) (by omega) (by omega)
      rw [if_neg q, ih (y + 1) _ (Y + 1) m' (by omega) (by omega) (by omega) (by omega), ei]
      rfl
theorem reply236 {mF bl bd c : (Nat → Int32)} {t : Int32} {T L : Nat} (ht : t.toInt = T) (hT : T < 6) (hl : (bl T).toInt = L) (hL : L ≤ 16) (hc : ∀ i, i < L → c (i + 1) = bd (16 * T + i)) (hc2 : c (L + 1) = 10) : ∀ (n : Nat) (y : Int32) (Y : Nat) (z : (Nat → Int32)), y.toInt = Y → Y ≤ L → L - Y < n → (∀ i, i ≤ Y → z i = c i) →
    (LX10_reply_236 mF bl bd t n y z).1 = upd (upd mF 46 2) 46 (bl T + 2) ∧ ∀ i, i < L + 2 → (LX10_reply_236 mF bl bd t n y z).2 i = c i := by
  intro n
  induction n with
  | zero => intro y Y z _ _ h; omega
  | succ n ih =>
    intro y Y z hy hY h hz
    rw [LX10_reply_236, tcE ht]
    by_cases q : bl T ≤ y
    · have q' := iT q
      obtain rfl : Y = L := by omega
      have e1 : (bl T + 1).toNatClampNeg = Y + 1 := tcE (by rw [tI_s (by omega)]; omega)
      rw [if_pos q, e1]
      refine ⟨rfl, fun i hi => ?_⟩
      show upd z (Y + 1) 10 i = c i
      by_cases q1 : i = Y + 1
      · rw [q1, pk_us, hc2]
      · rw [pk_un q1]; exact hz i (by omega)
    · have q' := iTn q
      have h9 := tI_s (a := y) (by omega)
      have ei : (((16 : Int32) * t) + y).toNatClampNeg = 16 * T + Y := tcMA 16 T Y k16 ht hy (by omega) (by omega) (by omega)
      have e1 : (y + 1).toNatClampNeg = Y + 1 := tcE (by omega)
      rw [if_neg q, ei, e1]
      refine ih (y + 1) (Y + 1) _ (by omega) (by omega) (by omega) (fun i hi => ?_)
      by_cases q1 : i = Y + 1
      · rw [q1, pk_us]; exact (hc Y (by omega)).symm
      · rw [pk_un q1]; exact hz i (by omega)
def AnN (fH an : (Nat → Int32)) (n : Nat) (c : (Nat → Int32)) : Prop := (fH 2).toInt = n ∧ ∀ i, i < n → an i = c i
theorem AnN_put {fH an c : (Nat → Int32)} {n : Nat} {v : Int32} (h : AnN fH an n c) (hn : n < 100) (hv : v = c n) : AnN (FX4_put fH an v).1 (FX4_put fH an v).2 (n + 1) c := by
  obtain ⟨a, b⟩ := h
  refine ⟨?_, fun i hi => ?_⟩
  · show (fH 2 + 1).toInt = ((n + 1 : Nat) : Int)
    rw [tI_s (by omega)]; omega
  · show upd an (fH 2).toNatClampNeg v i = c i
    rw [tcE a]
    by_cases q : i = n
    · rw [q, pk_us]; exact hv
    · rw [pk_un q]; exact b i (by omega)
theorem put37 {fT tb c : (Nat → Int32)} {L : Nat} (hl : (fT 4).toInt = L) (hL : L ≤ 16) (hc : ∀ i, i < L → tb i = c (i + 1)) : ∀ (n : Nat) (y : Int32) (Y : Nat) (z z2 : (Nat → Int32)), y.toInt = Y → Y ≤ L → L - Y < n → AnN z z2 (Y + 1) c → AnN (LX4_putText_37 fT tb n y z z2).1 (LX4_putText_37 fT tb n y z z2).2 (L + 1) c := by
  intro n
  induction n with
  | zero => intro y Y z z2 _ _ h; omega
  | succ n ih =>
    intro y Y z z2 hy hY h hz
    rw [LX4_putText_37]
    by_cases q : fT 4 ≤ y
    · have q' := iT q
      obtain rfl : Y = L := by omega
      rw [if_pos q]
      exact hz
    · have q' := iTn q
      have h9 := tI_s (a := y) (by omega)
      rw [if_neg q]
      unfold KX4_putText_52
      exact ih (y + 1) (Y + 1) _ _ (by omega) (by omega) (by omega) (AnN_put hz (by omega) (by rw [tcE hy]; exact hc Y (by omega)))
theorem req0 {rb : (Nat → Int32)} {i0 : Int32} (h : ¬ (rb 0 = 71 ∧ rb (i0 - 1).toNatClampNeg = 10)) : ∀ (n : Nat) (y : Int32), LX4_isRequest_15 rb i0 n y = 0 := by
  intro n
  induction n with
  | zero => intro y; rfl
  | succ n ih =>
    intro y
    rw [LX4_isRequest_15]
    split
    · split
      · rename_i q
        split
        · rename_i q2
          exact absurd ⟨q, q2⟩ h
        · rfl
      · rfl
    · split
      · rfl
      · exact ih _
theorem isLet (x : Int32) : FX10_is x 97 122 = FX9_isLetter x := rfl
theorem isLet1 {x : Int32} (h : ¬ FX9_isLetter x = 0) : FX9_isLetter x = 1 := by
  unfold FX9_isLetter at h ⊢
  (repeat' split at h) <;> first | exact absurd rfl h | skip
  (repeat' split) <;> first | contradiction | rfl
theorem rep51_0 {mF bx an nl nm bl bd ck : (Nat → Int32)} {i0 i1 : Int32} (n : Nat) (y : Int32) : LX10_reply_51 mF bx an nl nm bl bd ck i0 i1 (n + 1) y 0 = JX10_reply_89 mF bx an nl nm bl bd ck i0 i1 0 := by
  rw [LX10_reply_51]
  split
  · rfl
  · rw [if_pos rfl]
theorem rep51 {rb mF bx an nl nm bl bd ck : (Nat → Int32)} {s i1 : Int32} {S N : Nat} (hs : s.toInt = S) (hS : S < 3) (hN : i1.toInt = N) (h3 : 3 ≤ N) (h6 : N ≤ 6) (hb : ∀ i, i < N → rb i = bx (16 * S + i)) (q0 : rb 0 = 71) (q1 : rb (i1 - 1).toNatClampNeg = 10) : ∀ (n : Nat) (y : Int32) (Y : Nat), y.toInt = Y → Y ≤ N → N - Y < n →
    LX10_reply_51 mF bx an nl nm bl bd ck s i1 n y 1 = JX10_reply_89 mF bx an nl nm bl bd ck s i1 (LX4_isRequest_15 rb i1 n y) := by
  intro n
  induction n with
  | zero => intro y Y _ _ h; omega
  | succ n ih =>
    intro y Y hy hY h
    rw [LX10_reply_51, LX4_isRequest_15]
    have e : (i1 - 1).toInt = i1.toInt - 1 := tI_sc 1 k1 (by omega) (by omega)
    by_cases q : i1 - 1 ≤ y
    · rw [if_pos q, if_pos q, if_pos q0, if_pos q1]
    · have q' := iTn q
      have h9 := tI_s (a := y) (by omega)
      have ei : (((16 : Int32) * s) + y).toNatClampNeg = 16 * S + Y := tcMA 16 S Y k16 hs hy (by omega) (by omega) (by omega)
      rw [if_neg q, if_neg q, if_neg (show ¬ (1 : Int32) = 0 by decide), ei, tcE hy, hb Y (by omega), isLet]
      obtain ⟨n', rfl⟩ : ∃ n', n = n' + 1 := ⟨n - 1, by omega⟩
      by_cases c : FX9_isLetter (bx (16 * S + Y)) = 0
      · rw [if_pos c, c, rep51_0]
      · rw [if_neg c, isLet1 c]
        exact ih _ (Y + 1) (by omega) (by omega) (by omega)
def fdT (fTs tls : (Nat → Nat → Int32)) (rb : (Nat → Int32)) (i0 : Int32) : Nat → Nat → Nat
  | 0, t => t
  | m + 1, t => if (FX7_isAskedBy (fTs t) (tls t) rb i0) = 0 then fdT fTs tls rb i0 m (t + 1) else t
theorem find_fd {fH : (Nat → Int32)} {fTs tls : (Nat → Nat → Int32)} {rb : (Nat → Int32)} {i0 : Int32} : FX4_find fH fTs tls rb i0 = fdT fTs tls rb i0 6 0 := rfl
theorem fdT_le {fTs tls : (Nat → Nat → Int32)} {rb : (Nat → Int32)} {i0 : Int32} : ∀ m t, fdT fTs tls rb i0 m t ≤ t + m := by
  intro m
  induction m with
  | zero => intro t; exact Nat.le_refl _
  | succ m ih =>
    intro t
    rw [fdT]
    split
    · have := ih (t + 1); omega
    · omega
theorem rep121 {fTs tls tbs : (Nat → Nat → Int32)} {rb mF bx an nl nm bl bd ck : (Nat → Int32)} (hR : R_T fTs tls tbs nl nm bl bd ck) {s i1 : Int32} {S : Nat} (hs : s.toInt = S) (hS : S < 3) (hn : 0 ≤ i1.toInt) (hb : ∀ i : Nat, (i : Int) < i1.toInt → rb i = bx (16 * S + i)) : ∀ (m n : Nat) (y : Int32) (Y : Nat), y.toInt = Y → Y + m = 6 → m < n →
    ∃ w : Int32, LX10_reply_121 mF bx an nl nm bl bd ck s i1 n y = JX10_reply_145 mF an bl bd ck w ∧ w.toInt = (fdT fTs tls rb i1 m Y : Nat) := by
  intro m
  induction m with
  | zero =>
    intro n y Y hy hm h
    obtain ⟨n', rfl⟩ : ∃ n', n = n' + 1 := ⟨n - 1, by omega⟩
    rw [LX10_reply_121, if_pos (Int32.le_iff_toInt_le.mpr (by rw [k6]; omega))]
    exact ⟨y, rfl, hy⟩
  | succ m ih =>
    intro n y Y hy hm h
    obtain ⟨n', rfl⟩ : ∃ n', n = n' + 1 := ⟨n - 1, by omega⟩
    have h9 := tI_s (a := y) (by omega)
    rw [LX10_reply_121, if_neg (fun e => by have := iT e; rw [k6] at this; omega), ← sim_named (mF := upd mF 46 2) hR hy (by omega) hs hS hn hb, fdT]
    split
    · exact ih n' (y + 1) (Y + 1) (by omega) (by omega) (by omega)
    · exact ⟨y, rfl, hy⟩
theorem sim_reply {fH : (Nat → Int32)} {fTs tls tbs : (Nat → Nat → Int32)} {rb aC mF bx an nl nm bl bd ck : (Nat → Int32)} (hR : R_T fTs tls tbs nl nm bl bd ck) {s i1 : Int32} {S N : Nat} (hs : s.toInt = S) (hS : S < 3) (hN : i1.toInt = N) (hN7 : N ≤ 7) (hb : ∀ i, i < N → rb i = bx (16 * S + i)) :
    (FX4_answerTo fH fTs tls tbs aC rb i1).1 2 = (FX10_reply mF bx an nl nm bl bd ck s i1).1 46 ∧ (∀ i : Nat, (i : Int) < ((FX10_reply mF bx an nl nm bl bd ck s i1).1 46).toInt → (FX4_answerTo fH fTs tls tbs aC rb i1).2 i = (FX10_reply mF bx an nl nm bl bd ck s i1).2 i ∧ oct ((FX10_reply mF bx an nl nm bl bd ck s i1).2 i)) ∧ (∀ j, j ≠ 46 → (FX10_reply mF bx an nl nm bl bd ck s i1).1 j = mF j) := by
  have two : ∀ (v : Int32) (z : (Nat → Int32)), oct v → z 0 = v → z 1 = 10 → (FX4_put (FX4_put (upd fH 2 0) aC v).1 (FX4_put (upd fH 2 0) aC v).2 10).1 2 = (upd mF 46 2) 46 ∧ (∀ i : Nat, (i : Int) < ((upd mF 46 2) 46).toInt → (FX4_put (FX4_put (upd fH 2 0) aC v).1 (FX4_put (upd fH 2 0) aC v).2 10).2 i = z i ∧ oct (z i)) ∧ (∀ j, j ≠ 46 → (upd mF 46 2) j = mF j) := by
    intro v z hv z0 z1
    refine ⟨rfl, fun i hi => ?_, fun j hj => pk_un hj⟩
    rw [pk_us, k2] at hi
    obtain rfl | rfl : i = 0 ∨ i = 1 := by omega
    · rw [z0]; exact ⟨rfl, hv⟩
    · rw [z1]; exact ⟨rfl, by unfold oct; decide⟩
  have hb' : ∀ i : Nat, (i : Int) < i1.toInt → rb i = bx (16 * S + i) := fun i hi => hb i (by omega)
  have e0 : ((16 : Int32) * s).toInt = ((16 * S : Nat) : Int) := tI_mulN 16 S k16 hs (by omega)
  have ref : FX10_reply mF bx an nl nm bl bd ck s i1 = JX10_reply_89 mF bx an nl nm bl bd ck s i1 (FX4_isRequest rb i1) := by
    unfold FX10_reply FX4_isRequest JX10_reply_47 FX10_is
    by_cases a : i1 < 3
    · rw [if_pos a, if_pos a, if_pos rfl, rep51_0]
    · have a' := lTn a
      rw [k3] at a'
      by_cases b : i1 ≤ 6
      · have b' := iT b
        rw [k6] at b'
        have e1 : ((((16 : Int32) * s) + i1) - 1).toNatClampNeg = 16 * S + (N - 1) := tcE (by
          have a1 : ((16 : Int32) * s + i1).toInt = ((16 * S : Nat) : Int) + i1.toInt := by rw [tI_add (by omega) (by omega), e0]
          rw [tI_sc 1 k1 (by omega) (by omega)]; omega)
        have e2 : (i1 - 1).toNatClampNeg = N - 1 := tcE (by rw [tI_sc 1 k1 (by omega) (by omega)]; omega)
        rw [if_neg a, if_neg a, if_pos b, if_neg (show ¬ (6 : Int32) < i1 from fun e => by have := lT e; rw [k6] at this; omega), if_neg (show ¬ (1 : Int32) = 0 by decide), tcE e0, e1]
        by_cases c : bx (16 * S) = 71
        · rw [if_pos c]
          by_cases d : bx (16 * S + (N - 1)) = 10
          · rw [if_pos d]
            exact rep51 hs hS hN (by omega) (by omega) hb ((hb 0 (by omega)).trans c) (by rw [e2, hb _ (by omega)]; exact d) 128 1 1 rfl (by omega) (by omega)
          · rw [if_neg d, rep51_0, req0 (fun q => d (by rw [← hb _ (by omega), ← e2]; exact q.2))]
        · rw [if_neg c, rep51_0, req0 (fun q => c (by rw [← q.1]; exact (hb 0 (by omega)).symm))]
      · have b' := iTn b
        rw [k6] at b'
        rw [if_neg a, if_neg a, if_neg b, if_pos (Int32.lt_iff_toInt_lt.mpr (by rw [k6]; omega)), if_pos rfl, rep51_0]
  rw [ref]
  unfold FX4_answerTo JX10_reply_89
  by_cases q : FX4_isRequest rb i1 = 0
  · rw [if_pos q, if_pos q]
    exact two 48 _ (by unfold oct; decide) rfl rfl
  · rw [if_neg q, if_neg q]
    obtain ⟨w, ew, hw⟩ := rep121 (mF := mF) (an := an) hR hs hS (by omega) hb' 6 128 0 0 rfl (by omega) (by omega)
    rw [ew, find_fd]
    have hle := fdT_le (fTs := fTs) (tls := tls) (rb := rb) (i0 := i1) 6 0
    generalize fdT fTs tls rb i1 6 0 = T at hw hle ⊢
    unfold JX10_reply_145
    by_cases c : T < 6
    · obtain ⟨_, _, e4, r4, e3, _, hbo⟩ := hR T c
      obtain ⟨L, hL⟩ : ∃ L : Nat, (bl T).toInt = L := ⟨(bl T).toInt.toNat, by omega⟩
      rw [if_pos c, if_neg (fun e => by rw [e, k6] at hw; omega), reply164 hw c 128 0 0 0 L rfl (by omega) (by omega) (by omega)]
      unfold FX4_putText FX7_isSound
      rw [sound4 128 0 0 0 L rfl (by rw [e4]; omega) (by omega) (by omega), smf_c (f := tbs T) (g := fun i => bd (16 * T + i)) L 0 0 (fun i _ hi => (hbo i (by omega)).1), e3]
      by_cases d : (smf (fun i => bd (16 * T + i)) L 0 0 &&& 255) = ck T
      · rw [if_pos d, if_pos d, if_neg (show ¬ (1 : Int32) = 0 by decide)]
        have hc : ∀ i, i < L → (fun i => if i = 0 then (50 : Int32) else if i = L + 1 then 10 else bd (16 * T + (i - 1))) (i + 1) = bd (16 * T + i) := fun i hi => by
          show (if i + 1 = 0 then (50 : Int32) else if i + 1 = L + 1 then 10 else bd (16 * T + (i + 1 - 1))) = _
          rw [if_neg (by omega), if_neg (by omega), Nat.add_sub_cancel]
        obtain ⟨m1, m2⟩ := reply236 (mF := mF) (bl := bl) (bd := bd) (c := fun i => if i = 0 then (50 : Int32) else if i = L + 1 then 10 else bd (16 * T + (i - 1))) hw c hL (by omega) hc (by show (if L + 1 = 0 then (50 : Int32) else if L + 1 = L + 1 then 10 else _) = 10; rw [if_neg (by omega), if_pos rfl]) 128 0 0 (upd (upd (upd (upd (upd an 0 48) 1 10) 0 52) 0 53) 0 50) rfl (by omega) (by omega) (fun i hi => by obtain rfl : i = 0 := (by omega); rfl)
        have p1 := put37 (fT := fTs T) (tb := tbs T) (c := fun i => if i = 0 then (50 : Int32) else if i = L + 1 then 10 else bd (16 * T + (i - 1))) (L := L) (by rw [e4]; exact hL) (by omega) (fun i hi => ((hbo i (by omega)).1).trans (hc i hi).symm) 128 0 0 (FX4_put (upd fH 2 0) aC 50).1 (FX4_put (upd fH 2 0) aC 50).2 rfl (by omega) (by omega) (AnN_put (n := 0) ⟨rfl, fun i hi => by omega⟩ (by omega) rfl)
        have p2 := AnN_put (v := 10) p1 (by omega) (by show (10 : Int32) = (if L + 1 = 0 then (50 : Int32) else if L + 1 = L + 1 then 10 else _); rw [if_neg (by omega), if_pos rfl])
        have hlen : (bl T + 2).toInt = ((L + 1 + 1 : Nat) : Int) := by rw [tI_ac 2 k2 (by omega) (by omega)]; omega
        rw [m1]
        refine ⟨?_, fun i hi => ?_, fun j hj => by rw [pk_un hj, pk_un hj]⟩
        · rw [pk_us]
          exact Int32.toInt_inj.mp (p2.1.trans hlen.symm)
        · rw [pk_us, hlen] at hi
          rw [m2 i (by omega)]
          refine ⟨p2.2 i (by omega), ?_⟩
          show oct (if i = 0 then (50 : Int32) else if i = L + 1 then 10 else bd (16 * T + (i - 1)))
          split
          · unfold oct; decide
          · split
            · unfold oct; decide
            · exact (hbo (i - 1) (by omega)).2
      · rw [if_neg d, if_neg d, if_pos rfl]
        exact two 53 _ (by unfold oct; decide) rfl rfl
    · obtain rfl : T = 6 := by omega
      rw [if_neg c, if_pos (Int32.toInt_inj.mp hw)]
      exact two 52 _ (by unfold oct; decide) rfl rfl

