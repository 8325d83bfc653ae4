set_option maxHeartbeats 4000000 in
set_option maxRecDepth 100000 in
theorem c_X2_fill (l : Launch) (dC : Nat → ClassId) (dI : Nat → Nat → Nat) (tC : Nat → ClassId) (o_D o_w o_Dp : Nat) (n_w : Nat) (sz : Nat) (fD : (Nat → Int32)) (dp : (Nat → Int32)) (rb : (Nat → Int32)) (i0 i1 i2 i3 : Int32) (h_n : n_w ≤ 1000) (h_f : 0 ≤ i2.toInt) (h_s : i3.toInt ≤ 32) (h_e : i2.toInt + i3.toInt ≤ n_w) : Met l yX2_fill wsX2_fill ({ frames := 0, cells := 0, slots := 0, locals := 0 }) (va_Pc [.ref o_D, .int i0, .int i1, .ref o_w, .int i2, .int i3] (fun U => U.heap.size = sz ∧ va_P (dC, dI) vwCl [(o_D, .inr (2, [.ref o_Dp, .int (fD 1), .int (fD 2), .int (fD 3)])), (o_Dp, .inl (tC 0, 32, .inl dp)), (o_w, .inl (tC 0, n_w, .inl rb))] U.heap ∧ va_K (dC, dI) vwCl (TY tC) U ∧ NW U ∧ va_D (fun _ => True) [(o_D, .inr (2, [.ref o_Dp, .int (fD 1), .int (fD 2), .int (fD 3)])), (o_Dp, .inl (tC 0, 32, .inl dp)), (o_w, .inl (tC 0, n_w, .inl rb))])) (va_Qv (fun (u : (Nat → Int32) × (Nat → Int32)) => u = FX2_fill fD dp rb i0 i1 i2 i3) (fun (u : (Nat → Int32) × (Nat → Int32)) (t : State) => va_P (dC, dI) vwCl [(o_D, .inr (2, [.ref o_Dp, .int (u.1 1), .int (u.1 2), .int (u.1 3)])), (o_Dp, .inl (tC 0, 32, .inl u.2)), (o_w, .inl (tC 0, n_w, .inl rb))] t.heap ∧ va_K (dC, dI) vwCl (TY tC) t ∧ va_D (va_A [(o_D, .inr (2, [.ref o_Dp, .int (fD 1), .int (fD 2), .int (fD 3)])), (o_Dp, .inl (tC 0, 32, .inl dp)), (o_w, .inl (tC 0, n_w, .inl rb))] sz) [(o_D, .inr (2, [.ref o_Dp, .int (u.1 1), .int (u.1 2), .int (u.1 3)])), (o_Dp, .inl (tC 0, 32, .inl u.2)), (o_w, .inl (tC 0, n_w, .inl rb))]) (va_A [(o_D, .inr (2, [.ref o_Dp, .int (fD 1), .int (fD 2), .int (fD 3)])), (o_Dp, .inl (tC 0, 32, .inl dp)), (o_w, .inl (tC 0, n_w, .inl rb))] sz)) 0 0 (va_A [(o_D, .inr (2, [.ref o_Dp, .int (fD 1), .int (fD 2), .int (fD 3)])), (o_Dp, .inl (tC 0, 32, .inl dp)), (o_w, .inl (tC 0, n_w, .inl rb))] sz) := by
  refine Met.ofW (cc := cX2_fill) (maxL := 7) (ret := none) (by decide) rfl ?_
  intro p e s m args below meth c s₁ B hml hv
  obtain ⟨rfl, hsz, hP, hK, hN, hD0⟩ := hv
  have hx := B.exec
  have hb := B.bytes
  have hr := B.returns
  have hts := atoms_spec (ws := wsX2_fill) B.pre
  have hown : s.vm.findClass RX2 = some m.cls := findClass_of_methodNamed B.named
  have hlocks := B.notSynchronized
  subst hsz
  have hD := hD0.self (sz := s.heap.size)
  generalize hAe : va_A [(o_D, .inr (2, [.ref o_Dp, .int (fD 1), .int (fD 2), .int (fD 3)])), (o_Dp, .inl (tC 0, 32, .inl dp)), (o_w, .inl (tC 0, n_w, .inl rb))] s.heap.size = A at hD ⊢
  have hA : ∀ q : Nat, s.heap.size ≤ q → A q := fun q h => by rw [← hAe]; exact Or.inr h
  have hS : va_S A s.heap s.heap [] := va_S.rf
  have hP : va_P (dC, dI) vwCl [(o_D, .inr (2, [.ref o_Dp, .int (fD 1), .int (fD 2), .int (fD 3)])), (o_Dp, .inl (tC 0, 32, .inl dp)), (o_w, .inl (tC 0, n_w, .inl rb))] s.heap := hP
  have hl := lv_entry ([.ref o_D, .int i0, .int i1, .ref o_w, .int i2, .int i3]) (n := 7) (Nat.le_of_ble_eq_true rfl)
  rw [lg_entry_eq]
  generalize (lg_sl ([.ref o_D, .int i0, .int i1, .ref o_w, .int i2, .int i3]) ++ List.replicate (7 - (lg_sl ([.ref o_D, .int i0, .int i1, .ref o_w, .int i2, .int i3])).length) Slot.unset).toArray = ls at hl ⊢
  have hl : lv_has ls 7 [(0, .ref o_D), (1, .int i0), (2, .int i1), (3, .ref o_w), (4, .int i2), (5, .int i3)] := hl
  generalize hQ : MQ _ _ _ _ _ _ _ = Q
  refine lv_aload_n hx hb dX2_fill_0 rfl (lv_at hl 0 rfl) ?_
  refine lv_iload_n hx hb dX2_fill_1 rfl (lv_at hl 1 rfl) ?_
  refine va_put (D := (dC, dI)) (ci := 2) (v := .int i0) (ty := .int) (C := RX2) (T := TX2) (N := 4) hx hb hts (fun w h => List.mem_cons_of_mem _ (uwX2 w h)) tyX2 tyX2_ok nmX2 hown hK hP hD hS 0 rfl rfl 1 (by decide) (hts _ (List.mem_cons_of_mem _ wd_101)) (fun _ h9 => h9) rfl (by decide +kernel) rfl rfl (Nat.le_of_ble_eq_true rfl) dX2_fill_2 (fun H locs hP hD hS => ?_)
  have hP : va_P (dC, dI) vwCl [(o_D, .inr (2, [.ref o_Dp, .int i0, .int (fD 2), .int (fD 3)])), (o_Dp, .inl (tC 0, 32, .inl dp)), (o_w, .inl (tC 0, n_w, .inl rb))] H := hP
  have hD : va_D A [(o_D, .inr (2, [.ref o_Dp, .int i0, .int (fD 2), .int (fD 3)])), (o_Dp, .inl (tC 0, 32, .inl dp)), (o_w, .inl (tC 0, n_w, .inl rb))] := hD
  refine lv_aload_n hx hb dX2_fill_5 rfl (lv_at hl 0 rfl) ?_
  refine lv_iload_n hx hb dX2_fill_6 rfl (lv_at hl 2 rfl) ?_
  refine va_put (D := (dC, dI)) (ci := 2) (v := .int i1) (ty := .int) (C := RX2) (T := TX2) (N := 4) hx hb hts (fun w h => List.mem_cons_of_mem _ (uwX2 w h)) tyX2 tyX2_ok nmX2 hown hK hP hD hS 0 rfl rfl 2 (by decide) (hts _ (List.mem_cons_of_mem _ wd_105)) (fun _ h9 => h9) rfl (by decide +kernel) rfl rfl (Nat.le_of_ble_eq_true rfl) dX2_fill_7 (fun H locs hP hD hS => ?_)
  have hP : va_P (dC, dI) vwCl [(o_D, .inr (2, [.ref o_Dp, .int i0, .int i1, .int (fD 3)])), (o_Dp, .inl (tC 0, 32, .inl dp)), (o_w, .inl (tC 0, n_w, .inl rb))] H := hP
  have hD : va_D A [(o_D, .inr (2, [.ref o_Dp, .int i0, .int i1, .int (fD 3)])), (o_Dp, .inl (tC 0, 32, .inl dp)), (o_w, .inl (tC 0, n_w, .inl rb))] := hD
  refine lv_aload_n hx hb dX2_fill_10 rfl (lv_at hl 0 rfl) ?_
  refine lv_iload hx hb dX2_fill_11 (lv_at hl 5 rfl) ?_
  refine va_put (D := (dC, dI)) (ci := 2) (v := .int i3) (ty := .int) (C := RX2) (T := TX2) (N := 4) hx hb hts (fun w h => List.mem_cons_of_mem _ (uwX2 w h)) tyX2 tyX2_ok nmX2 hown hK hP hD hS 0 rfl rfl 3 (by decide) (hts _ (List.mem_cons_of_mem _ wd_106)) (fun _ h9 => h9) rfl (by decide +kernel) rfl rfl (Nat.le_of_ble_eq_true rfl) dX2_fill_13 (fun H locs hP hD hS => ?_)
  have hP : va_P (dC, dI) vwCl [(o_D, .inr (2, [.ref o_Dp, .int i0, .int i1, .int i3])), (o_Dp, .inl (tC 0, 32, .inl dp)), (o_w, .inl (tC 0, n_w, .inl rb))] H := hP
  have hD : va_D A [(o_D, .inr (2, [.ref o_Dp, .int i0, .int i1, .int i3])), (o_Dp, .inl (tC 0, 32, .inl dp)), (o_w, .inl (tC 0, n_w, .inl rb))] := hD
  refine lv_iconst (v := 0) hx hb dX2_fill_16 (by decide) ?_
  refine lv_istore (lv' := [(6, .int 0), (0, .ref o_D), (1, .int i0), (2, .int i1), (3, .ref o_w), (4, .int i2), (5, .int i3)]) hx hb dX2_fill_17 hl (by decide) rfl (fun ls hl => ?_)
  have loop : ∀ (n : Nat) (y6 : Int32) (z_dp : (Nat → Int32)) (H : Heap) (locs : List Loc) (ls : Array Slot), (0 ≤ y6.toInt) → ((i3.toInt - y6.toInt).toNat) < n → LX2_fill_19 fD rb i0 i1 i2 i3 n y6 z_dp = FX2_fill fD dp rb i0 i1 i2 i3 → va_P (dC, dI) vwCl [(o_D, .inr (2, [.ref o_Dp, .int i0, .int i1, .int i3])), (o_Dp, .inl (tC 0, 32, .inl z_dp)), (o_w, .inl (tC 0, n_w, .inl rb))] H → va_D A [(o_D, .inr (2, [.ref o_Dp, .int i0, .int i1, .int i3])), (o_Dp, .inl (tC 0, 32, .inl z_dp)), (o_w, .inl (tC 0, n_w, .inl rb))] → va_S A s.heap H locs → lv_has ls 7 [(6, .int y6), (0, .ref o_D), (1, .int i0), (2, .int i1), (3, .ref o_w), (4, .int i2), (5, .int i3)] → W p l e (headSpec wsX2_fill ({ frames := 0, cells := 0, slots := 0, locals := 0 })).room s m ([.ref o_D, .int i0, .int i1, .ref o_w, .int i2, .int i3] : List Value).toArray below meth c H locs 0 0 Q (F0 m 19 ls []) := by
    intro n; induction n with
    | zero => intro y6 z_dp H locs ls h_i hm hL; exact absurd hm (Nat.not_lt_zero _)
    | succ n ih =>
      intro y6 z_dp H locs ls h_i hm hL hP hD hS hl
      refine lv_iload hx hb dX2_fill_19 (lv_at hl 0 rfl) ?_
      refine lv_iload hx hb dX2_fill_21 (lv_at hl 6 rfl) ?_
      refine lv_icmp_ge (tgt := 46) hx hb dX2_fill_23 (by decide) (fun c_1 => ?_) (fun c_1 => ?_)
      · skip
        have c_1 : i3 ≤ y6 := c_1
        have tc_1 : i3.toInt ≤ y6.toInt := Int32.le_iff_toInt_le.mp c_1
        have hP9 := hP.sub (ws' := [(o_D, .inr (2, [.ref o_Dp, .int ((upd (upd (upd fD 1 i0) 2 i1) 3 i3) 1), .int ((upd (upd (upd fD 1 i0) 2 i1) 3 i3) 2), .int ((upd (upd (upd fD 1 i0) 2 i1) 3 i3) 3)])), (o_Dp, .inl (tC 0, 32, .inl z_dp)), (o_w, .inl (tC 0, n_w, .inl rb))]) [0, 1, 2] rfl
        have hD9 := hD.sub (ws' := [(o_D, .inr (2, [.ref o_Dp, .int ((upd (upd (upd fD 1 i0) 2 i1) 3 i3) 1), .int ((upd (upd (upd fD 1 i0) 2 i1) 3 i3) 2), .int ((upd (upd (upd fD 1 i0) 2 i1) 3 i3) 3)])), (o_Dp, .inl (tC 0, 32, .inl z_dp)), (o_w, .inl (tC 0, n_w, .inl rb))]) [0, 1, 2] (by decide) rfl
        rw [← hQ]
        exact W.vret hx hb hr (fun t ht hW => ⟨⟨((upd (upd (upd fD 1 i0) 2 i1) 3 i3), z_dp), rfl, (by rw [← hL]; rw [LX2_fill_19]; rw [if_pos c_1]; try rfl), by rw [ht]; exact hP9, va_K.moved hW.alike hK, hD9⟩, hS.F ht⟩) hS.2.2 dX2_fill_46
      · skip
        have c_1 : ¬ (i3 ≤ y6) := c_1
        have tc_1 : ¬ i3.toInt ≤ y6.toInt := fun q => c_1 (Int32.le_iff_toInt_le.mpr q)
        refine lv_aload_n hx hb dX2_fill_26 rfl (lv_at hl 1 rfl) ?_
        refine va_get (D := (dC, dI)) (ci := 2) (v := .ref o_Dp) (C := RX2) (T := TX2) (N := 4) hx hb hts (fun w h => List.mem_cons_of_mem _ (uwX2 w h)) hown hK hP 0 rfl rfl 0 (by decide) (hts _ (List.mem_cons_of_mem _ wd_97)) (fun _ h9 => h9) rfl dX2_fill_27 ?_
        refine lv_iload hx hb dX2_fill_30 (lv_at hl 0 rfl) ?_
        refine lv_aload_n hx hb dX2_fill_32 rfl (lv_at hl 4 rfl) ?_
        refine lv_iload hx hb dX2_fill_33 (lv_at hl 5 rfl) ?_
        refine lv_iload hx hb dX2_fill_35 (lv_at hl 0 rfl) ?_
        refine lv_iadd hx hb dX2_fill_37 ?_
        refine va_iald hx hb hK hP 2 0 rfl rfl (vi_add (by omega) (by omega) (by omega)) dX2_fill_38 ?_
        refine lv_topi (fun v_2 (ev_2 : v_2 = (rb (i2 + y6).toNatClampNeg)) => ?_)
        refine va_iast hx hb hK hP hD hS 1 0 rfl rfl (vp_in_iff.mpr (by omega)) dX2_fill_39 (fun H locs hP hD hS => ?_)
        have hP : va_P (dC, dI) vwCl [(o_D, .inr (2, [.ref o_Dp, .int i0, .int i1, .int i3])), (o_Dp, .inl (tC 0, 32, .inl (upd z_dp y6.toNatClampNeg v_2))), (o_w, .inl (tC 0, n_w, .inl rb))] H := hP
        have hD : va_D A [(o_D, .inr (2, [.ref o_Dp, .int i0, .int i1, .int i3])), (o_Dp, .inl (tC 0, 32, .inl (upd z_dp y6.toNatClampNeg v_2))), (o_w, .inl (tC 0, n_w, .inl rb))] := hD
        obtain ⟨x_3, ex_3⟩ : ∃ y : Int32, y = (y6 + 1) := ⟨_, rfl⟩
        refine lv_iinc (v := x_3) (lv' := [(6, .int x_3), (0, .ref o_D), (1, .int i0), (2, .int i1), (3, .ref o_w), (4, .int i2), (5, .int i3)]) hx hb dX2_fill_40 hl (k := 0) rfl (by rw [ex_3]; rfl) (by decide) rfl (fun ls hl => ?_)
        have tx_3 : x_3.toInt = y6.toInt + 1 := by rw [ex_3]; exact tI_ac 1 rfl (by omega) (by omega)
        refine lv_goto (tgt := 19) hx hb dX2_fill_43 (by decide) ?_
        exact ih x_3 (upd z_dp y6.toNatClampNeg v_2) _ _ ls (by omega) (by omega) (by subst ev_2 ex_3; rw [LX2_fill_19] at hL; rw [if_neg c_1] at hL; exact hL) (hP.sub [0, 1, 2] rfl) (hD.sub [0, 1, 2] (by decide) rfl) hS (lv_sub hl [0, 1, 2, 3, 4, 5, 6] rfl)
  exact loop 128 0 dp _ _ ls (by decide) (by have q0 : (0 : Int32).toInt = 0 := rfl; omega) (by rw [FX2_fill]; try rfl) hP hD hS hl
set_option maxHeartbeats 4000000 in
set_option maxRecDepth 100000 in
theorem c_X2_isEchoAsked (l : Launch) (dC : Nat → ClassId) (dI : Nat → Nat → Nat) (tC : Nat → ClassId) (o_D o_Dp : Nat) (sz : Nat) (fD : (Nat → Int32)) (dp : (Nat → Int32)) : Met l yX2_isEchoAsked wsX2_isEchoAsked ({ frames := 0, cells := 0, slots := 0, locals := 0 }) (va_Pc [.ref o_D] (fun U => U.heap.size = sz ∧ va_P (dC, dI) vwCl [(o_D, .inr (2, [.ref o_Dp, .int (fD 1), .int (fD 2), .int (fD 3)])), (o_Dp, .inl (tC 0, 32, .inl dp))] U.heap ∧ va_K (dC, dI) vwCl (TY tC) U ∧ NW U ∧ va_D (fun _ => True) [(o_D, .inr (2, [.ref o_Dp, .int (fD 1), .int (fD 2), .int (fD 3)])), (o_Dp, .inl (tC 0, 32, .inl dp))])) (va_Qi (fun (r : Int32) (u : Unit) => r = FX2_isEchoAsked fD dp) (fun (u : Unit) (t : State) => va_P (dC, dI) vwCl [(o_D, .inr (2, [.ref o_Dp, .int (fD 1), .int (fD 2), .int (fD 3)])), (o_Dp, .inl (tC 0, 32, .inl dp))] t.heap ∧ va_K (dC, dI) vwCl (TY tC) t ∧ va_D (va_A [(o_D, .inr (2, [.ref o_Dp, .int (fD 1), .int (fD 2), .int (fD 3)])), (o_Dp, .inl (tC 0, 32, .inl dp))] sz) [(o_D, .inr (2, [.ref o_Dp, .int (fD 1), .int (fD 2), .int (fD 3)])), (o_Dp, .inl (tC 0, 32, .inl dp))]) (va_A [(o_D, .inr (2, [.ref o_Dp, .int (fD 1), .int (fD 2), .int (fD 3)])), (o_Dp, .inl (tC 0, 32, .inl dp))] sz)) 0 0 (va_A [(o_D, .inr (2, [.ref o_Dp, .int (fD 1), .int (fD 2), .int (fD 3)])), (o_Dp, .inl (tC 0, 32, .inl dp))] sz) := by
  refine Met.ofW (cc := cX2_isEchoAsked) (maxL := 1) (ret := (some .boolean)) (by decide) rfl ?_
  intro p e s m args below meth c s₁ B hml hv
  obtain ⟨rfl, hsz, hP, hK, hN, hD0⟩ := hv
  have hx := B.exec
  have hb := B.bytes
  have hr := B.returns
  have hts := atoms_spec (ws := wsX2_isEchoAsked) B.pre
  have hown : s.vm.findClass RX2 = some m.cls := findClass_of_methodNamed B.named
  have hlocks := B.notSynchronized
  subst hsz
  have hD := hD0.self (sz := s.heap.size)
  generalize hAe : va_A [(o_D, .inr (2, [.ref o_Dp, .int (fD 1), .int (fD 2), .int (fD 3)])), (o_Dp, .inl (tC 0, 32, .inl dp))] s.heap.size = A at hD ⊢
  have hA : ∀ q : Nat, s.heap.size ≤ q → A q := fun q h => by rw [← hAe]; exact Or.inr h
  have hS : va_S A s.heap s.heap [] := va_S.rf
  have hP : va_P (dC, dI) vwCl [(o_D, .inr (2, [.ref o_Dp, .int (fD 1), .int (fD 2), .int (fD 3)])), (o_Dp, .inl (tC 0, 32, .inl dp))] s.heap := hP
  have hl := lv_entry ([.ref o_D]) (n := 1) (Nat.le_of_ble_eq_true rfl)
  rw [lg_entry_eq]
  generalize (lg_sl ([.ref o_D]) ++ List.replicate (1 - (lg_sl ([.ref o_D])).length) Slot.unset).toArray = ls at hl ⊢
  have hl : lv_has ls 1 [(0, .ref o_D)] := hl
  refine lv_aload_n hx hb dX2_isEchoAsked_0 rfl (lv_at hl 0 rfl) ?_
  refine va_get (D := (dC, dI)) (ci := 2) (v := .int (fD 2)) (C := RX2) (T := TX2) (N := 4) hx hb hts (fun w h => List.mem_cons_of_mem _ (uwX2 w h)) hown hK hP 0 rfl rfl 2 (by decide) (hts _ (List.mem_cons_of_mem _ wd_105)) (fun _ h9 => h9) rfl dX2_isEchoAsked_1 ?_
  refine lv_iconst (v := 1) hx hb dX2_isEchoAsked_4 (by decide) ?_
  refine lv_icmp_ne (tgt := 30) hx hb dX2_isEchoAsked_5 (by decide) (fun c_1 => ?_) (fun c_1 => ?_)
  · skip
    have c_1 : ¬ ((fD 2) = 1) := c_1
    refine lv_iconst (v := 0) hx hb dX2_isEchoAsked_30 (by decide) ?_
    have hP9 := hP.sub (ws' := [(o_D, .inr (2, [.ref o_Dp, .int (fD 1), .int (fD 2), .int (fD 3)])), (o_Dp, .inl (tC 0, 32, .inl dp))]) [0, 1] rfl
    have hD9 := hD.sub (ws' := [(o_D, .inr (2, [.ref o_Dp, .int (fD 1), .int (fD 2), .int (fD 3)])), (o_Dp, .inl (tC 0, 32, .inl dp))]) [0, 1] (by decide) rfl
    exact W.zret (v := 0) hx hb hr rfl (fun t ht hW => ⟨⟨0, (), rfl, (by rw [FX2_isEchoAsked]; rw [if_neg c_1]; try rfl), by rw [ht]; exact hP9, va_K.moved hW.alike hK, hD9⟩, hS.F ht⟩) hS.2.2 dX2_isEchoAsked_31
  · skip
    have c_1 : (fD 2) = 1 := c_1
    have tc_1 : (fD 2).toInt = (1 : Int) := congrArg Int32.toInt c_1
    refine lv_aload_n hx hb dX2_isEchoAsked_8 rfl (lv_at hl 0 rfl) ?_
    refine va_get (D := (dC, dI)) (ci := 2) (v := .int (fD 3)) (C := RX2) (T := TX2) (N := 4) hx hb hts (fun w h => List.mem_cons_of_mem _ (uwX2 w h)) hown hK hP 0 rfl rfl 3 (by decide) (hts _ (List.mem_cons_of_mem _ wd_106)) (fun _ h9 => h9) rfl dX2_isEchoAsked_9 ?_
    refine lv_if_le (tgt := 30) hx hb dX2_isEchoAsked_12 (by decide) (fun c_2 => ?_) (fun c_2 => ?_)
    · skip
      have c_2 : (fD 3) ≤ 0 := c_2
      have tc_2 : (fD 3).toInt ≤ (0 : Int) := Int32.le_iff_toInt_le.mp c_2
      refine lv_iconst (v := 0) hx hb dX2_isEchoAsked_30 (by decide) ?_
      have hP9 := hP.sub (ws' := [(o_D, .inr (2, [.ref o_Dp, .int (fD 1), .int (fD 2), .int (fD 3)])), (o_Dp, .inl (tC 0, 32, .inl dp))]) [0, 1] rfl
      have hD9 := hD.sub (ws' := [(o_D, .inr (2, [.ref o_Dp, .int (fD 1), .int (fD 2), .int (fD 3)])), (o_Dp, .inl (tC 0, 32, .inl dp))]) [0, 1] (by decide) rfl
      exact W.zret (v := 0) hx hb hr rfl (fun t ht hW => ⟨⟨0, (), rfl, (by rw [FX2_isEchoAsked]; rw [if_pos c_1]; rw [if_pos c_2]; try rfl), by rw [ht]; exact hP9, va_K.moved hW.alike hK, hD9⟩, hS.F ht⟩) hS.2.2 dX2_isEchoAsked_31
    · skip
      have c_2 : ¬ ((fD 3) ≤ 0) := c_2
      have tc_2 : ¬ (fD 3).toInt ≤ (0 : Int) := fun q => c_2 (Int32.le_iff_toInt_le.mpr q)
      refine lv_aload_n hx hb dX2_isEchoAsked_15 rfl (lv_at hl 0 rfl) ?_
      refine va_get (D := (dC, dI)) (ci := 2) (v := .ref o_Dp) (C := RX2) (T := TX2) (N := 4) hx hb hts (fun w h => List.mem_cons_of_mem _ (uwX2 w h)) hown hK hP 0 rfl rfl 0 (by decide) (hts _ (List.mem_cons_of_mem _ wd_97)) (fun _ h9 => h9) rfl dX2_isEchoAsked_16 ?_
      refine lv_iconst (v := 0) hx hb dX2_isEchoAsked_19 (by decide) ?_
      refine va_iald hx hb hK hP 1 0 rfl rfl (vi_c (by decide +kernel)) dX2_isEchoAsked_20 ?_
      refine lv_bipush (v := 8) hx hb dX2_isEchoAsked_21 (by decide) ?_
      refine lv_icmp_ne (tgt := 30) hx hb dX2_isEchoAsked_23 (by decide) (fun c_3 => ?_) (fun c_3 => ?_)
      · skip
        have c_3 : ¬ ((dp 0) = 8) := c_3
        refine lv_iconst (v := 0) hx hb dX2_isEchoAsked_30 (by decide) ?_
        have hP9 := hP.sub (ws' := [(o_D, .inr (2, [.ref o_Dp, .int (fD 1), .int (fD 2), .int (fD 3)])), (o_Dp, .inl (tC 0, 32, .inl dp))]) [0, 1] rfl
        have hD9 := hD.sub (ws' := [(o_D, .inr (2, [.ref o_Dp, .int (fD 1), .int (fD 2), .int (fD 3)])), (o_Dp, .inl (tC 0, 32, .inl dp))]) [0, 1] (by decide) rfl
        exact W.zret (v := 0) hx hb hr rfl (fun t ht hW => ⟨⟨0, (), rfl, (by rw [FX2_isEchoAsked]; rw [if_pos c_1]; rw [if_neg c_2]; rw [if_neg c_3]; try rfl), by rw [ht]; exact hP9, va_K.moved hW.alike hK, hD9⟩, hS.F ht⟩) hS.2.2 dX2_isEchoAsked_31
      · skip
        have c_3 : (dp 0) = 8 := c_3
        have tc_3 : (dp 0).toInt = (8 : Int) := congrArg Int32.toInt c_3
        refine lv_iconst (v := 1) hx hb dX2_isEchoAsked_26 (by decide) ?_
        refine lv_goto (tgt := 31) hx hb dX2_isEchoAsked_27 (by decide) ?_
        have hP9 := hP.sub (ws' := [(o_D, .inr (2, [.ref o_Dp, .int (fD 1), .int (fD 2), .int (fD 3)])), (o_Dp, .inl (tC 0, 32, .inl dp))]) [0, 1] rfl
        have hD9 := hD.sub (ws' := [(o_D, .inr (2, [.ref o_Dp, .int (fD 1), .int (fD 2), .int (fD 3)])), (o_Dp, .inl (tC 0, 32, .inl dp))]) [0, 1] (by decide) rfl
        exact W.zret (v := 1) hx hb hr rfl (fun t ht hW => ⟨⟨1, (), rfl, (by rw [FX2_isEchoAsked]; rw [if_pos c_1]; rw [if_neg c_2]; rw [if_pos c_3]; try rfl), by rw [ht]; exact hP9, va_K.moved hW.alike hK, hD9⟩, hS.F ht⟩) hS.2.2 dX2_isEchoAsked_31
set_option maxHeartbeats 4000000 in
set_option maxRecDepth 100000 in
theorem c_X2_isSegment (l : Launch) (dC : Nat → ClassId) (dI : Nat → Nat → Nat) (tC : Nat → ClassId) (o_D o_Dp : Nat) (sz : Nat) (fD : (Nat → Int32)) : Met l yX2_isSegment wsX2_isSegment ({ frames := 0, cells := 0, slots := 0, locals := 0 }) (va_Pc [.ref o_D] (fun U => U.heap.size = sz ∧ va_P (dC, dI) vwCl [(o_D, .inr (2, [.ref o_Dp, .int (fD 1), .int (fD 2), .int (fD 3)]))] U.heap ∧ va_K (dC, dI) vwCl (TY tC) U ∧ NW U ∧ va_D (fun _ => True) [(o_D, .inr (2, [.ref o_Dp, .int (fD 1), .int (fD 2), .int (fD 3)]))])) (va_Qi (fun (r : Int32) (u : Unit) => r = FX2_isSegment fD) (fun (u : Unit) (t : State) => va_P (dC, dI) vwCl [(o_D, .inr (2, [.ref o_Dp, .int (fD 1), .int (fD 2), .int (fD 3)]))] t.heap ∧ va_K (dC, dI) vwCl (TY tC) t ∧ va_D (va_A [(o_D, .inr (2, [.ref o_Dp, .int (fD 1), .int (fD 2), .int (fD 3)]))] sz) [(o_D, .inr (2, [.ref o_Dp, .int (fD 1), .int (fD 2), .int (fD 3)]))]) (va_A [(o_D, .inr (2, [.ref o_Dp, .int (fD 1), .int (fD 2), .int (fD 3)]))] sz)) 0 0 (va_A [(o_D, .inr (2, [.ref o_Dp, .int (fD 1), .int (fD 2), .int (fD 3)]))] sz) := by
  refine Met.ofW (cc := cX2_isSegment) (maxL := 1) (ret := (some .boolean)) (by decide) rfl ?_
  intro p e s m args below meth c s₁ B hml hv
  obtain ⟨rfl, hsz, hP, hK, hN, hD0⟩ := hv
  have hx := B.exec
  have hb := B.bytes
  have hr := B.returns
  have hts := atoms_spec (ws := wsX2_isSegment) B.pre
  have hown : s.vm.findClass RX2 = some m.cls := findClass_of_methodNamed B.named
  have hlocks := B.notSynchronized
  subst hsz
  have hD := hD0.self (sz := s.heap.size)
  generalize hAe : va_A [(o_D, .inr (2, [.ref o_Dp, .int (fD 1), .int (fD 2), .int (fD 3)]))] s.heap.size = A at hD ⊢
  have hA : ∀ q : Nat, s.heap.size ≤ q → A q := fun q h => by rw [← hAe]; exact Or.inr h
  have hS : va_S A s.heap s.heap [] := va_S.rf
  have hP : va_P (dC, dI) vwCl [(o_D, .inr (2, [.ref o_Dp, .int (fD 1), .int (fD 2), .int (fD 3)]))] s.heap := hP
  have hl := lv_entry ([.ref o_D]) (n := 1) (Nat.le_of_ble_eq_true rfl)
  rw [lg_entry_eq]
  generalize (lg_sl ([.ref o_D]) ++ List.replicate (1 - (lg_sl ([.ref o_D])).length) Slot.unset).toArray = ls at hl ⊢
  have hl : lv_has ls 1 [(0, .ref o_D)] := hl
  refine lv_aload_n hx hb dX2_isSegment_0 rfl (lv_at hl 0 rfl) ?_
  refine va_get (D := (dC, dI)) (ci := 2) (v := .int (fD 2)) (C := RX2) (T := TX2) (N := 4) hx hb hts (fun w h => List.mem_cons_of_mem _ (uwX2 w h)) hown hK hP 0 rfl rfl 2 (by decide) (hts _ (List.mem_cons_of_mem _ wd_105)) (fun _ h9 => h9) rfl dX2_isSegment_1 ?_
  refine lv_bipush (v := 6) hx hb dX2_isSegment_4 (by decide) ?_
  refine lv_icmp_ne (tgt := 21) hx hb dX2_isSegment_6 (by decide) (fun c_1 => ?_) (fun c_1 => ?_)
  · skip
    have c_1 : ¬ ((fD 2) = 6) := c_1
    refine lv_iconst (v := 0) hx hb dX2_isSegment_21 (by decide) ?_
    have hP9 := hP.sub (ws' := [(o_D, .inr (2, [.ref o_Dp, .int (fD 1), .int (fD 2), .int (fD 3)]))]) [0] rfl
    have hD9 := hD.sub (ws' := [(o_D, .inr (2, [.ref o_Dp, .int (fD 1), .int (fD 2), .int (fD 3)]))]) [0] (by decide) rfl
    exact W.zret (v := 0) hx hb hr rfl (fun t ht hW => ⟨⟨0, (), rfl, (by rw [FX2_isSegment]; rw [if_neg c_1]; try rfl), by rw [ht]; exact hP9, va_K.moved hW.alike hK, hD9⟩, hS.F ht⟩) hS.2.2 dX2_isSegment_22
  · skip
    have c_1 : (fD 2) = 6 := c_1
    have tc_1 : (fD 2).toInt = (6 : Int) := congrArg Int32.toInt c_1
    refine lv_aload_n hx hb dX2_isSegment_9 rfl (lv_at hl 0 rfl) ?_
    refine va_get (D := (dC, dI)) (ci := 2) (v := .int (fD 3)) (C := RX2) (T := TX2) (N := 4) hx hb hts (fun w h => List.mem_cons_of_mem _ (uwX2 w h)) hown hK hP 0 rfl rfl 3 (by decide) (hts _ (List.mem_cons_of_mem _ wd_106)) (fun _ h9 => h9) rfl dX2_isSegment_10 ?_
    refine lv_iconst (v := 5) hx hb dX2_isSegment_13 (by decide) ?_
    refine lv_icmp_lt (tgt := 21) hx hb dX2_isSegment_14 (by decide) (fun c_2 => ?_) (fun c_2 => ?_)
    · skip
      have c_2 : (fD 3) < 5 := c_2
      have tc_2 : (fD 3).toInt < (5 : Int) := Int32.lt_iff_toInt_lt.mp c_2
      refine lv_iconst (v := 0) hx hb dX2_isSegment_21 (by decide) ?_
      have hP9 := hP.sub (ws' := [(o_D, .inr (2, [.ref o_Dp, .int (fD 1), .int (fD 2), .int (fD 3)]))]) [0] rfl
      have hD9 := hD.sub (ws' := [(o_D, .inr (2, [.ref o_Dp, .int (fD 1), .int (fD 2), .int (fD 3)]))]) [0] (by decide) rfl
      exact W.zret (v := 0) hx hb hr rfl (fun t ht hW => ⟨⟨0, (), rfl, (by rw [FX2_isSegment]; rw [if_pos c_1]; rw [if_pos c_2]; try rfl), by rw [ht]; exact hP9, va_K.moved hW.alike hK, hD9⟩, hS.F ht⟩) hS.2.2 dX2_isSegment_22
    · skip
      have c_2 : ¬ ((fD 3) < 5) := c_2
      have tc_2 : ¬ (fD 3).toInt < (5 : Int) := fun q => c_2 (Int32.lt_iff_toInt_lt.mpr q)
      refine lv_iconst (v := 1) hx hb dX2_isSegment_17 (by decide) ?_
      refine lv_goto (tgt := 22) hx hb dX2_isSegment_18 (by decide) ?_
      have hP9 := hP.sub (ws' := [(o_D, .inr (2, [.ref o_Dp, .int (fD 1), .int (fD 2), .int (fD 3)]))]) [0] rfl
      have hD9 := hD.sub (ws' := [(o_D, .inr (2, [.ref o_Dp, .int (fD 1), .int (fD 2), .int (fD 3)]))]) [0] (by decide) rfl
      exact W.zret (v := 1) hx hb hr rfl (fun t ht hW => ⟨⟨1, (), rfl, (by rw [FX2_isSegment]; rw [if_pos c_1]; rw [if_neg c_2]; try rfl), by rw [ht]; exact hP9, va_K.moved hW.alike hK, hD9⟩, hS.F ht⟩) hS.2.2 dX2_isSegment_22
set_option maxHeartbeats 4000000 in
set_option maxRecDepth 100000 in
theorem c_X2_hasFlag (l : Launch) (dC : Nat → ClassId) (dI : Nat → Nat → Nat) (tC : Nat → ClassId) (o_D o_Dp : Nat) (sz : Nat) (fD : (Nat → Int32)) (dp : (Nat → Int32)) (i0 : Int32) : Met l yX2_hasFlag wsX2_hasFlag ({ frames := 0, cells := 0, slots := 0, locals := 0 }) (va_Pc [.ref o_D, .int i0] (fun U => U.heap.size = sz ∧ va_P (dC, dI) vwCl [(o_D, .inr (2, [.ref o_Dp, .int (fD 1), .int (fD 2), .int (fD 3)])), (o_Dp, .inl (tC 0, 32, .inl dp))] U.heap ∧ va_K (dC, dI) vwCl (TY tC) U ∧ NW U ∧ va_D (fun _ => True) [(o_D, .inr (2, [.ref o_Dp, .int (fD 1), .int (fD 2), .int (fD 3)])), (o_Dp, .inl (tC 0, 32, .inl dp))])) (va_Qi (fun (r : Int32) (u : Unit) => r = FX2_hasFlag fD dp i0) (fun (u : Unit) (t : State) => va_P (dC, dI) vwCl [(o_D, .inr (2, [.ref o_Dp, .int (fD 1), .int (fD 2), .int (fD 3)])), (o_Dp, .inl (tC 0, 32, .inl dp))] t.heap ∧ va_K (dC, dI) vwCl (TY tC) t ∧ va_D (va_A [(o_D, .inr (2, [.ref o_Dp, .int (fD 1), .int (fD 2), .int (fD 3)])), (o_Dp, .inl (tC 0, 32, .inl dp))] sz) [(o_D, .inr (2, [.ref o_Dp, .int (fD 1), .int (fD 2), .int (fD 3)])), (o_Dp, .inl (tC 0, 32, .inl dp))]) (va_A [(o_D, .inr (2, [.ref o_Dp, .int (fD 1), .int (fD 2), .int (fD 3)])), (o_Dp, .inl (tC 0, 32, .inl dp))] sz)) 0 0 (va_A [(o_D, .inr (2, [.ref o_Dp, .int (fD 1), .int (fD 2), .int (fD 3)])), (o_Dp, .inl (tC 0, 32, .inl dp))] sz) := by
  refine Met.ofW (cc := cX2_hasFlag) (maxL := 2) (ret := (some .boolean)) (by decide) rfl ?_
  intro p e s m args below meth c s₁ B hml hv
  obtain ⟨rfl, hsz, hP, hK, hN, hD0⟩ := hv
  have hx := B.exec
  have hb := B.bytes
  have hr := B.returns
  have hts := atoms_spec (ws := wsX2_hasFlag) B.pre
  have hown : s.vm.findClass RX2 = some m.cls := findClass_of_methodNamed B.named
  have hlocks := B.notSynchronized
  subst hsz
  have hD := hD0.self (sz := s.heap.size)
  generalize hAe : va_A [(o_D, .inr (2, [.ref o_Dp, .int (fD 1), .int (fD 2), .int (fD 3)])), (o_Dp, .inl (tC 0, 32, .inl dp))] s.heap.size = A at hD ⊢
  have hA : ∀ q : Nat, s.heap.size ≤ q → A q := fun q h => by rw [← hAe]; exact Or.inr h
  have hS : va_S A s.heap s.heap [] := va_S.rf
  have hP : va_P (dC, dI) vwCl [(o_D, .inr (2, [.ref o_Dp, .int (fD 1), .int (fD 2), .int (fD 3)])), (o_Dp, .inl (tC 0, 32, .inl dp))] s.heap := hP
  have hl := lv_entry ([.ref o_D, .int i0]) (n := 2) (Nat.le_of_ble_eq_true rfl)
  rw [lg_entry_eq]
  generalize (lg_sl ([.ref o_D, .int i0]) ++ List.replicate (2 - (lg_sl ([.ref o_D, .int i0])).length) Slot.unset).toArray = ls at hl ⊢
  have hl : lv_has ls 2 [(0, .ref o_D), (1, .int i0)] := hl
  refine lv_aload_n hx hb dX2_hasFlag_0 rfl (lv_at hl 0 rfl) ?_
  refine va_get (D := (dC, dI)) (ci := 2) (v := .ref o_Dp) (C := RX2) (T := TX2) (N := 4) hx hb hts (fun w h => List.mem_cons_of_mem _ (uwX2 w h)) hown hK hP 0 rfl rfl 0 (by decide) (hts _ (List.mem_cons_of_mem _ wd_97)) (fun _ h9 => h9) rfl dX2_hasFlag_1 ?_
  refine lv_iconst (v := 3) hx hb dX2_hasFlag_4 (by decide) ?_
  refine va_iald hx hb hK hP 1 0 rfl rfl (vi_c (by decide +kernel)) dX2_hasFlag_5 ?_
  refine lv_iload_n hx hb dX2_hasFlag_6 rfl (lv_at hl 1 rfl) ?_
  refine lv_iand hx hb dX2_hasFlag_7 ?_
  refine lv_if_eq (tgt := 15) hx hb dX2_hasFlag_8 (by decide) (fun c_1 => ?_) (fun c_1 => ?_)
  · skip
    have c_1 : ((dp 3) &&& i0) = 0 := c_1
    have tc_1 : ((dp 3) &&& i0).toInt = (0 : Int) := congrArg Int32.toInt c_1
    refine lv_iconst (v := 0) hx hb dX2_hasFlag_15 (by decide) ?_
    have hP9 := hP.sub (ws' := [(o_D, .inr (2, [.ref o_Dp, .int (fD 1), .int (fD 2), .int (fD 3)])), (o_Dp, .inl (tC 0, 32, .inl dp))]) [0, 1] rfl
    have hD9 := hD.sub (ws' := [(o_D, .inr (2, [.ref o_Dp, .int (fD 1), .int (fD 2), .int (fD 3)])), (o_Dp, .inl (tC 0, 32, .inl dp))]) [0, 1] (by decide) rfl
    exact W.zret (v := 0) hx hb hr rfl (fun t ht hW => ⟨⟨0, (), rfl, (by rw [FX2_hasFlag]; rw [if_pos c_1]; try rfl), by rw [ht]; exact hP9, va_K.moved hW.alike hK, hD9⟩, hS.F ht⟩) hS.2.2 dX2_hasFlag_16
  · skip
    have c_1 : ¬ (((dp 3) &&& i0) = 0) := c_1
    refine lv_iconst (v := 1) hx hb dX2_hasFlag_11 (by decide) ?_
    refine lv_goto (tgt := 16) hx hb dX2_hasFlag_12 (by decide) ?_
    have hP9 := hP.sub (ws' := [(o_D, .inr (2, [.ref o_Dp, .int (fD 1), .int (fD 2), .int (fD 3)])), (o_Dp, .inl (tC 0, 32, .inl dp))]) [0, 1] rfl
    have hD9 := hD.sub (ws' := [(o_D, .inr (2, [.ref o_Dp, .int (fD 1), .int (fD 2), .int (fD 3)])), (o_Dp, .inl (tC 0, 32, .inl dp))]) [0, 1] (by decide) rfl
    exact W.zret (v := 1) hx hb hr rfl (fun t ht hW => ⟨⟨1, (), rfl, (by rw [FX2_hasFlag]; rw [if_neg c_1]; try rfl), by rw [ht]; exact hP9, va_K.moved hW.alike hK, hD9⟩, hS.F ht⟩) hS.2.2 dX2_hasFlag_16
set_option maxHeartbeats 4000000 in
set_option maxRecDepth 100000 in
theorem c_X2_wantsAck (l : Launch) (dC : Nat → ClassId) (dI : Nat → Nat → Nat) (tC : Nat → ClassId) (o_D o_Dp : Nat) (sz : Nat) (fD : (Nat → Int32)) (dp : (Nat → Int32)) : Met l yX2_wantsAck wsX2_wantsAck ({ frames := 1, cells := 0, slots := 0, locals := 21 }) (va_Pc [.ref o_D] (fun U => U.heap.size = sz ∧ va_P (dC, dI) vwCl [(o_D, .inr (2, [.ref o_Dp, .int (fD 1), .int (fD 2), .int (fD 3)])), (o_Dp, .inl (tC 0, 32, .inl dp))] U.heap ∧ va_K (dC, dI) vwCl (TY tC) U ∧ NW U ∧ va_D (fun _ => True) [(o_D, .inr (2, [.ref o_Dp, .int (fD 1), .int (fD 2), .int (fD 3)])), (o_Dp, .inl (tC 0, 32, .inl dp))])) (va_Qi (fun (r : Int32) (u : Unit) => r = FX2_wantsAck fD dp) (fun (u : Unit) (t : State) => va_P (dC, dI) vwCl [(o_D, .inr (2, [.ref o_Dp, .int (fD 1), .int (fD 2), .int (fD 3)])), (o_Dp, .inl (tC 0, 32, .inl dp))] t.heap ∧ va_K (dC, dI) vwCl (TY tC) t ∧ va_D (va_A [(o_D, .inr (2, [.ref o_Dp, .int (fD 1), .int (fD 2), .int (fD 3)])), (o_Dp, .inl (tC 0, 32, .inl dp))] sz) [(o_D, .inr (2, [.ref o_Dp, .int (fD 1), .int (fD 2), .int (fD 3)])), (o_Dp, .inl (tC 0, 32, .inl dp))]) (va_A [(o_D, .inr (2, [.ref o_Dp, .int (fD 1), .int (fD 2), .int (fD 3)])), (o_Dp, .inl (tC 0, 32, .inl dp))] sz)) 0 0 (va_A [(o_D, .inr (2, [.ref o_Dp, .int (fD 1), .int (fD 2), .int (fD 3)])), (o_Dp, .inl (tC 0, 32, .inl dp))] sz) := by
  refine Met.ofW (cc := cX2_wantsAck) (maxL := 1) (ret := (some .boolean)) (by decide) rfl ?_
  intro p e s m args below meth c s₁ B hml hv
  obtain ⟨rfl, hsz, hP, hK, hN, hD0⟩ := hv
  have hx := B.exec
  have hb := B.bytes
  have hr := B.returns
  have hts := atoms_spec (ws := wsX2_wantsAck) B.pre
  have hown : s.vm.findClass RX2 = some m.cls := findClass_of_methodNamed B.named
  have hlocks := B.notSynchronized
  subst hsz
  have hD := hD0.self (sz := s.heap.size)
  generalize hAe : va_A [(o_D, .inr (2, [.ref o_Dp, .int (fD 1), .int (fD 2), .int (fD 3)])), (o_Dp, .inl (tC 0, 32, .inl dp))] s.heap.size = A at hD ⊢
  have hA : ∀ q : Nat, s.heap.size ≤ q → A q := fun q h => by rw [← hAe]; exact Or.inr h
  have hS : va_S A s.heap s.heap [] := va_S.rf
  have hP : va_P (dC, dI) vwCl [(o_D, .inr (2, [.ref o_Dp, .int (fD 1), .int (fD 2), .int (fD 3)])), (o_Dp, .inl (tC 0, 32, .inl dp))] s.heap := hP
  have hl := lv_entry ([.ref o_D]) (n := 1) (Nat.le_of_ble_eq_true rfl)
  rw [lg_entry_eq]
  generalize (lg_sl ([.ref o_D]) ++ List.replicate (1 - (lg_sl ([.ref o_D])).length) Slot.unset).toArray = ls at hl ⊢
  have hl : lv_has ls 1 [(0, .ref o_D)] := hl
  refine lv_aload_n hx hb dX2_wantsAck_0 rfl (lv_at hl 0 rfl) ?_
  refine va_get (D := (dC, dI)) (ci := 2) (v := .int (fD 3)) (C := RX2) (T := TX2) (N := 4) hx hb hts (fun w h => List.mem_cons_of_mem _ (uwX2 w h)) hown hK hP 0 rfl rfl 3 (by decide) (hts _ (List.mem_cons_of_mem _ wd_106)) (fun _ h9 => h9) rfl dX2_wantsAck_1 ?_
  refine lv_iconst (v := 5) hx hb dX2_wantsAck_4 (by decide) ?_
  refine lv_icmp_gt (tgt := 16) hx hb dX2_wantsAck_5 (by decide) (fun c_1 => ?_) (fun c_1 => ?_)
  · skip
    have c_1 : 5 < (fD 3) := c_1
    have tc_1 : (5 : Int) < (fD 3).toInt := Int32.lt_iff_toInt_lt.mp c_1
    refine lv_iconst (v := 1) hx hb dX2_wantsAck_16 (by decide) ?_
    refine lv_goto (tgt := 21) hx hb dX2_wantsAck_17 (by decide) ?_
    have hP9 := hP.sub (ws' := [(o_D, .inr (2, [.ref o_Dp, .int (fD 1), .int (fD 2), .int (fD 3)])), (o_Dp, .inl (tC 0, 32, .inl dp))]) [0, 1] rfl
    have hD9 := hD.sub (ws' := [(o_D, .inr (2, [.ref o_Dp, .int (fD 1), .int (fD 2), .int (fD 3)])), (o_Dp, .inl (tC 0, 32, .inl dp))]) [0, 1] (by decide) rfl
    exact W.zret (v := 1) hx hb hr rfl (fun t ht hW => ⟨⟨1, (), rfl, (by rw [FX2_wantsAck]; rw [if_pos c_1]; try rfl), by rw [ht]; exact hP9, va_K.moved hW.alike hK, hD9⟩, hS.F ht⟩) hS.2.2 dX2_wantsAck_21
  · skip
    have c_1 : ¬ (5 < (fD 3)) := c_1
    have tc_1 : ¬ (5 : Int) < (fD 3).toInt := fun q => c_1 (Int32.lt_iff_toInt_lt.mpr q)
    refine lv_aload_n hx hb dX2_wantsAck_8 rfl (lv_at hl 0 rfl) ?_
    refine lv_iconst (v := 1) hx hb dX2_wantsAck_9 (by decide) ?_
    have hPc := hP.sub (ws' := [(o_D, .inr (2, [.ref o_Dp, .int (fD 1), .int (fD 2), .int (fD 3)])), (o_Dp, .inl (tC 0, 32, .inl dp))]) [0, 1] rfl
    have hDc := hD.sub (ws' := [(o_D, .inr (2, [.ref o_Dp, .int (fD 1), .int (fD 2), .int (fD 3)])), (o_Dp, .inl (tC 0, 32, .inl dp))]) [0, 1] (by decide) rfl
    have hFc := va_free (wc := [(o_D, .inr (2, [.ref o_Dp, .int (fD 1), .int (fD 2), .int (fD 3)])), (o_Dp, .inl (tC 0, 32, .inl dp))]) hD hS hA [0, 1] rfl
    refine va_calli (va_runV (As := [.int 1]) (rest := []) ⟨hx, hb, hml, hown, hts⟩ (c_X2_hasFlag l dC dI tC o_D o_Dp s.heap.size fD dp 1) (cwV 1 hts (gV wd_554 wd_444 wd_445 wd_5 wd_446) rfl rfl rfl dsc_X2_hasFlag ⟨Nat.le_of_ble_eq_true rfl, Nat.le_of_ble_eq_true rfl⟩) ⟨fun a U g mk q => by obtain ⟨q0, q1, qP, qK, qN, qD⟩ := q; exact ⟨q0, q1, qP, va_K.moved (u := U) (U := U.calling g mk a) (Vm.Alike.refl U.vm) qK, NW.same (u := U) (U := U.calling g mk a) rfl qN, qD⟩, va_recv hK hPc (ci := 2) (q0 := 0) rfl rfl, fun U hU hW => ⟨rfl, by rw [hU], by rw [hU]; exact hPc, va_K.moved hW.alike hK, NW.warm hW hN, hDc.weaken (fun _ _ _ _ => trivial)⟩⟩ rfl rfl hl.1 rfl (lv_room (Nat.le_of_ble_eq_true rfl)) dX2_wantsAck_10 ⟨Nat.le_of_ble_eq_true rfl, Nat.le_of_ble_eq_true rfl⟩) hS (fun q _ h => hFc q h) hFc (fun r_2 u t H1 locs ht hvm hw hB hz1 hk1 hS => ?_)
    obtain ⟨hP1, hK1, hD1⟩ := hB
    rw [ht] at hP1
    obtain ⟨hP, hD⟩ := va_join (wr := []) (w1 := [(o_D, .inr (2, [.ref o_Dp, .int (fD 1), .int (fD 2), .int (fD 3)])), (o_Dp, .inl (tC 0, 32, .inl dp))]) hP hD [0, 1] [] rfl rfl (by decide) (by decide) hk1 hFc hP1 hD1
    generalize H1 = H at hP hS ⊢
    have hP : va_P (dC, dI) vwCl [(o_D, .inr (2, [.ref o_Dp, .int (fD 1), .int (fD 2), .int (fD 3)])), (o_Dp, .inl (tC 0, 32, .inl dp))] H := hP
    have hD : va_D A [(o_D, .inr (2, [.ref o_Dp, .int (fD 1), .int (fD 2), .int (fD 3)])), (o_Dp, .inl (tC 0, 32, .inl dp))] := hD
    have er_2 : r_2 = (FX2_hasFlag fD dp 1) := hw
    refine lv_if_eq (tgt := 20) hx hb dX2_wantsAck_13 (by decide) (fun c_3 => ?_) (fun c_3 => ?_)
    · skip
      have c_3 : r_2 = 0 := c_3
      have tc_3 : r_2.toInt = (0 : Int) := congrArg Int32.toInt c_3
      refine lv_iconst (v := 0) hx hb dX2_wantsAck_20 (by decide) ?_
      have hP9 := hP.sub (ws' := [(o_D, .inr (2, [.ref o_Dp, .int (fD 1), .int (fD 2), .int (fD 3)])), (o_Dp, .inl (tC 0, 32, .inl dp))]) [0, 1] rfl
      have hD9 := hD.sub (ws' := [(o_D, .inr (2, [.ref o_Dp, .int (fD 1), .int (fD 2), .int (fD 3)])), (o_Dp, .inl (tC 0, 32, .inl dp))]) [0, 1] (by decide) rfl
      exact W.zret (v := 0) hx hb hr rfl (fun t ht hW => ⟨⟨0, (), rfl, (by subst er_2; rw [FX2_wantsAck]; rw [if_neg c_1]; rw [if_pos c_3]; try rfl), by rw [ht]; exact hP9, va_K.moved hW.alike hK, hD9⟩, hS.F ht⟩) hS.2.2 dX2_wantsAck_21
    · skip
      have c_3 : ¬ (r_2 = 0) := c_3
      refine lv_iconst (v := 1) hx hb dX2_wantsAck_16 (by decide) ?_
      refine lv_goto (tgt := 21) hx hb dX2_wantsAck_17 (by decide) ?_
      have hP9 := hP.sub (ws' := [(o_D, .inr (2, [.ref o_Dp, .int (fD 1), .int (fD 2), .int (fD 3)])), (o_Dp, .inl (tC 0, 32, .inl dp))]) [0, 1] rfl
      have hD9 := hD.sub (ws' := [(o_D, .inr (2, [.ref o_Dp, .int (fD 1), .int (fD 2), .int (fD 3)])), (o_Dp, .inl (tC 0, 32, .inl dp))]) [0, 1] (by decide) rfl
      exact W.zret (v := 1) hx hb hr rfl (fun t ht hW => ⟨⟨1, (), rfl, (by subst er_2; rw [FX2_wantsAck]; rw [if_neg c_1]; rw [if_neg c_3]; try rfl), by rw [ht]; exact hP9, va_K.moved hW.alike hK, hD9⟩, hS.F ht⟩) hS.2.2 dX2_wantsAck_21
