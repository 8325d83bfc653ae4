set_option maxHeartbeats 4000000 in
set_option maxRecDepth 100000 in
theorem c_X1_begin (l : Launch) (dC : Nat → ClassId) (dI : Nat → Nat → Nat) (tC : Nat → ClassId) (o_M o_Mo : Nat) (sz : Nat) (fM : (Nat → Int32)) (i0 i1 : Int32) : Met l yX1_begin wsX1_begin ({ frames := 0, cells := 0, slots := 0, locals := 0 }) (va_Pc [.ref o_M, .int i0, .int i1] (fun U => U.heap.size = sz ∧ va_P (dC, dI) vwCl [(o_M, .inr (1, [.ref o_Mo, .int (fM 1), .int (fM 2), .int (fM 3), .int (fM 4), .int (fM 5), .int (fM 6), .int (fM 7)]))] U.heap ∧ va_K (dC, dI) vwCl (TY tC) U ∧ NW U ∧ va_D (fun _ => True) [(o_M, .inr (1, [.ref o_Mo, .int (fM 1), .int (fM 2), .int (fM 3), .int (fM 4), .int (fM 5), .int (fM 6), .int (fM 7)]))])) (va_Qv (fun (u : (Nat → Int32)) => u = FX1_begin fM i0 i1) (fun (u : (Nat → Int32)) (t : State) => va_P (dC, dI) vwCl [(o_M, .inr (1, [.ref o_Mo, .int (u 1), .int (u 2), .int (u 3), .int (u 4), .int (u 5), .int (u 6), .int (u 7)]))] t.heap ∧ va_K (dC, dI) vwCl (TY tC) t ∧ va_D (va_A [(o_M, .inr (1, [.ref o_Mo, .int (fM 1), .int (fM 2), .int (fM 3), .int (fM 4), .int (fM 5), .int (fM 6), .int (fM 7)]))] sz) [(o_M, .inr (1, [.ref o_Mo, .int (u 1), .int (u 2), .int (u 3), .int (u 4), .int (u 5), .int (u 6), .int (u 7)]))]) (va_A [(o_M, .inr (1, [.ref o_Mo, .int (fM 1), .int (fM 2), .int (fM 3), .int (fM 4), .int (fM 5), .int (fM 6), .int (fM 7)]))] sz)) 0 0 (va_A [(o_M, .inr (1, [.ref o_Mo, .int (fM 1), .int (fM 2), .int (fM 3), .int (fM 4), .int (fM 5), .int (fM 6), .int (fM 7)]))] sz) := by
  refine Met.ofW (cc := cX1_begin) (maxL := 3) (ret := none) (by decide) rfl ?_
  intro p e s m args below meth c s₁ B hml hv
  obtain ⟨rfl, hsz, hP, hK, hN, hD0⟩ := hv
  have hx := B.exec
  have hb := B.bytes
  have hr := B.returns
  have hts := atoms_spec (ws := wsX1_begin) B.pre
  have hown : s.vm.findClass RX1 = some m.cls := findClass_of_methodNamed B.named
  have hlocks := B.notSynchronized
  subst hsz
  have hD := hD0.self (sz := s.heap.size)
  generalize hAe : va_A [(o_M, .inr (1, [.ref o_Mo, .int (fM 1), .int (fM 2), .int (fM 3), .int (fM 4), .int (fM 5), .int (fM 6), .int (fM 7)]))] s.heap.size = A at hD ⊢
  have hA : ∀ q : Nat, s.heap.size ≤ q → A q := fun q h => by rw [← hAe]; exact Or.inr h
  have hS : va_S A s.heap s.heap [] := va_S.rf
  have hP : va_P (dC, dI) vwCl [(o_M, .inr (1, [.ref o_Mo, .int (fM 1), .int (fM 2), .int (fM 3), .int (fM 4), .int (fM 5), .int (fM 6), .int (fM 7)]))] s.heap := hP
  have hl := lv_entry ([.ref o_M, .int i0, .int i1]) (n := 3) (Nat.le_of_ble_eq_true rfl)
  rw [lg_entry_eq]
  generalize (lg_sl ([.ref o_M, .int i0, .int i1]) ++ List.replicate (3 - (lg_sl ([.ref o_M, .int i0, .int i1])).length) Slot.unset).toArray = ls at hl ⊢
  have hl : lv_has ls 3 [(0, .ref o_M), (1, .int i0), (2, .int i1)] := hl
  refine lv_aload_n hx hb dX1_begin_0 rfl (lv_at hl 0 rfl) ?_
  refine lv_iconst (v := 1) hx hb dX1_begin_1 (by decide) ?_
  refine va_put (D := (dC, dI)) (ci := 1) (v := .int 1) (ty := .boolean) (C := RX1) (T := TX1) (N := 8) hx hb hts (fun w h => List.mem_cons_of_mem _ (uwX1 w h)) tyX1 tyX1_ok nmX1 hown hK hP hD hS 0 rfl rfl 1 (by decide) (hts _ (List.mem_cons_of_mem _ wd_54)) (fun _ h9 => h9) rfl (by decide +kernel) (by decide) rfl (Nat.le_of_ble_eq_true rfl) dX1_begin_2 (fun H locs hP hD hS => ?_)
  have hP : va_P (dC, dI) vwCl [(o_M, .inr (1, [.ref o_Mo, .int 1, .int (fM 2), .int (fM 3), .int (fM 4), .int (fM 5), .int (fM 6), .int (fM 7)]))] H := hP
  have hD : va_D A [(o_M, .inr (1, [.ref o_Mo, .int 1, .int (fM 2), .int (fM 3), .int (fM 4), .int (fM 5), .int (fM 6), .int (fM 7)]))] := hD
  refine lv_aload_n hx hb dX1_begin_5 rfl (lv_at hl 0 rfl) ?_
  refine lv_iload_n hx hb dX1_begin_6 rfl (lv_at hl 1 rfl) ?_
  refine va_put (D := (dC, dI)) (ci := 1) (v := .int i0) (ty := .int) (C := RX1) (T := TX1) (N := 8) hx hb hts (fun w h => List.mem_cons_of_mem _ (uwX1 w h)) tyX1 tyX1_ok nmX1 hown hK hP hD hS 0 rfl rfl 2 (by decide) (hts _ (List.mem_cons_of_mem _ wd_56)) (fun _ h9 => h9) rfl (by decide +kernel) rfl rfl (Nat.le_of_ble_eq_true rfl) dX1_begin_7 (fun H locs hP hD hS => ?_)
  have hP : va_P (dC, dI) vwCl [(o_M, .inr (1, [.ref o_Mo, .int 1, .int i0, .int (fM 3), .int (fM 4), .int (fM 5), .int (fM 6), .int (fM 7)]))] H := hP
  have hD : va_D A [(o_M, .inr (1, [.ref o_Mo, .int 1, .int i0, .int (fM 3), .int (fM 4), .int (fM 5), .int (fM 6), .int (fM 7)]))] := hD
  refine lv_aload_n hx hb dX1_begin_10 rfl (lv_at hl 0 rfl) ?_
  refine lv_iload_n hx hb dX1_begin_11 rfl (lv_at hl 2 rfl) ?_
  refine va_put (D := (dC, dI)) (ci := 1) (v := .int i1) (ty := .int) (C := RX1) (T := TX1) (N := 8) hx hb hts (fun w h => List.mem_cons_of_mem _ (uwX1 w h)) tyX1 tyX1_ok nmX1 hown hK hP hD hS 0 rfl rfl 3 (by decide) (hts _ (List.mem_cons_of_mem _ wd_58)) (fun _ h9 => h9) rfl (by decide +kernel) rfl rfl (Nat.le_of_ble_eq_true rfl) dX1_begin_12 (fun H locs hP hD hS => ?_)
  have hP : va_P (dC, dI) vwCl [(o_M, .inr (1, [.ref o_Mo, .int 1, .int i0, .int i1, .int (fM 4), .int (fM 5), .int (fM 6), .int (fM 7)]))] H := hP
  have hD : va_D A [(o_M, .inr (1, [.ref o_Mo, .int 1, .int i0, .int i1, .int (fM 4), .int (fM 5), .int (fM 6), .int (fM 7)]))] := hD
  refine lv_aload_n hx hb dX1_begin_15 rfl (lv_at hl 0 rfl) ?_
  refine lv_iconst (v := 0) hx hb dX1_begin_16 (by decide) ?_
  refine va_put (D := (dC, dI)) (ci := 1) (v := .int 0) (ty := .int) (C := RX1) (T := TX1) (N := 8) hx hb hts (fun w h => List.mem_cons_of_mem _ (uwX1 w h)) tyX1 tyX1_ok nmX1 hown hK hP hD hS 0 rfl rfl 4 (by decide) (hts _ (List.mem_cons_of_mem _ wd_59)) (fun _ h9 => h9) rfl (by decide +kernel) rfl rfl (Nat.le_of_ble_eq_true rfl) dX1_begin_17 (fun H locs hP hD hS => ?_)
  have hP : va_P (dC, dI) vwCl [(o_M, .inr (1, [.ref o_Mo, .int 1, .int i0, .int i1, .int 0, .int (fM 5), .int (fM 6), .int (fM 7)]))] H := hP
  have hD : va_D A [(o_M, .inr (1, [.ref o_Mo, .int 1, .int i0, .int i1, .int 0, .int (fM 5), .int (fM 6), .int (fM 7)]))] := hD
  refine lv_aload_n hx hb dX1_begin_20 rfl (lv_at hl 0 rfl) ?_
  refine lv_iconst (v := 0) hx hb dX1_begin_21 (by decide) ?_
  refine va_put (D := (dC, dI)) (ci := 1) (v := .int 0) (ty := .int) (C := RX1) (T := TX1) (N := 8) hx hb hts (fun w h => List.mem_cons_of_mem _ (uwX1 w h)) tyX1 tyX1_ok nmX1 hown hK hP hD hS 0 rfl rfl 5 (by decide) (hts _ (List.mem_cons_of_mem _ wd_61)) (fun _ h9 => h9) rfl (by decide +kernel) rfl rfl (Nat.le_of_ble_eq_true rfl) dX1_begin_22 (fun H locs hP hD hS => ?_)
  have hP : va_P (dC, dI) vwCl [(o_M, .inr (1, [.ref o_Mo, .int 1, .int i0, .int i1, .int 0, .int 0, .int (fM 6), .int (fM 7)]))] H := hP
  have hD : va_D A [(o_M, .inr (1, [.ref o_Mo, .int 1, .int i0, .int i1, .int 0, .int 0, .int (fM 6), .int (fM 7)]))] := hD
  refine lv_aload_n hx hb dX1_begin_25 rfl (lv_at hl 0 rfl) ?_
  refine lv_iconst (v := (-1)) hx hb dX1_begin_26 (by decide) ?_
  refine va_put (D := (dC, dI)) (ci := 1) (v := .int (-1)) (ty := .int) (C := RX1) (T := TX1) (N := 8) hx hb hts (fun w h => List.mem_cons_of_mem _ (uwX1 w h)) tyX1 tyX1_ok nmX1 hown hK hP hD hS 0 rfl rfl 6 (by decide) (hts _ (List.mem_cons_of_mem _ wd_62)) (fun _ h9 => h9) rfl (by decide +kernel) rfl rfl (Nat.le_of_ble_eq_true rfl) dX1_begin_27 (fun H locs hP hD hS => ?_)
  have hP : va_P (dC, dI) vwCl [(o_M, .inr (1, [.ref o_Mo, .int 1, .int i0, .int i1, .int 0, .int 0, .int (-1), .int (fM 7)]))] H := hP
  have hD : va_D A [(o_M, .inr (1, [.ref o_Mo, .int 1, .int i0, .int i1, .int 0, .int 0, .int (-1), .int (fM 7)]))] := hD
  refine lv_aload_n hx hb dX1_begin_30 rfl (lv_at hl 0 rfl) ?_
  refine lv_iconst (v := 0) hx hb dX1_begin_31 (by decide) ?_
  refine va_put (D := (dC, dI)) (ci := 1) (v := .int 0) (ty := .int) (C := RX1) (T := TX1) (N := 8) hx hb hts (fun w h => List.mem_cons_of_mem _ (uwX1 w h)) tyX1 tyX1_ok nmX1 hown hK hP hD hS 0 rfl rfl 7 (by decide) (hts _ (List.mem_cons_of_mem _ wd_64)) (fun _ h9 => h9) rfl (by decide +kernel) rfl rfl (Nat.le_of_ble_eq_true rfl) dX1_begin_32 (fun H locs hP hD hS => ?_)
  have hP : va_P (dC, dI) vwCl [(o_M, .inr (1, [.ref o_Mo, .int 1, .int i0, .int i1, .int 0, .int 0, .int (-1), .int 0]))] H := hP
  have hD : va_D A [(o_M, .inr (1, [.ref o_Mo, .int 1, .int i0, .int i1, .int 0, .int 0, .int (-1), .int 0]))] := hD
  have hP9 := hP.sub (ws' := [(o_M, .inr (1, [.ref o_Mo, .int ((upd (upd (upd (upd (upd (upd (upd fM 1 1) 2 i0) 3 i1) 4 0) 5 0) 6 (-1)) 7 0) 1), .int ((upd (upd (upd (upd (upd (upd (upd fM 1 1) 2 i0) 3 i1) 4 0) 5 0) 6 (-1)) 7 0) 2), .int ((upd (upd (upd (upd (upd (upd (upd fM 1 1) 2 i0) 3 i1) 4 0) 5 0) 6 (-1)) 7 0) 3), .int ((upd (upd (upd (upd (upd (upd (upd fM 1 1) 2 i0) 3 i1) 4 0) 5 0) 6 (-1)) 7 0) 4), .int ((upd (upd (upd (upd (upd (upd (upd fM 1 1) 2 i0) 3 i1) 4 0) 5 0) 6 (-1)) 7 0) 5), .int ((upd (upd (upd (upd (upd (upd (upd fM 1 1) 2 i0) 3 i1) 4 0) 5 0) 6 (-1)) 7 0) 6), .int ((upd (upd (upd (upd (upd (upd (upd fM 1 1) 2 i0) 3 i1) 4 0) 5 0) 6 (-1)) 7 0) 7)]))]) [0] rfl
  have hD9 := hD.sub (ws' := [(o_M, .inr (1, [.ref o_Mo, .int ((upd (upd (upd (upd (upd (upd (upd fM 1 1) 2 i0) 3 i1) 4 0) 5 0) 6 (-1)) 7 0) 1), .int ((upd (upd (upd (upd (upd (upd (upd fM 1 1) 2 i0) 3 i1) 4 0) 5 0) 6 (-1)) 7 0) 2), .int ((upd (upd (upd (upd (upd (upd (upd fM 1 1) 2 i0) 3 i1) 4 0) 5 0) 6 (-1)) 7 0) 3), .int ((upd (upd (upd (upd (upd (upd (upd fM 1 1) 2 i0) 3 i1) 4 0) 5 0) 6 (-1)) 7 0) 4), .int ((upd (upd (upd (upd (upd (upd (upd fM 1 1) 2 i0) 3 i1) 4 0) 5 0) 6 (-1)) 7 0) 5), .int ((upd (upd (upd (upd (upd (upd (upd fM 1 1) 2 i0) 3 i1) 4 0) 5 0) 6 (-1)) 7 0) 6), .int ((upd (upd (upd (upd (upd (upd (upd fM 1 1) 2 i0) 3 i1) 4 0) 5 0) 6 (-1)) 7 0) 7)]))]) [0] (by decide) rfl
  exact W.vret hx hb hr (fun t ht hW => ⟨⟨(upd (upd (upd (upd (upd (upd (upd fM 1 1) 2 i0) 3 i1) 4 0) 5 0) 6 (-1)) 7 0), rfl, (by rw [FX1_begin]; try rfl), by rw [ht]; exact hP9, va_K.moved hW.alike hK, hD9⟩, hS.F ht⟩) hS.2.2 dX1_begin_35
set_option maxHeartbeats 4000000 in
set_option maxRecDepth 100000 in
theorem c_X1_isOf (l : Launch) (dC : Nat → ClassId) (dI : Nat → Nat → Nat) (tC : Nat → ClassId) (o_M o_A o_Mo o_Ao : Nat) (sz : Nat) (fM : (Nat → Int32)) (fA : (Nat → Int32)) (ao : (Nat → Int32)) : Met l yX1_isOf wsX1_isOf ({ frames := 0, cells := 0, slots := 0, locals := 0 }) (va_Pc [.ref o_M, .ref o_A] (fun U => U.heap.size = sz ∧ va_P (dC, dI) vwCl [(o_M, .inr (1, [.ref o_Mo, .int (fM 1), .int (fM 2), .int (fM 3), .int (fM 4), .int (fM 5), .int (fM 6), .int (fM 7)])), (o_A, .inr (0, [.ref o_Ao, .int (fA 1)])), (o_Ao, .inl (tC 0, 44, .inl ao))] U.heap ∧ va_K (dC, dI) vwCl (TY tC) U ∧ NW U ∧ va_D (fun _ => True) [(o_M, .inr (1, [.ref o_Mo, .int (fM 1), .int (fM 2), .int (fM 3), .int (fM 4), .int (fM 5), .int (fM 6), .int (fM 7)])), (o_A, .inr (0, [.ref o_Ao, .int (fA 1)])), (o_Ao, .inl (tC 0, 44, .inl ao))])) (va_Qi (fun (r : Int32) (u : Unit) => r = FX1_isOf fM fA ao) (fun (u : Unit) (t : State) => va_P (dC, dI) vwCl [(o_M, .inr (1, [.ref o_Mo, .int (fM 1), .int (fM 2), .int (fM 3), .int (fM 4), .int (fM 5), .int (fM 6), .int (fM 7)])), (o_A, .inr (0, [.ref o_Ao, .int (fA 1)])), (o_Ao, .inl (tC 0, 44, .inl ao))] t.heap ∧ va_K (dC, dI) vwCl (TY tC) t ∧ va_D (va_A [(o_M, .inr (1, [.ref o_Mo, .int (fM 1), .int (fM 2), .int (fM 3), .int (fM 4), .int (fM 5), .int (fM 6), .int (fM 7)])), (o_A, .inr (0, [.ref o_Ao, .int (fA 1)])), (o_Ao, .inl (tC 0, 44, .inl ao))] sz) [(o_M, .inr (1, [.ref o_Mo, .int (fM 1), .int (fM 2), .int (fM 3), .int (fM 4), .int (fM 5), .int (fM 6), .int (fM 7)])), (o_A, .inr (0, [.ref o_Ao, .int (fA 1)])), (o_Ao, .inl (tC 0, 44, .inl ao))]) (va_A [(o_M, .inr (1, [.ref o_Mo, .int (fM 1), .int (fM 2), .int (fM 3), .int (fM 4), .int (fM 5), .int (fM 6), .int (fM 7)])), (o_A, .inr (0, [.ref o_Ao, .int (fA 1)])), (o_Ao, .inl (tC 0, 44, .inl ao))] sz)) 0 0 (va_A [(o_M, .inr (1, [.ref o_Mo, .int (fM 1), .int (fM 2), .int (fM 3), .int (fM 4), .int (fM 5), .int (fM 6), .int (fM 7)])), (o_A, .inr (0, [.ref o_Ao, .int (fA 1)])), (o_Ao, .inl (tC 0, 44, .inl ao))] sz) := by
  refine Met.ofW (cc := cX1_isOf) (maxL := 2) (ret := (some .boolean)) (by decide) rfl ?_
  intro p e s m args below meth c s₁ B hml hv
  obtain ⟨rfl, hsz, hP, hK, hN, hD0⟩ := hv
  have hx := B.exec
  have hb := B.bytes
  have hr := B.returns
  have hts := atoms_spec (ws := wsX1_isOf) B.pre
  have hown : s.vm.findClass RX1 = some m.cls := findClass_of_methodNamed B.named
  have hlocks := B.notSynchronized
  subst hsz
  have hD := hD0.self (sz := s.heap.size)
  generalize hAe : va_A [(o_M, .inr (1, [.ref o_Mo, .int (fM 1), .int (fM 2), .int (fM 3), .int (fM 4), .int (fM 5), .int (fM 6), .int (fM 7)])), (o_A, .inr (0, [.ref o_Ao, .int (fA 1)])), (o_Ao, .inl (tC 0, 44, .inl ao))] s.heap.size = A at hD ⊢
  have hA : ∀ q : Nat, s.heap.size ≤ q → A q := fun q h => by rw [← hAe]; exact Or.inr h
  have hS : va_S A s.heap s.heap [] := va_S.rf
  have hP : va_P (dC, dI) vwCl [(o_M, .inr (1, [.ref o_Mo, .int (fM 1), .int (fM 2), .int (fM 3), .int (fM 4), .int (fM 5), .int (fM 6), .int (fM 7)])), (o_A, .inr (0, [.ref o_Ao, .int (fA 1)])), (o_Ao, .inl (tC 0, 44, .inl ao))] s.heap := hP
  have hl := lv_entry ([.ref o_M, .ref o_A]) (n := 2) (Nat.le_of_ble_eq_true rfl)
  rw [lg_entry_eq]
  generalize (lg_sl ([.ref o_M, .ref o_A]) ++ List.replicate (2 - (lg_sl ([.ref o_M, .ref o_A])).length) Slot.unset).toArray = ls at hl ⊢
  have hl : lv_has ls 2 [(0, .ref o_M), (1, .ref o_A)] := hl
  refine lv_aload_n hx hb dX1_isOf_0 rfl (lv_at hl 0 rfl) ?_
  refine va_get (D := (dC, dI)) (ci := 1) (v := .int (fM 1)) (C := RX1) (T := TX1) (N := 8) hx hb hts (fun w h => List.mem_cons_of_mem _ (uwX1 w h)) hown hK hP 0 rfl rfl 1 (by decide) (hts _ (List.mem_cons_of_mem _ wd_54)) (fun _ h9 => h9) rfl dX1_isOf_1 ?_
  refine lv_if_eq (tgt := 37) hx hb dX1_isOf_4 (by decide) (fun c_1 => ?_) (fun c_1 => ?_)
  · skip
    have c_1 : (fM 1) = 0 := c_1
    have tc_1 : (fM 1).toInt = (0 : Int) := congrArg Int32.toInt c_1
    refine lv_iconst (v := 0) hx hb dX1_isOf_37 (by decide) ?_
    have hP9 := hP.sub (ws' := [(o_M, .inr (1, [.ref o_Mo, .int (fM 1), .int (fM 2), .int (fM 3), .int (fM 4), .int (fM 5), .int (fM 6), .int (fM 7)])), (o_A, .inr (0, [.ref o_Ao, .int (fA 1)])), (o_Ao, .inl (tC 0, 44, .inl ao))]) [0, 1, 2] rfl
    have hD9 := hD.sub (ws' := [(o_M, .inr (1, [.ref o_Mo, .int (fM 1), .int (fM 2), .int (fM 3), .int (fM 4), .int (fM 5), .int (fM 6), .int (fM 7)])), (o_A, .inr (0, [.ref o_Ao, .int (fA 1)])), (o_Ao, .inl (tC 0, 44, .inl ao))]) [0, 1, 2] (by decide) rfl
    exact W.zret (v := 0) hx hb hr rfl (fun t ht hW => ⟨⟨0, (), rfl, (by rw [FX1_isOf]; rw [if_pos c_1]; try rfl), by rw [ht]; exact hP9, va_K.moved hW.alike hK, hD9⟩, hS.F ht⟩) hS.2.2 dX1_isOf_38
  · skip
    have c_1 : ¬ ((fM 1) = 0) := c_1
    refine lv_aload_n hx hb dX1_isOf_7 rfl (lv_at hl 0 rfl) ?_
    refine va_get (D := (dC, dI)) (ci := 1) (v := .int (fM 2)) (C := RX1) (T := TX1) (N := 8) hx hb hts (fun w h => List.mem_cons_of_mem _ (uwX1 w h)) hown hK hP 0 rfl rfl 2 (by decide) (hts _ (List.mem_cons_of_mem _ wd_56)) (fun _ h9 => h9) rfl dX1_isOf_8 ?_
    refine lv_aload_n hx hb dX1_isOf_11 rfl (lv_at hl 1 rfl) ?_
    refine va_get (D := (dC, dI)) (ci := 0) (v := .ref o_Ao) (C := RX0) (T := TX0) (N := 2) hx hb hts (fun w h => List.mem_cons_of_mem _ (uwX0 w h)) hown hK hP 1 rfl rfl 0 (by decide) (hts _ (List.mem_cons_of_mem _ wd_30)) (fun _ h9 => h9) rfl dX1_isOf_12 ?_
    refine lv_iconst (v := 3) hx hb dX1_isOf_15 (by decide) ?_
    refine va_iald hx hb hK hP 2 0 rfl rfl (vi_c (by decide +kernel)) dX1_isOf_16 ?_
    refine lv_icmp_ne (tgt := 37) hx hb dX1_isOf_17 (by decide) (fun c_2 => ?_) (fun c_2 => ?_)
    · skip
      have c_2 : ¬ ((fM 2) = (ao 3)) := c_2
      refine lv_iconst (v := 0) hx hb dX1_isOf_37 (by decide) ?_
      have hP9 := hP.sub (ws' := [(o_M, .inr (1, [.ref o_Mo, .int (fM 1), .int (fM 2), .int (fM 3), .int (fM 4), .int (fM 5), .int (fM 6), .int (fM 7)])), (o_A, .inr (0, [.ref o_Ao, .int (fA 1)])), (o_Ao, .inl (tC 0, 44, .inl ao))]) [0, 1, 2] rfl
      have hD9 := hD.sub (ws' := [(o_M, .inr (1, [.ref o_Mo, .int (fM 1), .int (fM 2), .int (fM 3), .int (fM 4), .int (fM 5), .int (fM 6), .int (fM 7)])), (o_A, .inr (0, [.ref o_Ao, .int (fA 1)])), (o_Ao, .inl (tC 0, 44, .inl ao))]) [0, 1, 2] (by decide) rfl
      exact W.zret (v := 0) hx hb hr rfl (fun t ht hW => ⟨⟨0, (), rfl, (by rw [FX1_isOf]; rw [if_neg c_1]; rw [if_neg c_2]; try rfl), by rw [ht]; exact hP9, va_K.moved hW.alike hK, hD9⟩, hS.F ht⟩) hS.2.2 dX1_isOf_38
    · skip
      have c_2 : (fM 2) = (ao 3) := c_2
      have tc_2 : (fM 2).toInt = (ao 3).toInt := congrArg Int32.toInt c_2
      refine lv_aload_n hx hb dX1_isOf_20 rfl (lv_at hl 0 rfl) ?_
      refine va_get (D := (dC, dI)) (ci := 1) (v := .int (fM 3)) (C := RX1) (T := TX1) (N := 8) hx hb hts (fun w h => List.mem_cons_of_mem _ (uwX1 w h)) hown hK hP 0 rfl rfl 3 (by decide) (hts _ (List.mem_cons_of_mem _ wd_58)) (fun _ h9 => h9) rfl dX1_isOf_21 ?_
      refine lv_aload_n hx hb dX1_isOf_24 rfl (lv_at hl 1 rfl) ?_
      refine va_get (D := (dC, dI)) (ci := 0) (v := .ref o_Ao) (C := RX0) (T := TX0) (N := 2) hx hb hts (fun w h => List.mem_cons_of_mem _ (uwX0 w h)) hown hK hP 1 rfl rfl 0 (by decide) (hts _ (List.mem_cons_of_mem _ wd_30)) (fun _ h9 => h9) rfl dX1_isOf_25 ?_
      refine lv_iconst (v := 5) hx hb dX1_isOf_28 (by decide) ?_
      refine va_iald hx hb hK hP 2 0 rfl rfl (vi_c (by decide +kernel)) dX1_isOf_29 ?_
      refine lv_icmp_ne (tgt := 37) hx hb dX1_isOf_30 (by decide) (fun c_3 => ?_) (fun c_3 => ?_)
      · skip
        have c_3 : ¬ ((fM 3) = (ao 5)) := c_3
        refine lv_iconst (v := 0) hx hb dX1_isOf_37 (by decide) ?_
        have hP9 := hP.sub (ws' := [(o_M, .inr (1, [.ref o_Mo, .int (fM 1), .int (fM 2), .int (fM 3), .int (fM 4), .int (fM 5), .int (fM 6), .int (fM 7)])), (o_A, .inr (0, [.ref o_Ao, .int (fA 1)])), (o_Ao, .inl (tC 0, 44, .inl ao))]) [0, 1, 2] rfl
        have hD9 := hD.sub (ws' := [(o_M, .inr (1, [.ref o_Mo, .int (fM 1), .int (fM 2), .int (fM 3), .int (fM 4), .int (fM 5), .int (fM 6), .int (fM 7)])), (o_A, .inr (0, [.ref o_Ao, .int (fA 1)])), (o_Ao, .inl (tC 0, 44, .inl ao))]) [0, 1, 2] (by decide) rfl
        exact W.zret (v := 0) hx hb hr rfl (fun t ht hW => ⟨⟨0, (), rfl, (by rw [FX1_isOf]; rw [if_neg c_1]; rw [if_pos c_2]; rw [if_neg c_3]; try rfl), by rw [ht]; exact hP9, va_K.moved hW.alike hK, hD9⟩, hS.F ht⟩) hS.2.2 dX1_isOf_38
      · skip
        have c_3 : (fM 3) = (ao 5) := c_3
        have tc_3 : (fM 3).toInt = (ao 5).toInt := congrArg Int32.toInt c_3
        refine lv_iconst (v := 1) hx hb dX1_isOf_33 (by decide) ?_
        refine lv_goto (tgt := 38) hx hb dX1_isOf_34 (by decide) ?_
        have hP9 := hP.sub (ws' := [(o_M, .inr (1, [.ref o_Mo, .int (fM 1), .int (fM 2), .int (fM 3), .int (fM 4), .int (fM 5), .int (fM 6), .int (fM 7)])), (o_A, .inr (0, [.ref o_Ao, .int (fA 1)])), (o_Ao, .inl (tC 0, 44, .inl ao))]) [0, 1, 2] rfl
        have hD9 := hD.sub (ws' := [(o_M, .inr (1, [.ref o_Mo, .int (fM 1), .int (fM 2), .int (fM 3), .int (fM 4), .int (fM 5), .int (fM 6), .int (fM 7)])), (o_A, .inr (0, [.ref o_Ao, .int (fA 1)])), (o_Ao, .inl (tC 0, 44, .inl ao))]) [0, 1, 2] (by decide) rfl
        exact W.zret (v := 1) hx hb hr rfl (fun t ht hW => ⟨⟨1, (), rfl, (by rw [FX1_isOf]; rw [if_neg c_1]; rw [if_pos c_2]; rw [if_pos c_3]; try rfl), by rw [ht]; exact hP9, va_K.moved hW.alike hK, hD9⟩, hS.F ht⟩) hS.2.2 dX1_isOf_38
set_option maxHeartbeats 4000000 in
set_option maxRecDepth 100000 in
theorem c_X1_clashesWith (l : Launch) (dC : Nat → ClassId) (dI : Nat → Nat → Nat) (tC : Nat → ClassId) (o_M o_A o_Mo o_Ao : Nat) (sz : Nat) (fM : (Nat → Int32)) (fA : (Nat → Int32)) (ao : (Nat → Int32)) : Met l yX1_clashesWith wsX1_clashesWith ({ frames := 2, cells := 0, slots := 0, locals := 41 }) (va_Pc [.ref o_M, .ref o_A] (fun U => U.heap.size = sz ∧ va_P (dC, dI) vwCl [(o_M, .inr (1, [.ref o_Mo, .int (fM 1), .int (fM 2), .int (fM 3), .int (fM 4), .int (fM 5), .int (fM 6), .int (fM 7)])), (o_A, .inr (0, [.ref o_Ao, .int (fA 1)])), (o_Ao, .inl (tC 0, 44, .inl ao))] U.heap ∧ va_K (dC, dI) vwCl (TY tC) U ∧ NW U ∧ va_D (fun _ => True) [(o_M, .inr (1, [.ref o_Mo, .int (fM 1), .int (fM 2), .int (fM 3), .int (fM 4), .int (fM 5), .int (fM 6), .int (fM 7)])), (o_A, .inr (0, [.ref o_Ao, .int (fA 1)])), (o_Ao, .inl (tC 0, 44, .inl ao))])) (va_Qi (fun (r : Int32) (u : Unit) => r = FX1_clashesWith fM fA ao) (fun (u : Unit) (t : State) => va_P (dC, dI) vwCl [(o_M, .inr (1, [.ref o_Mo, .int (fM 1), .int (fM 2), .int (fM 3), .int (fM 4), .int (fM 5), .int (fM 6), .int (fM 7)])), (o_A, .inr (0, [.ref o_Ao, .int (fA 1)])), (o_Ao, .inl (tC 0, 44, .inl ao))] t.heap ∧ va_K (dC, dI) vwCl (TY tC) t ∧ va_D (va_A [(o_M, .inr (1, [.ref o_Mo, .int (fM 1), .int (fM 2), .int (fM 3), .int (fM 4), .int (fM 5), .int (fM 6), .int (fM 7)])), (o_A, .inr (0, [.ref o_Ao, .int (fA 1)])), (o_Ao, .inl (tC 0, 44, .inl ao))] sz) [(o_M, .inr (1, [.ref o_Mo, .int (fM 1), .int (fM 2), .int (fM 3), .int (fM 4), .int (fM 5), .int (fM 6), .int (fM 7)])), (o_A, .inr (0, [.ref o_Ao, .int (fA 1)])), (o_Ao, .inl (tC 0, 44, .inl ao))]) (va_A [(o_M, .inr (1, [.ref o_Mo, .int (fM 1), .int (fM 2), .int (fM 3), .int (fM 4), .int (fM 5), .int (fM 6), .int (fM 7)])), (o_A, .inr (0, [.ref o_Ao, .int (fA 1)])), (o_Ao, .inl (tC 0, 44, .inl ao))] sz)) 0 0 (va_A [(o_M, .inr (1, [.ref o_Mo, .int (fM 1), .int (fM 2), .int (fM 3), .int (fM 4), .int (fM 5), .int (fM 6), .int (fM 7)])), (o_A, .inr (0, [.ref o_Ao, .int (fA 1)])), (o_Ao, .inl (tC 0, 44, .inl ao))] sz) := by
  refine Met.ofW (cc := cX1_clashesWith) (maxL := 3) (ret := (some .boolean)) (by decide) rfl ?_
  intro p e s m args below meth c s₁ B hml hv
  obtain ⟨rfl, hsz, hP, hK, hN, hD0⟩ := hv
  have hx := B.exec
  have hb := B.bytes
  have hr := B.returns
  have hts := atoms_spec (ws := wsX1_clashesWith) B.pre
  have hown : s.vm.findClass RX1 = some m.cls := findClass_of_methodNamed B.named
  have hlocks := B.notSynchronized
  subst hsz
  have hD := hD0.self (sz := s.heap.size)
  generalize hAe : va_A [(o_M, .inr (1, [.ref o_Mo, .int (fM 1), .int (fM 2), .int (fM 3), .int (fM 4), .int (fM 5), .int (fM 6), .int (fM 7)])), (o_A, .inr (0, [.ref o_Ao, .int (fA 1)])), (o_Ao, .inl (tC 0, 44, .inl ao))] s.heap.size = A at hD ⊢
  have hA : ∀ q : Nat, s.heap.size ≤ q → A q := fun q h => by rw [← hAe]; exact Or.inr h
  have hS : va_S A s.heap s.heap [] := va_S.rf
  have hP : va_P (dC, dI) vwCl [(o_M, .inr (1, [.ref o_Mo, .int (fM 1), .int (fM 2), .int (fM 3), .int (fM 4), .int (fM 5), .int (fM 6), .int (fM 7)])), (o_A, .inr (0, [.ref o_Ao, .int (fA 1)])), (o_Ao, .inl (tC 0, 44, .inl ao))] s.heap := hP
  have hl := lv_entry ([.ref o_M, .ref o_A]) (n := 3) (Nat.le_of_ble_eq_true rfl)
  rw [lg_entry_eq]
  generalize (lg_sl ([.ref o_M, .ref o_A]) ++ List.replicate (3 - (lg_sl ([.ref o_M, .ref o_A])).length) Slot.unset).toArray = ls at hl ⊢
  have hl : lv_has ls 3 [(0, .ref o_M), (1, .ref o_A)] := hl
  refine lv_aload_n hx hb dX1_clashesWith_0 rfl (lv_at hl 1 rfl) ?_
  have hPc := hP.sub (ws' := [(o_A, .inr (0, [.ref o_Ao, .int (fA 1)])), (o_Ao, .inl (tC 0, 44, .inl ao))]) [1, 2] rfl
  have hDc := hD.sub (ws' := [(o_A, .inr (0, [.ref o_Ao, .int (fA 1)])), (o_Ao, .inl (tC 0, 44, .inl ao))]) [1, 2] (by decide) rfl
  have hFc := va_free (wc := [(o_A, .inr (0, [.ref o_Ao, .int (fA 1)])), (o_Ao, .inl (tC 0, 44, .inl ao))]) hD hS hA [1, 2] rfl
  refine va_calli (va_runV (As := []) (rest := []) ⟨hx, hb, hml, hown, hts⟩ (c_X0_reach l dC dI tC o_A o_Ao s.heap.size fA ao) (cwV 0 hts (gV wd_394 wd_345 wd_346 wd_2 wd_347) rfl rfl rfl dsc_X0_reach ⟨Nat.le_of_ble_eq_true rfl, Nat.le_of_ble_eq_true rfl⟩) ⟨fun a U g mk q => by obtain ⟨q0, q1, qP, qK, qN, qD⟩ := q; exact ⟨q0, q1, qP, va_K.moved (u := U) (U := U.calling g mk a) (Vm.Alike.refl U.vm) qK, NW.same (u := U) (U := U.calling g mk a) rfl qN, qD⟩, va_recv hK hPc (ci := 0) (q0 := 0) rfl rfl, fun U hU hW => ⟨rfl, by rw [hU], by rw [hU]; exact hPc, va_K.moved hW.alike hK, NW.warm hW hN, hDc.weaken (fun _ _ _ _ => trivial)⟩⟩ rfl rfl hl.1 rfl (lv_room (Nat.le_of_ble_eq_true rfl)) dX1_clashesWith_1 ⟨Nat.le_of_ble_eq_true rfl, Nat.le_of_ble_eq_true rfl⟩) hS (fun q _ h => hFc q h) hFc (fun r_1 u t H1 locs ht hvm hw hB hz1 hk1 hS => ?_)
  obtain ⟨hP1, hK1, hD1⟩ := hB
  rw [ht] at hP1
  obtain ⟨hP, hD⟩ := va_join (wr := [(o_M, .inr (1, [.ref o_Mo, .int (fM 1), .int (fM 2), .int (fM 3), .int (fM 4), .int (fM 5), .int (fM 6), .int (fM 7)]))]) (w1 := [(o_A, .inr (0, [.ref o_Ao, .int (fA 1)])), (o_Ao, .inl (tC 0, 44, .inl ao))]) hP hD [1, 2] [0] rfl rfl (by decide) (by decide) hk1 hFc hP1 hD1
  generalize H1 = H at hP hS ⊢
  have hP : va_P (dC, dI) vwCl [(o_M, .inr (1, [.ref o_Mo, .int (fM 1), .int (fM 2), .int (fM 3), .int (fM 4), .int (fM 5), .int (fM 6), .int (fM 7)])), (o_A, .inr (0, [.ref o_Ao, .int (fA 1)])), (o_Ao, .inl (tC 0, 44, .inl ao))] H := hP
  have hD : va_D A [(o_M, .inr (1, [.ref o_Mo, .int (fM 1), .int (fM 2), .int (fM 3), .int (fM 4), .int (fM 5), .int (fM 6), .int (fM 7)])), (o_A, .inr (0, [.ref o_Ao, .int (fA 1)])), (o_Ao, .inl (tC 0, 44, .inl ao))] := hD
  have er_1 : r_1 = (FX0_reach fA ao) := hw
  refine lv_istore_n (lv' := [(2, .int r_1), (0, .ref o_M), (1, .ref o_A)]) hx hb dX1_clashesWith_4 rfl hl (by decide) rfl (fun ls hl => ?_)
  refine lv_aload_n hx hb dX1_clashesWith_5 rfl (lv_at hl 1 rfl) ?_
  refine va_get (D := (dC, dI)) (ci := 1) (v := .int (fM 5)) (C := RX1) (T := TX1) (N := 8) hx hb hts (fun w h => List.mem_cons_of_mem _ (uwX1 w h)) hown hK hP 0 rfl rfl 5 (by decide) (hts _ (List.mem_cons_of_mem _ wd_61)) (fun _ h9 => h9) rfl dX1_clashesWith_6 ?_
  refine lv_aload_n hx hb dX1_clashesWith_9 rfl (lv_at hl 2 rfl) ?_
  have hPc := hP.sub (ws' := [(o_A, .inr (0, [.ref o_Ao, .int (fA 1)])), (o_Ao, .inl (tC 0, 44, .inl ao))]) [1, 2] rfl
  have hDc := hD.sub (ws' := [(o_A, .inr (0, [.ref o_Ao, .int (fA 1)])), (o_Ao, .inl (tC 0, 44, .inl ao))]) [1, 2] (by decide) rfl
  have hFc := va_free (wc := [(o_A, .inr (0, [.ref o_Ao, .int (fA 1)])), (o_Ao, .inl (tC 0, 44, .inl ao))]) hD hS hA [1, 2] rfl
  refine va_calli (va_runV (As := []) (rest := [.int (fM 5)]) ⟨hx, hb, hml, hown, hts⟩ (c_X0_units l dC dI tC o_A o_Ao H.size fA ao) (cwV 0 hts (gV wd_395 wd_396 wd_397 wd_2 wd_398) rfl rfl rfl dsc_X0_units ⟨Nat.le_of_ble_eq_true rfl, Nat.le_of_ble_eq_true rfl⟩) ⟨fun a U g mk q => by obtain ⟨q0, q1, qP, qK, qN, qD⟩ := q; exact ⟨q0, q1, qP, va_K.moved (u := U) (U := U.calling g mk a) (Vm.Alike.refl U.vm) qK, NW.same (u := U) (U := U.calling g mk a) rfl qN, qD⟩, va_recv hK hPc (ci := 0) (q0 := 0) rfl rfl, fun U hU hW => ⟨rfl, by rw [hU], by rw [hU]; exact hPc, va_K.moved hW.alike hK, NW.warm hW hN, hDc.weaken (fun _ _ _ _ => trivial)⟩⟩ rfl rfl hl.1 rfl (lv_room (Nat.le_of_ble_eq_true rfl)) dX1_clashesWith_10 ⟨Nat.le_of_ble_eq_true rfl, Nat.le_of_ble_eq_true rfl⟩) hS (fun q _ h => hFc q h) hFc (fun r_2 u t H1 locs ht hvm hw hB hz1 hk1 hS => ?_)
  obtain ⟨hP1, hK1, hD1⟩ := hB
  rw [ht] at hP1
  obtain ⟨hP, hD⟩ := va_join (wr := [(o_M, .inr (1, [.ref o_Mo, .int (fM 1), .int (fM 2), .int (fM 3), .int (fM 4), .int (fM 5), .int (fM 6), .int (fM 7)]))]) (w1 := [(o_A, .inr (0, [.ref o_Ao, .int (fA 1)])), (o_Ao, .inl (tC 0, 44, .inl ao))]) hP hD [1, 2] [0] rfl rfl (by decide) (by decide) hk1 hFc hP1 hD1
  generalize H1 = H at hP hS ⊢
  have hP : va_P (dC, dI) vwCl [(o_M, .inr (1, [.ref o_Mo, .int (fM 1), .int (fM 2), .int (fM 3), .int (fM 4), .int (fM 5), .int (fM 6), .int (fM 7)])), (o_A, .inr (0, [.ref o_Ao, .int (fA 1)])), (o_Ao, .inl (tC 0, 44, .inl ao))] H := hP
  have hD : va_D A [(o_M, .inr (1, [.ref o_Mo, .int (fM 1), .int (fM 2), .int (fM 3), .int (fM 4), .int (fM 5), .int (fM 6), .int (fM 7)])), (o_A, .inr (0, [.ref o_Ao, .int (fA 1)])), (o_Ao, .inl (tC 0, 44, .inl ao))] := hD
  have er_2 : r_2 = (FX0_units fA ao) := hw
  refine lv_iand hx hb dX1_clashesWith_13 ?_
  refine lv_if_eq (tgt := 19) hx hb dX1_clashesWith_14 (by decide) (fun c_3 => ?_) (fun c_3 => ?_)
  · skip
    have c_3 : ((fM 5) &&& r_2) = 0 := c_3
    have tc_3 : ((fM 5) &&& r_2).toInt = (0 : Int) := congrArg Int32.toInt c_3
    refine lv_aload_n hx hb dX1_clashesWith_19 rfl (lv_at hl 1 rfl) ?_
    refine va_get (D := (dC, dI)) (ci := 1) (v := .int (fM 6)) (C := RX1) (T := TX1) (N := 8) hx hb hts (fun w h => List.mem_cons_of_mem _ (uwX1 w h)) hown hK hP 0 rfl rfl 6 (by decide) (hts _ (List.mem_cons_of_mem _ wd_62)) (fun _ h9 => h9) rfl dX1_clashesWith_20 ?_
    refine lv_if_lt (tgt := 51) hx hb dX1_clashesWith_23 (by decide) (fun c_4 => ?_) (fun c_4 => ?_)
    · skip
      have c_4 : (fM 6) < 0 := c_4
      have tc_4 : (fM 6).toInt < (0 : Int) := Int32.lt_iff_toInt_lt.mp c_4
      refine lv_aload_n hx hb dX1_clashesWith_51 rfl (lv_at hl 2 rfl) ?_
      have hPc := hP.sub (ws' := [(o_A, .inr (0, [.ref o_Ao, .int (fA 1)])), (o_Ao, .inl (tC 0, 44, .inl ao))]) [1, 2] rfl
      have hDc := hD.sub (ws' := [(o_A, .inr (0, [.ref o_Ao, .int (fA 1)])), (o_Ao, .inl (tC 0, 44, .inl ao))]) [1, 2] (by decide) rfl
      have hFc := va_free (wc := [(o_A, .inr (0, [.ref o_Ao, .int (fA 1)])), (o_Ao, .inl (tC 0, 44, .inl ao))]) hD hS hA [1, 2] rfl
      refine va_calli (va_runV (As := []) (rest := []) ⟨hx, hb, hml, hown, hts⟩ (c_X0_isEnd l dC dI tC o_A o_Ao H.size fA ao) (cwV 0 hts (gV wd_402 wd_353 wd_354 wd_2 wd_355) rfl rfl rfl dsc_X0_isEnd ⟨Nat.le_of_ble_eq_true rfl, Nat.le_of_ble_eq_true rfl⟩) ⟨fun a U g mk q => by obtain ⟨q0, q1, qP, qK, qN, qD⟩ := q; exact ⟨q0, q1, qP, va_K.moved (u := U) (U := U.calling g mk a) (Vm.Alike.refl U.vm) qK, NW.same (u := U) (U := U.calling g mk a) rfl qN, qD⟩, va_recv hK hPc (ci := 0) (q0 := 0) rfl rfl, fun U hU hW => ⟨rfl, by rw [hU], by rw [hU]; exact hPc, va_K.moved hW.alike hK, NW.warm hW hN, hDc.weaken (fun _ _ _ _ => trivial)⟩⟩ rfl rfl hl.1 rfl (lv_room (Nat.le_of_ble_eq_true rfl)) dX1_clashesWith_52 ⟨Nat.le_of_ble_eq_true rfl, Nat.le_of_ble_eq_true rfl⟩) hS (fun q _ h => hFc q h) hFc (fun r_5 u t H1 locs ht hvm hw hB hz1 hk1 hS => ?_)
      obtain ⟨hP1, hK1, hD1⟩ := hB
      rw [ht] at hP1
      obtain ⟨hP, hD⟩ := va_join (wr := [(o_M, .inr (1, [.ref o_Mo, .int (fM 1), .int (fM 2), .int (fM 3), .int (fM 4), .int (fM 5), .int (fM 6), .int (fM 7)]))]) (w1 := [(o_A, .inr (0, [.ref o_Ao, .int (fA 1)])), (o_Ao, .inl (tC 0, 44, .inl ao))]) hP hD [1, 2] [0] rfl rfl (by decide) (by decide) hk1 hFc hP1 hD1
      generalize H1 = H at hP hS ⊢
      have hP : va_P (dC, dI) vwCl [(o_M, .inr (1, [.ref o_Mo, .int (fM 1), .int (fM 2), .int (fM 3), .int (fM 4), .int (fM 5), .int (fM 6), .int (fM 7)])), (o_A, .inr (0, [.ref o_Ao, .int (fA 1)])), (o_Ao, .inl (tC 0, 44, .inl ao))] H := hP
      have hD : va_D A [(o_M, .inr (1, [.ref o_Mo, .int (fM 1), .int (fM 2), .int (fM 3), .int (fM 4), .int (fM 5), .int (fM 6), .int (fM 7)])), (o_A, .inr (0, [.ref o_Ao, .int (fA 1)])), (o_Ao, .inl (tC 0, 44, .inl ao))] := hD
      have er_5 : r_5 = (FX0_isEnd fA ao) := hw
      refine lv_if_eq (tgt := 73) hx hb dX1_clashesWith_55 (by decide) (fun c_6 => ?_) (fun c_6 => ?_)
      · skip
        have c_6 : r_5 = 0 := c_6
        have tc_6 : r_5.toInt = (0 : Int) := congrArg Int32.toInt c_6
        refine lv_iconst (v := 0) hx hb dX1_clashesWith_73 (by decide) ?_
        have hP9 := hP.sub (ws' := [(o_M, .inr (1, [.ref o_Mo, .int (fM 1), .int (fM 2), .int (fM 3), .int (fM 4), .int (fM 5), .int (fM 6), .int (fM 7)])), (o_A, .inr (0, [.ref o_Ao, .int (fA 1)])), (o_Ao, .inl (tC 0, 44, .inl ao))]) [0, 1, 2] rfl
        have hD9 := hD.sub (ws' := [(o_M, .inr (1, [.ref o_Mo, .int (fM 1), .int (fM 2), .int (fM 3), .int (fM 4), .int (fM 5), .int (fM 6), .int (fM 7)])), (o_A, .inr (0, [.ref o_Ao, .int (fA 1)])), (o_Ao, .inl (tC 0, 44, .inl ao))]) [0, 1, 2] (by decide) rfl
        exact W.zret (v := 0) hx hb hr rfl (fun t ht hW => ⟨⟨0, (), rfl, (by subst er_1 er_2 er_5; rw [FX1_clashesWith]; rw [if_pos c_3]; rw [if_pos c_4]; rw [if_pos c_6]; try rfl), by rw [ht]; exact hP9, va_K.moved hW.alike hK, hD9⟩, hS.F ht⟩) hS.2.2 dX1_clashesWith_74
      · skip
        have c_6 : ¬ (r_5 = 0) := c_6
        refine lv_aload_n hx hb dX1_clashesWith_58 rfl (lv_at hl 1 rfl) ?_
        refine va_get (D := (dC, dI)) (ci := 1) (v := .int (fM 5)) (C := RX1) (T := TX1) (N := 8) hx hb hts (fun w h => List.mem_cons_of_mem _ (uwX1 w h)) hown hK hP 0 rfl rfl 5 (by decide) (hts _ (List.mem_cons_of_mem _ wd_61)) (fun _ h9 => h9) rfl dX1_clashesWith_59 ?_
        refine lv_iload_n hx hb dX1_clashesWith_62 rfl (lv_at hl 0 rfl) ?_
        refine lv_iconst (v := 4) hx hb dX1_clashesWith_63 (by decide) ?_
        refine lv_idiv hx hb dX1_clashesWith_64 (by decide) ?_
        refine lv_ishr hx hb dX1_clashesWith_65 ?_
        refine lv_if_eq (tgt := 73) hx hb dX1_clashesWith_66 (by decide) (fun c_7 => ?_) (fun c_7 => ?_)
        · skip
          have c_7 : ((fM 5) >>> ((r_1 / (4 : Int32)) &&& 31)) = 0 := c_7
          have tc_7 : ((fM 5) >>> ((r_1 / (4 : Int32)) &&& 31)).toInt = (0 : Int) := congrArg Int32.toInt c_7
          refine lv_iconst (v := 0) hx hb dX1_clashesWith_73 (by decide) ?_
          have hP9 := hP.sub (ws' := [(o_M, .inr (1, [.ref o_Mo, .int (fM 1), .int (fM 2), .int (fM 3), .int (fM 4), .int (fM 5), .int (fM 6), .int (fM 7)])), (o_A, .inr (0, [.ref o_Ao, .int (fA 1)])), (o_Ao, .inl (tC 0, 44, .inl ao))]) [0, 1, 2] rfl
          have hD9 := hD.sub (ws' := [(o_M, .inr (1, [.ref o_Mo, .int (fM 1), .int (fM 2), .int (fM 3), .int (fM 4), .int (fM 5), .int (fM 6), .int (fM 7)])), (o_A, .inr (0, [.ref o_Ao, .int (fA 1)])), (o_Ao, .inl (tC 0, 44, .inl ao))]) [0, 1, 2] (by decide) rfl
          exact W.zret (v := 0) hx hb hr rfl (fun t ht hW => ⟨⟨0, (), rfl, (by subst er_1 er_2 er_5; rw [FX1_clashesWith]; rw [if_pos c_3]; rw [if_pos c_4]; rw [if_neg c_6]; rw [if_pos c_7]; try rfl), by rw [ht]; exact hP9, va_K.moved hW.alike hK, hD9⟩, hS.F ht⟩) hS.2.2 dX1_clashesWith_74
        · skip
          have c_7 : ¬ (((fM 5) >>> ((r_1 / (4 : Int32)) &&& 31)) = 0) := c_7
          refine lv_iconst (v := 1) hx hb dX1_clashesWith_69 (by decide) ?_
          refine lv_goto (tgt := 74) hx hb dX1_clashesWith_70 (by decide) ?_
          have hP9 := hP.sub (ws' := [(o_M, .inr (1, [.ref o_Mo, .int (fM 1), .int (fM 2), .int (fM 3), .int (fM 4), .int (fM 5), .int (fM 6), .int (fM 7)])), (o_A, .inr (0, [.ref o_Ao, .int (fA 1)])), (o_Ao, .inl (tC 0, 44, .inl ao))]) [0, 1, 2] rfl
          have hD9 := hD.sub (ws' := [(o_M, .inr (1, [.ref o_Mo, .int (fM 1), .int (fM 2), .int (fM 3), .int (fM 4), .int (fM 5), .int (fM 6), .int (fM 7)])), (o_A, .inr (0, [.ref o_Ao, .int (fA 1)])), (o_Ao, .inl (tC 0, 44, .inl ao))]) [0, 1, 2] (by decide) rfl
          exact W.zret (v := 1) hx hb hr rfl (fun t ht hW => ⟨⟨1, (), rfl, (by subst er_1 er_2 er_5; rw [FX1_clashesWith]; rw [if_pos c_3]; rw [if_pos c_4]; rw [if_neg c_6]; rw [if_neg c_7]; try rfl), by rw [ht]; exact hP9, va_K.moved hW.alike hK, hD9⟩, hS.F ht⟩) hS.2.2 dX1_clashesWith_74
    · skip
      have c_4 : ¬ ((fM 6) < 0) := c_4
      have tc_4 : ¬ (fM 6).toInt < (0 : Int) := fun q => c_4 (Int32.lt_iff_toInt_lt.mpr q)
      refine lv_iload_n hx hb dX1_clashesWith_26 rfl (lv_at hl 0 rfl) ?_
      refine lv_aload_n hx hb dX1_clashesWith_27 rfl (lv_at hl 1 rfl) ?_
      refine va_get (D := (dC, dI)) (ci := 1) (v := .int (fM 6)) (C := RX1) (T := TX1) (N := 8) hx hb hts (fun w h => List.mem_cons_of_mem _ (uwX1 w h)) hown hK hP 0 rfl rfl 6 (by decide) (hts _ (List.mem_cons_of_mem _ wd_62)) (fun _ h9 => h9) rfl dX1_clashesWith_28 ?_
      refine lv_icmp_gt (tgt := 49) hx hb dX1_clashesWith_31 (by decide) (fun c_8 => ?_) (fun c_8 => ?_)
      · skip
        have c_8 : (fM 6) < r_1 := c_8
        have tc_8 : (fM 6).toInt < r_1.toInt := Int32.lt_iff_toInt_lt.mp c_8
        refine lv_iconst (v := 1) hx hb dX1_clashesWith_49 (by decide) ?_
        have hP9 := hP.sub (ws' := [(o_M, .inr (1, [.ref o_Mo, .int (fM 1), .int (fM 2), .int (fM 3), .int (fM 4), .int (fM 5), .int (fM 6), .int (fM 7)])), (o_A, .inr (0, [.ref o_Ao, .int (fA 1)])), (o_Ao, .inl (tC 0, 44, .inl ao))]) [0, 1, 2] rfl
        have hD9 := hD.sub (ws' := [(o_M, .inr (1, [.ref o_Mo, .int (fM 1), .int (fM 2), .int (fM 3), .int (fM 4), .int (fM 5), .int (fM 6), .int (fM 7)])), (o_A, .inr (0, [.ref o_Ao, .int (fA 1)])), (o_Ao, .inl (tC 0, 44, .inl ao))]) [0, 1, 2] (by decide) rfl
        exact W.zret (v := 1) hx hb hr rfl (fun t ht hW => ⟨⟨1, (), rfl, (by subst er_1 er_2; rw [FX1_clashesWith]; rw [if_pos c_3]; rw [if_neg c_4]; rw [if_pos c_8]; try rfl), by rw [ht]; exact hP9, va_K.moved hW.alike hK, hD9⟩, hS.F ht⟩) hS.2.2 dX1_clashesWith_50
      · skip
        have c_8 : ¬ ((fM 6) < r_1) := c_8
        have tc_8 : ¬ (fM 6).toInt < r_1.toInt := fun q => c_8 (Int32.lt_iff_toInt_lt.mpr q)
        refine lv_aload_n hx hb dX1_clashesWith_34 rfl (lv_at hl 2 rfl) ?_
        have hPc := hP.sub (ws' := [(o_A, .inr (0, [.ref o_Ao, .int (fA 1)])), (o_Ao, .inl (tC 0, 44, .inl ao))]) [1, 2] rfl
        have hDc := hD.sub (ws' := [(o_A, .inr (0, [.ref o_Ao, .int (fA 1)])), (o_Ao, .inl (tC 0, 44, .inl ao))]) [1, 2] (by decide) rfl
        have hFc := va_free (wc := [(o_A, .inr (0, [.ref o_Ao, .int (fA 1)])), (o_Ao, .inl (tC 0, 44, .inl ao))]) hD hS hA [1, 2] rfl
        refine va_calli (va_runV (As := []) (rest := []) ⟨hx, hb, hml, hown, hts⟩ (c_X0_isEnd l dC dI tC o_A o_Ao H.size fA ao) (cwV 0 hts (gV wd_402 wd_353 wd_354 wd_2 wd_355) rfl rfl rfl dsc_X0_isEnd ⟨Nat.le_of_ble_eq_true rfl, Nat.le_of_ble_eq_true rfl⟩) ⟨fun a U g mk q => by obtain ⟨q0, q1, qP, qK, qN, qD⟩ := q; exact ⟨q0, q1, qP, va_K.moved (u := U) (U := U.calling g mk a) (Vm.Alike.refl U.vm) qK, NW.same (u := U) (U := U.calling g mk a) rfl qN, qD⟩, va_recv hK hPc (ci := 0) (q0 := 0) rfl rfl, fun U hU hW => ⟨rfl, by rw [hU], by rw [hU]; exact hPc, va_K.moved hW.alike hK, NW.warm hW hN, hDc.weaken (fun _ _ _ _ => trivial)⟩⟩ rfl rfl hl.1 rfl (lv_room (Nat.le_of_ble_eq_true rfl)) dX1_clashesWith_35 ⟨Nat.le_of_ble_eq_true rfl, Nat.le_of_ble_eq_true rfl⟩) hS (fun q _ h => hFc q h) hFc (fun r_9 u t H1 locs ht hvm hw hB hz1 hk1 hS => ?_)
        obtain ⟨hP1, hK1, hD1⟩ := hB
        rw [ht] at hP1
        obtain ⟨hP, hD⟩ := va_join (wr := [(o_M, .inr (1, [.ref o_Mo, .int (fM 1), .int (fM 2), .int (fM 3), .int (fM 4), .int (fM 5), .int (fM 6), .int (fM 7)]))]) (w1 := [(o_A, .inr (0, [.ref o_Ao, .int (fA 1)])), (o_Ao, .inl (tC 0, 44, .inl ao))]) hP hD [1, 2] [0] rfl rfl (by decide) (by decide) hk1 hFc hP1 hD1
        generalize H1 = H at hP hS ⊢
        have hP : va_P (dC, dI) vwCl [(o_M, .inr (1, [.ref o_Mo, .int (fM 1), .int (fM 2), .int (fM 3), .int (fM 4), .int (fM 5), .int (fM 6), .int (fM 7)])), (o_A, .inr (0, [.ref o_Ao, .int (fA 1)])), (o_Ao, .inl (tC 0, 44, .inl ao))] H := hP
        have hD : va_D A [(o_M, .inr (1, [.ref o_Mo, .int (fM 1), .int (fM 2), .int (fM 3), .int (fM 4), .int (fM 5), .int (fM 6), .int (fM 7)])), (o_A, .inr (0, [.ref o_Ao, .int (fA 1)])), (o_Ao, .inl (tC 0, 44, .inl ao))] := hD
        have er_9 : r_9 = (FX0_isEnd fA ao) := hw
        refine lv_if_eq (tgt := 51) hx hb dX1_clashesWith_38 (by decide) (fun c_10 => ?_) (fun c_10 => ?_)
        · skip
          have c_10 : r_9 = 0 := c_10
          have tc_10 : r_9.toInt = (0 : Int) := congrArg Int32.toInt c_10
          refine lv_aload_n hx hb dX1_clashesWith_51 rfl (lv_at hl 2 rfl) ?_
          have hPc := hP.sub (ws' := [(o_A, .inr (0, [.ref o_Ao, .int (fA 1)])), (o_Ao, .inl (tC 0, 44, .inl ao))]) [1, 2] rfl
          have hDc := hD.sub (ws' := [(o_A, .inr (0, [.ref o_Ao, .int (fA 1)])), (o_Ao, .inl (tC 0, 44, .inl ao))]) [1, 2] (by decide) rfl
          have hFc := va_free (wc := [(o_A, .inr (0, [.ref o_Ao, .int (fA 1)])), (o_Ao, .inl (tC 0, 44, .inl ao))]) hD hS hA [1, 2] rfl
          refine va_calli (va_runV (As := []) (rest := []) ⟨hx, hb, hml, hown, hts⟩ (c_X0_isEnd l dC dI tC o_A o_Ao H.size fA ao) (cwV 0 hts (gV wd_402 wd_353 wd_354 wd_2 wd_355) rfl rfl rfl dsc_X0_isEnd ⟨Nat.le_of_ble_eq_true rfl, Nat.le_of_ble_eq_true rfl⟩) ⟨fun a U g mk q => by obtain ⟨q0, q1, qP, qK, qN, qD⟩ := q; exact ⟨q0, q1, qP, va_K.moved (u := U) (U := U.calling g mk a) (Vm.Alike.refl U.vm) qK, NW.same (u := U) (U := U.calling g mk a) rfl qN, qD⟩, va_recv hK hPc (ci := 0) (q0 := 0) rfl rfl, fun U hU hW => ⟨rfl, by rw [hU], by rw [hU]; exact hPc, va_K.moved hW.alike hK, NW.warm hW hN, hDc.weaken (fun _ _ _ _ => trivial)⟩⟩ rfl rfl hl.1 rfl (lv_room (Nat.le_of_ble_eq_true rfl)) dX1_clashesWith_52 ⟨Nat.le_of_ble_eq_true rfl, Nat.le_of_ble_eq_true rfl⟩) hS (fun q _ h => hFc q h) hFc (fun r_11 u t H1 locs ht hvm hw hB hz1 hk1 hS => ?_)
          obtain ⟨hP1, hK1, hD1⟩ := hB
          rw [ht] at hP1
          obtain ⟨hP, hD⟩ := va_join (wr := [(o_M, .inr (1, [.ref o_Mo, .int (fM 1), .int (fM 2), .int (fM 3), .int (fM 4), .int (fM 5), .int (fM 6), .int (fM 7)]))]) (w1 := [(o_A, .inr (0, [.ref o_Ao, .int (fA 1)])), (o_Ao, .inl (tC 0, 44, .inl ao))]) hP hD [1, 2] [0] rfl rfl (by decide) (by decide) hk1 hFc hP1 hD1
          generalize H1 = H at hP hS ⊢
          have hP : va_P (dC, dI) vwCl [(o_M, .inr (1, [.ref o_Mo, .int (fM 1), .int (fM 2), .int (fM 3), .int (fM 4), .int (fM 5), .int (fM 6), .int (fM 7)])), (o_A, .inr (0, [.ref o_Ao, .int (fA 1)])), (o_Ao, .inl (tC 0, 44, .inl ao))] H := hP
          have hD : va_D A [(o_M, .inr (1, [.ref o_Mo, .int (fM 1), .int (fM 2), .int (fM 3), .int (fM 4), .int (fM 5), .int (fM 6), .int (fM 7)])), (o_A, .inr (0, [.ref o_Ao, .int (fA 1)])), (o_Ao, .inl (tC 0, 44, .inl ao))] := hD
          have er_11 : r_11 = (FX0_isEnd fA ao) := hw
          refine lv_if_eq (tgt := 73) hx hb dX1_clashesWith_55 (by decide) (fun c_12 => ?_) (fun c_12 => ?_)
          · skip
            have c_12 : r_11 = 0 := c_12
            have tc_12 : r_11.toInt = (0 : Int) := congrArg Int32.toInt c_12
            refine lv_iconst (v := 0) hx hb dX1_clashesWith_73 (by decide) ?_
            have hP9 := hP.sub (ws' := [(o_M, .inr (1, [.ref o_Mo, .int (fM 1), .int (fM 2), .int (fM 3), .int (fM 4), .int (fM 5), .int (fM 6), .int (fM 7)])), (o_A, .inr (0, [.ref o_Ao, .int (fA 1)])), (o_Ao, .inl (tC 0, 44, .inl ao))]) [0, 1, 2] rfl
            have hD9 := hD.sub (ws' := [(o_M, .inr (1, [.ref o_Mo, .int (fM 1), .int (fM 2), .int (fM 3), .int (fM 4), .int (fM 5), .int (fM 6), .int (fM 7)])), (o_A, .inr (0, [.ref o_Ao, .int (fA 1)])), (o_Ao, .inl (tC 0, 44, .inl ao))]) [0, 1, 2] (by decide) rfl
            exact W.zret (v := 0) hx hb hr rfl (fun t ht hW => ⟨⟨0, (), rfl, (by subst er_1 er_2 er_9 er_11; rw [FX1_clashesWith]; rw [if_pos c_3]; rw [if_neg c_4]; rw [if_neg c_8]; rw [if_pos c_10]; rw [if_pos c_12]; try rfl), by rw [ht]; exact hP9, va_K.moved hW.alike hK, hD9⟩, hS.F ht⟩) hS.2.2 dX1_clashesWith_74
          · skip
            have c_12 : ¬ (r_11 = 0) := c_12
            refine lv_aload_n hx hb dX1_clashesWith_58 rfl (lv_at hl 1 rfl) ?_
            refine va_get (D := (dC, dI)) (ci := 1) (v := .int (fM 5)) (C := RX1) (T := TX1) (N := 8) hx hb hts (fun w h => List.mem_cons_of_mem _ (uwX1 w h)) hown hK hP 0 rfl rfl 5 (by decide) (hts _ (List.mem_cons_of_mem _ wd_61)) (fun _ h9 => h9) rfl dX1_clashesWith_59 ?_
            refine lv_iload_n hx hb dX1_clashesWith_62 rfl (lv_at hl 0 rfl) ?_
            refine lv_iconst (v := 4) hx hb dX1_clashesWith_63 (by decide) ?_
            refine lv_idiv hx hb dX1_clashesWith_64 (by decide) ?_
            refine lv_ishr hx hb dX1_clashesWith_65 ?_
            refine lv_if_eq (tgt := 73) hx hb dX1_clashesWith_66 (by decide) (fun c_13 => ?_) (fun c_13 => ?_)
            · skip
              have c_13 : ((fM 5) >>> ((r_1 / (4 : Int32)) &&& 31)) = 0 := c_13
              have tc_13 : ((fM 5) >>> ((r_1 / (4 : Int32)) &&& 31)).toInt = (0 : Int) := congrArg Int32.toInt c_13
              refine lv_iconst (v := 0) hx hb dX1_clashesWith_73 (by decide) ?_
              have hP9 := hP.sub (ws' := [(o_M, .inr (1, [.ref o_Mo, .int (fM 1), .int (fM 2), .int (fM 3), .int (fM 4), .int (fM 5), .int (fM 6), .int (fM 7)])), (o_A, .inr (0, [.ref o_Ao, .int (fA 1)])), (o_Ao, .inl (tC 0, 44, .inl ao))]) [0, 1, 2] rfl
              have hD9 := hD.sub (ws' := [(o_M, .inr (1, [.ref o_Mo, .int (fM 1), .int (fM 2), .int (fM 3), .int (fM 4), .int (fM 5), .int (fM 6), .int (fM 7)])), (o_A, .inr (0, [.ref o_Ao, .int (fA 1)])), (o_Ao, .inl (tC 0, 44, .inl ao))]) [0, 1, 2] (by decide) rfl
              exact W.zret (v := 0) hx hb hr rfl (fun t ht hW => ⟨⟨0, (), rfl, (by subst er_1 er_2 er_9 er_11; rw [FX1_clashesWith]; rw [if_pos c_3]; rw [if_neg c_4]; rw [if_neg c_8]; rw [if_pos c_10]; rw [if_neg c_12]; rw [if_pos c_13]; try rfl), by rw [ht]; exact hP9, va_K.moved hW.alike hK, hD9⟩, hS.F ht⟩) hS.2.2 dX1_clashesWith_74
            · skip
              have c_13 : ¬ (((fM 5) >>> ((r_1 / (4 : Int32)) &&& 31)) = 0) := c_13
              refine lv_iconst (v := 1) hx hb dX1_clashesWith_69 (by decide) ?_
              refine lv_goto (tgt := 74) hx hb dX1_clashesWith_70 (by decide) ?_
              have hP9 := hP.sub (ws' := [(o_M, .inr (1, [.ref o_Mo, .int (fM 1), .int (fM 2), .int (fM 3), .int (fM 4), .int (fM 5), .int (fM 6), .int (fM 7)])), (o_A, .inr (0, [.ref o_Ao, .int (fA 1)])), (o_Ao, .inl (tC 0, 44, .inl ao))]) [0, 1, 2] rfl
              have hD9 := hD.sub (ws' := [(o_M, .inr (1, [.ref o_Mo, .int (fM 1), .int (fM 2), .int (fM 3), .int (fM 4), .int (fM 5), .int (fM 6), .int (fM 7)])), (o_A, .inr (0, [.ref o_Ao, .int (fA 1)])), (o_Ao, .inl (tC 0, 44, .inl ao))]) [0, 1, 2] (by decide) rfl
              exact W.zret (v := 1) hx hb hr rfl (fun t ht hW => ⟨⟨1, (), rfl, (by subst er_1 er_2 er_9 er_11; rw [FX1_clashesWith]; rw [if_pos c_3]; rw [if_neg c_4]; rw [if_neg c_8]; rw [if_pos c_10]; rw [if_neg c_12]; rw [if_neg c_13]; try rfl), by rw [ht]; exact hP9, va_K.moved hW.alike hK, hD9⟩, hS.F ht⟩) hS.2.2 dX1_clashesWith_74
        · skip
          have c_10 : ¬ (r_9 = 0) := c_10
          refine lv_iload_n hx hb dX1_clashesWith_41 rfl (lv_at hl 0 rfl) ?_
          refine lv_aload_n hx hb dX1_clashesWith_42 rfl (lv_at hl 1 rfl) ?_
          refine va_get (D := (dC, dI)) (ci := 1) (v := .int (fM 6)) (C := RX1) (T := TX1) (N := 8) hx hb hts (fun w h => List.mem_cons_of_mem _ (uwX1 w h)) hown hK hP 0 rfl rfl 6 (by decide) (hts _ (List.mem_cons_of_mem _ wd_62)) (fun _ h9 => h9) rfl dX1_clashesWith_43 ?_
          refine lv_icmp_eq (tgt := 51) hx hb dX1_clashesWith_46 (by decide) (fun c_14 => ?_) (fun c_14 => ?_)
          · skip
            have c_14 : r_1 = (fM 6) := c_14
            have tc_14 : r_1.toInt = (fM 6).toInt := congrArg Int32.toInt c_14
            refine lv_aload_n hx hb dX1_clashesWith_51 rfl (lv_at hl 2 rfl) ?_
            have hPc := hP.sub (ws' := [(o_A, .inr (0, [.ref o_Ao, .int (fA 1)])), (o_Ao, .inl (tC 0, 44, .inl ao))]) [1, 2] rfl
            have hDc := hD.sub (ws' := [(o_A, .inr (0, [.ref o_Ao, .int (fA 1)])), (o_Ao, .inl (tC 0, 44, .inl ao))]) [1, 2] (by decide) rfl
            have hFc := va_free (wc := [(o_A, .inr (0, [.ref o_Ao, .int (fA 1)])), (o_Ao, .inl (tC 0, 44, .inl ao))]) hD hS hA [1, 2] rfl
            refine va_calli (va_runV (As := []) (rest := []) ⟨hx, hb, hml, hown, hts⟩ (c_X0_isEnd l dC dI tC o_A o_Ao H.size fA ao) (cwV 0 hts (gV wd_402 wd_353 wd_354 wd_2 wd_355) rfl rfl rfl dsc_X0_isEnd ⟨Nat.le_of_ble_eq_true rfl, Nat.le_of_ble_eq_true rfl⟩) ⟨fun a U g mk q => by obtain ⟨q0, q1, qP, qK, qN, qD⟩ := q; exact ⟨q0, q1, qP, va_K.moved (u := U) (U := U.calling g mk a) (Vm.Alike.refl U.vm) qK, NW.same (u := U) (U := U.calling g mk a) rfl qN, qD⟩, va_recv hK hPc (ci := 0) (q0 := 0) rfl rfl, fun U hU hW => ⟨rfl, by rw [hU], by rw [hU]; exact hPc, va_K.moved hW.alike hK, NW.warm hW hN, hDc.weaken (fun _ _ _ _ => trivial)⟩⟩ rfl rfl hl.1 rfl (lv_room (Nat.le_of_ble_eq_true rfl)) dX1_clashesWith_52 ⟨Nat.le_of_ble_eq_true rfl, Nat.le_of_ble_eq_true rfl⟩) hS (fun q _ h => hFc q h) hFc (fun r_15 u t H1 locs ht hvm hw hB hz1 hk1 hS => ?_)
            obtain ⟨hP1, hK1, hD1⟩ := hB
            rw [ht] at hP1
            obtain ⟨hP, hD⟩ := va_join (wr := [(o_M, .inr (1, [.ref o_Mo, .int (fM 1), .int (fM 2), .int (fM 3), .int (fM 4), .int (fM 5), .int (fM 6), .int (fM 7)]))]) (w1 := [(o_A, .inr (0, [.ref o_Ao, .int (fA 1)])), (o_Ao, .inl (tC 0, 44, .inl ao))]) hP hD [1, 2] [0] rfl rfl (by decide) (by decide) hk1 hFc hP1 hD1
            generalize H1 = H at hP hS ⊢
            have hP : va_P (dC, dI) vwCl [(o_M, .inr (1, [.ref o_Mo, .int (fM 1), .int (fM 2), .int (fM 3), .int (fM 4), .int (fM 5), .int (fM 6), .int (fM 7)])), (o_A, .inr (0, [.ref o_Ao, .int (fA 1)])), (o_Ao, .inl (tC 0, 44, .inl ao))] H := hP
            have hD : va_D A [(o_M, .inr (1, [.ref o_Mo, .int (fM 1), .int (fM 2), .int (fM 3), .int (fM 4), .int (fM 5), .int (fM 6), .int (fM 7)])), (o_A, .inr (0, [.ref o_Ao, .int (fA 1)])), (o_Ao, .inl (tC 0, 44, .inl ao))] := hD
            have er_15 : r_15 = (FX0_isEnd fA ao) := hw
            refine lv_if_eq (tgt := 73) hx hb dX1_clashesWith_55 (by decide) (fun c_16 => ?_) (fun c_16 => ?_)
            · skip
              have c_16 : r_15 = 0 := c_16
              have tc_16 : r_15.toInt = (0 : Int) := congrArg Int32.toInt c_16
              refine lv_iconst (v := 0) hx hb dX1_clashesWith_73 (by decide) ?_
              have hP9 := hP.sub (ws' := [(o_M, .inr (1, [.ref o_Mo, .int (fM 1), .int (fM 2), .int (fM 3), .int (fM 4), .int (fM 5), .int (fM 6), .int (fM 7)])), (o_A, .inr (0, [.ref o_Ao, .int (fA 1)])), (o_Ao, .inl (tC 0, 44, .inl ao))]) [0, 1, 2] rfl
              have hD9 := hD.sub (ws' := [(o_M, .inr (1, [.ref o_Mo, .int (fM 1), .int (fM 2), .int (fM 3), .int (fM 4), .int (fM 5), .int (fM 6), .int (fM 7)])), (o_A, .inr (0, [.ref o_Ao, .int (fA 1)])), (o_Ao, .inl (tC 0, 44, .inl ao))]) [0, 1, 2] (by decide) rfl
              exact W.zret (v := 0) hx hb hr rfl (fun t ht hW => ⟨⟨0, (), rfl, (by subst er_1 er_2 er_9 er_15; rw [FX1_clashesWith]; rw [if_pos c_3]; rw [if_neg c_4]; rw [if_neg c_8]; rw [if_neg c_10]; rw [if_pos c_14]; rw [if_pos c_16]; try rfl), by rw [ht]; exact hP9, va_K.moved hW.alike hK, hD9⟩, hS.F ht⟩) hS.2.2 dX1_clashesWith_74
            · skip
              have c_16 : ¬ (r_15 = 0) := c_16
              refine lv_aload_n hx hb dX1_clashesWith_58 rfl (lv_at hl 1 rfl) ?_
              refine va_get (D := (dC, dI)) (ci := 1) (v := .int (fM 5)) (C := RX1) (T := TX1) (N := 8) hx hb hts (fun w h => List.mem_cons_of_mem _ (uwX1 w h)) hown hK hP 0 rfl rfl 5 (by decide) (hts _ (List.mem_cons_of_mem _ wd_61)) (fun _ h9 => h9) rfl dX1_clashesWith_59 ?_
              refine lv_iload_n hx hb dX1_clashesWith_62 rfl (lv_at hl 0 rfl) ?_
              refine lv_iconst (v := 4) hx hb dX1_clashesWith_63 (by decide) ?_
              refine lv_idiv hx hb dX1_clashesWith_64 (by decide) ?_
              refine lv_ishr hx hb dX1_clashesWith_65 ?_
              refine lv_if_eq (tgt := 73) hx hb dX1_clashesWith_66 (by decide) (fun c_17 => ?_) (fun c_17 => ?_)
              · skip
                have c_17 : ((fM 5) >>> ((r_1 / (4 : Int32)) &&& 31)) = 0 := c_17
                have tc_17 : ((fM 5) >>> ((r_1 / (4 : Int32)) &&& 31)).toInt = (0 : Int) := congrArg Int32.toInt c_17
                refine lv_iconst (v := 0) hx hb dX1_clashesWith_73 (by decide) ?_
                have hP9 := hP.sub (ws' := [(o_M, .inr (1, [.ref o_Mo, .int (fM 1), .int (fM 2), .int (fM 3), .int (fM 4), .int (fM 5), .int (fM 6), .int (fM 7)])), (o_A, .inr (0, [.ref o_Ao, .int (fA 1)])), (o_Ao, .inl (tC 0, 44, .inl ao))]) [0, 1, 2] rfl
                have hD9 := hD.sub (ws' := [(o_M, .inr (1, [.ref o_Mo, .int (fM 1), .int (fM 2), .int (fM 3), .int (fM 4), .int (fM 5), .int (fM 6), .int (fM 7)])), (o_A, .inr (0, [.ref o_Ao, .int (fA 1)])), (o_Ao, .inl (tC 0, 44, .inl ao))]) [0, 1, 2] (by decide) rfl
                exact W.zret (v := 0) hx hb hr rfl (fun t ht hW => ⟨⟨0, (), rfl, (by subst er_1 er_2 er_9 er_15; rw [FX1_clashesWith]; rw [if_pos c_3]; rw [if_neg c_4]; rw [if_neg c_8]; rw [if_neg c_10]; rw [if_pos c_14]; rw [if_neg c_16]; rw [if_pos c_17]; try rfl), by rw [ht]; exact hP9, va_K.moved hW.alike hK, hD9⟩, hS.F ht⟩) hS.2.2 dX1_clashesWith_74
              · skip
                have c_17 : ¬ (((fM 5) >>> ((r_1 / (4 : Int32)) &&& 31)) = 0) := c_17
                refine lv_iconst (v := 1) hx hb dX1_clashesWith_69 (by decide) ?_
                refine lv_goto (tgt := 74) hx hb dX1_clashesWith_70 (by decide) ?_
                have hP9 := hP.sub (ws' := [(o_M, .inr (1, [.ref o_Mo, .int (fM 1), .int (fM 2), .int (fM 3), .int (fM 4), .int (fM 5), .int (fM 6), .int (fM 7)])), (o_A, .inr (0, [.ref o_Ao, .int (fA 1)])), (o_Ao, .inl (tC 0, 44, .inl ao))]) [0, 1, 2] rfl
                have hD9 := hD.sub (ws' := [(o_M, .inr (1, [.ref o_Mo, .int (fM 1), .int (fM 2), .int (fM 3), .int (fM 4), .int (fM 5), .int (fM 6), .int (fM 7)])), (o_A, .inr (0, [.ref o_Ao, .int (fA 1)])), (o_Ao, .inl (tC 0, 44, .inl ao))]) [0, 1, 2] (by decide) rfl
                exact W.zret (v := 1) hx hb hr rfl (fun t ht hW => ⟨⟨1, (), rfl, (by subst er_1 er_2 er_9 er_15; rw [FX1_clashesWith]; rw [if_pos c_3]; rw [if_neg c_4]; rw [if_neg c_8]; rw [if_neg c_10]; rw [if_pos c_14]; rw [if_neg c_16]; rw [if_neg c_17]; try rfl), by rw [ht]; exact hP9, va_K.moved hW.alike hK, hD9⟩, hS.F ht⟩) hS.2.2 dX1_clashesWith_74
          · skip
            have c_14 : ¬ (r_1 = (fM 6)) := c_14
            refine lv_iconst (v := 1) hx hb dX1_clashesWith_49 (by decide) ?_
            have hP9 := hP.sub (ws' := [(o_M, .inr (1, [.ref o_Mo, .int (fM 1), .int (fM 2), .int (fM 3), .int (fM 4), .int (fM 5), .int (fM 6), .int (fM 7)])), (o_A, .inr (0, [.ref o_Ao, .int (fA 1)])), (o_Ao, .inl (tC 0, 44, .inl ao))]) [0, 1, 2] rfl
            have hD9 := hD.sub (ws' := [(o_M, .inr (1, [.ref o_Mo, .int (fM 1), .int (fM 2), .int (fM 3), .int (fM 4), .int (fM 5), .int (fM 6), .int (fM 7)])), (o_A, .inr (0, [.ref o_Ao, .int (fA 1)])), (o_Ao, .inl (tC 0, 44, .inl ao))]) [0, 1, 2] (by decide) rfl
            exact W.zret (v := 1) hx hb hr rfl (fun t ht hW => ⟨⟨1, (), rfl, (by subst er_1 er_2 er_9; rw [FX1_clashesWith]; rw [if_pos c_3]; rw [if_neg c_4]; rw [if_neg c_8]; rw [if_neg c_10]; rw [if_neg c_14]; try rfl), by rw [ht]; exact hP9, va_K.moved hW.alike hK, hD9⟩, hS.F ht⟩) hS.2.2 dX1_clashesWith_50
  · skip
    have c_3 : ¬ (((fM 5) &&& r_2) = 0) := c_3
    refine lv_iconst (v := 1) hx hb dX1_clashesWith_17 (by decide) ?_
    have hP9 := hP.sub (ws' := [(o_M, .inr (1, [.ref o_Mo, .int (fM 1), .int (fM 2), .int (fM 3), .int (fM 4), .int (fM 5), .int (fM 6), .int (fM 7)])), (o_A, .inr (0, [.ref o_Ao, .int (fA 1)])), (o_Ao, .inl (tC 0, 44, .inl ao))]) [0, 1, 2] rfl
    have hD9 := hD.sub (ws' := [(o_M, .inr (1, [.ref o_Mo, .int (fM 1), .int (fM 2), .int (fM 3), .int (fM 4), .int (fM 5), .int (fM 6), .int (fM 7)])), (o_A, .inr (0, [.ref o_Ao, .int (fA 1)])), (o_Ao, .inl (tC 0, 44, .inl ao))]) [0, 1, 2] (by decide) rfl
    exact W.zret (v := 1) hx hb hr rfl (fun t ht hW => ⟨⟨1, (), rfl, (by subst er_1 er_2; rw [FX1_clashesWith]; rw [if_neg c_3]; try rfl), by rw [ht]; exact hP9, va_K.moved hW.alike hK, hD9⟩, hS.F ht⟩) hS.2.2 dX1_clashesWith_18
set_option maxHeartbeats 4000000 in
set_option maxRecDepth 100000 in
theorem c_X1_put (l : Launch) (dC : Nat → ClassId) (dI : Nat → Nat → Nat) (tC : Nat → ClassId) (o_M o_A o_Mo o_Ao : Nat) (sz : Nat) (fM : (Nat → Int32)) (mo : (Nat → Int32)) (fA : (Nat → Int32)) (ao : (Nat → Int32)) (h_u : (FX0_unit fA ao).toInt ≤ 7) (h_u0 : 0 ≤ (FX0_unit fA ao).toInt) (h_l : (fA 1).toInt ≤ 41) (h_r : 4 * (FX0_unit fA ao).toInt + (fA 1).toInt ≤ 41) (h_9 : 9 ≤ (fA 1).toInt) : Met l yX1_put wsX1_put ({ frames := 2, cells := 0, slots := 0, locals := 41 }) (va_Pc [.ref o_M, .ref o_A] (fun U => U.heap.size = sz ∧ va_P (dC, dI) vwCl [(o_M, .inr (1, [.ref o_Mo, .int (fM 1), .int (fM 2), .int (fM 3), .int (fM 4), .int (fM 5), .int (fM 6), .int (fM 7)])), (o_Mo, .inl (tC 0, 32, .inl mo)), (o_A, .inr (0, [.ref o_Ao, .int (fA 1)])), (o_Ao, .inl (tC 0, 44, .inl ao))] U.heap ∧ va_K (dC, dI) vwCl (TY tC) U ∧ NW U ∧ va_D (fun _ => True) [(o_M, .inr (1, [.ref o_Mo, .int (fM 1), .int (fM 2), .int (fM 3), .int (fM 4), .int (fM 5), .int (fM 6), .int (fM 7)])), (o_Mo, .inl (tC 0, 32, .inl mo)), (o_A, .inr (0, [.ref o_Ao, .int (fA 1)])), (o_Ao, .inl (tC 0, 44, .inl ao))])) (va_Qv (fun (u : (Nat → Int32) × (Nat → Int32)) => u = FX1_put fM mo fA ao) (fun (u : (Nat → Int32) × (Nat → Int32)) (t : State) => va_P (dC, dI) vwCl [(o_M, .inr (1, [.ref o_Mo, .int (u.1 1), .int (u.1 2), .int (u.1 3), .int (u.1 4), .int (u.1 5), .int (u.1 6), .int (u.1 7)])), (o_Mo, .inl (tC 0, 32, .inl u.2)), (o_A, .inr (0, [.ref o_Ao, .int (fA 1)])), (o_Ao, .inl (tC 0, 44, .inl ao))] t.heap ∧ va_K (dC, dI) vwCl (TY tC) t ∧ va_D (va_A [(o_M, .inr (1, [.ref o_Mo, .int (fM 1), .int (fM 2), .int (fM 3), .int (fM 4), .int (fM 5), .int (fM 6), .int (fM 7)])), (o_Mo, .inl (tC 0, 32, .inl mo)), (o_A, .inr (0, [.ref o_Ao, .int (fA 1)])), (o_Ao, .inl (tC 0, 44, .inl ao))] sz) [(o_M, .inr (1, [.ref o_Mo, .int (u.1 1), .int (u.1 2), .int (u.1 3), .int (u.1 4), .int (u.1 5), .int (u.1 6), .int (u.1 7)])), (o_Mo, .inl (tC 0, 32, .inl u.2)), (o_A, .inr (0, [.ref o_Ao, .int (fA 1)])), (o_Ao, .inl (tC 0, 44, .inl ao))]) (va_A [(o_M, .inr (1, [.ref o_Mo, .int (fM 1), .int (fM 2), .int (fM 3), .int (fM 4), .int (fM 5), .int (fM 6), .int (fM 7)])), (o_Mo, .inl (tC 0, 32, .inl mo)), (o_A, .inr (0, [.ref o_Ao, .int (fA 1)])), (o_Ao, .inl (tC 0, 44, .inl ao))] sz)) 0 0 (va_A [(o_M, .inr (1, [.ref o_Mo, .int (fM 1), .int (fM 2), .int (fM 3), .int (fM 4), .int (fM 5), .int (fM 6), .int (fM 7)])), (o_Mo, .inl (tC 0, 32, .inl mo)), (o_A, .inr (0, [.ref o_Ao, .int (fA 1)])), (o_Ao, .inl (tC 0, 44, .inl ao))] sz) := by
  refine Met.ofW (cc := cX1_put) (maxL := 4) (ret := none) (by decide) rfl ?_
  intro p e s m args below meth c s₁ B hml hv
  obtain ⟨rfl, hsz, hP, hK, hN, hD0⟩ := hv
  have hx := B.exec
  have hb := B.bytes
  have hr := B.returns
  have hts := atoms_spec (ws := wsX1_put) B.pre
  have hown : s.vm.findClass RX1 = some m.cls := findClass_of_methodNamed B.named
  have hlocks := B.notSynchronized
  subst hsz
  have hD := hD0.self (sz := s.heap.size)
  generalize hAe : va_A [(o_M, .inr (1, [.ref o_Mo, .int (fM 1), .int (fM 2), .int (fM 3), .int (fM 4), .int (fM 5), .int (fM 6), .int (fM 7)])), (o_Mo, .inl (tC 0, 32, .inl mo)), (o_A, .inr (0, [.ref o_Ao, .int (fA 1)])), (o_Ao, .inl (tC 0, 44, .inl ao))] s.heap.size = A at hD ⊢
  have hA : ∀ q : Nat, s.heap.size ≤ q → A q := fun q h => by rw [← hAe]; exact Or.inr h
  have hS : va_S A s.heap s.heap [] := va_S.rf
  have hP : va_P (dC, dI) vwCl [(o_M, .inr (1, [.ref o_Mo, .int (fM 1), .int (fM 2), .int (fM 3), .int (fM 4), .int (fM 5), .int (fM 6), .int (fM 7)])), (o_Mo, .inl (tC 0, 32, .inl mo)), (o_A, .inr (0, [.ref o_Ao, .int (fA 1)])), (o_Ao, .inl (tC 0, 44, .inl ao))] s.heap := hP
  have hl := lv_entry ([.ref o_M, .ref o_A]) (n := 4) (Nat.le_of_ble_eq_true rfl)
  rw [lg_entry_eq]
  generalize (lg_sl ([.ref o_M, .ref o_A]) ++ List.replicate (4 - (lg_sl ([.ref o_M, .ref o_A])).length) Slot.unset).toArray = ls at hl ⊢
  have hl : lv_has ls 4 [(0, .ref o_M), (1, .ref o_A)] := hl
  generalize hQ : MQ _ _ _ _ _ _ _ = Q
  refine lv_iconst (v := 4) hx hb dX1_put_0 (by decide) ?_
  refine lv_aload_n hx hb dX1_put_1 rfl (lv_at hl 1 rfl) ?_
  have hPc := hP.sub (ws' := [(o_A, .inr (0, [.ref o_Ao, .int (fA 1)])), (o_Ao, .inl (tC 0, 44, .inl ao))]) [2, 3] rfl
  have hDc := hD.sub (ws' := [(o_A, .inr (0, [.ref o_Ao, .int (fA 1)])), (o_Ao, .inl (tC 0, 44, .inl ao))]) [2, 3] (by decide) rfl
  have hFc := va_free (wc := [(o_A, .inr (0, [.ref o_Ao, .int (fA 1)])), (o_Ao, .inl (tC 0, 44, .inl ao))]) hD hS hA [2, 3] rfl
  refine va_calli (va_runV (As := []) (rest := [.int 4]) ⟨hx, hb, hml, hown, hts⟩ (c_X0_unit l dC dI tC o_A o_Ao s.heap.size fA ao) (cwV 0 hts (gV wd_407 wd_341 wd_342 wd_2 wd_343) rfl rfl rfl dsc_X0_unit ⟨Nat.le_of_ble_eq_true rfl, Nat.le_of_ble_eq_true rfl⟩) ⟨fun a U g mk q => by obtain ⟨q0, q1, qP, qK, qN, qD⟩ := q; exact ⟨q0, q1, qP, va_K.moved (u := U) (U := U.calling g mk a) (Vm.Alike.refl U.vm) qK, NW.same (u := U) (U := U.calling g mk a) rfl qN, qD⟩, va_recv hK hPc (ci := 0) (q0 := 0) rfl rfl, fun U hU hW => ⟨rfl, by rw [hU], by rw [hU]; exact hPc, va_K.moved hW.alike hK, NW.warm hW hN, hDc.weaken (fun _ _ _ _ => trivial)⟩⟩ rfl rfl hl.1 rfl (lv_room (Nat.le_of_ble_eq_true rfl)) dX1_put_2 ⟨Nat.le_of_ble_eq_true rfl, Nat.le_of_ble_eq_true rfl⟩) hS (fun q _ h => hFc q h) hFc (fun r_1 u t H1 locs ht hvm hw hB hz1 hk1 hS => ?_)
  obtain ⟨hP1, hK1, hD1⟩ := hB
  rw [ht] at hP1
  obtain ⟨hP, hD⟩ := va_join (wr := [(o_M, .inr (1, [.ref o_Mo, .int (fM 1), .int (fM 2), .int (fM 3), .int (fM 4), .int (fM 5), .int (fM 6), .int (fM 7)])), (o_Mo, .inl (tC 0, 32, .inl mo))]) (w1 := [(o_A, .inr (0, [.ref o_Ao, .int (fA 1)])), (o_Ao, .inl (tC 0, 44, .inl ao))]) hP hD [2, 3] [0, 1] rfl rfl (by decide) (by decide) hk1 hFc hP1 hD1
  generalize H1 = H at hP hS ⊢
  have hP : va_P (dC, dI) vwCl [(o_M, .inr (1, [.ref o_Mo, .int (fM 1), .int (fM 2), .int (fM 3), .int (fM 4), .int (fM 5), .int (fM 6), .int (fM 7)])), (o_Mo, .inl (tC 0, 32, .inl mo)), (o_A, .inr (0, [.ref o_Ao, .int (fA 1)])), (o_Ao, .inl (tC 0, 44, .inl ao))] H := hP
  have hD : va_D A [(o_M, .inr (1, [.ref o_Mo, .int (fM 1), .int (fM 2), .int (fM 3), .int (fM 4), .int (fM 5), .int (fM 6), .int (fM 7)])), (o_Mo, .inl (tC 0, 32, .inl mo)), (o_A, .inr (0, [.ref o_Ao, .int (fA 1)])), (o_Ao, .inl (tC 0, 44, .inl ao))] := hD
  have er_1 : r_1 = (FX0_unit fA ao) := hw
  have h_r1 : r_1.toInt = (FX0_unit fA ao).toInt := by rw [er_1]
  refine lv_imul hx hb dX1_put_5 ?_
  refine lv_topi (fun x_2 (ex_2 : x_2 = ((4 : Int32) * r_1)) => ?_)
  refine lv_istore_n (lv' := [(2, .int x_2), (0, .ref o_M), (1, .ref o_A)]) hx hb dX1_put_6 rfl hl (by decide) rfl (fun ls hl => ?_)
  have h_st : x_2.toInt = 4 * (FX0_unit fA ao).toInt := by rw [ex_2, tI_cm 4 rfl (by omega) (by omega)]; omega
  refine lv_iconst (v := 0) hx hb dX1_put_7 (by decide) ?_
  refine lv_istore_n (lv' := [(3, .int 0), (2, .int x_2), (0, .ref o_M), (1, .ref o_A)]) hx hb dX1_put_8 rfl hl (by decide) rfl (fun ls hl => ?_)
  have loop : ∀ (n : Nat) (y3 : Int32) (z_mo : (Nat → Int32)) (H : Heap) (locs : List Loc) (ls : Array Slot), (0 ≤ y3.toInt) → (((fA 1).toInt - 9 - y3.toInt).toNat) < n → LX1_put_9 fM fA ao x_2 n y3 z_mo = FX1_put fM mo fA ao → va_P (dC, dI) vwCl [(o_M, .inr (1, [.ref o_Mo, .int (fM 1), .int (fM 2), .int (fM 3), .int (fM 4), .int (fM 5), .int (fM 6), .int (fM 7)])), (o_Mo, .inl (tC 0, 32, .inl z_mo)), (o_A, .inr (0, [.ref o_Ao, .int (fA 1)])), (o_Ao, .inl (tC 0, 44, .inl ao))] H → va_D A [(o_M, .inr (1, [.ref o_Mo, .int (fM 1), .int (fM 2), .int (fM 3), .int (fM 4), .int (fM 5), .int (fM 6), .int (fM 7)])), (o_Mo, .inl (tC 0, 32, .inl z_mo)), (o_A, .inr (0, [.ref o_Ao, .int (fA 1)])), (o_Ao, .inl (tC 0, 44, .inl ao))] → va_S A s.heap H locs → lv_has ls 4 [(3, .int y3), (2, .int x_2), (0, .ref o_M), (1, .ref o_A)] → W p l e (headSpec wsX1_put ({ frames := 2, cells := 0, slots := 0, locals := 41 })).room s m ([.ref o_M, .ref o_A] : List Value).toArray below meth c H locs 0 0 Q (F0 m 9 ls []) := by
    intro n; induction n with
    | zero => intro y3 z_mo H locs ls h_i hm hL; exact absurd hm (Nat.not_lt_zero _)
    | succ n ih =>
      intro y3 z_mo H locs ls h_i hm hL hP hD hS hl
      refine lv_iload_n hx hb dX1_put_9 rfl (lv_at hl 0 rfl) ?_
      refine lv_aload_n hx hb dX1_put_10 rfl (lv_at hl 3 rfl) ?_
      have hPc := hP.sub (ws' := [(o_A, .inr (0, [.ref o_Ao, .int (fA 1)]))]) [2] rfl
      have hDc := hD.sub (ws' := [(o_A, .inr (0, [.ref o_Ao, .int (fA 1)]))]) [2] (by decide) rfl
      have hFc := va_free (wc := [(o_A, .inr (0, [.ref o_Ao, .int (fA 1)]))]) hD hS hA [2] rfl
      refine va_calli (va_runV (As := []) (rest := [.int y3]) ⟨hx, hb, hml, hown, hts⟩ (c_X0_size l dC dI tC o_A o_Ao H.size fA) (cwV 0 hts (gV wd_408 wd_349 wd_350 wd_2 wd_351) rfl rfl rfl dsc_X0_size ⟨Nat.le_of_ble_eq_true rfl, Nat.le_of_ble_eq_true rfl⟩) ⟨fun a U g mk q => by obtain ⟨q0, q1, qP, qK, qN, qD⟩ := q; exact ⟨q0, q1, qP, va_K.moved (u := U) (U := U.calling g mk a) (Vm.Alike.refl U.vm) qK, NW.same (u := U) (U := U.calling g mk a) rfl qN, qD⟩, va_recv hK hPc (ci := 0) (q0 := 0) rfl rfl, fun U hU hW => ⟨rfl, by rw [hU], by rw [hU]; exact hPc, va_K.moved hW.alike hK, NW.warm hW hN, hDc.weaken (fun _ _ _ _ => trivial)⟩⟩ rfl rfl hl.1 rfl (lv_room (Nat.le_of_ble_eq_true rfl)) dX1_put_11 ⟨Nat.le_of_ble_eq_true rfl, Nat.le_of_ble_eq_true rfl⟩) hS (fun q _ h => hFc q h) hFc (fun r_3 u t H1 locs ht hvm hw hB hz1 hk1 hS => ?_)
      obtain ⟨hP1, hK1, hD1⟩ := hB
      rw [ht] at hP1
      obtain ⟨hP, hD⟩ := va_join (wr := [(o_M, .inr (1, [.ref o_Mo, .int (fM 1), .int (fM 2), .int (fM 3), .int (fM 4), .int (fM 5), .int (fM 6), .int (fM 7)])), (o_Mo, .inl (tC 0, 32, .inl z_mo)), (o_Ao, .inl (tC 0, 44, .inl ao))]) (w1 := [(o_A, .inr (0, [.ref o_Ao, .int (fA 1)]))]) hP hD [2] [0, 1, 3] rfl rfl (by decide) (by decide) hk1 hFc hP1 hD1
      generalize H1 = H at hP hS ⊢
      have hP : va_P (dC, dI) vwCl [(o_M, .inr (1, [.ref o_Mo, .int (fM 1), .int (fM 2), .int (fM 3), .int (fM 4), .int (fM 5), .int (fM 6), .int (fM 7)])), (o_Mo, .inl (tC 0, 32, .inl z_mo)), (o_Ao, .inl (tC 0, 44, .inl ao)), (o_A, .inr (0, [.ref o_Ao, .int (fA 1)]))] H := hP
      have hD : va_D A [(o_M, .inr (1, [.ref o_Mo, .int (fM 1), .int (fM 2), .int (fM 3), .int (fM 4), .int (fM 5), .int (fM 6), .int (fM 7)])), (o_Mo, .inl (tC 0, 32, .inl z_mo)), (o_Ao, .inl (tC 0, 44, .inl ao)), (o_A, .inr (0, [.ref o_Ao, .int (fA 1)]))] := hD
      have er_3 : r_3 = (FX0_size fA) := hw
      have h_sz : r_3.toInt = (fA 1).toInt - 9 := by rw [er_3]; exact tI_sc 9 rfl (by omega) (by omega)
      refine lv_icmp_ge (tgt := 40) hx hb dX1_put_14 (by decide) (fun c_4 => ?_) (fun c_4 => ?_)
      · skip
        have c_4 : r_3 ≤ y3 := c_4
        have tc_4 : r_3.toInt ≤ y3.toInt := Int32.le_iff_toInt_le.mp c_4
        refine lv_aload_n hx hb dX1_put_40 rfl (lv_at hl 2 rfl) ?_
        refine lv_dup hx hb dX1_put_41 rfl ?_
        refine va_get (D := (dC, dI)) (ci := 1) (v := .int (fM 5)) (C := RX1) (T := TX1) (N := 8) hx hb hts (fun w h => List.mem_cons_of_mem _ (uwX1 w h)) hown hK hP 0 rfl rfl 5 (by decide) (hts _ (List.mem_cons_of_mem _ wd_61)) (fun _ h9 => h9) rfl dX1_put_42 ?_
        refine lv_aload_n hx hb dX1_put_45 rfl (lv_at hl 3 rfl) ?_
        have hPc := hP.sub (ws' := [(o_A, .inr (0, [.ref o_Ao, .int (fA 1)])), (o_Ao, .inl (tC 0, 44, .inl ao))]) [3, 2] rfl
        have hDc := hD.sub (ws' := [(o_A, .inr (0, [.ref o_Ao, .int (fA 1)])), (o_Ao, .inl (tC 0, 44, .inl ao))]) [3, 2] (by decide) rfl
        have hFc := va_free (wc := [(o_A, .inr (0, [.ref o_Ao, .int (fA 1)])), (o_Ao, .inl (tC 0, 44, .inl ao))]) hD hS hA [3, 2] rfl
        refine va_calli (va_runV (As := []) (rest := [.int (fM 5), .ref o_M]) ⟨hx, hb, hml, hown, hts⟩ (c_X0_units l dC dI tC o_A o_Ao H.size fA ao) (cwV 0 hts (gV wd_395 wd_396 wd_397 wd_2 wd_398) rfl rfl rfl dsc_X0_units ⟨Nat.le_of_ble_eq_true rfl, Nat.le_of_ble_eq_true rfl⟩) ⟨fun a U g mk q => by obtain ⟨q0, q1, qP, qK, qN, qD⟩ := q; exact ⟨q0, q1, qP, va_K.moved (u := U) (U := U.calling g mk a) (Vm.Alike.refl U.vm) qK, NW.same (u := U) (U := U.calling g mk a) rfl qN, qD⟩, va_recv hK hPc (ci := 0) (q0 := 0) rfl rfl, fun U hU hW => ⟨rfl, by rw [hU], by rw [hU]; exact hPc, va_K.moved hW.alike hK, NW.warm hW hN, hDc.weaken (fun _ _ _ _ => trivial)⟩⟩ rfl rfl hl.1 rfl (lv_room (Nat.le_of_ble_eq_true rfl)) dX1_put_46 ⟨Nat.le_of_ble_eq_true rfl, Nat.le_of_ble_eq_true rfl⟩) hS (fun q _ h => hFc q h) hFc (fun r_5 u t H1 locs ht hvm hw hB hz1 hk1 hS => ?_)
        obtain ⟨hP1, hK1, hD1⟩ := hB
        rw [ht] at hP1
        obtain ⟨hP, hD⟩ := va_join (wr := [(o_M, .inr (1, [.ref o_Mo, .int (fM 1), .int (fM 2), .int (fM 3), .int (fM 4), .int (fM 5), .int (fM 6), .int (fM 7)])), (o_Mo, .inl (tC 0, 32, .inl z_mo))]) (w1 := [(o_A, .inr (0, [.ref o_Ao, .int (fA 1)])), (o_Ao, .inl (tC 0, 44, .inl ao))]) hP hD [3, 2] [0, 1] rfl rfl (by decide) (by decide) hk1 hFc hP1 hD1
        generalize H1 = H at hP hS ⊢
        have hP : va_P (dC, dI) vwCl [(o_M, .inr (1, [.ref o_Mo, .int (fM 1), .int (fM 2), .int (fM 3), .int (fM 4), .int (fM 5), .int (fM 6), .int (fM 7)])), (o_Mo, .inl (tC 0, 32, .inl z_mo)), (o_A, .inr (0, [.ref o_Ao, .int (fA 1)])), (o_Ao, .inl (tC 0, 44, .inl ao))] H := hP
        have hD : va_D A [(o_M, .inr (1, [.ref o_Mo, .int (fM 1), .int (fM 2), .int (fM 3), .int (fM 4), .int (fM 5), .int (fM 6), .int (fM 7)])), (o_Mo, .inl (tC 0, 32, .inl z_mo)), (o_A, .inr (0, [.ref o_Ao, .int (fA 1)])), (o_Ao, .inl (tC 0, 44, .inl ao))] := hD
        have er_5 : r_5 = (FX0_units fA ao) := hw
        refine lv_ior hx hb dX1_put_49 ?_
        refine lv_topi (fun f_6 (ef_6 : f_6 = ((fM 5) ||| r_5)) => ?_)
        refine va_put (D := (dC, dI)) (ci := 1) (v := .int f_6) (ty := .int) (C := RX1) (T := TX1) (N := 8) hx hb hts (fun w h => List.mem_cons_of_mem _ (uwX1 w h)) tyX1 tyX1_ok nmX1 hown hK hP hD hS 0 rfl rfl 5 (by decide) (hts _ (List.mem_cons_of_mem _ wd_61)) (fun _ h9 => h9) rfl (by decide +kernel) rfl rfl (Nat.le_of_ble_eq_true rfl) dX1_put_50 (fun H locs hP hD hS => ?_)
        have hP : va_P (dC, dI) vwCl [(o_M, .inr (1, [.ref o_Mo, .int (fM 1), .int (fM 2), .int (fM 3), .int (fM 4), .int f_6, .int (fM 6), .int (fM 7)])), (o_Mo, .inl (tC 0, 32, .inl z_mo)), (o_A, .inr (0, [.ref o_Ao, .int (fA 1)])), (o_Ao, .inl (tC 0, 44, .inl ao))] H := hP
        have hD : va_D A [(o_M, .inr (1, [.ref o_Mo, .int (fM 1), .int (fM 2), .int (fM 3), .int (fM 4), .int f_6, .int (fM 6), .int (fM 7)])), (o_Mo, .inl (tC 0, 32, .inl z_mo)), (o_A, .inr (0, [.ref o_Ao, .int (fA 1)])), (o_Ao, .inl (tC 0, 44, .inl ao))] := hD
        refine lv_aload_n hx hb dX1_put_53 rfl (lv_at hl 3 rfl) ?_
        have hPc := hP.sub (ws' := [(o_A, .inr (0, [.ref o_Ao, .int (fA 1)])), (o_Ao, .inl (tC 0, 44, .inl ao))]) [2, 3] rfl
        have hDc := hD.sub (ws' := [(o_A, .inr (0, [.ref o_Ao, .int (fA 1)])), (o_Ao, .inl (tC 0, 44, .inl ao))]) [2, 3] (by decide) rfl
        have hFc := va_free (wc := [(o_A, .inr (0, [.ref o_Ao, .int (fA 1)])), (o_Ao, .inl (tC 0, 44, .inl ao))]) hD hS hA [2, 3] rfl
        refine va_calli (va_runV (As := []) (rest := []) ⟨hx, hb, hml, hown, hts⟩ (c_X0_unit l dC dI tC o_A o_Ao H.size fA ao) (cwV 0 hts (gV wd_407 wd_341 wd_342 wd_2 wd_343) rfl rfl rfl dsc_X0_unit ⟨Nat.le_of_ble_eq_true rfl, Nat.le_of_ble_eq_true rfl⟩) ⟨fun a U g mk q => by obtain ⟨q0, q1, qP, qK, qN, qD⟩ := q; exact ⟨q0, q1, qP, va_K.moved (u := U) (U := U.calling g mk a) (Vm.Alike.refl U.vm) qK, NW.same (u := U) (U := U.calling g mk a) rfl qN, qD⟩, va_recv hK hPc (ci := 0) (q0 := 0) rfl rfl, fun U hU hW => ⟨rfl, by rw [hU], by rw [hU]; exact hPc, va_K.moved hW.alike hK, NW.warm hW hN, hDc.weaken (fun _ _ _ _ => trivial)⟩⟩ rfl rfl hl.1 rfl (lv_room (Nat.le_of_ble_eq_true rfl)) dX1_put_54 ⟨Nat.le_of_ble_eq_true rfl, Nat.le_of_ble_eq_true rfl⟩) hS (fun q _ h => hFc q h) hFc (fun r_7 u t H1 locs ht hvm hw hB hz1 hk1 hS => ?_)
        obtain ⟨hP1, hK1, hD1⟩ := hB
        rw [ht] at hP1
        obtain ⟨hP, hD⟩ := va_join (wr := [(o_M, .inr (1, [.ref o_Mo, .int (fM 1), .int (fM 2), .int (fM 3), .int (fM 4), .int f_6, .int (fM 6), .int (fM 7)])), (o_Mo, .inl (tC 0, 32, .inl z_mo))]) (w1 := [(o_A, .inr (0, [.ref o_Ao, .int (fA 1)])), (o_Ao, .inl (tC 0, 44, .inl ao))]) hP hD [2, 3] [0, 1] rfl rfl (by decide) (by decide) hk1 hFc hP1 hD1
        generalize H1 = H at hP hS ⊢
        have hP : va_P (dC, dI) vwCl [(o_M, .inr (1, [.ref o_Mo, .int (fM 1), .int (fM 2), .int (fM 3), .int (fM 4), .int f_6, .int (fM 6), .int (fM 7)])), (o_Mo, .inl (tC 0, 32, .inl z_mo)), (o_A, .inr (0, [.ref o_Ao, .int (fA 1)])), (o_Ao, .inl (tC 0, 44, .inl ao))] H := hP
        have hD : va_D A [(o_M, .inr (1, [.ref o_Mo, .int (fM 1), .int (fM 2), .int (fM 3), .int (fM 4), .int f_6, .int (fM 6), .int (fM 7)])), (o_Mo, .inl (tC 0, 32, .inl z_mo)), (o_A, .inr (0, [.ref o_Ao, .int (fA 1)])), (o_Ao, .inl (tC 0, 44, .inl ao))] := hD
        have er_7 : r_7 = (FX0_unit fA ao) := hw
        refine lv_if_ne (tgt := 71) hx hb dX1_put_57 (by decide) (fun c_8 => ?_) (fun c_8 => ?_)
        · skip
          have c_8 : ¬ (r_7 = 0) := c_8
          refine lv_aload_n hx hb dX1_put_71 rfl (lv_at hl 3 rfl) ?_
          have hPc := hP.sub (ws' := [(o_A, .inr (0, [.ref o_Ao, .int (fA 1)])), (o_Ao, .inl (tC 0, 44, .inl ao))]) [2, 3] rfl
          have hDc := hD.sub (ws' := [(o_A, .inr (0, [.ref o_Ao, .int (fA 1)])), (o_Ao, .inl (tC 0, 44, .inl ao))]) [2, 3] (by decide) rfl
          have hFc := va_free (wc := [(o_A, .inr (0, [.ref o_Ao, .int (fA 1)])), (o_Ao, .inl (tC 0, 44, .inl ao))]) hD hS hA [2, 3] rfl
          refine va_calli (va_runV (As := []) (rest := []) ⟨hx, hb, hml, hown, hts⟩ (c_X0_isEnd l dC dI tC o_A o_Ao H.size fA ao) (cwV 0 hts (gV wd_402 wd_353 wd_354 wd_2 wd_355) rfl rfl rfl dsc_X0_isEnd ⟨Nat.le_of_ble_eq_true rfl, Nat.le_of_ble_eq_true rfl⟩) ⟨fun a U g mk q => by obtain ⟨q0, q1, qP, qK, qN, qD⟩ := q; exact ⟨q0, q1, qP, va_K.moved (u := U) (U := U.calling g mk a) (Vm.Alike.refl U.vm) qK, NW.same (u := U) (U := U.calling g mk a) rfl qN, qD⟩, va_recv hK hPc (ci := 0) (q0 := 0) rfl rfl, fun U hU hW => ⟨rfl, by rw [hU], by rw [hU]; exact hPc, va_K.moved hW.alike hK, NW.warm hW hN, hDc.weaken (fun _ _ _ _ => trivial)⟩⟩ rfl rfl hl.1 rfl (lv_room (Nat.le_of_ble_eq_true rfl)) dX1_put_72 ⟨Nat.le_of_ble_eq_true rfl, Nat.le_of_ble_eq_true rfl⟩) hS (fun q _ h => hFc q h) hFc (fun r_9 u t H1 locs ht hvm hw hB hz1 hk1 hS => ?_)
          obtain ⟨hP1, hK1, hD1⟩ := hB
          rw [ht] at hP1
          obtain ⟨hP, hD⟩ := va_join (wr := [(o_M, .inr (1, [.ref o_Mo, .int (fM 1), .int (fM 2), .int (fM 3), .int (fM 4), .int f_6, .int (fM 6), .int (fM 7)])), (o_Mo, .inl (tC 0, 32, .inl z_mo))]) (w1 := [(o_A, .inr (0, [.ref o_Ao, .int (fA 1)])), (o_Ao, .inl (tC 0, 44, .inl ao))]) hP hD [2, 3] [0, 1] rfl rfl (by decide) (by decide) hk1 hFc hP1 hD1
          generalize H1 = H at hP hS ⊢
          have hP : va_P (dC, dI) vwCl [(o_M, .inr (1, [.ref o_Mo, .int (fM 1), .int (fM 2), .int (fM 3), .int (fM 4), .int f_6, .int (fM 6), .int (fM 7)])), (o_Mo, .inl (tC 0, 32, .inl z_mo)), (o_A, .inr (0, [.ref o_Ao, .int (fA 1)])), (o_Ao, .inl (tC 0, 44, .inl ao))] H := hP
          have hD : va_D A [(o_M, .inr (1, [.ref o_Mo, .int (fM 1), .int (fM 2), .int (fM 3), .int (fM 4), .int f_6, .int (fM 6), .int (fM 7)])), (o_Mo, .inl (tC 0, 32, .inl z_mo)), (o_A, .inr (0, [.ref o_Ao, .int (fA 1)])), (o_Ao, .inl (tC 0, 44, .inl ao))] := hD
          have er_9 : r_9 = (FX0_isEnd fA ao) := hw
          refine lv_if_eq (tgt := 86) hx hb dX1_put_75 (by decide) (fun c_10 => ?_) (fun c_10 => ?_)
          · skip
            have c_10 : r_9 = 0 := c_10
            have tc_10 : r_9.toInt = (0 : Int) := congrArg Int32.toInt c_10
            have hP9 := hP.sub (ws' := [(o_M, .inr (1, [.ref o_Mo, .int ((upd fM 5 f_6) 1), .int ((upd fM 5 f_6) 2), .int ((upd fM 5 f_6) 3), .int ((upd fM 5 f_6) 4), .int ((upd fM 5 f_6) 5), .int ((upd fM 5 f_6) 6), .int ((upd fM 5 f_6) 7)])), (o_Mo, .inl (tC 0, 32, .inl z_mo)), (o_A, .inr (0, [.ref o_Ao, .int (fA 1)])), (o_Ao, .inl (tC 0, 44, .inl ao))]) [0, 1, 2, 3] rfl
            have hD9 := hD.sub (ws' := [(o_M, .inr (1, [.ref o_Mo, .int ((upd fM 5 f_6) 1), .int ((upd fM 5 f_6) 2), .int ((upd fM 5 f_6) 3), .int ((upd fM 5 f_6) 4), .int ((upd fM 5 f_6) 5), .int ((upd fM 5 f_6) 6), .int ((upd fM 5 f_6) 7)])), (o_Mo, .inl (tC 0, 32, .inl z_mo)), (o_A, .inr (0, [.ref o_Ao, .int (fA 1)])), (o_Ao, .inl (tC 0, 44, .inl ao))]) [0, 1, 2, 3] (by decide) rfl
            rw [← hQ]
            exact W.vret hx hb hr (fun t ht hW => ⟨⟨((upd fM 5 f_6), z_mo), rfl, (by subst er_1 ex_2 er_3 er_5 ef_6 er_7 er_9; rw [← hL]; rw [LX1_put_9]; rw [if_pos c_4]; rw [if_neg c_8]; rw [if_pos c_10]; try rfl), by rw [ht]; exact hP9, va_K.moved hW.alike hK, hD9⟩, hS.F ht⟩) hS.2.2 dX1_put_86
          · skip
            have c_10 : ¬ (r_9 = 0) := c_10
            refine lv_aload_n hx hb dX1_put_78 rfl (lv_at hl 2 rfl) ?_
            refine lv_aload_n hx hb dX1_put_79 rfl (lv_at hl 3 rfl) ?_
            have hPc := hP.sub (ws' := [(o_A, .inr (0, [.ref o_Ao, .int (fA 1)])), (o_Ao, .inl (tC 0, 44, .inl ao))]) [2, 3] rfl
            have hDc := hD.sub (ws' := [(o_A, .inr (0, [.ref o_Ao, .int (fA 1)])), (o_Ao, .inl (tC 0, 44, .inl ao))]) [2, 3] (by decide) rfl
            have hFc := va_free (wc := [(o_A, .inr (0, [.ref o_Ao, .int (fA 1)])), (o_Ao, .inl (tC 0, 44, .inl ao))]) hD hS hA [2, 3] rfl
            refine va_calli (va_runV (As := []) (rest := [.ref o_M]) ⟨hx, hb, hml, hown, hts⟩ (c_X0_reach l dC dI tC o_A o_Ao H.size fA ao) (cwV 0 hts (gV wd_394 wd_345 wd_346 wd_2 wd_347) rfl rfl rfl dsc_X0_reach ⟨Nat.le_of_ble_eq_true rfl, Nat.le_of_ble_eq_true rfl⟩) ⟨fun a U g mk q => by obtain ⟨q0, q1, qP, qK, qN, qD⟩ := q; exact ⟨q0, q1, qP, va_K.moved (u := U) (U := U.calling g mk a) (Vm.Alike.refl U.vm) qK, NW.same (u := U) (U := U.calling g mk a) rfl qN, qD⟩, va_recv hK hPc (ci := 0) (q0 := 0) rfl rfl, fun U hU hW => ⟨rfl, by rw [hU], by rw [hU]; exact hPc, va_K.moved hW.alike hK, NW.warm hW hN, hDc.weaken (fun _ _ _ _ => trivial)⟩⟩ rfl rfl hl.1 rfl (lv_room (Nat.le_of_ble_eq_true rfl)) dX1_put_80 ⟨Nat.le_of_ble_eq_true rfl, Nat.le_of_ble_eq_true rfl⟩) hS (fun q _ h => hFc q h) hFc (fun r_11 u t H1 locs ht hvm hw hB hz1 hk1 hS => ?_)
            obtain ⟨hP1, hK1, hD1⟩ := hB
            rw [ht] at hP1
            obtain ⟨hP, hD⟩ := va_join (wr := [(o_M, .inr (1, [.ref o_Mo, .int (fM 1), .int (fM 2), .int (fM 3), .int (fM 4), .int f_6, .int (fM 6), .int (fM 7)])), (o_Mo, .inl (tC 0, 32, .inl z_mo))]) (w1 := [(o_A, .inr (0, [.ref o_Ao, .int (fA 1)])), (o_Ao, .inl (tC 0, 44, .inl ao))]) hP hD [2, 3] [0, 1] rfl rfl (by decide) (by decide) hk1 hFc hP1 hD1
            generalize H1 = H at hP hS ⊢
            have hP : va_P (dC, dI) vwCl [(o_M, .inr (1, [.ref o_Mo, .int (fM 1), .int (fM 2), .int (fM 3), .int (fM 4), .int f_6, .int (fM 6), .int (fM 7)])), (o_Mo, .inl (tC 0, 32, .inl z_mo)), (o_A, .inr (0, [.ref o_Ao, .int (fA 1)])), (o_Ao, .inl (tC 0, 44, .inl ao))] H := hP
            have hD : va_D A [(o_M, .inr (1, [.ref o_Mo, .int (fM 1), .int (fM 2), .int (fM 3), .int (fM 4), .int f_6, .int (fM 6), .int (fM 7)])), (o_Mo, .inl (tC 0, 32, .inl z_mo)), (o_A, .inr (0, [.ref o_Ao, .int (fA 1)])), (o_Ao, .inl (tC 0, 44, .inl ao))] := hD
            have er_11 : r_11 = (FX0_reach fA ao) := hw
            refine va_put (D := (dC, dI)) (ci := 1) (v := .int r_11) (ty := .int) (C := RX1) (T := TX1) (N := 8) hx hb hts (fun w h => List.mem_cons_of_mem _ (uwX1 w h)) tyX1 tyX1_ok nmX1 hown hK hP hD hS 0 rfl rfl 6 (by decide) (hts _ (List.mem_cons_of_mem _ wd_62)) (fun _ h9 => h9) rfl (by decide +kernel) rfl rfl (Nat.le_of_ble_eq_true rfl) dX1_put_83 (fun H locs hP hD hS => ?_)
            have hP : va_P (dC, dI) vwCl [(o_M, .inr (1, [.ref o_Mo, .int (fM 1), .int (fM 2), .int (fM 3), .int (fM 4), .int f_6, .int r_11, .int (fM 7)])), (o_Mo, .inl (tC 0, 32, .inl z_mo)), (o_A, .inr (0, [.ref o_Ao, .int (fA 1)])), (o_Ao, .inl (tC 0, 44, .inl ao))] H := hP
            have hD : va_D A [(o_M, .inr (1, [.ref o_Mo, .int (fM 1), .int (fM 2), .int (fM 3), .int (fM 4), .int f_6, .int r_11, .int (fM 7)])), (o_Mo, .inl (tC 0, 32, .inl z_mo)), (o_A, .inr (0, [.ref o_Ao, .int (fA 1)])), (o_Ao, .inl (tC 0, 44, .inl ao))] := hD
            have hP9 := hP.sub (ws' := [(o_M, .inr (1, [.ref o_Mo, .int ((upd (upd fM 5 f_6) 6 r_11) 1), .int ((upd (upd fM 5 f_6) 6 r_11) 2), .int ((upd (upd fM 5 f_6) 6 r_11) 3), .int ((upd (upd fM 5 f_6) 6 r_11) 4), .int ((upd (upd fM 5 f_6) 6 r_11) 5), .int ((upd (upd fM 5 f_6) 6 r_11) 6), .int ((upd (upd fM 5 f_6) 6 r_11) 7)])), (o_Mo, .inl (tC 0, 32, .inl z_mo)), (o_A, .inr (0, [.ref o_Ao, .int (fA 1)])), (o_Ao, .inl (tC 0, 44, .inl ao))]) [0, 1, 2, 3] rfl
            have hD9 := hD.sub (ws' := [(o_M, .inr (1, [.ref o_Mo, .int ((upd (upd fM 5 f_6) 6 r_11) 1), .int ((upd (upd fM 5 f_6) 6 r_11) 2), .int ((upd (upd fM 5 f_6) 6 r_11) 3), .int ((upd (upd fM 5 f_6) 6 r_11) 4), .int ((upd (upd fM 5 f_6) 6 r_11) 5), .int ((upd (upd fM 5 f_6) 6 r_11) 6), .int ((upd (upd fM 5 f_6) 6 r_11) 7)])), (o_Mo, .inl (tC 0, 32, .inl z_mo)), (o_A, .inr (0, [.ref o_Ao, .int (fA 1)])), (o_Ao, .inl (tC 0, 44, .inl ao))]) [0, 1, 2, 3] (by decide) rfl
            rw [← hQ]
            exact W.vret hx hb hr (fun t ht hW => ⟨⟨((upd (upd fM 5 f_6) 6 r_11), z_mo), rfl, (by subst er_1 ex_2 er_3 er_5 ef_6 er_7 er_9 er_11; rw [← hL]; rw [LX1_put_9]; rw [if_pos c_4]; rw [if_neg c_8]; rw [if_neg c_10]; try rfl), by rw [ht]; exact hP9, va_K.moved hW.alike hK, hD9⟩, hS.F ht⟩) hS.2.2 dX1_put_86
        · skip
          have c_8 : r_7 = 0 := c_8
          have tc_8 : r_7.toInt = (0 : Int) := congrArg Int32.toInt c_8
          refine lv_aload_n hx hb dX1_put_60 rfl (lv_at hl 2 rfl) ?_
          refine lv_aload_n hx hb dX1_put_61 rfl (lv_at hl 3 rfl) ?_
          refine va_get (D := (dC, dI)) (ci := 0) (v := .ref o_Ao) (C := RX0) (T := TX0) (N := 2) hx hb hts (fun w h => List.mem_cons_of_mem _ (uwX0 w h)) hown hK hP 2 rfl rfl 0 (by decide) (hts _ (List.mem_cons_of_mem _ wd_30)) (fun _ h9 => h9) rfl dX1_put_62 ?_
          refine lv_bipush (v := 7) hx hb dX1_put_65 (by decide) ?_
          refine va_iald hx hb hK hP 3 0 rfl rfl (vi_c (by decide +kernel)) dX1_put_67 ?_
          refine lv_topi (fun f_12 (ef_12 : f_12 = (ao 7)) => ?_)
          refine va_put (D := (dC, dI)) (ci := 1) (v := .int f_12) (ty := .int) (C := RX1) (T := TX1) (N := 8) hx hb hts (fun w h => List.mem_cons_of_mem _ (uwX1 w h)) tyX1 tyX1_ok nmX1 hown hK hP hD hS 0 rfl rfl 4 (by decide) (hts _ (List.mem_cons_of_mem _ wd_59)) (fun _ h9 => h9) rfl (by decide +kernel) rfl rfl (Nat.le_of_ble_eq_true rfl) dX1_put_68 (fun H locs hP hD hS => ?_)
          have hP : va_P (dC, dI) vwCl [(o_M, .inr (1, [.ref o_Mo, .int (fM 1), .int (fM 2), .int (fM 3), .int f_12, .int f_6, .int (fM 6), .int (fM 7)])), (o_Mo, .inl (tC 0, 32, .inl z_mo)), (o_A, .inr (0, [.ref o_Ao, .int (fA 1)])), (o_Ao, .inl (tC 0, 44, .inl ao))] H := hP
          have hD : va_D A [(o_M, .inr (1, [.ref o_Mo, .int (fM 1), .int (fM 2), .int (fM 3), .int f_12, .int f_6, .int (fM 6), .int (fM 7)])), (o_Mo, .inl (tC 0, 32, .inl z_mo)), (o_A, .inr (0, [.ref o_Ao, .int (fA 1)])), (o_Ao, .inl (tC 0, 44, .inl ao))] := hD
          refine lv_aload_n hx hb dX1_put_71 rfl (lv_at hl 3 rfl) ?_
          have hPc := hP.sub (ws' := [(o_A, .inr (0, [.ref o_Ao, .int (fA 1)])), (o_Ao, .inl (tC 0, 44, .inl ao))]) [2, 3] rfl
          have hDc := hD.sub (ws' := [(o_A, .inr (0, [.ref o_Ao, .int (fA 1)])), (o_Ao, .inl (tC 0, 44, .inl ao))]) [2, 3] (by decide) rfl
          have hFc := va_free (wc := [(o_A, .inr (0, [.ref o_Ao, .int (fA 1)])), (o_Ao, .inl (tC 0, 44, .inl ao))]) hD hS hA [2, 3] rfl
          refine va_calli (va_runV (As := []) (rest := []) ⟨hx, hb, hml, hown, hts⟩ (c_X0_isEnd l dC dI tC o_A o_Ao H.size fA ao) (cwV 0 hts (gV wd_402 wd_353 wd_354 wd_2 wd_355) rfl rfl rfl dsc_X0_isEnd ⟨Nat.le_of_ble_eq_true rfl, Nat.le_of_ble_eq_true rfl⟩) ⟨fun a U g mk q => by obtain ⟨q0, q1, qP, qK, qN, qD⟩ := q; exact ⟨q0, q1, qP, va_K.moved (u := U) (U := U.calling g mk a) (Vm.Alike.refl U.vm) qK, NW.same (u := U) (U := U.calling g mk a) rfl qN, qD⟩, va_recv hK hPc (ci := 0) (q0 := 0) rfl rfl, fun U hU hW => ⟨rfl, by rw [hU], by rw [hU]; exact hPc, va_K.moved hW.alike hK, NW.warm hW hN, hDc.weaken (fun _ _ _ _ => trivial)⟩⟩ rfl rfl hl.1 rfl (lv_room (Nat.le_of_ble_eq_true rfl)) dX1_put_72 ⟨Nat.le_of_ble_eq_true rfl, Nat.le_of_ble_eq_true rfl⟩) hS (fun q _ h => hFc q h) hFc (fun r_13 u t H1 locs ht hvm hw hB hz1 hk1 hS => ?_)
          obtain ⟨hP1, hK1, hD1⟩ := hB
          rw [ht] at hP1
          obtain ⟨hP, hD⟩ := va_join (wr := [(o_M, .inr (1, [.ref o_Mo, .int (fM 1), .int (fM 2), .int (fM 3), .int f_12, .int f_6, .int (fM 6), .int (fM 7)])), (o_Mo, .inl (tC 0, 32, .inl z_mo))]) (w1 := [(o_A, .inr (0, [.ref o_Ao, .int (fA 1)])), (o_Ao, .inl (tC 0, 44, .inl ao))]) hP hD [2, 3] [0, 1] rfl rfl (by decide) (by decide) hk1 hFc hP1 hD1
          generalize H1 = H at hP hS ⊢
          have hP : va_P (dC, dI) vwCl [(o_M, .inr (1, [.ref o_Mo, .int (fM 1), .int (fM 2), .int (fM 3), .int f_12, .int f_6, .int (fM 6), .int (fM 7)])), (o_Mo, .inl (tC 0, 32, .inl z_mo)), (o_A, .inr (0, [.ref o_Ao, .int (fA 1)])), (o_Ao, .inl (tC 0, 44, .inl ao))] H := hP
          have hD : va_D A [(o_M, .inr (1, [.ref o_Mo, .int (fM 1), .int (fM 2), .int (fM 3), .int f_12, .int f_6, .int (fM 6), .int (fM 7)])), (o_Mo, .inl (tC 0, 32, .inl z_mo)), (o_A, .inr (0, [.ref o_Ao, .int (fA 1)])), (o_Ao, .inl (tC 0, 44, .inl ao))] := hD
          have er_13 : r_13 = (FX0_isEnd fA ao) := hw
          refine lv_if_eq (tgt := 86) hx hb dX1_put_75 (by decide) (fun c_14 => ?_) (fun c_14 => ?_)
          · skip
            have c_14 : r_13 = 0 := c_14
            have tc_14 : r_13.toInt = (0 : Int) := congrArg Int32.toInt c_14
            have hP9 := hP.sub (ws' := [(o_M, .inr (1, [.ref o_Mo, .int ((upd (upd fM 5 f_6) 4 f_12) 1), .int ((upd (upd fM 5 f_6) 4 f_12) 2), .int ((upd (upd fM 5 f_6) 4 f_12) 3), .int ((upd (upd fM 5 f_6) 4 f_12) 4), .int ((upd (upd fM 5 f_6) 4 f_12) 5), .int ((upd (upd fM 5 f_6) 4 f_12) 6), .int ((upd (upd fM 5 f_6) 4 f_12) 7)])), (o_Mo, .inl (tC 0, 32, .inl z_mo)), (o_A, .inr (0, [.ref o_Ao, .int (fA 1)])), (o_Ao, .inl (tC 0, 44, .inl ao))]) [0, 1, 2, 3] rfl
            have hD9 := hD.sub (ws' := [(o_M, .inr (1, [.ref o_Mo, .int ((upd (upd fM 5 f_6) 4 f_12) 1), .int ((upd (upd fM 5 f_6) 4 f_12) 2), .int ((upd (upd fM 5 f_6) 4 f_12) 3), .int ((upd (upd fM 5 f_6) 4 f_12) 4), .int ((upd (upd fM 5 f_6) 4 f_12) 5), .int ((upd (upd fM 5 f_6) 4 f_12) 6), .int ((upd (upd fM 5 f_6) 4 f_12) 7)])), (o_Mo, .inl (tC 0, 32, .inl z_mo)), (o_A, .inr (0, [.ref o_Ao, .int (fA 1)])), (o_Ao, .inl (tC 0, 44, .inl ao))]) [0, 1, 2, 3] (by decide) rfl
            rw [← hQ]
            exact W.vret hx hb hr (fun t ht hW => ⟨⟨((upd (upd fM 5 f_6) 4 f_12), z_mo), rfl, (by subst er_1 ex_2 er_3 er_5 ef_6 er_7 ef_12 er_13; rw [← hL]; rw [LX1_put_9]; rw [if_pos c_4]; rw [if_pos c_8]; rw [if_pos c_14]; try rfl), by rw [ht]; exact hP9, va_K.moved hW.alike hK, hD9⟩, hS.F ht⟩) hS.2.2 dX1_put_86
          · skip
            have c_14 : ¬ (r_13 = 0) := c_14
            refine lv_aload_n hx hb dX1_put_78 rfl (lv_at hl 2 rfl) ?_
            refine lv_aload_n hx hb dX1_put_79 rfl (lv_at hl 3 rfl) ?_
            have hPc := hP.sub (ws' := [(o_A, .inr (0, [.ref o_Ao, .int (fA 1)])), (o_Ao, .inl (tC 0, 44, .inl ao))]) [2, 3] rfl
            have hDc := hD.sub (ws' := [(o_A, .inr (0, [.ref o_Ao, .int (fA 1)])), (o_Ao, .inl (tC 0, 44, .inl ao))]) [2, 3] (by decide) rfl
            have hFc := va_free (wc := [(o_A, .inr (0, [.ref o_Ao, .int (fA 1)])), (o_Ao, .inl (tC 0, 44, .inl ao))]) hD hS hA [2, 3] rfl
            refine va_calli (va_runV (As := []) (rest := [.ref o_M]) ⟨hx, hb, hml, hown, hts⟩ (c_X0_reach l dC dI tC o_A o_Ao H.size fA ao) (cwV 0 hts (gV wd_394 wd_345 wd_346 wd_2 wd_347) rfl rfl rfl dsc_X0_reach ⟨Nat.le_of_ble_eq_true rfl, Nat.le_of_ble_eq_true rfl⟩) ⟨fun a U g mk q => by obtain ⟨q0, q1, qP, qK, qN, qD⟩ := q; exact ⟨q0, q1, qP, va_K.moved (u := U) (U := U.calling g mk a) (Vm.Alike.refl U.vm) qK, NW.same (u := U) (U := U.calling g mk a) rfl qN, qD⟩, va_recv hK hPc (ci := 0) (q0 := 0) rfl rfl, fun U hU hW => ⟨rfl, by rw [hU], by rw [hU]; exact hPc, va_K.moved hW.alike hK, NW.warm hW hN, hDc.weaken (fun _ _ _ _ => trivial)⟩⟩ rfl rfl hl.1 rfl (lv_room (Nat.le_of_ble_eq_true rfl)) dX1_put_80 ⟨Nat.le_of_ble_eq_true rfl, Nat.le_of_ble_eq_true rfl⟩) hS (fun q _ h => hFc q h) hFc (fun r_15 u t H1 locs ht hvm hw hB hz1 hk1 hS => ?_)
            obtain ⟨hP1, hK1, hD1⟩ := hB
            rw [ht] at hP1
            obtain ⟨hP, hD⟩ := va_join (wr := [(o_M, .inr (1, [.ref o_Mo, .int (fM 1), .int (fM 2), .int (fM 3), .int f_12, .int f_6, .int (fM 6), .int (fM 7)])), (o_Mo, .inl (tC 0, 32, .inl z_mo))]) (w1 := [(o_A, .inr (0, [.ref o_Ao, .int (fA 1)])), (o_Ao, .inl (tC 0, 44, .inl ao))]) hP hD [2, 3] [0, 1] rfl rfl (by decide) (by decide) hk1 hFc hP1 hD1
            generalize H1 = H at hP hS ⊢
            have hP : va_P (dC, dI) vwCl [(o_M, .inr (1, [.ref o_Mo, .int (fM 1), .int (fM 2), .int (fM 3), .int f_12, .int f_6, .int (fM 6), .int (fM 7)])), (o_Mo, .inl (tC 0, 32, .inl z_mo)), (o_A, .inr (0, [.ref o_Ao, .int (fA 1)])), (o_Ao, .inl (tC 0, 44, .inl ao))] H := hP
            have hD : va_D A [(o_M, .inr (1, [.ref o_Mo, .int (fM 1), .int (fM 2), .int (fM 3), .int f_12, .int f_6, .int (fM 6), .int (fM 7)])), (o_Mo, .inl (tC 0, 32, .inl z_mo)), (o_A, .inr (0, [.ref o_Ao, .int (fA 1)])), (o_Ao, .inl (tC 0, 44, .inl ao))] := hD
            have er_15 : r_15 = (FX0_reach fA ao) := hw
            refine va_put (D := (dC, dI)) (ci := 1) (v := .int r_15) (ty := .int) (C := RX1) (T := TX1) (N := 8) hx hb hts (fun w h => List.mem_cons_of_mem _ (uwX1 w h)) tyX1 tyX1_ok nmX1 hown hK hP hD hS 0 rfl rfl 6 (by decide) (hts _ (List.mem_cons_of_mem _ wd_62)) (fun _ h9 => h9) rfl (by decide +kernel) rfl rfl (Nat.le_of_ble_eq_true rfl) dX1_put_83 (fun H locs hP hD hS => ?_)
            have hP : va_P (dC, dI) vwCl [(o_M, .inr (1, [.ref o_Mo, .int (fM 1), .int (fM 2), .int (fM 3), .int f_12, .int f_6, .int r_15, .int (fM 7)])), (o_Mo, .inl (tC 0, 32, .inl z_mo)), (o_A, .inr (0, [.ref o_Ao, .int (fA 1)])), (o_Ao, .inl (tC 0, 44, .inl ao))] H := hP
            have hD : va_D A [(o_M, .inr (1, [.ref o_Mo, .int (fM 1), .int (fM 2), .int (fM 3), .int f_12, .int f_6, .int r_15, .int (fM 7)])), (o_Mo, .inl (tC 0, 32, .inl z_mo)), (o_A, .inr (0, [.ref o_Ao, .int (fA 1)])), (o_Ao, .inl (tC 0, 44, .inl ao))] := hD
            have hP9 := hP.sub (ws' := [(o_M, .inr (1, [.ref o_Mo, .int ((upd (upd (upd fM 5 f_6) 4 f_12) 6 r_15) 1), .int ((upd (upd (upd fM 5 f_6) 4 f_12) 6 r_15) 2), .int ((upd (upd (upd fM 5 f_6) 4 f_12) 6 r_15) 3), .int ((upd (upd (upd fM 5 f_6) 4 f_12) 6 r_15) 4), .int ((upd (upd (upd fM 5 f_6) 4 f_12) 6 r_15) 5), .int ((upd (upd (upd fM 5 f_6) 4 f_12) 6 r_15) 6), .int ((upd (upd (upd fM 5 f_6) 4 f_12) 6 r_15) 7)])), (o_Mo, .inl (tC 0, 32, .inl z_mo)), (o_A, .inr (0, [.ref o_Ao, .int (fA 1)])), (o_Ao, .inl (tC 0, 44, .inl ao))]) [0, 1, 2, 3] rfl
            have hD9 := hD.sub (ws' := [(o_M, .inr (1, [.ref o_Mo, .int ((upd (upd (upd fM 5 f_6) 4 f_12) 6 r_15) 1), .int ((upd (upd (upd fM 5 f_6) 4 f_12) 6 r_15) 2), .int ((upd (upd (upd fM 5 f_6) 4 f_12) 6 r_15) 3), .int ((upd (upd (upd fM 5 f_6) 4 f_12) 6 r_15) 4), .int ((upd (upd (upd fM 5 f_6) 4 f_12) 6 r_15) 5), .int ((upd (upd (upd fM 5 f_6) 4 f_12) 6 r_15) 6), .int ((upd (upd (upd fM 5 f_6) 4 f_12) 6 r_15) 7)])), (o_Mo, .inl (tC 0, 32, .inl z_mo)), (o_A, .inr (0, [.ref o_Ao, .int (fA 1)])), (o_Ao, .inl (tC 0, 44, .inl ao))]) [0, 1, 2, 3] (by decide) rfl
            rw [← hQ]
            exact W.vret hx hb hr (fun t ht hW => ⟨⟨((upd (upd (upd fM 5 f_6) 4 f_12) 6 r_15), z_mo), rfl, (by subst er_1 ex_2 er_3 er_5 ef_6 er_7 ef_12 er_13 er_15; rw [← hL]; rw [LX1_put_9]; rw [if_pos c_4]; rw [if_pos c_8]; rw [if_neg c_14]; try rfl), by rw [ht]; exact hP9, va_K.moved hW.alike hK, hD9⟩, hS.F ht⟩) hS.2.2 dX1_put_86
      · skip
        have c_4 : ¬ (r_3 ≤ y3) := c_4
        have tc_4 : ¬ r_3.toInt ≤ y3.toInt := fun q => c_4 (Int32.le_iff_toInt_le.mpr q)
        refine lv_aload_n hx hb dX1_put_17 rfl (lv_at hl 2 rfl) ?_
        refine va_get (D := (dC, dI)) (ci := 1) (v := .ref o_Mo) (C := RX1) (T := TX1) (N := 8) hx hb hts (fun w h => List.mem_cons_of_mem _ (uwX1 w h)) hown hK hP 0 rfl rfl 0 (by decide) (hts _ (List.mem_cons_of_mem _ wd_52)) (fun _ h9 => h9) rfl dX1_put_18 ?_
        refine lv_iload_n hx hb dX1_put_21 rfl (lv_at hl 1 rfl) ?_
        refine lv_iload_n hx hb dX1_put_22 rfl (lv_at hl 0 rfl) ?_
        refine lv_iadd hx hb dX1_put_23 ?_
        refine lv_aload_n hx hb dX1_put_24 rfl (lv_at hl 3 rfl) ?_
        refine va_get (D := (dC, dI)) (ci := 0) (v := .ref o_Ao) (C := RX0) (T := TX0) (N := 2) hx hb hts (fun w h => List.mem_cons_of_mem _ (uwX0 w h)) hown hK hP 3 rfl rfl 0 (by decide) (hts _ (List.mem_cons_of_mem _ wd_30)) (fun _ h9 => h9) rfl dX1_put_25 ?_
        refine lv_bipush (v := 9) hx hb dX1_put_28 (by decide) ?_
        refine lv_iload_n hx hb dX1_put_30 rfl (lv_at hl 0 rfl) ?_
        refine lv_iadd hx hb dX1_put_31 ?_
        refine va_iald hx hb hK hP 2 0 rfl rfl (vi_addl 9 rfl (by omega) (by omega) (by omega)) dX1_put_32 ?_
        refine lv_topi (fun v_16 (ev_16 : v_16 = (ao ((9 : Int32) + y3).toNatClampNeg)) => ?_)
        refine va_iast hx hb hK hP hD hS 1 0 rfl rfl (vi_add (by omega) (by omega) (by omega)) dX1_put_33 (fun H locs hP hD hS => ?_)
        have hP : va_P (dC, dI) vwCl [(o_M, .inr (1, [.ref o_Mo, .int (fM 1), .int (fM 2), .int (fM 3), .int (fM 4), .int (fM 5), .int (fM 6), .int (fM 7)])), (o_Mo, .inl (tC 0, 32, .inl (upd z_mo (x_2 + y3).toNatClampNeg v_16))), (o_Ao, .inl (tC 0, 44, .inl ao)), (o_A, .inr (0, [.ref o_Ao, .int (fA 1)]))] H := hP
        have hD : va_D A [(o_M, .inr (1, [.ref o_Mo, .int (fM 1), .int (fM 2), .int (fM 3), .int (fM 4), .int (fM 5), .int (fM 6), .int (fM 7)])), (o_Mo, .inl (tC 0, 32, .inl (upd z_mo (x_2 + y3).toNatClampNeg v_16))), (o_Ao, .inl (tC 0, 44, .inl ao)), (o_A, .inr (0, [.ref o_Ao, .int (fA 1)]))] := hD
        obtain ⟨x_17, ex_17⟩ : ∃ y : Int32, y = (y3 + 1) := ⟨_, rfl⟩
        refine lv_iinc (v := x_17) (lv' := [(3, .int x_17), (2, .int x_2), (0, .ref o_M), (1, .ref o_A)]) hx hb dX1_put_34 hl (k := 0) rfl (by rw [ex_17]; rfl) (by decide) rfl (fun ls hl => ?_)
        have tx_17 : x_17.toInt = y3.toInt + 1 := by rw [ex_17]; exact tI_ac 1 rfl (by omega) (by omega)
        refine lv_goto (tgt := 9) hx hb dX1_put_37 (by decide) ?_
        exact ih x_17 (upd z_mo (x_2 + y3).toNatClampNeg v_16) _ _ ls (by omega) (by omega) (by subst er_3 ev_16 ex_17; rw [LX1_put_9] at hL; rw [if_neg c_4] at hL; exact hL) (hP.sub [0, 1, 3, 2] rfl) (hD.sub [0, 1, 3, 2] (by decide) rfl) hS (lv_sub hl [0, 1, 2, 3] rfl)
  exact loop 128 0 mo _ _ ls (by decide) (by have q0 : (0 : Int32).toInt = 0 := rfl; omega) (by subst er_1 ex_2; rw [FX1_put]; try rfl) hP hD hS hl
set_option maxHeartbeats 4000000 in
set_option maxRecDepth 100000 in
theorem c_X1_isComplete (l : Launch) (dC : Nat → ClassId) (dI : Nat → Nat → Nat) (tC : Nat → ClassId) (o_M o_Mo : Nat) (sz : Nat) (fM : (Nat → Int32)) : Met l yX1_isComplete wsX1_isComplete ({ frames := 1, cells := 0, slots := 0, locals := 21 }) (va_Pc [.ref o_M] (fun U => U.heap.size = sz ∧ va_P (dC, dI) vwCl [(o_M, .inr (1, [.ref o_Mo, .int (fM 1), .int (fM 2), .int (fM 3), .int (fM 4), .int (fM 5), .int (fM 6), .int (fM 7)]))] U.heap ∧ va_K (dC, dI) vwCl (TY tC) U ∧ NW U ∧ va_D (fun _ => True) [(o_M, .inr (1, [.ref o_Mo, .int (fM 1), .int (fM 2), .int (fM 3), .int (fM 4), .int (fM 5), .int (fM 6), .int (fM 7)]))])) (va_Qi (fun (r : Int32) (u : Unit) => r = FX1_isComplete fM) (fun (u : Unit) (t : State) => va_P (dC, dI) vwCl [(o_M, .inr (1, [.ref o_Mo, .int (fM 1), .int (fM 2), .int (fM 3), .int (fM 4), .int (fM 5), .int (fM 6), .int (fM 7)]))] t.heap ∧ va_K (dC, dI) vwCl (TY tC) t ∧ va_D (va_A [(o_M, .inr (1, [.ref o_Mo, .int (fM 1), .int (fM 2), .int (fM 3), .int (fM 4), .int (fM 5), .int (fM 6), .int (fM 7)]))] sz) [(o_M, .inr (1, [.ref o_Mo, .int (fM 1), .int (fM 2), .int (fM 3), .int (fM 4), .int (fM 5), .int (fM 6), .int (fM 7)]))]) (va_A [(o_M, .inr (1, [.ref o_Mo, .int (fM 1), .int (fM 2), .int (fM 3), .int (fM 4), .int (fM 5), .int (fM 6), .int (fM 7)]))] sz)) 0 0 (va_A [(o_M, .inr (1, [.ref o_Mo, .int (fM 1), .int (fM 2), .int (fM 3), .int (fM 4), .int (fM 5), .int (fM 6), .int (fM 7)]))] sz) := by
  refine Met.ofW (cc := cX1_isComplete) (maxL := 1) (ret := (some .boolean)) (by decide) rfl ?_
  intro p e s m args below meth c s₁ B hml hv
  obtain ⟨rfl, hsz, hP, hK, hN, hD0⟩ := hv
  have hx := B.exec
  have hb := B.bytes
  have hr := B.returns
  have hts := atoms_spec (ws := wsX1_isComplete) B.pre
  have hown : s.vm.findClass RX1 = some m.cls := findClass_of_methodNamed B.named
  have hlocks := B.notSynchronized
  subst hsz
  have hD := hD0.self (sz := s.heap.size)
  generalize hAe : va_A [(o_M, .inr (1, [.ref o_Mo, .int (fM 1), .int (fM 2), .int (fM 3), .int (fM 4), .int (fM 5), .int (fM 6), .int (fM 7)]))] s.heap.size = A at hD ⊢
  have hA : ∀ q : Nat, s.heap.size ≤ q → A q := fun q h => by rw [← hAe]; exact Or.inr h
  have hS : va_S A s.heap s.heap [] := va_S.rf
  have hP : va_P (dC, dI) vwCl [(o_M, .inr (1, [.ref o_Mo, .int (fM 1), .int (fM 2), .int (fM 3), .int (fM 4), .int (fM 5), .int (fM 6), .int (fM 7)]))] s.heap := hP
  have hl := lv_entry ([.ref o_M]) (n := 1) (Nat.le_of_ble_eq_true rfl)
  rw [lg_entry_eq]
  generalize (lg_sl ([.ref o_M]) ++ List.replicate (1 - (lg_sl ([.ref o_M])).length) Slot.unset).toArray = ls at hl ⊢
  have hl : lv_has ls 1 [(0, .ref o_M)] := hl
  refine lv_aload_n hx hb dX1_isComplete_0 rfl (lv_at hl 0 rfl) ?_
  refine va_get (D := (dC, dI)) (ci := 1) (v := .int (fM 6)) (C := RX1) (T := TX1) (N := 8) hx hb hts (fun w h => List.mem_cons_of_mem _ (uwX1 w h)) hown hK hP 0 rfl rfl 6 (by decide) (hts _ (List.mem_cons_of_mem _ wd_62)) (fun _ h9 => h9) rfl dX1_isComplete_1 ?_
  refine lv_if_lt (tgt := 25) hx hb dX1_isComplete_4 (by decide) (fun c_1 => ?_) (fun c_1 => ?_)
  · skip
    have c_1 : (fM 6) < 0 := c_1
    have tc_1 : (fM 6).toInt < (0 : Int) := Int32.lt_iff_toInt_lt.mp c_1
    refine lv_iconst (v := 0) hx hb dX1_isComplete_25 (by decide) ?_
    have hP9 := hP.sub (ws' := [(o_M, .inr (1, [.ref o_Mo, .int (fM 1), .int (fM 2), .int (fM 3), .int (fM 4), .int (fM 5), .int (fM 6), .int (fM 7)]))]) [0] rfl
    have hD9 := hD.sub (ws' := [(o_M, .inr (1, [.ref o_Mo, .int (fM 1), .int (fM 2), .int (fM 3), .int (fM 4), .int (fM 5), .int (fM 6), .int (fM 7)]))]) [0] (by decide) rfl
    exact W.zret (v := 0) hx hb hr rfl (fun t ht hW => ⟨⟨0, (), rfl, (by rw [FX1_isComplete]; rw [if_pos c_1]; try rfl), by rw [ht]; exact hP9, va_K.moved hW.alike hK, hD9⟩, hS.F ht⟩) hS.2.2 dX1_isComplete_26
  · skip
    have c_1 : ¬ ((fM 6) < 0) := c_1
    have tc_1 : ¬ (fM 6).toInt < (0 : Int) := fun q => c_1 (Int32.lt_iff_toInt_lt.mpr q)
    refine lv_aload_n hx hb dX1_isComplete_7 rfl (lv_at hl 0 rfl) ?_
    refine va_get (D := (dC, dI)) (ci := 1) (v := .int (fM 5)) (C := RX1) (T := TX1) (N := 8) hx hb hts (fun w h => List.mem_cons_of_mem _ (uwX1 w h)) hown hK hP 0 rfl rfl 5 (by decide) (hts _ (List.mem_cons_of_mem _ wd_61)) (fun _ h9 => h9) rfl dX1_isComplete_8 ?_
    refine lv_aload_n hx hb dX1_isComplete_11 rfl (lv_at hl 0 rfl) ?_
    refine va_get (D := (dC, dI)) (ci := 1) (v := .int (fM 6)) (C := RX1) (T := TX1) (N := 8) hx hb hts (fun w h => List.mem_cons_of_mem _ (uwX1 w h)) hown hK hP 0 rfl rfl 6 (by decide) (hts _ (List.mem_cons_of_mem _ wd_62)) (fun _ h9 => h9) rfl dX1_isComplete_12 ?_
    have hPc := hP.sub (ws' := []) [] rfl
    have hDc := hD.sub (ws' := []) [] (by decide) rfl
    have hFc := va_free (wc := []) hD hS hA [] rfl
    refine va_calli (va_runSN (As := [.int (fM 6)]) (rest := [.int (fM 5)]) ⟨hx, hb, hml, hown, hts⟩ (c_X9_unitsUpTo l dC dI tC s.heap.size (fM 6)) ⟨va_cnB 1 hts (gB wd_401) rfl rfl rfl hN.2.1 (hts _ (List.mem_cons_of_mem _ wd_1)) dsc_X9_unitsUpTo.2 ⟨Nat.le_of_ble_eq_true rfl, Nat.le_of_ble_eq_true rfl⟩, hts _ (List.mem_cons_of_mem _ wd_400), trivial⟩ ⟨fun a U g mk q => by obtain ⟨q0, q1, qP, qK, qN, qD⟩ := q; exact ⟨q0, q1, qP, va_K.moved (u := U) (U := U.calling g mk a) (Vm.Alike.refl U.vm) qK, NW.same (u := U) (U := U.calling g mk a) rfl qN, qD⟩, fun U hU hW => ⟨rfl, by rw [hU], by rw [hU]; exact hPc, va_K.moved hW.alike hK, NW.warm hW hN, hDc.weaken (fun _ _ _ _ => trivial)⟩⟩ rfl rfl hl.1 rfl (lv_room (Nat.le_of_ble_eq_true rfl)) dX1_isComplete_15 ⟨Nat.le_of_ble_eq_true rfl, Nat.le_of_ble_eq_true rfl⟩) hS (fun q _ h => hFc q h) hFc (fun r_2 u t H1 locs ht hvm hw hB hz1 hk1 hS => ?_)
    obtain ⟨hP1, hK1, hD1⟩ := hB
    rw [ht] at hP1
    obtain ⟨hP, hD⟩ := va_join (wr := [(o_M, .inr (1, [.ref o_Mo, .int (fM 1), .int (fM 2), .int (fM 3), .int (fM 4), .int (fM 5), .int (fM 6), .int (fM 7)]))]) (w1 := []) hP hD [] [0] rfl rfl (by decide) (by decide) hk1 hFc hP1 hD1
    generalize H1 = H at hP hS ⊢
    have hP : va_P (dC, dI) vwCl [(o_M, .inr (1, [.ref o_Mo, .int (fM 1), .int (fM 2), .int (fM 3), .int (fM 4), .int (fM 5), .int (fM 6), .int (fM 7)]))] H := hP
    have hD : va_D A [(o_M, .inr (1, [.ref o_Mo, .int (fM 1), .int (fM 2), .int (fM 3), .int (fM 4), .int (fM 5), .int (fM 6), .int (fM 7)]))] := hD
    have er_2 : r_2 = (FX9_unitsUpTo (fM 6)) := hw
    refine lv_icmp_ne (tgt := 25) hx hb dX1_isComplete_18 (by decide) (fun c_3 => ?_) (fun c_3 => ?_)
    · skip
      have c_3 : ¬ ((fM 5) = r_2) := c_3
      refine lv_iconst (v := 0) hx hb dX1_isComplete_25 (by decide) ?_
      have hP9 := hP.sub (ws' := [(o_M, .inr (1, [.ref o_Mo, .int (fM 1), .int (fM 2), .int (fM 3), .int (fM 4), .int (fM 5), .int (fM 6), .int (fM 7)]))]) [0] rfl
      have hD9 := hD.sub (ws' := [(o_M, .inr (1, [.ref o_Mo, .int (fM 1), .int (fM 2), .int (fM 3), .int (fM 4), .int (fM 5), .int (fM 6), .int (fM 7)]))]) [0] (by decide) rfl
      exact W.zret (v := 0) hx hb hr rfl (fun t ht hW => ⟨⟨0, (), rfl, (by subst er_2; rw [FX1_isComplete]; rw [if_neg c_1]; rw [if_neg c_3]; try rfl), by rw [ht]; exact hP9, va_K.moved hW.alike hK, hD9⟩, hS.F ht⟩) hS.2.2 dX1_isComplete_26
    · skip
      have c_3 : (fM 5) = r_2 := c_3
      have tc_3 : (fM 5).toInt = r_2.toInt := congrArg Int32.toInt c_3
      refine lv_iconst (v := 1) hx hb dX1_isComplete_21 (by decide) ?_
      refine lv_goto (tgt := 26) hx hb dX1_isComplete_22 (by decide) ?_
      have hP9 := hP.sub (ws' := [(o_M, .inr (1, [.ref o_Mo, .int (fM 1), .int (fM 2), .int (fM 3), .int (fM 4), .int (fM 5), .int (fM 6), .int (fM 7)]))]) [0] rfl
      have hD9 := hD.sub (ws' := [(o_M, .inr (1, [.ref o_Mo, .int (fM 1), .int (fM 2), .int (fM 3), .int (fM 4), .int (fM 5), .int (fM 6), .int (fM 7)]))]) [0] (by decide) rfl
      exact W.zret (v := 1) hx hb hr rfl (fun t ht hW => ⟨⟨1, (), rfl, (by subst er_2; rw [FX1_isComplete]; rw [if_neg c_1]; rw [if_pos c_3]; try rfl), by rw [ht]; exact hP9, va_K.moved hW.alike hK, hD9⟩, hS.F ht⟩) hS.2.2 dX1_isComplete_26
set_option maxHeartbeats 4000000 in
set_option maxRecDepth 100000 in
theorem c_X1_tell (l : Launch) (dC : Nat → ClassId) (dI : Nat → Nat → Nat) (tC : Nat → ClassId) (o_M o_Mo : Nat) (sz : Nat) (fM : (Nat → Int32)) (i0 : Int32) : Met l yX1_tell wsX1_tell ({ frames := 0, cells := 0, slots := 0, locals := 0 }) (va_Pc [.ref o_M, .int i0] (fun U => U.heap.size = sz ∧ va_P (dC, dI) vwCl [(o_M, .inr (1, [.ref o_Mo, .int (fM 1), .int (fM 2), .int (fM 3), .int (fM 4), .int (fM 5), .int (fM 6), .int (fM 7)]))] U.heap ∧ va_K (dC, dI) vwCl (TY tC) U ∧ NW U ∧ va_D (fun _ => True) [(o_M, .inr (1, [.ref o_Mo, .int (fM 1), .int (fM 2), .int (fM 3), .int (fM 4), .int (fM 5), .int (fM 6), .int (fM 7)]))])) (va_Qi (fun (r : Int32) (u : Unit) => r = FX1_tell fM i0) (fun (u : Unit) (t : State) => va_P (dC, dI) vwCl [(o_M, .inr (1, [.ref o_Mo, .int (fM 1), .int (fM 2), .int (fM 3), .int (fM 4), .int (fM 5), .int (fM 6), .int (fM 7)]))] t.heap ∧ va_K (dC, dI) vwCl (TY tC) t ∧ va_D (va_A [(o_M, .inr (1, [.ref o_Mo, .int (fM 1), .int (fM 2), .int (fM 3), .int (fM 4), .int (fM 5), .int (fM 6), .int (fM 7)]))] sz) [(o_M, .inr (1, [.ref o_Mo, .int (fM 1), .int (fM 2), .int (fM 3), .int (fM 4), .int (fM 5), .int (fM 6), .int (fM 7)]))]) (va_A [(o_M, .inr (1, [.ref o_Mo, .int (fM 1), .int (fM 2), .int (fM 3), .int (fM 4), .int (fM 5), .int (fM 6), .int (fM 7)]))] sz)) 0 0 (va_A [(o_M, .inr (1, [.ref o_Mo, .int (fM 1), .int (fM 2), .int (fM 3), .int (fM 4), .int (fM 5), .int (fM 6), .int (fM 7)]))] sz) := by
  refine Met.ofW (cc := cX1_tell) (maxL := 3) (ret := (some .int)) (by decide) rfl ?_
  intro p e s m args below meth c s₁ B hml hv
  obtain ⟨rfl, hsz, hP, hK, hN, hD0⟩ := hv
  have hx := B.exec
  have hb := B.bytes
  have hr := B.returns
  have hts := atoms_spec (ws := wsX1_tell) B.pre
  have hown : s.vm.findClass RX1 = some m.cls := findClass_of_methodNamed B.named
  have hlocks := B.notSynchronized
  subst hsz
  have hD := hD0.self (sz := s.heap.size)
  generalize hAe : va_A [(o_M, .inr (1, [.ref o_Mo, .int (fM 1), .int (fM 2), .int (fM 3), .int (fM 4), .int (fM 5), .int (fM 6), .int (fM 7)]))] s.heap.size = A at hD ⊢
  have hA : ∀ q : Nat, s.heap.size ≤ q → A q := fun q h => by rw [← hAe]; exact Or.inr h
  have hS : va_S A s.heap s.heap [] := va_S.rf
  have hP : va_P (dC, dI) vwCl [(o_M, .inr (1, [.ref o_Mo, .int (fM 1), .int (fM 2), .int (fM 3), .int (fM 4), .int (fM 5), .int (fM 6), .int (fM 7)]))] s.heap := hP
  have hl := lv_entry ([.ref o_M, .int i0]) (n := 3) (Nat.le_of_ble_eq_true rfl)
  rw [lg_entry_eq]
  generalize (lg_sl ([.ref o_M, .int i0]) ++ List.replicate (3 - (lg_sl ([.ref o_M, .int i0])).length) Slot.unset).toArray = ls at hl ⊢
  have hl : lv_has ls 3 [(0, .ref o_M), (1, .int i0)] := hl
  refine lv_iload_n hx hb dX1_tell_0 rfl (lv_at hl 1 rfl) ?_
  by_cases c_1 : i0 = 0
  · refine lv_tableIn (tgt := 40) hx hb dX1_tell_1 (by rw [c_1]; decide) (by rw [c_1]; decide) (by rw [c_1]; rfl) (by decide) ?_
    refine lv_iconst (v := 1) hx hb dX1_tell_40 (by decide) ?_
    refine lv_istore_n (lv' := [(2, .int 1), (0, .ref o_M), (1, .int i0)]) hx hb dX1_tell_41 rfl hl (by decide) rfl (fun ls hl => ?_)
    refine lv_goto (tgt := 87) hx hb dX1_tell_42 (by decide) ?_
    refine lv_aload_n hx hb dX1_tell_87 rfl (lv_at hl 1 rfl) ?_
    refine va_get (D := (dC, dI)) (ci := 1) (v := .int (fM 1)) (C := RX1) (T := TX1) (N := 8) hx hb hts (fun w h => List.mem_cons_of_mem _ (uwX1 w h)) hown hK hP 0 rfl rfl 1 (by decide) (hts _ (List.mem_cons_of_mem _ wd_54)) (fun _ h9 => h9) rfl dX1_tell_88 ?_
    refine lv_if_eq (tgt := 98) hx hb dX1_tell_91 (by decide) (fun c_2 => ?_) (fun c_2 => ?_)
    · skip
      have c_2 : (fM 1) = 0 := c_2
      have tc_2 : (fM 1).toInt = (0 : Int) := congrArg Int32.toInt c_2
      refine lv_iconst (v := 0) hx hb dX1_tell_98 (by decide) ?_
      have hP9 := hP.sub (ws' := [(o_M, .inr (1, [.ref o_Mo, .int (fM 1), .int (fM 2), .int (fM 3), .int (fM 4), .int (fM 5), .int (fM 6), .int (fM 7)]))]) [0] rfl
      have hD9 := hD.sub (ws' := [(o_M, .inr (1, [.ref o_Mo, .int (fM 1), .int (fM 2), .int (fM 3), .int (fM 4), .int (fM 5), .int (fM 6), .int (fM 7)]))]) [0] (by decide) rfl
      exact W.iret (v := 0) hx hb hr (fun t ht hW => ⟨⟨0, (), rfl, (by rw [FX1_tell]; rw [if_pos c_1]; rw [if_pos c_2]; try rfl), by rw [ht]; exact hP9, va_K.moved hW.alike hK, hD9⟩, hS.F ht⟩) hS.2.2 dX1_tell_99
    · skip
      have c_2 : ¬ ((fM 1) = 0) := c_2
      refine lv_iload_n hx hb dX1_tell_94 rfl (lv_at hl 0 rfl) ?_
      refine lv_goto (tgt := 99) hx hb dX1_tell_95 (by decide) ?_
      have hP9 := hP.sub (ws' := [(o_M, .inr (1, [.ref o_Mo, .int (fM 1), .int (fM 2), .int (fM 3), .int (fM 4), .int (fM 5), .int (fM 6), .int (fM 7)]))]) [0] rfl
      have hD9 := hD.sub (ws' := [(o_M, .inr (1, [.ref o_Mo, .int (fM 1), .int (fM 2), .int (fM 3), .int (fM 4), .int (fM 5), .int (fM 6), .int (fM 7)]))]) [0] (by decide) rfl
      exact W.iret (v := 1) hx hb hr (fun t ht hW => ⟨⟨1, (), rfl, (by rw [FX1_tell]; rw [if_pos c_1]; rw [if_neg c_2]; try rfl), by rw [ht]; exact hP9, va_K.moved hW.alike hK, hD9⟩, hS.F ht⟩) hS.2.2 dX1_tell_99
  by_cases c_3 : i0 = 1
  · refine lv_tableIn (tgt := 45) hx hb dX1_tell_1 (by rw [c_3]; decide) (by rw [c_3]; decide) (by rw [c_3]; rfl) (by decide) ?_
    refine lv_aload_n hx hb dX1_tell_45 rfl (lv_at hl 0 rfl) ?_
    refine va_get (D := (dC, dI)) (ci := 1) (v := .int (fM 2)) (C := RX1) (T := TX1) (N := 8) hx hb hts (fun w h => List.mem_cons_of_mem _ (uwX1 w h)) hown hK hP 0 rfl rfl 2 (by decide) (hts _ (List.mem_cons_of_mem _ wd_56)) (fun _ h9 => h9) rfl dX1_tell_46 ?_
    refine lv_topi (fun x_4 (ex_4 : x_4 = (fM 2)) => ?_)
    refine lv_istore_n (lv' := [(2, .int x_4), (0, .ref o_M), (1, .int i0)]) hx hb dX1_tell_49 rfl hl (by decide) rfl (fun ls hl => ?_)
    refine lv_goto (tgt := 87) hx hb dX1_tell_50 (by decide) ?_
    refine lv_aload_n hx hb dX1_tell_87 rfl (lv_at hl 1 rfl) ?_
    refine va_get (D := (dC, dI)) (ci := 1) (v := .int (fM 1)) (C := RX1) (T := TX1) (N := 8) hx hb hts (fun w h => List.mem_cons_of_mem _ (uwX1 w h)) hown hK hP 0 rfl rfl 1 (by decide) (hts _ (List.mem_cons_of_mem _ wd_54)) (fun _ h9 => h9) rfl dX1_tell_88 ?_
    refine lv_if_eq (tgt := 98) hx hb dX1_tell_91 (by decide) (fun c_5 => ?_) (fun c_5 => ?_)
    · skip
      have c_5 : (fM 1) = 0 := c_5
      have tc_5 : (fM 1).toInt = (0 : Int) := congrArg Int32.toInt c_5
      refine lv_iconst (v := 0) hx hb dX1_tell_98 (by decide) ?_
      have hP9 := hP.sub (ws' := [(o_M, .inr (1, [.ref o_Mo, .int (fM 1), .int (fM 2), .int (fM 3), .int (fM 4), .int (fM 5), .int (fM 6), .int (fM 7)]))]) [0] rfl
      have hD9 := hD.sub (ws' := [(o_M, .inr (1, [.ref o_Mo, .int (fM 1), .int (fM 2), .int (fM 3), .int (fM 4), .int (fM 5), .int (fM 6), .int (fM 7)]))]) [0] (by decide) rfl
      exact W.iret (v := 0) hx hb hr (fun t ht hW => ⟨⟨0, (), rfl, (by subst ex_4; rw [FX1_tell]; rw [if_neg c_1]; rw [if_pos c_3]; rw [if_pos c_5]; try rfl), by rw [ht]; exact hP9, va_K.moved hW.alike hK, hD9⟩, hS.F ht⟩) hS.2.2 dX1_tell_99
    · skip
      have c_5 : ¬ ((fM 1) = 0) := c_5
      refine lv_iload_n hx hb dX1_tell_94 rfl (lv_at hl 0 rfl) ?_
      refine lv_goto (tgt := 99) hx hb dX1_tell_95 (by decide) ?_
      have hP9 := hP.sub (ws' := [(o_M, .inr (1, [.ref o_Mo, .int (fM 1), .int (fM 2), .int (fM 3), .int (fM 4), .int (fM 5), .int (fM 6), .int (fM 7)]))]) [0] rfl
      have hD9 := hD.sub (ws' := [(o_M, .inr (1, [.ref o_Mo, .int (fM 1), .int (fM 2), .int (fM 3), .int (fM 4), .int (fM 5), .int (fM 6), .int (fM 7)]))]) [0] (by decide) rfl
      exact W.iret (v := x_4) hx hb hr (fun t ht hW => ⟨⟨x_4, (), rfl, (by subst ex_4; rw [FX1_tell]; rw [if_neg c_1]; rw [if_pos c_3]; rw [if_neg c_5]; try rfl), by rw [ht]; exact hP9, va_K.moved hW.alike hK, hD9⟩, hS.F ht⟩) hS.2.2 dX1_tell_99
  by_cases c_6 : i0 = 2
  · refine lv_tableIn (tgt := 53) hx hb dX1_tell_1 (by rw [c_6]; decide) (by rw [c_6]; decide) (by rw [c_6]; rfl) (by decide) ?_
    refine lv_aload_n hx hb dX1_tell_53 rfl (lv_at hl 0 rfl) ?_
    refine va_get (D := (dC, dI)) (ci := 1) (v := .int (fM 3)) (C := RX1) (T := TX1) (N := 8) hx hb hts (fun w h => List.mem_cons_of_mem _ (uwX1 w h)) hown hK hP 0 rfl rfl 3 (by decide) (hts _ (List.mem_cons_of_mem _ wd_58)) (fun _ h9 => h9) rfl dX1_tell_54 ?_
    refine lv_topi (fun x_7 (ex_7 : x_7 = (fM 3)) => ?_)
    refine lv_istore_n (lv' := [(2, .int x_7), (0, .ref o_M), (1, .int i0)]) hx hb dX1_tell_57 rfl hl (by decide) rfl (fun ls hl => ?_)
    refine lv_goto (tgt := 87) hx hb dX1_tell_58 (by decide) ?_
    refine lv_aload_n hx hb dX1_tell_87 rfl (lv_at hl 1 rfl) ?_
    refine va_get (D := (dC, dI)) (ci := 1) (v := .int (fM 1)) (C := RX1) (T := TX1) (N := 8) hx hb hts (fun w h => List.mem_cons_of_mem _ (uwX1 w h)) hown hK hP 0 rfl rfl 1 (by decide) (hts _ (List.mem_cons_of_mem _ wd_54)) (fun _ h9 => h9) rfl dX1_tell_88 ?_
    refine lv_if_eq (tgt := 98) hx hb dX1_tell_91 (by decide) (fun c_8 => ?_) (fun c_8 => ?_)
    · skip
      have c_8 : (fM 1) = 0 := c_8
      have tc_8 : (fM 1).toInt = (0 : Int) := congrArg Int32.toInt c_8
      refine lv_iconst (v := 0) hx hb dX1_tell_98 (by decide) ?_
      have hP9 := hP.sub (ws' := [(o_M, .inr (1, [.ref o_Mo, .int (fM 1), .int (fM 2), .int (fM 3), .int (fM 4), .int (fM 5), .int (fM 6), .int (fM 7)]))]) [0] rfl
      have hD9 := hD.sub (ws' := [(o_M, .inr (1, [.ref o_Mo, .int (fM 1), .int (fM 2), .int (fM 3), .int (fM 4), .int (fM 5), .int (fM 6), .int (fM 7)]))]) [0] (by decide) rfl
      exact W.iret (v := 0) hx hb hr (fun t ht hW => ⟨⟨0, (), rfl, (by subst ex_7; rw [FX1_tell]; rw [if_neg c_1]; rw [if_neg c_3]; rw [if_pos c_6]; rw [if_pos c_8]; try rfl), by rw [ht]; exact hP9, va_K.moved hW.alike hK, hD9⟩, hS.F ht⟩) hS.2.2 dX1_tell_99
    · skip
      have c_8 : ¬ ((fM 1) = 0) := c_8
      refine lv_iload_n hx hb dX1_tell_94 rfl (lv_at hl 0 rfl) ?_
      refine lv_goto (tgt := 99) hx hb dX1_tell_95 (by decide) ?_
      have hP9 := hP.sub (ws' := [(o_M, .inr (1, [.ref o_Mo, .int (fM 1), .int (fM 2), .int (fM 3), .int (fM 4), .int (fM 5), .int (fM 6), .int (fM 7)]))]) [0] rfl
      have hD9 := hD.sub (ws' := [(o_M, .inr (1, [.ref o_Mo, .int (fM 1), .int (fM 2), .int (fM 3), .int (fM 4), .int (fM 5), .int (fM 6), .int (fM 7)]))]) [0] (by decide) rfl
      exact W.iret (v := x_7) hx hb hr (fun t ht hW => ⟨⟨x_7, (), rfl, (by subst ex_7; rw [FX1_tell]; rw [if_neg c_1]; rw [if_neg c_3]; rw [if_pos c_6]; rw [if_neg c_8]; try rfl), by rw [ht]; exact hP9, va_K.moved hW.alike hK, hD9⟩, hS.F ht⟩) hS.2.2 dX1_tell_99
  by_cases c_9 : i0 = 3
  · refine lv_tableIn (tgt := 61) hx hb dX1_tell_1 (by rw [c_9]; decide) (by rw [c_9]; decide) (by rw [c_9]; rfl) (by decide) ?_
    refine lv_aload_n hx hb dX1_tell_61 rfl (lv_at hl 0 rfl) ?_
    refine va_get (D := (dC, dI)) (ci := 1) (v := .int (fM 5)) (C := RX1) (T := TX1) (N := 8) hx hb hts (fun w h => List.mem_cons_of_mem _ (uwX1 w h)) hown hK hP 0 rfl rfl 5 (by decide) (hts _ (List.mem_cons_of_mem _ wd_61)) (fun _ h9 => h9) rfl dX1_tell_62 ?_
    refine lv_topi (fun x_10 (ex_10 : x_10 = (fM 5)) => ?_)
    refine lv_istore_n (lv' := [(2, .int x_10), (0, .ref o_M), (1, .int i0)]) hx hb dX1_tell_65 rfl hl (by decide) rfl (fun ls hl => ?_)
    refine lv_goto (tgt := 87) hx hb dX1_tell_66 (by decide) ?_
    refine lv_aload_n hx hb dX1_tell_87 rfl (lv_at hl 1 rfl) ?_
    refine va_get (D := (dC, dI)) (ci := 1) (v := .int (fM 1)) (C := RX1) (T := TX1) (N := 8) hx hb hts (fun w h => List.mem_cons_of_mem _ (uwX1 w h)) hown hK hP 0 rfl rfl 1 (by decide) (hts _ (List.mem_cons_of_mem _ wd_54)) (fun _ h9 => h9) rfl dX1_tell_88 ?_
    refine lv_if_eq (tgt := 98) hx hb dX1_tell_91 (by decide) (fun c_11 => ?_) (fun c_11 => ?_)
    · skip
      have c_11 : (fM 1) = 0 := c_11
      have tc_11 : (fM 1).toInt = (0 : Int) := congrArg Int32.toInt c_11
      refine lv_iconst (v := 0) hx hb dX1_tell_98 (by decide) ?_
      have hP9 := hP.sub (ws' := [(o_M, .inr (1, [.ref o_Mo, .int (fM 1), .int (fM 2), .int (fM 3), .int (fM 4), .int (fM 5), .int (fM 6), .int (fM 7)]))]) [0] rfl
      have hD9 := hD.sub (ws' := [(o_M, .inr (1, [.ref o_Mo, .int (fM 1), .int (fM 2), .int (fM 3), .int (fM 4), .int (fM 5), .int (fM 6), .int (fM 7)]))]) [0] (by decide) rfl
      exact W.iret (v := 0) hx hb hr (fun t ht hW => ⟨⟨0, (), rfl, (by subst ex_10; rw [FX1_tell]; rw [if_neg c_1]; rw [if_neg c_3]; rw [if_neg c_6]; rw [if_pos c_9]; rw [if_pos c_11]; try rfl), by rw [ht]; exact hP9, va_K.moved hW.alike hK, hD9⟩, hS.F ht⟩) hS.2.2 dX1_tell_99
    · skip
      have c_11 : ¬ ((fM 1) = 0) := c_11
      refine lv_iload_n hx hb dX1_tell_94 rfl (lv_at hl 0 rfl) ?_
      refine lv_goto (tgt := 99) hx hb dX1_tell_95 (by decide) ?_
      have hP9 := hP.sub (ws' := [(o_M, .inr (1, [.ref o_Mo, .int (fM 1), .int (fM 2), .int (fM 3), .int (fM 4), .int (fM 5), .int (fM 6), .int (fM 7)]))]) [0] rfl
      have hD9 := hD.sub (ws' := [(o_M, .inr (1, [.ref o_Mo, .int (fM 1), .int (fM 2), .int (fM 3), .int (fM 4), .int (fM 5), .int (fM 6), .int (fM 7)]))]) [0] (by decide) rfl
      exact W.iret (v := x_10) hx hb hr (fun t ht hW => ⟨⟨x_10, (), rfl, (by subst ex_10; rw [FX1_tell]; rw [if_neg c_1]; rw [if_neg c_3]; rw [if_neg c_6]; rw [if_pos c_9]; rw [if_neg c_11]; try rfl), by rw [ht]; exact hP9, va_K.moved hW.alike hK, hD9⟩, hS.F ht⟩) hS.2.2 dX1_tell_99
  by_cases c_12 : i0 = 4
  · refine lv_tableIn (tgt := 69) hx hb dX1_tell_1 (by rw [c_12]; decide) (by rw [c_12]; decide) (by rw [c_12]; rfl) (by decide) ?_
    refine lv_aload_n hx hb dX1_tell_69 rfl (lv_at hl 0 rfl) ?_
    refine va_get (D := (dC, dI)) (ci := 1) (v := .int (fM 6)) (C := RX1) (T := TX1) (N := 8) hx hb hts (fun w h => List.mem_cons_of_mem _ (uwX1 w h)) hown hK hP 0 rfl rfl 6 (by decide) (hts _ (List.mem_cons_of_mem _ wd_62)) (fun _ h9 => h9) rfl dX1_tell_70 ?_
    refine lv_topi (fun x_13 (ex_13 : x_13 = (fM 6)) => ?_)
    refine lv_istore_n (lv' := [(2, .int x_13), (0, .ref o_M), (1, .int i0)]) hx hb dX1_tell_73 rfl hl (by decide) rfl (fun ls hl => ?_)
    refine lv_goto (tgt := 87) hx hb dX1_tell_74 (by decide) ?_
    refine lv_aload_n hx hb dX1_tell_87 rfl (lv_at hl 1 rfl) ?_
    refine va_get (D := (dC, dI)) (ci := 1) (v := .int (fM 1)) (C := RX1) (T := TX1) (N := 8) hx hb hts (fun w h => List.mem_cons_of_mem _ (uwX1 w h)) hown hK hP 0 rfl rfl 1 (by decide) (hts _ (List.mem_cons_of_mem _ wd_54)) (fun _ h9 => h9) rfl dX1_tell_88 ?_
    refine lv_if_eq (tgt := 98) hx hb dX1_tell_91 (by decide) (fun c_14 => ?_) (fun c_14 => ?_)
    · skip
      have c_14 : (fM 1) = 0 := c_14
      have tc_14 : (fM 1).toInt = (0 : Int) := congrArg Int32.toInt c_14
      refine lv_iconst (v := 0) hx hb dX1_tell_98 (by decide) ?_
      have hP9 := hP.sub (ws' := [(o_M, .inr (1, [.ref o_Mo, .int (fM 1), .int (fM 2), .int (fM 3), .int (fM 4), .int (fM 5), .int (fM 6), .int (fM 7)]))]) [0] rfl
      have hD9 := hD.sub (ws' := [(o_M, .inr (1, [.ref o_Mo, .int (fM 1), .int (fM 2), .int (fM 3), .int (fM 4), .int (fM 5), .int (fM 6), .int (fM 7)]))]) [0] (by decide) rfl
      exact W.iret (v := 0) hx hb hr (fun t ht hW => ⟨⟨0, (), rfl, (by subst ex_13; rw [FX1_tell]; rw [if_neg c_1]; rw [if_neg c_3]; rw [if_neg c_6]; rw [if_neg c_9]; rw [if_pos c_12]; rw [if_pos c_14]; try rfl), by rw [ht]; exact hP9, va_K.moved hW.alike hK, hD9⟩, hS.F ht⟩) hS.2.2 dX1_tell_99
    · skip
      have c_14 : ¬ ((fM 1) = 0) := c_14
      refine lv_iload_n hx hb dX1_tell_94 rfl (lv_at hl 0 rfl) ?_
      refine lv_goto (tgt := 99) hx hb dX1_tell_95 (by decide) ?_
      have hP9 := hP.sub (ws' := [(o_M, .inr (1, [.ref o_Mo, .int (fM 1), .int (fM 2), .int (fM 3), .int (fM 4), .int (fM 5), .int (fM 6), .int (fM 7)]))]) [0] rfl
      have hD9 := hD.sub (ws' := [(o_M, .inr (1, [.ref o_Mo, .int (fM 1), .int (fM 2), .int (fM 3), .int (fM 4), .int (fM 5), .int (fM 6), .int (fM 7)]))]) [0] (by decide) rfl
      exact W.iret (v := x_13) hx hb hr (fun t ht hW => ⟨⟨x_13, (), rfl, (by subst ex_13; rw [FX1_tell]; rw [if_neg c_1]; rw [if_neg c_3]; rw [if_neg c_6]; rw [if_neg c_9]; rw [if_pos c_12]; rw [if_neg c_14]; try rfl), by rw [ht]; exact hP9, va_K.moved hW.alike hK, hD9⟩, hS.F ht⟩) hS.2.2 dX1_tell_99
  by_cases c_15 : i0 = 5
  · refine lv_tableIn (tgt := 77) hx hb dX1_tell_1 (by rw [c_15]; decide) (by rw [c_15]; decide) (by rw [c_15]; rfl) (by decide) ?_
    refine lv_aload_n hx hb dX1_tell_77 rfl (lv_at hl 0 rfl) ?_
    refine va_get (D := (dC, dI)) (ci := 1) (v := .int (fM 7)) (C := RX1) (T := TX1) (N := 8) hx hb hts (fun w h => List.mem_cons_of_mem _ (uwX1 w h)) hown hK hP 0 rfl rfl 7 (by decide) (hts _ (List.mem_cons_of_mem _ wd_64)) (fun _ h9 => h9) rfl dX1_tell_78 ?_
    refine lv_topi (fun x_16 (ex_16 : x_16 = (fM 7)) => ?_)
    refine lv_istore_n (lv' := [(2, .int x_16), (0, .ref o_M), (1, .int i0)]) hx hb dX1_tell_81 rfl hl (by decide) rfl (fun ls hl => ?_)
    refine lv_goto (tgt := 87) hx hb dX1_tell_82 (by decide) ?_
    refine lv_aload_n hx hb dX1_tell_87 rfl (lv_at hl 1 rfl) ?_
    refine va_get (D := (dC, dI)) (ci := 1) (v := .int (fM 1)) (C := RX1) (T := TX1) (N := 8) hx hb hts (fun w h => List.mem_cons_of_mem _ (uwX1 w h)) hown hK hP 0 rfl rfl 1 (by decide) (hts _ (List.mem_cons_of_mem _ wd_54)) (fun _ h9 => h9) rfl dX1_tell_88 ?_
    refine lv_if_eq (tgt := 98) hx hb dX1_tell_91 (by decide) (fun c_17 => ?_) (fun c_17 => ?_)
    · skip
      have c_17 : (fM 1) = 0 := c_17
      have tc_17 : (fM 1).toInt = (0 : Int) := congrArg Int32.toInt c_17
      refine lv_iconst (v := 0) hx hb dX1_tell_98 (by decide) ?_
      have hP9 := hP.sub (ws' := [(o_M, .inr (1, [.ref o_Mo, .int (fM 1), .int (fM 2), .int (fM 3), .int (fM 4), .int (fM 5), .int (fM 6), .int (fM 7)]))]) [0] rfl
      have hD9 := hD.sub (ws' := [(o_M, .inr (1, [.ref o_Mo, .int (fM 1), .int (fM 2), .int (fM 3), .int (fM 4), .int (fM 5), .int (fM 6), .int (fM 7)]))]) [0] (by decide) rfl
      exact W.iret (v := 0) hx hb hr (fun t ht hW => ⟨⟨0, (), rfl, (by subst ex_16; rw [FX1_tell]; rw [if_neg c_1]; rw [if_neg c_3]; rw [if_neg c_6]; rw [if_neg c_9]; rw [if_neg c_12]; rw [if_pos c_15]; rw [if_pos c_17]; try rfl), by rw [ht]; exact hP9, va_K.moved hW.alike hK, hD9⟩, hS.F ht⟩) hS.2.2 dX1_tell_99
    · skip
      have c_17 : ¬ ((fM 1) = 0) := c_17
      refine lv_iload_n hx hb dX1_tell_94 rfl (lv_at hl 0 rfl) ?_
      refine lv_goto (tgt := 99) hx hb dX1_tell_95 (by decide) ?_
      have hP9 := hP.sub (ws' := [(o_M, .inr (1, [.ref o_Mo, .int (fM 1), .int (fM 2), .int (fM 3), .int (fM 4), .int (fM 5), .int (fM 6), .int (fM 7)]))]) [0] rfl
      have hD9 := hD.sub (ws' := [(o_M, .inr (1, [.ref o_Mo, .int (fM 1), .int (fM 2), .int (fM 3), .int (fM 4), .int (fM 5), .int (fM 6), .int (fM 7)]))]) [0] (by decide) rfl
      exact W.iret (v := x_16) hx hb hr (fun t ht hW => ⟨⟨x_16, (), rfl, (by subst ex_16; rw [FX1_tell]; rw [if_neg c_1]; rw [if_neg c_3]; rw [if_neg c_6]; rw [if_neg c_9]; rw [if_neg c_12]; rw [if_pos c_15]; rw [if_neg c_17]; try rfl), by rw [ht]; exact hP9, va_K.moved hW.alike hK, hD9⟩, hS.F ht⟩) hS.2.2 dX1_tell_99
  refine lv_tableOut (tgt := 85) hx hb dX1_tell_1 (by have nc_1 := neT (b := 0) c_1 (a := 0) rfl; have nc_3 := neT (b := 1) c_3 (a := 1) rfl; have nc_6 := neT (b := 2) c_6 (a := 2) rfl; have nc_9 := neT (b := 3) c_9 (a := 3) rfl; have nc_12 := neT (b := 4) c_12 (a := 4) rfl; have nc_15 := neT (b := 5) c_15 (a := 5) rfl; omega) (by decide) ?_
  refine lv_iconst (v := (-1)) hx hb dX1_tell_85 (by decide) ?_
  have hP9 := hP.sub (ws' := [(o_M, .inr (1, [.ref o_Mo, .int (fM 1), .int (fM 2), .int (fM 3), .int (fM 4), .int (fM 5), .int (fM 6), .int (fM 7)]))]) [0] rfl
  have hD9 := hD.sub (ws' := [(o_M, .inr (1, [.ref o_Mo, .int (fM 1), .int (fM 2), .int (fM 3), .int (fM 4), .int (fM 5), .int (fM 6), .int (fM 7)]))]) [0] (by decide) rfl
  exact W.iret (v := (-1)) hx hb hr (fun t ht hW => ⟨⟨(-1), (), rfl, (by rw [FX1_tell]; rw [if_neg c_1]; rw [if_neg c_3]; rw [if_neg c_6]; rw [if_neg c_9]; rw [if_neg c_12]; rw [if_neg c_15]; try rfl), by rw [ht]; exact hP9, va_K.moved hW.alike hK, hD9⟩, hS.F ht⟩) hS.2.2 dX1_tell_86
