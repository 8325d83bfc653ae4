set_option maxHeartbeats 4000000 in
set_option maxRecDepth 100000 in
theorem c_X0_unit (l : Launch) (dC : Nat → ClassId) (dI : Nat → Nat → Nat) (tC : Nat → ClassId) (o_A o_Ao : Nat) (sz : Nat) (fA : (Nat → Int32)) (ao : (Nat → Int32)) : Met l yX0_unit wsX0_unit ({ frames := 0, cells := 0, slots := 0, locals := 0 }) (va_Pc [.ref o_A] (fun U => U.heap.size = sz ∧ va_P (dC, dI) vwCl [(o_A, .inr (0, [.ref o_Ao, .int (fA 1)])), (o_Ao, .inl (tC 0, 44, .inl ao))] U.heap ∧ va_K (dC, dI) vwCl (TY tC) U ∧ NW U ∧ va_D (fun _ => True) [(o_A, .inr (0, [.ref o_Ao, .int (fA 1)])), (o_Ao, .inl (tC 0, 44, .inl ao))])) (va_Qi (fun (r : Int32) (u : Unit) => r = FX0_unit fA ao) (fun (u : Unit) (t : State) => va_P (dC, dI) vwCl [(o_A, .inr (0, [.ref o_Ao, .int (fA 1)])), (o_Ao, .inl (tC 0, 44, .inl ao))] t.heap ∧ va_K (dC, dI) vwCl (TY tC) t ∧ va_D (va_A [(o_A, .inr (0, [.ref o_Ao, .int (fA 1)])), (o_Ao, .inl (tC 0, 44, .inl ao))] sz) [(o_A, .inr (0, [.ref o_Ao, .int (fA 1)])), (o_Ao, .inl (tC 0, 44, .inl ao))]) (va_A [(o_A, .inr (0, [.ref o_Ao, .int (fA 1)])), (o_Ao, .inl (tC 0, 44, .inl ao))] sz)) 0 0 (va_A [(o_A, .inr (0, [.ref o_Ao, .int (fA 1)])), (o_Ao, .inl (tC 0, 44, .inl ao))] sz) := by
  refine Met.ofW (cc := cX0_unit) (maxL := 1) (ret := (some .int)) (by decide) rfl ?_
  intro p e s m args below meth c s₁ B hml hv
  obtain ⟨rfl, hsz, hP, hK, hN, hD0⟩ := hv
  have hx := B.exec
  have hb := B.bytes
  have hr := B.returns
  have hts := atoms_spec (ws := wsX0_unit) B.pre
  have hown : s.vm.findClass RX0 = some m.cls := findClass_of_methodNamed B.named
  have hlocks := B.notSynchronized
  subst hsz
  have hD := hD0.self (sz := s.heap.size)
  generalize hAe : va_A [(o_A, .inr (0, [.ref o_Ao, .int (fA 1)])), (o_Ao, .inl (tC 0, 44, .inl ao))] s.heap.size = A at hD ⊢
  have hA : ∀ q : Nat, s.heap.size ≤ q → A q := fun q h => by rw [← hAe]; exact Or.inr h
  have hS : va_S A s.heap s.heap [] := va_S.rf
  have hP : va_P (dC, dI) vwCl [(o_A, .inr (0, [.ref o_Ao, .int (fA 1)])), (o_Ao, .inl (tC 0, 44, .inl ao))] s.heap := hP
  have hl := lv_entry ([.ref o_A]) (n := 1) (Nat.le_of_ble_eq_true rfl)
  rw [lg_entry_eq]
  generalize (lg_sl ([.ref o_A]) ++ List.replicate (1 - (lg_sl ([.ref o_A])).length) Slot.unset).toArray = ls at hl ⊢
  have hl : lv_has ls 1 [(0, .ref o_A)] := hl
  refine lv_aload_n hx hb dX0_unit_0 rfl (lv_at hl 0 rfl) ?_
  refine va_get (D := (dC, dI)) (ci := 0) (v := .ref o_Ao) (C := RX0) (T := TX0) (N := 2) hx hb hts (fun w h => List.mem_cons_of_mem _ (uwX0 w h)) hown hK hP 0 rfl rfl 0 (by decide) (hts _ (List.mem_cons_of_mem _ wd_27)) (fun _ h9 => h9) rfl dX0_unit_1 ?_
  refine lv_bipush (v := 6) hx hb dX0_unit_4 (by decide) ?_
  refine va_iald hx hb hK hP 1 0 rfl rfl (vi_c (by decide +kernel)) dX0_unit_6 ?_
  refine lv_bipush (v := 127) hx hb dX0_unit_7 (by decide) ?_
  refine lv_iand hx hb dX0_unit_9 ?_
  have hP9 := hP.sub (ws' := [(o_A, .inr (0, [.ref o_Ao, .int (fA 1)])), (o_Ao, .inl (tC 0, 44, .inl ao))]) [0, 1] rfl
  have hD9 := hD.sub (ws' := [(o_A, .inr (0, [.ref o_Ao, .int (fA 1)])), (o_Ao, .inl (tC 0, 44, .inl ao))]) [0, 1] (by decide) rfl
  exact W.iret (v := ((ao 6) &&& (127 : Int32))) hx hb hr (fun t ht hW => ⟨⟨((ao 6) &&& (127 : Int32)), (), rfl, (by rw [FX0_unit]; try rfl), by rw [ht]; exact hP9, va_K.moved hW.alike hK, hD9⟩, hS.F ht⟩) hS.2.2 dX0_unit_10
set_option maxHeartbeats 4000000 in
set_option maxRecDepth 100000 in
theorem c_X0_size (l : Launch) (dC : Nat → ClassId) (dI : Nat → Nat → Nat) (tC : Nat → ClassId) (o_A o_Ao : Nat) (sz : Nat) (fA : (Nat → Int32)) : Met l yX0_size wsX0_size ({ frames := 0, cells := 0, slots := 0, locals := 0 }) (va_Pc [.ref o_A] (fun U => U.heap.size = sz ∧ va_P (dC, dI) vwCl [(o_A, .inr (0, [.ref o_Ao, .int (fA 1)]))] U.heap ∧ va_K (dC, dI) vwCl (TY tC) U ∧ NW U ∧ va_D (fun _ => True) [(o_A, .inr (0, [.ref o_Ao, .int (fA 1)]))])) (va_Qi (fun (r : Int32) (u : Unit) => r = FX0_size fA) (fun (u : Unit) (t : State) => va_P (dC, dI) vwCl [(o_A, .inr (0, [.ref o_Ao, .int (fA 1)]))] t.heap ∧ va_K (dC, dI) vwCl (TY tC) t ∧ va_D (va_A [(o_A, .inr (0, [.ref o_Ao, .int (fA 1)]))] sz) [(o_A, .inr (0, [.ref o_Ao, .int (fA 1)]))]) (va_A [(o_A, .inr (0, [.ref o_Ao, .int (fA 1)]))] sz)) 0 0 (va_A [(o_A, .inr (0, [.ref o_Ao, .int (fA 1)]))] sz) := by
  refine Met.ofW (cc := cX0_size) (maxL := 1) (ret := (some .int)) (by decide) rfl ?_
  intro p e s m args below meth c s₁ B hml hv
  obtain ⟨rfl, hsz, hP, hK, hN, hD0⟩ := hv
  have hx := B.exec
  have hb := B.bytes
  have hr := B.returns
  have hts := atoms_spec (ws := wsX0_size) B.pre
  have hown : s.vm.findClass RX0 = some m.cls := findClass_of_methodNamed B.named
  have hlocks := B.notSynchronized
  subst hsz
  have hD := hD0.self (sz := s.heap.size)
  generalize hAe : va_A [(o_A, .inr (0, [.ref o_Ao, .int (fA 1)]))] s.heap.size = A at hD ⊢
  have hA : ∀ q : Nat, s.heap.size ≤ q → A q := fun q h => by rw [← hAe]; exact Or.inr h
  have hS : va_S A s.heap s.heap [] := va_S.rf
  have hP : va_P (dC, dI) vwCl [(o_A, .inr (0, [.ref o_Ao, .int (fA 1)]))] s.heap := hP
  have hl := lv_entry ([.ref o_A]) (n := 1) (Nat.le_of_ble_eq_true rfl)
  rw [lg_entry_eq]
  generalize (lg_sl ([.ref o_A]) ++ List.replicate (1 - (lg_sl ([.ref o_A])).length) Slot.unset).toArray = ls at hl ⊢
  have hl : lv_has ls 1 [(0, .ref o_A)] := hl
  refine lv_aload_n hx hb dX0_size_0 rfl (lv_at hl 0 rfl) ?_
  refine va_get (D := (dC, dI)) (ci := 0) (v := .int (fA 1)) (C := RX0) (T := TX0) (N := 2) hx hb hts (fun w h => List.mem_cons_of_mem _ (uwX0 w h)) hown hK hP 0 rfl rfl 1 (by decide) (hts _ (List.mem_cons_of_mem _ wd_31)) (fun _ h9 => h9) rfl dX0_size_1 ?_
  refine lv_bipush (v := 9) hx hb dX0_size_4 (by decide) ?_
  refine lv_isub hx hb dX0_size_6 ?_
  have hP9 := hP.sub (ws' := [(o_A, .inr (0, [.ref o_Ao, .int (fA 1)]))]) [0] rfl
  have hD9 := hD.sub (ws' := [(o_A, .inr (0, [.ref o_Ao, .int (fA 1)]))]) [0] (by decide) rfl
  exact W.iret (v := ((fA 1) - (9 : Int32))) hx hb hr (fun t ht hW => ⟨⟨((fA 1) - (9 : Int32)), (), rfl, (by rw [FX0_size]; try rfl), by rw [ht]; exact hP9, va_K.moved hW.alike hK, hD9⟩, hS.F ht⟩) hS.2.2 dX0_size_7
set_option maxHeartbeats 4000000 in
set_option maxRecDepth 100000 in
theorem c_X0_isWhole (l : Launch) (dC : Nat → ClassId) (dI : Nat → Nat → Nat) (tC : Nat → ClassId) (o_A o_Ao : Nat) (sz : Nat) (fA : (Nat → Int32)) (ao : (Nat → Int32)) : Met l yX0_isWhole wsX0_isWhole ({ frames := 0, cells := 0, slots := 0, locals := 0 }) (va_Pc [.ref o_A] (fun U => U.heap.size = sz ∧ va_P (dC, dI) vwCl [(o_A, .inr (0, [.ref o_Ao, .int (fA 1)])), (o_Ao, .inl (tC 0, 44, .inl ao))] U.heap ∧ va_K (dC, dI) vwCl (TY tC) U ∧ NW U ∧ va_D (fun _ => True) [(o_A, .inr (0, [.ref o_Ao, .int (fA 1)])), (o_Ao, .inl (tC 0, 44, .inl ao))])) (va_Qi (fun (r : Int32) (u : Unit) => r = FX0_isWhole fA ao) (fun (u : Unit) (t : State) => va_P (dC, dI) vwCl [(o_A, .inr (0, [.ref o_Ao, .int (fA 1)])), (o_Ao, .inl (tC 0, 44, .inl ao))] t.heap ∧ va_K (dC, dI) vwCl (TY tC) t ∧ va_D (va_A [(o_A, .inr (0, [.ref o_Ao, .int (fA 1)])), (o_Ao, .inl (tC 0, 44, .inl ao))] sz) [(o_A, .inr (0, [.ref o_Ao, .int (fA 1)])), (o_Ao, .inl (tC 0, 44, .inl ao))]) (va_A [(o_A, .inr (0, [.ref o_Ao, .int (fA 1)])), (o_Ao, .inl (tC 0, 44, .inl ao))] sz)) 0 0 (va_A [(o_A, .inr (0, [.ref o_Ao, .int (fA 1)])), (o_Ao, .inl (tC 0, 44, .inl ao))] sz) := by
  refine Met.ofW (cc := cX0_isWhole) (maxL := 1) (ret := (some .boolean)) (by decide) rfl ?_
  intro p e s m args below meth c s₁ B hml hv
  obtain ⟨rfl, hsz, hP, hK, hN, hD0⟩ := hv
  have hx := B.exec
  have hb := B.bytes
  have hr := B.returns
  have hts := atoms_spec (ws := wsX0_isWhole) B.pre
  have hown : s.vm.findClass RX0 = some m.cls := findClass_of_methodNamed B.named
  have hlocks := B.notSynchronized
  subst hsz
  have hD := hD0.self (sz := s.heap.size)
  generalize hAe : va_A [(o_A, .inr (0, [.ref o_Ao, .int (fA 1)])), (o_Ao, .inl (tC 0, 44, .inl ao))] s.heap.size = A at hD ⊢
  have hA : ∀ q : Nat, s.heap.size ≤ q → A q := fun q h => by rw [← hAe]; exact Or.inr h
  have hS : va_S A s.heap s.heap [] := va_S.rf
  have hP : va_P (dC, dI) vwCl [(o_A, .inr (0, [.ref o_Ao, .int (fA 1)])), (o_Ao, .inl (tC 0, 44, .inl ao))] s.heap := hP
  have hl := lv_entry ([.ref o_A]) (n := 1) (Nat.le_of_ble_eq_true rfl)
  rw [lg_entry_eq]
  generalize (lg_sl ([.ref o_A]) ++ List.replicate (1 - (lg_sl ([.ref o_A])).length) Slot.unset).toArray = ls at hl ⊢
  have hl : lv_has ls 1 [(0, .ref o_A)] := hl
  refine lv_aload_n hx hb dX0_isWhole_0 rfl (lv_at hl 0 rfl) ?_
  refine va_get (D := (dC, dI)) (ci := 0) (v := .ref o_Ao) (C := RX0) (T := TX0) (N := 2) hx hb hts (fun w h => List.mem_cons_of_mem _ (uwX0 w h)) hown hK hP 0 rfl rfl 0 (by decide) (hts _ (List.mem_cons_of_mem _ wd_27)) (fun _ h9 => h9) rfl dX0_isWhole_1 ?_
  refine lv_bipush (v := 6) hx hb dX0_isWhole_4 (by decide) ?_
  refine va_iald hx hb hK hP 1 0 rfl rfl (vi_c (by decide +kernel)) dX0_isWhole_6 ?_
  refine lv_if_ne (tgt := 14) hx hb dX0_isWhole_7 (by decide) (fun c_1 => ?_) (fun c_1 => ?_)
  · skip
    have c_1 : ¬ ((ao 6) = 0) := c_1
    refine lv_iconst (v := 0) hx hb dX0_isWhole_14 (by decide) ?_
    have hP9 := hP.sub (ws' := [(o_A, .inr (0, [.ref o_Ao, .int (fA 1)])), (o_Ao, .inl (tC 0, 44, .inl ao))]) [0, 1] rfl
    have hD9 := hD.sub (ws' := [(o_A, .inr (0, [.ref o_Ao, .int (fA 1)])), (o_Ao, .inl (tC 0, 44, .inl ao))]) [0, 1] (by decide) rfl
    exact W.zret (v := 0) hx hb hr rfl (fun t ht hW => ⟨⟨0, (), rfl, (by rw [FX0_isWhole]; rw [if_neg c_1]; try rfl), by rw [ht]; exact hP9, va_K.moved hW.alike hK, hD9⟩, hS.F ht⟩) hS.2.2 dX0_isWhole_15
  · skip
    have c_1 : (ao 6) = 0 := c_1
    have tc_1 : (ao 6).toInt = (0 : Int) := congrArg Int32.toInt c_1
    refine lv_iconst (v := 1) hx hb dX0_isWhole_10 (by decide) ?_
    refine lv_goto (tgt := 15) hx hb dX0_isWhole_11 (by decide) ?_
    have hP9 := hP.sub (ws' := [(o_A, .inr (0, [.ref o_Ao, .int (fA 1)])), (o_Ao, .inl (tC 0, 44, .inl ao))]) [0, 1] rfl
    have hD9 := hD.sub (ws' := [(o_A, .inr (0, [.ref o_Ao, .int (fA 1)])), (o_Ao, .inl (tC 0, 44, .inl ao))]) [0, 1] (by decide) rfl
    exact W.zret (v := 1) hx hb hr rfl (fun t ht hW => ⟨⟨1, (), rfl, (by rw [FX0_isWhole]; rw [if_pos c_1]; try rfl), by rw [ht]; exact hP9, va_K.moved hW.alike hK, hD9⟩, hS.F ht⟩) hS.2.2 dX0_isWhole_15
set_option maxHeartbeats 4000000 in
set_option maxRecDepth 100000 in
theorem c_X0_isEnd (l : Launch) (dC : Nat → ClassId) (dI : Nat → Nat → Nat) (tC : Nat → ClassId) (o_A o_Ao : Nat) (sz : Nat) (fA : (Nat → Int32)) (ao : (Nat → Int32)) : Met l yX0_isEnd wsX0_isEnd ({ frames := 0, cells := 0, slots := 0, locals := 0 }) (va_Pc [.ref o_A] (fun U => U.heap.size = sz ∧ va_P (dC, dI) vwCl [(o_A, .inr (0, [.ref o_Ao, .int (fA 1)])), (o_Ao, .inl (tC 0, 44, .inl ao))] U.heap ∧ va_K (dC, dI) vwCl (TY tC) U ∧ NW U ∧ va_D (fun _ => True) [(o_A, .inr (0, [.ref o_Ao, .int (fA 1)])), (o_Ao, .inl (tC 0, 44, .inl ao))])) (va_Qi (fun (r : Int32) (u : Unit) => r = FX0_isEnd fA ao) (fun (u : Unit) (t : State) => va_P (dC, dI) vwCl [(o_A, .inr (0, [.ref o_Ao, .int (fA 1)])), (o_Ao, .inl (tC 0, 44, .inl ao))] t.heap ∧ va_K (dC, dI) vwCl (TY tC) t ∧ va_D (va_A [(o_A, .inr (0, [.ref o_Ao, .int (fA 1)])), (o_Ao, .inl (tC 0, 44, .inl ao))] sz) [(o_A, .inr (0, [.ref o_Ao, .int (fA 1)])), (o_Ao, .inl (tC 0, 44, .inl ao))]) (va_A [(o_A, .inr (0, [.ref o_Ao, .int (fA 1)])), (o_Ao, .inl (tC 0, 44, .inl ao))] sz)) 0 0 (va_A [(o_A, .inr (0, [.ref o_Ao, .int (fA 1)])), (o_Ao, .inl (tC 0, 44, .inl ao))] sz) := by
  refine Met.ofW (cc := cX0_isEnd) (maxL := 1) (ret := (some .boolean)) (by decide) rfl ?_
  intro p e s m args below meth c s₁ B hml hv
  obtain ⟨rfl, hsz, hP, hK, hN, hD0⟩ := hv
  have hx := B.exec
  have hb := B.bytes
  have hr := B.returns
  have hts := atoms_spec (ws := wsX0_isEnd) B.pre
  have hown : s.vm.findClass RX0 = some m.cls := findClass_of_methodNamed B.named
  have hlocks := B.notSynchronized
  subst hsz
  have hD := hD0.self (sz := s.heap.size)
  generalize hAe : va_A [(o_A, .inr (0, [.ref o_Ao, .int (fA 1)])), (o_Ao, .inl (tC 0, 44, .inl ao))] s.heap.size = A at hD ⊢
  have hA : ∀ q : Nat, s.heap.size ≤ q → A q := fun q h => by rw [← hAe]; exact Or.inr h
  have hS : va_S A s.heap s.heap [] := va_S.rf
  have hP : va_P (dC, dI) vwCl [(o_A, .inr (0, [.ref o_Ao, .int (fA 1)])), (o_Ao, .inl (tC 0, 44, .inl ao))] s.heap := hP
  have hl := lv_entry ([.ref o_A]) (n := 1) (Nat.le_of_ble_eq_true rfl)
  rw [lg_entry_eq]
  generalize (lg_sl ([.ref o_A]) ++ List.replicate (1 - (lg_sl ([.ref o_A])).length) Slot.unset).toArray = ls at hl ⊢
  have hl : lv_has ls 1 [(0, .ref o_A)] := hl
  refine lv_aload_n hx hb dX0_isEnd_0 rfl (lv_at hl 0 rfl) ?_
  refine va_get (D := (dC, dI)) (ci := 0) (v := .ref o_Ao) (C := RX0) (T := TX0) (N := 2) hx hb hts (fun w h => List.mem_cons_of_mem _ (uwX0 w h)) hown hK hP 0 rfl rfl 0 (by decide) (hts _ (List.mem_cons_of_mem _ wd_27)) (fun _ h9 => h9) rfl dX0_isEnd_1 ?_
  refine lv_bipush (v := 6) hx hb dX0_isEnd_4 (by decide) ?_
  refine va_iald hx hb hK hP 1 0 rfl rfl (vi_c (by decide +kernel)) dX0_isEnd_6 ?_
  refine lv_sipush (v := 128) hx hb dX0_isEnd_7 (by decide) ?_
  refine lv_icmp_ge (tgt := 17) hx hb dX0_isEnd_10 (by decide) (fun c_1 => ?_) (fun c_1 => ?_)
  · skip
    have c_1 : 128 ≤ (ao 6) := c_1
    have tc_1 : (128 : Int) ≤ (ao 6).toInt := Int32.le_iff_toInt_le.mp c_1
    refine lv_iconst (v := 0) hx hb dX0_isEnd_17 (by decide) ?_
    have hP9 := hP.sub (ws' := [(o_A, .inr (0, [.ref o_Ao, .int (fA 1)])), (o_Ao, .inl (tC 0, 44, .inl ao))]) [0, 1] rfl
    have hD9 := hD.sub (ws' := [(o_A, .inr (0, [.ref o_Ao, .int (fA 1)])), (o_Ao, .inl (tC 0, 44, .inl ao))]) [0, 1] (by decide) rfl
    exact W.zret (v := 0) hx hb hr rfl (fun t ht hW => ⟨⟨0, (), rfl, (by rw [FX0_isEnd]; rw [if_pos c_1]; try rfl), by rw [ht]; exact hP9, va_K.moved hW.alike hK, hD9⟩, hS.F ht⟩) hS.2.2 dX0_isEnd_18
  · skip
    have c_1 : ¬ (128 ≤ (ao 6)) := c_1
    have tc_1 : ¬ (128 : Int) ≤ (ao 6).toInt := fun q => c_1 (Int32.le_iff_toInt_le.mpr q)
    refine lv_iconst (v := 1) hx hb dX0_isEnd_13 (by decide) ?_
    refine lv_goto (tgt := 18) hx hb dX0_isEnd_14 (by decide) ?_
    have hP9 := hP.sub (ws' := [(o_A, .inr (0, [.ref o_Ao, .int (fA 1)])), (o_Ao, .inl (tC 0, 44, .inl ao))]) [0, 1] rfl
    have hD9 := hD.sub (ws' := [(o_A, .inr (0, [.ref o_Ao, .int (fA 1)])), (o_Ao, .inl (tC 0, 44, .inl ao))]) [0, 1] (by decide) rfl
    exact W.zret (v := 1) hx hb hr rfl (fun t ht hW => ⟨⟨1, (), rfl, (by rw [FX0_isEnd]; rw [if_neg c_1]; try rfl), by rw [ht]; exact hP9, va_K.moved hW.alike hK, hD9⟩, hS.F ht⟩) hS.2.2 dX0_isEnd_18
set_option maxHeartbeats 4000000 in
set_option maxRecDepth 100000 in
theorem c_X0_reach (l : Launch) (dC : Nat → ClassId) (dI : Nat → Nat → Nat) (tC : Nat → ClassId) (o_A o_Ao : Nat) (sz : Nat) (fA : (Nat → Int32)) (ao : (Nat → Int32)) : Met l yX0_reach wsX0_reach ({ frames := 1, cells := 0, slots := 0, locals := 20 }) (va_Pc [.ref o_A] (fun U => U.heap.size = sz ∧ va_P (dC, dI) vwCl [(o_A, .inr (0, [.ref o_Ao, .int (fA 1)])), (o_Ao, .inl (tC 0, 44, .inl ao))] U.heap ∧ va_K (dC, dI) vwCl (TY tC) U ∧ NW U ∧ va_D (fun _ => True) [(o_A, .inr (0, [.ref o_Ao, .int (fA 1)])), (o_Ao, .inl (tC 0, 44, .inl ao))])) (va_Qi (fun (r : Int32) (u : Unit) => r = FX0_reach fA ao) (fun (u : Unit) (t : State) => va_P (dC, dI) vwCl [(o_A, .inr (0, [.ref o_Ao, .int (fA 1)])), (o_Ao, .inl (tC 0, 44, .inl ao))] t.heap ∧ va_K (dC, dI) vwCl (TY tC) t ∧ va_D (va_A [(o_A, .inr (0, [.ref o_Ao, .int (fA 1)])), (o_Ao, .inl (tC 0, 44, .inl ao))] sz) [(o_A, .inr (0, [.ref o_Ao, .int (fA 1)])), (o_Ao, .inl (tC 0, 44, .inl ao))]) (va_A [(o_A, .inr (0, [.ref o_Ao, .int (fA 1)])), (o_Ao, .inl (tC 0, 44, .inl ao))] sz)) 0 0 (va_A [(o_A, .inr (0, [.ref o_Ao, .int (fA 1)])), (o_Ao, .inl (tC 0, 44, .inl ao))] sz) := by
  refine Met.ofW (cc := cX0_reach) (maxL := 1) (ret := (some .int)) (by decide) rfl ?_
  intro p e s m args below meth c s₁ B hml hv
  obtain ⟨rfl, hsz, hP, hK, hN, hD0⟩ := hv
  have hx := B.exec
  have hb := B.bytes
  have hr := B.returns
  have hts := atoms_spec (ws := wsX0_reach) B.pre
  have hown : s.vm.findClass RX0 = some m.cls := findClass_of_methodNamed B.named
  have hlocks := B.notSynchronized
  subst hsz
  have hD := hD0.self (sz := s.heap.size)
  generalize hAe : va_A [(o_A, .inr (0, [.ref o_Ao, .int (fA 1)])), (o_Ao, .inl (tC 0, 44, .inl ao))] s.heap.size = A at hD ⊢
  have hA : ∀ q : Nat, s.heap.size ≤ q → A q := fun q h => by rw [← hAe]; exact Or.inr h
  have hS : va_S A s.heap s.heap [] := va_S.rf
  have hP : va_P (dC, dI) vwCl [(o_A, .inr (0, [.ref o_Ao, .int (fA 1)])), (o_Ao, .inl (tC 0, 44, .inl ao))] s.heap := hP
  have hl := lv_entry ([.ref o_A]) (n := 1) (Nat.le_of_ble_eq_true rfl)
  rw [lg_entry_eq]
  generalize (lg_sl ([.ref o_A]) ++ List.replicate (1 - (lg_sl ([.ref o_A])).length) Slot.unset).toArray = ls at hl ⊢
  have hl : lv_has ls 1 [(0, .ref o_A)] := hl
  refine lv_iconst (v := 4) hx hb dX0_reach_0 (by decide) ?_
  refine lv_aload_n hx hb dX0_reach_1 rfl (lv_at hl 0 rfl) ?_
  have hPc := hP.sub (ws' := [(o_A, .inr (0, [.ref o_Ao, .int (fA 1)])), (o_Ao, .inl (tC 0, 44, .inl ao))]) [0, 1] rfl
  have hDc := hD.sub (ws' := [(o_A, .inr (0, [.ref o_Ao, .int (fA 1)])), (o_Ao, .inl (tC 0, 44, .inl ao))]) [0, 1] (by decide) rfl
  have hFc := va_free (wc := [(o_A, .inr (0, [.ref o_Ao, .int (fA 1)])), (o_Ao, .inl (tC 0, 44, .inl ao))]) hD hS hA [0, 1] rfl
  refine va_calli (va_runV (As := []) (rest := [.int 4]) ⟨hx, hb, hml, hown, hts⟩ (c_X0_unit l dC dI tC o_A o_Ao s.heap.size fA ao) (cwV 0 hts (gV wd_340 wd_341 wd_342 wd_2 wd_343) rfl rfl rfl dsc_X0_unit ⟨Nat.le_of_ble_eq_true rfl, Nat.le_of_ble_eq_true rfl⟩) ⟨fun a U g mk q => by obtain ⟨q0, q1, qP, qK, qN, qD⟩ := q; exact ⟨q0, q1, qP, va_K.moved (u := U) (U := U.calling g mk a) (Vm.Alike.refl U.vm) qK, NW.same (u := U) (U := U.calling g mk a) rfl qN, qD⟩, va_recv hK hPc (ci := 0) (q0 := 0) rfl rfl, fun U hU hW => ⟨rfl, by rw [hU], by rw [hU]; exact hPc, va_K.moved hW.alike hK, NW.warm hW hN, hDc.weaken (fun _ _ _ _ => trivial)⟩⟩ rfl rfl hl.1 rfl (lv_room (Nat.le_of_ble_eq_true rfl)) dX0_reach_2 ⟨Nat.le_of_ble_eq_true rfl, Nat.le_of_ble_eq_true rfl⟩) hS (fun q _ h => hFc q h) hFc (fun r_1 u t H1 locs ht hvm hw hB hz1 hk1 hS => ?_)
  obtain ⟨hP1, hK1, hD1⟩ := hB
  rw [ht] at hP1
  obtain ⟨hP, hD⟩ := va_join (wr := []) (w1 := [(o_A, .inr (0, [.ref o_Ao, .int (fA 1)])), (o_Ao, .inl (tC 0, 44, .inl ao))]) hP hD [0, 1] [] rfl rfl (by decide) (by decide) hk1 hFc hP1 hD1
  generalize H1 = H at hP hS ⊢
  have hP : va_P (dC, dI) vwCl [(o_A, .inr (0, [.ref o_Ao, .int (fA 1)])), (o_Ao, .inl (tC 0, 44, .inl ao))] H := hP
  have hD : va_D A [(o_A, .inr (0, [.ref o_Ao, .int (fA 1)])), (o_Ao, .inl (tC 0, 44, .inl ao))] := hD
  have er_1 : r_1 = (FX0_unit fA ao) := hw
  refine lv_imul hx hb dX0_reach_5 ?_
  refine lv_aload_n hx hb dX0_reach_6 rfl (lv_at hl 0 rfl) ?_
  have hPc := hP.sub (ws' := [(o_A, .inr (0, [.ref o_Ao, .int (fA 1)]))]) [0] rfl
  have hDc := hD.sub (ws' := [(o_A, .inr (0, [.ref o_Ao, .int (fA 1)]))]) [0] (by decide) rfl
  have hFc := va_free (wc := [(o_A, .inr (0, [.ref o_Ao, .int (fA 1)]))]) hD hS hA [0] rfl
  refine va_calli (va_runV (As := []) (rest := [.int ((4 : Int32) * r_1)]) ⟨hx, hb, hml, hown, hts⟩ (c_X0_size l dC dI tC o_A o_Ao H.size fA) (cwV 0 hts (gV wd_348 wd_349 wd_350 wd_2 wd_351) rfl rfl rfl dsc_X0_size ⟨Nat.le_of_ble_eq_true rfl, Nat.le_of_ble_eq_true rfl⟩) ⟨fun a U g mk q => by obtain ⟨q0, q1, qP, qK, qN, qD⟩ := q; exact ⟨q0, q1, qP, va_K.moved (u := U) (U := U.calling g mk a) (Vm.Alike.refl U.vm) qK, NW.same (u := U) (U := U.calling g mk a) rfl qN, qD⟩, va_recv hK hPc (ci := 0) (q0 := 0) rfl rfl, fun U hU hW => ⟨rfl, by rw [hU], by rw [hU]; exact hPc, va_K.moved hW.alike hK, NW.warm hW hN, hDc.weaken (fun _ _ _ _ => trivial)⟩⟩ rfl rfl hl.1 rfl (lv_room (Nat.le_of_ble_eq_true rfl)) dX0_reach_7 ⟨Nat.le_of_ble_eq_true rfl, Nat.le_of_ble_eq_true rfl⟩) hS (fun q _ h => hFc q h) hFc (fun r_2 u t H1 locs ht hvm hw hB hz1 hk1 hS => ?_)
  obtain ⟨hP1, hK1, hD1⟩ := hB
  rw [ht] at hP1
  obtain ⟨hP, hD⟩ := va_join (wr := [(o_Ao, .inl (tC 0, 44, .inl ao))]) (w1 := [(o_A, .inr (0, [.ref o_Ao, .int (fA 1)]))]) hP hD [0] [1] rfl rfl (by decide) (by decide) hk1 hFc hP1 hD1
  generalize H1 = H at hP hS ⊢
  have hP : va_P (dC, dI) vwCl [(o_Ao, .inl (tC 0, 44, .inl ao)), (o_A, .inr (0, [.ref o_Ao, .int (fA 1)]))] H := hP
  have hD : va_D A [(o_Ao, .inl (tC 0, 44, .inl ao)), (o_A, .inr (0, [.ref o_Ao, .int (fA 1)]))] := hD
  have er_2 : r_2 = (FX0_size fA) := hw
  refine lv_iadd hx hb dX0_reach_10 ?_
  have hP9 := hP.sub (ws' := [(o_A, .inr (0, [.ref o_Ao, .int (fA 1)])), (o_Ao, .inl (tC 0, 44, .inl ao))]) [1, 0] rfl
  have hD9 := hD.sub (ws' := [(o_A, .inr (0, [.ref o_Ao, .int (fA 1)])), (o_Ao, .inl (tC 0, 44, .inl ao))]) [1, 0] (by decide) rfl
  exact W.iret (v := (((4 : Int32) * r_1) + r_2)) hx hb hr (fun t ht hW => ⟨⟨(((4 : Int32) * r_1) + r_2), (), rfl, (by subst er_1 er_2; rw [FX0_reach]; try rfl), by rw [ht]; exact hP9, va_K.moved hW.alike hK, hD9⟩, hS.F ht⟩) hS.2.2 dX0_reach_11
set_option maxHeartbeats 4000000 in
set_option maxRecDepth 100000 in
theorem c_X0_units (l : Launch) (dC : Nat → ClassId) (dI : Nat → Nat → Nat) (tC : Nat → ClassId) (o_A o_Ao : Nat) (sz : Nat) (fA : (Nat → Int32)) (ao : (Nat → Int32)) : Met l yX0_units wsX0_units ({ frames := 1, cells := 0, slots := 0, locals := 21 }) (va_Pc [.ref o_A] (fun U => U.heap.size = sz ∧ va_P (dC, dI) vwCl [(o_A, .inr (0, [.ref o_Ao, .int (fA 1)])), (o_Ao, .inl (tC 0, 44, .inl ao))] U.heap ∧ va_K (dC, dI) vwCl (TY tC) U ∧ NW U ∧ va_D (fun _ => True) [(o_A, .inr (0, [.ref o_Ao, .int (fA 1)])), (o_Ao, .inl (tC 0, 44, .inl ao))])) (va_Qi (fun (r : Int32) (u : Unit) => r = FX0_units fA ao) (fun (u : Unit) (t : State) => va_P (dC, dI) vwCl [(o_A, .inr (0, [.ref o_Ao, .int (fA 1)])), (o_Ao, .inl (tC 0, 44, .inl ao))] t.heap ∧ va_K (dC, dI) vwCl (TY tC) t ∧ va_D (va_A [(o_A, .inr (0, [.ref o_Ao, .int (fA 1)])), (o_Ao, .inl (tC 0, 44, .inl ao))] sz) [(o_A, .inr (0, [.ref o_Ao, .int (fA 1)])), (o_Ao, .inl (tC 0, 44, .inl ao))]) (va_A [(o_A, .inr (0, [.ref o_Ao, .int (fA 1)])), (o_Ao, .inl (tC 0, 44, .inl ao))] sz)) 0 0 (va_A [(o_A, .inr (0, [.ref o_Ao, .int (fA 1)])), (o_Ao, .inl (tC 0, 44, .inl ao))] sz) := by
  refine Met.ofW (cc := cX0_units) (maxL := 1) (ret := (some .int)) (by decide) rfl ?_
  intro p e s m args below meth c s₁ B hml hv
  obtain ⟨rfl, hsz, hP, hK, hN, hD0⟩ := hv
  have hx := B.exec
  have hb := B.bytes
  have hr := B.returns
  have hts := atoms_spec (ws := wsX0_units) B.pre
  have hown : s.vm.findClass RX0 = some m.cls := findClass_of_methodNamed B.named
  have hlocks := B.notSynchronized
  subst hsz
  have hD := hD0.self (sz := s.heap.size)
  generalize hAe : va_A [(o_A, .inr (0, [.ref o_Ao, .int (fA 1)])), (o_Ao, .inl (tC 0, 44, .inl ao))] s.heap.size = A at hD ⊢
  have hA : ∀ q : Nat, s.heap.size ≤ q → A q := fun q h => by rw [← hAe]; exact Or.inr h
  have hS : va_S A s.heap s.heap [] := va_S.rf
  have hP : va_P (dC, dI) vwCl [(o_A, .inr (0, [.ref o_Ao, .int (fA 1)])), (o_Ao, .inl (tC 0, 44, .inl ao))] s.heap := hP
  have hl := lv_entry ([.ref o_A]) (n := 1) (Nat.le_of_ble_eq_true rfl)
  rw [lg_entry_eq]
  generalize (lg_sl ([.ref o_A]) ++ List.replicate (1 - (lg_sl ([.ref o_A])).length) Slot.unset).toArray = ls at hl ⊢
  have hl : lv_has ls 1 [(0, .ref o_A)] := hl
  refine lv_aload_n hx hb dX0_units_0 rfl (lv_at hl 0 rfl) ?_
  have hPc := hP.sub (ws' := [(o_A, .inr (0, [.ref o_Ao, .int (fA 1)]))]) [0] rfl
  have hDc := hD.sub (ws' := [(o_A, .inr (0, [.ref o_Ao, .int (fA 1)]))]) [0] (by decide) rfl
  have hFc := va_free (wc := [(o_A, .inr (0, [.ref o_Ao, .int (fA 1)]))]) hD hS hA [0] rfl
  refine va_calli (va_runV (As := []) (rest := []) ⟨hx, hb, hml, hown, hts⟩ (c_X0_size l dC dI tC o_A o_Ao s.heap.size fA) (cwV 0 hts (gV wd_348 wd_349 wd_350 wd_2 wd_351) rfl rfl rfl dsc_X0_size ⟨Nat.le_of_ble_eq_true rfl, Nat.le_of_ble_eq_true rfl⟩) ⟨fun a U g mk q => by obtain ⟨q0, q1, qP, qK, qN, qD⟩ := q; exact ⟨q0, q1, qP, va_K.moved (u := U) (U := U.calling g mk a) (Vm.Alike.refl U.vm) qK, NW.same (u := U) (U := U.calling g mk a) rfl qN, qD⟩, va_recv hK hPc (ci := 0) (q0 := 0) rfl rfl, fun U hU hW => ⟨rfl, by rw [hU], by rw [hU]; exact hPc, va_K.moved hW.alike hK, NW.warm hW hN, hDc.weaken (fun _ _ _ _ => trivial)⟩⟩ rfl rfl hl.1 rfl (lv_room (Nat.le_of_ble_eq_true rfl)) dX0_units_1 ⟨Nat.le_of_ble_eq_true rfl, Nat.le_of_ble_eq_true rfl⟩) hS (fun q _ h => hFc q h) hFc (fun r_1 u t H1 locs ht hvm hw hB hz1 hk1 hS => ?_)
  obtain ⟨hP1, hK1, hD1⟩ := hB
  rw [ht] at hP1
  obtain ⟨hP, hD⟩ := va_join (wr := [(o_Ao, .inl (tC 0, 44, .inl ao))]) (w1 := [(o_A, .inr (0, [.ref o_Ao, .int (fA 1)]))]) hP hD [0] [1] rfl rfl (by decide) (by decide) hk1 hFc hP1 hD1
  generalize H1 = H at hP hS ⊢
  have hP : va_P (dC, dI) vwCl [(o_Ao, .inl (tC 0, 44, .inl ao)), (o_A, .inr (0, [.ref o_Ao, .int (fA 1)]))] H := hP
  have hD : va_D A [(o_Ao, .inl (tC 0, 44, .inl ao)), (o_A, .inr (0, [.ref o_Ao, .int (fA 1)]))] := hD
  have er_1 : r_1 = (FX0_size fA) := hw
  have hPc := hP.sub (ws' := []) [] rfl
  have hDc := hD.sub (ws' := []) [] (by decide) rfl
  have hFc := va_free (wc := []) hD hS hA [] rfl
  refine va_calli (va_runSN (As := [.int r_1]) (rest := []) ⟨hx, hb, hml, hown, hts⟩ (c_X9_unitsUpTo l dC dI tC H.size r_1) ⟨va_cnB 1 hts (gB wd_401) rfl rfl rfl hN.1 (hts _ (List.mem_cons_of_mem _ wd_1)) dsc_X9_unitsUpTo.2 ⟨Nat.le_of_ble_eq_true rfl, Nat.le_of_ble_eq_true rfl⟩, hts _ (List.mem_cons_of_mem _ wd_400), trivial⟩ ⟨fun a U g mk q => by obtain ⟨q0, q1, qP, qK, qN, qD⟩ := q; exact ⟨q0, q1, qP, va_K.moved (u := U) (U := U.calling g mk a) (Vm.Alike.refl U.vm) qK, NW.same (u := U) (U := U.calling g mk a) rfl qN, qD⟩, fun U hU hW => ⟨rfl, by rw [hU], by rw [hU]; exact hPc, va_K.moved hW.alike hK, NW.warm hW hN, hDc.weaken (fun _ _ _ _ => trivial)⟩⟩ rfl rfl hl.1 rfl (lv_room (Nat.le_of_ble_eq_true rfl)) dX0_units_4 ⟨Nat.le_of_ble_eq_true rfl, Nat.le_of_ble_eq_true rfl⟩) hS (fun q _ h => hFc q h) hFc (fun r_2 u t H1 locs ht hvm hw hB hz1 hk1 hS => ?_)
  obtain ⟨hP1, hK1, hD1⟩ := hB
  rw [ht] at hP1
  obtain ⟨hP, hD⟩ := va_join (wr := [(o_Ao, .inl (tC 0, 44, .inl ao)), (o_A, .inr (0, [.ref o_Ao, .int (fA 1)]))]) (w1 := []) hP hD [] [0, 1] rfl rfl (by decide) (by decide) hk1 hFc hP1 hD1
  generalize H1 = H at hP hS ⊢
  have hP : va_P (dC, dI) vwCl [(o_Ao, .inl (tC 0, 44, .inl ao)), (o_A, .inr (0, [.ref o_Ao, .int (fA 1)]))] H := hP
  have hD : va_D A [(o_Ao, .inl (tC 0, 44, .inl ao)), (o_A, .inr (0, [.ref o_Ao, .int (fA 1)]))] := hD
  have er_2 : r_2 = (FX9_unitsUpTo r_1) := hw
  refine lv_aload_n hx hb dX0_units_7 rfl (lv_at hl 0 rfl) ?_
  have hPc := hP.sub (ws' := [(o_A, .inr (0, [.ref o_Ao, .int (fA 1)])), (o_Ao, .inl (tC 0, 44, .inl ao))]) [1, 0] rfl
  have hDc := hD.sub (ws' := [(o_A, .inr (0, [.ref o_Ao, .int (fA 1)])), (o_Ao, .inl (tC 0, 44, .inl ao))]) [1, 0] (by decide) rfl
  have hFc := va_free (wc := [(o_A, .inr (0, [.ref o_Ao, .int (fA 1)])), (o_Ao, .inl (tC 0, 44, .inl ao))]) hD hS hA [1, 0] rfl
  refine va_calli (va_runV (As := []) (rest := [.int r_2]) ⟨hx, hb, hml, hown, hts⟩ (c_X0_unit l dC dI tC o_A o_Ao H.size fA ao) (cwV 0 hts (gV wd_340 wd_341 wd_342 wd_2 wd_343) rfl rfl rfl dsc_X0_unit ⟨Nat.le_of_ble_eq_true rfl, Nat.le_of_ble_eq_true rfl⟩) ⟨fun a U g mk q => by obtain ⟨q0, q1, qP, qK, qN, qD⟩ := q; exact ⟨q0, q1, qP, va_K.moved (u := U) (U := U.calling g mk a) (Vm.Alike.refl U.vm) qK, NW.same (u := U) (U := U.calling g mk a) rfl qN, qD⟩, va_recv hK hPc (ci := 0) (q0 := 0) rfl rfl, fun U hU hW => ⟨rfl, by rw [hU], by rw [hU]; exact hPc, va_K.moved hW.alike hK, NW.warm hW hN, hDc.weaken (fun _ _ _ _ => trivial)⟩⟩ rfl rfl hl.1 rfl (lv_room (Nat.le_of_ble_eq_true rfl)) dX0_units_8 ⟨Nat.le_of_ble_eq_true rfl, Nat.le_of_ble_eq_true rfl⟩) hS (fun q _ h => hFc q h) hFc (fun r_3 u t H1 locs ht hvm hw hB hz1 hk1 hS => ?_)
  obtain ⟨hP1, hK1, hD1⟩ := hB
  rw [ht] at hP1
  obtain ⟨hP, hD⟩ := va_join (wr := []) (w1 := [(o_A, .inr (0, [.ref o_Ao, .int (fA 1)])), (o_Ao, .inl (tC 0, 44, .inl ao))]) hP hD [1, 0] [] rfl rfl (by decide) (by decide) hk1 hFc hP1 hD1
  generalize H1 = H at hP hS ⊢
  have hP : va_P (dC, dI) vwCl [(o_A, .inr (0, [.ref o_Ao, .int (fA 1)])), (o_Ao, .inl (tC 0, 44, .inl ao))] H := hP
  have hD : va_D A [(o_A, .inr (0, [.ref o_Ao, .int (fA 1)])), (o_Ao, .inl (tC 0, 44, .inl ao))] := hD
  have er_3 : r_3 = (FX0_unit fA ao) := hw
  refine lv_ishl hx hb dX0_units_11 ?_
  have hP9 := hP.sub (ws' := [(o_A, .inr (0, [.ref o_Ao, .int (fA 1)])), (o_Ao, .inl (tC 0, 44, .inl ao))]) [0, 1] rfl
  have hD9 := hD.sub (ws' := [(o_A, .inr (0, [.ref o_Ao, .int (fA 1)])), (o_Ao, .inl (tC 0, 44, .inl ao))]) [0, 1] (by decide) rfl
  exact W.iret (v := (r_2 <<< (r_3 &&& 31))) hx hb hr (fun t ht hW => ⟨⟨(r_2 <<< (r_3 &&& 31)), (), rfl, (by subst er_1 er_2 er_3; rw [FX0_units]; try rfl), by rw [ht]; exact hP9, va_K.moved hW.alike hK, hD9⟩, hS.F ht⟩) hS.2.2 dX0_units_12
set_option maxHeartbeats 4000000 in
set_option maxRecDepth 100000 in
theorem c_X0_isFitFragment (l : Launch) (dC : Nat → ClassId) (dI : Nat → Nat → Nat) (tC : Nat → ClassId) (o_A o_Ao : Nat) (sz : Nat) (fA : (Nat → Int32)) (ao : (Nat → Int32)) : Met l yX0_isFitFragment wsX0_isFitFragment ({ frames := 2, cells := 0, slots := 0, locals := 40 }) (va_Pc [.ref o_A] (fun U => U.heap.size = sz ∧ va_P (dC, dI) vwCl [(o_A, .inr (0, [.ref o_Ao, .int (fA 1)])), (o_Ao, .inl (tC 0, 44, .inl ao))] U.heap ∧ va_K (dC, dI) vwCl (TY tC) U ∧ NW U ∧ va_D (fun _ => True) [(o_A, .inr (0, [.ref o_Ao, .int (fA 1)])), (o_Ao, .inl (tC 0, 44, .inl ao))])) (va_Qi (fun (r : Int32) (u : Unit) => r = FX0_isFitFragment fA ao) (fun (u : Unit) (t : State) => va_P (dC, dI) vwCl [(o_A, .inr (0, [.ref o_Ao, .int (fA 1)])), (o_Ao, .inl (tC 0, 44, .inl ao))] t.heap ∧ va_K (dC, dI) vwCl (TY tC) t ∧ va_D (va_A [(o_A, .inr (0, [.ref o_Ao, .int (fA 1)])), (o_Ao, .inl (tC 0, 44, .inl ao))] sz) [(o_A, .inr (0, [.ref o_Ao, .int (fA 1)])), (o_Ao, .inl (tC 0, 44, .inl ao))]) (va_A [(o_A, .inr (0, [.ref o_Ao, .int (fA 1)])), (o_Ao, .inl (tC 0, 44, .inl ao))] sz)) 0 0 (va_A [(o_A, .inr (0, [.ref o_Ao, .int (fA 1)])), (o_Ao, .inl (tC 0, 44, .inl ao))] sz) := by
  refine Met.ofW (cc := cX0_isFitFragment) (maxL := 1) (ret := (some .boolean)) (by decide) rfl ?_
  intro p e s m args below meth c s₁ B hml hv
  obtain ⟨rfl, hsz, hP, hK, hN, hD0⟩ := hv
  have hx := B.exec
  have hb := B.bytes
  have hr := B.returns
  have hts := atoms_spec (ws := wsX0_isFitFragment) B.pre
  have hown : s.vm.findClass RX0 = some m.cls := findClass_of_methodNamed B.named
  have hlocks := B.notSynchronized
  subst hsz
  have hD := hD0.self (sz := s.heap.size)
  generalize hAe : va_A [(o_A, .inr (0, [.ref o_Ao, .int (fA 1)])), (o_Ao, .inl (tC 0, 44, .inl ao))] s.heap.size = A at hD ⊢
  have hA : ∀ q : Nat, s.heap.size ≤ q → A q := fun q h => by rw [← hAe]; exact Or.inr h
  have hS : va_S A s.heap s.heap [] := va_S.rf
  have hP : va_P (dC, dI) vwCl [(o_A, .inr (0, [.ref o_Ao, .int (fA 1)])), (o_Ao, .inl (tC 0, 44, .inl ao))] s.heap := hP
  have hl := lv_entry ([.ref o_A]) (n := 1) (Nat.le_of_ble_eq_true rfl)
  rw [lg_entry_eq]
  generalize (lg_sl ([.ref o_A]) ++ List.replicate (1 - (lg_sl ([.ref o_A])).length) Slot.unset).toArray = ls at hl ⊢
  have hl : lv_has ls 1 [(0, .ref o_A)] := hl
  refine lv_aload_n hx hb dX0_isFitFragment_0 rfl (lv_at hl 0 rfl) ?_
  have hPc := hP.sub (ws' := [(o_A, .inr (0, [.ref o_Ao, .int (fA 1)])), (o_Ao, .inl (tC 0, 44, .inl ao))]) [0, 1] rfl
  have hDc := hD.sub (ws' := [(o_A, .inr (0, [.ref o_Ao, .int (fA 1)])), (o_Ao, .inl (tC 0, 44, .inl ao))]) [0, 1] (by decide) rfl
  have hFc := va_free (wc := [(o_A, .inr (0, [.ref o_Ao, .int (fA 1)])), (o_Ao, .inl (tC 0, 44, .inl ao))]) hD hS hA [0, 1] rfl
  refine va_calli (va_runV (As := []) (rest := []) ⟨hx, hb, hml, hown, hts⟩ (c_X0_unit l dC dI tC o_A o_Ao s.heap.size fA ao) (cwV 0 hts (gV wd_340 wd_341 wd_342 wd_2 wd_343) rfl rfl rfl dsc_X0_unit ⟨Nat.le_of_ble_eq_true rfl, Nat.le_of_ble_eq_true rfl⟩) ⟨fun a U g mk q => by obtain ⟨q0, q1, qP, qK, qN, qD⟩ := q; exact ⟨q0, q1, qP, va_K.moved (u := U) (U := U.calling g mk a) (Vm.Alike.refl U.vm) qK, NW.same (u := U) (U := U.calling g mk a) rfl qN, qD⟩, va_recv hK hPc (ci := 0) (q0 := 0) rfl rfl, fun U hU hW => ⟨rfl, by rw [hU], by rw [hU]; exact hPc, va_K.moved hW.alike hK, NW.warm hW hN, hDc.weaken (fun _ _ _ _ => trivial)⟩⟩ rfl rfl hl.1 rfl (lv_room (Nat.le_of_ble_eq_true rfl)) dX0_isFitFragment_1 ⟨Nat.le_of_ble_eq_true rfl, Nat.le_of_ble_eq_true rfl⟩) hS (fun q _ h => hFc q h) hFc (fun r_1 u t H1 locs ht hvm hw hB hz1 hk1 hS => ?_)
  obtain ⟨hP1, hK1, hD1⟩ := hB
  rw [ht] at hP1
  obtain ⟨hP, hD⟩ := va_join (wr := []) (w1 := [(o_A, .inr (0, [.ref o_Ao, .int (fA 1)])), (o_Ao, .inl (tC 0, 44, .inl ao))]) hP hD [0, 1] [] rfl rfl (by decide) (by decide) hk1 hFc hP1 hD1
  generalize H1 = H at hP hS ⊢
  have hP : va_P (dC, dI) vwCl [(o_A, .inr (0, [.ref o_Ao, .int (fA 1)])), (o_Ao, .inl (tC 0, 44, .inl ao))] H := hP
  have hD : va_D A [(o_A, .inr (0, [.ref o_Ao, .int (fA 1)])), (o_Ao, .inl (tC 0, 44, .inl ao))] := hD
  have er_1 : r_1 = (FX0_unit fA ao) := hw
  refine lv_bipush (v := 8) hx hb dX0_isFitFragment_4 (by decide) ?_
  refine lv_icmp_ge (tgt := 18) hx hb dX0_isFitFragment_6 (by decide) (fun c_2 => ?_) (fun c_2 => ?_)
  · skip
    have c_2 : 8 ≤ r_1 := c_2
    have tc_2 : (8 : Int) ≤ r_1.toInt := Int32.le_iff_toInt_le.mp c_2
    refine lv_iconst (v := 0) hx hb dX0_isFitFragment_18 (by decide) ?_
    have hP9 := hP.sub (ws' := [(o_A, .inr (0, [.ref o_Ao, .int (fA 1)])), (o_Ao, .inl (tC 0, 44, .inl ao))]) [0, 1] rfl
    have hD9 := hD.sub (ws' := [(o_A, .inr (0, [.ref o_Ao, .int (fA 1)])), (o_Ao, .inl (tC 0, 44, .inl ao))]) [0, 1] (by decide) rfl
    exact W.zret (v := 0) hx hb hr rfl (fun t ht hW => ⟨⟨0, (), rfl, (by subst er_1; rw [FX0_isFitFragment]; rw [if_pos c_2]; try rfl), by rw [ht]; exact hP9, va_K.moved hW.alike hK, hD9⟩, hS.F ht⟩) hS.2.2 dX0_isFitFragment_19
  · skip
    have c_2 : ¬ (8 ≤ r_1) := c_2
    have tc_2 : ¬ (8 : Int) ≤ r_1.toInt := fun q => c_2 (Int32.le_iff_toInt_le.mpr q)
    refine lv_aload_n hx hb dX0_isFitFragment_9 rfl (lv_at hl 0 rfl) ?_
    have hPc := hP.sub (ws' := [(o_A, .inr (0, [.ref o_Ao, .int (fA 1)])), (o_Ao, .inl (tC 0, 44, .inl ao))]) [0, 1] rfl
    have hDc := hD.sub (ws' := [(o_A, .inr (0, [.ref o_Ao, .int (fA 1)])), (o_Ao, .inl (tC 0, 44, .inl ao))]) [0, 1] (by decide) rfl
    have hFc := va_free (wc := [(o_A, .inr (0, [.ref o_Ao, .int (fA 1)])), (o_Ao, .inl (tC 0, 44, .inl ao))]) hD hS hA [0, 1] rfl
    refine va_calli (va_runV (As := []) (rest := []) ⟨hx, hb, hml, hown, hts⟩ (c_X0_reach l dC dI tC o_A o_Ao H.size fA ao) (cwV 0 hts (gV wd_344 wd_345 wd_346 wd_2 wd_347) rfl rfl rfl dsc_X0_reach ⟨Nat.le_of_ble_eq_true rfl, Nat.le_of_ble_eq_true rfl⟩) ⟨fun a U g mk q => by obtain ⟨q0, q1, qP, qK, qN, qD⟩ := q; exact ⟨q0, q1, qP, va_K.moved (u := U) (U := U.calling g mk a) (Vm.Alike.refl U.vm) qK, NW.same (u := U) (U := U.calling g mk a) rfl qN, qD⟩, va_recv hK hPc (ci := 0) (q0 := 0) rfl rfl, fun U hU hW => ⟨rfl, by rw [hU], by rw [hU]; exact hPc, va_K.moved hW.alike hK, NW.warm hW hN, hDc.weaken (fun _ _ _ _ => trivial)⟩⟩ rfl rfl hl.1 rfl (lv_room (Nat.le_of_ble_eq_true rfl)) dX0_isFitFragment_10 ⟨Nat.le_of_ble_eq_true rfl, Nat.le_of_ble_eq_true rfl⟩) hS (fun q _ h => hFc q h) hFc (fun r_3 u t H1 locs ht hvm hw hB hz1 hk1 hS => ?_)
    obtain ⟨hP1, hK1, hD1⟩ := hB
    rw [ht] at hP1
    obtain ⟨hP, hD⟩ := va_join (wr := []) (w1 := [(o_A, .inr (0, [.ref o_Ao, .int (fA 1)])), (o_Ao, .inl (tC 0, 44, .inl ao))]) hP hD [0, 1] [] rfl rfl (by decide) (by decide) hk1 hFc hP1 hD1
    generalize H1 = H at hP hS ⊢
    have hP : va_P (dC, dI) vwCl [(o_A, .inr (0, [.ref o_Ao, .int (fA 1)])), (o_Ao, .inl (tC 0, 44, .inl ao))] H := hP
    have hD : va_D A [(o_A, .inr (0, [.ref o_Ao, .int (fA 1)])), (o_Ao, .inl (tC 0, 44, .inl ao))] := hD
    have er_3 : r_3 = (FX0_reach fA ao) := hw
    refine lv_bipush (v := 32) hx hb dX0_isFitFragment_13 (by decide) ?_
    refine lv_icmp_le (tgt := 20) hx hb dX0_isFitFragment_15 (by decide) (fun c_4 => ?_) (fun c_4 => ?_)
    · skip
      have c_4 : r_3 ≤ 32 := c_4
      have tc_4 : r_3.toInt ≤ (32 : Int) := Int32.le_iff_toInt_le.mp c_4
      refine lv_aload_n hx hb dX0_isFitFragment_20 rfl (lv_at hl 0 rfl) ?_
      have hPc := hP.sub (ws' := [(o_A, .inr (0, [.ref o_Ao, .int (fA 1)])), (o_Ao, .inl (tC 0, 44, .inl ao))]) [0, 1] rfl
      have hDc := hD.sub (ws' := [(o_A, .inr (0, [.ref o_Ao, .int (fA 1)])), (o_Ao, .inl (tC 0, 44, .inl ao))]) [0, 1] (by decide) rfl
      have hFc := va_free (wc := [(o_A, .inr (0, [.ref o_Ao, .int (fA 1)])), (o_Ao, .inl (tC 0, 44, .inl ao))]) hD hS hA [0, 1] rfl
      refine va_calli (va_runV (As := []) (rest := []) ⟨hx, hb, hml, hown, hts⟩ (c_X0_isEnd l dC dI tC o_A o_Ao H.size fA ao) (cwV 0 hts (gV wd_352 wd_353 wd_354 wd_2 wd_355) rfl rfl rfl dsc_X0_isEnd ⟨Nat.le_of_ble_eq_true rfl, Nat.le_of_ble_eq_true rfl⟩) ⟨fun a U g mk q => by obtain ⟨q0, q1, qP, qK, qN, qD⟩ := q; exact ⟨q0, q1, qP, va_K.moved (u := U) (U := U.calling g mk a) (Vm.Alike.refl U.vm) qK, NW.same (u := U) (U := U.calling g mk a) rfl qN, qD⟩, va_recv hK hPc (ci := 0) (q0 := 0) rfl rfl, fun U hU hW => ⟨rfl, by rw [hU], by rw [hU]; exact hPc, va_K.moved hW.alike hK, NW.warm hW hN, hDc.weaken (fun _ _ _ _ => trivial)⟩⟩ rfl rfl hl.1 rfl (lv_room (Nat.le_of_ble_eq_true rfl)) dX0_isFitFragment_21 ⟨Nat.le_of_ble_eq_true rfl, Nat.le_of_ble_eq_true rfl⟩) hS (fun q _ h => hFc q h) hFc (fun r_5 u t H1 locs ht hvm hw hB hz1 hk1 hS => ?_)
      obtain ⟨hP1, hK1, hD1⟩ := hB
      rw [ht] at hP1
      obtain ⟨hP, hD⟩ := va_join (wr := []) (w1 := [(o_A, .inr (0, [.ref o_Ao, .int (fA 1)])), (o_Ao, .inl (tC 0, 44, .inl ao))]) hP hD [0, 1] [] rfl rfl (by decide) (by decide) hk1 hFc hP1 hD1
      generalize H1 = H at hP hS ⊢
      have hP : va_P (dC, dI) vwCl [(o_A, .inr (0, [.ref o_Ao, .int (fA 1)])), (o_Ao, .inl (tC 0, 44, .inl ao))] H := hP
      have hD : va_D A [(o_A, .inr (0, [.ref o_Ao, .int (fA 1)])), (o_Ao, .inl (tC 0, 44, .inl ao))] := hD
      have er_5 : r_5 = (FX0_isEnd fA ao) := hw
      refine lv_if_ne (tgt := 43) hx hb dX0_isFitFragment_24 (by decide) (fun c_6 => ?_) (fun c_6 => ?_)
      · skip
        have c_6 : ¬ (r_5 = 0) := c_6
        refine lv_iconst (v := 1) hx hb dX0_isFitFragment_43 (by decide) ?_
        refine lv_goto (tgt := 48) hx hb dX0_isFitFragment_44 (by decide) ?_
        have hP9 := hP.sub (ws' := [(o_A, .inr (0, [.ref o_Ao, .int (fA 1)])), (o_Ao, .inl (tC 0, 44, .inl ao))]) [0, 1] rfl
        have hD9 := hD.sub (ws' := [(o_A, .inr (0, [.ref o_Ao, .int (fA 1)])), (o_Ao, .inl (tC 0, 44, .inl ao))]) [0, 1] (by decide) rfl
        exact W.zret (v := 1) hx hb hr rfl (fun t ht hW => ⟨⟨1, (), rfl, (by subst er_1 er_3 er_5; rw [FX0_isFitFragment]; rw [if_neg c_2]; rw [if_pos c_4]; rw [if_neg c_6]; try rfl), by rw [ht]; exact hP9, va_K.moved hW.alike hK, hD9⟩, hS.F ht⟩) hS.2.2 dX0_isFitFragment_48
      · skip
        have c_6 : r_5 = 0 := c_6
        have tc_6 : r_5.toInt = (0 : Int) := congrArg Int32.toInt c_6
        refine lv_aload_n hx hb dX0_isFitFragment_27 rfl (lv_at hl 0 rfl) ?_
        have hPc := hP.sub (ws' := [(o_A, .inr (0, [.ref o_Ao, .int (fA 1)]))]) [0] rfl
        have hDc := hD.sub (ws' := [(o_A, .inr (0, [.ref o_Ao, .int (fA 1)]))]) [0] (by decide) rfl
        have hFc := va_free (wc := [(o_A, .inr (0, [.ref o_Ao, .int (fA 1)]))]) hD hS hA [0] rfl
        refine va_calli (va_runV (As := []) (rest := []) ⟨hx, hb, hml, hown, hts⟩ (c_X0_size l dC dI tC o_A o_Ao H.size fA) (cwV 0 hts (gV wd_348 wd_349 wd_350 wd_2 wd_351) rfl rfl rfl dsc_X0_size ⟨Nat.le_of_ble_eq_true rfl, Nat.le_of_ble_eq_true rfl⟩) ⟨fun a U g mk q => by obtain ⟨q0, q1, qP, qK, qN, qD⟩ := q; exact ⟨q0, q1, qP, va_K.moved (u := U) (U := U.calling g mk a) (Vm.Alike.refl U.vm) qK, NW.same (u := U) (U := U.calling g mk a) rfl qN, qD⟩, va_recv hK hPc (ci := 0) (q0 := 0) rfl rfl, fun U hU hW => ⟨rfl, by rw [hU], by rw [hU]; exact hPc, va_K.moved hW.alike hK, NW.warm hW hN, hDc.weaken (fun _ _ _ _ => trivial)⟩⟩ rfl rfl hl.1 rfl (lv_room (Nat.le_of_ble_eq_true rfl)) dX0_isFitFragment_28 ⟨Nat.le_of_ble_eq_true rfl, Nat.le_of_ble_eq_true rfl⟩) hS (fun q _ h => hFc q h) hFc (fun r_7 u t H1 locs ht hvm hw hB hz1 hk1 hS => ?_)
        obtain ⟨hP1, hK1, hD1⟩ := hB
        rw [ht] at hP1
        obtain ⟨hP, hD⟩ := va_join (wr := [(o_Ao, .inl (tC 0, 44, .inl ao))]) (w1 := [(o_A, .inr (0, [.ref o_Ao, .int (fA 1)]))]) hP hD [0] [1] rfl rfl (by decide) (by decide) hk1 hFc hP1 hD1
        generalize H1 = H at hP hS ⊢
        have hP : va_P (dC, dI) vwCl [(o_Ao, .inl (tC 0, 44, .inl ao)), (o_A, .inr (0, [.ref o_Ao, .int (fA 1)]))] H := hP
        have hD : va_D A [(o_Ao, .inl (tC 0, 44, .inl ao)), (o_A, .inr (0, [.ref o_Ao, .int (fA 1)]))] := hD
        have er_7 : r_7 = (FX0_size fA) := hw
        refine lv_if_le (tgt := 47) hx hb dX0_isFitFragment_31 (by decide) (fun c_8 => ?_) (fun c_8 => ?_)
        · skip
          have c_8 : r_7 ≤ 0 := c_8
          have tc_8 : r_7.toInt ≤ (0 : Int) := Int32.le_iff_toInt_le.mp c_8
          refine lv_iconst (v := 0) hx hb dX0_isFitFragment_47 (by decide) ?_
          have hP9 := hP.sub (ws' := [(o_A, .inr (0, [.ref o_Ao, .int (fA 1)])), (o_Ao, .inl (tC 0, 44, .inl ao))]) [1, 0] rfl
          have hD9 := hD.sub (ws' := [(o_A, .inr (0, [.ref o_Ao, .int (fA 1)])), (o_Ao, .inl (tC 0, 44, .inl ao))]) [1, 0] (by decide) rfl
          exact W.zret (v := 0) hx hb hr rfl (fun t ht hW => ⟨⟨0, (), rfl, (by subst er_1 er_3 er_5 er_7; rw [FX0_isFitFragment]; rw [if_neg c_2]; rw [if_pos c_4]; rw [if_pos c_6]; rw [if_pos c_8]; try rfl), by rw [ht]; exact hP9, va_K.moved hW.alike hK, hD9⟩, hS.F ht⟩) hS.2.2 dX0_isFitFragment_48
        · skip
          have c_8 : ¬ (r_7 ≤ 0) := c_8
          have tc_8 : ¬ r_7.toInt ≤ (0 : Int) := fun q => c_8 (Int32.le_iff_toInt_le.mpr q)
          refine lv_aload_n hx hb dX0_isFitFragment_34 rfl (lv_at hl 0 rfl) ?_
          have hPc := hP.sub (ws' := [(o_A, .inr (0, [.ref o_Ao, .int (fA 1)]))]) [1] rfl
          have hDc := hD.sub (ws' := [(o_A, .inr (0, [.ref o_Ao, .int (fA 1)]))]) [1] (by decide) rfl
          have hFc := va_free (wc := [(o_A, .inr (0, [.ref o_Ao, .int (fA 1)]))]) hD hS hA [1] rfl
          refine va_calli (va_runV (As := []) (rest := []) ⟨hx, hb, hml, hown, hts⟩ (c_X0_size l dC dI tC o_A o_Ao H.size fA) (cwV 0 hts (gV wd_348 wd_349 wd_350 wd_2 wd_351) rfl rfl rfl dsc_X0_size ⟨Nat.le_of_ble_eq_true rfl, Nat.le_of_ble_eq_true rfl⟩) ⟨fun a U g mk q => by obtain ⟨q0, q1, qP, qK, qN, qD⟩ := q; exact ⟨q0, q1, qP, va_K.moved (u := U) (U := U.calling g mk a) (Vm.Alike.refl U.vm) qK, NW.same (u := U) (U := U.calling g mk a) rfl qN, qD⟩, va_recv hK hPc (ci := 0) (q0 := 0) rfl rfl, fun U hU hW => ⟨rfl, by rw [hU], by rw [hU]; exact hPc, va_K.moved hW.alike hK, NW.warm hW hN, hDc.weaken (fun _ _ _ _ => trivial)⟩⟩ rfl rfl hl.1 rfl (lv_room (Nat.le_of_ble_eq_true rfl)) dX0_isFitFragment_35 ⟨Nat.le_of_ble_eq_true rfl, Nat.le_of_ble_eq_true rfl⟩) hS (fun q _ h => hFc q h) hFc (fun r_9 u t H1 locs ht hvm hw hB hz1 hk1 hS => ?_)
          obtain ⟨hP1, hK1, hD1⟩ := hB
          rw [ht] at hP1
          obtain ⟨hP, hD⟩ := va_join (wr := [(o_Ao, .inl (tC 0, 44, .inl ao))]) (w1 := [(o_A, .inr (0, [.ref o_Ao, .int (fA 1)]))]) hP hD [1] [0] rfl rfl (by decide) (by decide) hk1 hFc hP1 hD1
          generalize H1 = H at hP hS ⊢
          have hP : va_P (dC, dI) vwCl [(o_Ao, .inl (tC 0, 44, .inl ao)), (o_A, .inr (0, [.ref o_Ao, .int (fA 1)]))] H := hP
          have hD : va_D A [(o_Ao, .inl (tC 0, 44, .inl ao)), (o_A, .inr (0, [.ref o_Ao, .int (fA 1)]))] := hD
          have er_9 : r_9 = (FX0_size fA) := hw
          refine lv_iconst (v := 4) hx hb dX0_isFitFragment_38 (by decide) ?_
          refine lv_irem hx hb dX0_isFitFragment_39 (by decide) ?_
          refine lv_if_ne (tgt := 47) hx hb dX0_isFitFragment_40 (by decide) (fun c_10 => ?_) (fun c_10 => ?_)
          · skip
            have c_10 : ¬ ((r_9 - r_9 / (4 : Int32) * (4 : Int32)) = 0) := c_10
            refine lv_iconst (v := 0) hx hb dX0_isFitFragment_47 (by decide) ?_
            have hP9 := hP.sub (ws' := [(o_A, .inr (0, [.ref o_Ao, .int (fA 1)])), (o_Ao, .inl (tC 0, 44, .inl ao))]) [1, 0] rfl
            have hD9 := hD.sub (ws' := [(o_A, .inr (0, [.ref o_Ao, .int (fA 1)])), (o_Ao, .inl (tC 0, 44, .inl ao))]) [1, 0] (by decide) rfl
            exact W.zret (v := 0) hx hb hr rfl (fun t ht hW => ⟨⟨0, (), rfl, (by subst er_1 er_3 er_5 er_7 er_9; rw [FX0_isFitFragment]; rw [if_neg c_2]; rw [if_pos c_4]; rw [if_pos c_6]; rw [if_neg c_8]; rw [if_neg c_10]; try rfl), by rw [ht]; exact hP9, va_K.moved hW.alike hK, hD9⟩, hS.F ht⟩) hS.2.2 dX0_isFitFragment_48
          · skip
            have c_10 : (r_9 - r_9 / (4 : Int32) * (4 : Int32)) = 0 := c_10
            have tc_10 : (r_9 - r_9 / (4 : Int32) * (4 : Int32)).toInt = (0 : Int) := congrArg Int32.toInt c_10
            refine lv_iconst (v := 1) hx hb dX0_isFitFragment_43 (by decide) ?_
            refine lv_goto (tgt := 48) hx hb dX0_isFitFragment_44 (by decide) ?_
            have hP9 := hP.sub (ws' := [(o_A, .inr (0, [.ref o_Ao, .int (fA 1)])), (o_Ao, .inl (tC 0, 44, .inl ao))]) [1, 0] rfl
            have hD9 := hD.sub (ws' := [(o_A, .inr (0, [.ref o_Ao, .int (fA 1)])), (o_Ao, .inl (tC 0, 44, .inl ao))]) [1, 0] (by decide) rfl
            exact W.zret (v := 1) hx hb hr rfl (fun t ht hW => ⟨⟨1, (), rfl, (by subst er_1 er_3 er_5 er_7 er_9; rw [FX0_isFitFragment]; rw [if_neg c_2]; rw [if_pos c_4]; rw [if_pos c_6]; rw [if_neg c_8]; rw [if_pos c_10]; try rfl), by rw [ht]; exact hP9, va_K.moved hW.alike hK, hD9⟩, hS.F ht⟩) hS.2.2 dX0_isFitFragment_48
    · skip
      have c_4 : ¬ (r_3 ≤ 32) := c_4
      have tc_4 : ¬ r_3.toInt ≤ (32 : Int) := fun q => c_4 (Int32.le_iff_toInt_le.mpr q)
      refine lv_iconst (v := 0) hx hb dX0_isFitFragment_18 (by decide) ?_
      have hP9 := hP.sub (ws' := [(o_A, .inr (0, [.ref o_Ao, .int (fA 1)])), (o_Ao, .inl (tC 0, 44, .inl ao))]) [0, 1] rfl
      have hD9 := hD.sub (ws' := [(o_A, .inr (0, [.ref o_Ao, .int (fA 1)])), (o_Ao, .inl (tC 0, 44, .inl ao))]) [0, 1] (by decide) rfl
      exact W.zret (v := 0) hx hb hr rfl (fun t ht hW => ⟨⟨0, (), rfl, (by subst er_1 er_3; rw [FX0_isFitFragment]; rw [if_neg c_2]; rw [if_neg c_4]; try rfl), by rw [ht]; exact hP9, va_K.moved hW.alike hK, hD9⟩, hS.F ht⟩) hS.2.2 dX0_isFitFragment_19
set_option maxHeartbeats 4000000 in
set_option maxRecDepth 100000 in
theorem c_X0_sumsToZero (l : Launch) (dC : Nat → ClassId) (dI : Nat → Nat → Nat) (tC : Nat → ClassId) (o_A o_Ao : Nat) (sz : Nat) (fA : (Nat → Int32)) (ao : (Nat → Int32)) (h_l : (fA 1).toInt ≤ 44) : Met l yX0_sumsToZero wsX0_sumsToZero ({ frames := 0, cells := 0, slots := 0, locals := 0 }) (va_Pc [.ref o_A] (fun U => U.heap.size = sz ∧ va_P (dC, dI) vwCl [(o_A, .inr (0, [.ref o_Ao, .int (fA 1)])), (o_Ao, .inl (tC 0, 44, .inl ao))] U.heap ∧ va_K (dC, dI) vwCl (TY tC) U ∧ NW U ∧ va_D (fun _ => True) [(o_A, .inr (0, [.ref o_Ao, .int (fA 1)])), (o_Ao, .inl (tC 0, 44, .inl ao))])) (va_Qi (fun (r : Int32) (u : Unit) => r = FX0_sumsToZero fA ao) (fun (u : Unit) (t : State) => va_P (dC, dI) vwCl [(o_A, .inr (0, [.ref o_Ao, .int (fA 1)])), (o_Ao, .inl (tC 0, 44, .inl ao))] t.heap ∧ va_K (dC, dI) vwCl (TY tC) t ∧ va_D (va_A [(o_A, .inr (0, [.ref o_Ao, .int (fA 1)])), (o_Ao, .inl (tC 0, 44, .inl ao))] sz) [(o_A, .inr (0, [.ref o_Ao, .int (fA 1)])), (o_Ao, .inl (tC 0, 44, .inl ao))]) (va_A [(o_A, .inr (0, [.ref o_Ao, .int (fA 1)])), (o_Ao, .inl (tC 0, 44, .inl ao))] sz)) 0 0 (va_A [(o_A, .inr (0, [.ref o_Ao, .int (fA 1)])), (o_Ao, .inl (tC 0, 44, .inl ao))] sz) := by
  refine Met.ofW (cc := cX0_sumsToZero) (maxL := 3) (ret := (some .boolean)) (by decide) rfl ?_
  intro p e s m args below meth c s₁ B hml hv
  obtain ⟨rfl, hsz, hP, hK, hN, hD0⟩ := hv
  have hx := B.exec
  have hb := B.bytes
  have hr := B.returns
  have hts := atoms_spec (ws := wsX0_sumsToZero) B.pre
  have hown : s.vm.findClass RX0 = some m.cls := findClass_of_methodNamed B.named
  have hlocks := B.notSynchronized
  subst hsz
  have hD := hD0.self (sz := s.heap.size)
  generalize hAe : va_A [(o_A, .inr (0, [.ref o_Ao, .int (fA 1)])), (o_Ao, .inl (tC 0, 44, .inl ao))] s.heap.size = A at hD ⊢
  have hA : ∀ q : Nat, s.heap.size ≤ q → A q := fun q h => by rw [← hAe]; exact Or.inr h
  have hS : va_S A s.heap s.heap [] := va_S.rf
  have hP : va_P (dC, dI) vwCl [(o_A, .inr (0, [.ref o_Ao, .int (fA 1)])), (o_Ao, .inl (tC 0, 44, .inl ao))] s.heap := hP
  have hl := lv_entry ([.ref o_A]) (n := 3) (Nat.le_of_ble_eq_true rfl)
  rw [lg_entry_eq]
  generalize (lg_sl ([.ref o_A]) ++ List.replicate (3 - (lg_sl ([.ref o_A])).length) Slot.unset).toArray = ls at hl ⊢
  have hl : lv_has ls 3 [(0, .ref o_A)] := hl
  generalize hQ : MQ _ _ _ _ _ _ _ = Q
  refine lv_iconst (v := 0) hx hb dX0_sumsToZero_0 (by decide) ?_
  refine lv_istore_n (lv' := [(1, .int 0), (0, .ref o_A)]) hx hb dX0_sumsToZero_1 rfl hl (by decide) rfl (fun ls hl => ?_)
  refine lv_iconst (v := 3) hx hb dX0_sumsToZero_2 (by decide) ?_
  refine lv_istore_n (lv' := [(2, .int 3), (1, .int 0), (0, .ref o_A)]) hx hb dX0_sumsToZero_3 rfl hl (by decide) rfl (fun ls hl => ?_)
  have loop : ∀ (n : Nat) (y2 : Int32) (y1 : Int32) (H : Heap) (locs : List Loc) (ls : Array Slot), (3 ≤ y2.toInt) → (((fA 1).toInt - y2.toInt).toNat) < n → LX0_sumsToZero_4 fA ao n y2 y1 = FX0_sumsToZero fA ao → va_P (dC, dI) vwCl [(o_A, .inr (0, [.ref o_Ao, .int (fA 1)])), (o_Ao, .inl (tC 0, 44, .inl ao))] H → va_D A [(o_A, .inr (0, [.ref o_Ao, .int (fA 1)])), (o_Ao, .inl (tC 0, 44, .inl ao))] → va_S A s.heap H locs → lv_has ls 3 [(2, .int y2), (1, .int y1), (0, .ref o_A)] → W p l e (headSpec wsX0_sumsToZero ({ frames := 0, cells := 0, slots := 0, locals := 0 })).room s m ([.ref o_A] : List Value).toArray below meth c H locs 0 0 Q (F0 m 4 ls []) := by
    intro n; induction n with
    | zero => intro y2 y1 H locs ls h_i hm hL; exact absurd hm (Nat.not_lt_zero _)
    | succ n ih =>
      intro y2 y1 H locs ls h_i hm hL hP hD hS hl
      refine lv_iload_n hx hb dX0_sumsToZero_4 rfl (lv_at hl 0 rfl) ?_
      refine lv_aload_n hx hb dX0_sumsToZero_5 rfl (lv_at hl 2 rfl) ?_
      refine va_get (D := (dC, dI)) (ci := 0) (v := .int (fA 1)) (C := RX0) (T := TX0) (N := 2) hx hb hts (fun w h => List.mem_cons_of_mem _ (uwX0 w h)) hown hK hP 0 rfl rfl 1 (by decide) (hts _ (List.mem_cons_of_mem _ wd_31)) (fun _ h9 => h9) rfl dX0_sumsToZero_6 ?_
      refine lv_icmp_ge (tgt := 27) hx hb dX0_sumsToZero_9 (by decide) (fun c_1 => ?_) (fun c_1 => ?_)
      · skip
        have c_1 : (fA 1) ≤ y2 := c_1
        have tc_1 : (fA 1).toInt ≤ y2.toInt := Int32.le_iff_toInt_le.mp c_1
        refine lv_iload_n hx hb dX0_sumsToZero_27 rfl (lv_at hl 1 rfl) ?_
        refine lv_sipush (v := 255) hx hb dX0_sumsToZero_28 (by decide) ?_
        refine lv_iand hx hb dX0_sumsToZero_31 ?_
        refine lv_if_ne (tgt := 39) hx hb dX0_sumsToZero_32 (by decide) (fun c_2 => ?_) (fun c_2 => ?_)
        · skip
          have c_2 : ¬ ((y1 &&& (255 : Int32)) = 0) := c_2
          refine lv_iconst (v := 0) hx hb dX0_sumsToZero_39 (by decide) ?_
          have hP9 := hP.sub (ws' := [(o_A, .inr (0, [.ref o_Ao, .int (fA 1)])), (o_Ao, .inl (tC 0, 44, .inl ao))]) [0, 1] rfl
          have hD9 := hD.sub (ws' := [(o_A, .inr (0, [.ref o_Ao, .int (fA 1)])), (o_Ao, .inl (tC 0, 44, .inl ao))]) [0, 1] (by decide) rfl
          rw [← hQ]
          exact W.zret (v := 0) hx hb hr rfl (fun t ht hW => ⟨⟨0, (), rfl, (by rw [← hL]; rw [LX0_sumsToZero_4]; rw [if_pos c_1]; rw [if_neg c_2]; try rfl), by rw [ht]; exact hP9, va_K.moved hW.alike hK, hD9⟩, hS.F ht⟩) hS.2.2 dX0_sumsToZero_40
        · skip
          have c_2 : (y1 &&& (255 : Int32)) = 0 := c_2
          have tc_2 : (y1 &&& (255 : Int32)).toInt = (0 : Int) := congrArg Int32.toInt c_2
          refine lv_iconst (v := 1) hx hb dX0_sumsToZero_35 (by decide) ?_
          refine lv_goto (tgt := 40) hx hb dX0_sumsToZero_36 (by decide) ?_
          have hP9 := hP.sub (ws' := [(o_A, .inr (0, [.ref o_Ao, .int (fA 1)])), (o_Ao, .inl (tC 0, 44, .inl ao))]) [0, 1] rfl
          have hD9 := hD.sub (ws' := [(o_A, .inr (0, [.ref o_Ao, .int (fA 1)])), (o_Ao, .inl (tC 0, 44, .inl ao))]) [0, 1] (by decide) rfl
          rw [← hQ]
          exact W.zret (v := 1) hx hb hr rfl (fun t ht hW => ⟨⟨1, (), rfl, (by rw [← hL]; rw [LX0_sumsToZero_4]; rw [if_pos c_1]; rw [if_pos c_2]; try rfl), by rw [ht]; exact hP9, va_K.moved hW.alike hK, hD9⟩, hS.F ht⟩) hS.2.2 dX0_sumsToZero_40
      · skip
        have c_1 : ¬ ((fA 1) ≤ y2) := c_1
        have tc_1 : ¬ (fA 1).toInt ≤ y2.toInt := fun q => c_1 (Int32.le_iff_toInt_le.mpr q)
        refine lv_iload_n hx hb dX0_sumsToZero_12 rfl (lv_at hl 1 rfl) ?_
        refine lv_aload_n hx hb dX0_sumsToZero_13 rfl (lv_at hl 2 rfl) ?_
        refine va_get (D := (dC, dI)) (ci := 0) (v := .ref o_Ao) (C := RX0) (T := TX0) (N := 2) hx hb hts (fun w h => List.mem_cons_of_mem _ (uwX0 w h)) hown hK hP 0 rfl rfl 0 (by decide) (hts _ (List.mem_cons_of_mem _ wd_27)) (fun _ h9 => h9) rfl dX0_sumsToZero_14 ?_
        refine lv_iload_n hx hb dX0_sumsToZero_17 rfl (lv_at hl 0 rfl) ?_
        refine va_iald hx hb hK hP 1 0 rfl rfl (vp_in_iff.mpr (by omega)) dX0_sumsToZero_18 ?_
        refine lv_iadd hx hb dX0_sumsToZero_19 ?_
        refine lv_topi (fun x_3 (ex_3 : x_3 = (y1 + (ao y2.toNatClampNeg))) => ?_)
        refine lv_istore_n (lv' := [(1, .int x_3), (2, .int y2), (0, .ref o_A)]) hx hb dX0_sumsToZero_20 rfl hl (by decide) rfl (fun ls hl => ?_)
        obtain ⟨x_4, ex_4⟩ : ∃ y : Int32, y = (y2 + 1) := ⟨_, rfl⟩
        refine lv_iinc (v := x_4) (lv' := [(2, .int x_4), (1, .int x_3), (0, .ref o_A)]) hx hb dX0_sumsToZero_21 hl (k := 1) rfl (by rw [ex_4]; rfl) (by decide) rfl (fun ls hl => ?_)
        have tx_4 : x_4.toInt = y2.toInt + 1 := by rw [ex_4]; exact tI_ac 1 rfl (by omega) (by omega)
        refine lv_goto (tgt := 4) hx hb dX0_sumsToZero_24 (by decide) ?_
        exact ih x_4 x_3 _ _ ls (by omega) (by omega) (by subst ex_3 ex_4; rw [LX0_sumsToZero_4] at hL; rw [if_neg c_1] at hL; exact hL) (hP.sub [0, 1] rfl) (hD.sub [0, 1] (by decide) rfl) hS (lv_sub hl [0, 1, 2] rfl)
  exact loop 128 3 0 _ _ ls (by decide) (by have q0 : (3 : Int32).toInt = 3 := rfl; omega) (by rw [FX0_sumsToZero]; try rfl) hP hD hS hl
set_option maxHeartbeats 4000000 in
set_option maxRecDepth 100000 in
theorem c_X0_isFitDatagram (l : Launch) (dC : Nat → ClassId) (dI : Nat → Nat → Nat) (tC : Nat → ClassId) (o_A o_Ao : Nat) (sz : Nat) (fA : (Nat → Int32)) (ao : (Nat → Int32)) (h_l : (fA 1).toInt ≤ 44) : Met l yX0_isFitDatagram wsX0_isFitDatagram ({ frames := 3, cells := 0, slots := 0, locals := 60 }) (va_Pc [.ref o_A] (fun U => U.heap.size = sz ∧ va_P (dC, dI) vwCl [(o_A, .inr (0, [.ref o_Ao, .int (fA 1)])), (o_Ao, .inl (tC 0, 44, .inl ao))] U.heap ∧ va_K (dC, dI) vwCl (TY tC) U ∧ NW U ∧ va_D (fun _ => True) [(o_A, .inr (0, [.ref o_Ao, .int (fA 1)])), (o_Ao, .inl (tC 0, 44, .inl ao))])) (va_Qi (fun (r : Int32) (u : Unit) => r = FX0_isFitDatagram fA ao) (fun (u : Unit) (t : State) => va_P (dC, dI) vwCl [(o_A, .inr (0, [.ref o_Ao, .int (fA 1)])), (o_Ao, .inl (tC 0, 44, .inl ao))] t.heap ∧ va_K (dC, dI) vwCl (TY tC) t ∧ va_D (va_A [(o_A, .inr (0, [.ref o_Ao, .int (fA 1)])), (o_Ao, .inl (tC 0, 44, .inl ao))] sz) [(o_A, .inr (0, [.ref o_Ao, .int (fA 1)])), (o_Ao, .inl (tC 0, 44, .inl ao))]) (va_A [(o_A, .inr (0, [.ref o_Ao, .int (fA 1)])), (o_Ao, .inl (tC 0, 44, .inl ao))] sz)) 0 0 (va_A [(o_A, .inr (0, [.ref o_Ao, .int (fA 1)])), (o_Ao, .inl (tC 0, 44, .inl ao))] sz) := by
  refine Met.ofW (cc := cX0_isFitDatagram) (maxL := 1) (ret := (some .boolean)) (by decide) rfl ?_
  intro p e s m args below meth c s₁ B hml hv
  obtain ⟨rfl, hsz, hP, hK, hN, hD0⟩ := hv
  have hx := B.exec
  have hb := B.bytes
  have hr := B.returns
  have hts := atoms_spec (ws := wsX0_isFitDatagram) B.pre
  have hown : s.vm.findClass RX0 = some m.cls := findClass_of_methodNamed B.named
  have hlocks := B.notSynchronized
  subst hsz
  have hD := hD0.self (sz := s.heap.size)
  generalize hAe : va_A [(o_A, .inr (0, [.ref o_Ao, .int (fA 1)])), (o_Ao, .inl (tC 0, 44, .inl ao))] s.heap.size = A at hD ⊢
  have hA : ∀ q : Nat, s.heap.size ≤ q → A q := fun q h => by rw [← hAe]; exact Or.inr h
  have hS : va_S A s.heap s.heap [] := va_S.rf
  have hP : va_P (dC, dI) vwCl [(o_A, .inr (0, [.ref o_Ao, .int (fA 1)])), (o_Ao, .inl (tC 0, 44, .inl ao))] s.heap := hP
  have hl := lv_entry ([.ref o_A]) (n := 1) (Nat.le_of_ble_eq_true rfl)
  rw [lg_entry_eq]
  generalize (lg_sl ([.ref o_A]) ++ List.replicate (1 - (lg_sl ([.ref o_A])).length) Slot.unset).toArray = ls at hl ⊢
  have hl : lv_has ls 1 [(0, .ref o_A)] := hl
  refine lv_aload_n hx hb dX0_isFitDatagram_0 rfl (lv_at hl 0 rfl) ?_
  refine va_get (D := (dC, dI)) (ci := 0) (v := .int (fA 1)) (C := RX0) (T := TX0) (N := 2) hx hb hts (fun w h => List.mem_cons_of_mem _ (uwX0 w h)) hown hK hP 0 rfl rfl 1 (by decide) (hts _ (List.mem_cons_of_mem _ wd_31)) (fun _ h9 => h9) rfl dX0_isFitDatagram_1 ?_
  refine lv_bipush (v := 9) hx hb dX0_isFitDatagram_4 (by decide) ?_
  refine lv_icmp_lt (tgt := 44) hx hb dX0_isFitDatagram_6 (by decide) (fun c_1 => ?_) (fun c_1 => ?_)
  · skip
    have c_1 : (fA 1) < 9 := c_1
    have tc_1 : (fA 1).toInt < (9 : Int) := Int32.lt_iff_toInt_lt.mp c_1
    refine lv_iconst (v := 0) hx hb dX0_isFitDatagram_44 (by decide) ?_
    have hP9 := hP.sub (ws' := [(o_A, .inr (0, [.ref o_Ao, .int (fA 1)])), (o_Ao, .inl (tC 0, 44, .inl ao))]) [0, 1] rfl
    have hD9 := hD.sub (ws' := [(o_A, .inr (0, [.ref o_Ao, .int (fA 1)])), (o_Ao, .inl (tC 0, 44, .inl ao))]) [0, 1] (by decide) rfl
    exact W.zret (v := 0) hx hb hr rfl (fun t ht hW => ⟨⟨0, (), rfl, (by rw [FX0_isFitDatagram]; rw [if_pos c_1]; try rfl), by rw [ht]; exact hP9, va_K.moved hW.alike hK, hD9⟩, hS.F ht⟩) hS.2.2 dX0_isFitDatagram_45
  · skip
    have c_1 : ¬ ((fA 1) < 9) := c_1
    have tc_1 : ¬ (fA 1).toInt < (9 : Int) := fun q => c_1 (Int32.lt_iff_toInt_lt.mpr q)
    refine lv_aload_n hx hb dX0_isFitDatagram_9 rfl (lv_at hl 0 rfl) ?_
    refine va_get (D := (dC, dI)) (ci := 0) (v := .ref o_Ao) (C := RX0) (T := TX0) (N := 2) hx hb hts (fun w h => List.mem_cons_of_mem _ (uwX0 w h)) hown hK hP 0 rfl rfl 0 (by decide) (hts _ (List.mem_cons_of_mem _ wd_27)) (fun _ h9 => h9) rfl dX0_isFitDatagram_10 ?_
    refine lv_iconst (v := 4) hx hb dX0_isFitDatagram_13 (by decide) ?_
    refine va_iald hx hb hK hP 1 0 rfl rfl (vi_c (by decide +kernel)) dX0_isFitDatagram_14 ?_
    refine lv_iconst (v := 1) hx hb dX0_isFitDatagram_15 (by decide) ?_
    refine lv_icmp_ne (tgt := 44) hx hb dX0_isFitDatagram_16 (by decide) (fun c_2 => ?_) (fun c_2 => ?_)
    · skip
      have c_2 : ¬ ((ao 4) = 1) := c_2
      refine lv_iconst (v := 0) hx hb dX0_isFitDatagram_44 (by decide) ?_
      have hP9 := hP.sub (ws' := [(o_A, .inr (0, [.ref o_Ao, .int (fA 1)])), (o_Ao, .inl (tC 0, 44, .inl ao))]) [0, 1] rfl
      have hD9 := hD.sub (ws' := [(o_A, .inr (0, [.ref o_Ao, .int (fA 1)])), (o_Ao, .inl (tC 0, 44, .inl ao))]) [0, 1] (by decide) rfl
      exact W.zret (v := 0) hx hb hr rfl (fun t ht hW => ⟨⟨0, (), rfl, (by rw [FX0_isFitDatagram]; rw [if_neg c_1]; rw [if_neg c_2]; try rfl), by rw [ht]; exact hP9, va_K.moved hW.alike hK, hD9⟩, hS.F ht⟩) hS.2.2 dX0_isFitDatagram_45
    · skip
      have c_2 : (ao 4) = 1 := c_2
      have tc_2 : (ao 4).toInt = (1 : Int) := congrArg Int32.toInt c_2
      refine lv_aload_n hx hb dX0_isFitDatagram_19 rfl (lv_at hl 0 rfl) ?_
      have hPc := hP.sub (ws' := [(o_A, .inr (0, [.ref o_Ao, .int (fA 1)])), (o_Ao, .inl (tC 0, 44, .inl ao))]) [0, 1] rfl
      have hDc := hD.sub (ws' := [(o_A, .inr (0, [.ref o_Ao, .int (fA 1)])), (o_Ao, .inl (tC 0, 44, .inl ao))]) [0, 1] (by decide) rfl
      have hFc := va_free (wc := [(o_A, .inr (0, [.ref o_Ao, .int (fA 1)])), (o_Ao, .inl (tC 0, 44, .inl ao))]) hD hS hA [0, 1] rfl
      refine va_calli (va_runV (As := []) (rest := []) ⟨hx, hb, hml, hown, hts⟩ (c_X0_sumsToZero l dC dI tC o_A o_Ao s.heap.size fA ao (by first | assumption | omega | (simp only [k0, k1, k4, k5, k8, k9, k16]; omega) | exact h_Ss _ (by decide) | exact h_Ts _ (by decide) | exact h_Ms _ (by decide) | exact Or.inr rfl | exact rfl | decide)) (cwV 0 hts (gV wd_328 wd_330 wp_1 wd_2 wd_331) rfl rfl rfl dsc_X0_sumsToZero ⟨Nat.le_of_ble_eq_true rfl, Nat.le_of_ble_eq_true rfl⟩) ⟨fun a U g mk q => by obtain ⟨q0, q1, qP, qK, qN, qD⟩ := q; exact ⟨q0, q1, qP, va_K.moved (u := U) (U := U.calling g mk a) (Vm.Alike.refl U.vm) qK, NW.same (u := U) (U := U.calling g mk a) rfl qN, qD⟩, va_recv hK hPc (ci := 0) (q0 := 0) rfl rfl, fun U hU hW => ⟨rfl, by rw [hU], by rw [hU]; exact hPc, va_K.moved hW.alike hK, NW.warm hW hN, hDc.weaken (fun _ _ _ _ => trivial)⟩⟩ rfl rfl hl.1 rfl (lv_room (Nat.le_of_ble_eq_true rfl)) dX0_isFitDatagram_20 ⟨Nat.le_of_ble_eq_true rfl, Nat.le_of_ble_eq_true rfl⟩) hS (fun q _ h => hFc q h) hFc (fun r_3 u t H1 locs ht hvm hw hB hz1 hk1 hS => ?_)
      obtain ⟨hP1, hK1, hD1⟩ := hB
      rw [ht] at hP1
      obtain ⟨hP, hD⟩ := va_join (wr := []) (w1 := [(o_A, .inr (0, [.ref o_Ao, .int (fA 1)])), (o_Ao, .inl (tC 0, 44, .inl ao))]) hP hD [0, 1] [] rfl rfl (by decide) (by decide) hk1 hFc hP1 hD1
      generalize H1 = H at hP hS ⊢
      have hP : va_P (dC, dI) vwCl [(o_A, .inr (0, [.ref o_Ao, .int (fA 1)])), (o_Ao, .inl (tC 0, 44, .inl ao))] H := hP
      have hD : va_D A [(o_A, .inr (0, [.ref o_Ao, .int (fA 1)])), (o_Ao, .inl (tC 0, 44, .inl ao))] := hD
      have er_3 : r_3 = (FX0_sumsToZero fA ao) := hw
      refine lv_if_eq (tgt := 44) hx hb dX0_isFitDatagram_23 (by decide) (fun c_4 => ?_) (fun c_4 => ?_)
      · skip
        have c_4 : r_3 = 0 := c_4
        have tc_4 : r_3.toInt = (0 : Int) := congrArg Int32.toInt c_4
        refine lv_iconst (v := 0) hx hb dX0_isFitDatagram_44 (by decide) ?_
        have hP9 := hP.sub (ws' := [(o_A, .inr (0, [.ref o_Ao, .int (fA 1)])), (o_Ao, .inl (tC 0, 44, .inl ao))]) [0, 1] rfl
        have hD9 := hD.sub (ws' := [(o_A, .inr (0, [.ref o_Ao, .int (fA 1)])), (o_Ao, .inl (tC 0, 44, .inl ao))]) [0, 1] (by decide) rfl
        exact W.zret (v := 0) hx hb hr rfl (fun t ht hW => ⟨⟨0, (), rfl, (by subst er_3; rw [FX0_isFitDatagram]; rw [if_neg c_1]; rw [if_pos c_2]; rw [if_pos c_4]; try rfl), by rw [ht]; exact hP9, va_K.moved hW.alike hK, hD9⟩, hS.F ht⟩) hS.2.2 dX0_isFitDatagram_45
      · skip
        have c_4 : ¬ (r_3 = 0) := c_4
        refine lv_aload_n hx hb dX0_isFitDatagram_26 rfl (lv_at hl 0 rfl) ?_
        have hPc := hP.sub (ws' := [(o_A, .inr (0, [.ref o_Ao, .int (fA 1)])), (o_Ao, .inl (tC 0, 44, .inl ao))]) [0, 1] rfl
        have hDc := hD.sub (ws' := [(o_A, .inr (0, [.ref o_Ao, .int (fA 1)])), (o_Ao, .inl (tC 0, 44, .inl ao))]) [0, 1] (by decide) rfl
        have hFc := va_free (wc := [(o_A, .inr (0, [.ref o_Ao, .int (fA 1)])), (o_Ao, .inl (tC 0, 44, .inl ao))]) hD hS hA [0, 1] rfl
        refine va_calli (va_runV (As := []) (rest := []) ⟨hx, hb, hml, hown, hts⟩ (c_X0_isWhole l dC dI tC o_A o_Ao H.size fA ao) (cwV 0 hts (gV wd_332 wd_333 wd_334 wd_2 wd_335) rfl rfl rfl dsc_X0_isWhole ⟨Nat.le_of_ble_eq_true rfl, Nat.le_of_ble_eq_true rfl⟩) ⟨fun a U g mk q => by obtain ⟨q0, q1, qP, qK, qN, qD⟩ := q; exact ⟨q0, q1, qP, va_K.moved (u := U) (U := U.calling g mk a) (Vm.Alike.refl U.vm) qK, NW.same (u := U) (U := U.calling g mk a) rfl qN, qD⟩, va_recv hK hPc (ci := 0) (q0 := 0) rfl rfl, fun U hU hW => ⟨rfl, by rw [hU], by rw [hU]; exact hPc, va_K.moved hW.alike hK, NW.warm hW hN, hDc.weaken (fun _ _ _ _ => trivial)⟩⟩ rfl rfl hl.1 rfl (lv_room (Nat.le_of_ble_eq_true rfl)) dX0_isFitDatagram_27 ⟨Nat.le_of_ble_eq_true rfl, Nat.le_of_ble_eq_true rfl⟩) hS (fun q _ h => hFc q h) hFc (fun r_5 u t H1 locs ht hvm hw hB hz1 hk1 hS => ?_)
        obtain ⟨hP1, hK1, hD1⟩ := hB
        rw [ht] at hP1
        obtain ⟨hP, hD⟩ := va_join (wr := []) (w1 := [(o_A, .inr (0, [.ref o_Ao, .int (fA 1)])), (o_Ao, .inl (tC 0, 44, .inl ao))]) hP hD [0, 1] [] rfl rfl (by decide) (by decide) hk1 hFc hP1 hD1
        generalize H1 = H at hP hS ⊢
        have hP : va_P (dC, dI) vwCl [(o_A, .inr (0, [.ref o_Ao, .int (fA 1)])), (o_Ao, .inl (tC 0, 44, .inl ao))] H := hP
        have hD : va_D A [(o_A, .inr (0, [.ref o_Ao, .int (fA 1)])), (o_Ao, .inl (tC 0, 44, .inl ao))] := hD
        have er_5 : r_5 = (FX0_isWhole fA ao) := hw
        refine lv_if_ne (tgt := 40) hx hb dX0_isFitDatagram_30 (by decide) (fun c_6 => ?_) (fun c_6 => ?_)
        · skip
          have c_6 : ¬ (r_5 = 0) := c_6
          refine lv_iconst (v := 1) hx hb dX0_isFitDatagram_40 (by decide) ?_
          refine lv_goto (tgt := 45) hx hb dX0_isFitDatagram_41 (by decide) ?_
          have hP9 := hP.sub (ws' := [(o_A, .inr (0, [.ref o_Ao, .int (fA 1)])), (o_Ao, .inl (tC 0, 44, .inl ao))]) [0, 1] rfl
          have hD9 := hD.sub (ws' := [(o_A, .inr (0, [.ref o_Ao, .int (fA 1)])), (o_Ao, .inl (tC 0, 44, .inl ao))]) [0, 1] (by decide) rfl
          exact W.zret (v := 1) hx hb hr rfl (fun t ht hW => ⟨⟨1, (), rfl, (by subst er_3 er_5; rw [FX0_isFitDatagram]; rw [if_neg c_1]; rw [if_pos c_2]; rw [if_neg c_4]; rw [if_neg c_6]; try rfl), by rw [ht]; exact hP9, va_K.moved hW.alike hK, hD9⟩, hS.F ht⟩) hS.2.2 dX0_isFitDatagram_45
        · skip
          have c_6 : r_5 = 0 := c_6
          have tc_6 : r_5.toInt = (0 : Int) := congrArg Int32.toInt c_6
          refine lv_aload_n hx hb dX0_isFitDatagram_33 rfl (lv_at hl 0 rfl) ?_
          have hPc := hP.sub (ws' := [(o_A, .inr (0, [.ref o_Ao, .int (fA 1)])), (o_Ao, .inl (tC 0, 44, .inl ao))]) [0, 1] rfl
          have hDc := hD.sub (ws' := [(o_A, .inr (0, [.ref o_Ao, .int (fA 1)])), (o_Ao, .inl (tC 0, 44, .inl ao))]) [0, 1] (by decide) rfl
          have hFc := va_free (wc := [(o_A, .inr (0, [.ref o_Ao, .int (fA 1)])), (o_Ao, .inl (tC 0, 44, .inl ao))]) hD hS hA [0, 1] rfl
          refine va_calli (va_runV (As := []) (rest := []) ⟨hx, hb, hml, hown, hts⟩ (c_X0_isFitFragment l dC dI tC o_A o_Ao H.size fA ao) (cwV 0 hts (gV wd_336 wd_338 wp_2 wd_2 wd_339) rfl rfl rfl dsc_X0_isFitFragment ⟨Nat.le_of_ble_eq_true rfl, Nat.le_of_ble_eq_true rfl⟩) ⟨fun a U g mk q => by obtain ⟨q0, q1, qP, qK, qN, qD⟩ := q; exact ⟨q0, q1, qP, va_K.moved (u := U) (U := U.calling g mk a) (Vm.Alike.refl U.vm) qK, NW.same (u := U) (U := U.calling g mk a) rfl qN, qD⟩, va_recv hK hPc (ci := 0) (q0 := 0) rfl rfl, fun U hU hW => ⟨rfl, by rw [hU], by rw [hU]; exact hPc, va_K.moved hW.alike hK, NW.warm hW hN, hDc.weaken (fun _ _ _ _ => trivial)⟩⟩ rfl rfl hl.1 rfl (lv_room (Nat.le_of_ble_eq_true rfl)) dX0_isFitDatagram_34 ⟨Nat.le_of_ble_eq_true rfl, Nat.le_of_ble_eq_true rfl⟩) hS (fun q _ h => hFc q h) hFc (fun r_7 u t H1 locs ht hvm hw hB hz1 hk1 hS => ?_)
          obtain ⟨hP1, hK1, hD1⟩ := hB
          rw [ht] at hP1
          obtain ⟨hP, hD⟩ := va_join (wr := []) (w1 := [(o_A, .inr (0, [.ref o_Ao, .int (fA 1)])), (o_Ao, .inl (tC 0, 44, .inl ao))]) hP hD [0, 1] [] rfl rfl (by decide) (by decide) hk1 hFc hP1 hD1
          generalize H1 = H at hP hS ⊢
          have hP : va_P (dC, dI) vwCl [(o_A, .inr (0, [.ref o_Ao, .int (fA 1)])), (o_Ao, .inl (tC 0, 44, .inl ao))] H := hP
          have hD : va_D A [(o_A, .inr (0, [.ref o_Ao, .int (fA 1)])), (o_Ao, .inl (tC 0, 44, .inl ao))] := hD
          have er_7 : r_7 = (FX0_isFitFragment fA ao) := hw
          refine lv_if_eq (tgt := 44) hx hb dX0_isFitDatagram_37 (by decide) (fun c_8 => ?_) (fun c_8 => ?_)
          · skip
            have c_8 : r_7 = 0 := c_8
            have tc_8 : r_7.toInt = (0 : Int) := congrArg Int32.toInt c_8
            refine lv_iconst (v := 0) hx hb dX0_isFitDatagram_44 (by decide) ?_
            have hP9 := hP.sub (ws' := [(o_A, .inr (0, [.ref o_Ao, .int (fA 1)])), (o_Ao, .inl (tC 0, 44, .inl ao))]) [0, 1] rfl
            have hD9 := hD.sub (ws' := [(o_A, .inr (0, [.ref o_Ao, .int (fA 1)])), (o_Ao, .inl (tC 0, 44, .inl ao))]) [0, 1] (by decide) rfl
            exact W.zret (v := 0) hx hb hr rfl (fun t ht hW => ⟨⟨0, (), rfl, (by subst er_3 er_5 er_7; rw [FX0_isFitDatagram]; rw [if_neg c_1]; rw [if_pos c_2]; rw [if_neg c_4]; rw [if_pos c_6]; rw [if_pos c_8]; try rfl), by rw [ht]; exact hP9, va_K.moved hW.alike hK, hD9⟩, hS.F ht⟩) hS.2.2 dX0_isFitDatagram_45
          · skip
            have c_8 : ¬ (r_7 = 0) := c_8
            refine lv_iconst (v := 1) hx hb dX0_isFitDatagram_40 (by decide) ?_
            refine lv_goto (tgt := 45) hx hb dX0_isFitDatagram_41 (by decide) ?_
            have hP9 := hP.sub (ws' := [(o_A, .inr (0, [.ref o_Ao, .int (fA 1)])), (o_Ao, .inl (tC 0, 44, .inl ao))]) [0, 1] rfl
            have hD9 := hD.sub (ws' := [(o_A, .inr (0, [.ref o_Ao, .int (fA 1)])), (o_Ao, .inl (tC 0, 44, .inl ao))]) [0, 1] (by decide) rfl
            exact W.zret (v := 1) hx hb hr rfl (fun t ht hW => ⟨⟨1, (), rfl, (by subst er_3 er_5 er_7; rw [FX0_isFitDatagram]; rw [if_neg c_1]; rw [if_pos c_2]; rw [if_neg c_4]; rw [if_pos c_6]; rw [if_neg c_8]; try rfl), by rw [ht]; exact hP9, va_K.moved hW.alike hK, hD9⟩, hS.F ht⟩) hS.2.2 dX0_isFitDatagram_45
set_option maxHeartbeats 4000000 in
set_option maxRecDepth 100000 in
theorem c_X0_isFit (l : Launch) (dC : Nat → ClassId) (dI : Nat → Nat → Nat) (tC : Nat → ClassId) (o_A o_Ao : Nat) (sz : Nat) (fA : (Nat → Int32)) (ao : (Nat → Int32)) : Met l yX0_isFit wsX0_isFit ({ frames := 4, cells := 0, slots := 0, locals := 80 }) (va_Pc [.ref o_A] (fun U => U.heap.size = sz ∧ va_P (dC, dI) vwCl [(o_A, .inr (0, [.ref o_Ao, .int (fA 1)])), (o_Ao, .inl (tC 0, 44, .inl ao))] U.heap ∧ va_K (dC, dI) vwCl (TY tC) U ∧ NW U ∧ va_D (fun _ => True) [(o_A, .inr (0, [.ref o_Ao, .int (fA 1)])), (o_Ao, .inl (tC 0, 44, .inl ao))])) (va_Qi (fun (r : Int32) (u : Unit) => r = FX0_isFit fA ao) (fun (u : Unit) (t : State) => va_P (dC, dI) vwCl [(o_A, .inr (0, [.ref o_Ao, .int (fA 1)])), (o_Ao, .inl (tC 0, 44, .inl ao))] t.heap ∧ va_K (dC, dI) vwCl (TY tC) t ∧ va_D (va_A [(o_A, .inr (0, [.ref o_Ao, .int (fA 1)])), (o_Ao, .inl (tC 0, 44, .inl ao))] sz) [(o_A, .inr (0, [.ref o_Ao, .int (fA 1)])), (o_Ao, .inl (tC 0, 44, .inl ao))]) (va_A [(o_A, .inr (0, [.ref o_Ao, .int (fA 1)])), (o_Ao, .inl (tC 0, 44, .inl ao))] sz)) 0 0 (va_A [(o_A, .inr (0, [.ref o_Ao, .int (fA 1)])), (o_Ao, .inl (tC 0, 44, .inl ao))] sz) := by
  refine Met.ofW (cc := cX0_isFit) (maxL := 2) (ret := (some .boolean)) (by decide) rfl ?_
  intro p e s m args below meth c s₁ B hml hv
  obtain ⟨rfl, hsz, hP, hK, hN, hD0⟩ := hv
  have hx := B.exec
  have hb := B.bytes
  have hr := B.returns
  have hts := atoms_spec (ws := wsX0_isFit) B.pre
  have hown : s.vm.findClass RX0 = some m.cls := findClass_of_methodNamed B.named
  have hlocks := B.notSynchronized
  subst hsz
  have hD := hD0.self (sz := s.heap.size)
  generalize hAe : va_A [(o_A, .inr (0, [.ref o_Ao, .int (fA 1)])), (o_Ao, .inl (tC 0, 44, .inl ao))] s.heap.size = A at hD ⊢
  have hA : ∀ q : Nat, s.heap.size ≤ q → A q := fun q h => by rw [← hAe]; exact Or.inr h
  have hS : va_S A s.heap s.heap [] := va_S.rf
  have hP : va_P (dC, dI) vwCl [(o_A, .inr (0, [.ref o_Ao, .int (fA 1)])), (o_Ao, .inl (tC 0, 44, .inl ao))] s.heap := hP
  have hl := lv_entry ([.ref o_A]) (n := 2) (Nat.le_of_ble_eq_true rfl)
  rw [lg_entry_eq]
  generalize (lg_sl ([.ref o_A]) ++ List.replicate (2 - (lg_sl ([.ref o_A])).length) Slot.unset).toArray = ls at hl ⊢
  have hl : lv_has ls 2 [(0, .ref o_A)] := hl
  refine lv_aload_n hx hb dX0_isFit_0 rfl (lv_at hl 0 rfl) ?_
  refine va_get (D := (dC, dI)) (ci := 0) (v := .int (fA 1)) (C := RX0) (T := TX0) (N := 2) hx hb hts (fun w h => List.mem_cons_of_mem _ (uwX0 w h)) hown hK hP 0 rfl rfl 1 (by decide) (hts _ (List.mem_cons_of_mem _ wd_31)) (fun _ h9 => h9) rfl dX0_isFit_1 ?_
  refine lv_iconst (v := 5) hx hb dX0_isFit_4 (by decide) ?_
  refine lv_icmp_lt (tgt := 17) hx hb dX0_isFit_5 (by decide) (fun c_1 => ?_) (fun c_1 => ?_)
  · skip
    have c_1 : (fA 1) < 5 := c_1
    have tc_1 : (fA 1).toInt < (5 : Int) := Int32.lt_iff_toInt_lt.mp c_1
    refine lv_iconst (v := 0) hx hb dX0_isFit_17 (by decide) ?_
    have hP9 := hP.sub (ws' := [(o_A, .inr (0, [.ref o_Ao, .int (fA 1)])), (o_Ao, .inl (tC 0, 44, .inl ao))]) [0, 1] rfl
    have hD9 := hD.sub (ws' := [(o_A, .inr (0, [.ref o_Ao, .int (fA 1)])), (o_Ao, .inl (tC 0, 44, .inl ao))]) [0, 1] (by decide) rfl
    exact W.zret (v := 0) hx hb hr rfl (fun t ht hW => ⟨⟨0, (), rfl, (by rw [FX0_isFit]; rw [if_pos c_1]; try rfl), by rw [ht]; exact hP9, va_K.moved hW.alike hK, hD9⟩, hS.F ht⟩) hS.2.2 dX0_isFit_18
  · skip
    have c_1 : ¬ ((fA 1) < 5) := c_1
    have tc_1 : ¬ (fA 1).toInt < (5 : Int) := fun q => c_1 (Int32.lt_iff_toInt_lt.mpr q)
    refine lv_aload_n hx hb dX0_isFit_8 rfl (lv_at hl 0 rfl) ?_
    refine va_get (D := (dC, dI)) (ci := 0) (v := .int (fA 1)) (C := RX0) (T := TX0) (N := 2) hx hb hts (fun w h => List.mem_cons_of_mem _ (uwX0 w h)) hown hK hP 0 rfl rfl 1 (by decide) (hts _ (List.mem_cons_of_mem _ wd_31)) (fun _ h9 => h9) rfl dX0_isFit_9 ?_
    refine lv_bipush (v := 41) hx hb dX0_isFit_12 (by decide) ?_
    refine lv_icmp_le (tgt := 19) hx hb dX0_isFit_14 (by decide) (fun c_2 => ?_) (fun c_2 => ?_)
    · skip
      have c_2 : (fA 1) ≤ 41 := c_2
      have tc_2 : (fA 1).toInt ≤ (41 : Int) := Int32.le_iff_toInt_le.mp c_2
      refine lv_aload_n hx hb dX0_isFit_19 rfl (lv_at hl 0 rfl) ?_
      refine va_get (D := (dC, dI)) (ci := 0) (v := .ref o_Ao) (C := RX0) (T := TX0) (N := 2) hx hb hts (fun w h => List.mem_cons_of_mem _ (uwX0 w h)) hown hK hP 0 rfl rfl 0 (by decide) (hts _ (List.mem_cons_of_mem _ wd_27)) (fun _ h9 => h9) rfl dX0_isFit_20 ?_
      refine lv_iconst (v := 0) hx hb dX0_isFit_23 (by decide) ?_
      refine va_iald hx hb hK hP 1 0 rfl rfl (vi_c (by decide +kernel)) dX0_isFit_24 ?_
      refine lv_iconst (v := 1) hx hb dX0_isFit_25 (by decide) ?_
      refine lv_icmp_eq (tgt := 40) hx hb dX0_isFit_26 (by decide) (fun c_3 => ?_) (fun c_3 => ?_)
      · skip
        have c_3 : (ao 0) = 1 := c_3
        have tc_3 : (ao 0).toInt = (1 : Int) := congrArg Int32.toInt c_3
        refine lv_iconst (v := 1) hx hb dX0_isFit_40 (by decide) ?_
        refine lv_goto (tgt := 45) hx hb dX0_isFit_41 (by decide) ?_
        refine lv_istore_n (lv' := [(1, .int 1), (0, .ref o_A)]) hx hb dX0_isFit_45 rfl hl (by decide) rfl (fun ls hl => ?_)
        refine lv_iload_n hx hb dX0_isFit_46 rfl (lv_at hl 0 rfl) ?_
        refine lv_if_eq (tgt := 61) hx hb dX0_isFit_47 (by decide) (fun c_4 => absurd c_4 (by decide)) (fun _ => ?_)
        refine lv_aload_n hx hb dX0_isFit_50 rfl (lv_at hl 1 rfl) ?_
        refine va_get (D := (dC, dI)) (ci := 0) (v := .ref o_Ao) (C := RX0) (T := TX0) (N := 2) hx hb hts (fun w h => List.mem_cons_of_mem _ (uwX0 w h)) hown hK hP 0 rfl rfl 0 (by decide) (hts _ (List.mem_cons_of_mem _ wd_27)) (fun _ h9 => h9) rfl dX0_isFit_51 ?_
        refine lv_iconst (v := 1) hx hb dX0_isFit_54 (by decide) ?_
        refine va_iald hx hb hK hP 1 0 rfl rfl (vi_c (by decide +kernel)) dX0_isFit_55 ?_
        refine lv_bipush (v := 15) hx hb dX0_isFit_56 (by decide) ?_
        refine lv_icmp_lt (tgt := 63) hx hb dX0_isFit_58 (by decide) (fun c_5 => ?_) (fun c_5 => ?_)
        · skip
          have c_5 : (ao 1) < 15 := c_5
          have tc_5 : (ao 1).toInt < (15 : Int) := Int32.lt_iff_toInt_lt.mp c_5
          refine lv_aload_n hx hb dX0_isFit_63 rfl (lv_at hl 1 rfl) ?_
          refine va_get (D := (dC, dI)) (ci := 0) (v := .ref o_Ao) (C := RX0) (T := TX0) (N := 2) hx hb hts (fun w h => List.mem_cons_of_mem _ (uwX0 w h)) hown hK hP 0 rfl rfl 0 (by decide) (hts _ (List.mem_cons_of_mem _ wd_27)) (fun _ h9 => h9) rfl dX0_isFit_64 ?_
          refine lv_iconst (v := 3) hx hb dX0_isFit_67 (by decide) ?_
          refine va_iald hx hb hK hP 1 0 rfl rfl (vi_c (by decide +kernel)) dX0_isFit_68 ?_
          refine lv_bipush (v := 16) hx hb dX0_isFit_69 (by decide) ?_
          refine lv_icmp_ge (tgt := 85) hx hb dX0_isFit_71 (by decide) (fun c_6 => ?_) (fun c_6 => ?_)
          · skip
            have c_6 : 16 ≤ (ao 3) := c_6
            have tc_6 : (16 : Int) ≤ (ao 3).toInt := Int32.le_iff_toInt_le.mp c_6
            refine lv_iconst (v := 0) hx hb dX0_isFit_85 (by decide) ?_
            have hP9 := hP.sub (ws' := [(o_A, .inr (0, [.ref o_Ao, .int (fA 1)])), (o_Ao, .inl (tC 0, 44, .inl ao))]) [0, 1] rfl
            have hD9 := hD.sub (ws' := [(o_A, .inr (0, [.ref o_Ao, .int (fA 1)])), (o_Ao, .inl (tC 0, 44, .inl ao))]) [0, 1] (by decide) rfl
            exact W.zret (v := 0) hx hb hr rfl (fun t ht hW => ⟨⟨0, (), rfl, (by rw [FX0_isFit]; rw [if_neg c_1]; rw [if_pos c_2]; rw [if_pos c_3]; rw [if_pos c_5]; rw [if_pos c_6]; try rfl), by rw [ht]; exact hP9, va_K.moved hW.alike hK, hD9⟩, hS.F ht⟩) hS.2.2 dX0_isFit_86
          · skip
            have c_6 : ¬ (16 ≤ (ao 3)) := c_6
            have tc_6 : ¬ (16 : Int) ≤ (ao 3).toInt := fun q => c_6 (Int32.le_iff_toInt_le.mpr q)
            refine lv_aload_n hx hb dX0_isFit_74 rfl (lv_at hl 1 rfl) ?_
            refine va_get (D := (dC, dI)) (ci := 0) (v := .ref o_Ao) (C := RX0) (T := TX0) (N := 2) hx hb hts (fun w h => List.mem_cons_of_mem _ (uwX0 w h)) hown hK hP 0 rfl rfl 0 (by decide) (hts _ (List.mem_cons_of_mem _ wd_27)) (fun _ h9 => h9) rfl dX0_isFit_75 ?_
            refine lv_iconst (v := 4) hx hb dX0_isFit_78 (by decide) ?_
            refine va_iald hx hb hK hP 1 0 rfl rfl (vi_c (by decide +kernel)) dX0_isFit_79 ?_
            refine lv_bipush (v := 16) hx hb dX0_isFit_80 (by decide) ?_
            refine lv_icmp_lt (tgt := 87) hx hb dX0_isFit_82 (by decide) (fun c_7 => ?_) (fun c_7 => ?_)
            · skip
              have c_7 : (ao 4) < 16 := c_7
              have tc_7 : (ao 4).toInt < (16 : Int) := Int32.lt_iff_toInt_lt.mp c_7
              refine lv_aload_n hx hb dX0_isFit_87 rfl (lv_at hl 1 rfl) ?_
              refine va_get (D := (dC, dI)) (ci := 0) (v := .ref o_Ao) (C := RX0) (T := TX0) (N := 2) hx hb hts (fun w h => List.mem_cons_of_mem _ (uwX0 w h)) hown hK hP 0 rfl rfl 0 (by decide) (hts _ (List.mem_cons_of_mem _ wd_27)) (fun _ h9 => h9) rfl dX0_isFit_88 ?_
              refine lv_iconst (v := 2) hx hb dX0_isFit_91 (by decide) ?_
              refine va_iald hx hb hK hP 1 0 rfl rfl (vi_c (by decide +kernel)) dX0_isFit_92 ?_
              refine lv_iconst (v := 1) hx hb dX0_isFit_93 (by decide) ?_
              refine lv_icmp_eq (tgt := 107) hx hb dX0_isFit_94 (by decide) (fun c_8 => ?_) (fun c_8 => ?_)
              · skip
                have c_8 : (ao 2) = 1 := c_8
                have tc_8 : (ao 2).toInt = (1 : Int) := congrArg Int32.toInt c_8
                refine lv_aload_n hx hb dX0_isFit_107 rfl (lv_at hl 1 rfl) ?_
                refine va_get (D := (dC, dI)) (ci := 0) (v := .int (fA 1)) (C := RX0) (T := TX0) (N := 2) hx hb hts (fun w h => List.mem_cons_of_mem _ (uwX0 w h)) hown hK hP 0 rfl rfl 1 (by decide) (hts _ (List.mem_cons_of_mem _ wd_31)) (fun _ h9 => h9) rfl dX0_isFit_108 ?_
                refine lv_iconst (v := 5) hx hb dX0_isFit_111 (by decide) ?_
                refine lv_icmp_ne (tgt := 119) hx hb dX0_isFit_112 (by decide) (fun c_9 => ?_) (fun c_9 => ?_)
                · skip
                  have c_9 : ¬ ((fA 1) = 5) := c_9
                  refine lv_iconst (v := 0) hx hb dX0_isFit_119 (by decide) ?_
                  have hP9 := hP.sub (ws' := [(o_A, .inr (0, [.ref o_Ao, .int (fA 1)])), (o_Ao, .inl (tC 0, 44, .inl ao))]) [0, 1] rfl
                  have hD9 := hD.sub (ws' := [(o_A, .inr (0, [.ref o_Ao, .int (fA 1)])), (o_Ao, .inl (tC 0, 44, .inl ao))]) [0, 1] (by decide) rfl
                  exact W.zret (v := 0) hx hb hr rfl (fun t ht hW => ⟨⟨0, (), rfl, (by rw [FX0_isFit]; rw [if_neg c_1]; rw [if_pos c_2]; rw [if_pos c_3]; rw [if_pos c_5]; rw [if_neg c_6]; rw [if_pos c_7]; rw [if_pos c_8]; rw [if_neg c_9]; try rfl), by rw [ht]; exact hP9, va_K.moved hW.alike hK, hD9⟩, hS.F ht⟩) hS.2.2 dX0_isFit_120
                · skip
                  have c_9 : (fA 1) = 5 := c_9
                  have tc_9 : (fA 1).toInt = (5 : Int) := congrArg Int32.toInt c_9
                  refine lv_iconst (v := 1) hx hb dX0_isFit_115 (by decide) ?_
                  refine lv_goto (tgt := 120) hx hb dX0_isFit_116 (by decide) ?_
                  have hP9 := hP.sub (ws' := [(o_A, .inr (0, [.ref o_Ao, .int (fA 1)])), (o_Ao, .inl (tC 0, 44, .inl ao))]) [0, 1] rfl
                  have hD9 := hD.sub (ws' := [(o_A, .inr (0, [.ref o_Ao, .int (fA 1)])), (o_Ao, .inl (tC 0, 44, .inl ao))]) [0, 1] (by decide) rfl
                  exact W.zret (v := 1) hx hb hr rfl (fun t ht hW => ⟨⟨1, (), rfl, (by rw [FX0_isFit]; rw [if_neg c_1]; rw [if_pos c_2]; rw [if_pos c_3]; rw [if_pos c_5]; rw [if_neg c_6]; rw [if_pos c_7]; rw [if_pos c_8]; rw [if_pos c_9]; try rfl), by rw [ht]; exact hP9, va_K.moved hW.alike hK, hD9⟩, hS.F ht⟩) hS.2.2 dX0_isFit_120
              · skip
                have c_8 : ¬ ((ao 2) = 1) := c_8
                refine lv_aload_n hx hb dX0_isFit_97 rfl (lv_at hl 1 rfl) ?_
                refine va_get (D := (dC, dI)) (ci := 0) (v := .ref o_Ao) (C := RX0) (T := TX0) (N := 2) hx hb hts (fun w h => List.mem_cons_of_mem _ (uwX0 w h)) hown hK hP 0 rfl rfl 0 (by decide) (hts _ (List.mem_cons_of_mem _ wd_27)) (fun _ h9 => h9) rfl dX0_isFit_98 ?_
                refine lv_iconst (v := 2) hx hb dX0_isFit_101 (by decide) ?_
                refine va_iald hx hb hK hP 1 0 rfl rfl (vi_c (by decide +kernel)) dX0_isFit_102 ?_
                refine lv_iconst (v := 2) hx hb dX0_isFit_103 (by decide) ?_
                refine lv_icmp_ne (tgt := 121) hx hb dX0_isFit_104 (by decide) (fun c_10 => ?_) (fun c_10 => ?_)
                · skip
                  have c_10 : ¬ ((ao 2) = 2) := c_10
                  refine lv_aload_n hx hb dX0_isFit_121 rfl (lv_at hl 1 rfl) ?_
                  refine va_get (D := (dC, dI)) (ci := 0) (v := .ref o_Ao) (C := RX0) (T := TX0) (N := 2) hx hb hts (fun w h => List.mem_cons_of_mem _ (uwX0 w h)) hown hK hP 0 rfl rfl 0 (by decide) (hts _ (List.mem_cons_of_mem _ wd_27)) (fun _ h9 => h9) rfl dX0_isFit_122 ?_
                  refine lv_iconst (v := 2) hx hb dX0_isFit_125 (by decide) ?_
                  refine va_iald hx hb hK hP 1 0 rfl rfl (vi_c (by decide +kernel)) dX0_isFit_126 ?_
                  refine lv_iconst (v := 3) hx hb dX0_isFit_127 (by decide) ?_
                  refine lv_icmp_ne (tgt := 142) hx hb dX0_isFit_128 (by decide) (fun c_11 => ?_) (fun c_11 => ?_)
                  · skip
                    have c_11 : ¬ ((ao 2) = 3) := c_11
                    refine lv_iconst (v := 0) hx hb dX0_isFit_142 (by decide) ?_
                    have hP9 := hP.sub (ws' := [(o_A, .inr (0, [.ref o_Ao, .int (fA 1)])), (o_Ao, .inl (tC 0, 44, .inl ao))]) [0, 1] rfl
                    have hD9 := hD.sub (ws' := [(o_A, .inr (0, [.ref o_Ao, .int (fA 1)])), (o_Ao, .inl (tC 0, 44, .inl ao))]) [0, 1] (by decide) rfl
                    exact W.zret (v := 0) hx hb hr rfl (fun t ht hW => ⟨⟨0, (), rfl, (by rw [FX0_isFit]; rw [if_neg c_1]; rw [if_pos c_2]; rw [if_pos c_3]; rw [if_pos c_5]; rw [if_neg c_6]; rw [if_pos c_7]; rw [if_neg c_8]; rw [if_neg c_10]; rw [if_neg c_11]; try rfl), by rw [ht]; exact hP9, va_K.moved hW.alike hK, hD9⟩, hS.F ht⟩) hS.2.2 dX0_isFit_143
                  · skip
                    have c_11 : (ao 2) = 3 := c_11
                    have tc_11 : (ao 2).toInt = (3 : Int) := congrArg Int32.toInt c_11
                    refine lv_aload_n hx hb dX0_isFit_131 rfl (lv_at hl 1 rfl) ?_
                    have hPc := hP.sub (ws' := [(o_A, .inr (0, [.ref o_Ao, .int (fA 1)])), (o_Ao, .inl (tC 0, 44, .inl ao))]) [0, 1] rfl
                    have hDc := hD.sub (ws' := [(o_A, .inr (0, [.ref o_Ao, .int (fA 1)])), (o_Ao, .inl (tC 0, 44, .inl ao))]) [0, 1] (by decide) rfl
                    have hFc := va_free (wc := [(o_A, .inr (0, [.ref o_Ao, .int (fA 1)])), (o_Ao, .inl (tC 0, 44, .inl ao))]) hD hS hA [0, 1] rfl
                    refine va_calli (va_runV (As := []) (rest := []) ⟨hx, hb, hml, hown, hts⟩ (c_X0_isFitDatagram l dC dI tC o_A o_Ao s.heap.size fA ao (by first | assumption | omega | (simp only [k0, k1, k4, k5, k8, k9, k16]; omega) | exact h_Ss _ (by decide) | exact h_Ts _ (by decide) | exact h_Ms _ (by decide) | exact Or.inr rfl | exact rfl | decide)) (cwV 0 hts (gV wd_324 wd_326 wp_0 wd_2 wd_327) rfl rfl rfl dsc_X0_isFitDatagram ⟨Nat.le_of_ble_eq_true rfl, Nat.le_of_ble_eq_true rfl⟩) ⟨fun a U g mk q => by obtain ⟨q0, q1, qP, qK, qN, qD⟩ := q; exact ⟨q0, q1, qP, va_K.moved (u := U) (U := U.calling g mk a) (Vm.Alike.refl U.vm) qK, NW.same (u := U) (U := U.calling g mk a) rfl qN, qD⟩, va_recv hK hPc (ci := 0) (q0 := 0) rfl rfl, fun U hU hW => ⟨rfl, by rw [hU], by rw [hU]; exact hPc, va_K.moved hW.alike hK, NW.warm hW hN, hDc.weaken (fun _ _ _ _ => trivial)⟩⟩ rfl rfl hl.1 rfl (lv_room (Nat.le_of_ble_eq_true rfl)) dX0_isFit_132 ⟨Nat.le_of_ble_eq_true rfl, Nat.le_of_ble_eq_true rfl⟩) hS (fun q _ h => hFc q h) hFc (fun r_12 u t H1 locs ht hvm hw hB hz1 hk1 hS => ?_)
                    obtain ⟨hP1, hK1, hD1⟩ := hB
                    rw [ht] at hP1
                    obtain ⟨hP, hD⟩ := va_join (wr := []) (w1 := [(o_A, .inr (0, [.ref o_Ao, .int (fA 1)])), (o_Ao, .inl (tC 0, 44, .inl ao))]) hP hD [0, 1] [] rfl rfl (by decide) (by decide) hk1 hFc hP1 hD1
                    generalize H1 = H at hP hS ⊢
                    have hP : va_P (dC, dI) vwCl [(o_A, .inr (0, [.ref o_Ao, .int (fA 1)])), (o_Ao, .inl (tC 0, 44, .inl ao))] H := hP
                    have hD : va_D A [(o_A, .inr (0, [.ref o_Ao, .int (fA 1)])), (o_Ao, .inl (tC 0, 44, .inl ao))] := hD
                    have er_12 : r_12 = (FX0_isFitDatagram fA ao) := hw
                    refine lv_if_eq (tgt := 142) hx hb dX0_isFit_135 (by decide) (fun c_13 => ?_) (fun c_13 => ?_)
                    · skip
                      have c_13 : r_12 = 0 := c_13
                      have tc_13 : r_12.toInt = (0 : Int) := congrArg Int32.toInt c_13
                      refine lv_iconst (v := 0) hx hb dX0_isFit_142 (by decide) ?_
                      have hP9 := hP.sub (ws' := [(o_A, .inr (0, [.ref o_Ao, .int (fA 1)])), (o_Ao, .inl (tC 0, 44, .inl ao))]) [0, 1] rfl
                      have hD9 := hD.sub (ws' := [(o_A, .inr (0, [.ref o_Ao, .int (fA 1)])), (o_Ao, .inl (tC 0, 44, .inl ao))]) [0, 1] (by decide) rfl
                      exact W.zret (v := 0) hx hb hr rfl (fun t ht hW => ⟨⟨0, (), rfl, (by subst er_12; rw [FX0_isFit]; rw [if_neg c_1]; rw [if_pos c_2]; rw [if_pos c_3]; rw [if_pos c_5]; rw [if_neg c_6]; rw [if_pos c_7]; rw [if_neg c_8]; rw [if_neg c_10]; rw [if_pos c_11]; rw [if_pos c_13]; try rfl), by rw [ht]; exact hP9, va_K.moved hW.alike hK, hD9⟩, hS.F ht⟩) hS.2.2 dX0_isFit_143
                    · skip
                      have c_13 : ¬ (r_12 = 0) := c_13
                      refine lv_iconst (v := 1) hx hb dX0_isFit_138 (by decide) ?_
                      refine lv_goto (tgt := 143) hx hb dX0_isFit_139 (by decide) ?_
                      have hP9 := hP.sub (ws' := [(o_A, .inr (0, [.ref o_Ao, .int (fA 1)])), (o_Ao, .inl (tC 0, 44, .inl ao))]) [0, 1] rfl
                      have hD9 := hD.sub (ws' := [(o_A, .inr (0, [.ref o_Ao, .int (fA 1)])), (o_Ao, .inl (tC 0, 44, .inl ao))]) [0, 1] (by decide) rfl
                      exact W.zret (v := 1) hx hb hr rfl (fun t ht hW => ⟨⟨1, (), rfl, (by subst er_12; rw [FX0_isFit]; rw [if_neg c_1]; rw [if_pos c_2]; rw [if_pos c_3]; rw [if_pos c_5]; rw [if_neg c_6]; rw [if_pos c_7]; rw [if_neg c_8]; rw [if_neg c_10]; rw [if_pos c_11]; rw [if_neg c_13]; try rfl), by rw [ht]; exact hP9, va_K.moved hW.alike hK, hD9⟩, hS.F ht⟩) hS.2.2 dX0_isFit_143
                · skip
                  have c_10 : (ao 2) = 2 := c_10
                  have tc_10 : (ao 2).toInt = (2 : Int) := congrArg Int32.toInt c_10
                  refine lv_aload_n hx hb dX0_isFit_107 rfl (lv_at hl 1 rfl) ?_
                  refine va_get (D := (dC, dI)) (ci := 0) (v := .int (fA 1)) (C := RX0) (T := TX0) (N := 2) hx hb hts (fun w h => List.mem_cons_of_mem _ (uwX0 w h)) hown hK hP 0 rfl rfl 1 (by decide) (hts _ (List.mem_cons_of_mem _ wd_31)) (fun _ h9 => h9) rfl dX0_isFit_108 ?_
                  refine lv_iconst (v := 5) hx hb dX0_isFit_111 (by decide) ?_
                  refine lv_icmp_ne (tgt := 119) hx hb dX0_isFit_112 (by decide) (fun c_14 => ?_) (fun c_14 => ?_)
                  · skip
                    have c_14 : ¬ ((fA 1) = 5) := c_14
                    refine lv_iconst (v := 0) hx hb dX0_isFit_119 (by decide) ?_
                    have hP9 := hP.sub (ws' := [(o_A, .inr (0, [.ref o_Ao, .int (fA 1)])), (o_Ao, .inl (tC 0, 44, .inl ao))]) [0, 1] rfl
                    have hD9 := hD.sub (ws' := [(o_A, .inr (0, [.ref o_Ao, .int (fA 1)])), (o_Ao, .inl (tC 0, 44, .inl ao))]) [0, 1] (by decide) rfl
                    exact W.zret (v := 0) hx hb hr rfl (fun t ht hW => ⟨⟨0, (), rfl, (by rw [FX0_isFit]; rw [if_neg c_1]; rw [if_pos c_2]; rw [if_pos c_3]; rw [if_pos c_5]; rw [if_neg c_6]; rw [if_pos c_7]; rw [if_neg c_8]; rw [if_pos c_10]; rw [if_neg c_14]; try rfl), by rw [ht]; exact hP9, va_K.moved hW.alike hK, hD9⟩, hS.F ht⟩) hS.2.2 dX0_isFit_120
                  · skip
                    have c_14 : (fA 1) = 5 := c_14
                    have tc_14 : (fA 1).toInt = (5 : Int) := congrArg Int32.toInt c_14
                    refine lv_iconst (v := 1) hx hb dX0_isFit_115 (by decide) ?_
                    refine lv_goto (tgt := 120) hx hb dX0_isFit_116 (by decide) ?_
                    have hP9 := hP.sub (ws' := [(o_A, .inr (0, [.ref o_Ao, .int (fA 1)])), (o_Ao, .inl (tC 0, 44, .inl ao))]) [0, 1] rfl
                    have hD9 := hD.sub (ws' := [(o_A, .inr (0, [.ref o_Ao, .int (fA 1)])), (o_Ao, .inl (tC 0, 44, .inl ao))]) [0, 1] (by decide) rfl
                    exact W.zret (v := 1) hx hb hr rfl (fun t ht hW => ⟨⟨1, (), rfl, (by rw [FX0_isFit]; rw [if_neg c_1]; rw [if_pos c_2]; rw [if_pos c_3]; rw [if_pos c_5]; rw [if_neg c_6]; rw [if_pos c_7]; rw [if_neg c_8]; rw [if_pos c_10]; rw [if_pos c_14]; try rfl), by rw [ht]; exact hP9, va_K.moved hW.alike hK, hD9⟩, hS.F ht⟩) hS.2.2 dX0_isFit_120
            · skip
              have c_7 : ¬ ((ao 4) < 16) := c_7
              have tc_7 : ¬ (ao 4).toInt < (16 : Int) := fun q => c_7 (Int32.lt_iff_toInt_lt.mpr q)
              refine lv_iconst (v := 0) hx hb dX0_isFit_85 (by decide) ?_
              have hP9 := hP.sub (ws' := [(o_A, .inr (0, [.ref o_Ao, .int (fA 1)])), (o_Ao, .inl (tC 0, 44, .inl ao))]) [0, 1] rfl
              have hD9 := hD.sub (ws' := [(o_A, .inr (0, [.ref o_Ao, .int (fA 1)])), (o_Ao, .inl (tC 0, 44, .inl ao))]) [0, 1] (by decide) rfl
              exact W.zret (v := 0) hx hb hr rfl (fun t ht hW => ⟨⟨0, (), rfl, (by rw [FX0_isFit]; rw [if_neg c_1]; rw [if_pos c_2]; rw [if_pos c_3]; rw [if_pos c_5]; rw [if_neg c_6]; rw [if_neg c_7]; try rfl), by rw [ht]; exact hP9, va_K.moved hW.alike hK, hD9⟩, hS.F ht⟩) hS.2.2 dX0_isFit_86
        · skip
          have c_5 : ¬ ((ao 1) < 15) := c_5
          have tc_5 : ¬ (ao 1).toInt < (15 : Int) := fun q => c_5 (Int32.lt_iff_toInt_lt.mpr q)
          refine lv_iconst (v := 0) hx hb dX0_isFit_61 (by decide) ?_
          have hP9 := hP.sub (ws' := [(o_A, .inr (0, [.ref o_Ao, .int (fA 1)])), (o_Ao, .inl (tC 0, 44, .inl ao))]) [0, 1] rfl
          have hD9 := hD.sub (ws' := [(o_A, .inr (0, [.ref o_Ao, .int (fA 1)])), (o_Ao, .inl (tC 0, 44, .inl ao))]) [0, 1] (by decide) rfl
          exact W.zret (v := 0) hx hb hr rfl (fun t ht hW => ⟨⟨0, (), rfl, (by rw [FX0_isFit]; rw [if_neg c_1]; rw [if_pos c_2]; rw [if_pos c_3]; rw [if_neg c_5]; try rfl), by rw [ht]; exact hP9, va_K.moved hW.alike hK, hD9⟩, hS.F ht⟩) hS.2.2 dX0_isFit_62
      · skip
        have c_3 : ¬ ((ao 0) = 1) := c_3
        refine lv_aload_n hx hb dX0_isFit_29 rfl (lv_at hl 0 rfl) ?_
        refine va_get (D := (dC, dI)) (ci := 0) (v := .ref o_Ao) (C := RX0) (T := TX0) (N := 2) hx hb hts (fun w h => List.mem_cons_of_mem _ (uwX0 w h)) hown hK hP 0 rfl rfl 0 (by decide) (hts _ (List.mem_cons_of_mem _ wd_27)) (fun _ h9 => h9) rfl dX0_isFit_30 ?_
        refine lv_iconst (v := 0) hx hb dX0_isFit_33 (by decide) ?_
        refine va_iald hx hb hK hP 1 0 rfl rfl (vi_c (by decide +kernel)) dX0_isFit_34 ?_
        refine lv_bipush (v := 15) hx hb dX0_isFit_35 (by decide) ?_
        refine lv_icmp_ne (tgt := 44) hx hb dX0_isFit_37 (by decide) (fun c_15 => ?_) (fun c_15 => ?_)
        · skip
          have c_15 : ¬ ((ao 0) = 15) := c_15
          refine lv_iconst (v := 0) hx hb dX0_isFit_44 (by decide) ?_
          refine lv_istore_n (lv' := [(1, .int 0), (0, .ref o_A)]) hx hb dX0_isFit_45 rfl hl (by decide) rfl (fun ls hl => ?_)
          refine lv_iload_n hx hb dX0_isFit_46 rfl (lv_at hl 0 rfl) ?_
          refine lv_if_eq (tgt := 61) hx hb dX0_isFit_47 (by decide) (fun _ => ?_) (fun c_16 => absurd c_16 (by decide))
          refine lv_iconst (v := 0) hx hb dX0_isFit_61 (by decide) ?_
          have hP9 := hP.sub (ws' := [(o_A, .inr (0, [.ref o_Ao, .int (fA 1)])), (o_Ao, .inl (tC 0, 44, .inl ao))]) [0, 1] rfl
          have hD9 := hD.sub (ws' := [(o_A, .inr (0, [.ref o_Ao, .int (fA 1)])), (o_Ao, .inl (tC 0, 44, .inl ao))]) [0, 1] (by decide) rfl
          exact W.zret (v := 0) hx hb hr rfl (fun t ht hW => ⟨⟨0, (), rfl, (by rw [FX0_isFit]; rw [if_neg c_1]; rw [if_pos c_2]; rw [if_neg c_3]; rw [if_neg c_15]; try rfl), by rw [ht]; exact hP9, va_K.moved hW.alike hK, hD9⟩, hS.F ht⟩) hS.2.2 dX0_isFit_62
        · skip
          have c_15 : (ao 0) = 15 := c_15
          have tc_15 : (ao 0).toInt = (15 : Int) := congrArg Int32.toInt c_15
          refine lv_iconst (v := 1) hx hb dX0_isFit_40 (by decide) ?_
          refine lv_goto (tgt := 45) hx hb dX0_isFit_41 (by decide) ?_
          refine lv_istore_n (lv' := [(1, .int 1), (0, .ref o_A)]) hx hb dX0_isFit_45 rfl hl (by decide) rfl (fun ls hl => ?_)
          refine lv_iload_n hx hb dX0_isFit_46 rfl (lv_at hl 0 rfl) ?_
          refine lv_if_eq (tgt := 61) hx hb dX0_isFit_47 (by decide) (fun c_17 => absurd c_17 (by decide)) (fun _ => ?_)
          refine lv_aload_n hx hb dX0_isFit_50 rfl (lv_at hl 1 rfl) ?_
          refine va_get (D := (dC, dI)) (ci := 0) (v := .ref o_Ao) (C := RX0) (T := TX0) (N := 2) hx hb hts (fun w h => List.mem_cons_of_mem _ (uwX0 w h)) hown hK hP 0 rfl rfl 0 (by decide) (hts _ (List.mem_cons_of_mem _ wd_27)) (fun _ h9 => h9) rfl dX0_isFit_51 ?_
          refine lv_iconst (v := 1) hx hb dX0_isFit_54 (by decide) ?_
          refine va_iald hx hb hK hP 1 0 rfl rfl (vi_c (by decide +kernel)) dX0_isFit_55 ?_
          refine lv_bipush (v := 15) hx hb dX0_isFit_56 (by decide) ?_
          refine lv_icmp_lt (tgt := 63) hx hb dX0_isFit_58 (by decide) (fun c_18 => ?_) (fun c_18 => ?_)
          · skip
            have c_18 : (ao 1) < 15 := c_18
            have tc_18 : (ao 1).toInt < (15 : Int) := Int32.lt_iff_toInt_lt.mp c_18
            refine lv_aload_n hx hb dX0_isFit_63 rfl (lv_at hl 1 rfl) ?_
            refine va_get (D := (dC, dI)) (ci := 0) (v := .ref o_Ao) (C := RX0) (T := TX0) (N := 2) hx hb hts (fun w h => List.mem_cons_of_mem _ (uwX0 w h)) hown hK hP 0 rfl rfl 0 (by decide) (hts _ (List.mem_cons_of_mem _ wd_27)) (fun _ h9 => h9) rfl dX0_isFit_64 ?_
            refine lv_iconst (v := 3) hx hb dX0_isFit_67 (by decide) ?_
            refine va_iald hx hb hK hP 1 0 rfl rfl (vi_c (by decide +kernel)) dX0_isFit_68 ?_
            refine lv_bipush (v := 16) hx hb dX0_isFit_69 (by decide) ?_
            refine lv_icmp_ge (tgt := 85) hx hb dX0_isFit_71 (by decide) (fun c_19 => ?_) (fun c_19 => ?_)
            · skip
              have c_19 : 16 ≤ (ao 3) := c_19
              have tc_19 : (16 : Int) ≤ (ao 3).toInt := Int32.le_iff_toInt_le.mp c_19
              refine lv_iconst (v := 0) hx hb dX0_isFit_85 (by decide) ?_
              have hP9 := hP.sub (ws' := [(o_A, .inr (0, [.ref o_Ao, .int (fA 1)])), (o_Ao, .inl (tC 0, 44, .inl ao))]) [0, 1] rfl
              have hD9 := hD.sub (ws' := [(o_A, .inr (0, [.ref o_Ao, .int (fA 1)])), (o_Ao, .inl (tC 0, 44, .inl ao))]) [0, 1] (by decide) rfl
              exact W.zret (v := 0) hx hb hr rfl (fun t ht hW => ⟨⟨0, (), rfl, (by rw [FX0_isFit]; rw [if_neg c_1]; rw [if_pos c_2]; rw [if_neg c_3]; rw [if_pos c_15]; rw [if_pos c_18]; rw [if_pos c_19]; try rfl), by rw [ht]; exact hP9, va_K.moved hW.alike hK, hD9⟩, hS.F ht⟩) hS.2.2 dX0_isFit_86
            · skip
              have c_19 : ¬ (16 ≤ (ao 3)) := c_19
              have tc_19 : ¬ (16 : Int) ≤ (ao 3).toInt := fun q => c_19 (Int32.le_iff_toInt_le.mpr q)
              refine lv_aload_n hx hb dX0_isFit_74 rfl (lv_at hl 1 rfl) ?_
              refine va_get (D := (dC, dI)) (ci := 0) (v := .ref o_Ao) (C := RX0) (T := TX0) (N := 2) hx hb hts (fun w h => List.mem_cons_of_mem _ (uwX0 w h)) hown hK hP 0 rfl rfl 0 (by decide) (hts _ (List.mem_cons_of_mem _ wd_27)) (fun _ h9 => h9) rfl dX0_isFit_75 ?_
              refine lv_iconst (v := 4) hx hb dX0_isFit_78 (by decide) ?_
              refine va_iald hx hb hK hP 1 0 rfl rfl (vi_c (by decide +kernel)) dX0_isFit_79 ?_
              refine lv_bipush (v := 16) hx hb dX0_isFit_80 (by decide) ?_
              refine lv_icmp_lt (tgt := 87) hx hb dX0_isFit_82 (by decide) (fun c_20 => ?_) (fun c_20 => ?_)
              · skip
                have c_20 : (ao 4) < 16 := c_20
                have tc_20 : (ao 4).toInt < (16 : Int) := Int32.lt_iff_toInt_lt.mp c_20
                refine lv_aload_n hx hb dX0_isFit_87 rfl (lv_at hl 1 rfl) ?_
                refine va_get (D := (dC, dI)) (ci := 0) (v := .ref o_Ao) (C := RX0) (T := TX0) (N := 2) hx hb hts (fun w h => List.mem_cons_of_mem _ (uwX0 w h)) hown hK hP 0 rfl rfl 0 (by decide) (hts _ (List.mem_cons_of_mem _ wd_27)) (fun _ h9 => h9) rfl dX0_isFit_88 ?_
                refine lv_iconst (v := 2) hx hb dX0_isFit_91 (by decide) ?_
                refine va_iald hx hb hK hP 1 0 rfl rfl (vi_c (by decide +kernel)) dX0_isFit_92 ?_
                refine lv_iconst (v := 1) hx hb dX0_isFit_93 (by decide) ?_
                refine lv_icmp_eq (tgt := 107) hx hb dX0_isFit_94 (by decide) (fun c_21 => ?_) (fun c_21 => ?_)
                · skip
                  have c_21 : (ao 2) = 1 := c_21
                  have tc_21 : (ao 2).toInt = (1 : Int) := congrArg Int32.toInt c_21
                  refine lv_aload_n hx hb dX0_isFit_107 rfl (lv_at hl 1 rfl) ?_
                  refine va_get (D := (dC, dI)) (ci := 0) (v := .int (fA 1)) (C := RX0) (T := TX0) (N := 2) hx hb hts (fun w h => List.mem_cons_of_mem _ (uwX0 w h)) hown hK hP 0 rfl rfl 1 (by decide) (hts _ (List.mem_cons_of_mem _ wd_31)) (fun _ h9 => h9) rfl dX0_isFit_108 ?_
                  refine lv_iconst (v := 5) hx hb dX0_isFit_111 (by decide) ?_
                  refine lv_icmp_ne (tgt := 119) hx hb dX0_isFit_112 (by decide) (fun c_22 => ?_) (fun c_22 => ?_)
                  · skip
                    have c_22 : ¬ ((fA 1) = 5) := c_22
                    refine lv_iconst (v := 0) hx hb dX0_isFit_119 (by decide) ?_
                    have hP9 := hP.sub (ws' := [(o_A, .inr (0, [.ref o_Ao, .int (fA 1)])), (o_Ao, .inl (tC 0, 44, .inl ao))]) [0, 1] rfl
                    have hD9 := hD.sub (ws' := [(o_A, .inr (0, [.ref o_Ao, .int (fA 1)])), (o_Ao, .inl (tC 0, 44, .inl ao))]) [0, 1] (by decide) rfl
                    exact W.zret (v := 0) hx hb hr rfl (fun t ht hW => ⟨⟨0, (), rfl, (by rw [FX0_isFit]; rw [if_neg c_1]; rw [if_pos c_2]; rw [if_neg c_3]; rw [if_pos c_15]; rw [if_pos c_18]; rw [if_neg c_19]; rw [if_pos c_20]; rw [if_pos c_21]; rw [if_neg c_22]; try rfl), by rw [ht]; exact hP9, va_K.moved hW.alike hK, hD9⟩, hS.F ht⟩) hS.2.2 dX0_isFit_120
                  · skip
                    have c_22 : (fA 1) = 5 := c_22
                    have tc_22 : (fA 1).toInt = (5 : Int) := congrArg Int32.toInt c_22
                    refine lv_iconst (v := 1) hx hb dX0_isFit_115 (by decide) ?_
                    refine lv_goto (tgt := 120) hx hb dX0_isFit_116 (by decide) ?_
                    have hP9 := hP.sub (ws' := [(o_A, .inr (0, [.ref o_Ao, .int (fA 1)])), (o_Ao, .inl (tC 0, 44, .inl ao))]) [0, 1] rfl
                    have hD9 := hD.sub (ws' := [(o_A, .inr (0, [.ref o_Ao, .int (fA 1)])), (o_Ao, .inl (tC 0, 44, .inl ao))]) [0, 1] (by decide) rfl
                    exact W.zret (v := 1) hx hb hr rfl (fun t ht hW => ⟨⟨1, (), rfl, (by rw [FX0_isFit]; rw [if_neg c_1]; rw [if_pos c_2]; rw [if_neg c_3]; rw [if_pos c_15]; rw [if_pos c_18]; rw [if_neg c_19]; rw [if_pos c_20]; rw [if_pos c_21]; rw [if_pos c_22]; try rfl), by rw [ht]; exact hP9, va_K.moved hW.alike hK, hD9⟩, hS.F ht⟩) hS.2.2 dX0_isFit_120
                · skip
                  have c_21 : ¬ ((ao 2) = 1) := c_21
                  refine lv_aload_n hx hb dX0_isFit_97 rfl (lv_at hl 1 rfl) ?_
                  refine va_get (D := (dC, dI)) (ci := 0) (v := .ref o_Ao) (C := RX0) (T := TX0) (N := 2) hx hb hts (fun w h => List.mem_cons_of_mem _ (uwX0 w h)) hown hK hP 0 rfl rfl 0 (by decide) (hts _ (List.mem_cons_of_mem _ wd_27)) (fun _ h9 => h9) rfl dX0_isFit_98 ?_
                  refine lv_iconst (v := 2) hx hb dX0_isFit_101 (by decide) ?_
                  refine va_iald hx hb hK hP 1 0 rfl rfl (vi_c (by decide +kernel)) dX0_isFit_102 ?_
                  refine lv_iconst (v := 2) hx hb dX0_isFit_103 (by decide) ?_
                  refine lv_icmp_ne (tgt := 121) hx hb dX0_isFit_104 (by decide) (fun c_23 => ?_) (fun c_23 => ?_)
                  · skip
                    have c_23 : ¬ ((ao 2) = 2) := c_23
                    refine lv_aload_n hx hb dX0_isFit_121 rfl (lv_at hl 1 rfl) ?_
                    refine va_get (D := (dC, dI)) (ci := 0) (v := .ref o_Ao) (C := RX0) (T := TX0) (N := 2) hx hb hts (fun w h => List.mem_cons_of_mem _ (uwX0 w h)) hown hK hP 0 rfl rfl 0 (by decide) (hts _ (List.mem_cons_of_mem _ wd_27)) (fun _ h9 => h9) rfl dX0_isFit_122 ?_
                    refine lv_iconst (v := 2) hx hb dX0_isFit_125 (by decide) ?_
                    refine va_iald hx hb hK hP 1 0 rfl rfl (vi_c (by decide +kernel)) dX0_isFit_126 ?_
                    refine lv_iconst (v := 3) hx hb dX0_isFit_127 (by decide) ?_
                    refine lv_icmp_ne (tgt := 142) hx hb dX0_isFit_128 (by decide) (fun c_24 => ?_) (fun c_24 => ?_)
                    · skip
                      have c_24 : ¬ ((ao 2) = 3) := c_24
                      refine lv_iconst (v := 0) hx hb dX0_isFit_142 (by decide) ?_
                      have hP9 := hP.sub (ws' := [(o_A, .inr (0, [.ref o_Ao, .int (fA 1)])), (o_Ao, .inl (tC 0, 44, .inl ao))]) [0, 1] rfl
                      have hD9 := hD.sub (ws' := [(o_A, .inr (0, [.ref o_Ao, .int (fA 1)])), (o_Ao, .inl (tC 0, 44, .inl ao))]) [0, 1] (by decide) rfl
                      exact W.zret (v := 0) hx hb hr rfl (fun t ht hW => ⟨⟨0, (), rfl, (by rw [FX0_isFit]; rw [if_neg c_1]; rw [if_pos c_2]; rw [if_neg c_3]; rw [if_pos c_15]; rw [if_pos c_18]; rw [if_neg c_19]; rw [if_pos c_20]; rw [if_neg c_21]; rw [if_neg c_23]; rw [if_neg c_24]; try rfl), by rw [ht]; exact hP9, va_K.moved hW.alike hK, hD9⟩, hS.F ht⟩) hS.2.2 dX0_isFit_143
                    · skip
                      have c_24 : (ao 2) = 3 := c_24
                      have tc_24 : (ao 2).toInt = (3 : Int) := congrArg Int32.toInt c_24
                      refine lv_aload_n hx hb dX0_isFit_131 rfl (lv_at hl 1 rfl) ?_
                      have hPc := hP.sub (ws' := [(o_A, .inr (0, [.ref o_Ao, .int (fA 1)])), (o_Ao, .inl (tC 0, 44, .inl ao))]) [0, 1] rfl
                      have hDc := hD.sub (ws' := [(o_A, .inr (0, [.ref o_Ao, .int (fA 1)])), (o_Ao, .inl (tC 0, 44, .inl ao))]) [0, 1] (by decide) rfl
                      have hFc := va_free (wc := [(o_A, .inr (0, [.ref o_Ao, .int (fA 1)])), (o_Ao, .inl (tC 0, 44, .inl ao))]) hD hS hA [0, 1] rfl
                      refine va_calli (va_runV (As := []) (rest := []) ⟨hx, hb, hml, hown, hts⟩ (c_X0_isFitDatagram l dC dI tC o_A o_Ao s.heap.size fA ao (by first | assumption | omega | (simp only [k0, k1, k4, k5, k8, k9, k16]; omega) | exact h_Ss _ (by decide) | exact h_Ts _ (by decide) | exact h_Ms _ (by decide) | exact Or.inr rfl | exact rfl | decide)) (cwV 0 hts (gV wd_324 wd_326 wp_0 wd_2 wd_327) rfl rfl rfl dsc_X0_isFitDatagram ⟨Nat.le_of_ble_eq_true rfl, Nat.le_of_ble_eq_true rfl⟩) ⟨fun a U g mk q => by obtain ⟨q0, q1, qP, qK, qN, qD⟩ := q; exact ⟨q0, q1, qP, va_K.moved (u := U) (U := U.calling g mk a) (Vm.Alike.refl U.vm) qK, NW.same (u := U) (U := U.calling g mk a) rfl qN, qD⟩, va_recv hK hPc (ci := 0) (q0 := 0) rfl rfl, fun U hU hW => ⟨rfl, by rw [hU], by rw [hU]; exact hPc, va_K.moved hW.alike hK, NW.warm hW hN, hDc.weaken (fun _ _ _ _ => trivial)⟩⟩ rfl rfl hl.1 rfl (lv_room (Nat.le_of_ble_eq_true rfl)) dX0_isFit_132 ⟨Nat.le_of_ble_eq_true rfl, Nat.le_of_ble_eq_true rfl⟩) hS (fun q _ h => hFc q h) hFc (fun r_25 u t H1 locs ht hvm hw hB hz1 hk1 hS => ?_)
                      obtain ⟨hP1, hK1, hD1⟩ := hB
                      rw [ht] at hP1
                      obtain ⟨hP, hD⟩ := va_join (wr := []) (w1 := [(o_A, .inr (0, [.ref o_Ao, .int (fA 1)])), (o_Ao, .inl (tC 0, 44, .inl ao))]) hP hD [0, 1] [] rfl rfl (by decide) (by decide) hk1 hFc hP1 hD1
                      generalize H1 = H at hP hS ⊢
                      have hP : va_P (dC, dI) vwCl [(o_A, .inr (0, [.ref o_Ao, .int (fA 1)])), (o_Ao, .inl (tC 0, 44, .inl ao))] H := hP
                      have hD : va_D A [(o_A, .inr (0, [.ref o_Ao, .int (fA 1)])), (o_Ao, .inl (tC 0, 44, .inl ao))] := hD
                      have er_25 : r_25 = (FX0_isFitDatagram fA ao) := hw
                      refine lv_if_eq (tgt := 142) hx hb dX0_isFit_135 (by decide) (fun c_26 => ?_) (fun c_26 => ?_)
                      · skip
                        have c_26 : r_25 = 0 := c_26
                        have tc_26 : r_25.toInt = (0 : Int) := congrArg Int32.toInt c_26
                        refine lv_iconst (v := 0) hx hb dX0_isFit_142 (by decide) ?_
                        have hP9 := hP.sub (ws' := [(o_A, .inr (0, [.ref o_Ao, .int (fA 1)])), (o_Ao, .inl (tC 0, 44, .inl ao))]) [0, 1] rfl
                        have hD9 := hD.sub (ws' := [(o_A, .inr (0, [.ref o_Ao, .int (fA 1)])), (o_Ao, .inl (tC 0, 44, .inl ao))]) [0, 1] (by decide) rfl
                        exact W.zret (v := 0) hx hb hr rfl (fun t ht hW => ⟨⟨0, (), rfl, (by subst er_25; rw [FX0_isFit]; rw [if_neg c_1]; rw [if_pos c_2]; rw [if_neg c_3]; rw [if_pos c_15]; rw [if_pos c_18]; rw [if_neg c_19]; rw [if_pos c_20]; rw [if_neg c_21]; rw [if_neg c_23]; rw [if_pos c_24]; rw [if_pos c_26]; try rfl), by rw [ht]; exact hP9, va_K.moved hW.alike hK, hD9⟩, hS.F ht⟩) hS.2.2 dX0_isFit_143
                      · skip
                        have c_26 : ¬ (r_25 = 0) := c_26
                        refine lv_iconst (v := 1) hx hb dX0_isFit_138 (by decide) ?_
                        refine lv_goto (tgt := 143) hx hb dX0_isFit_139 (by decide) ?_
                        have hP9 := hP.sub (ws' := [(o_A, .inr (0, [.ref o_Ao, .int (fA 1)])), (o_Ao, .inl (tC 0, 44, .inl ao))]) [0, 1] rfl
                        have hD9 := hD.sub (ws' := [(o_A, .inr (0, [.ref o_Ao, .int (fA 1)])), (o_Ao, .inl (tC 0, 44, .inl ao))]) [0, 1] (by decide) rfl
                        exact W.zret (v := 1) hx hb hr rfl (fun t ht hW => ⟨⟨1, (), rfl, (by subst er_25; rw [FX0_isFit]; rw [if_neg c_1]; rw [if_pos c_2]; rw [if_neg c_3]; rw [if_pos c_15]; rw [if_pos c_18]; rw [if_neg c_19]; rw [if_pos c_20]; rw [if_neg c_21]; rw [if_neg c_23]; rw [if_pos c_24]; rw [if_neg c_26]; try rfl), by rw [ht]; exact hP9, va_K.moved hW.alike hK, hD9⟩, hS.F ht⟩) hS.2.2 dX0_isFit_143
                  · skip
                    have c_23 : (ao 2) = 2 := c_23
                    have tc_23 : (ao 2).toInt = (2 : Int) := congrArg Int32.toInt c_23
                    refine lv_aload_n hx hb dX0_isFit_107 rfl (lv_at hl 1 rfl) ?_
                    refine va_get (D := (dC, dI)) (ci := 0) (v := .int (fA 1)) (C := RX0) (T := TX0) (N := 2) hx hb hts (fun w h => List.mem_cons_of_mem _ (uwX0 w h)) hown hK hP 0 rfl rfl 1 (by decide) (hts _ (List.mem_cons_of_mem _ wd_31)) (fun _ h9 => h9) rfl dX0_isFit_108 ?_
                    refine lv_iconst (v := 5) hx hb dX0_isFit_111 (by decide) ?_
                    refine lv_icmp_ne (tgt := 119) hx hb dX0_isFit_112 (by decide) (fun c_27 => ?_) (fun c_27 => ?_)
                    · skip
                      have c_27 : ¬ ((fA 1) = 5) := c_27
                      refine lv_iconst (v := 0) hx hb dX0_isFit_119 (by decide) ?_
                      have hP9 := hP.sub (ws' := [(o_A, .inr (0, [.ref o_Ao, .int (fA 1)])), (o_Ao, .inl (tC 0, 44, .inl ao))]) [0, 1] rfl
                      have hD9 := hD.sub (ws' := [(o_A, .inr (0, [.ref o_Ao, .int (fA 1)])), (o_Ao, .inl (tC 0, 44, .inl ao))]) [0, 1] (by decide) rfl
                      exact W.zret (v := 0) hx hb hr rfl (fun t ht hW => ⟨⟨0, (), rfl, (by rw [FX0_isFit]; rw [if_neg c_1]; rw [if_pos c_2]; rw [if_neg c_3]; rw [if_pos c_15]; rw [if_pos c_18]; rw [if_neg c_19]; rw [if_pos c_20]; rw [if_neg c_21]; rw [if_pos c_23]; rw [if_neg c_27]; try rfl), by rw [ht]; exact hP9, va_K.moved hW.alike hK, hD9⟩, hS.F ht⟩) hS.2.2 dX0_isFit_120
                    · skip
                      have c_27 : (fA 1) = 5 := c_27
                      have tc_27 : (fA 1).toInt = (5 : Int) := congrArg Int32.toInt c_27
                      refine lv_iconst (v := 1) hx hb dX0_isFit_115 (by decide) ?_
                      refine lv_goto (tgt := 120) hx hb dX0_isFit_116 (by decide) ?_
                      have hP9 := hP.sub (ws' := [(o_A, .inr (0, [.ref o_Ao, .int (fA 1)])), (o_Ao, .inl (tC 0, 44, .inl ao))]) [0, 1] rfl
                      have hD9 := hD.sub (ws' := [(o_A, .inr (0, [.ref o_Ao, .int (fA 1)])), (o_Ao, .inl (tC 0, 44, .inl ao))]) [0, 1] (by decide) rfl
                      exact W.zret (v := 1) hx hb hr rfl (fun t ht hW => ⟨⟨1, (), rfl, (by rw [FX0_isFit]; rw [if_neg c_1]; rw [if_pos c_2]; rw [if_neg c_3]; rw [if_pos c_15]; rw [if_pos c_18]; rw [if_neg c_19]; rw [if_pos c_20]; rw [if_neg c_21]; rw [if_pos c_23]; rw [if_pos c_27]; try rfl), by rw [ht]; exact hP9, va_K.moved hW.alike hK, hD9⟩, hS.F ht⟩) hS.2.2 dX0_isFit_120
              · skip
                have c_20 : ¬ ((ao 4) < 16) := c_20
                have tc_20 : ¬ (ao 4).toInt < (16 : Int) := fun q => c_20 (Int32.lt_iff_toInt_lt.mpr q)
                refine lv_iconst (v := 0) hx hb dX0_isFit_85 (by decide) ?_
                have hP9 := hP.sub (ws' := [(o_A, .inr (0, [.ref o_Ao, .int (fA 1)])), (o_Ao, .inl (tC 0, 44, .inl ao))]) [0, 1] rfl
                have hD9 := hD.sub (ws' := [(o_A, .inr (0, [.ref o_Ao, .int (fA 1)])), (o_Ao, .inl (tC 0, 44, .inl ao))]) [0, 1] (by decide) rfl
                exact W.zret (v := 0) hx hb hr rfl (fun t ht hW => ⟨⟨0, (), rfl, (by rw [FX0_isFit]; rw [if_neg c_1]; rw [if_pos c_2]; rw [if_neg c_3]; rw [if_pos c_15]; rw [if_pos c_18]; rw [if_neg c_19]; rw [if_neg c_20]; try rfl), by rw [ht]; exact hP9, va_K.moved hW.alike hK, hD9⟩, hS.F ht⟩) hS.2.2 dX0_isFit_86
          · skip
            have c_18 : ¬ ((ao 1) < 15) := c_18
            have tc_18 : ¬ (ao 1).toInt < (15 : Int) := fun q => c_18 (Int32.lt_iff_toInt_lt.mpr q)
            refine lv_iconst (v := 0) hx hb dX0_isFit_61 (by decide) ?_
            have hP9 := hP.sub (ws' := [(o_A, .inr (0, [.ref o_Ao, .int (fA 1)])), (o_Ao, .inl (tC 0, 44, .inl ao))]) [0, 1] rfl
            have hD9 := hD.sub (ws' := [(o_A, .inr (0, [.ref o_Ao, .int (fA 1)])), (o_Ao, .inl (tC 0, 44, .inl ao))]) [0, 1] (by decide) rfl
            exact W.zret (v := 0) hx hb hr rfl (fun t ht hW => ⟨⟨0, (), rfl, (by rw [FX0_isFit]; rw [if_neg c_1]; rw [if_pos c_2]; rw [if_neg c_3]; rw [if_pos c_15]; rw [if_neg c_18]; try rfl), by rw [ht]; exact hP9, va_K.moved hW.alike hK, hD9⟩, hS.F ht⟩) hS.2.2 dX0_isFit_62
    · skip
      have c_2 : ¬ ((fA 1) ≤ 41) := c_2
      have tc_2 : ¬ (fA 1).toInt ≤ (41 : Int) := fun q => c_2 (Int32.le_iff_toInt_le.mpr q)
      refine lv_iconst (v := 0) hx hb dX0_isFit_17 (by decide) ?_
      have hP9 := hP.sub (ws' := [(o_A, .inr (0, [.ref o_Ao, .int (fA 1)])), (o_Ao, .inl (tC 0, 44, .inl ao))]) [0, 1] rfl
      have hD9 := hD.sub (ws' := [(o_A, .inr (0, [.ref o_Ao, .int (fA 1)])), (o_Ao, .inl (tC 0, 44, .inl ao))]) [0, 1] (by decide) rfl
      exact W.zret (v := 0) hx hb hr rfl (fun t ht hW => ⟨⟨0, (), rfl, (by rw [FX0_isFit]; rw [if_neg c_1]; rw [if_neg c_2]; try rfl), by rw [ht]; exact hP9, va_K.moved hW.alike hK, hD9⟩, hS.F ht⟩) hS.2.2 dX0_isFit_18
