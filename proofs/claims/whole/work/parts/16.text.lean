set_option maxHeartbeats 4000000 in
set_option maxRecDepth 100000 in
theorem c_X7_addLetter (l : Launch) (dC : Nat → ClassId) (dI : Nat → Nat → Nat) (tC : Nat → ClassId) (o_T o_Tl o_To : Nat) (sz : Nat) (fT : (Nat → Int32)) (tl : (Nat → Int32)) (i0 : Int32) (h_T : iv_T fT) : Met l yX7_addLetter wsX7_addLetter ({ frames := 0, cells := 0, slots := 0, locals := 0 }) (va_Pc [.ref o_T, .int i0] (fun U => U.heap.size = sz ∧ va_P (dC, dI) vwCl [(o_T, .inr (7, [.ref o_Tl, .ref o_To, .int (fT 2), .int (fT 3), .int (fT 4)])), (o_Tl, .inl (tC 0, 4, .inl tl))] U.heap ∧ va_K (dC, dI) vwCl (TY tC) U ∧ NW U ∧ va_D (fun _ => True) [(o_T, .inr (7, [.ref o_Tl, .ref o_To, .int (fT 2), .int (fT 3), .int (fT 4)])), (o_Tl, .inl (tC 0, 4, .inl tl))])) (va_Qi (fun (r : Int32) (u : (Nat → Int32) × (Nat → Int32)) => (r, u) = FX7_addLetter fT tl i0) (fun (u : (Nat → Int32) × (Nat → Int32)) (t : State) => va_P (dC, dI) vwCl [(o_T, .inr (7, [.ref o_Tl, .ref o_To, .int (u.1 2), .int (u.1 3), .int (u.1 4)])), (o_Tl, .inl (tC 0, 4, .inl u.2))] t.heap ∧ va_K (dC, dI) vwCl (TY tC) t ∧ va_D (va_A [(o_T, .inr (7, [.ref o_Tl, .ref o_To, .int (fT 2), .int (fT 3), .int (fT 4)])), (o_Tl, .inl (tC 0, 4, .inl tl))] sz) [(o_T, .inr (7, [.ref o_Tl, .ref o_To, .int (u.1 2), .int (u.1 3), .int (u.1 4)])), (o_Tl, .inl (tC 0, 4, .inl u.2))]) (va_A [(o_T, .inr (7, [.ref o_Tl, .ref o_To, .int (fT 2), .int (fT 3), .int (fT 4)])), (o_Tl, .inl (tC 0, 4, .inl tl))] sz)) 0 0 (va_A [(o_T, .inr (7, [.ref o_Tl, .ref o_To, .int (fT 2), .int (fT 3), .int (fT 4)])), (o_Tl, .inl (tC 0, 4, .inl tl))] sz) := by
  refine Met.ofW (cc := cX7_addLetter) (maxL := 2) (ret := (some .int)) (by decide) rfl ?_
  intro p e s m args below meth c s₁ B hml hv
  obtain ⟨rfl, hsz, hP, hK, hN, hD0⟩ := hv
  have hx := B.exec
  have hb := B.bytes
  have hr := B.returns
  have hts := atoms_spec (ws := wsX7_addLetter) B.pre
  have hown : s.vm.findClass RX7 = some m.cls := findClass_of_methodNamed B.named
  have hlocks := B.notSynchronized
  subst hsz
  have hD := hD0.self (sz := s.heap.size)
  generalize hAe : va_A [(o_T, .inr (7, [.ref o_Tl, .ref o_To, .int (fT 2), .int (fT 3), .int (fT 4)])), (o_Tl, .inl (tC 0, 4, .inl tl))] s.heap.size = A at hD ⊢
  have hA : ∀ q : Nat, s.heap.size ≤ q → A q := fun q h => by rw [← hAe]; exact Or.inr h
  have hS : va_S A s.heap s.heap [] := va_S.rf
  have hP : va_P (dC, dI) vwCl [(o_T, .inr (7, [.ref o_Tl, .ref o_To, .int (fT 2), .int (fT 3), .int (fT 4)])), (o_Tl, .inl (tC 0, 4, .inl tl))] s.heap := hP
  have hl := lv_entry ([.ref o_T, .int i0]) (n := 2) (Nat.le_of_ble_eq_true rfl)
  rw [lg_entry_eq]
  generalize (lg_sl ([.ref o_T, .int i0]) ++ List.replicate (2 - (lg_sl ([.ref o_T, .int i0])).length) Slot.unset).toArray = ls at hl ⊢
  have hl : lv_has ls 2 [(0, .ref o_T), (1, .int i0)] := hl
  obtain ⟨h_n0, h_n4, h_l0, h_l16⟩ := id h_T
  refine lv_aload_n hx hb dX7_addLetter_0 rfl (lv_at hl 0 rfl) ?_
  refine va_get (D := (dC, dI)) (ci := 7) (v := .int (fT 2)) (C := RX7) (T := TX7) (N := 5) hx hb hts (fun w h => List.mem_cons_of_mem _ (uwX7 w h)) hown hK hP 0 rfl rfl 2 (by decide) (hts _ (List.mem_cons_of_mem _ wd_173)) (fun _ h9 => h9) rfl dX7_addLetter_1 ?_
  refine lv_iconst (v := 4) hx hb dX7_addLetter_4 (by decide) ?_
  refine lv_icmp_lt (tgt := 11) hx hb dX7_addLetter_5 (by decide) (fun c_1 => ?_) (fun c_1 => ?_)
  · skip
    have c_1 : (fT 2) < 4 := c_1
    have tc_1 : (fT 2).toInt < (4 : Int) := Int32.lt_iff_toInt_lt.mp c_1
    refine lv_aload_n hx hb dX7_addLetter_11 rfl (lv_at hl 0 rfl) ?_
    refine va_get (D := (dC, dI)) (ci := 7) (v := .ref o_Tl) (C := RX7) (T := TX7) (N := 5) hx hb hts (fun w h => List.mem_cons_of_mem _ (uwX7 w h)) hown hK hP 0 rfl rfl 0 (by decide) (hts _ (List.mem_cons_of_mem _ wd_170)) (fun _ h9 => h9) rfl dX7_addLetter_12 ?_
    refine lv_aload_n hx hb dX7_addLetter_15 rfl (lv_at hl 0 rfl) ?_
    refine va_get (D := (dC, dI)) (ci := 7) (v := .int (fT 2)) (C := RX7) (T := TX7) (N := 5) hx hb hts (fun w h => List.mem_cons_of_mem _ (uwX7 w h)) hown hK hP 0 rfl rfl 2 (by decide) (hts _ (List.mem_cons_of_mem _ wd_173)) (fun _ h9 => h9) rfl dX7_addLetter_16 ?_
    refine lv_iload_n hx hb dX7_addLetter_19 rfl (lv_at hl 1 rfl) ?_
    refine va_iast hx hb hK hP hD hS 1 0 rfl rfl (vp_in_iff.mpr (by omega)) dX7_addLetter_20 (fun H locs hP hD hS => ?_)
    have hP : va_P (dC, dI) vwCl [(o_T, .inr (7, [.ref o_Tl, .ref o_To, .int (fT 2), .int (fT 3), .int (fT 4)])), (o_Tl, .inl (tC 0, 4, .inl (upd tl (fT 2).toNatClampNeg i0)))] H := hP
    have hD : va_D A [(o_T, .inr (7, [.ref o_Tl, .ref o_To, .int (fT 2), .int (fT 3), .int (fT 4)])), (o_Tl, .inl (tC 0, 4, .inl (upd tl (fT 2).toNatClampNeg i0)))] := hD
    refine lv_aload_n hx hb dX7_addLetter_21 rfl (lv_at hl 0 rfl) ?_
    refine lv_dup hx hb dX7_addLetter_22 rfl ?_
    refine va_get (D := (dC, dI)) (ci := 7) (v := .int (fT 2)) (C := RX7) (T := TX7) (N := 5) hx hb hts (fun w h => List.mem_cons_of_mem _ (uwX7 w h)) hown hK hP 0 rfl rfl 2 (by decide) (hts _ (List.mem_cons_of_mem _ wd_173)) (fun _ h9 => h9) rfl dX7_addLetter_23 ?_
    refine lv_iconst (v := 1) hx hb dX7_addLetter_26 (by decide) ?_
    refine lv_iadd hx hb dX7_addLetter_27 ?_
    refine lv_topi (fun f_2 (ef_2 : f_2 = ((fT 2) + (1 : Int32))) => ?_)
    refine va_put (D := (dC, dI)) (ci := 7) (v := .int f_2) (ty := .int) (C := RX7) (T := TX7) (N := 5) hx hb hts (fun w h => List.mem_cons_of_mem _ (uwX7 w h)) tyX7 tyX7_ok nmX7 hown hK hP hD hS 0 rfl rfl 2 (by decide) (hts _ (List.mem_cons_of_mem _ wd_173)) (fun _ h9 => h9) rfl (by decide +kernel) rfl rfl (Nat.le_of_ble_eq_true rfl) dX7_addLetter_28 (fun H locs hP hD hS => ?_)
    have hP : va_P (dC, dI) vwCl [(o_T, .inr (7, [.ref o_Tl, .ref o_To, .int f_2, .int (fT 3), .int (fT 4)])), (o_Tl, .inl (tC 0, 4, .inl (upd tl (fT 2).toNatClampNeg i0)))] H := hP
    have hD : va_D A [(o_T, .inr (7, [.ref o_Tl, .ref o_To, .int f_2, .int (fT 3), .int (fT 4)])), (o_Tl, .inl (tC 0, 4, .inl (upd tl (fT 2).toNatClampNeg i0)))] := hD
    refine lv_aload_n hx hb dX7_addLetter_31 rfl (lv_at hl 0 rfl) ?_
    refine va_get (D := (dC, dI)) (ci := 7) (v := .int f_2) (C := RX7) (T := TX7) (N := 5) hx hb hts (fun w h => List.mem_cons_of_mem _ (uwX7 w h)) hown hK hP 0 rfl rfl 2 (by decide) (hts _ (List.mem_cons_of_mem _ wd_173)) (fun _ h9 => h9) rfl dX7_addLetter_32 ?_
    have hP9 := hP.sub (ws' := [(o_T, .inr (7, [.ref o_Tl, .ref o_To, .int ((upd fT 2 f_2) 2), .int ((upd fT 2 f_2) 3), .int ((upd fT 2 f_2) 4)])), (o_Tl, .inl (tC 0, 4, .inl (upd tl (fT 2).toNatClampNeg i0)))]) [0, 1] rfl
    have hD9 := hD.sub (ws' := [(o_T, .inr (7, [.ref o_Tl, .ref o_To, .int ((upd fT 2 f_2) 2), .int ((upd fT 2 f_2) 3), .int ((upd fT 2 f_2) 4)])), (o_Tl, .inl (tC 0, 4, .inl (upd tl (fT 2).toNatClampNeg i0)))]) [0, 1] (by decide) rfl
    exact W.iret (v := f_2) hx hb hr (fun t ht hW => ⟨⟨f_2, ((upd fT 2 f_2), (upd tl (fT 2).toNatClampNeg i0)), rfl, (by subst ef_2; rw [FX7_addLetter]; rw [if_pos c_1]; try rfl), by rw [ht]; exact hP9, va_K.moved hW.alike hK, hD9⟩, hS.F ht⟩) hS.2.2 dX7_addLetter_35
  · skip
    have c_1 : ¬ ((fT 2) < 4) := c_1
    have tc_1 : ¬ (fT 2).toInt < (4 : Int) := fun q => c_1 (Int32.lt_iff_toInt_lt.mpr q)
    refine lv_bipush (v := (-2)) hx hb dX7_addLetter_8 (by decide) ?_
    have hP9 := hP.sub (ws' := [(o_T, .inr (7, [.ref o_Tl, .ref o_To, .int (fT 2), .int (fT 3), .int (fT 4)])), (o_Tl, .inl (tC 0, 4, .inl tl))]) [0, 1] rfl
    have hD9 := hD.sub (ws' := [(o_T, .inr (7, [.ref o_Tl, .ref o_To, .int (fT 2), .int (fT 3), .int (fT 4)])), (o_Tl, .inl (tC 0, 4, .inl tl))]) [0, 1] (by decide) rfl
    exact W.iret (v := (-2)) hx hb hr (fun t ht hW => ⟨⟨(-2), (fT, tl), rfl, (by rw [FX7_addLetter]; rw [if_neg c_1]; try rfl), by rw [ht]; exact hP9, va_K.moved hW.alike hK, hD9⟩, hS.F ht⟩) hS.2.2 dX7_addLetter_10
set_option maxHeartbeats 4000000 in
set_option maxRecDepth 100000 in
theorem c_X7_addOctet (l : Launch) (dC : Nat → ClassId) (dI : Nat → Nat → Nat) (tC : Nat → ClassId) (o_T o_Tl o_To : Nat) (sz : Nat) (fT : (Nat → Int32)) (tb : (Nat → Int32)) (i0 : Int32) (h_T : iv_T fT) : Met l yX7_addOctet wsX7_addOctet ({ frames := 0, cells := 0, slots := 0, locals := 0 }) (va_Pc [.ref o_T, .int i0] (fun U => U.heap.size = sz ∧ va_P (dC, dI) vwCl [(o_T, .inr (7, [.ref o_Tl, .ref o_To, .int (fT 2), .int (fT 3), .int (fT 4)])), (o_To, .inl (tC 0, 16, .inl tb))] U.heap ∧ va_K (dC, dI) vwCl (TY tC) U ∧ NW U ∧ va_D (fun _ => True) [(o_T, .inr (7, [.ref o_Tl, .ref o_To, .int (fT 2), .int (fT 3), .int (fT 4)])), (o_To, .inl (tC 0, 16, .inl tb))])) (va_Qi (fun (r : Int32) (u : (Nat → Int32) × (Nat → Int32)) => (r, u) = FX7_addOctet fT tb i0) (fun (u : (Nat → Int32) × (Nat → Int32)) (t : State) => va_P (dC, dI) vwCl [(o_T, .inr (7, [.ref o_Tl, .ref o_To, .int (u.1 2), .int (u.1 3), .int (u.1 4)])), (o_To, .inl (tC 0, 16, .inl u.2))] t.heap ∧ va_K (dC, dI) vwCl (TY tC) t ∧ va_D (va_A [(o_T, .inr (7, [.ref o_Tl, .ref o_To, .int (fT 2), .int (fT 3), .int (fT 4)])), (o_To, .inl (tC 0, 16, .inl tb))] sz) [(o_T, .inr (7, [.ref o_Tl, .ref o_To, .int (u.1 2), .int (u.1 3), .int (u.1 4)])), (o_To, .inl (tC 0, 16, .inl u.2))]) (va_A [(o_T, .inr (7, [.ref o_Tl, .ref o_To, .int (fT 2), .int (fT 3), .int (fT 4)])), (o_To, .inl (tC 0, 16, .inl tb))] sz)) 0 0 (va_A [(o_T, .inr (7, [.ref o_Tl, .ref o_To, .int (fT 2), .int (fT 3), .int (fT 4)])), (o_To, .inl (tC 0, 16, .inl tb))] sz) := by
  refine Met.ofW (cc := cX7_addOctet) (maxL := 2) (ret := (some .int)) (by decide) rfl ?_
  intro p e s m args below meth c s₁ B hml hv
  obtain ⟨rfl, hsz, hP, hK, hN, hD0⟩ := hv
  have hx := B.exec
  have hb := B.bytes
  have hr := B.returns
  have hts := atoms_spec (ws := wsX7_addOctet) B.pre
  have hown : s.vm.findClass RX7 = some m.cls := findClass_of_methodNamed B.named
  have hlocks := B.notSynchronized
  subst hsz
  have hD := hD0.self (sz := s.heap.size)
  generalize hAe : va_A [(o_T, .inr (7, [.ref o_Tl, .ref o_To, .int (fT 2), .int (fT 3), .int (fT 4)])), (o_To, .inl (tC 0, 16, .inl tb))] s.heap.size = A at hD ⊢
  have hA : ∀ q : Nat, s.heap.size ≤ q → A q := fun q h => by rw [← hAe]; exact Or.inr h
  have hS : va_S A s.heap s.heap [] := va_S.rf
  have hP : va_P (dC, dI) vwCl [(o_T, .inr (7, [.ref o_Tl, .ref o_To, .int (fT 2), .int (fT 3), .int (fT 4)])), (o_To, .inl (tC 0, 16, .inl tb))] s.heap := hP
  have hl := lv_entry ([.ref o_T, .int i0]) (n := 2) (Nat.le_of_ble_eq_true rfl)
  rw [lg_entry_eq]
  generalize (lg_sl ([.ref o_T, .int i0]) ++ List.replicate (2 - (lg_sl ([.ref o_T, .int i0])).length) Slot.unset).toArray = ls at hl ⊢
  have hl : lv_has ls 2 [(0, .ref o_T), (1, .int i0)] := hl
  obtain ⟨h_n0, h_n4, h_l0, h_l16⟩ := id h_T
  refine lv_aload_n hx hb dX7_addOctet_0 rfl (lv_at hl 0 rfl) ?_
  refine va_get (D := (dC, dI)) (ci := 7) (v := .int (fT 4)) (C := RX7) (T := TX7) (N := 5) hx hb hts (fun w h => List.mem_cons_of_mem _ (uwX7 w h)) hown hK hP 0 rfl rfl 4 (by decide) (hts _ (List.mem_cons_of_mem _ wd_175)) (fun _ h9 => h9) rfl dX7_addOctet_1 ?_
  refine lv_bipush (v := 16) hx hb dX7_addOctet_4 (by decide) ?_
  refine lv_icmp_lt (tgt := 12) hx hb dX7_addOctet_6 (by decide) (fun c_1 => ?_) (fun c_1 => ?_)
  · skip
    have c_1 : (fT 4) < 16 := c_1
    have tc_1 : (fT 4).toInt < (16 : Int) := Int32.lt_iff_toInt_lt.mp c_1
    refine lv_aload_n hx hb dX7_addOctet_12 rfl (lv_at hl 0 rfl) ?_
    refine va_get (D := (dC, dI)) (ci := 7) (v := .ref o_To) (C := RX7) (T := TX7) (N := 5) hx hb hts (fun w h => List.mem_cons_of_mem _ (uwX7 w h)) hown hK hP 0 rfl rfl 1 (by decide) (hts _ (List.mem_cons_of_mem _ wd_171)) (fun _ h9 => h9) rfl dX7_addOctet_13 ?_
    refine lv_aload_n hx hb dX7_addOctet_16 rfl (lv_at hl 0 rfl) ?_
    refine va_get (D := (dC, dI)) (ci := 7) (v := .int (fT 4)) (C := RX7) (T := TX7) (N := 5) hx hb hts (fun w h => List.mem_cons_of_mem _ (uwX7 w h)) hown hK hP 0 rfl rfl 4 (by decide) (hts _ (List.mem_cons_of_mem _ wd_175)) (fun _ h9 => h9) rfl dX7_addOctet_17 ?_
    refine lv_iload_n hx hb dX7_addOctet_20 rfl (lv_at hl 1 rfl) ?_
    refine va_iast hx hb hK hP hD hS 1 0 rfl rfl (vp_in_iff.mpr (by omega)) dX7_addOctet_21 (fun H locs hP hD hS => ?_)
    have hP : va_P (dC, dI) vwCl [(o_T, .inr (7, [.ref o_Tl, .ref o_To, .int (fT 2), .int (fT 3), .int (fT 4)])), (o_To, .inl (tC 0, 16, .inl (upd tb (fT 4).toNatClampNeg i0)))] H := hP
    have hD : va_D A [(o_T, .inr (7, [.ref o_Tl, .ref o_To, .int (fT 2), .int (fT 3), .int (fT 4)])), (o_To, .inl (tC 0, 16, .inl (upd tb (fT 4).toNatClampNeg i0)))] := hD
    refine lv_aload_n hx hb dX7_addOctet_22 rfl (lv_at hl 0 rfl) ?_
    refine lv_dup hx hb dX7_addOctet_23 rfl ?_
    refine va_get (D := (dC, dI)) (ci := 7) (v := .int (fT 4)) (C := RX7) (T := TX7) (N := 5) hx hb hts (fun w h => List.mem_cons_of_mem _ (uwX7 w h)) hown hK hP 0 rfl rfl 4 (by decide) (hts _ (List.mem_cons_of_mem _ wd_175)) (fun _ h9 => h9) rfl dX7_addOctet_24 ?_
    refine lv_iconst (v := 1) hx hb dX7_addOctet_27 (by decide) ?_
    refine lv_iadd hx hb dX7_addOctet_28 ?_
    refine lv_topi (fun f_2 (ef_2 : f_2 = ((fT 4) + (1 : Int32))) => ?_)
    refine va_put (D := (dC, dI)) (ci := 7) (v := .int f_2) (ty := .int) (C := RX7) (T := TX7) (N := 5) hx hb hts (fun w h => List.mem_cons_of_mem _ (uwX7 w h)) tyX7 tyX7_ok nmX7 hown hK hP hD hS 0 rfl rfl 4 (by decide) (hts _ (List.mem_cons_of_mem _ wd_175)) (fun _ h9 => h9) rfl (by decide +kernel) rfl rfl (Nat.le_of_ble_eq_true rfl) dX7_addOctet_29 (fun H locs hP hD hS => ?_)
    have hP : va_P (dC, dI) vwCl [(o_T, .inr (7, [.ref o_Tl, .ref o_To, .int (fT 2), .int (fT 3), .int f_2])), (o_To, .inl (tC 0, 16, .inl (upd tb (fT 4).toNatClampNeg i0)))] H := hP
    have hD : va_D A [(o_T, .inr (7, [.ref o_Tl, .ref o_To, .int (fT 2), .int (fT 3), .int f_2])), (o_To, .inl (tC 0, 16, .inl (upd tb (fT 4).toNatClampNeg i0)))] := hD
    refine lv_aload_n hx hb dX7_addOctet_32 rfl (lv_at hl 0 rfl) ?_
    refine lv_aload_n hx hb dX7_addOctet_33 rfl (lv_at hl 0 rfl) ?_
    refine va_get (D := (dC, dI)) (ci := 7) (v := .int (fT 3)) (C := RX7) (T := TX7) (N := 5) hx hb hts (fun w h => List.mem_cons_of_mem _ (uwX7 w h)) hown hK hP 0 rfl rfl 3 (by decide) (hts _ (List.mem_cons_of_mem _ wd_174)) (fun _ h9 => h9) rfl dX7_addOctet_34 ?_
    refine lv_iload_n hx hb dX7_addOctet_37 rfl (lv_at hl 1 rfl) ?_
    refine lv_iadd hx hb dX7_addOctet_38 ?_
    refine lv_sipush (v := 255) hx hb dX7_addOctet_39 (by decide) ?_
    refine lv_iand hx hb dX7_addOctet_42 ?_
    refine lv_topi (fun f_3 (ef_3 : f_3 = (((fT 3) + i0) &&& (255 : Int32))) => ?_)
    refine va_put (D := (dC, dI)) (ci := 7) (v := .int f_3) (ty := .int) (C := RX7) (T := TX7) (N := 5) hx hb hts (fun w h => List.mem_cons_of_mem _ (uwX7 w h)) tyX7 tyX7_ok nmX7 hown hK hP hD hS 0 rfl rfl 3 (by decide) (hts _ (List.mem_cons_of_mem _ wd_174)) (fun _ h9 => h9) rfl (by decide +kernel) rfl rfl (Nat.le_of_ble_eq_true rfl) dX7_addOctet_43 (fun H locs hP hD hS => ?_)
    have hP : va_P (dC, dI) vwCl [(o_T, .inr (7, [.ref o_Tl, .ref o_To, .int (fT 2), .int f_3, .int f_2])), (o_To, .inl (tC 0, 16, .inl (upd tb (fT 4).toNatClampNeg i0)))] H := hP
    have hD : va_D A [(o_T, .inr (7, [.ref o_Tl, .ref o_To, .int (fT 2), .int f_3, .int f_2])), (o_To, .inl (tC 0, 16, .inl (upd tb (fT 4).toNatClampNeg i0)))] := hD
    refine lv_aload_n hx hb dX7_addOctet_46 rfl (lv_at hl 0 rfl) ?_
    refine va_get (D := (dC, dI)) (ci := 7) (v := .int f_2) (C := RX7) (T := TX7) (N := 5) hx hb hts (fun w h => List.mem_cons_of_mem _ (uwX7 w h)) hown hK hP 0 rfl rfl 4 (by decide) (hts _ (List.mem_cons_of_mem _ wd_175)) (fun _ h9 => h9) rfl dX7_addOctet_47 ?_
    have hP9 := hP.sub (ws' := [(o_T, .inr (7, [.ref o_Tl, .ref o_To, .int ((upd (upd fT 4 f_2) 3 f_3) 2), .int ((upd (upd fT 4 f_2) 3 f_3) 3), .int ((upd (upd fT 4 f_2) 3 f_3) 4)])), (o_To, .inl (tC 0, 16, .inl (upd tb (fT 4).toNatClampNeg i0)))]) [0, 1] rfl
    have hD9 := hD.sub (ws' := [(o_T, .inr (7, [.ref o_Tl, .ref o_To, .int ((upd (upd fT 4 f_2) 3 f_3) 2), .int ((upd (upd fT 4 f_2) 3 f_3) 3), .int ((upd (upd fT 4 f_2) 3 f_3) 4)])), (o_To, .inl (tC 0, 16, .inl (upd tb (fT 4).toNatClampNeg i0)))]) [0, 1] (by decide) rfl
    exact W.iret (v := f_2) hx hb hr (fun t ht hW => ⟨⟨f_2, ((upd (upd fT 4 f_2) 3 f_3), (upd tb (fT 4).toNatClampNeg i0)), rfl, (by subst ef_2 ef_3; rw [FX7_addOctet]; rw [if_pos c_1]; try rfl), by rw [ht]; exact hP9, va_K.moved hW.alike hK, hD9⟩, hS.F ht⟩) hS.2.2 dX7_addOctet_50
  · skip
    have c_1 : ¬ ((fT 4) < 16) := c_1
    have tc_1 : ¬ (fT 4).toInt < (16 : Int) := fun q => c_1 (Int32.lt_iff_toInt_lt.mpr q)
    refine lv_bipush (v := (-2)) hx hb dX7_addOctet_9 (by decide) ?_
    have hP9 := hP.sub (ws' := [(o_T, .inr (7, [.ref o_Tl, .ref o_To, .int (fT 2), .int (fT 3), .int (fT 4)])), (o_To, .inl (tC 0, 16, .inl tb))]) [0, 1] rfl
    have hD9 := hD.sub (ws' := [(o_T, .inr (7, [.ref o_Tl, .ref o_To, .int (fT 2), .int (fT 3), .int (fT 4)])), (o_To, .inl (tC 0, 16, .inl tb))]) [0, 1] (by decide) rfl
    exact W.iret (v := (-2)) hx hb hr (fun t ht hW => ⟨⟨(-2), (fT, tb), rfl, (by rw [FX7_addOctet]; rw [if_neg c_1]; try rfl), by rw [ht]; exact hP9, va_K.moved hW.alike hK, hD9⟩, hS.F ht⟩) hS.2.2 dX7_addOctet_11
set_option maxHeartbeats 4000000 in
set_option maxRecDepth 100000 in
theorem c_X7_replace (l : Launch) (dC : Nat → ClassId) (dI : Nat → Nat → Nat) (tC : Nat → ClassId) (o_T o_Tl o_To : Nat) (sz : Nat) (fT : (Nat → Int32)) (tb : (Nat → Int32)) (i0 i1 : Int32) (h_T : iv_T fT) : Met l yX7_replace wsX7_replace ({ frames := 0, cells := 0, slots := 0, locals := 0 }) (va_Pc [.ref o_T, .int i0, .int i1] (fun U => U.heap.size = sz ∧ va_P (dC, dI) vwCl [(o_T, .inr (7, [.ref o_Tl, .ref o_To, .int (fT 2), .int (fT 3), .int (fT 4)])), (o_To, .inl (tC 0, 16, .inl tb))] U.heap ∧ va_K (dC, dI) vwCl (TY tC) U ∧ NW U ∧ va_D (fun _ => True) [(o_T, .inr (7, [.ref o_Tl, .ref o_To, .int (fT 2), .int (fT 3), .int (fT 4)])), (o_To, .inl (tC 0, 16, .inl tb))])) (va_Qi (fun (r : Int32) (u : (Nat → Int32)) => (r, u) = FX7_replace fT tb i0 i1) (fun (u : (Nat → Int32)) (t : State) => va_P (dC, dI) vwCl [(o_T, .inr (7, [.ref o_Tl, .ref o_To, .int (fT 2), .int (fT 3), .int (fT 4)])), (o_To, .inl (tC 0, 16, .inl u))] t.heap ∧ va_K (dC, dI) vwCl (TY tC) t ∧ va_D (va_A [(o_T, .inr (7, [.ref o_Tl, .ref o_To, .int (fT 2), .int (fT 3), .int (fT 4)])), (o_To, .inl (tC 0, 16, .inl tb))] sz) [(o_T, .inr (7, [.ref o_Tl, .ref o_To, .int (fT 2), .int (fT 3), .int (fT 4)])), (o_To, .inl (tC 0, 16, .inl u))]) (va_A [(o_T, .inr (7, [.ref o_Tl, .ref o_To, .int (fT 2), .int (fT 3), .int (fT 4)])), (o_To, .inl (tC 0, 16, .inl tb))] sz)) 0 0 (va_A [(o_T, .inr (7, [.ref o_Tl, .ref o_To, .int (fT 2), .int (fT 3), .int (fT 4)])), (o_To, .inl (tC 0, 16, .inl tb))] sz) := by
  refine Met.ofW (cc := cX7_replace) (maxL := 4) (ret := (some .int)) (by decide) rfl ?_
  intro p e s m args below meth c s₁ B hml hv
  obtain ⟨rfl, hsz, hP, hK, hN, hD0⟩ := hv
  have hx := B.exec
  have hb := B.bytes
  have hr := B.returns
  have hts := atoms_spec (ws := wsX7_replace) B.pre
  have hown : s.vm.findClass RX7 = some m.cls := findClass_of_methodNamed B.named
  have hlocks := B.notSynchronized
  subst hsz
  have hD := hD0.self (sz := s.heap.size)
  generalize hAe : va_A [(o_T, .inr (7, [.ref o_Tl, .ref o_To, .int (fT 2), .int (fT 3), .int (fT 4)])), (o_To, .inl (tC 0, 16, .inl tb))] s.heap.size = A at hD ⊢
  have hA : ∀ q : Nat, s.heap.size ≤ q → A q := fun q h => by rw [← hAe]; exact Or.inr h
  have hS : va_S A s.heap s.heap [] := va_S.rf
  have hP : va_P (dC, dI) vwCl [(o_T, .inr (7, [.ref o_Tl, .ref o_To, .int (fT 2), .int (fT 3), .int (fT 4)])), (o_To, .inl (tC 0, 16, .inl tb))] s.heap := hP
  have hl := lv_entry ([.ref o_T, .int i0, .int i1]) (n := 4) (Nat.le_of_ble_eq_true rfl)
  rw [lg_entry_eq]
  generalize (lg_sl ([.ref o_T, .int i0, .int i1]) ++ List.replicate (4 - (lg_sl ([.ref o_T, .int i0, .int i1])).length) Slot.unset).toArray = ls at hl ⊢
  have hl : lv_has ls 4 [(0, .ref o_T), (1, .int i0), (2, .int i1)] := hl
  obtain ⟨h_n0, h_n4, h_l0, h_l16⟩ := id h_T
  refine lv_iload_n hx hb dX7_replace_0 rfl (lv_at hl 1 rfl) ?_
  refine lv_if_lt (tgt := 12) hx hb dX7_replace_1 (by decide) (fun c_1 => ?_) (fun c_1 => ?_)
  · skip
    have c_1 : i0 < 0 := c_1
    have tc_1 : i0.toInt < (0 : Int) := Int32.lt_iff_toInt_lt.mp c_1
    refine lv_iconst (v := (-1)) hx hb dX7_replace_12 (by decide) ?_
    have hP9 := hP.sub (ws' := [(o_T, .inr (7, [.ref o_Tl, .ref o_To, .int (fT 2), .int (fT 3), .int (fT 4)])), (o_To, .inl (tC 0, 16, .inl tb))]) [0, 1] rfl
    have hD9 := hD.sub (ws' := [(o_T, .inr (7, [.ref o_Tl, .ref o_To, .int (fT 2), .int (fT 3), .int (fT 4)])), (o_To, .inl (tC 0, 16, .inl tb))]) [0, 1] (by decide) rfl
    exact W.iret (v := (-1)) hx hb hr (fun t ht hW => ⟨⟨(-1), tb, rfl, (by rw [FX7_replace]; rw [if_pos c_1]; try rfl), by rw [ht]; exact hP9, va_K.moved hW.alike hK, hD9⟩, hS.F ht⟩) hS.2.2 dX7_replace_13
  · skip
    have c_1 : ¬ (i0 < 0) := c_1
    have tc_1 : ¬ i0.toInt < (0 : Int) := fun q => c_1 (Int32.lt_iff_toInt_lt.mpr q)
    refine lv_iload_n hx hb dX7_replace_4 rfl (lv_at hl 1 rfl) ?_
    refine lv_aload_n hx hb dX7_replace_5 rfl (lv_at hl 0 rfl) ?_
    refine va_get (D := (dC, dI)) (ci := 7) (v := .int (fT 4)) (C := RX7) (T := TX7) (N := 5) hx hb hts (fun w h => List.mem_cons_of_mem _ (uwX7 w h)) hown hK hP 0 rfl rfl 4 (by decide) (hts _ (List.mem_cons_of_mem _ wd_175)) (fun _ h9 => h9) rfl dX7_replace_6 ?_
    refine lv_icmp_lt (tgt := 14) hx hb dX7_replace_9 (by decide) (fun c_2 => ?_) (fun c_2 => ?_)
    · skip
      have c_2 : i0 < (fT 4) := c_2
      have tc_2 : i0.toInt < (fT 4).toInt := Int32.lt_iff_toInt_lt.mp c_2
      refine lv_aload_n hx hb dX7_replace_14 rfl (lv_at hl 0 rfl) ?_
      refine va_get (D := (dC, dI)) (ci := 7) (v := .ref o_To) (C := RX7) (T := TX7) (N := 5) hx hb hts (fun w h => List.mem_cons_of_mem _ (uwX7 w h)) hown hK hP 0 rfl rfl 1 (by decide) (hts _ (List.mem_cons_of_mem _ wd_171)) (fun _ h9 => h9) rfl dX7_replace_15 ?_
      refine lv_iload_n hx hb dX7_replace_18 rfl (lv_at hl 1 rfl) ?_
      refine va_iald hx hb hK hP 1 0 rfl rfl (vp_in_iff.mpr (by omega)) dX7_replace_19 ?_
      refine lv_topi (fun x_3 (ex_3 : x_3 = (tb i0.toNatClampNeg)) => ?_)
      refine lv_istore_n (lv' := [(3, .int x_3), (0, .ref o_T), (1, .int i0), (2, .int i1)]) hx hb dX7_replace_20 rfl hl (by decide) rfl (fun ls hl => ?_)
      refine lv_aload_n hx hb dX7_replace_21 rfl (lv_at hl 1 rfl) ?_
      refine va_get (D := (dC, dI)) (ci := 7) (v := .ref o_To) (C := RX7) (T := TX7) (N := 5) hx hb hts (fun w h => List.mem_cons_of_mem _ (uwX7 w h)) hown hK hP 0 rfl rfl 1 (by decide) (hts _ (List.mem_cons_of_mem _ wd_171)) (fun _ h9 => h9) rfl dX7_replace_22 ?_
      refine lv_iload_n hx hb dX7_replace_25 rfl (lv_at hl 2 rfl) ?_
      refine lv_iload_n hx hb dX7_replace_26 rfl (lv_at hl 3 rfl) ?_
      refine va_iast hx hb hK hP hD hS 1 0 rfl rfl (vp_in_iff.mpr (by omega)) dX7_replace_27 (fun H locs hP hD hS => ?_)
      have hP : va_P (dC, dI) vwCl [(o_T, .inr (7, [.ref o_Tl, .ref o_To, .int (fT 2), .int (fT 3), .int (fT 4)])), (o_To, .inl (tC 0, 16, .inl (upd tb i0.toNatClampNeg i1)))] H := hP
      have hD : va_D A [(o_T, .inr (7, [.ref o_Tl, .ref o_To, .int (fT 2), .int (fT 3), .int (fT 4)])), (o_To, .inl (tC 0, 16, .inl (upd tb i0.toNatClampNeg i1)))] := hD
      refine lv_iload_n hx hb dX7_replace_28 rfl (lv_at hl 0 rfl) ?_
      have hP9 := hP.sub (ws' := [(o_T, .inr (7, [.ref o_Tl, .ref o_To, .int (fT 2), .int (fT 3), .int (fT 4)])), (o_To, .inl (tC 0, 16, .inl (upd tb i0.toNatClampNeg i1)))]) [0, 1] rfl
      have hD9 := hD.sub (ws' := [(o_T, .inr (7, [.ref o_Tl, .ref o_To, .int (fT 2), .int (fT 3), .int (fT 4)])), (o_To, .inl (tC 0, 16, .inl (upd tb i0.toNatClampNeg i1)))]) [0, 1] (by decide) rfl
      exact W.iret (v := x_3) hx hb hr (fun t ht hW => ⟨⟨x_3, (upd tb i0.toNatClampNeg i1), rfl, (by subst ex_3; rw [FX7_replace]; rw [if_neg c_1]; rw [if_pos c_2]; try rfl), by rw [ht]; exact hP9, va_K.moved hW.alike hK, hD9⟩, hS.F ht⟩) hS.2.2 dX7_replace_29
    · skip
      have c_2 : ¬ (i0 < (fT 4)) := c_2
      have tc_2 : ¬ i0.toInt < (fT 4).toInt := fun q => c_2 (Int32.lt_iff_toInt_lt.mpr q)
      refine lv_iconst (v := (-1)) hx hb dX7_replace_12 (by decide) ?_
      have hP9 := hP.sub (ws' := [(o_T, .inr (7, [.ref o_Tl, .ref o_To, .int (fT 2), .int (fT 3), .int (fT 4)])), (o_To, .inl (tC 0, 16, .inl tb))]) [0, 1] rfl
      have hD9 := hD.sub (ws' := [(o_T, .inr (7, [.ref o_Tl, .ref o_To, .int (fT 2), .int (fT 3), .int (fT 4)])), (o_To, .inl (tC 0, 16, .inl tb))]) [0, 1] (by decide) rfl
      exact W.iret (v := (-1)) hx hb hr (fun t ht hW => ⟨⟨(-1), tb, rfl, (by rw [FX7_replace]; rw [if_neg c_1]; rw [if_neg c_2]; try rfl), by rw [ht]; exact hP9, va_K.moved hW.alike hK, hD9⟩, hS.F ht⟩) hS.2.2 dX7_replace_13
set_option maxHeartbeats 4000000 in
set_option maxRecDepth 100000 in
theorem c_X7_empty (l : Launch) (dC : Nat → ClassId) (dI : Nat → Nat → Nat) (tC : Nat → ClassId) (o_T o_Tl o_To : Nat) (sz : Nat) (fT : (Nat → Int32)) : Met l yX7_empty wsX7_empty ({ frames := 0, cells := 0, slots := 0, locals := 0 }) (va_Pc [.ref o_T] (fun U => U.heap.size = sz ∧ va_P (dC, dI) vwCl [(o_T, .inr (7, [.ref o_Tl, .ref o_To, .int (fT 2), .int (fT 3), .int (fT 4)]))] U.heap ∧ va_K (dC, dI) vwCl (TY tC) U ∧ NW U ∧ va_D (fun _ => True) [(o_T, .inr (7, [.ref o_Tl, .ref o_To, .int (fT 2), .int (fT 3), .int (fT 4)]))])) (va_Qi (fun (r : Int32) (u : (Nat → Int32)) => (r, u) = FX7_empty fT) (fun (u : (Nat → Int32)) (t : State) => va_P (dC, dI) vwCl [(o_T, .inr (7, [.ref o_Tl, .ref o_To, .int (u 2), .int (u 3), .int (u 4)]))] t.heap ∧ va_K (dC, dI) vwCl (TY tC) t ∧ va_D (va_A [(o_T, .inr (7, [.ref o_Tl, .ref o_To, .int (fT 2), .int (fT 3), .int (fT 4)]))] sz) [(o_T, .inr (7, [.ref o_Tl, .ref o_To, .int (u 2), .int (u 3), .int (u 4)]))]) (va_A [(o_T, .inr (7, [.ref o_Tl, .ref o_To, .int (fT 2), .int (fT 3), .int (fT 4)]))] sz)) 0 0 (va_A [(o_T, .inr (7, [.ref o_Tl, .ref o_To, .int (fT 2), .int (fT 3), .int (fT 4)]))] sz) := by
  refine Met.ofW (cc := cX7_empty) (maxL := 2) (ret := (some .int)) (by decide) rfl ?_
  intro p e s m args below meth c s₁ B hml hv
  obtain ⟨rfl, hsz, hP, hK, hN, hD0⟩ := hv
  have hx := B.exec
  have hb := B.bytes
  have hr := B.returns
  have hts := atoms_spec (ws := wsX7_empty) B.pre
  have hown : s.vm.findClass RX7 = some m.cls := findClass_of_methodNamed B.named
  have hlocks := B.notSynchronized
  subst hsz
  have hD := hD0.self (sz := s.heap.size)
  generalize hAe : va_A [(o_T, .inr (7, [.ref o_Tl, .ref o_To, .int (fT 2), .int (fT 3), .int (fT 4)]))] s.heap.size = A at hD ⊢
  have hA : ∀ q : Nat, s.heap.size ≤ q → A q := fun q h => by rw [← hAe]; exact Or.inr h
  have hS : va_S A s.heap s.heap [] := va_S.rf
  have hP : va_P (dC, dI) vwCl [(o_T, .inr (7, [.ref o_Tl, .ref o_To, .int (fT 2), .int (fT 3), .int (fT 4)]))] s.heap := hP
  have hl := lv_entry ([.ref o_T]) (n := 2) (Nat.le_of_ble_eq_true rfl)
  rw [lg_entry_eq]
  generalize (lg_sl ([.ref o_T]) ++ List.replicate (2 - (lg_sl ([.ref o_T])).length) Slot.unset).toArray = ls at hl ⊢
  have hl : lv_has ls 2 [(0, .ref o_T)] := hl
  refine lv_aload_n hx hb dX7_empty_0 rfl (lv_at hl 0 rfl) ?_
  refine va_get (D := (dC, dI)) (ci := 7) (v := .int (fT 4)) (C := RX7) (T := TX7) (N := 5) hx hb hts (fun w h => List.mem_cons_of_mem _ (uwX7 w h)) hown hK hP 0 rfl rfl 4 (by decide) (hts _ (List.mem_cons_of_mem _ wd_175)) (fun _ h9 => h9) rfl dX7_empty_1 ?_
  refine lv_topi (fun x_1 (ex_1 : x_1 = (fT 4)) => ?_)
  refine lv_istore_n (lv' := [(1, .int x_1), (0, .ref o_T)]) hx hb dX7_empty_4 rfl hl (by decide) rfl (fun ls hl => ?_)
  refine lv_aload_n hx hb dX7_empty_5 rfl (lv_at hl 1 rfl) ?_
  refine lv_iconst (v := 0) hx hb dX7_empty_6 (by decide) ?_
  refine va_put (D := (dC, dI)) (ci := 7) (v := .int 0) (ty := .int) (C := RX7) (T := TX7) (N := 5) hx hb hts (fun w h => List.mem_cons_of_mem _ (uwX7 w h)) tyX7 tyX7_ok nmX7 hown hK hP hD hS 0 rfl rfl 2 (by decide) (hts _ (List.mem_cons_of_mem _ wd_173)) (fun _ h9 => h9) rfl (by decide +kernel) rfl rfl (Nat.le_of_ble_eq_true rfl) dX7_empty_7 (fun H locs hP hD hS => ?_)
  have hP : va_P (dC, dI) vwCl [(o_T, .inr (7, [.ref o_Tl, .ref o_To, .int 0, .int (fT 3), .int (fT 4)]))] H := hP
  have hD : va_D A [(o_T, .inr (7, [.ref o_Tl, .ref o_To, .int 0, .int (fT 3), .int (fT 4)]))] := hD
  refine lv_aload_n hx hb dX7_empty_10 rfl (lv_at hl 1 rfl) ?_
  refine lv_iconst (v := 0) hx hb dX7_empty_11 (by decide) ?_
  refine va_put (D := (dC, dI)) (ci := 7) (v := .int 0) (ty := .int) (C := RX7) (T := TX7) (N := 5) hx hb hts (fun w h => List.mem_cons_of_mem _ (uwX7 w h)) tyX7 tyX7_ok nmX7 hown hK hP hD hS 0 rfl rfl 4 (by decide) (hts _ (List.mem_cons_of_mem _ wd_175)) (fun _ h9 => h9) rfl (by decide +kernel) rfl rfl (Nat.le_of_ble_eq_true rfl) dX7_empty_12 (fun H locs hP hD hS => ?_)
  have hP : va_P (dC, dI) vwCl [(o_T, .inr (7, [.ref o_Tl, .ref o_To, .int 0, .int (fT 3), .int 0]))] H := hP
  have hD : va_D A [(o_T, .inr (7, [.ref o_Tl, .ref o_To, .int 0, .int (fT 3), .int 0]))] := hD
  refine lv_aload_n hx hb dX7_empty_15 rfl (lv_at hl 1 rfl) ?_
  refine lv_iconst (v := 0) hx hb dX7_empty_16 (by decide) ?_
  refine va_put (D := (dC, dI)) (ci := 7) (v := .int 0) (ty := .int) (C := RX7) (T := TX7) (N := 5) hx hb hts (fun w h => List.mem_cons_of_mem _ (uwX7 w h)) tyX7 tyX7_ok nmX7 hown hK hP hD hS 0 rfl rfl 3 (by decide) (hts _ (List.mem_cons_of_mem _ wd_174)) (fun _ h9 => h9) rfl (by decide +kernel) rfl rfl (Nat.le_of_ble_eq_true rfl) dX7_empty_17 (fun H locs hP hD hS => ?_)
  have hP : va_P (dC, dI) vwCl [(o_T, .inr (7, [.ref o_Tl, .ref o_To, .int 0, .int 0, .int 0]))] H := hP
  have hD : va_D A [(o_T, .inr (7, [.ref o_Tl, .ref o_To, .int 0, .int 0, .int 0]))] := hD
  refine lv_iload_n hx hb dX7_empty_20 rfl (lv_at hl 0 rfl) ?_
  have hP9 := hP.sub (ws' := [(o_T, .inr (7, [.ref o_Tl, .ref o_To, .int ((upd (upd (upd fT 2 0) 4 0) 3 0) 2), .int ((upd (upd (upd fT 2 0) 4 0) 3 0) 3), .int ((upd (upd (upd fT 2 0) 4 0) 3 0) 4)]))]) [0] rfl
  have hD9 := hD.sub (ws' := [(o_T, .inr (7, [.ref o_Tl, .ref o_To, .int ((upd (upd (upd fT 2 0) 4 0) 3 0) 2), .int ((upd (upd (upd fT 2 0) 4 0) 3 0) 3), .int ((upd (upd (upd fT 2 0) 4 0) 3 0) 4)]))]) [0] (by decide) rfl
  exact W.iret (v := x_1) hx hb hr (fun t ht hW => ⟨⟨x_1, (upd (upd (upd fT 2 0) 4 0) 3 0), rfl, (by subst ex_1; rw [FX7_empty]; try rfl), by rw [ht]; exact hP9, va_K.moved hW.alike hK, hD9⟩, hS.F ht⟩) hS.2.2 dX7_empty_21
set_option maxHeartbeats 4000000 in
set_option maxRecDepth 100000 in
theorem c_X7_isAskedBy (l : Launch) (dC : Nat → ClassId) (dI : Nat → Nat → Nat) (tC : Nat → ClassId) (o_T o_w o_Tl o_To : Nat) (n_w : Nat) (sz : Nat) (fT : (Nat → Int32)) (tl : (Nat → Int32)) (rb : (Nat → Int32)) (i0 : Int32) (h_T : iv_T fT) (h_n : n_w ≤ 1000) (h_w : 5 ≤ n_w) : Met l yX7_isAskedBy wsX7_isAskedBy ({ frames := 0, cells := 0, slots := 0, locals := 0 }) (va_Pc [.ref o_T, .ref o_w, .int i0] (fun U => U.heap.size = sz ∧ va_P (dC, dI) vwCl [(o_T, .inr (7, [.ref o_Tl, .ref o_To, .int (fT 2), .int (fT 3), .int (fT 4)])), (o_Tl, .inl (tC 0, 4, .inl tl)), (o_w, .inl (tC 0, n_w, .inl rb))] U.heap ∧ va_K (dC, dI) vwCl (TY tC) U ∧ NW U ∧ va_D (fun _ => True) [(o_T, .inr (7, [.ref o_Tl, .ref o_To, .int (fT 2), .int (fT 3), .int (fT 4)])), (o_Tl, .inl (tC 0, 4, .inl tl)), (o_w, .inl (tC 0, n_w, .inl rb))])) (va_Qi (fun (r : Int32) (u : Unit) => r = FX7_isAskedBy fT tl rb i0) (fun (u : Unit) (t : State) => va_P (dC, dI) vwCl [(o_T, .inr (7, [.ref o_Tl, .ref o_To, .int (fT 2), .int (fT 3), .int (fT 4)])), (o_Tl, .inl (tC 0, 4, .inl tl)), (o_w, .inl (tC 0, n_w, .inl rb))] t.heap ∧ va_K (dC, dI) vwCl (TY tC) t ∧ va_D (va_A [(o_T, .inr (7, [.ref o_Tl, .ref o_To, .int (fT 2), .int (fT 3), .int (fT 4)])), (o_Tl, .inl (tC 0, 4, .inl tl)), (o_w, .inl (tC 0, n_w, .inl rb))] sz) [(o_T, .inr (7, [.ref o_Tl, .ref o_To, .int (fT 2), .int (fT 3), .int (fT 4)])), (o_Tl, .inl (tC 0, 4, .inl tl)), (o_w, .inl (tC 0, n_w, .inl rb))]) (va_A [(o_T, .inr (7, [.ref o_Tl, .ref o_To, .int (fT 2), .int (fT 3), .int (fT 4)])), (o_Tl, .inl (tC 0, 4, .inl tl)), (o_w, .inl (tC 0, n_w, .inl rb))] sz)) 0 0 (va_A [(o_T, .inr (7, [.ref o_Tl, .ref o_To, .int (fT 2), .int (fT 3), .int (fT 4)])), (o_Tl, .inl (tC 0, 4, .inl tl)), (o_w, .inl (tC 0, n_w, .inl rb))] sz) := by
  refine Met.ofW (cc := cX7_isAskedBy) (maxL := 4) (ret := (some .boolean)) (by decide) rfl ?_
  intro p e s m args below meth c s₁ B hml hv
  obtain ⟨rfl, hsz, hP, hK, hN, hD0⟩ := hv
  have hx := B.exec
  have hb := B.bytes
  have hr := B.returns
  have hts := atoms_spec (ws := wsX7_isAskedBy) B.pre
  have hown : s.vm.findClass RX7 = some m.cls := findClass_of_methodNamed B.named
  have hlocks := B.notSynchronized
  subst hsz
  have hD := hD0.self (sz := s.heap.size)
  generalize hAe : va_A [(o_T, .inr (7, [.ref o_Tl, .ref o_To, .int (fT 2), .int (fT 3), .int (fT 4)])), (o_Tl, .inl (tC 0, 4, .inl tl)), (o_w, .inl (tC 0, n_w, .inl rb))] s.heap.size = A at hD ⊢
  have hA : ∀ q : Nat, s.heap.size ≤ q → A q := fun q h => by rw [← hAe]; exact Or.inr h
  have hS : va_S A s.heap s.heap [] := va_S.rf
  have hP : va_P (dC, dI) vwCl [(o_T, .inr (7, [.ref o_Tl, .ref o_To, .int (fT 2), .int (fT 3), .int (fT 4)])), (o_Tl, .inl (tC 0, 4, .inl tl)), (o_w, .inl (tC 0, n_w, .inl rb))] s.heap := hP
  have hl := lv_entry ([.ref o_T, .ref o_w, .int i0]) (n := 4) (Nat.le_of_ble_eq_true rfl)
  rw [lg_entry_eq]
  generalize (lg_sl ([.ref o_T, .ref o_w, .int i0]) ++ List.replicate (4 - (lg_sl ([.ref o_T, .ref o_w, .int i0])).length) Slot.unset).toArray = ls at hl ⊢
  have hl : lv_has ls 4 [(0, .ref o_T), (1, .ref o_w), (2, .int i0)] := hl
  generalize hQ : MQ _ _ _ _ _ _ _ = Q
  obtain ⟨h_n0, h_n4, h_l0, h_l16⟩ := id h_T
  refine lv_aload_n hx hb dX7_isAskedBy_0 rfl (lv_at hl 0 rfl) ?_
  refine va_get (D := (dC, dI)) (ci := 7) (v := .int (fT 2)) (C := RX7) (T := TX7) (N := 5) hx hb hts (fun w h => List.mem_cons_of_mem _ (uwX7 w h)) hown hK hP 0 rfl rfl 2 (by decide) (hts _ (List.mem_cons_of_mem _ wd_173)) (fun _ h9 => h9) rfl dX7_isAskedBy_1 ?_
  refine lv_iload_n hx hb dX7_isAskedBy_4 rfl (lv_at hl 2 rfl) ?_
  refine lv_iconst (v := 2) hx hb dX7_isAskedBy_5 (by decide) ?_
  refine lv_isub hx hb dX7_isAskedBy_6 ?_
  refine lv_icmp_eq (tgt := 12) hx hb dX7_isAskedBy_7 (by decide) (fun c_1 => ?_) (fun c_1 => ?_)
  · skip
    have c_1 : (fT 2) = (i0 - (2 : Int32)) := c_1
    have tc_1 : (fT 2).toInt = (i0 - (2 : Int32)).toInt := congrArg Int32.toInt c_1
    refine lv_iconst (v := 0) hx hb dX7_isAskedBy_12 (by decide) ?_
    refine lv_istore_n (lv' := [(3, .int 0), (0, .ref o_T), (1, .ref o_w), (2, .int i0)]) hx hb dX7_isAskedBy_13 rfl hl (by decide) rfl (fun ls hl => ?_)
    have loop : ∀ (n : Nat) (y3 : Int32) (H : Heap) (locs : List Loc) (ls : Array Slot), (0 ≤ y3.toInt) → (((fT 2).toInt - y3.toInt).toNat) < n → LX7_isAskedBy_14 fT tl rb n y3 = FX7_isAskedBy fT tl rb i0 → va_P (dC, dI) vwCl [(o_T, .inr (7, [.ref o_Tl, .ref o_To, .int (fT 2), .int (fT 3), .int (fT 4)])), (o_Tl, .inl (tC 0, 4, .inl tl)), (o_w, .inl (tC 0, n_w, .inl rb))] H → va_D A [(o_T, .inr (7, [.ref o_Tl, .ref o_To, .int (fT 2), .int (fT 3), .int (fT 4)])), (o_Tl, .inl (tC 0, 4, .inl tl)), (o_w, .inl (tC 0, n_w, .inl rb))] → va_S A s.heap H locs → lv_has ls 4 [(3, .int y3), (0, .ref o_T), (1, .ref o_w), (2, .int i0)] → W p l e (headSpec wsX7_isAskedBy ({ frames := 0, cells := 0, slots := 0, locals := 0 })).room s m ([.ref o_T, .ref o_w, .int i0] : List Value).toArray below meth c H locs 0 0 Q (F0 m 14 ls []) := by
      intro n; induction n with
      | zero => intro y3 H locs ls h_i hm hL; exact absurd hm (Nat.not_lt_zero _)
      | succ n ih =>
        intro y3 H locs ls h_i hm hL hP hD hS hl
        refine lv_iload_n hx hb dX7_isAskedBy_14 rfl (lv_at hl 0 rfl) ?_
        refine lv_aload_n hx hb dX7_isAskedBy_15 rfl (lv_at hl 1 rfl) ?_
        refine va_get (D := (dC, dI)) (ci := 7) (v := .int (fT 2)) (C := RX7) (T := TX7) (N := 5) hx hb hts (fun w h => List.mem_cons_of_mem _ (uwX7 w h)) hown hK hP 0 rfl rfl 2 (by decide) (hts _ (List.mem_cons_of_mem _ wd_173)) (fun _ h9 => h9) rfl dX7_isAskedBy_16 ?_
        refine lv_icmp_ge (tgt := 44) hx hb dX7_isAskedBy_19 (by decide) (fun c_2 => ?_) (fun c_2 => ?_)
        · skip
          have c_2 : (fT 2) ≤ y3 := c_2
          have tc_2 : (fT 2).toInt ≤ y3.toInt := Int32.le_iff_toInt_le.mp c_2
          refine lv_iconst (v := 1) hx hb dX7_isAskedBy_44 (by decide) ?_
          have hP9 := hP.sub (ws' := [(o_T, .inr (7, [.ref o_Tl, .ref o_To, .int (fT 2), .int (fT 3), .int (fT 4)])), (o_Tl, .inl (tC 0, 4, .inl tl)), (o_w, .inl (tC 0, n_w, .inl rb))]) [0, 1, 2] rfl
          have hD9 := hD.sub (ws' := [(o_T, .inr (7, [.ref o_Tl, .ref o_To, .int (fT 2), .int (fT 3), .int (fT 4)])), (o_Tl, .inl (tC 0, 4, .inl tl)), (o_w, .inl (tC 0, n_w, .inl rb))]) [0, 1, 2] (by decide) rfl
          rw [← hQ]
          exact W.zret (v := 1) hx hb hr rfl (fun t ht hW => ⟨⟨1, (), rfl, (by rw [← hL]; rw [LX7_isAskedBy_14]; rw [if_pos c_2]; try rfl), by rw [ht]; exact hP9, va_K.moved hW.alike hK, hD9⟩, hS.F ht⟩) hS.2.2 dX7_isAskedBy_45
        · skip
          have c_2 : ¬ ((fT 2) ≤ y3) := c_2
          have tc_2 : ¬ (fT 2).toInt ≤ y3.toInt := fun q => c_2 (Int32.le_iff_toInt_le.mpr q)
          refine lv_aload_n hx hb dX7_isAskedBy_22 rfl (lv_at hl 1 rfl) ?_
          refine va_get (D := (dC, dI)) (ci := 7) (v := .ref o_Tl) (C := RX7) (T := TX7) (N := 5) hx hb hts (fun w h => List.mem_cons_of_mem _ (uwX7 w h)) hown hK hP 0 rfl rfl 0 (by decide) (hts _ (List.mem_cons_of_mem _ wd_170)) (fun _ h9 => h9) rfl dX7_isAskedBy_23 ?_
          refine lv_iload_n hx hb dX7_isAskedBy_26 rfl (lv_at hl 0 rfl) ?_
          refine va_iald hx hb hK hP 1 0 rfl rfl (vp_in_iff.mpr (by omega)) dX7_isAskedBy_27 ?_
          refine lv_aload_n hx hb dX7_isAskedBy_28 rfl (lv_at hl 2 rfl) ?_
          refine lv_iconst (v := 1) hx hb dX7_isAskedBy_29 (by decide) ?_
          refine lv_iload_n hx hb dX7_isAskedBy_30 rfl (lv_at hl 0 rfl) ?_
          refine lv_iadd hx hb dX7_isAskedBy_31 ?_
          refine va_iald hx hb hK hP 2 0 rfl rfl (vi_addl 1 rfl (by omega) (by omega) (by omega)) dX7_isAskedBy_32 ?_
          refine lv_icmp_eq (tgt := 38) hx hb dX7_isAskedBy_33 (by decide) (fun c_3 => ?_) (fun c_3 => ?_)
          · skip
            have c_3 : (tl y3.toNatClampNeg) = (rb ((1 : Int32) + y3).toNatClampNeg) := c_3
            have tc_3 : (tl y3.toNatClampNeg).toInt = (rb ((1 : Int32) + y3).toNatClampNeg).toInt := congrArg Int32.toInt c_3
            obtain ⟨x_4, ex_4⟩ : ∃ y : Int32, y = (y3 + 1) := ⟨_, rfl⟩
            refine lv_iinc (v := x_4) (lv' := [(3, .int x_4), (0, .ref o_T), (1, .ref o_w), (2, .int i0)]) hx hb dX7_isAskedBy_38 hl (k := 0) rfl (by rw [ex_4]; rfl) (by decide) rfl (fun ls hl => ?_)
            have tx_4 : x_4.toInt = y3.toInt + 1 := by rw [ex_4]; exact tI_ac 1 rfl (by omega) (by omega)
            refine lv_goto (tgt := 14) hx hb dX7_isAskedBy_41 (by decide) ?_
            exact ih x_4 _ _ ls (by omega) (by omega) (by subst ex_4; rw [LX7_isAskedBy_14] at hL; rw [if_neg c_2] at hL; rw [if_pos c_3] at hL; exact hL) (hP.sub [0, 1, 2] rfl) (hD.sub [0, 1, 2] (by decide) rfl) hS (lv_sub hl [0, 1, 2, 3] rfl)
          · skip
            have c_3 : ¬ ((tl y3.toNatClampNeg) = (rb ((1 : Int32) + y3).toNatClampNeg)) := c_3
            refine lv_iconst (v := 0) hx hb dX7_isAskedBy_36 (by decide) ?_
            have hP9 := hP.sub (ws' := [(o_T, .inr (7, [.ref o_Tl, .ref o_To, .int (fT 2), .int (fT 3), .int (fT 4)])), (o_Tl, .inl (tC 0, 4, .inl tl)), (o_w, .inl (tC 0, n_w, .inl rb))]) [0, 1, 2] rfl
            have hD9 := hD.sub (ws' := [(o_T, .inr (7, [.ref o_Tl, .ref o_To, .int (fT 2), .int (fT 3), .int (fT 4)])), (o_Tl, .inl (tC 0, 4, .inl tl)), (o_w, .inl (tC 0, n_w, .inl rb))]) [0, 1, 2] (by decide) rfl
            rw [← hQ]
            exact W.zret (v := 0) hx hb hr rfl (fun t ht hW => ⟨⟨0, (), rfl, (by rw [← hL]; rw [LX7_isAskedBy_14]; rw [if_neg c_2]; rw [if_neg c_3]; try rfl), by rw [ht]; exact hP9, va_K.moved hW.alike hK, hD9⟩, hS.F ht⟩) hS.2.2 dX7_isAskedBy_37
    exact loop 128 0 _ _ ls (by decide) (by have q0 : (0 : Int32).toInt = 0 := rfl; omega) (by rw [FX7_isAskedBy]; rw [if_pos c_1]; try rfl) hP hD hS hl
  · skip
    have c_1 : ¬ ((fT 2) = (i0 - (2 : Int32))) := c_1
    refine lv_iconst (v := 0) hx hb dX7_isAskedBy_10 (by decide) ?_
    have hP9 := hP.sub (ws' := [(o_T, .inr (7, [.ref o_Tl, .ref o_To, .int (fT 2), .int (fT 3), .int (fT 4)])), (o_Tl, .inl (tC 0, 4, .inl tl)), (o_w, .inl (tC 0, n_w, .inl rb))]) [0, 1, 2] rfl
    have hD9 := hD.sub (ws' := [(o_T, .inr (7, [.ref o_Tl, .ref o_To, .int (fT 2), .int (fT 3), .int (fT 4)])), (o_Tl, .inl (tC 0, 4, .inl tl)), (o_w, .inl (tC 0, n_w, .inl rb))]) [0, 1, 2] (by decide) rfl
    rw [← hQ]
    exact W.zret (v := 0) hx hb hr rfl (fun t ht hW => ⟨⟨0, (), rfl, (by rw [FX7_isAskedBy]; rw [if_neg c_1]; try rfl), by rw [ht]; exact hP9, va_K.moved hW.alike hK, hD9⟩, hS.F ht⟩) hS.2.2 dX7_isAskedBy_11
set_option maxHeartbeats 4000000 in
set_option maxRecDepth 100000 in
theorem c_X7_isSound (l : Launch) (dC : Nat → ClassId) (dI : Nat → Nat → Nat) (tC : Nat → ClassId) (o_T o_Tl o_To : Nat) (sz : Nat) (fT : (Nat → Int32)) (tb : (Nat → Int32)) (h_T : iv_T fT) : Met l yX7_isSound wsX7_isSound ({ frames := 0, cells := 0, slots := 0, locals := 0 }) (va_Pc [.ref o_T] (fun U => U.heap.size = sz ∧ va_P (dC, dI) vwCl [(o_T, .inr (7, [.ref o_Tl, .ref o_To, .int (fT 2), .int (fT 3), .int (fT 4)])), (o_To, .inl (tC 0, 16, .inl tb))] U.heap ∧ va_K (dC, dI) vwCl (TY tC) U ∧ NW U ∧ va_D (fun _ => True) [(o_T, .inr (7, [.ref o_Tl, .ref o_To, .int (fT 2), .int (fT 3), .int (fT 4)])), (o_To, .inl (tC 0, 16, .inl tb))])) (va_Qi (fun (r : Int32) (u : Unit) => r = FX7_isSound fT tb) (fun (u : Unit) (t : State) => va_P (dC, dI) vwCl [(o_T, .inr (7, [.ref o_Tl, .ref o_To, .int (fT 2), .int (fT 3), .int (fT 4)])), (o_To, .inl (tC 0, 16, .inl tb))] t.heap ∧ va_K (dC, dI) vwCl (TY tC) t ∧ va_D (va_A [(o_T, .inr (7, [.ref o_Tl, .ref o_To, .int (fT 2), .int (fT 3), .int (fT 4)])), (o_To, .inl (tC 0, 16, .inl tb))] sz) [(o_T, .inr (7, [.ref o_Tl, .ref o_To, .int (fT 2), .int (fT 3), .int (fT 4)])), (o_To, .inl (tC 0, 16, .inl tb))]) (va_A [(o_T, .inr (7, [.ref o_Tl, .ref o_To, .int (fT 2), .int (fT 3), .int (fT 4)])), (o_To, .inl (tC 0, 16, .inl tb))] sz)) 0 0 (va_A [(o_T, .inr (7, [.ref o_Tl, .ref o_To, .int (fT 2), .int (fT 3), .int (fT 4)])), (o_To, .inl (tC 0, 16, .inl tb))] sz) := by
  refine Met.ofW (cc := cX7_isSound) (maxL := 3) (ret := (some .boolean)) (by decide) rfl ?_
  intro p e s m args below meth c s₁ B hml hv
  obtain ⟨rfl, hsz, hP, hK, hN, hD0⟩ := hv
  have hx := B.exec
  have hb := B.bytes
  have hr := B.returns
  have hts := atoms_spec (ws := wsX7_isSound) B.pre
  have hown : s.vm.findClass RX7 = some m.cls := findClass_of_methodNamed B.named
  have hlocks := B.notSynchronized
  subst hsz
  have hD := hD0.self (sz := s.heap.size)
  generalize hAe : va_A [(o_T, .inr (7, [.ref o_Tl, .ref o_To, .int (fT 2), .int (fT 3), .int (fT 4)])), (o_To, .inl (tC 0, 16, .inl tb))] s.heap.size = A at hD ⊢
  have hA : ∀ q : Nat, s.heap.size ≤ q → A q := fun q h => by rw [← hAe]; exact Or.inr h
  have hS : va_S A s.heap s.heap [] := va_S.rf
  have hP : va_P (dC, dI) vwCl [(o_T, .inr (7, [.ref o_Tl, .ref o_To, .int (fT 2), .int (fT 3), .int (fT 4)])), (o_To, .inl (tC 0, 16, .inl tb))] s.heap := hP
  have hl := lv_entry ([.ref o_T]) (n := 3) (Nat.le_of_ble_eq_true rfl)
  rw [lg_entry_eq]
  generalize (lg_sl ([.ref o_T]) ++ List.replicate (3 - (lg_sl ([.ref o_T])).length) Slot.unset).toArray = ls at hl ⊢
  have hl : lv_has ls 3 [(0, .ref o_T)] := hl
  generalize hQ : MQ _ _ _ _ _ _ _ = Q
  obtain ⟨h_n0, h_n4, h_l0, h_l16⟩ := id h_T
  refine lv_iconst (v := 0) hx hb dX7_isSound_0 (by decide) ?_
  refine lv_istore_n (lv' := [(1, .int 0), (0, .ref o_T)]) hx hb dX7_isSound_1 rfl hl (by decide) rfl (fun ls hl => ?_)
  refine lv_iconst (v := 0) hx hb dX7_isSound_2 (by decide) ?_
  refine lv_istore_n (lv' := [(2, .int 0), (1, .int 0), (0, .ref o_T)]) hx hb dX7_isSound_3 rfl hl (by decide) rfl (fun ls hl => ?_)
  have loop : ∀ (n : Nat) (y2 : Int32) (y1 : Int32) (H : Heap) (locs : List Loc) (ls : Array Slot), (0 ≤ y2.toInt) → (((fT 4).toInt - y2.toInt).toNat) < n → LX7_isSound_4 fT tb n y2 y1 = FX7_isSound fT tb → va_P (dC, dI) vwCl [(o_T, .inr (7, [.ref o_Tl, .ref o_To, .int (fT 2), .int (fT 3), .int (fT 4)])), (o_To, .inl (tC 0, 16, .inl tb))] H → va_D A [(o_T, .inr (7, [.ref o_Tl, .ref o_To, .int (fT 2), .int (fT 3), .int (fT 4)])), (o_To, .inl (tC 0, 16, .inl tb))] → va_S A s.heap H locs → lv_has ls 3 [(2, .int y2), (1, .int y1), (0, .ref o_T)] → W p l e (headSpec wsX7_isSound ({ frames := 0, cells := 0, slots := 0, locals := 0 })).room s m ([.ref o_T] : List Value).toArray below meth c H locs 0 0 Q (F0 m 4 ls []) := by
    intro n; induction n with
    | zero => intro y2 y1 H locs ls h_i hm hL; exact absurd hm (Nat.not_lt_zero _)
    | succ n ih =>
      intro y2 y1 H locs ls h_i hm hL hP hD hS hl
      refine lv_iload_n hx hb dX7_isSound_4 rfl (lv_at hl 0 rfl) ?_
      refine lv_aload_n hx hb dX7_isSound_5 rfl (lv_at hl 2 rfl) ?_
      refine va_get (D := (dC, dI)) (ci := 7) (v := .int (fT 4)) (C := RX7) (T := TX7) (N := 5) hx hb hts (fun w h => List.mem_cons_of_mem _ (uwX7 w h)) hown hK hP 0 rfl rfl 4 (by decide) (hts _ (List.mem_cons_of_mem _ wd_175)) (fun _ h9 => h9) rfl dX7_isSound_6 ?_
      refine lv_icmp_ge (tgt := 27) hx hb dX7_isSound_9 (by decide) (fun c_1 => ?_) (fun c_1 => ?_)
      · skip
        have c_1 : (fT 4) ≤ y2 := c_1
        have tc_1 : (fT 4).toInt ≤ y2.toInt := Int32.le_iff_toInt_le.mp c_1
        refine lv_iload_n hx hb dX7_isSound_27 rfl (lv_at hl 1 rfl) ?_
        refine lv_sipush (v := 255) hx hb dX7_isSound_28 (by decide) ?_
        refine lv_iand hx hb dX7_isSound_31 ?_
        refine lv_aload_n hx hb dX7_isSound_32 rfl (lv_at hl 2 rfl) ?_
        refine va_get (D := (dC, dI)) (ci := 7) (v := .int (fT 3)) (C := RX7) (T := TX7) (N := 5) hx hb hts (fun w h => List.mem_cons_of_mem _ (uwX7 w h)) hown hK hP 0 rfl rfl 3 (by decide) (hts _ (List.mem_cons_of_mem _ wd_174)) (fun _ h9 => h9) rfl dX7_isSound_33 ?_
        refine lv_icmp_ne (tgt := 43) hx hb dX7_isSound_36 (by decide) (fun c_2 => ?_) (fun c_2 => ?_)
        · skip
          have c_2 : ¬ ((y1 &&& (255 : Int32)) = (fT 3)) := c_2
          refine lv_iconst (v := 0) hx hb dX7_isSound_43 (by decide) ?_
          have hP9 := hP.sub (ws' := [(o_T, .inr (7, [.ref o_Tl, .ref o_To, .int (fT 2), .int (fT 3), .int (fT 4)])), (o_To, .inl (tC 0, 16, .inl tb))]) [0, 1] rfl
          have hD9 := hD.sub (ws' := [(o_T, .inr (7, [.ref o_Tl, .ref o_To, .int (fT 2), .int (fT 3), .int (fT 4)])), (o_To, .inl (tC 0, 16, .inl tb))]) [0, 1] (by decide) rfl
          rw [← hQ]
          exact W.zret (v := 0) hx hb hr rfl (fun t ht hW => ⟨⟨0, (), rfl, (by rw [← hL]; rw [LX7_isSound_4]; rw [if_pos c_1]; rw [if_neg c_2]; try rfl), by rw [ht]; exact hP9, va_K.moved hW.alike hK, hD9⟩, hS.F ht⟩) hS.2.2 dX7_isSound_44
        · skip
          have c_2 : (y1 &&& (255 : Int32)) = (fT 3) := c_2
          have tc_2 : (y1 &&& (255 : Int32)).toInt = (fT 3).toInt := congrArg Int32.toInt c_2
          refine lv_iconst (v := 1) hx hb dX7_isSound_39 (by decide) ?_
          refine lv_goto (tgt := 44) hx hb dX7_isSound_40 (by decide) ?_
          have hP9 := hP.sub (ws' := [(o_T, .inr (7, [.ref o_Tl, .ref o_To, .int (fT 2), .int (fT 3), .int (fT 4)])), (o_To, .inl (tC 0, 16, .inl tb))]) [0, 1] rfl
          have hD9 := hD.sub (ws' := [(o_T, .inr (7, [.ref o_Tl, .ref o_To, .int (fT 2), .int (fT 3), .int (fT 4)])), (o_To, .inl (tC 0, 16, .inl tb))]) [0, 1] (by decide) rfl
          rw [← hQ]
          exact W.zret (v := 1) hx hb hr rfl (fun t ht hW => ⟨⟨1, (), rfl, (by rw [← hL]; rw [LX7_isSound_4]; rw [if_pos c_1]; rw [if_pos c_2]; try rfl), by rw [ht]; exact hP9, va_K.moved hW.alike hK, hD9⟩, hS.F ht⟩) hS.2.2 dX7_isSound_44
      · skip
        have c_1 : ¬ ((fT 4) ≤ y2) := c_1
        have tc_1 : ¬ (fT 4).toInt ≤ y2.toInt := fun q => c_1 (Int32.le_iff_toInt_le.mpr q)
        refine lv_iload_n hx hb dX7_isSound_12 rfl (lv_at hl 1 rfl) ?_
        refine lv_aload_n hx hb dX7_isSound_13 rfl (lv_at hl 2 rfl) ?_
        refine va_get (D := (dC, dI)) (ci := 7) (v := .ref o_To) (C := RX7) (T := TX7) (N := 5) hx hb hts (fun w h => List.mem_cons_of_mem _ (uwX7 w h)) hown hK hP 0 rfl rfl 1 (by decide) (hts _ (List.mem_cons_of_mem _ wd_171)) (fun _ h9 => h9) rfl dX7_isSound_14 ?_
        refine lv_iload_n hx hb dX7_isSound_17 rfl (lv_at hl 0 rfl) ?_
        refine va_iald hx hb hK hP 1 0 rfl rfl (vp_in_iff.mpr (by omega)) dX7_isSound_18 ?_
        refine lv_iadd hx hb dX7_isSound_19 ?_
        refine lv_topi (fun x_3 (ex_3 : x_3 = (y1 + (tb y2.toNatClampNeg))) => ?_)
        refine lv_istore_n (lv' := [(1, .int x_3), (2, .int y2), (0, .ref o_T)]) hx hb dX7_isSound_20 rfl hl (by decide) rfl (fun ls hl => ?_)
        obtain ⟨x_4, ex_4⟩ : ∃ y : Int32, y = (y2 + 1) := ⟨_, rfl⟩
        refine lv_iinc (v := x_4) (lv' := [(2, .int x_4), (1, .int x_3), (0, .ref o_T)]) hx hb dX7_isSound_21 hl (k := 1) rfl (by rw [ex_4]; rfl) (by decide) rfl (fun ls hl => ?_)
        have tx_4 : x_4.toInt = y2.toInt + 1 := by rw [ex_4]; exact tI_ac 1 rfl (by omega) (by omega)
        refine lv_goto (tgt := 4) hx hb dX7_isSound_24 (by decide) ?_
        exact ih x_4 x_3 _ _ ls (by omega) (by omega) (by subst ex_3 ex_4; rw [LX7_isSound_4] at hL; rw [if_neg c_1] at hL; exact hL) (hP.sub [0, 1] rfl) (hD.sub [0, 1] (by decide) rfl) hS (lv_sub hl [0, 1, 2] rfl)
  exact loop 128 0 0 _ _ ls (by decide) (by have q0 : (0 : Int32).toInt = 0 := rfl; omega) (by rw [FX7_isSound]; try rfl) hP hD hS hl
