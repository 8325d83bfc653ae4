set_option maxHeartbeats 4000000 in
set_option maxRecDepth 100000 in
theorem c_X5_begin (l : Launch) (dC : Nat → ClassId) (dI : Nat → Nat → Nat) (tC : Nat → ClassId) (o_S o_D o_So o_Si o_Dp : Nat) (sz : Nat) (fS : (Nat → Int32)) (fD : (Nat → Int32)) (dp : (Nat → Int32)) (i0 : Int32) : Met l yX5_begin wsX5_begin ({ frames := 0, cells := 0, slots := 0, locals := 0 }) (va_Pc [.ref o_S, .ref o_D, .int i0] (fun U => U.heap.size = sz ∧ va_P (dC, dI) vwCl [(o_S, .inr (5, [.ref o_So, .ref o_Si, .int (fS 2), .int (fS 3), .int (fS 4), .int (fS 5), .int (fS 6), .int (fS 7), .int (fS 8), .int (fS 9), .int (fS 10), .int (fS 11), .int (fS 12), .int (fS 13)])), (o_D, .inr (2, [.ref o_Dp, .int (fD 1), .int (fD 2), .int (fD 3)])), (o_Dp, .inl (tC 0, 32, .inl dp))] U.heap ∧ va_K (dC, dI) vwCl (TY tC) U ∧ NW U ∧ va_D (fun _ => True) [(o_S, .inr (5, [.ref o_So, .ref o_Si, .int (fS 2), .int (fS 3), .int (fS 4), .int (fS 5), .int (fS 6), .int (fS 7), .int (fS 8), .int (fS 9), .int (fS 10), .int (fS 11), .int (fS 12), .int (fS 13)])), (o_D, .inr (2, [.ref o_Dp, .int (fD 1), .int (fD 2), .int (fD 3)])), (o_Dp, .inl (tC 0, 32, .inl dp))])) (va_Qv (fun (u : (Nat → Int32)) => u = FX5_begin fS fD dp i0) (fun (u : (Nat → Int32)) (t : State) => va_P (dC, dI) vwCl [(o_S, .inr (5, [.ref o_So, .ref o_Si, .int (u 2), .int (u 3), .int (u 4), .int (u 5), .int (u 6), .int (u 7), .int (u 8), .int (u 9), .int (u 10), .int (u 11), .int (u 12), .int (u 13)])), (o_D, .inr (2, [.ref o_Dp, .int (fD 1), .int (fD 2), .int (fD 3)])), (o_Dp, .inl (tC 0, 32, .inl dp))] t.heap ∧ va_K (dC, dI) vwCl (TY tC) t ∧ va_D (va_A [(o_S, .inr (5, [.ref o_So, .ref o_Si, .int (fS 2), .int (fS 3), .int (fS 4), .int (fS 5), .int (fS 6), .int (fS 7), .int (fS 8), .int (fS 9), .int (fS 10), .int (fS 11), .int (fS 12), .int (fS 13)])), (o_D, .inr (2, [.ref o_Dp, .int (fD 1), .int (fD 2), .int (fD 3)])), (o_Dp, .inl (tC 0, 32, .inl dp))] sz) [(o_S, .inr (5, [.ref o_So, .ref o_Si, .int (u 2), .int (u 3), .int (u 4), .int (u 5), .int (u 6), .int (u 7), .int (u 8), .int (u 9), .int (u 10), .int (u 11), .int (u 12), .int (u 13)])), (o_D, .inr (2, [.ref o_Dp, .int (fD 1), .int (fD 2), .int (fD 3)])), (o_Dp, .inl (tC 0, 32, .inl dp))]) (va_A [(o_S, .inr (5, [.ref o_So, .ref o_Si, .int (fS 2), .int (fS 3), .int (fS 4), .int (fS 5), .int (fS 6), .int (fS 7), .int (fS 8), .int (fS 9), .int (fS 10), .int (fS 11), .int (fS 12), .int (fS 13)])), (o_D, .inr (2, [.ref o_Dp, .int (fD 1), .int (fD 2), .int (fD 3)])), (o_Dp, .inl (tC 0, 32, .inl dp))] sz)) 0 0 (va_A [(o_S, .inr (5, [.ref o_So, .ref o_Si, .int (fS 2), .int (fS 3), .int (fS 4), .int (fS 5), .int (fS 6), .int (fS 7), .int (fS 8), .int (fS 9), .int (fS 10), .int (fS 11), .int (fS 12), .int (fS 13)])), (o_D, .inr (2, [.ref o_Dp, .int (fD 1), .int (fD 2), .int (fD 3)])), (o_Dp, .inl (tC 0, 32, .inl dp))] sz) := by
  refine Met.ofW (cc := cX5_begin) (maxL := 3) (ret := none) (by decide) rfl ?_
  intro p e s m args below meth c s₁ B hml hv
  obtain ⟨rfl, hsz, hP, hK, hN, hD0⟩ := hv
  have hx := B.exec
  have hb := B.bytes
  have hr := B.returns
  have hts := atoms_spec (ws := wsX5_begin) B.pre
  have hown : s.vm.findClass RX5 = some m.cls := findClass_of_methodNamed B.named
  have hlocks := B.notSynchronized
  subst hsz
  have hD := hD0.self (sz := s.heap.size)
  generalize hAe : va_A [(o_S, .inr (5, [.ref o_So, .ref o_Si, .int (fS 2), .int (fS 3), .int (fS 4), .int (fS 5), .int (fS 6), .int (fS 7), .int (fS 8), .int (fS 9), .int (fS 10), .int (fS 11), .int (fS 12), .int (fS 13)])), (o_D, .inr (2, [.ref o_Dp, .int (fD 1), .int (fD 2), .int (fD 3)])), (o_Dp, .inl (tC 0, 32, .inl dp))] s.heap.size = A at hD ⊢
  have hA : ∀ q : Nat, s.heap.size ≤ q → A q := fun q h => by rw [← hAe]; exact Or.inr h
  have hS : va_S A s.heap s.heap [] := va_S.rf
  have hP : va_P (dC, dI) vwCl [(o_S, .inr (5, [.ref o_So, .ref o_Si, .int (fS 2), .int (fS 3), .int (fS 4), .int (fS 5), .int (fS 6), .int (fS 7), .int (fS 8), .int (fS 9), .int (fS 10), .int (fS 11), .int (fS 12), .int (fS 13)])), (o_D, .inr (2, [.ref o_Dp, .int (fD 1), .int (fD 2), .int (fD 3)])), (o_Dp, .inl (tC 0, 32, .inl dp))] s.heap := hP
  have hl := lv_entry ([.ref o_S, .ref o_D, .int i0]) (n := 3) (Nat.le_of_ble_eq_true rfl)
  rw [lg_entry_eq]
  generalize (lg_sl ([.ref o_S, .ref o_D, .int i0]) ++ List.replicate (3 - (lg_sl ([.ref o_S, .ref o_D, .int i0])).length) Slot.unset).toArray = ls at hl ⊢
  have hl : lv_has ls 3 [(0, .ref o_S), (1, .ref o_D), (2, .int i0)] := hl
  refine lv_aload_n hx hb dX5_begin_0 rfl (lv_at hl 0 rfl) ?_
  refine lv_iconst (v := 1) hx hb dX5_begin_1 (by decide) ?_
  refine va_put (D := (dC, dI)) (ci := 5) (v := .int 1) (ty := .int) (C := RX5) (T := TX5) (N := 14) hx hb hts (fun w h => List.mem_cons_of_mem _ (uwX5 w h)) tyX5 tyX5_ok nmX5 hown hK hP hD hS 0 rfl rfl 2 (by decide) (hts _ (List.mem_cons_of_mem _ wd_210)) (fun _ h9 => h9) rfl (by decide +kernel) rfl rfl (Nat.le_of_ble_eq_true rfl) dX5_begin_2 (fun H locs hP hD hS => ?_)
  have hP : va_P (dC, dI) vwCl [(o_S, .inr (5, [.ref o_So, .ref o_Si, .int 1, .int (fS 3), .int (fS 4), .int (fS 5), .int (fS 6), .int (fS 7), .int (fS 8), .int (fS 9), .int (fS 10), .int (fS 11), .int (fS 12), .int (fS 13)])), (o_D, .inr (2, [.ref o_Dp, .int (fD 1), .int (fD 2), .int (fD 3)])), (o_Dp, .inl (tC 0, 32, .inl dp))] H := hP
  have hD : va_D A [(o_S, .inr (5, [.ref o_So, .ref o_Si, .int 1, .int (fS 3), .int (fS 4), .int (fS 5), .int (fS 6), .int (fS 7), .int (fS 8), .int (fS 9), .int (fS 10), .int (fS 11), .int (fS 12), .int (fS 13)])), (o_D, .inr (2, [.ref o_Dp, .int (fD 1), .int (fD 2), .int (fD 3)])), (o_Dp, .inl (tC 0, 32, .inl dp))] := hD
  refine lv_aload_n hx hb dX5_begin_5 rfl (lv_at hl 0 rfl) ?_
  refine lv_aload_n hx hb dX5_begin_6 rfl (lv_at hl 1 rfl) ?_
  refine va_get (D := (dC, dI)) (ci := 2) (v := .int (fD 1)) (C := RX2) (T := TX2) (N := 4) hx hb hts (fun w h => List.mem_cons_of_mem _ (uwX2 w h)) hown hK hP 1 rfl rfl 1 (by decide) (hts _ (List.mem_cons_of_mem _ wd_103)) (fun _ h9 => h9) rfl dX5_begin_7 ?_
  refine lv_topi (fun f_1 (ef_1 : f_1 = (fD 1)) => ?_)
  refine va_put (D := (dC, dI)) (ci := 5) (v := .int f_1) (ty := .int) (C := RX5) (T := TX5) (N := 14) hx hb hts (fun w h => List.mem_cons_of_mem _ (uwX5 w h)) tyX5 tyX5_ok nmX5 hown hK hP hD hS 0 rfl rfl 3 (by decide) (hts _ (List.mem_cons_of_mem _ wd_212)) (fun _ h9 => h9) rfl (by decide +kernel) rfl rfl (Nat.le_of_ble_eq_true rfl) dX5_begin_10 (fun H locs hP hD hS => ?_)
  have hP : va_P (dC, dI) vwCl [(o_S, .inr (5, [.ref o_So, .ref o_Si, .int 1, .int f_1, .int (fS 4), .int (fS 5), .int (fS 6), .int (fS 7), .int (fS 8), .int (fS 9), .int (fS 10), .int (fS 11), .int (fS 12), .int (fS 13)])), (o_D, .inr (2, [.ref o_Dp, .int (fD 1), .int (fD 2), .int (fD 3)])), (o_Dp, .inl (tC 0, 32, .inl dp))] H := hP
  have hD : va_D A [(o_S, .inr (5, [.ref o_So, .ref o_Si, .int 1, .int f_1, .int (fS 4), .int (fS 5), .int (fS 6), .int (fS 7), .int (fS 8), .int (fS 9), .int (fS 10), .int (fS 11), .int (fS 12), .int (fS 13)])), (o_D, .inr (2, [.ref o_Dp, .int (fD 1), .int (fD 2), .int (fD 3)])), (o_Dp, .inl (tC 0, 32, .inl dp))] := hD
  refine lv_aload_n hx hb dX5_begin_13 rfl (lv_at hl 0 rfl) ?_
  refine lv_aload_n hx hb dX5_begin_14 rfl (lv_at hl 1 rfl) ?_
  refine va_get (D := (dC, dI)) (ci := 2) (v := .ref o_Dp) (C := RX2) (T := TX2) (N := 4) hx hb hts (fun w h => List.mem_cons_of_mem _ (uwX2 w h)) hown hK hP 1 rfl rfl 0 (by decide) (hts _ (List.mem_cons_of_mem _ wd_99)) (fun _ h9 => h9) rfl dX5_begin_15 ?_
  refine lv_iconst (v := 0) hx hb dX5_begin_18 (by decide) ?_
  refine va_iald hx hb hK hP 2 0 rfl rfl (vi_c (by decide +kernel)) dX5_begin_19 ?_
  refine lv_topi (fun f_2 (ef_2 : f_2 = (dp 0)) => ?_)
  refine va_put (D := (dC, dI)) (ci := 5) (v := .int f_2) (ty := .int) (C := RX5) (T := TX5) (N := 14) hx hb hts (fun w h => List.mem_cons_of_mem _ (uwX5 w h)) tyX5 tyX5_ok nmX5 hown hK hP hD hS 0 rfl rfl 4 (by decide) (hts _ (List.mem_cons_of_mem _ wd_214)) (fun _ h9 => h9) rfl (by decide +kernel) rfl rfl (Nat.le_of_ble_eq_true rfl) dX5_begin_20 (fun H locs hP hD hS => ?_)
  have hP : va_P (dC, dI) vwCl [(o_S, .inr (5, [.ref o_So, .ref o_Si, .int 1, .int f_1, .int f_2, .int (fS 5), .int (fS 6), .int (fS 7), .int (fS 8), .int (fS 9), .int (fS 10), .int (fS 11), .int (fS 12), .int (fS 13)])), (o_D, .inr (2, [.ref o_Dp, .int (fD 1), .int (fD 2), .int (fD 3)])), (o_Dp, .inl (tC 0, 32, .inl dp))] H := hP
  have hD : va_D A [(o_S, .inr (5, [.ref o_So, .ref o_Si, .int 1, .int f_1, .int f_2, .int (fS 5), .int (fS 6), .int (fS 7), .int (fS 8), .int (fS 9), .int (fS 10), .int (fS 11), .int (fS 12), .int (fS 13)])), (o_D, .inr (2, [.ref o_Dp, .int (fD 1), .int (fD 2), .int (fD 3)])), (o_Dp, .inl (tC 0, 32, .inl dp))] := hD
  refine lv_aload_n hx hb dX5_begin_23 rfl (lv_at hl 0 rfl) ?_
  refine lv_aload_n hx hb dX5_begin_24 rfl (lv_at hl 1 rfl) ?_
  refine va_get (D := (dC, dI)) (ci := 2) (v := .ref o_Dp) (C := RX2) (T := TX2) (N := 4) hx hb hts (fun w h => List.mem_cons_of_mem _ (uwX2 w h)) hown hK hP 1 rfl rfl 0 (by decide) (hts _ (List.mem_cons_of_mem _ wd_99)) (fun _ h9 => h9) rfl dX5_begin_25 ?_
  refine lv_iconst (v := 1) hx hb dX5_begin_28 (by decide) ?_
  refine va_iald hx hb hK hP 2 0 rfl rfl (vi_c (by decide +kernel)) dX5_begin_29 ?_
  refine lv_iconst (v := 1) hx hb dX5_begin_30 (by decide) ?_
  refine lv_iadd hx hb dX5_begin_31 ?_
  refine lv_sipush (v := 255) hx hb dX5_begin_32 (by decide) ?_
  refine lv_iand hx hb dX5_begin_35 ?_
  refine lv_topi (fun f_3 (ef_3 : f_3 = (((dp 1) + (1 : Int32)) &&& (255 : Int32))) => ?_)
  refine va_put (D := (dC, dI)) (ci := 5) (v := .int f_3) (ty := .int) (C := RX5) (T := TX5) (N := 14) hx hb hts (fun w h => List.mem_cons_of_mem _ (uwX5 w h)) tyX5 tyX5_ok nmX5 hown hK hP hD hS 0 rfl rfl 5 (by decide) (hts _ (List.mem_cons_of_mem _ wd_216)) (fun _ h9 => h9) rfl (by decide +kernel) rfl rfl (Nat.le_of_ble_eq_true rfl) dX5_begin_36 (fun H locs hP hD hS => ?_)
  have hP : va_P (dC, dI) vwCl [(o_S, .inr (5, [.ref o_So, .ref o_Si, .int 1, .int f_1, .int f_2, .int f_3, .int (fS 6), .int (fS 7), .int (fS 8), .int (fS 9), .int (fS 10), .int (fS 11), .int (fS 12), .int (fS 13)])), (o_D, .inr (2, [.ref o_Dp, .int (fD 1), .int (fD 2), .int (fD 3)])), (o_Dp, .inl (tC 0, 32, .inl dp))] H := hP
  have hD : va_D A [(o_S, .inr (5, [.ref o_So, .ref o_Si, .int 1, .int f_1, .int f_2, .int f_3, .int (fS 6), .int (fS 7), .int (fS 8), .int (fS 9), .int (fS 10), .int (fS 11), .int (fS 12), .int (fS 13)])), (o_D, .inr (2, [.ref o_Dp, .int (fD 1), .int (fD 2), .int (fD 3)])), (o_Dp, .inl (tC 0, 32, .inl dp))] := hD
  refine lv_aload_n hx hb dX5_begin_39 rfl (lv_at hl 0 rfl) ?_
  refine lv_iload_n hx hb dX5_begin_40 rfl (lv_at hl 2 rfl) ?_
  refine va_put (D := (dC, dI)) (ci := 5) (v := .int i0) (ty := .int) (C := RX5) (T := TX5) (N := 14) hx hb hts (fun w h => List.mem_cons_of_mem _ (uwX5 w h)) tyX5 tyX5_ok nmX5 hown hK hP hD hS 0 rfl rfl 6 (by decide) (hts _ (List.mem_cons_of_mem _ wd_218)) (fun _ h9 => h9) rfl (by decide +kernel) rfl rfl (Nat.le_of_ble_eq_true rfl) dX5_begin_41 (fun H locs hP hD hS => ?_)
  have hP : va_P (dC, dI) vwCl [(o_S, .inr (5, [.ref o_So, .ref o_Si, .int 1, .int f_1, .int f_2, .int f_3, .int i0, .int (fS 7), .int (fS 8), .int (fS 9), .int (fS 10), .int (fS 11), .int (fS 12), .int (fS 13)])), (o_D, .inr (2, [.ref o_Dp, .int (fD 1), .int (fD 2), .int (fD 3)])), (o_Dp, .inl (tC 0, 32, .inl dp))] H := hP
  have hD : va_D A [(o_S, .inr (5, [.ref o_So, .ref o_Si, .int 1, .int f_1, .int f_2, .int f_3, .int i0, .int (fS 7), .int (fS 8), .int (fS 9), .int (fS 10), .int (fS 11), .int (fS 12), .int (fS 13)])), (o_D, .inr (2, [.ref o_Dp, .int (fD 1), .int (fD 2), .int (fD 3)])), (o_Dp, .inl (tC 0, 32, .inl dp))] := hD
  refine lv_aload_n hx hb dX5_begin_44 rfl (lv_at hl 0 rfl) ?_
  refine lv_iload_n hx hb dX5_begin_45 rfl (lv_at hl 2 rfl) ?_
  refine va_put (D := (dC, dI)) (ci := 5) (v := .int i0) (ty := .int) (C := RX5) (T := TX5) (N := 14) hx hb hts (fun w h => List.mem_cons_of_mem _ (uwX5 w h)) tyX5 tyX5_ok nmX5 hown hK hP hD hS 0 rfl rfl 7 (by decide) (hts _ (List.mem_cons_of_mem _ wd_219)) (fun _ h9 => h9) rfl (by decide +kernel) rfl rfl (Nat.le_of_ble_eq_true rfl) dX5_begin_46 (fun H locs hP hD hS => ?_)
  have hP : va_P (dC, dI) vwCl [(o_S, .inr (5, [.ref o_So, .ref o_Si, .int 1, .int f_1, .int f_2, .int f_3, .int i0, .int i0, .int (fS 8), .int (fS 9), .int (fS 10), .int (fS 11), .int (fS 12), .int (fS 13)])), (o_D, .inr (2, [.ref o_Dp, .int (fD 1), .int (fD 2), .int (fD 3)])), (o_Dp, .inl (tC 0, 32, .inl dp))] H := hP
  have hD : va_D A [(o_S, .inr (5, [.ref o_So, .ref o_Si, .int 1, .int f_1, .int f_2, .int f_3, .int i0, .int i0, .int (fS 8), .int (fS 9), .int (fS 10), .int (fS 11), .int (fS 12), .int (fS 13)])), (o_D, .inr (2, [.ref o_Dp, .int (fD 1), .int (fD 2), .int (fD 3)])), (o_Dp, .inl (tC 0, 32, .inl dp))] := hD
  refine lv_aload_n hx hb dX5_begin_49 rfl (lv_at hl 0 rfl) ?_
  refine lv_iconst (v := 0) hx hb dX5_begin_50 (by decide) ?_
  refine va_put (D := (dC, dI)) (ci := 5) (v := .int 0) (ty := .int) (C := RX5) (T := TX5) (N := 14) hx hb hts (fun w h => List.mem_cons_of_mem _ (uwX5 w h)) tyX5 tyX5_ok nmX5 hown hK hP hD hS 0 rfl rfl 8 (by decide) (hts _ (List.mem_cons_of_mem _ wd_221)) (fun _ h9 => h9) rfl (by decide +kernel) rfl rfl (Nat.le_of_ble_eq_true rfl) dX5_begin_51 (fun H locs hP hD hS => ?_)
  have hP : va_P (dC, dI) vwCl [(o_S, .inr (5, [.ref o_So, .ref o_Si, .int 1, .int f_1, .int f_2, .int f_3, .int i0, .int i0, .int 0, .int (fS 9), .int (fS 10), .int (fS 11), .int (fS 12), .int (fS 13)])), (o_D, .inr (2, [.ref o_Dp, .int (fD 1), .int (fD 2), .int (fD 3)])), (o_Dp, .inl (tC 0, 32, .inl dp))] H := hP
  have hD : va_D A [(o_S, .inr (5, [.ref o_So, .ref o_Si, .int 1, .int f_1, .int f_2, .int f_3, .int i0, .int i0, .int 0, .int (fS 9), .int (fS 10), .int (fS 11), .int (fS 12), .int (fS 13)])), (o_D, .inr (2, [.ref o_Dp, .int (fD 1), .int (fD 2), .int (fD 3)])), (o_Dp, .inl (tC 0, 32, .inl dp))] := hD
  refine lv_aload_n hx hb dX5_begin_54 rfl (lv_at hl 0 rfl) ?_
  refine lv_iconst (v := 0) hx hb dX5_begin_55 (by decide) ?_
  refine va_put (D := (dC, dI)) (ci := 5) (v := .int 0) (ty := .int) (C := RX5) (T := TX5) (N := 14) hx hb hts (fun w h => List.mem_cons_of_mem _ (uwX5 w h)) tyX5 tyX5_ok nmX5 hown hK hP hD hS 0 rfl rfl 9 (by decide) (hts _ (List.mem_cons_of_mem _ wd_223)) (fun _ h9 => h9) rfl (by decide +kernel) rfl rfl (Nat.le_of_ble_eq_true rfl) dX5_begin_56 (fun H locs hP hD hS => ?_)
  have hP : va_P (dC, dI) vwCl [(o_S, .inr (5, [.ref o_So, .ref o_Si, .int 1, .int f_1, .int f_2, .int f_3, .int i0, .int i0, .int 0, .int 0, .int (fS 10), .int (fS 11), .int (fS 12), .int (fS 13)])), (o_D, .inr (2, [.ref o_Dp, .int (fD 1), .int (fD 2), .int (fD 3)])), (o_Dp, .inl (tC 0, 32, .inl dp))] H := hP
  have hD : va_D A [(o_S, .inr (5, [.ref o_So, .ref o_Si, .int 1, .int f_1, .int f_2, .int f_3, .int i0, .int i0, .int 0, .int 0, .int (fS 10), .int (fS 11), .int (fS 12), .int (fS 13)])), (o_D, .inr (2, [.ref o_Dp, .int (fD 1), .int (fD 2), .int (fD 3)])), (o_Dp, .inl (tC 0, 32, .inl dp))] := hD
  refine lv_aload_n hx hb dX5_begin_59 rfl (lv_at hl 0 rfl) ?_
  refine lv_aload_n hx hb dX5_begin_60 rfl (lv_at hl 1 rfl) ?_
  refine va_get (D := (dC, dI)) (ci := 2) (v := .ref o_Dp) (C := RX2) (T := TX2) (N := 4) hx hb hts (fun w h => List.mem_cons_of_mem _ (uwX2 w h)) hown hK hP 1 rfl rfl 0 (by decide) (hts _ (List.mem_cons_of_mem _ wd_99)) (fun _ h9 => h9) rfl dX5_begin_61 ?_
  refine lv_iconst (v := 4) hx hb dX5_begin_64 (by decide) ?_
  refine va_iald hx hb hK hP 2 0 rfl rfl (vi_c (by decide +kernel)) dX5_begin_65 ?_
  refine lv_topi (fun f_4 (ef_4 : f_4 = (dp 4)) => ?_)
  refine va_put (D := (dC, dI)) (ci := 5) (v := .int f_4) (ty := .int) (C := RX5) (T := TX5) (N := 14) hx hb hts (fun w h => List.mem_cons_of_mem _ (uwX5 w h)) tyX5 tyX5_ok nmX5 hown hK hP hD hS 0 rfl rfl 10 (by decide) (hts _ (List.mem_cons_of_mem _ wd_225)) (fun _ h9 => h9) rfl (by decide +kernel) rfl rfl (Nat.le_of_ble_eq_true rfl) dX5_begin_66 (fun H locs hP hD hS => ?_)
  have hP : va_P (dC, dI) vwCl [(o_S, .inr (5, [.ref o_So, .ref o_Si, .int 1, .int f_1, .int f_2, .int f_3, .int i0, .int i0, .int 0, .int 0, .int f_4, .int (fS 11), .int (fS 12), .int (fS 13)])), (o_D, .inr (2, [.ref o_Dp, .int (fD 1), .int (fD 2), .int (fD 3)])), (o_Dp, .inl (tC 0, 32, .inl dp))] H := hP
  have hD : va_D A [(o_S, .inr (5, [.ref o_So, .ref o_Si, .int 1, .int f_1, .int f_2, .int f_3, .int i0, .int i0, .int 0, .int 0, .int f_4, .int (fS 11), .int (fS 12), .int (fS 13)])), (o_D, .inr (2, [.ref o_Dp, .int (fD 1), .int (fD 2), .int (fD 3)])), (o_Dp, .inl (tC 0, 32, .inl dp))] := hD
  refine lv_aload_n hx hb dX5_begin_69 rfl (lv_at hl 0 rfl) ?_
  refine lv_iconst (v := 1) hx hb dX5_begin_70 (by decide) ?_
  refine va_put (D := (dC, dI)) (ci := 5) (v := .int 1) (ty := .int) (C := RX5) (T := TX5) (N := 14) hx hb hts (fun w h => List.mem_cons_of_mem _ (uwX5 w h)) tyX5 tyX5_ok nmX5 hown hK hP hD hS 0 rfl rfl 11 (by decide) (hts _ (List.mem_cons_of_mem _ wd_226)) (fun _ h9 => h9) rfl (by decide +kernel) rfl rfl (Nat.le_of_ble_eq_true rfl) dX5_begin_71 (fun H locs hP hD hS => ?_)
  have hP : va_P (dC, dI) vwCl [(o_S, .inr (5, [.ref o_So, .ref o_Si, .int 1, .int f_1, .int f_2, .int f_3, .int i0, .int i0, .int 0, .int 0, .int f_4, .int 1, .int (fS 12), .int (fS 13)])), (o_D, .inr (2, [.ref o_Dp, .int (fD 1), .int (fD 2), .int (fD 3)])), (o_Dp, .inl (tC 0, 32, .inl dp))] H := hP
  have hD : va_D A [(o_S, .inr (5, [.ref o_So, .ref o_Si, .int 1, .int f_1, .int f_2, .int f_3, .int i0, .int i0, .int 0, .int 0, .int f_4, .int 1, .int (fS 12), .int (fS 13)])), (o_D, .inr (2, [.ref o_Dp, .int (fD 1), .int (fD 2), .int (fD 3)])), (o_Dp, .inl (tC 0, 32, .inl dp))] := hD
  refine lv_aload_n hx hb dX5_begin_74 rfl (lv_at hl 0 rfl) ?_
  refine lv_iconst (v := 0) hx hb dX5_begin_75 (by decide) ?_
  refine va_put (D := (dC, dI)) (ci := 5) (v := .int 0) (ty := .int) (C := RX5) (T := TX5) (N := 14) hx hb hts (fun w h => List.mem_cons_of_mem _ (uwX5 w h)) tyX5 tyX5_ok nmX5 hown hK hP hD hS 0 rfl rfl 12 (by decide) (hts _ (List.mem_cons_of_mem _ wd_227)) (fun _ h9 => h9) rfl (by decide +kernel) rfl rfl (Nat.le_of_ble_eq_true rfl) dX5_begin_76 (fun H locs hP hD hS => ?_)
  have hP : va_P (dC, dI) vwCl [(o_S, .inr (5, [.ref o_So, .ref o_Si, .int 1, .int f_1, .int f_2, .int f_3, .int i0, .int i0, .int 0, .int 0, .int f_4, .int 1, .int 0, .int (fS 13)])), (o_D, .inr (2, [.ref o_Dp, .int (fD 1), .int (fD 2), .int (fD 3)])), (o_Dp, .inl (tC 0, 32, .inl dp))] H := hP
  have hD : va_D A [(o_S, .inr (5, [.ref o_So, .ref o_Si, .int 1, .int f_1, .int f_2, .int f_3, .int i0, .int i0, .int 0, .int 0, .int f_4, .int 1, .int 0, .int (fS 13)])), (o_D, .inr (2, [.ref o_Dp, .int (fD 1), .int (fD 2), .int (fD 3)])), (o_Dp, .inl (tC 0, 32, .inl dp))] := hD
  refine lv_aload_n hx hb dX5_begin_79 rfl (lv_at hl 0 rfl) ?_
  refine lv_iconst (v := 0) hx hb dX5_begin_80 (by decide) ?_
  refine va_put (D := (dC, dI)) (ci := 5) (v := .int 0) (ty := .int) (C := RX5) (T := TX5) (N := 14) hx hb hts (fun w h => List.mem_cons_of_mem _ (uwX5 w h)) tyX5 tyX5_ok nmX5 hown hK hP hD hS 0 rfl rfl 13 (by decide) (hts _ (List.mem_cons_of_mem _ wd_229)) (fun _ h9 => h9) rfl (by decide +kernel) rfl rfl (Nat.le_of_ble_eq_true rfl) dX5_begin_81 (fun H locs hP hD hS => ?_)
  have hP : va_P (dC, dI) vwCl [(o_S, .inr (5, [.ref o_So, .ref o_Si, .int 1, .int f_1, .int f_2, .int f_3, .int i0, .int i0, .int 0, .int 0, .int f_4, .int 1, .int 0, .int 0])), (o_D, .inr (2, [.ref o_Dp, .int (fD 1), .int (fD 2), .int (fD 3)])), (o_Dp, .inl (tC 0, 32, .inl dp))] H := hP
  have hD : va_D A [(o_S, .inr (5, [.ref o_So, .ref o_Si, .int 1, .int f_1, .int f_2, .int f_3, .int i0, .int i0, .int 0, .int 0, .int f_4, .int 1, .int 0, .int 0])), (o_D, .inr (2, [.ref o_Dp, .int (fD 1), .int (fD 2), .int (fD 3)])), (o_Dp, .inl (tC 0, 32, .inl dp))] := hD
  have hP9 := hP.sub (ws' := [(o_S, .inr (5, [.ref o_So, .ref o_Si, .int ((upd (upd (upd (upd (upd (upd (upd (upd (upd (upd (upd (upd fS 2 1) 3 f_1) 4 f_2) 5 f_3) 6 i0) 7 i0) 8 0) 9 0) 10 f_4) 11 1) 12 0) 13 0) 2), .int ((upd (upd (upd (upd (upd (upd (upd (upd (upd (upd (upd (upd fS 2 1) 3 f_1) 4 f_2) 5 f_3) 6 i0) 7 i0) 8 0) 9 0) 10 f_4) 11 1) 12 0) 13 0) 3), .int ((upd (upd (upd (upd (upd (upd (upd (upd (upd (upd (upd (upd fS 2 1) 3 f_1) 4 f_2) 5 f_3) 6 i0) 7 i0) 8 0) 9 0) 10 f_4) 11 1) 12 0) 13 0) 4), .int ((upd (upd (upd (upd (upd (upd (upd (upd (upd (upd (upd (upd fS 2 1) 3 f_1) 4 f_2) 5 f_3) 6 i0) 7 i0) 8 0) 9 0) 10 f_4) 11 1) 12 0) 13 0) 5), .int ((upd (upd (upd (upd (upd (upd (upd (upd (upd (upd (upd (upd fS 2 1) 3 f_1) 4 f_2) 5 f_3) 6 i0) 7 i0) 8 0) 9 0) 10 f_4) 11 1) 12 0) 13 0) 6), .int ((upd (upd (upd (upd (upd (upd (upd (upd (upd (upd (upd (upd fS 2 1) 3 f_1) 4 f_2) 5 f_3) 6 i0) 7 i0) 8 0) 9 0) 10 f_4) 11 1) 12 0) 13 0) 7), .int ((upd (upd (upd (upd (upd (upd (upd (upd (upd (upd (upd (upd fS 2 1) 3 f_1) 4 f_2) 5 f_3) 6 i0) 7 i0) 8 0) 9 0) 10 f_4) 11 1) 12 0) 13 0) 8), .int ((upd (upd (upd (upd (upd (upd (upd (upd (upd (upd (upd (upd fS 2 1) 3 f_1) 4 f_2) 5 f_3) 6 i0) 7 i0) 8 0) 9 0) 10 f_4) 11 1) 12 0) 13 0) 9), .int ((upd (upd (upd (upd (upd (upd (upd (upd (upd (upd (upd (upd fS 2 1) 3 f_1) 4 f_2) 5 f_3) 6 i0) 7 i0) 8 0) 9 0) 10 f_4) 11 1) 12 0) 13 0) 10), .int ((upd (upd (upd (upd (upd (upd (upd (upd (upd (upd (upd (upd fS 2 1) 3 f_1) 4 f_2) 5 f_3) 6 i0) 7 i0) 8 0) 9 0) 10 f_4) 11 1) 12 0) 13 0) 11), .int ((upd (upd (upd (upd (upd (upd (upd (upd (upd (upd (upd (upd fS 2 1) 3 f_1) 4 f_2) 5 f_3) 6 i0) 7 i0) 8 0) 9 0) 10 f_4) 11 1) 12 0) 13 0) 12), .int ((upd (upd (upd (upd (upd (upd (upd (upd (upd (upd (upd (upd fS 2 1) 3 f_1) 4 f_2) 5 f_3) 6 i0) 7 i0) 8 0) 9 0) 10 f_4) 11 1) 12 0) 13 0) 13)])), (o_D, .inr (2, [.ref o_Dp, .int (fD 1), .int (fD 2), .int (fD 3)])), (o_Dp, .inl (tC 0, 32, .inl dp))]) [0, 1, 2] rfl
  have hD9 := hD.sub (ws' := [(o_S, .inr (5, [.ref o_So, .ref o_Si, .int ((upd (upd (upd (upd (upd (upd (upd (upd (upd (upd (upd (upd fS 2 1) 3 f_1) 4 f_2) 5 f_3) 6 i0) 7 i0) 8 0) 9 0) 10 f_4) 11 1) 12 0) 13 0) 2), .int ((upd (upd (upd (upd (upd (upd (upd (upd (upd (upd (upd (upd fS 2 1) 3 f_1) 4 f_2) 5 f_3) 6 i0) 7 i0) 8 0) 9 0) 10 f_4) 11 1) 12 0) 13 0) 3), .int ((upd (upd (upd (upd (upd (upd (upd (upd (upd (upd (upd (upd fS 2 1) 3 f_1) 4 f_2) 5 f_3) 6 i0) 7 i0) 8 0) 9 0) 10 f_4) 11 1) 12 0) 13 0) 4), .int ((upd (upd (upd (upd (upd (upd (upd (upd (upd (upd (upd (upd fS 2 1) 3 f_1) 4 f_2) 5 f_3) 6 i0) 7 i0) 8 0) 9 0) 10 f_4) 11 1) 12 0) 13 0) 5), .int ((upd (upd (upd (upd (upd (upd (upd (upd (upd (upd (upd (upd fS 2 1) 3 f_1) 4 f_2) 5 f_3) 6 i0) 7 i0) 8 0) 9 0) 10 f_4) 11 1) 12 0) 13 0) 6), .int ((upd (upd (upd (upd (upd (upd (upd (upd (upd (upd (upd (upd fS 2 1) 3 f_1) 4 f_2) 5 f_3) 6 i0) 7 i0) 8 0) 9 0) 10 f_4) 11 1) 12 0) 13 0) 7), .int ((upd (upd (upd (upd (upd (upd (upd (upd (upd (upd (upd (upd fS 2 1) 3 f_1) 4 f_2) 5 f_3) 6 i0) 7 i0) 8 0) 9 0) 10 f_4) 11 1) 12 0) 13 0) 8), .int ((upd (upd (upd (upd (upd (upd (upd (upd (upd (upd (upd (upd fS 2 1) 3 f_1) 4 f_2) 5 f_3) 6 i0) 7 i0) 8 0) 9 0) 10 f_4) 11 1) 12 0) 13 0) 9), .int ((upd (upd (upd (upd (upd (upd (upd (upd (upd (upd (upd (upd fS 2 1) 3 f_1) 4 f_2) 5 f_3) 6 i0) 7 i0) 8 0) 9 0) 10 f_4) 11 1) 12 0) 13 0) 10), .int ((upd (upd (upd (upd (upd (upd (upd (upd (upd (upd (upd (upd fS 2 1) 3 f_1) 4 f_2) 5 f_3) 6 i0) 7 i0) 8 0) 9 0) 10 f_4) 11 1) 12 0) 13 0) 11), .int ((upd (upd (upd (upd (upd (upd (upd (upd (upd (upd (upd (upd fS 2 1) 3 f_1) 4 f_2) 5 f_3) 6 i0) 7 i0) 8 0) 9 0) 10 f_4) 11 1) 12 0) 13 0) 12), .int ((upd (upd (upd (upd (upd (upd (upd (upd (upd (upd (upd (upd fS 2 1) 3 f_1) 4 f_2) 5 f_3) 6 i0) 7 i0) 8 0) 9 0) 10 f_4) 11 1) 12 0) 13 0) 13)])), (o_D, .inr (2, [.ref o_Dp, .int (fD 1), .int (fD 2), .int (fD 3)])), (o_Dp, .inl (tC 0, 32, .inl dp))]) [0, 1, 2] (by decide) rfl
  exact W.vret hx hb hr (fun t ht hW => ⟨⟨(upd (upd (upd (upd (upd (upd (upd (upd (upd (upd (upd (upd fS 2 1) 3 f_1) 4 f_2) 5 f_3) 6 i0) 7 i0) 8 0) 9 0) 10 f_4) 11 1) 12 0) 13 0), rfl, (by subst ef_1 ef_2 ef_3 ef_4; rw [FX5_begin]; try rfl), by rw [ht]; exact hP9, va_K.moved hW.alike hK, hD9⟩, hS.F ht⟩) hS.2.2 dX5_begin_84
set_option maxHeartbeats 4000000 in
set_option maxRecDepth 100000 in
theorem c_X5_onTheWay (l : Launch) (dC : Nat → ClassId) (dI : Nat → Nat → Nat) (tC : Nat → ClassId) (o_S o_So o_Si : Nat) (sz : Nat) (fS : (Nat → Int32)) : Met l yX5_onTheWay wsX5_onTheWay ({ frames := 0, cells := 0, slots := 0, locals := 0 }) (va_Pc [.ref o_S] (fun U => U.heap.size = sz ∧ va_P (dC, dI) vwCl [(o_S, .inr (5, [.ref o_So, .ref o_Si, .int (fS 2), .int (fS 3), .int (fS 4), .int (fS 5), .int (fS 6), .int (fS 7), .int (fS 8), .int (fS 9), .int (fS 10), .int (fS 11), .int (fS 12), .int (fS 13)]))] U.heap ∧ va_K (dC, dI) vwCl (TY tC) U ∧ NW U ∧ va_D (fun _ => True) [(o_S, .inr (5, [.ref o_So, .ref o_Si, .int (fS 2), .int (fS 3), .int (fS 4), .int (fS 5), .int (fS 6), .int (fS 7), .int (fS 8), .int (fS 9), .int (fS 10), .int (fS 11), .int (fS 12), .int (fS 13)]))])) (va_Qi (fun (r : Int32) (u : Unit) => r = FX5_onTheWay fS) (fun (u : Unit) (t : State) => va_P (dC, dI) vwCl [(o_S, .inr (5, [.ref o_So, .ref o_Si, .int (fS 2), .int (fS 3), .int (fS 4), .int (fS 5), .int (fS 6), .int (fS 7), .int (fS 8), .int (fS 9), .int (fS 10), .int (fS 11), .int (fS 12), .int (fS 13)]))] t.heap ∧ va_K (dC, dI) vwCl (TY tC) t ∧ va_D (va_A [(o_S, .inr (5, [.ref o_So, .ref o_Si, .int (fS 2), .int (fS 3), .int (fS 4), .int (fS 5), .int (fS 6), .int (fS 7), .int (fS 8), .int (fS 9), .int (fS 10), .int (fS 11), .int (fS 12), .int (fS 13)]))] sz) [(o_S, .inr (5, [.ref o_So, .ref o_Si, .int (fS 2), .int (fS 3), .int (fS 4), .int (fS 5), .int (fS 6), .int (fS 7), .int (fS 8), .int (fS 9), .int (fS 10), .int (fS 11), .int (fS 12), .int (fS 13)]))]) (va_A [(o_S, .inr (5, [.ref o_So, .ref o_Si, .int (fS 2), .int (fS 3), .int (fS 4), .int (fS 5), .int (fS 6), .int (fS 7), .int (fS 8), .int (fS 9), .int (fS 10), .int (fS 11), .int (fS 12), .int (fS 13)]))] sz)) 0 0 (va_A [(o_S, .inr (5, [.ref o_So, .ref o_Si, .int (fS 2), .int (fS 3), .int (fS 4), .int (fS 5), .int (fS 6), .int (fS 7), .int (fS 8), .int (fS 9), .int (fS 10), .int (fS 11), .int (fS 12), .int (fS 13)]))] sz) := by
  refine Met.ofW (cc := cX5_onTheWay) (maxL := 1) (ret := (some .int)) (by decide) rfl ?_
  intro p e s m args below meth c s₁ B hml hv
  obtain ⟨rfl, hsz, hP, hK, hN, hD0⟩ := hv
  have hx := B.exec
  have hb := B.bytes
  have hr := B.returns
  have hts := atoms_spec (ws := wsX5_onTheWay) B.pre
  have hown : s.vm.findClass RX5 = some m.cls := findClass_of_methodNamed B.named
  have hlocks := B.notSynchronized
  subst hsz
  have hD := hD0.self (sz := s.heap.size)
  generalize hAe : va_A [(o_S, .inr (5, [.ref o_So, .ref o_Si, .int (fS 2), .int (fS 3), .int (fS 4), .int (fS 5), .int (fS 6), .int (fS 7), .int (fS 8), .int (fS 9), .int (fS 10), .int (fS 11), .int (fS 12), .int (fS 13)]))] s.heap.size = A at hD ⊢
  have hA : ∀ q : Nat, s.heap.size ≤ q → A q := fun q h => by rw [← hAe]; exact Or.inr h
  have hS : va_S A s.heap s.heap [] := va_S.rf
  have hP : va_P (dC, dI) vwCl [(o_S, .inr (5, [.ref o_So, .ref o_Si, .int (fS 2), .int (fS 3), .int (fS 4), .int (fS 5), .int (fS 6), .int (fS 7), .int (fS 8), .int (fS 9), .int (fS 10), .int (fS 11), .int (fS 12), .int (fS 13)]))] s.heap := hP
  have hl := lv_entry ([.ref o_S]) (n := 1) (Nat.le_of_ble_eq_true rfl)
  rw [lg_entry_eq]
  generalize (lg_sl ([.ref o_S]) ++ List.replicate (1 - (lg_sl ([.ref o_S])).length) Slot.unset).toArray = ls at hl ⊢
  have hl : lv_has ls 1 [(0, .ref o_S)] := hl
  refine lv_aload_n hx hb dX5_onTheWay_0 rfl (lv_at hl 0 rfl) ?_
  refine va_get (D := (dC, dI)) (ci := 5) (v := .int (fS 7)) (C := RX5) (T := TX5) (N := 14) hx hb hts (fun w h => List.mem_cons_of_mem _ (uwX5 w h)) hown hK hP 0 rfl rfl 7 (by decide) (hts _ (List.mem_cons_of_mem _ wd_219)) (fun _ h9 => h9) rfl dX5_onTheWay_1 ?_
  refine lv_aload_n hx hb dX5_onTheWay_4 rfl (lv_at hl 0 rfl) ?_
  refine va_get (D := (dC, dI)) (ci := 5) (v := .int (fS 6)) (C := RX5) (T := TX5) (N := 14) hx hb hts (fun w h => List.mem_cons_of_mem _ (uwX5 w h)) hown hK hP 0 rfl rfl 6 (by decide) (hts _ (List.mem_cons_of_mem _ wd_218)) (fun _ h9 => h9) rfl dX5_onTheWay_5 ?_
  refine lv_isub hx hb dX5_onTheWay_8 ?_
  refine lv_sipush (v := 255) hx hb dX5_onTheWay_9 (by decide) ?_
  refine lv_iand hx hb dX5_onTheWay_12 ?_
  have hP9 := hP.sub (ws' := [(o_S, .inr (5, [.ref o_So, .ref o_Si, .int (fS 2), .int (fS 3), .int (fS 4), .int (fS 5), .int (fS 6), .int (fS 7), .int (fS 8), .int (fS 9), .int (fS 10), .int (fS 11), .int (fS 12), .int (fS 13)]))]) [0] rfl
  have hD9 := hD.sub (ws' := [(o_S, .inr (5, [.ref o_So, .ref o_Si, .int (fS 2), .int (fS 3), .int (fS 4), .int (fS 5), .int (fS 6), .int (fS 7), .int (fS 8), .int (fS 9), .int (fS 10), .int (fS 11), .int (fS 12), .int (fS 13)]))]) [0] (by decide) rfl
  exact W.iret (v := (((fS 7) - (fS 6)) &&& (255 : Int32))) hx hb hr (fun t ht hW => ⟨⟨(((fS 7) - (fS 6)) &&& (255 : Int32)), (), rfl, (by rw [FX5_onTheWay]; try rfl), by rw [ht]; exact hP9, va_K.moved hW.alike hK, hD9⟩, hS.F ht⟩) hS.2.2 dX5_onTheWay_13
set_option maxHeartbeats 4000000 in
set_option maxRecDepth 100000 in
theorem c_X5_tickEndsTimer (l : Launch) (dC : Nat → ClassId) (dI : Nat → Nat → Nat) (tC : Nat → ClassId) (o_S o_So o_Si : Nat) (sz : Nat) (fS : (Nat → Int32)) : Met l yX5_tickEndsTimer wsX5_tickEndsTimer ({ frames := 0, cells := 0, slots := 0, locals := 0 }) (va_Pc [.ref o_S] (fun U => U.heap.size = sz ∧ va_P (dC, dI) vwCl [(o_S, .inr (5, [.ref o_So, .ref o_Si, .int (fS 2), .int (fS 3), .int (fS 4), .int (fS 5), .int (fS 6), .int (fS 7), .int (fS 8), .int (fS 9), .int (fS 10), .int (fS 11), .int (fS 12), .int (fS 13)]))] U.heap ∧ va_K (dC, dI) vwCl (TY tC) U ∧ NW U ∧ va_D (fun _ => True) [(o_S, .inr (5, [.ref o_So, .ref o_Si, .int (fS 2), .int (fS 3), .int (fS 4), .int (fS 5), .int (fS 6), .int (fS 7), .int (fS 8), .int (fS 9), .int (fS 10), .int (fS 11), .int (fS 12), .int (fS 13)]))])) (va_Qi (fun (r : Int32) (u : (Nat → Int32)) => (r, u) = FX5_tickEndsTimer fS) (fun (u : (Nat → Int32)) (t : State) => va_P (dC, dI) vwCl [(o_S, .inr (5, [.ref o_So, .ref o_Si, .int (u 2), .int (u 3), .int (u 4), .int (u 5), .int (u 6), .int (u 7), .int (u 8), .int (u 9), .int (u 10), .int (u 11), .int (u 12), .int (u 13)]))] t.heap ∧ va_K (dC, dI) vwCl (TY tC) t ∧ va_D (va_A [(o_S, .inr (5, [.ref o_So, .ref o_Si, .int (fS 2), .int (fS 3), .int (fS 4), .int (fS 5), .int (fS 6), .int (fS 7), .int (fS 8), .int (fS 9), .int (fS 10), .int (fS 11), .int (fS 12), .int (fS 13)]))] sz) [(o_S, .inr (5, [.ref o_So, .ref o_Si, .int (u 2), .int (u 3), .int (u 4), .int (u 5), .int (u 6), .int (u 7), .int (u 8), .int (u 9), .int (u 10), .int (u 11), .int (u 12), .int (u 13)]))]) (va_A [(o_S, .inr (5, [.ref o_So, .ref o_Si, .int (fS 2), .int (fS 3), .int (fS 4), .int (fS 5), .int (fS 6), .int (fS 7), .int (fS 8), .int (fS 9), .int (fS 10), .int (fS 11), .int (fS 12), .int (fS 13)]))] sz)) 0 0 (va_A [(o_S, .inr (5, [.ref o_So, .ref o_Si, .int (fS 2), .int (fS 3), .int (fS 4), .int (fS 5), .int (fS 6), .int (fS 7), .int (fS 8), .int (fS 9), .int (fS 10), .int (fS 11), .int (fS 12), .int (fS 13)]))] sz) := by
  refine Met.ofW (cc := cX5_tickEndsTimer) (maxL := 1) (ret := (some .boolean)) (by decide) rfl ?_
  intro p e s m args below meth c s₁ B hml hv
  obtain ⟨rfl, hsz, hP, hK, hN, hD0⟩ := hv
  have hx := B.exec
  have hb := B.bytes
  have hr := B.returns
  have hts := atoms_spec (ws := wsX5_tickEndsTimer) B.pre
  have hown : s.vm.findClass RX5 = some m.cls := findClass_of_methodNamed B.named
  have hlocks := B.notSynchronized
  subst hsz
  have hD := hD0.self (sz := s.heap.size)
  generalize hAe : va_A [(o_S, .inr (5, [.ref o_So, .ref o_Si, .int (fS 2), .int (fS 3), .int (fS 4), .int (fS 5), .int (fS 6), .int (fS 7), .int (fS 8), .int (fS 9), .int (fS 10), .int (fS 11), .int (fS 12), .int (fS 13)]))] s.heap.size = A at hD ⊢
  have hA : ∀ q : Nat, s.heap.size ≤ q → A q := fun q h => by rw [← hAe]; exact Or.inr h
  have hS : va_S A s.heap s.heap [] := va_S.rf
  have hP : va_P (dC, dI) vwCl [(o_S, .inr (5, [.ref o_So, .ref o_Si, .int (fS 2), .int (fS 3), .int (fS 4), .int (fS 5), .int (fS 6), .int (fS 7), .int (fS 8), .int (fS 9), .int (fS 10), .int (fS 11), .int (fS 12), .int (fS 13)]))] s.heap := hP
  have hl := lv_entry ([.ref o_S]) (n := 1) (Nat.le_of_ble_eq_true rfl)
  rw [lg_entry_eq]
  generalize (lg_sl ([.ref o_S]) ++ List.replicate (1 - (lg_sl ([.ref o_S])).length) Slot.unset).toArray = ls at hl ⊢
  have hl : lv_has ls 1 [(0, .ref o_S)] := hl
  refine lv_aload_n hx hb dX5_tickEndsTimer_0 rfl (lv_at hl 0 rfl) ?_
  refine va_get (D := (dC, dI)) (ci := 5) (v := .int (fS 2)) (C := RX5) (T := TX5) (N := 14) hx hb hts (fun w h => List.mem_cons_of_mem _ (uwX5 w h)) hown hK hP 0 rfl rfl 2 (by decide) (hts _ (List.mem_cons_of_mem _ wd_210)) (fun _ h9 => h9) rfl dX5_tickEndsTimer_1 ?_
  refine lv_if_eq (tgt := 18) hx hb dX5_tickEndsTimer_4 (by decide) (fun c_1 => ?_) (fun c_1 => ?_)
  · skip
    have c_1 : (fS 2) = 0 := c_1
    have tc_1 : (fS 2).toInt = (0 : Int) := congrArg Int32.toInt c_1
    refine lv_iconst (v := 0) hx hb dX5_tickEndsTimer_18 (by decide) ?_
    have hP9 := hP.sub (ws' := [(o_S, .inr (5, [.ref o_So, .ref o_Si, .int (fS 2), .int (fS 3), .int (fS 4), .int (fS 5), .int (fS 6), .int (fS 7), .int (fS 8), .int (fS 9), .int (fS 10), .int (fS 11), .int (fS 12), .int (fS 13)]))]) [0] rfl
    have hD9 := hD.sub (ws' := [(o_S, .inr (5, [.ref o_So, .ref o_Si, .int (fS 2), .int (fS 3), .int (fS 4), .int (fS 5), .int (fS 6), .int (fS 7), .int (fS 8), .int (fS 9), .int (fS 10), .int (fS 11), .int (fS 12), .int (fS 13)]))]) [0] (by decide) rfl
    exact W.zret (v := 0) hx hb hr rfl (fun t ht hW => ⟨⟨0, fS, rfl, (by rw [FX5_tickEndsTimer]; rw [if_pos c_1]; try rfl), by rw [ht]; exact hP9, va_K.moved hW.alike hK, hD9⟩, hS.F ht⟩) hS.2.2 dX5_tickEndsTimer_19
  · skip
    have c_1 : ¬ ((fS 2) = 0) := c_1
    refine lv_aload_n hx hb dX5_tickEndsTimer_7 rfl (lv_at hl 0 rfl) ?_
    refine va_get (D := (dC, dI)) (ci := 5) (v := .int (fS 6)) (C := RX5) (T := TX5) (N := 14) hx hb hts (fun w h => List.mem_cons_of_mem _ (uwX5 w h)) hown hK hP 0 rfl rfl 6 (by decide) (hts _ (List.mem_cons_of_mem _ wd_218)) (fun _ h9 => h9) rfl dX5_tickEndsTimer_8 ?_
    refine lv_aload_n hx hb dX5_tickEndsTimer_11 rfl (lv_at hl 0 rfl) ?_
    refine va_get (D := (dC, dI)) (ci := 5) (v := .int (fS 7)) (C := RX5) (T := TX5) (N := 14) hx hb hts (fun w h => List.mem_cons_of_mem _ (uwX5 w h)) hown hK hP 0 rfl rfl 7 (by decide) (hts _ (List.mem_cons_of_mem _ wd_219)) (fun _ h9 => h9) rfl dX5_tickEndsTimer_12 ?_
    refine lv_icmp_ne (tgt := 20) hx hb dX5_tickEndsTimer_15 (by decide) (fun c_2 => ?_) (fun c_2 => ?_)
    · skip
      have c_2 : ¬ ((fS 6) = (fS 7)) := c_2
      refine lv_aload_n hx hb dX5_tickEndsTimer_20 rfl (lv_at hl 0 rfl) ?_
      refine lv_dup hx hb dX5_tickEndsTimer_21 rfl ?_
      refine va_get (D := (dC, dI)) (ci := 5) (v := .int (fS 13)) (C := RX5) (T := TX5) (N := 14) hx hb hts (fun w h => List.mem_cons_of_mem _ (uwX5 w h)) hown hK hP 0 rfl rfl 13 (by decide) (hts _ (List.mem_cons_of_mem _ wd_229)) (fun _ h9 => h9) rfl dX5_tickEndsTimer_22 ?_
      refine lv_iconst (v := 1) hx hb dX5_tickEndsTimer_25 (by decide) ?_
      refine lv_iadd hx hb dX5_tickEndsTimer_26 ?_
      refine lv_topi (fun f_3 (ef_3 : f_3 = ((fS 13) + (1 : Int32))) => ?_)
      refine va_put (D := (dC, dI)) (ci := 5) (v := .int f_3) (ty := .int) (C := RX5) (T := TX5) (N := 14) hx hb hts (fun w h => List.mem_cons_of_mem _ (uwX5 w h)) tyX5 tyX5_ok nmX5 hown hK hP hD hS 0 rfl rfl 13 (by decide) (hts _ (List.mem_cons_of_mem _ wd_229)) (fun _ h9 => h9) rfl (by decide +kernel) rfl rfl (Nat.le_of_ble_eq_true rfl) dX5_tickEndsTimer_27 (fun H locs hP hD hS => ?_)
      have hP : va_P (dC, dI) vwCl [(o_S, .inr (5, [.ref o_So, .ref o_Si, .int (fS 2), .int (fS 3), .int (fS 4), .int (fS 5), .int (fS 6), .int (fS 7), .int (fS 8), .int (fS 9), .int (fS 10), .int (fS 11), .int (fS 12), .int f_3]))] H := hP
      have hD : va_D A [(o_S, .inr (5, [.ref o_So, .ref o_Si, .int (fS 2), .int (fS 3), .int (fS 4), .int (fS 5), .int (fS 6), .int (fS 7), .int (fS 8), .int (fS 9), .int (fS 10), .int (fS 11), .int (fS 12), .int f_3]))] := hD
      refine lv_aload_n hx hb dX5_tickEndsTimer_30 rfl (lv_at hl 0 rfl) ?_
      refine va_get (D := (dC, dI)) (ci := 5) (v := .int f_3) (C := RX5) (T := TX5) (N := 14) hx hb hts (fun w h => List.mem_cons_of_mem _ (uwX5 w h)) hown hK hP 0 rfl rfl 13 (by decide) (hts _ (List.mem_cons_of_mem _ wd_229)) (fun _ h9 => h9) rfl dX5_tickEndsTimer_31 ?_
      refine lv_iconst (v := 4) hx hb dX5_tickEndsTimer_34 (by decide) ?_
      refine lv_aload_n hx hb dX5_tickEndsTimer_35 rfl (lv_at hl 0 rfl) ?_
      refine va_get (D := (dC, dI)) (ci := 5) (v := .int (fS 12)) (C := RX5) (T := TX5) (N := 14) hx hb hts (fun w h => List.mem_cons_of_mem _ (uwX5 w h)) hown hK hP 0 rfl rfl 12 (by decide) (hts _ (List.mem_cons_of_mem _ wd_227)) (fun _ h9 => h9) rfl dX5_tickEndsTimer_36 ?_
      refine lv_ishl hx hb dX5_tickEndsTimer_39 ?_
      refine lv_icmp_lt (tgt := 47) hx hb dX5_tickEndsTimer_40 (by decide) (fun c_4 => ?_) (fun c_4 => ?_)
      · skip
        have c_4 : f_3 < ((4 : Int32) <<< ((fS 12) &&& 31)) := c_4
        have tc_4 : f_3.toInt < ((4 : Int32) <<< ((fS 12) &&& 31)).toInt := Int32.lt_iff_toInt_lt.mp c_4
        refine lv_iconst (v := 0) hx hb dX5_tickEndsTimer_47 (by decide) ?_
        have hP9 := hP.sub (ws' := [(o_S, .inr (5, [.ref o_So, .ref o_Si, .int ((upd fS 13 f_3) 2), .int ((upd fS 13 f_3) 3), .int ((upd fS 13 f_3) 4), .int ((upd fS 13 f_3) 5), .int ((upd fS 13 f_3) 6), .int ((upd fS 13 f_3) 7), .int ((upd fS 13 f_3) 8), .int ((upd fS 13 f_3) 9), .int ((upd fS 13 f_3) 10), .int ((upd fS 13 f_3) 11), .int ((upd fS 13 f_3) 12), .int ((upd fS 13 f_3) 13)]))]) [0] rfl
        have hD9 := hD.sub (ws' := [(o_S, .inr (5, [.ref o_So, .ref o_Si, .int ((upd fS 13 f_3) 2), .int ((upd fS 13 f_3) 3), .int ((upd fS 13 f_3) 4), .int ((upd fS 13 f_3) 5), .int ((upd fS 13 f_3) 6), .int ((upd fS 13 f_3) 7), .int ((upd fS 13 f_3) 8), .int ((upd fS 13 f_3) 9), .int ((upd fS 13 f_3) 10), .int ((upd fS 13 f_3) 11), .int ((upd fS 13 f_3) 12), .int ((upd fS 13 f_3) 13)]))]) [0] (by decide) rfl
        exact W.zret (v := 0) hx hb hr rfl (fun t ht hW => ⟨⟨0, (upd fS 13 f_3), rfl, (by subst ef_3; rw [FX5_tickEndsTimer]; rw [if_neg c_1]; rw [if_neg c_2]; rw [if_pos c_4]; try rfl), by rw [ht]; exact hP9, va_K.moved hW.alike hK, hD9⟩, hS.F ht⟩) hS.2.2 dX5_tickEndsTimer_48
      · skip
        have c_4 : ¬ (f_3 < ((4 : Int32) <<< ((fS 12) &&& 31))) := c_4
        have tc_4 : ¬ f_3.toInt < ((4 : Int32) <<< ((fS 12) &&& 31)).toInt := fun q => c_4 (Int32.lt_iff_toInt_lt.mpr q)
        refine lv_iconst (v := 1) hx hb dX5_tickEndsTimer_43 (by decide) ?_
        refine lv_goto (tgt := 48) hx hb dX5_tickEndsTimer_44 (by decide) ?_
        have hP9 := hP.sub (ws' := [(o_S, .inr (5, [.ref o_So, .ref o_Si, .int ((upd fS 13 f_3) 2), .int ((upd fS 13 f_3) 3), .int ((upd fS 13 f_3) 4), .int ((upd fS 13 f_3) 5), .int ((upd fS 13 f_3) 6), .int ((upd fS 13 f_3) 7), .int ((upd fS 13 f_3) 8), .int ((upd fS 13 f_3) 9), .int ((upd fS 13 f_3) 10), .int ((upd fS 13 f_3) 11), .int ((upd fS 13 f_3) 12), .int ((upd fS 13 f_3) 13)]))]) [0] rfl
        have hD9 := hD.sub (ws' := [(o_S, .inr (5, [.ref o_So, .ref o_Si, .int ((upd fS 13 f_3) 2), .int ((upd fS 13 f_3) 3), .int ((upd fS 13 f_3) 4), .int ((upd fS 13 f_3) 5), .int ((upd fS 13 f_3) 6), .int ((upd fS 13 f_3) 7), .int ((upd fS 13 f_3) 8), .int ((upd fS 13 f_3) 9), .int ((upd fS 13 f_3) 10), .int ((upd fS 13 f_3) 11), .int ((upd fS 13 f_3) 12), .int ((upd fS 13 f_3) 13)]))]) [0] (by decide) rfl
        exact W.zret (v := 1) hx hb hr rfl (fun t ht hW => ⟨⟨1, (upd fS 13 f_3), rfl, (by subst ef_3; rw [FX5_tickEndsTimer]; rw [if_neg c_1]; rw [if_neg c_2]; rw [if_neg c_4]; try rfl), by rw [ht]; exact hP9, va_K.moved hW.alike hK, hD9⟩, hS.F ht⟩) hS.2.2 dX5_tickEndsTimer_48
    · skip
      have c_2 : (fS 6) = (fS 7) := c_2
      have tc_2 : (fS 6).toInt = (fS 7).toInt := congrArg Int32.toInt c_2
      refine lv_iconst (v := 0) hx hb dX5_tickEndsTimer_18 (by decide) ?_
      have hP9 := hP.sub (ws' := [(o_S, .inr (5, [.ref o_So, .ref o_Si, .int (fS 2), .int (fS 3), .int (fS 4), .int (fS 5), .int (fS 6), .int (fS 7), .int (fS 8), .int (fS 9), .int (fS 10), .int (fS 11), .int (fS 12), .int (fS 13)]))]) [0] rfl
      have hD9 := hD.sub (ws' := [(o_S, .inr (5, [.ref o_So, .ref o_Si, .int (fS 2), .int (fS 3), .int (fS 4), .int (fS 5), .int (fS 6), .int (fS 7), .int (fS 8), .int (fS 9), .int (fS 10), .int (fS 11), .int (fS 12), .int (fS 13)]))]) [0] (by decide) rfl
      exact W.zret (v := 0) hx hb hr rfl (fun t ht hW => ⟨⟨0, fS, rfl, (by rw [FX5_tickEndsTimer]; rw [if_neg c_1]; rw [if_pos c_2]; try rfl), by rw [ht]; exact hP9, va_K.moved hW.alike hK, hD9⟩, hS.F ht⟩) hS.2.2 dX5_tickEndsTimer_19
set_option maxHeartbeats 4000000 in
set_option maxRecDepth 100000 in
theorem c_X5_goBack (l : Launch) (dC : Nat → ClassId) (dI : Nat → Nat → Nat) (tC : Nat → ClassId) (o_S o_So o_Si : Nat) (sz : Nat) (fS : (Nat → Int32)) : Met l yX5_goBack wsX5_goBack ({ frames := 0, cells := 0, slots := 0, locals := 0 }) (va_Pc [.ref o_S] (fun U => U.heap.size = sz ∧ va_P (dC, dI) vwCl [(o_S, .inr (5, [.ref o_So, .ref o_Si, .int (fS 2), .int (fS 3), .int (fS 4), .int (fS 5), .int (fS 6), .int (fS 7), .int (fS 8), .int (fS 9), .int (fS 10), .int (fS 11), .int (fS 12), .int (fS 13)]))] U.heap ∧ va_K (dC, dI) vwCl (TY tC) U ∧ NW U ∧ va_D (fun _ => True) [(o_S, .inr (5, [.ref o_So, .ref o_Si, .int (fS 2), .int (fS 3), .int (fS 4), .int (fS 5), .int (fS 6), .int (fS 7), .int (fS 8), .int (fS 9), .int (fS 10), .int (fS 11), .int (fS 12), .int (fS 13)]))])) (va_Qv (fun (u : (Nat → Int32)) => u = FX5_goBack fS) (fun (u : (Nat → Int32)) (t : State) => va_P (dC, dI) vwCl [(o_S, .inr (5, [.ref o_So, .ref o_Si, .int (u 2), .int (u 3), .int (u 4), .int (u 5), .int (u 6), .int (u 7), .int (u 8), .int (u 9), .int (u 10), .int (u 11), .int (u 12), .int (u 13)]))] t.heap ∧ va_K (dC, dI) vwCl (TY tC) t ∧ va_D (va_A [(o_S, .inr (5, [.ref o_So, .ref o_Si, .int (fS 2), .int (fS 3), .int (fS 4), .int (fS 5), .int (fS 6), .int (fS 7), .int (fS 8), .int (fS 9), .int (fS 10), .int (fS 11), .int (fS 12), .int (fS 13)]))] sz) [(o_S, .inr (5, [.ref o_So, .ref o_Si, .int (u 2), .int (u 3), .int (u 4), .int (u 5), .int (u 6), .int (u 7), .int (u 8), .int (u 9), .int (u 10), .int (u 11), .int (u 12), .int (u 13)]))]) (va_A [(o_S, .inr (5, [.ref o_So, .ref o_Si, .int (fS 2), .int (fS 3), .int (fS 4), .int (fS 5), .int (fS 6), .int (fS 7), .int (fS 8), .int (fS 9), .int (fS 10), .int (fS 11), .int (fS 12), .int (fS 13)]))] sz)) 0 0 (va_A [(o_S, .inr (5, [.ref o_So, .ref o_Si, .int (fS 2), .int (fS 3), .int (fS 4), .int (fS 5), .int (fS 6), .int (fS 7), .int (fS 8), .int (fS 9), .int (fS 10), .int (fS 11), .int (fS 12), .int (fS 13)]))] sz) := by
  refine Met.ofW (cc := cX5_goBack) (maxL := 1) (ret := none) (by decide) rfl ?_
  intro p e s m args below meth c s₁ B hml hv
  obtain ⟨rfl, hsz, hP, hK, hN, hD0⟩ := hv
  have hx := B.exec
  have hb := B.bytes
  have hr := B.returns
  have hts := atoms_spec (ws := wsX5_goBack) B.pre
  have hown : s.vm.findClass RX5 = some m.cls := findClass_of_methodNamed B.named
  have hlocks := B.notSynchronized
  subst hsz
  have hD := hD0.self (sz := s.heap.size)
  generalize hAe : va_A [(o_S, .inr (5, [.ref o_So, .ref o_Si, .int (fS 2), .int (fS 3), .int (fS 4), .int (fS 5), .int (fS 6), .int (fS 7), .int (fS 8), .int (fS 9), .int (fS 10), .int (fS 11), .int (fS 12), .int (fS 13)]))] s.heap.size = A at hD ⊢
  have hA : ∀ q : Nat, s.heap.size ≤ q → A q := fun q h => by rw [← hAe]; exact Or.inr h
  have hS : va_S A s.heap s.heap [] := va_S.rf
  have hP : va_P (dC, dI) vwCl [(o_S, .inr (5, [.ref o_So, .ref o_Si, .int (fS 2), .int (fS 3), .int (fS 4), .int (fS 5), .int (fS 6), .int (fS 7), .int (fS 8), .int (fS 9), .int (fS 10), .int (fS 11), .int (fS 12), .int (fS 13)]))] s.heap := hP
  have hl := lv_entry ([.ref o_S]) (n := 1) (Nat.le_of_ble_eq_true rfl)
  rw [lg_entry_eq]
  generalize (lg_sl ([.ref o_S]) ++ List.replicate (1 - (lg_sl ([.ref o_S])).length) Slot.unset).toArray = ls at hl ⊢
  have hl : lv_has ls 1 [(0, .ref o_S)] := hl
  refine lv_aload_n hx hb dX5_goBack_0 rfl (lv_at hl 0 rfl) ?_
  refine lv_dup hx hb dX5_goBack_1 rfl ?_
  refine va_get (D := (dC, dI)) (ci := 5) (v := .int (fS 12)) (C := RX5) (T := TX5) (N := 14) hx hb hts (fun w h => List.mem_cons_of_mem _ (uwX5 w h)) hown hK hP 0 rfl rfl 12 (by decide) (hts _ (List.mem_cons_of_mem _ wd_227)) (fun _ h9 => h9) rfl dX5_goBack_2 ?_
  refine lv_iconst (v := 1) hx hb dX5_goBack_5 (by decide) ?_
  refine lv_iadd hx hb dX5_goBack_6 ?_
  refine lv_topi (fun f_1 (ef_1 : f_1 = ((fS 12) + (1 : Int32))) => ?_)
  refine va_put (D := (dC, dI)) (ci := 5) (v := .int f_1) (ty := .int) (C := RX5) (T := TX5) (N := 14) hx hb hts (fun w h => List.mem_cons_of_mem _ (uwX5 w h)) tyX5 tyX5_ok nmX5 hown hK hP hD hS 0 rfl rfl 12 (by decide) (hts _ (List.mem_cons_of_mem _ wd_227)) (fun _ h9 => h9) rfl (by decide +kernel) rfl rfl (Nat.le_of_ble_eq_true rfl) dX5_goBack_7 (fun H locs hP hD hS => ?_)
  have hP : va_P (dC, dI) vwCl [(o_S, .inr (5, [.ref o_So, .ref o_Si, .int (fS 2), .int (fS 3), .int (fS 4), .int (fS 5), .int (fS 6), .int (fS 7), .int (fS 8), .int (fS 9), .int (fS 10), .int (fS 11), .int f_1, .int (fS 13)]))] H := hP
  have hD : va_D A [(o_S, .inr (5, [.ref o_So, .ref o_Si, .int (fS 2), .int (fS 3), .int (fS 4), .int (fS 5), .int (fS 6), .int (fS 7), .int (fS 8), .int (fS 9), .int (fS 10), .int (fS 11), .int f_1, .int (fS 13)]))] := hD
  refine lv_aload_n hx hb dX5_goBack_10 rfl (lv_at hl 0 rfl) ?_
  refine lv_iconst (v := 1) hx hb dX5_goBack_11 (by decide) ?_
  refine va_put (D := (dC, dI)) (ci := 5) (v := .int 1) (ty := .int) (C := RX5) (T := TX5) (N := 14) hx hb hts (fun w h => List.mem_cons_of_mem _ (uwX5 w h)) tyX5 tyX5_ok nmX5 hown hK hP hD hS 0 rfl rfl 11 (by decide) (hts _ (List.mem_cons_of_mem _ wd_226)) (fun _ h9 => h9) rfl (by decide +kernel) rfl rfl (Nat.le_of_ble_eq_true rfl) dX5_goBack_12 (fun H locs hP hD hS => ?_)
  have hP : va_P (dC, dI) vwCl [(o_S, .inr (5, [.ref o_So, .ref o_Si, .int (fS 2), .int (fS 3), .int (fS 4), .int (fS 5), .int (fS 6), .int (fS 7), .int (fS 8), .int (fS 9), .int (fS 10), .int 1, .int f_1, .int (fS 13)]))] H := hP
  have hD : va_D A [(o_S, .inr (5, [.ref o_So, .ref o_Si, .int (fS 2), .int (fS 3), .int (fS 4), .int (fS 5), .int (fS 6), .int (fS 7), .int (fS 8), .int (fS 9), .int (fS 10), .int 1, .int f_1, .int (fS 13)]))] := hD
  refine lv_aload_n hx hb dX5_goBack_15 rfl (lv_at hl 0 rfl) ?_
  refine lv_iconst (v := 0) hx hb dX5_goBack_16 (by decide) ?_
  refine va_put (D := (dC, dI)) (ci := 5) (v := .int 0) (ty := .int) (C := RX5) (T := TX5) (N := 14) hx hb hts (fun w h => List.mem_cons_of_mem _ (uwX5 w h)) tyX5 tyX5_ok nmX5 hown hK hP hD hS 0 rfl rfl 13 (by decide) (hts _ (List.mem_cons_of_mem _ wd_229)) (fun _ h9 => h9) rfl (by decide +kernel) rfl rfl (Nat.le_of_ble_eq_true rfl) dX5_goBack_17 (fun H locs hP hD hS => ?_)
  have hP : va_P (dC, dI) vwCl [(o_S, .inr (5, [.ref o_So, .ref o_Si, .int (fS 2), .int (fS 3), .int (fS 4), .int (fS 5), .int (fS 6), .int (fS 7), .int (fS 8), .int (fS 9), .int (fS 10), .int 1, .int f_1, .int 0]))] H := hP
  have hD : va_D A [(o_S, .inr (5, [.ref o_So, .ref o_Si, .int (fS 2), .int (fS 3), .int (fS 4), .int (fS 5), .int (fS 6), .int (fS 7), .int (fS 8), .int (fS 9), .int (fS 10), .int 1, .int f_1, .int 0]))] := hD
  refine lv_aload_n hx hb dX5_goBack_20 rfl (lv_at hl 0 rfl) ?_
  refine lv_aload_n hx hb dX5_goBack_21 rfl (lv_at hl 0 rfl) ?_
  refine va_get (D := (dC, dI)) (ci := 5) (v := .int (fS 6)) (C := RX5) (T := TX5) (N := 14) hx hb hts (fun w h => List.mem_cons_of_mem _ (uwX5 w h)) hown hK hP 0 rfl rfl 6 (by decide) (hts _ (List.mem_cons_of_mem _ wd_218)) (fun _ h9 => h9) rfl dX5_goBack_22 ?_
  refine lv_topi (fun f_2 (ef_2 : f_2 = (fS 6)) => ?_)
  refine va_put (D := (dC, dI)) (ci := 5) (v := .int f_2) (ty := .int) (C := RX5) (T := TX5) (N := 14) hx hb hts (fun w h => List.mem_cons_of_mem _ (uwX5 w h)) tyX5 tyX5_ok nmX5 hown hK hP hD hS 0 rfl rfl 7 (by decide) (hts _ (List.mem_cons_of_mem _ wd_219)) (fun _ h9 => h9) rfl (by decide +kernel) rfl rfl (Nat.le_of_ble_eq_true rfl) dX5_goBack_25 (fun H locs hP hD hS => ?_)
  have hP : va_P (dC, dI) vwCl [(o_S, .inr (5, [.ref o_So, .ref o_Si, .int (fS 2), .int (fS 3), .int (fS 4), .int (fS 5), .int (fS 6), .int f_2, .int (fS 8), .int (fS 9), .int (fS 10), .int 1, .int f_1, .int 0]))] H := hP
  have hD : va_D A [(o_S, .inr (5, [.ref o_So, .ref o_Si, .int (fS 2), .int (fS 3), .int (fS 4), .int (fS 5), .int (fS 6), .int f_2, .int (fS 8), .int (fS 9), .int (fS 10), .int 1, .int f_1, .int 0]))] := hD
  refine lv_aload_n hx hb dX5_goBack_28 rfl (lv_at hl 0 rfl) ?_
  refine va_get (D := (dC, dI)) (ci := 5) (v := .int (fS 2)) (C := RX5) (T := TX5) (N := 14) hx hb hts (fun w h => List.mem_cons_of_mem _ (uwX5 w h)) hown hK hP 0 rfl rfl 2 (by decide) (hts _ (List.mem_cons_of_mem _ wd_210)) (fun _ h9 => h9) rfl dX5_goBack_29 ?_
  refine lv_iconst (v := 4) hx hb dX5_goBack_32 (by decide) ?_
  refine lv_icmp_ne (tgt := 41) hx hb dX5_goBack_33 (by decide) (fun c_3 => ?_) (fun c_3 => ?_)
  · skip
    have c_3 : ¬ ((fS 2) = 4) := c_3
    have hP9 := hP.sub (ws' := [(o_S, .inr (5, [.ref o_So, .ref o_Si, .int ((upd (upd (upd (upd fS 12 f_1) 11 1) 13 0) 7 f_2) 2), .int ((upd (upd (upd (upd fS 12 f_1) 11 1) 13 0) 7 f_2) 3), .int ((upd (upd (upd (upd fS 12 f_1) 11 1) 13 0) 7 f_2) 4), .int ((upd (upd (upd (upd fS 12 f_1) 11 1) 13 0) 7 f_2) 5), .int ((upd (upd (upd (upd fS 12 f_1) 11 1) 13 0) 7 f_2) 6), .int ((upd (upd (upd (upd fS 12 f_1) 11 1) 13 0) 7 f_2) 7), .int ((upd (upd (upd (upd fS 12 f_1) 11 1) 13 0) 7 f_2) 8), .int ((upd (upd (upd (upd fS 12 f_1) 11 1) 13 0) 7 f_2) 9), .int ((upd (upd (upd (upd fS 12 f_1) 11 1) 13 0) 7 f_2) 10), .int ((upd (upd (upd (upd fS 12 f_1) 11 1) 13 0) 7 f_2) 11), .int ((upd (upd (upd (upd fS 12 f_1) 11 1) 13 0) 7 f_2) 12), .int ((upd (upd (upd (upd fS 12 f_1) 11 1) 13 0) 7 f_2) 13)]))]) [0] rfl
    have hD9 := hD.sub (ws' := [(o_S, .inr (5, [.ref o_So, .ref o_Si, .int ((upd (upd (upd (upd fS 12 f_1) 11 1) 13 0) 7 f_2) 2), .int ((upd (upd (upd (upd fS 12 f_1) 11 1) 13 0) 7 f_2) 3), .int ((upd (upd (upd (upd fS 12 f_1) 11 1) 13 0) 7 f_2) 4), .int ((upd (upd (upd (upd fS 12 f_1) 11 1) 13 0) 7 f_2) 5), .int ((upd (upd (upd (upd fS 12 f_1) 11 1) 13 0) 7 f_2) 6), .int ((upd (upd (upd (upd fS 12 f_1) 11 1) 13 0) 7 f_2) 7), .int ((upd (upd (upd (upd fS 12 f_1) 11 1) 13 0) 7 f_2) 8), .int ((upd (upd (upd (upd fS 12 f_1) 11 1) 13 0) 7 f_2) 9), .int ((upd (upd (upd (upd fS 12 f_1) 11 1) 13 0) 7 f_2) 10), .int ((upd (upd (upd (upd fS 12 f_1) 11 1) 13 0) 7 f_2) 11), .int ((upd (upd (upd (upd fS 12 f_1) 11 1) 13 0) 7 f_2) 12), .int ((upd (upd (upd (upd fS 12 f_1) 11 1) 13 0) 7 f_2) 13)]))]) [0] (by decide) rfl
    exact W.vret hx hb hr (fun t ht hW => ⟨⟨(upd (upd (upd (upd fS 12 f_1) 11 1) 13 0) 7 f_2), rfl, (by subst ef_1 ef_2; rw [FX5_goBack]; rw [if_neg c_3]; try rfl), by rw [ht]; exact hP9, va_K.moved hW.alike hK, hD9⟩, hS.F ht⟩) hS.2.2 dX5_goBack_41
  · skip
    have c_3 : (fS 2) = 4 := c_3
    have tc_3 : (fS 2).toInt = (4 : Int) := congrArg Int32.toInt c_3
    refine lv_aload_n hx hb dX5_goBack_36 rfl (lv_at hl 0 rfl) ?_
    refine lv_iconst (v := 3) hx hb dX5_goBack_37 (by decide) ?_
    refine va_put (D := (dC, dI)) (ci := 5) (v := .int 3) (ty := .int) (C := RX5) (T := TX5) (N := 14) hx hb hts (fun w h => List.mem_cons_of_mem _ (uwX5 w h)) tyX5 tyX5_ok nmX5 hown hK hP hD hS 0 rfl rfl 2 (by decide) (hts _ (List.mem_cons_of_mem _ wd_210)) (fun _ h9 => h9) rfl (by decide +kernel) rfl rfl (Nat.le_of_ble_eq_true rfl) dX5_goBack_38 (fun H locs hP hD hS => ?_)
    have hP : va_P (dC, dI) vwCl [(o_S, .inr (5, [.ref o_So, .ref o_Si, .int 3, .int (fS 3), .int (fS 4), .int (fS 5), .int (fS 6), .int f_2, .int (fS 8), .int (fS 9), .int (fS 10), .int 1, .int f_1, .int 0]))] H := hP
    have hD : va_D A [(o_S, .inr (5, [.ref o_So, .ref o_Si, .int 3, .int (fS 3), .int (fS 4), .int (fS 5), .int (fS 6), .int f_2, .int (fS 8), .int (fS 9), .int (fS 10), .int 1, .int f_1, .int 0]))] := hD
    have hP9 := hP.sub (ws' := [(o_S, .inr (5, [.ref o_So, .ref o_Si, .int ((upd (upd (upd (upd (upd fS 12 f_1) 11 1) 13 0) 7 f_2) 2 3) 2), .int ((upd (upd (upd (upd (upd fS 12 f_1) 11 1) 13 0) 7 f_2) 2 3) 3), .int ((upd (upd (upd (upd (upd fS 12 f_1) 11 1) 13 0) 7 f_2) 2 3) 4), .int ((upd (upd (upd (upd (upd fS 12 f_1) 11 1) 13 0) 7 f_2) 2 3) 5), .int ((upd (upd (upd (upd (upd fS 12 f_1) 11 1) 13 0) 7 f_2) 2 3) 6), .int ((upd (upd (upd (upd (upd fS 12 f_1) 11 1) 13 0) 7 f_2) 2 3) 7), .int ((upd (upd (upd (upd (upd fS 12 f_1) 11 1) 13 0) 7 f_2) 2 3) 8), .int ((upd (upd (upd (upd (upd fS 12 f_1) 11 1) 13 0) 7 f_2) 2 3) 9), .int ((upd (upd (upd (upd (upd fS 12 f_1) 11 1) 13 0) 7 f_2) 2 3) 10), .int ((upd (upd (upd (upd (upd fS 12 f_1) 11 1) 13 0) 7 f_2) 2 3) 11), .int ((upd (upd (upd (upd (upd fS 12 f_1) 11 1) 13 0) 7 f_2) 2 3) 12), .int ((upd (upd (upd (upd (upd fS 12 f_1) 11 1) 13 0) 7 f_2) 2 3) 13)]))]) [0] rfl
    have hD9 := hD.sub (ws' := [(o_S, .inr (5, [.ref o_So, .ref o_Si, .int ((upd (upd (upd (upd (upd fS 12 f_1) 11 1) 13 0) 7 f_2) 2 3) 2), .int ((upd (upd (upd (upd (upd fS 12 f_1) 11 1) 13 0) 7 f_2) 2 3) 3), .int ((upd (upd (upd (upd (upd fS 12 f_1) 11 1) 13 0) 7 f_2) 2 3) 4), .int ((upd (upd (upd (upd (upd fS 12 f_1) 11 1) 13 0) 7 f_2) 2 3) 5), .int ((upd (upd (upd (upd (upd fS 12 f_1) 11 1) 13 0) 7 f_2) 2 3) 6), .int ((upd (upd (upd (upd (upd fS 12 f_1) 11 1) 13 0) 7 f_2) 2 3) 7), .int ((upd (upd (upd (upd (upd fS 12 f_1) 11 1) 13 0) 7 f_2) 2 3) 8), .int ((upd (upd (upd (upd (upd fS 12 f_1) 11 1) 13 0) 7 f_2) 2 3) 9), .int ((upd (upd (upd (upd (upd fS 12 f_1) 11 1) 13 0) 7 f_2) 2 3) 10), .int ((upd (upd (upd (upd (upd fS 12 f_1) 11 1) 13 0) 7 f_2) 2 3) 11), .int ((upd (upd (upd (upd (upd fS 12 f_1) 11 1) 13 0) 7 f_2) 2 3) 12), .int ((upd (upd (upd (upd (upd fS 12 f_1) 11 1) 13 0) 7 f_2) 2 3) 13)]))]) [0] (by decide) rfl
    exact W.vret hx hb hr (fun t ht hW => ⟨⟨(upd (upd (upd (upd (upd fS 12 f_1) 11 1) 13 0) 7 f_2) 2 3), rfl, (by subst ef_1 ef_2; rw [FX5_goBack]; rw [if_pos c_3]; try rfl), by rw [ht]; exact hP9, va_K.moved hW.alike hK, hD9⟩, hS.F ht⟩) hS.2.2 dX5_goBack_41
set_option maxHeartbeats 4000000 in
set_option maxRecDepth 100000 in
theorem c_X5_goOn (l : Launch) (dC : Nat → ClassId) (dI : Nat → Nat → Nat) (tC : Nat → ClassId) (o_S o_So o_Si : Nat) (sz : Nat) (fS : (Nat → Int32)) (i0 : Int32) : Met l yX5_goOn wsX5_goOn ({ frames := 0, cells := 0, slots := 0, locals := 0 }) (va_Pc [.ref o_S, .int i0] (fun U => U.heap.size = sz ∧ va_P (dC, dI) vwCl [(o_S, .inr (5, [.ref o_So, .ref o_Si, .int (fS 2), .int (fS 3), .int (fS 4), .int (fS 5), .int (fS 6), .int (fS 7), .int (fS 8), .int (fS 9), .int (fS 10), .int (fS 11), .int (fS 12), .int (fS 13)]))] U.heap ∧ va_K (dC, dI) vwCl (TY tC) U ∧ NW U ∧ va_D (fun _ => True) [(o_S, .inr (5, [.ref o_So, .ref o_Si, .int (fS 2), .int (fS 3), .int (fS 4), .int (fS 5), .int (fS 6), .int (fS 7), .int (fS 8), .int (fS 9), .int (fS 10), .int (fS 11), .int (fS 12), .int (fS 13)]))])) (va_Qv (fun (u : (Nat → Int32)) => u = FX5_goOn fS i0) (fun (u : (Nat → Int32)) (t : State) => va_P (dC, dI) vwCl [(o_S, .inr (5, [.ref o_So, .ref o_Si, .int (u 2), .int (u 3), .int (u 4), .int (u 5), .int (u 6), .int (u 7), .int (u 8), .int (u 9), .int (u 10), .int (u 11), .int (u 12), .int (u 13)]))] t.heap ∧ va_K (dC, dI) vwCl (TY tC) t ∧ va_D (va_A [(o_S, .inr (5, [.ref o_So, .ref o_Si, .int (fS 2), .int (fS 3), .int (fS 4), .int (fS 5), .int (fS 6), .int (fS 7), .int (fS 8), .int (fS 9), .int (fS 10), .int (fS 11), .int (fS 12), .int (fS 13)]))] sz) [(o_S, .inr (5, [.ref o_So, .ref o_Si, .int (u 2), .int (u 3), .int (u 4), .int (u 5), .int (u 6), .int (u 7), .int (u 8), .int (u 9), .int (u 10), .int (u 11), .int (u 12), .int (u 13)]))]) (va_A [(o_S, .inr (5, [.ref o_So, .ref o_Si, .int (fS 2), .int (fS 3), .int (fS 4), .int (fS 5), .int (fS 6), .int (fS 7), .int (fS 8), .int (fS 9), .int (fS 10), .int (fS 11), .int (fS 12), .int (fS 13)]))] sz)) 0 0 (va_A [(o_S, .inr (5, [.ref o_So, .ref o_Si, .int (fS 2), .int (fS 3), .int (fS 4), .int (fS 5), .int (fS 6), .int (fS 7), .int (fS 8), .int (fS 9), .int (fS 10), .int (fS 11), .int (fS 12), .int (fS 13)]))] sz) := by
  refine Met.ofW (cc := cX5_goOn) (maxL := 2) (ret := none) (by decide) rfl ?_
  intro p e s m args below meth c s₁ B hml hv
  obtain ⟨rfl, hsz, hP, hK, hN, hD0⟩ := hv
  have hx := B.exec
  have hb := B.bytes
  have hr := B.returns
  have hts := atoms_spec (ws := wsX5_goOn) B.pre
  have hown : s.vm.findClass RX5 = some m.cls := findClass_of_methodNamed B.named
  have hlocks := B.notSynchronized
  subst hsz
  have hD := hD0.self (sz := s.heap.size)
  generalize hAe : va_A [(o_S, .inr (5, [.ref o_So, .ref o_Si, .int (fS 2), .int (fS 3), .int (fS 4), .int (fS 5), .int (fS 6), .int (fS 7), .int (fS 8), .int (fS 9), .int (fS 10), .int (fS 11), .int (fS 12), .int (fS 13)]))] s.heap.size = A at hD ⊢
  have hA : ∀ q : Nat, s.heap.size ≤ q → A q := fun q h => by rw [← hAe]; exact Or.inr h
  have hS : va_S A s.heap s.heap [] := va_S.rf
  have hP : va_P (dC, dI) vwCl [(o_S, .inr (5, [.ref o_So, .ref o_Si, .int (fS 2), .int (fS 3), .int (fS 4), .int (fS 5), .int (fS 6), .int (fS 7), .int (fS 8), .int (fS 9), .int (fS 10), .int (fS 11), .int (fS 12), .int (fS 13)]))] s.heap := hP
  have hl := lv_entry ([.ref o_S, .int i0]) (n := 2) (Nat.le_of_ble_eq_true rfl)
  rw [lg_entry_eq]
  generalize (lg_sl ([.ref o_S, .int i0]) ++ List.replicate (2 - (lg_sl ([.ref o_S, .int i0])).length) Slot.unset).toArray = ls at hl ⊢
  have hl : lv_has ls 2 [(0, .ref o_S), (1, .int i0)] := hl
  refine lv_aload_n hx hb dX5_goOn_0 rfl (lv_at hl 0 rfl) ?_
  refine va_get (D := (dC, dI)) (ci := 5) (v := .int (fS 6)) (C := RX5) (T := TX5) (N := 14) hx hb hts (fun w h => List.mem_cons_of_mem _ (uwX5 w h)) hown hK hP 0 rfl rfl 6 (by decide) (hts _ (List.mem_cons_of_mem _ wd_218)) (fun _ h9 => h9) rfl dX5_goOn_1 ?_
  refine lv_aload_n hx hb dX5_goOn_4 rfl (lv_at hl 0 rfl) ?_
  refine va_get (D := (dC, dI)) (ci := 5) (v := .int (fS 7)) (C := RX5) (T := TX5) (N := 14) hx hb hts (fun w h => List.mem_cons_of_mem _ (uwX5 w h)) hown hK hP 0 rfl rfl 7 (by decide) (hts _ (List.mem_cons_of_mem _ wd_219)) (fun _ h9 => h9) rfl dX5_goOn_5 ?_
  refine lv_icmp_ne (tgt := 16) hx hb dX5_goOn_8 (by decide) (fun c_1 => ?_) (fun c_1 => ?_)
  · skip
    have c_1 : ¬ ((fS 6) = (fS 7)) := c_1
    refine lv_aload_n hx hb dX5_goOn_16 rfl (lv_at hl 0 rfl) ?_
    refine lv_aload_n hx hb dX5_goOn_17 rfl (lv_at hl 0 rfl) ?_
    refine va_get (D := (dC, dI)) (ci := 5) (v := .int (fS 7)) (C := RX5) (T := TX5) (N := 14) hx hb hts (fun w h => List.mem_cons_of_mem _ (uwX5 w h)) hown hK hP 0 rfl rfl 7 (by decide) (hts _ (List.mem_cons_of_mem _ wd_219)) (fun _ h9 => h9) rfl dX5_goOn_18 ?_
    refine lv_iload_n hx hb dX5_goOn_21 rfl (lv_at hl 1 rfl) ?_
    refine lv_iadd hx hb dX5_goOn_22 ?_
    refine lv_sipush (v := 255) hx hb dX5_goOn_23 (by decide) ?_
    refine lv_iand hx hb dX5_goOn_26 ?_
    refine lv_topi (fun f_2 (ef_2 : f_2 = (((fS 7) + i0) &&& (255 : Int32))) => ?_)
    refine va_put (D := (dC, dI)) (ci := 5) (v := .int f_2) (ty := .int) (C := RX5) (T := TX5) (N := 14) hx hb hts (fun w h => List.mem_cons_of_mem _ (uwX5 w h)) tyX5 tyX5_ok nmX5 hown hK hP hD hS 0 rfl rfl 7 (by decide) (hts _ (List.mem_cons_of_mem _ wd_219)) (fun _ h9 => h9) rfl (by decide +kernel) rfl rfl (Nat.le_of_ble_eq_true rfl) dX5_goOn_27 (fun H locs hP hD hS => ?_)
    have hP : va_P (dC, dI) vwCl [(o_S, .inr (5, [.ref o_So, .ref o_Si, .int (fS 2), .int (fS 3), .int (fS 4), .int (fS 5), .int (fS 6), .int f_2, .int (fS 8), .int (fS 9), .int (fS 10), .int (fS 11), .int (fS 12), .int (fS 13)]))] H := hP
    have hD : va_D A [(o_S, .inr (5, [.ref o_So, .ref o_Si, .int (fS 2), .int (fS 3), .int (fS 4), .int (fS 5), .int (fS 6), .int f_2, .int (fS 8), .int (fS 9), .int (fS 10), .int (fS 11), .int (fS 12), .int (fS 13)]))] := hD
    have hP9 := hP.sub (ws' := [(o_S, .inr (5, [.ref o_So, .ref o_Si, .int ((upd fS 7 f_2) 2), .int ((upd fS 7 f_2) 3), .int ((upd fS 7 f_2) 4), .int ((upd fS 7 f_2) 5), .int ((upd fS 7 f_2) 6), .int ((upd fS 7 f_2) 7), .int ((upd fS 7 f_2) 8), .int ((upd fS 7 f_2) 9), .int ((upd fS 7 f_2) 10), .int ((upd fS 7 f_2) 11), .int ((upd fS 7 f_2) 12), .int ((upd fS 7 f_2) 13)]))]) [0] rfl
    have hD9 := hD.sub (ws' := [(o_S, .inr (5, [.ref o_So, .ref o_Si, .int ((upd fS 7 f_2) 2), .int ((upd fS 7 f_2) 3), .int ((upd fS 7 f_2) 4), .int ((upd fS 7 f_2) 5), .int ((upd fS 7 f_2) 6), .int ((upd fS 7 f_2) 7), .int ((upd fS 7 f_2) 8), .int ((upd fS 7 f_2) 9), .int ((upd fS 7 f_2) 10), .int ((upd fS 7 f_2) 11), .int ((upd fS 7 f_2) 12), .int ((upd fS 7 f_2) 13)]))]) [0] (by decide) rfl
    exact W.vret hx hb hr (fun t ht hW => ⟨⟨(upd fS 7 f_2), rfl, (by subst ef_2; rw [FX5_goOn]; rw [if_neg c_1]; try rfl), by rw [ht]; exact hP9, va_K.moved hW.alike hK, hD9⟩, hS.F ht⟩) hS.2.2 dX5_goOn_30
  · skip
    have c_1 : (fS 6) = (fS 7) := c_1
    have tc_1 : (fS 6).toInt = (fS 7).toInt := congrArg Int32.toInt c_1
    refine lv_aload_n hx hb dX5_goOn_11 rfl (lv_at hl 0 rfl) ?_
    refine lv_iconst (v := 0) hx hb dX5_goOn_12 (by decide) ?_
    refine va_put (D := (dC, dI)) (ci := 5) (v := .int 0) (ty := .int) (C := RX5) (T := TX5) (N := 14) hx hb hts (fun w h => List.mem_cons_of_mem _ (uwX5 w h)) tyX5 tyX5_ok nmX5 hown hK hP hD hS 0 rfl rfl 13 (by decide) (hts _ (List.mem_cons_of_mem _ wd_229)) (fun _ h9 => h9) rfl (by decide +kernel) rfl rfl (Nat.le_of_ble_eq_true rfl) dX5_goOn_13 (fun H locs hP hD hS => ?_)
    have hP : va_P (dC, dI) vwCl [(o_S, .inr (5, [.ref o_So, .ref o_Si, .int (fS 2), .int (fS 3), .int (fS 4), .int (fS 5), .int (fS 6), .int (fS 7), .int (fS 8), .int (fS 9), .int (fS 10), .int (fS 11), .int (fS 12), .int 0]))] H := hP
    have hD : va_D A [(o_S, .inr (5, [.ref o_So, .ref o_Si, .int (fS 2), .int (fS 3), .int (fS 4), .int (fS 5), .int (fS 6), .int (fS 7), .int (fS 8), .int (fS 9), .int (fS 10), .int (fS 11), .int (fS 12), .int 0]))] := hD
    refine lv_aload_n hx hb dX5_goOn_16 rfl (lv_at hl 0 rfl) ?_
    refine lv_aload_n hx hb dX5_goOn_17 rfl (lv_at hl 0 rfl) ?_
    refine va_get (D := (dC, dI)) (ci := 5) (v := .int (fS 7)) (C := RX5) (T := TX5) (N := 14) hx hb hts (fun w h => List.mem_cons_of_mem _ (uwX5 w h)) hown hK hP 0 rfl rfl 7 (by decide) (hts _ (List.mem_cons_of_mem _ wd_219)) (fun _ h9 => h9) rfl dX5_goOn_18 ?_
    refine lv_iload_n hx hb dX5_goOn_21 rfl (lv_at hl 1 rfl) ?_
    refine lv_iadd hx hb dX5_goOn_22 ?_
    refine lv_sipush (v := 255) hx hb dX5_goOn_23 (by decide) ?_
    refine lv_iand hx hb dX5_goOn_26 ?_
    refine lv_topi (fun f_3 (ef_3 : f_3 = (((fS 7) + i0) &&& (255 : Int32))) => ?_)
    refine va_put (D := (dC, dI)) (ci := 5) (v := .int f_3) (ty := .int) (C := RX5) (T := TX5) (N := 14) hx hb hts (fun w h => List.mem_cons_of_mem _ (uwX5 w h)) tyX5 tyX5_ok nmX5 hown hK hP hD hS 0 rfl rfl 7 (by decide) (hts _ (List.mem_cons_of_mem _ wd_219)) (fun _ h9 => h9) rfl (by decide +kernel) rfl rfl (Nat.le_of_ble_eq_true rfl) dX5_goOn_27 (fun H locs hP hD hS => ?_)
    have hP : va_P (dC, dI) vwCl [(o_S, .inr (5, [.ref o_So, .ref o_Si, .int (fS 2), .int (fS 3), .int (fS 4), .int (fS 5), .int (fS 6), .int f_3, .int (fS 8), .int (fS 9), .int (fS 10), .int (fS 11), .int (fS 12), .int 0]))] H := hP
    have hD : va_D A [(o_S, .inr (5, [.ref o_So, .ref o_Si, .int (fS 2), .int (fS 3), .int (fS 4), .int (fS 5), .int (fS 6), .int f_3, .int (fS 8), .int (fS 9), .int (fS 10), .int (fS 11), .int (fS 12), .int 0]))] := hD
    have hP9 := hP.sub (ws' := [(o_S, .inr (5, [.ref o_So, .ref o_Si, .int ((upd (upd fS 13 0) 7 f_3) 2), .int ((upd (upd fS 13 0) 7 f_3) 3), .int ((upd (upd fS 13 0) 7 f_3) 4), .int ((upd (upd fS 13 0) 7 f_3) 5), .int ((upd (upd fS 13 0) 7 f_3) 6), .int ((upd (upd fS 13 0) 7 f_3) 7), .int ((upd (upd fS 13 0) 7 f_3) 8), .int ((upd (upd fS 13 0) 7 f_3) 9), .int ((upd (upd fS 13 0) 7 f_3) 10), .int ((upd (upd fS 13 0) 7 f_3) 11), .int ((upd (upd fS 13 0) 7 f_3) 12), .int ((upd (upd fS 13 0) 7 f_3) 13)]))]) [0] rfl
    have hD9 := hD.sub (ws' := [(o_S, .inr (5, [.ref o_So, .ref o_Si, .int ((upd (upd fS 13 0) 7 f_3) 2), .int ((upd (upd fS 13 0) 7 f_3) 3), .int ((upd (upd fS 13 0) 7 f_3) 4), .int ((upd (upd fS 13 0) 7 f_3) 5), .int ((upd (upd fS 13 0) 7 f_3) 6), .int ((upd (upd fS 13 0) 7 f_3) 7), .int ((upd (upd fS 13 0) 7 f_3) 8), .int ((upd (upd fS 13 0) 7 f_3) 9), .int ((upd (upd fS 13 0) 7 f_3) 10), .int ((upd (upd fS 13 0) 7 f_3) 11), .int ((upd (upd fS 13 0) 7 f_3) 12), .int ((upd (upd fS 13 0) 7 f_3) 13)]))]) [0] (by decide) rfl
    exact W.vret hx hb hr (fun t ht hW => ⟨⟨(upd (upd fS 13 0) 7 f_3), rfl, (by subst ef_3; rw [FX5_goOn]; rw [if_pos c_1]; try rfl), by rw [ht]; exact hP9, va_K.moved hW.alike hK, hD9⟩, hS.F ht⟩) hS.2.2 dX5_goOn_30
set_option maxHeartbeats 4000000 in
set_option maxRecDepth 100000 in
theorem c_X5_removeFirst (l : Launch) (dC : Nat → ClassId) (dI : Nat → Nat → Nat) (tC : Nat → ClassId) (o_w : Nat) (n_w : Nat) (sz : Nat) (rb : (Nat → Int32)) (i0 i1 : Int32) (h_n : n_w ≤ 1000) (h_0 : 0 ≤ i1.toInt) (h_00 : 0 ≤ i0.toInt) (h_1 : i0.toInt ≤ n_w) (h_2 : i0.toInt ≤ 100) : Met l yX5_removeFirst wsX5_removeFirst ({ frames := 0, cells := 0, slots := 0, locals := 0 }) (va_Pc [.ref o_w, .int i0, .int i1] (fun U => U.heap.size = sz ∧ va_P (dC, dI) vwCl [(o_w, .inl (tC 0, n_w, .inl rb))] U.heap ∧ va_K (dC, dI) vwCl (TY tC) U ∧ NW U ∧ va_D (fun _ => True) [(o_w, .inl (tC 0, n_w, .inl rb))])) (va_Qi (fun (r : Int32) (u : (Nat → Int32)) => (r, u) = FX5_removeFirst rb i0 i1) (fun (u : (Nat → Int32)) (t : State) => va_P (dC, dI) vwCl [(o_w, .inl (tC 0, n_w, .inl u))] t.heap ∧ va_K (dC, dI) vwCl (TY tC) t ∧ va_D (va_A [(o_w, .inl (tC 0, n_w, .inl rb))] sz) [(o_w, .inl (tC 0, n_w, .inl u))]) (va_A [(o_w, .inl (tC 0, n_w, .inl rb))] sz)) 0 0 (va_A [(o_w, .inl (tC 0, n_w, .inl rb))] sz) := by
  refine Met.ofW (cc := cX5_removeFirst) (maxL := 5) (ret := (some .int)) (by decide) rfl ?_
  intro p e s m args below meth c s₁ B hml hv
  obtain ⟨rfl, hsz, hP, hK, hN, hD0⟩ := hv
  have hx := B.exec
  have hb := B.bytes
  have hr := B.returns
  have hts := atoms_spec (ws := wsX5_removeFirst) B.pre
  have hown : s.vm.findClass RX5 = some m.cls := findClass_of_methodNamed B.named
  have hlocks := B.notSynchronized
  subst hsz
  have hD := hD0.self (sz := s.heap.size)
  generalize hAe : va_A [(o_w, .inl (tC 0, n_w, .inl rb))] s.heap.size = A at hD ⊢
  have hA : ∀ q : Nat, s.heap.size ≤ q → A q := fun q h => by rw [← hAe]; exact Or.inr h
  have hS : va_S A s.heap s.heap [] := va_S.rf
  have hP : va_P (dC, dI) vwCl [(o_w, .inl (tC 0, n_w, .inl rb))] s.heap := hP
  have hl := lv_entry ([.ref o_w, .int i0, .int i1]) (n := 5) (Nat.le_of_ble_eq_true rfl)
  rw [lg_entry_eq]
  generalize (lg_sl ([.ref o_w, .int i0, .int i1]) ++ List.replicate (5 - (lg_sl ([.ref o_w, .int i0, .int i1])).length) Slot.unset).toArray = ls at hl ⊢
  have hl : lv_has ls 5 [(0, .ref o_w), (1, .int i0), (2, .int i1)] := hl
  generalize hQ : MQ _ _ _ _ _ _ _ = Q
  refine lv_iload_n hx hb dX5_removeFirst_0 rfl (lv_at hl 1 rfl) ?_
  refine lv_iload_n hx hb dX5_removeFirst_1 rfl (lv_at hl 2 rfl) ?_
  refine lv_isub hx hb dX5_removeFirst_2 ?_
  refine lv_topi (fun x_1 (ex_1 : x_1 = (i0 - i1)) => ?_)
  refine lv_istore_n (lv' := [(3, .int x_1), (0, .ref o_w), (1, .int i0), (2, .int i1)]) hx hb dX5_removeFirst_3 rfl hl (by decide) rfl (fun ls hl => ?_)
  have h_lf : x_1.toInt = i0.toInt - i1.toInt := by rw [ex_1]; exact tI_sub (by have := tI_lo i0; have := tI_hi i1; omega) (by omega)
  refine lv_iconst (v := 0) hx hb dX5_removeFirst_4 (by decide) ?_
  refine lv_istore (lv' := [(4, .int 0), (3, .int x_1), (0, .ref o_w), (1, .int i0), (2, .int i1)]) hx hb dX5_removeFirst_5 hl (by decide) rfl (fun ls hl => ?_)
  have loop : ∀ (n : Nat) (y4 : Int32) (z_rb : (Nat → Int32)) (H : Heap) (locs : List Loc) (ls : Array Slot), (0 ≤ y4.toInt) → (((i0.toInt - i1.toInt) - y4.toInt).toNat) < n → LX5_removeFirst_7 i1 x_1 n y4 z_rb = FX5_removeFirst rb i0 i1 → va_P (dC, dI) vwCl [(o_w, .inl (tC 0, n_w, .inl z_rb))] H → va_D A [(o_w, .inl (tC 0, n_w, .inl z_rb))] → va_S A s.heap H locs → lv_has ls 5 [(4, .int y4), (3, .int x_1), (0, .ref o_w), (1, .int i0), (2, .int i1)] → W p l e (headSpec wsX5_removeFirst ({ frames := 0, cells := 0, slots := 0, locals := 0 })).room s m ([.ref o_w, .int i0, .int i1] : List Value).toArray below meth c H locs 0 0 Q (F0 m 7 ls []) := by
    intro n; induction n with
    | zero => intro y4 z_rb H locs ls h_i hm hL; exact absurd hm (Nat.not_lt_zero _)
    | succ n ih =>
      intro y4 z_rb H locs ls h_i hm hL hP hD hS hl
      refine lv_iload hx hb dX5_removeFirst_7 (lv_at hl 0 rfl) ?_
      refine lv_iload_n hx hb dX5_removeFirst_9 rfl (lv_at hl 1 rfl) ?_
      refine lv_icmp_ge (tgt := 29) hx hb dX5_removeFirst_10 (by decide) (fun c_2 => ?_) (fun c_2 => ?_)
      · skip
        have c_2 : x_1 ≤ y4 := c_2
        have tc_2 : x_1.toInt ≤ y4.toInt := Int32.le_iff_toInt_le.mp c_2
        refine lv_iload_n hx hb dX5_removeFirst_29 rfl (lv_at hl 1 rfl) ?_
        have hP9 := hP.sub (ws' := [(o_w, .inl (tC 0, n_w, .inl z_rb))]) [0] rfl
        have hD9 := hD.sub (ws' := [(o_w, .inl (tC 0, n_w, .inl z_rb))]) [0] (by decide) rfl
        rw [← hQ]
        exact W.iret (v := x_1) hx hb hr (fun t ht hW => ⟨⟨x_1, z_rb, rfl, (by subst ex_1; rw [← hL]; rw [LX5_removeFirst_7]; rw [if_pos c_2]; try rfl), by rw [ht]; exact hP9, va_K.moved hW.alike hK, hD9⟩, hS.F ht⟩) hS.2.2 dX5_removeFirst_30
      · skip
        have c_2 : ¬ (x_1 ≤ y4) := c_2
        have tc_2 : ¬ x_1.toInt ≤ y4.toInt := fun q => c_2 (Int32.le_iff_toInt_le.mpr q)
        refine lv_aload_n hx hb dX5_removeFirst_13 rfl (lv_at hl 2 rfl) ?_
        refine lv_iload hx hb dX5_removeFirst_14 (lv_at hl 0 rfl) ?_
        refine lv_aload_n hx hb dX5_removeFirst_16 rfl (lv_at hl 2 rfl) ?_
        refine lv_iload_n hx hb dX5_removeFirst_17 rfl (lv_at hl 4 rfl) ?_
        refine lv_iload hx hb dX5_removeFirst_18 (lv_at hl 0 rfl) ?_
        refine lv_iadd hx hb dX5_removeFirst_20 ?_
        refine va_iald hx hb hK hP 0 0 rfl rfl (vi_add (by omega) (by omega) (by omega)) dX5_removeFirst_21 ?_
        refine lv_topi (fun v_3 (ev_3 : v_3 = (z_rb (i1 + y4).toNatClampNeg)) => ?_)
        refine va_iast hx hb hK hP hD hS 0 0 rfl rfl (vp_in_iff.mpr (by omega)) dX5_removeFirst_22 (fun H locs hP hD hS => ?_)
        have hP : va_P (dC, dI) vwCl [(o_w, .inl (tC 0, n_w, .inl (upd z_rb y4.toNatClampNeg v_3)))] H := hP
        have hD : va_D A [(o_w, .inl (tC 0, n_w, .inl (upd z_rb y4.toNatClampNeg v_3)))] := hD
        obtain ⟨x_4, ex_4⟩ : ∃ y : Int32, y = (y4 + 1) := ⟨_, rfl⟩
        refine lv_iinc (v := x_4) (lv' := [(4, .int x_4), (3, .int x_1), (0, .ref o_w), (1, .int i0), (2, .int i1)]) hx hb dX5_removeFirst_23 hl (k := 0) rfl (by rw [ex_4]; rfl) (by decide) rfl (fun ls hl => ?_)
        have tx_4 : x_4.toInt = y4.toInt + 1 := by rw [ex_4]; exact tI_ac 1 rfl (by omega) (by omega)
        refine lv_goto (tgt := 7) hx hb dX5_removeFirst_26 (by decide) ?_
        exact ih x_4 (upd z_rb y4.toNatClampNeg v_3) _ _ ls (by omega) (by omega) (by subst ev_3 ex_4; rw [LX5_removeFirst_7] at hL; rw [if_neg c_2] at hL; exact hL) (hP.sub [0] rfl) (hD.sub [0] (by decide) rfl) hS (lv_sub hl [0, 1, 2, 3, 4] rfl)
  exact loop 128 0 rb _ _ ls (by decide) (by have q0 : (0 : Int32).toInt = 0 := rfl; omega) (by subst ex_1; rw [FX5_removeFirst]; try rfl) hP hD hS hl
set_option maxHeartbeats 4000000 in
set_option maxRecDepth 100000 in
theorem c_X5_acknowledge (l : Launch) (dC : Nat → ClassId) (dI : Nat → Nat → Nat) (tC : Nat → ClassId) (o_S o_So o_Si : Nat) (sz : Nat) (fS : (Nat → Int32)) (so : (Nat → Int32)) (i0 : Int32) (h_S : iv_S fS) : Met l yX5_acknowledge wsX5_acknowledge ({ frames := 1, cells := 0, slots := 0, locals := 24 }) (va_Pc [.ref o_S, .int i0] (fun U => U.heap.size = sz ∧ va_P (dC, dI) vwCl [(o_S, .inr (5, [.ref o_So, .ref o_Si, .int (fS 2), .int (fS 3), .int (fS 4), .int (fS 5), .int (fS 6), .int (fS 7), .int (fS 8), .int (fS 9), .int (fS 10), .int (fS 11), .int (fS 12), .int (fS 13)])), (o_So, .inl (tC 0, 64, .inl so))] U.heap ∧ va_K (dC, dI) vwCl (TY tC) U ∧ NW U ∧ va_D (fun _ => True) [(o_S, .inr (5, [.ref o_So, .ref o_Si, .int (fS 2), .int (fS 3), .int (fS 4), .int (fS 5), .int (fS 6), .int (fS 7), .int (fS 8), .int (fS 9), .int (fS 10), .int (fS 11), .int (fS 12), .int (fS 13)])), (o_So, .inl (tC 0, 64, .inl so))])) (va_Qv (fun (u : (Nat → Int32) × (Nat → Int32)) => u = FX5_acknowledge fS so i0) (fun (u : (Nat → Int32) × (Nat → Int32)) (t : State) => va_P (dC, dI) vwCl [(o_S, .inr (5, [.ref o_So, .ref o_Si, .int (u.1 2), .int (u.1 3), .int (u.1 4), .int (u.1 5), .int (u.1 6), .int (u.1 7), .int (u.1 8), .int (u.1 9), .int (u.1 10), .int (u.1 11), .int (u.1 12), .int (u.1 13)])), (o_So, .inl (tC 0, 64, .inl u.2))] t.heap ∧ va_K (dC, dI) vwCl (TY tC) t ∧ va_D (va_A [(o_S, .inr (5, [.ref o_So, .ref o_Si, .int (fS 2), .int (fS 3), .int (fS 4), .int (fS 5), .int (fS 6), .int (fS 7), .int (fS 8), .int (fS 9), .int (fS 10), .int (fS 11), .int (fS 12), .int (fS 13)])), (o_So, .inl (tC 0, 64, .inl so))] sz) [(o_S, .inr (5, [.ref o_So, .ref o_Si, .int (u.1 2), .int (u.1 3), .int (u.1 4), .int (u.1 5), .int (u.1 6), .int (u.1 7), .int (u.1 8), .int (u.1 9), .int (u.1 10), .int (u.1 11), .int (u.1 12), .int (u.1 13)])), (o_So, .inl (tC 0, 64, .inl u.2))]) (va_A [(o_S, .inr (5, [.ref o_So, .ref o_Si, .int (fS 2), .int (fS 3), .int (fS 4), .int (fS 5), .int (fS 6), .int (fS 7), .int (fS 8), .int (fS 9), .int (fS 10), .int (fS 11), .int (fS 12), .int (fS 13)])), (o_So, .inl (tC 0, 64, .inl so))] sz)) 0 0 (va_A [(o_S, .inr (5, [.ref o_So, .ref o_Si, .int (fS 2), .int (fS 3), .int (fS 4), .int (fS 5), .int (fS 6), .int (fS 7), .int (fS 8), .int (fS 9), .int (fS 10), .int (fS 11), .int (fS 12), .int (fS 13)])), (o_So, .inl (tC 0, 64, .inl so))] sz) := by
  refine Met.ofW (cc := cX5_acknowledge) (maxL := 3) (ret := none) (by decide) rfl ?_
  intro p e s m args below meth c s₁ B hml hv
  obtain ⟨rfl, hsz, hP, hK, hN, hD0⟩ := hv
  have hx := B.exec
  have hb := B.bytes
  have hr := B.returns
  have hts := atoms_spec (ws := wsX5_acknowledge) B.pre
  have hown : s.vm.findClass RX5 = some m.cls := findClass_of_methodNamed B.named
  have hlocks := B.notSynchronized
  subst hsz
  have hD := hD0.self (sz := s.heap.size)
  generalize hAe : va_A [(o_S, .inr (5, [.ref o_So, .ref o_Si, .int (fS 2), .int (fS 3), .int (fS 4), .int (fS 5), .int (fS 6), .int (fS 7), .int (fS 8), .int (fS 9), .int (fS 10), .int (fS 11), .int (fS 12), .int (fS 13)])), (o_So, .inl (tC 0, 64, .inl so))] s.heap.size = A at hD ⊢
  have hA : ∀ q : Nat, s.heap.size ≤ q → A q := fun q h => by rw [← hAe]; exact Or.inr h
  have hS : va_S A s.heap s.heap [] := va_S.rf
  have hP : va_P (dC, dI) vwCl [(o_S, .inr (5, [.ref o_So, .ref o_Si, .int (fS 2), .int (fS 3), .int (fS 4), .int (fS 5), .int (fS 6), .int (fS 7), .int (fS 8), .int (fS 9), .int (fS 10), .int (fS 11), .int (fS 12), .int (fS 13)])), (o_So, .inl (tC 0, 64, .inl so))] s.heap := hP
  have hl := lv_entry ([.ref o_S, .int i0]) (n := 3) (Nat.le_of_ble_eq_true rfl)
  rw [lg_entry_eq]
  generalize (lg_sl ([.ref o_S, .int i0]) ++ List.replicate (3 - (lg_sl ([.ref o_S, .int i0])).length) Slot.unset).toArray = ls at hl ⊢
  have hl : lv_has ls 3 [(0, .ref o_S), (1, .int i0)] := hl
  obtain ⟨h_a0, h_a1, h_o0, h_o1, h_i0, h_i1⟩ := id h_S
  refine lv_iload_n hx hb dX5_acknowledge_0 rfl (lv_at hl 1 rfl) ?_
  refine lv_aload_n hx hb dX5_acknowledge_1 rfl (lv_at hl 0 rfl) ?_
  refine va_get (D := (dC, dI)) (ci := 5) (v := .int (fS 6)) (C := RX5) (T := TX5) (N := 14) hx hb hts (fun w h => List.mem_cons_of_mem _ (uwX5 w h)) hown hK hP 0 rfl rfl 6 (by decide) (hts _ (List.mem_cons_of_mem _ wd_218)) (fun _ h9 => h9) rfl dX5_acknowledge_2 ?_
  refine lv_isub hx hb dX5_acknowledge_5 ?_
  refine lv_sipush (v := 255) hx hb dX5_acknowledge_6 (by decide) ?_
  refine lv_iand hx hb dX5_acknowledge_9 ?_
  refine lv_topi (fun x_1 (ex_1 : x_1 = ((i0 - (fS 6)) &&& (255 : Int32))) => ?_)
  refine lv_istore_n (lv' := [(2, .int x_1), (0, .ref o_S), (1, .int i0)]) hx hb dX5_acknowledge_10 rfl hl (by decide) rfl (fun ls hl => ?_)
  refine lv_iload_n hx hb dX5_acknowledge_11 rfl (lv_at hl 0 rfl) ?_
  refine lv_iconst (v := 1) hx hb dX5_acknowledge_12 (by decide) ?_
  refine lv_icmp_lt (tgt := 24) hx hb dX5_acknowledge_13 (by decide) (fun c_2 => ?_) (fun c_2 => ?_)
  · skip
    have c_2 : x_1 < 1 := c_2
    have tc_2 : x_1.toInt < (1 : Int) := Int32.lt_iff_toInt_lt.mp c_2
    have hP9 := hP.sub (ws' := [(o_S, .inr (5, [.ref o_So, .ref o_Si, .int (fS 2), .int (fS 3), .int (fS 4), .int (fS 5), .int (fS 6), .int (fS 7), .int (fS 8), .int (fS 9), .int (fS 10), .int (fS 11), .int (fS 12), .int (fS 13)])), (o_So, .inl (tC 0, 64, .inl so))]) [0, 1] rfl
    have hD9 := hD.sub (ws' := [(o_S, .inr (5, [.ref o_So, .ref o_Si, .int (fS 2), .int (fS 3), .int (fS 4), .int (fS 5), .int (fS 6), .int (fS 7), .int (fS 8), .int (fS 9), .int (fS 10), .int (fS 11), .int (fS 12), .int (fS 13)])), (o_So, .inl (tC 0, 64, .inl so))]) [0, 1] (by decide) rfl
    exact W.vret hx hb hr (fun t ht hW => ⟨⟨(fS, so), rfl, (by subst ex_1; rw [FX5_acknowledge]; rw [if_pos c_2]; try rfl), by rw [ht]; exact hP9, va_K.moved hW.alike hK, hD9⟩, hS.F ht⟩) hS.2.2 dX5_acknowledge_24
  · skip
    have c_2 : ¬ (x_1 < 1) := c_2
    have tc_2 : ¬ x_1.toInt < (1 : Int) := fun q => c_2 (Int32.lt_iff_toInt_lt.mpr q)
    refine lv_iload_n hx hb dX5_acknowledge_16 rfl (lv_at hl 0 rfl) ?_
    refine lv_aload_n hx hb dX5_acknowledge_17 rfl (lv_at hl 1 rfl) ?_
    have hPc := hP.sub (ws' := [(o_S, .inr (5, [.ref o_So, .ref o_Si, .int (fS 2), .int (fS 3), .int (fS 4), .int (fS 5), .int (fS 6), .int (fS 7), .int (fS 8), .int (fS 9), .int (fS 10), .int (fS 11), .int (fS 12), .int (fS 13)]))]) [0] rfl
    have hDc := hD.sub (ws' := [(o_S, .inr (5, [.ref o_So, .ref o_Si, .int (fS 2), .int (fS 3), .int (fS 4), .int (fS 5), .int (fS 6), .int (fS 7), .int (fS 8), .int (fS 9), .int (fS 10), .int (fS 11), .int (fS 12), .int (fS 13)]))]) [0] (by decide) rfl
    have hFc := va_free (wc := [(o_S, .inr (5, [.ref o_So, .ref o_Si, .int (fS 2), .int (fS 3), .int (fS 4), .int (fS 5), .int (fS 6), .int (fS 7), .int (fS 8), .int (fS 9), .int (fS 10), .int (fS 11), .int (fS 12), .int (fS 13)]))]) hD hS hA [0] rfl
    refine va_calli (va_runV (As := []) (rest := [.int x_1]) ⟨hx, hb, hml, hown, hts⟩ (c_X5_onTheWay l dC dI tC o_S o_So o_Si s.heap.size fS) (cwV 0 hts (gV wd_480 wd_465 wd_466 wd_10 wd_467) rfl rfl rfl dsc_X5_onTheWay ⟨Nat.le_of_ble_eq_true rfl, Nat.le_of_ble_eq_true rfl⟩) ⟨fun a U g mk q => by obtain ⟨q0, q1, qP, qK, qN, qD⟩ := q; exact ⟨q0, q1, qP, va_K.moved (u := U) (U := U.calling g mk a) (Vm.Alike.refl U.vm) qK, NW.same (u := U) (U := U.calling g mk a) rfl qN, qD⟩, va_recv hK hPc (ci := 5) (q0 := 0) rfl rfl, fun U hU hW => ⟨rfl, by rw [hU], by rw [hU]; exact hPc, va_K.moved hW.alike hK, NW.warm hW hN, hDc.weaken (fun _ _ _ _ => trivial)⟩⟩ rfl rfl hl.1 rfl (lv_room (Nat.le_of_ble_eq_true rfl)) dX5_acknowledge_18 ⟨Nat.le_of_ble_eq_true rfl, Nat.le_of_ble_eq_true rfl⟩) hS (fun q _ h => hFc q h) hFc (fun r_3 u t H1 locs ht hvm hw hB hz1 hk1 hS => ?_)
    obtain ⟨hP1, hK1, hD1⟩ := hB
    rw [ht] at hP1
    obtain ⟨hP, hD⟩ := va_join (wr := [(o_So, .inl (tC 0, 64, .inl so))]) (w1 := [(o_S, .inr (5, [.ref o_So, .ref o_Si, .int (fS 2), .int (fS 3), .int (fS 4), .int (fS 5), .int (fS 6), .int (fS 7), .int (fS 8), .int (fS 9), .int (fS 10), .int (fS 11), .int (fS 12), .int (fS 13)]))]) hP hD [0] [1] rfl rfl (by decide) (by decide) hk1 hFc hP1 hD1
    generalize H1 = H at hP hS ⊢
    have hP : va_P (dC, dI) vwCl [(o_So, .inl (tC 0, 64, .inl so)), (o_S, .inr (5, [.ref o_So, .ref o_Si, .int (fS 2), .int (fS 3), .int (fS 4), .int (fS 5), .int (fS 6), .int (fS 7), .int (fS 8), .int (fS 9), .int (fS 10), .int (fS 11), .int (fS 12), .int (fS 13)]))] H := hP
    have hD : va_D A [(o_So, .inl (tC 0, 64, .inl so)), (o_S, .inr (5, [.ref o_So, .ref o_Si, .int (fS 2), .int (fS 3), .int (fS 4), .int (fS 5), .int (fS 6), .int (fS 7), .int (fS 8), .int (fS 9), .int (fS 10), .int (fS 11), .int (fS 12), .int (fS 13)]))] := hD
    have er_3 : r_3 = (FX5_onTheWay fS) := hw
    refine lv_icmp_le (tgt := 25) hx hb dX5_acknowledge_21 (by decide) (fun c_4 => ?_) (fun c_4 => ?_)
    · skip
      have c_4 : x_1 ≤ r_3 := c_4
      have tc_4 : x_1.toInt ≤ r_3.toInt := Int32.le_iff_toInt_le.mp c_4
      refine lv_aload_n hx hb dX5_acknowledge_25 rfl (lv_at hl 1 rfl) ?_
      refine lv_iload_n hx hb dX5_acknowledge_26 rfl (lv_at hl 2 rfl) ?_
      refine va_put (D := (dC, dI)) (ci := 5) (v := .int i0) (ty := .int) (C := RX5) (T := TX5) (N := 14) hx hb hts (fun w h => List.mem_cons_of_mem _ (uwX5 w h)) tyX5 tyX5_ok nmX5 hown hK hP hD hS 1 rfl rfl 6 (by decide) (hts _ (List.mem_cons_of_mem _ wd_218)) (fun _ h9 => h9) rfl (by decide +kernel) rfl rfl (Nat.le_of_ble_eq_true rfl) dX5_acknowledge_27 (fun H locs hP hD hS => ?_)
      have hP : va_P (dC, dI) vwCl [(o_So, .inl (tC 0, 64, .inl so)), (o_S, .inr (5, [.ref o_So, .ref o_Si, .int (fS 2), .int (fS 3), .int (fS 4), .int (fS 5), .int i0, .int (fS 7), .int (fS 8), .int (fS 9), .int (fS 10), .int (fS 11), .int (fS 12), .int (fS 13)]))] H := hP
      have hD : va_D A [(o_So, .inl (tC 0, 64, .inl so)), (o_S, .inr (5, [.ref o_So, .ref o_Si, .int (fS 2), .int (fS 3), .int (fS 4), .int (fS 5), .int i0, .int (fS 7), .int (fS 8), .int (fS 9), .int (fS 10), .int (fS 11), .int (fS 12), .int (fS 13)]))] := hD
      refine lv_aload_n hx hb dX5_acknowledge_30 rfl (lv_at hl 1 rfl) ?_
      refine lv_aload_n hx hb dX5_acknowledge_31 rfl (lv_at hl 1 rfl) ?_
      refine va_get (D := (dC, dI)) (ci := 5) (v := .int (fS 11)) (C := RX5) (T := TX5) (N := 14) hx hb hts (fun w h => List.mem_cons_of_mem _ (uwX5 w h)) hown hK hP 1 rfl rfl 11 (by decide) (hts _ (List.mem_cons_of_mem _ wd_226)) (fun _ h9 => h9) rfl dX5_acknowledge_32 ?_
      refine lv_iconst (v := 1) hx hb dX5_acknowledge_35 (by decide) ?_
      refine lv_iadd hx hb dX5_acknowledge_36 ?_
      refine lv_iconst (v := 4) hx hb dX5_acknowledge_37 (by decide) ?_
      refine va_mmin hx hb (hml.trans hl.1.symm) hown (hts _ (List.mem_cons_of_mem _ wd_481)) (hts _ (List.mem_cons_of_mem _ wd_482)) (hts _ (List.mem_cons_of_mem _ wd_12)) (hts _ (List.mem_cons_of_mem _ wd_483)) (Nat.le_of_ble_eq_true rfl) (Nat.le_of_ble_eq_true rfl) (Nat.zero_le _) (Nat.zero_le _) dX5_acknowledge_38 ?_
      refine lv_topi (fun x_5 (ex_5 : x_5 = (mn ((fS 11) + (1 : Int32)) (4 : Int32))) => ?_)
      refine va_put (D := (dC, dI)) (ci := 5) (v := .int x_5) (ty := .int) (C := RX5) (T := TX5) (N := 14) hx hb hts (fun w h => List.mem_cons_of_mem _ (uwX5 w h)) tyX5 tyX5_ok nmX5 hown hK hP hD hS 1 rfl rfl 11 (by decide) (hts _ (List.mem_cons_of_mem _ wd_226)) (fun _ h9 => h9) rfl (by decide +kernel) rfl rfl (Nat.le_of_ble_eq_true rfl) dX5_acknowledge_41 (fun H locs hP hD hS => ?_)
      have hP : va_P (dC, dI) vwCl [(o_So, .inl (tC 0, 64, .inl so)), (o_S, .inr (5, [.ref o_So, .ref o_Si, .int (fS 2), .int (fS 3), .int (fS 4), .int (fS 5), .int i0, .int (fS 7), .int (fS 8), .int (fS 9), .int (fS 10), .int x_5, .int (fS 12), .int (fS 13)]))] H := hP
      have hD : va_D A [(o_So, .inl (tC 0, 64, .inl so)), (o_S, .inr (5, [.ref o_So, .ref o_Si, .int (fS 2), .int (fS 3), .int (fS 4), .int (fS 5), .int i0, .int (fS 7), .int (fS 8), .int (fS 9), .int (fS 10), .int x_5, .int (fS 12), .int (fS 13)]))] := hD
      refine lv_aload_n hx hb dX5_acknowledge_44 rfl (lv_at hl 1 rfl) ?_
      refine lv_iconst (v := 0) hx hb dX5_acknowledge_45 (by decide) ?_
      refine va_put (D := (dC, dI)) (ci := 5) (v := .int 0) (ty := .int) (C := RX5) (T := TX5) (N := 14) hx hb hts (fun w h => List.mem_cons_of_mem _ (uwX5 w h)) tyX5 tyX5_ok nmX5 hown hK hP hD hS 1 rfl rfl 12 (by decide) (hts _ (List.mem_cons_of_mem _ wd_227)) (fun _ h9 => h9) rfl (by decide +kernel) rfl rfl (Nat.le_of_ble_eq_true rfl) dX5_acknowledge_46 (fun H locs hP hD hS => ?_)
      have hP : va_P (dC, dI) vwCl [(o_So, .inl (tC 0, 64, .inl so)), (o_S, .inr (5, [.ref o_So, .ref o_Si, .int (fS 2), .int (fS 3), .int (fS 4), .int (fS 5), .int i0, .int (fS 7), .int (fS 8), .int (fS 9), .int (fS 10), .int x_5, .int 0, .int (fS 13)]))] H := hP
      have hD : va_D A [(o_So, .inl (tC 0, 64, .inl so)), (o_S, .inr (5, [.ref o_So, .ref o_Si, .int (fS 2), .int (fS 3), .int (fS 4), .int (fS 5), .int i0, .int (fS 7), .int (fS 8), .int (fS 9), .int (fS 10), .int x_5, .int 0, .int (fS 13)]))] := hD
      refine lv_aload_n hx hb dX5_acknowledge_49 rfl (lv_at hl 1 rfl) ?_
      refine lv_iconst (v := 0) hx hb dX5_acknowledge_50 (by decide) ?_
      refine va_put (D := (dC, dI)) (ci := 5) (v := .int 0) (ty := .int) (C := RX5) (T := TX5) (N := 14) hx hb hts (fun w h => List.mem_cons_of_mem _ (uwX5 w h)) tyX5 tyX5_ok nmX5 hown hK hP hD hS 1 rfl rfl 13 (by decide) (hts _ (List.mem_cons_of_mem _ wd_229)) (fun _ h9 => h9) rfl (by decide +kernel) rfl rfl (Nat.le_of_ble_eq_true rfl) dX5_acknowledge_51 (fun H locs hP hD hS => ?_)
      have hP : va_P (dC, dI) vwCl [(o_So, .inl (tC 0, 64, .inl so)), (o_S, .inr (5, [.ref o_So, .ref o_Si, .int (fS 2), .int (fS 3), .int (fS 4), .int (fS 5), .int i0, .int (fS 7), .int (fS 8), .int (fS 9), .int (fS 10), .int x_5, .int 0, .int 0]))] H := hP
      have hD : va_D A [(o_So, .inl (tC 0, 64, .inl so)), (o_S, .inr (5, [.ref o_So, .ref o_Si, .int (fS 2), .int (fS 3), .int (fS 4), .int (fS 5), .int i0, .int (fS 7), .int (fS 8), .int (fS 9), .int (fS 10), .int x_5, .int 0, .int 0]))] := hD
      refine lv_aload_n hx hb dX5_acknowledge_54 rfl (lv_at hl 1 rfl) ?_
      refine va_get (D := (dC, dI)) (ci := 5) (v := .int (fS 2)) (C := RX5) (T := TX5) (N := 14) hx hb hts (fun w h => List.mem_cons_of_mem _ (uwX5 w h)) hown hK hP 1 rfl rfl 2 (by decide) (hts _ (List.mem_cons_of_mem _ wd_210)) (fun _ h9 => h9) rfl dX5_acknowledge_55 ?_
      refine lv_iconst (v := 1) hx hb dX5_acknowledge_58 (by decide) ?_
      refine lv_icmp_ne (tgt := 68) hx hb dX5_acknowledge_59 (by decide) (fun c_6 => ?_) (fun c_6 => ?_)
      · skip
        have c_6 : ¬ ((fS 2) = 1) := c_6
        refine lv_aload_n hx hb dX5_acknowledge_68 rfl (lv_at hl 1 rfl) ?_
        refine lv_aload_n hx hb dX5_acknowledge_69 rfl (lv_at hl 1 rfl) ?_
        refine va_get (D := (dC, dI)) (ci := 5) (v := .ref o_So) (C := RX5) (T := TX5) (N := 14) hx hb hts (fun w h => List.mem_cons_of_mem _ (uwX5 w h)) hown hK hP 1 rfl rfl 0 (by decide) (hts _ (List.mem_cons_of_mem _ wd_206)) (fun _ h9 => h9) rfl dX5_acknowledge_70 ?_
        refine lv_aload_n hx hb dX5_acknowledge_73 rfl (lv_at hl 1 rfl) ?_
        refine va_get (D := (dC, dI)) (ci := 5) (v := .int (fS 8)) (C := RX5) (T := TX5) (N := 14) hx hb hts (fun w h => List.mem_cons_of_mem _ (uwX5 w h)) hown hK hP 1 rfl rfl 8 (by decide) (hts _ (List.mem_cons_of_mem _ wd_221)) (fun _ h9 => h9) rfl dX5_acknowledge_74 ?_
        refine lv_iload_n hx hb dX5_acknowledge_77 rfl (lv_at hl 0 rfl) ?_
        refine lv_aload_n hx hb dX5_acknowledge_78 rfl (lv_at hl 1 rfl) ?_
        refine va_get (D := (dC, dI)) (ci := 5) (v := .int (fS 8)) (C := RX5) (T := TX5) (N := 14) hx hb hts (fun w h => List.mem_cons_of_mem _ (uwX5 w h)) hown hK hP 1 rfl rfl 8 (by decide) (hts _ (List.mem_cons_of_mem _ wd_221)) (fun _ h9 => h9) rfl dX5_acknowledge_79 ?_
        refine va_mmin hx hb (hml.trans hl.1.symm) hown (hts _ (List.mem_cons_of_mem _ wd_481)) (hts _ (List.mem_cons_of_mem _ wd_482)) (hts _ (List.mem_cons_of_mem _ wd_12)) (hts _ (List.mem_cons_of_mem _ wd_483)) (Nat.le_of_ble_eq_true rfl) (Nat.le_of_ble_eq_true rfl) (Nat.zero_le _) (Nat.zero_le _) dX5_acknowledge_82 ?_
        refine lv_topi (fun x_7 (ex_7 : x_7 = (mn x_1 (fS 8))) => ?_)
        have h_mn : 0 ≤ (x_7).toInt := by rw [ex_7, mn_i]; omega
        have hPc := hP.sub (ws' := [(o_So, .inl (tC 0, 64, .inl so))]) [0] rfl
        have hDc := hD.sub (ws' := [(o_So, .inl (tC 0, 64, .inl so))]) [0] (by decide) rfl
        have hFc := va_free (wc := [(o_So, .inl (tC 0, 64, .inl so))]) hD hS hA [0] rfl
        refine va_calli (va_runS (As := [.ref o_So, .int (fS 8), .int x_7]) (rest := [.ref o_S]) ⟨hx, hb, hml, hown, hts⟩ (c_X5_removeFirst l dC dI tC o_So 64 H.size so (fS 8) x_7 (by first | assumption | omega | (simp only [k0, k1, k4, k5, k8, k9, k16]; omega) | exact h_Ss _ (by decide) | exact h_Ts _ (by decide) | exact h_Ms _ (by decide) | exact Or.inr rfl | exact rfl | decide) (by first | assumption | omega | (simp only [k0, k1, k4, k5, k8, k9, k16]; omega) | exact h_Ss _ (by decide) | exact h_Ts _ (by decide) | exact h_Ms _ (by decide) | exact Or.inr rfl | exact rfl | decide) (by first | assumption | omega | (simp only [k0, k1, k4, k5, k8, k9, k16]; omega) | exact h_Ss _ (by decide) | exact h_Ts _ (by decide) | exact h_Ms _ (by decide) | exact Or.inr rfl | exact rfl | decide) (by first | assumption | omega | (simp only [k0, k1, k4, k5, k8, k9, k16]; omega) | exact h_Ss _ (by decide) | exact h_Ts _ (by decide) | exact h_Ms _ (by decide) | exact Or.inr rfl | exact rfl | decide) (by first | assumption | omega | (simp only [k0, k1, k4, k5, k8, k9, k16]; omega) | exact h_Ss _ (by decide) | exact h_Ts _ (by decide) | exact h_Ms _ (by decide) | exact Or.inr rfl | exact rfl | decide)) (va_cwS 3 hts (gS wd_484 wd_485 wd_10 wd_486) rfl rfl rfl dsc_X5_removeFirst.2 ⟨Nat.le_of_ble_eq_true rfl, Nat.le_of_ble_eq_true rfl⟩) ⟨fun a U g mk q => by obtain ⟨q0, q1, qP, qK, qN, qD⟩ := q; exact ⟨q0, q1, qP, va_K.moved (u := U) (U := U.calling g mk a) (Vm.Alike.refl U.vm) qK, NW.same (u := U) (U := U.calling g mk a) rfl qN, qD⟩, fun U hU hW => ⟨rfl, by rw [hU], by rw [hU]; exact hPc, va_K.moved hW.alike hK, NW.warm hW hN, hDc.weaken (fun _ _ _ _ => trivial)⟩⟩ rfl rfl hl.1 rfl (lv_room (Nat.le_of_ble_eq_true rfl)) dX5_acknowledge_85 ⟨Nat.le_of_ble_eq_true rfl, Nat.le_of_ble_eq_true rfl⟩) hS (fun q _ h => hFc q h) hFc (fun r_8 u t H1 locs ht hvm hw hB hz1 hk1 hS => ?_)
        obtain ⟨u1_8, rfl⟩ : ∃ z, z = u := ⟨_, rfl⟩
        obtain ⟨hP1, hK1, hD1⟩ := hB
        rw [ht] at hP1
        obtain ⟨hP, hD⟩ := va_join (wr := [(o_S, .inr (5, [.ref o_So, .ref o_Si, .int (fS 2), .int (fS 3), .int (fS 4), .int (fS 5), .int i0, .int (fS 7), .int (fS 8), .int (fS 9), .int (fS 10), .int x_5, .int 0, .int 0]))]) (w1 := [(o_So, .inl (tC 0, 64, .inl u1_8))]) hP hD [0] [1] rfl rfl (by decide) (by decide) hk1 hFc hP1 hD1
        generalize H1 = H at hP hS ⊢
        have hP : va_P (dC, dI) vwCl [(o_S, .inr (5, [.ref o_So, .ref o_Si, .int (fS 2), .int (fS 3), .int (fS 4), .int (fS 5), .int i0, .int (fS 7), .int (fS 8), .int (fS 9), .int (fS 10), .int x_5, .int 0, .int 0])), (o_So, .inl (tC 0, 64, .inl u1_8))] H := hP
        have hD : va_D A [(o_S, .inr (5, [.ref o_So, .ref o_Si, .int (fS 2), .int (fS 3), .int (fS 4), .int (fS 5), .int i0, .int (fS 7), .int (fS 8), .int (fS 9), .int (fS 10), .int x_5, .int 0, .int 0])), (o_So, .inl (tC 0, 64, .inl u1_8))] := hD
        have er_8 : r_8 = (FX5_removeFirst so (fS 8) x_7).1 := congrArg (fun z => z.1) hw
        have eu1_8 : u1_8 = (FX5_removeFirst so (fS 8) x_7).2 := congrArg (fun z => z.2) hw
        refine va_put (D := (dC, dI)) (ci := 5) (v := .int r_8) (ty := .int) (C := RX5) (T := TX5) (N := 14) hx hb hts (fun w h => List.mem_cons_of_mem _ (uwX5 w h)) tyX5 tyX5_ok nmX5 hown hK hP hD hS 0 rfl rfl 8 (by decide) (hts _ (List.mem_cons_of_mem _ wd_221)) (fun _ h9 => h9) rfl (by decide +kernel) rfl rfl (Nat.le_of_ble_eq_true rfl) dX5_acknowledge_88 (fun H locs hP hD hS => ?_)
        have hP : va_P (dC, dI) vwCl [(o_S, .inr (5, [.ref o_So, .ref o_Si, .int (fS 2), .int (fS 3), .int (fS 4), .int (fS 5), .int i0, .int (fS 7), .int r_8, .int (fS 9), .int (fS 10), .int x_5, .int 0, .int 0])), (o_So, .inl (tC 0, 64, .inl u1_8))] H := hP
        have hD : va_D A [(o_S, .inr (5, [.ref o_So, .ref o_Si, .int (fS 2), .int (fS 3), .int (fS 4), .int (fS 5), .int i0, .int (fS 7), .int r_8, .int (fS 9), .int (fS 10), .int x_5, .int 0, .int 0])), (o_So, .inl (tC 0, 64, .inl u1_8))] := hD
        refine lv_aload_n hx hb dX5_acknowledge_91 rfl (lv_at hl 1 rfl) ?_
        refine va_get (D := (dC, dI)) (ci := 5) (v := .int (fS 2)) (C := RX5) (T := TX5) (N := 14) hx hb hts (fun w h => List.mem_cons_of_mem _ (uwX5 w h)) hown hK hP 0 rfl rfl 2 (by decide) (hts _ (List.mem_cons_of_mem _ wd_210)) (fun _ h9 => h9) rfl dX5_acknowledge_92 ?_
        refine lv_iconst (v := 4) hx hb dX5_acknowledge_95 (by decide) ?_
        refine lv_icmp_ne (tgt := 115) hx hb dX5_acknowledge_96 (by decide) (fun c_9 => ?_) (fun c_9 => ?_)
        · skip
          have c_9 : ¬ ((fS 2) = 4) := c_9
          have hP9 := hP.sub (ws' := [(o_S, .inr (5, [.ref o_So, .ref o_Si, .int ((upd (upd (upd (upd (upd fS 6 i0) 11 x_5) 12 0) 13 0) 8 r_8) 2), .int ((upd (upd (upd (upd (upd fS 6 i0) 11 x_5) 12 0) 13 0) 8 r_8) 3), .int ((upd (upd (upd (upd (upd fS 6 i0) 11 x_5) 12 0) 13 0) 8 r_8) 4), .int ((upd (upd (upd (upd (upd fS 6 i0) 11 x_5) 12 0) 13 0) 8 r_8) 5), .int ((upd (upd (upd (upd (upd fS 6 i0) 11 x_5) 12 0) 13 0) 8 r_8) 6), .int ((upd (upd (upd (upd (upd fS 6 i0) 11 x_5) 12 0) 13 0) 8 r_8) 7), .int ((upd (upd (upd (upd (upd fS 6 i0) 11 x_5) 12 0) 13 0) 8 r_8) 8), .int ((upd (upd (upd (upd (upd fS 6 i0) 11 x_5) 12 0) 13 0) 8 r_8) 9), .int ((upd (upd (upd (upd (upd fS 6 i0) 11 x_5) 12 0) 13 0) 8 r_8) 10), .int ((upd (upd (upd (upd (upd fS 6 i0) 11 x_5) 12 0) 13 0) 8 r_8) 11), .int ((upd (upd (upd (upd (upd fS 6 i0) 11 x_5) 12 0) 13 0) 8 r_8) 12), .int ((upd (upd (upd (upd (upd fS 6 i0) 11 x_5) 12 0) 13 0) 8 r_8) 13)])), (o_So, .inl (tC 0, 64, .inl u1_8))]) [0, 1] rfl
          have hD9 := hD.sub (ws' := [(o_S, .inr (5, [.ref o_So, .ref o_Si, .int ((upd (upd (upd (upd (upd fS 6 i0) 11 x_5) 12 0) 13 0) 8 r_8) 2), .int ((upd (upd (upd (upd (upd fS 6 i0) 11 x_5) 12 0) 13 0) 8 r_8) 3), .int ((upd (upd (upd (upd (upd fS 6 i0) 11 x_5) 12 0) 13 0) 8 r_8) 4), .int ((upd (upd (upd (upd (upd fS 6 i0) 11 x_5) 12 0) 13 0) 8 r_8) 5), .int ((upd (upd (upd (upd (upd fS 6 i0) 11 x_5) 12 0) 13 0) 8 r_8) 6), .int ((upd (upd (upd (upd (upd fS 6 i0) 11 x_5) 12 0) 13 0) 8 r_8) 7), .int ((upd (upd (upd (upd (upd fS 6 i0) 11 x_5) 12 0) 13 0) 8 r_8) 8), .int ((upd (upd (upd (upd (upd fS 6 i0) 11 x_5) 12 0) 13 0) 8 r_8) 9), .int ((upd (upd (upd (upd (upd fS 6 i0) 11 x_5) 12 0) 13 0) 8 r_8) 10), .int ((upd (upd (upd (upd (upd fS 6 i0) 11 x_5) 12 0) 13 0) 8 r_8) 11), .int ((upd (upd (upd (upd (upd fS 6 i0) 11 x_5) 12 0) 13 0) 8 r_8) 12), .int ((upd (upd (upd (upd (upd fS 6 i0) 11 x_5) 12 0) 13 0) 8 r_8) 13)])), (o_So, .inl (tC 0, 64, .inl u1_8))]) [0, 1] (by decide) rfl
          exact W.vret hx hb hr (fun t ht hW => ⟨⟨((upd (upd (upd (upd (upd fS 6 i0) 11 x_5) 12 0) 13 0) 8 r_8), u1_8), rfl, (by subst ex_1 er_3 ex_5 ex_7 er_8 eu1_8; rw [FX5_acknowledge]; rw [if_neg c_2]; rw [if_pos c_4]; rw [if_neg c_6]; rw [KX5_acknowledge_85]; rw [if_neg c_9]; try rfl), by rw [ht]; exact hP9, va_K.moved hW.alike hK, hD9⟩, hS.F ht⟩) hS.2.2 dX5_acknowledge_115
        · skip
          have c_9 : (fS 2) = 4 := c_9
          have tc_9 : (fS 2).toInt = (4 : Int) := congrArg Int32.toInt c_9
          refine lv_aload_n hx hb dX5_acknowledge_99 rfl (lv_at hl 1 rfl) ?_
          refine va_get (D := (dC, dI)) (ci := 5) (v := .int i0) (C := RX5) (T := TX5) (N := 14) hx hb hts (fun w h => List.mem_cons_of_mem _ (uwX5 w h)) hown hK hP 0 rfl rfl 6 (by decide) (hts _ (List.mem_cons_of_mem _ wd_218)) (fun _ h9 => h9) rfl dX5_acknowledge_100 ?_
          refine lv_aload_n hx hb dX5_acknowledge_103 rfl (lv_at hl 1 rfl) ?_
          refine va_get (D := (dC, dI)) (ci := 5) (v := .int (fS 7)) (C := RX5) (T := TX5) (N := 14) hx hb hts (fun w h => List.mem_cons_of_mem _ (uwX5 w h)) hown hK hP 0 rfl rfl 7 (by decide) (hts _ (List.mem_cons_of_mem _ wd_219)) (fun _ h9 => h9) rfl dX5_acknowledge_104 ?_
          refine lv_icmp_ne (tgt := 115) hx hb dX5_acknowledge_107 (by decide) (fun c_10 => ?_) (fun c_10 => ?_)
          · skip
            have c_10 : ¬ (i0 = (fS 7)) := c_10
            have hP9 := hP.sub (ws' := [(o_S, .inr (5, [.ref o_So, .ref o_Si, .int ((upd (upd (upd (upd (upd fS 6 i0) 11 x_5) 12 0) 13 0) 8 r_8) 2), .int ((upd (upd (upd (upd (upd fS 6 i0) 11 x_5) 12 0) 13 0) 8 r_8) 3), .int ((upd (upd (upd (upd (upd fS 6 i0) 11 x_5) 12 0) 13 0) 8 r_8) 4), .int ((upd (upd (upd (upd (upd fS 6 i0) 11 x_5) 12 0) 13 0) 8 r_8) 5), .int ((upd (upd (upd (upd (upd fS 6 i0) 11 x_5) 12 0) 13 0) 8 r_8) 6), .int ((upd (upd (upd (upd (upd fS 6 i0) 11 x_5) 12 0) 13 0) 8 r_8) 7), .int ((upd (upd (upd (upd (upd fS 6 i0) 11 x_5) 12 0) 13 0) 8 r_8) 8), .int ((upd (upd (upd (upd (upd fS 6 i0) 11 x_5) 12 0) 13 0) 8 r_8) 9), .int ((upd (upd (upd (upd (upd fS 6 i0) 11 x_5) 12 0) 13 0) 8 r_8) 10), .int ((upd (upd (upd (upd (upd fS 6 i0) 11 x_5) 12 0) 13 0) 8 r_8) 11), .int ((upd (upd (upd (upd (upd fS 6 i0) 11 x_5) 12 0) 13 0) 8 r_8) 12), .int ((upd (upd (upd (upd (upd fS 6 i0) 11 x_5) 12 0) 13 0) 8 r_8) 13)])), (o_So, .inl (tC 0, 64, .inl u1_8))]) [0, 1] rfl
            have hD9 := hD.sub (ws' := [(o_S, .inr (5, [.ref o_So, .ref o_Si, .int ((upd (upd (upd (upd (upd fS 6 i0) 11 x_5) 12 0) 13 0) 8 r_8) 2), .int ((upd (upd (upd (upd (upd fS 6 i0) 11 x_5) 12 0) 13 0) 8 r_8) 3), .int ((upd (upd (upd (upd (upd fS 6 i0) 11 x_5) 12 0) 13 0) 8 r_8) 4), .int ((upd (upd (upd (upd (upd fS 6 i0) 11 x_5) 12 0) 13 0) 8 r_8) 5), .int ((upd (upd (upd (upd (upd fS 6 i0) 11 x_5) 12 0) 13 0) 8 r_8) 6), .int ((upd (upd (upd (upd (upd fS 6 i0) 11 x_5) 12 0) 13 0) 8 r_8) 7), .int ((upd (upd (upd (upd (upd fS 6 i0) 11 x_5) 12 0) 13 0) 8 r_8) 8), .int ((upd (upd (upd (upd (upd fS 6 i0) 11 x_5) 12 0) 13 0) 8 r_8) 9), .int ((upd (upd (upd (upd (upd fS 6 i0) 11 x_5) 12 0) 13 0) 8 r_8) 10), .int ((upd (upd (upd (upd (upd fS 6 i0) 11 x_5) 12 0) 13 0) 8 r_8) 11), .int ((upd (upd (upd (upd (upd fS 6 i0) 11 x_5) 12 0) 13 0) 8 r_8) 12), .int ((upd (upd (upd (upd (upd fS 6 i0) 11 x_5) 12 0) 13 0) 8 r_8) 13)])), (o_So, .inl (tC 0, 64, .inl u1_8))]) [0, 1] (by decide) rfl
            exact W.vret hx hb hr (fun t ht hW => ⟨⟨((upd (upd (upd (upd (upd fS 6 i0) 11 x_5) 12 0) 13 0) 8 r_8), u1_8), rfl, (by subst ex_1 er_3 ex_5 ex_7 er_8 eu1_8; rw [FX5_acknowledge]; rw [if_neg c_2]; rw [if_pos c_4]; rw [if_neg c_6]; rw [KX5_acknowledge_85]; rw [if_pos c_9]; rw [if_neg c_10]; try rfl), by rw [ht]; exact hP9, va_K.moved hW.alike hK, hD9⟩, hS.F ht⟩) hS.2.2 dX5_acknowledge_115
          · skip
            have c_10 : i0 = (fS 7) := c_10
            have tc_10 : i0.toInt = (fS 7).toInt := congrArg Int32.toInt c_10
            refine lv_aload_n hx hb dX5_acknowledge_110 rfl (lv_at hl 1 rfl) ?_
            refine lv_iconst (v := 0) hx hb dX5_acknowledge_111 (by decide) ?_
            refine va_put (D := (dC, dI)) (ci := 5) (v := .int 0) (ty := .int) (C := RX5) (T := TX5) (N := 14) hx hb hts (fun w h => List.mem_cons_of_mem _ (uwX5 w h)) tyX5 tyX5_ok nmX5 hown hK hP hD hS 0 rfl rfl 2 (by decide) (hts _ (List.mem_cons_of_mem _ wd_210)) (fun _ h9 => h9) rfl (by decide +kernel) rfl rfl (Nat.le_of_ble_eq_true rfl) dX5_acknowledge_112 (fun H locs hP hD hS => ?_)
            have hP : va_P (dC, dI) vwCl [(o_S, .inr (5, [.ref o_So, .ref o_Si, .int 0, .int (fS 3), .int (fS 4), .int (fS 5), .int i0, .int (fS 7), .int r_8, .int (fS 9), .int (fS 10), .int x_5, .int 0, .int 0])), (o_So, .inl (tC 0, 64, .inl u1_8))] H := hP
            have hD : va_D A [(o_S, .inr (5, [.ref o_So, .ref o_Si, .int 0, .int (fS 3), .int (fS 4), .int (fS 5), .int i0, .int (fS 7), .int r_8, .int (fS 9), .int (fS 10), .int x_5, .int 0, .int 0])), (o_So, .inl (tC 0, 64, .inl u1_8))] := hD
            have hP9 := hP.sub (ws' := [(o_S, .inr (5, [.ref o_So, .ref o_Si, .int ((upd (upd (upd (upd (upd (upd fS 6 i0) 11 x_5) 12 0) 13 0) 8 r_8) 2 0) 2), .int ((upd (upd (upd (upd (upd (upd fS 6 i0) 11 x_5) 12 0) 13 0) 8 r_8) 2 0) 3), .int ((upd (upd (upd (upd (upd (upd fS 6 i0) 11 x_5) 12 0) 13 0) 8 r_8) 2 0) 4), .int ((upd (upd (upd (upd (upd (upd fS 6 i0) 11 x_5) 12 0) 13 0) 8 r_8) 2 0) 5), .int ((upd (upd (upd (upd (upd (upd fS 6 i0) 11 x_5) 12 0) 13 0) 8 r_8) 2 0) 6), .int ((upd (upd (upd (upd (upd (upd fS 6 i0) 11 x_5) 12 0) 13 0) 8 r_8) 2 0) 7), .int ((upd (upd (upd (upd (upd (upd fS 6 i0) 11 x_5) 12 0) 13 0) 8 r_8) 2 0) 8), .int ((upd (upd (upd (upd (upd (upd fS 6 i0) 11 x_5) 12 0) 13 0) 8 r_8) 2 0) 9), .int ((upd (upd (upd (upd (upd (upd fS 6 i0) 11 x_5) 12 0) 13 0) 8 r_8) 2 0) 10), .int ((upd (upd (upd (upd (upd (upd fS 6 i0) 11 x_5) 12 0) 13 0) 8 r_8) 2 0) 11), .int ((upd (upd (upd (upd (upd (upd fS 6 i0) 11 x_5) 12 0) 13 0) 8 r_8) 2 0) 12), .int ((upd (upd (upd (upd (upd (upd fS 6 i0) 11 x_5) 12 0) 13 0) 8 r_8) 2 0) 13)])), (o_So, .inl (tC 0, 64, .inl u1_8))]) [0, 1] rfl
            have hD9 := hD.sub (ws' := [(o_S, .inr (5, [.ref o_So, .ref o_Si, .int ((upd (upd (upd (upd (upd (upd fS 6 i0) 11 x_5) 12 0) 13 0) 8 r_8) 2 0) 2), .int ((upd (upd (upd (upd (upd (upd fS 6 i0) 11 x_5) 12 0) 13 0) 8 r_8) 2 0) 3), .int ((upd (upd (upd (upd (upd (upd fS 6 i0) 11 x_5) 12 0) 13 0) 8 r_8) 2 0) 4), .int ((upd (upd (upd (upd (upd (upd fS 6 i0) 11 x_5) 12 0) 13 0) 8 r_8) 2 0) 5), .int ((upd (upd (upd (upd (upd (upd fS 6 i0) 11 x_5) 12 0) 13 0) 8 r_8) 2 0) 6), .int ((upd (upd (upd (upd (upd (upd fS 6 i0) 11 x_5) 12 0) 13 0) 8 r_8) 2 0) 7), .int ((upd (upd (upd (upd (upd (upd fS 6 i0) 11 x_5) 12 0) 13 0) 8 r_8) 2 0) 8), .int ((upd (upd (upd (upd (upd (upd fS 6 i0) 11 x_5) 12 0) 13 0) 8 r_8) 2 0) 9), .int ((upd (upd (upd (upd (upd (upd fS 6 i0) 11 x_5) 12 0) 13 0) 8 r_8) 2 0) 10), .int ((upd (upd (upd (upd (upd (upd fS 6 i0) 11 x_5) 12 0) 13 0) 8 r_8) 2 0) 11), .int ((upd (upd (upd (upd (upd (upd fS 6 i0) 11 x_5) 12 0) 13 0) 8 r_8) 2 0) 12), .int ((upd (upd (upd (upd (upd (upd fS 6 i0) 11 x_5) 12 0) 13 0) 8 r_8) 2 0) 13)])), (o_So, .inl (tC 0, 64, .inl u1_8))]) [0, 1] (by decide) rfl
            exact W.vret hx hb hr (fun t ht hW => ⟨⟨((upd (upd (upd (upd (upd (upd fS 6 i0) 11 x_5) 12 0) 13 0) 8 r_8) 2 0), u1_8), rfl, (by subst ex_1 er_3 ex_5 ex_7 er_8 eu1_8; rw [FX5_acknowledge]; rw [if_neg c_2]; rw [if_pos c_4]; rw [if_neg c_6]; rw [KX5_acknowledge_85]; rw [if_pos c_9]; rw [if_pos c_10]; try rfl), by rw [ht]; exact hP9, va_K.moved hW.alike hK, hD9⟩, hS.F ht⟩) hS.2.2 dX5_acknowledge_115
      · skip
        have c_6 : (fS 2) = 1 := c_6
        have tc_6 : (fS 2).toInt = (1 : Int) := congrArg Int32.toInt c_6
        refine lv_aload_n hx hb dX5_acknowledge_62 rfl (lv_at hl 1 rfl) ?_
        refine lv_iconst (v := 2) hx hb dX5_acknowledge_63 (by decide) ?_
        refine va_put (D := (dC, dI)) (ci := 5) (v := .int 2) (ty := .int) (C := RX5) (T := TX5) (N := 14) hx hb hts (fun w h => List.mem_cons_of_mem _ (uwX5 w h)) tyX5 tyX5_ok nmX5 hown hK hP hD hS 1 rfl rfl 2 (by decide) (hts _ (List.mem_cons_of_mem _ wd_210)) (fun _ h9 => h9) rfl (by decide +kernel) rfl rfl (Nat.le_of_ble_eq_true rfl) dX5_acknowledge_64 (fun H locs hP hD hS => ?_)
        have hP : va_P (dC, dI) vwCl [(o_So, .inl (tC 0, 64, .inl so)), (o_S, .inr (5, [.ref o_So, .ref o_Si, .int 2, .int (fS 3), .int (fS 4), .int (fS 5), .int i0, .int (fS 7), .int (fS 8), .int (fS 9), .int (fS 10), .int x_5, .int 0, .int 0]))] H := hP
        have hD : va_D A [(o_So, .inl (tC 0, 64, .inl so)), (o_S, .inr (5, [.ref o_So, .ref o_Si, .int 2, .int (fS 3), .int (fS 4), .int (fS 5), .int i0, .int (fS 7), .int (fS 8), .int (fS 9), .int (fS 10), .int x_5, .int 0, .int 0]))] := hD
        have hP9 := hP.sub (ws' := [(o_S, .inr (5, [.ref o_So, .ref o_Si, .int ((upd (upd (upd (upd (upd fS 6 i0) 11 x_5) 12 0) 13 0) 2 2) 2), .int ((upd (upd (upd (upd (upd fS 6 i0) 11 x_5) 12 0) 13 0) 2 2) 3), .int ((upd (upd (upd (upd (upd fS 6 i0) 11 x_5) 12 0) 13 0) 2 2) 4), .int ((upd (upd (upd (upd (upd fS 6 i0) 11 x_5) 12 0) 13 0) 2 2) 5), .int ((upd (upd (upd (upd (upd fS 6 i0) 11 x_5) 12 0) 13 0) 2 2) 6), .int ((upd (upd (upd (upd (upd fS 6 i0) 11 x_5) 12 0) 13 0) 2 2) 7), .int ((upd (upd (upd (upd (upd fS 6 i0) 11 x_5) 12 0) 13 0) 2 2) 8), .int ((upd (upd (upd (upd (upd fS 6 i0) 11 x_5) 12 0) 13 0) 2 2) 9), .int ((upd (upd (upd (upd (upd fS 6 i0) 11 x_5) 12 0) 13 0) 2 2) 10), .int ((upd (upd (upd (upd (upd fS 6 i0) 11 x_5) 12 0) 13 0) 2 2) 11), .int ((upd (upd (upd (upd (upd fS 6 i0) 11 x_5) 12 0) 13 0) 2 2) 12), .int ((upd (upd (upd (upd (upd fS 6 i0) 11 x_5) 12 0) 13 0) 2 2) 13)])), (o_So, .inl (tC 0, 64, .inl so))]) [1, 0] rfl
        have hD9 := hD.sub (ws' := [(o_S, .inr (5, [.ref o_So, .ref o_Si, .int ((upd (upd (upd (upd (upd fS 6 i0) 11 x_5) 12 0) 13 0) 2 2) 2), .int ((upd (upd (upd (upd (upd fS 6 i0) 11 x_5) 12 0) 13 0) 2 2) 3), .int ((upd (upd (upd (upd (upd fS 6 i0) 11 x_5) 12 0) 13 0) 2 2) 4), .int ((upd (upd (upd (upd (upd fS 6 i0) 11 x_5) 12 0) 13 0) 2 2) 5), .int ((upd (upd (upd (upd (upd fS 6 i0) 11 x_5) 12 0) 13 0) 2 2) 6), .int ((upd (upd (upd (upd (upd fS 6 i0) 11 x_5) 12 0) 13 0) 2 2) 7), .int ((upd (upd (upd (upd (upd fS 6 i0) 11 x_5) 12 0) 13 0) 2 2) 8), .int ((upd (upd (upd (upd (upd fS 6 i0) 11 x_5) 12 0) 13 0) 2 2) 9), .int ((upd (upd (upd (upd (upd fS 6 i0) 11 x_5) 12 0) 13 0) 2 2) 10), .int ((upd (upd (upd (upd (upd fS 6 i0) 11 x_5) 12 0) 13 0) 2 2) 11), .int ((upd (upd (upd (upd (upd fS 6 i0) 11 x_5) 12 0) 13 0) 2 2) 12), .int ((upd (upd (upd (upd (upd fS 6 i0) 11 x_5) 12 0) 13 0) 2 2) 13)])), (o_So, .inl (tC 0, 64, .inl so))]) [1, 0] (by decide) rfl
        exact W.vret hx hb hr (fun t ht hW => ⟨⟨((upd (upd (upd (upd (upd fS 6 i0) 11 x_5) 12 0) 13 0) 2 2), so), rfl, (by subst ex_1 er_3 ex_5; rw [FX5_acknowledge]; rw [if_neg c_2]; rw [if_pos c_4]; rw [if_pos c_6]; try rfl), by rw [ht]; exact hP9, va_K.moved hW.alike hK, hD9⟩, hS.F ht⟩) hS.2.2 dX5_acknowledge_67
    · skip
      have c_4 : ¬ (x_1 ≤ r_3) := c_4
      have tc_4 : ¬ x_1.toInt ≤ r_3.toInt := fun q => c_4 (Int32.le_iff_toInt_le.mpr q)
      have hP9 := hP.sub (ws' := [(o_S, .inr (5, [.ref o_So, .ref o_Si, .int (fS 2), .int (fS 3), .int (fS 4), .int (fS 5), .int (fS 6), .int (fS 7), .int (fS 8), .int (fS 9), .int (fS 10), .int (fS 11), .int (fS 12), .int (fS 13)])), (o_So, .inl (tC 0, 64, .inl so))]) [1, 0] rfl
      have hD9 := hD.sub (ws' := [(o_S, .inr (5, [.ref o_So, .ref o_Si, .int (fS 2), .int (fS 3), .int (fS 4), .int (fS 5), .int (fS 6), .int (fS 7), .int (fS 8), .int (fS 9), .int (fS 10), .int (fS 11), .int (fS 12), .int (fS 13)])), (o_So, .inl (tC 0, 64, .inl so))]) [1, 0] (by decide) rfl
      exact W.vret hx hb hr (fun t ht hW => ⟨⟨(fS, so), rfl, (by subst ex_1 er_3; rw [FX5_acknowledge]; rw [if_neg c_2]; rw [if_neg c_4]; try rfl), by rw [ht]; exact hP9, va_K.moved hW.alike hK, hD9⟩, hS.F ht⟩) hS.2.2 dX5_acknowledge_24
set_option maxHeartbeats 4000000 in
set_option maxRecDepth 100000 in
theorem c_X5_takeIn (l : Launch) (dC : Nat → ClassId) (dI : Nat → Nat → Nat) (tC : Nat → ClassId) (o_S o_D o_So o_Si o_Dp : Nat) (sz : Nat) (fS : (Nat → Int32)) (si : (Nat → Int32)) (fD : (Nat → Int32)) (dp : (Nat → Int32)) (h_S : iv_S fS) (h_d0 : 5 ≤ (fD 3).toInt) (h_d1 : (fD 3).toInt ≤ 32) : Met l yX5_takeIn wsX5_takeIn ({ frames := 1, cells := 0, slots := 0, locals := 21 }) (va_Pc [.ref o_S, .ref o_D] (fun U => U.heap.size = sz ∧ va_P (dC, dI) vwCl [(o_S, .inr (5, [.ref o_So, .ref o_Si, .int (fS 2), .int (fS 3), .int (fS 4), .int (fS 5), .int (fS 6), .int (fS 7), .int (fS 8), .int (fS 9), .int (fS 10), .int (fS 11), .int (fS 12), .int (fS 13)])), (o_Si, .inl (tC 0, 16, .inl si)), (o_D, .inr (2, [.ref o_Dp, .int (fD 1), .int (fD 2), .int (fD 3)])), (o_Dp, .inl (tC 0, 32, .inl dp))] U.heap ∧ va_K (dC, dI) vwCl (TY tC) U ∧ NW U ∧ va_D (fun _ => True) [(o_S, .inr (5, [.ref o_So, .ref o_Si, .int (fS 2), .int (fS 3), .int (fS 4), .int (fS 5), .int (fS 6), .int (fS 7), .int (fS 8), .int (fS 9), .int (fS 10), .int (fS 11), .int (fS 12), .int (fS 13)])), (o_Si, .inl (tC 0, 16, .inl si)), (o_D, .inr (2, [.ref o_Dp, .int (fD 1), .int (fD 2), .int (fD 3)])), (o_Dp, .inl (tC 0, 32, .inl dp))])) (va_Qv (fun (u : (Nat → Int32) × (Nat → Int32)) => u = FX5_takeIn fS si fD dp) (fun (u : (Nat → Int32) × (Nat → Int32)) (t : State) => va_P (dC, dI) vwCl [(o_S, .inr (5, [.ref o_So, .ref o_Si, .int (u.1 2), .int (u.1 3), .int (u.1 4), .int (u.1 5), .int (u.1 6), .int (u.1 7), .int (u.1 8), .int (u.1 9), .int (u.1 10), .int (u.1 11), .int (u.1 12), .int (u.1 13)])), (o_Si, .inl (tC 0, 16, .inl u.2)), (o_D, .inr (2, [.ref o_Dp, .int (fD 1), .int (fD 2), .int (fD 3)])), (o_Dp, .inl (tC 0, 32, .inl dp))] t.heap ∧ va_K (dC, dI) vwCl (TY tC) t ∧ va_D (va_A [(o_S, .inr (5, [.ref o_So, .ref o_Si, .int (fS 2), .int (fS 3), .int (fS 4), .int (fS 5), .int (fS 6), .int (fS 7), .int (fS 8), .int (fS 9), .int (fS 10), .int (fS 11), .int (fS 12), .int (fS 13)])), (o_Si, .inl (tC 0, 16, .inl si)), (o_D, .inr (2, [.ref o_Dp, .int (fD 1), .int (fD 2), .int (fD 3)])), (o_Dp, .inl (tC 0, 32, .inl dp))] sz) [(o_S, .inr (5, [.ref o_So, .ref o_Si, .int (u.1 2), .int (u.1 3), .int (u.1 4), .int (u.1 5), .int (u.1 6), .int (u.1 7), .int (u.1 8), .int (u.1 9), .int (u.1 10), .int (u.1 11), .int (u.1 12), .int (u.1 13)])), (o_Si, .inl (tC 0, 16, .inl u.2)), (o_D, .inr (2, [.ref o_Dp, .int (fD 1), .int (fD 2), .int (fD 3)])), (o_Dp, .inl (tC 0, 32, .inl dp))]) (va_A [(o_S, .inr (5, [.ref o_So, .ref o_Si, .int (fS 2), .int (fS 3), .int (fS 4), .int (fS 5), .int (fS 6), .int (fS 7), .int (fS 8), .int (fS 9), .int (fS 10), .int (fS 11), .int (fS 12), .int (fS 13)])), (o_Si, .inl (tC 0, 16, .inl si)), (o_D, .inr (2, [.ref o_Dp, .int (fD 1), .int (fD 2), .int (fD 3)])), (o_Dp, .inl (tC 0, 32, .inl dp))] sz)) 0 0 (va_A [(o_S, .inr (5, [.ref o_So, .ref o_Si, .int (fS 2), .int (fS 3), .int (fS 4), .int (fS 5), .int (fS 6), .int (fS 7), .int (fS 8), .int (fS 9), .int (fS 10), .int (fS 11), .int (fS 12), .int (fS 13)])), (o_Si, .inl (tC 0, 16, .inl si)), (o_D, .inr (2, [.ref o_Dp, .int (fD 1), .int (fD 2), .int (fD 3)])), (o_Dp, .inl (tC 0, 32, .inl dp))] sz) := by
  refine Met.ofW (cc := cX5_takeIn) (maxL := 5) (ret := none) (by decide) rfl ?_
  intro p e s m args below meth c s₁ B hml hv
  obtain ⟨rfl, hsz, hP, hK, hN, hD0⟩ := hv
  have hx := B.exec
  have hb := B.bytes
  have hr := B.returns
  have hts := atoms_spec (ws := wsX5_takeIn) B.pre
  have hown : s.vm.findClass RX5 = some m.cls := findClass_of_methodNamed B.named
  have hlocks := B.notSynchronized
  subst hsz
  have hD := hD0.self (sz := s.heap.size)
  generalize hAe : va_A [(o_S, .inr (5, [.ref o_So, .ref o_Si, .int (fS 2), .int (fS 3), .int (fS 4), .int (fS 5), .int (fS 6), .int (fS 7), .int (fS 8), .int (fS 9), .int (fS 10), .int (fS 11), .int (fS 12), .int (fS 13)])), (o_Si, .inl (tC 0, 16, .inl si)), (o_D, .inr (2, [.ref o_Dp, .int (fD 1), .int (fD 2), .int (fD 3)])), (o_Dp, .inl (tC 0, 32, .inl dp))] s.heap.size = A at hD ⊢
  have hA : ∀ q : Nat, s.heap.size ≤ q → A q := fun q h => by rw [← hAe]; exact Or.inr h
  have hS : va_S A s.heap s.heap [] := va_S.rf
  have hP : va_P (dC, dI) vwCl [(o_S, .inr (5, [.ref o_So, .ref o_Si, .int (fS 2), .int (fS 3), .int (fS 4), .int (fS 5), .int (fS 6), .int (fS 7), .int (fS 8), .int (fS 9), .int (fS 10), .int (fS 11), .int (fS 12), .int (fS 13)])), (o_Si, .inl (tC 0, 16, .inl si)), (o_D, .inr (2, [.ref o_Dp, .int (fD 1), .int (fD 2), .int (fD 3)])), (o_Dp, .inl (tC 0, 32, .inl dp))] s.heap := hP
  have hl := lv_entry ([.ref o_S, .ref o_D]) (n := 5) (Nat.le_of_ble_eq_true rfl)
  rw [lg_entry_eq]
  generalize (lg_sl ([.ref o_S, .ref o_D]) ++ List.replicate (5 - (lg_sl ([.ref o_S, .ref o_D])).length) Slot.unset).toArray = ls at hl ⊢
  have hl : lv_has ls 5 [(0, .ref o_S), (1, .ref o_D)] := hl
  generalize hQ : MQ _ _ _ _ _ _ _ = Q
  obtain ⟨h_a0, h_a1, h_o0, h_o1, h_i0, h_i1⟩ := id h_S
  refine lv_aload_n hx hb dX5_takeIn_0 rfl (lv_at hl 0 rfl) ?_
  refine va_get (D := (dC, dI)) (ci := 5) (v := .int (fS 2)) (C := RX5) (T := TX5) (N := 14) hx hb hts (fun w h => List.mem_cons_of_mem _ (uwX5 w h)) hown hK hP 0 rfl rfl 2 (by decide) (hts _ (List.mem_cons_of_mem _ wd_210)) (fun _ h9 => h9) rfl dX5_takeIn_1 ?_
  refine lv_iconst (v := 2) hx hb dX5_takeIn_4 (by decide) ?_
  refine lv_icmp_ne (tgt := 21) hx hb dX5_takeIn_5 (by decide) (fun c_1 => ?_) (fun c_1 => ?_)
  · skip
    have c_1 : ¬ ((fS 2) = 2) := c_1
    have hP9 := hP.sub (ws' := [(o_S, .inr (5, [.ref o_So, .ref o_Si, .int (fS 2), .int (fS 3), .int (fS 4), .int (fS 5), .int (fS 6), .int (fS 7), .int (fS 8), .int (fS 9), .int (fS 10), .int (fS 11), .int (fS 12), .int (fS 13)])), (o_Si, .inl (tC 0, 16, .inl si)), (o_D, .inr (2, [.ref o_Dp, .int (fD 1), .int (fD 2), .int (fD 3)])), (o_Dp, .inl (tC 0, 32, .inl dp))]) [0, 1, 2, 3] rfl
    have hD9 := hD.sub (ws' := [(o_S, .inr (5, [.ref o_So, .ref o_Si, .int (fS 2), .int (fS 3), .int (fS 4), .int (fS 5), .int (fS 6), .int (fS 7), .int (fS 8), .int (fS 9), .int (fS 10), .int (fS 11), .int (fS 12), .int (fS 13)])), (o_Si, .inl (tC 0, 16, .inl si)), (o_D, .inr (2, [.ref o_Dp, .int (fD 1), .int (fD 2), .int (fD 3)])), (o_Dp, .inl (tC 0, 32, .inl dp))]) [0, 1, 2, 3] (by decide) rfl
    rw [← hQ]
    exact W.vret hx hb hr (fun t ht hW => ⟨⟨(fS, si), rfl, (by rw [FX5_takeIn]; rw [if_neg c_1]; try rfl), by rw [ht]; exact hP9, va_K.moved hW.alike hK, hD9⟩, hS.F ht⟩) hS.2.2 dX5_takeIn_21
  · skip
    have c_1 : (fS 2) = 2 := c_1
    have tc_1 : (fS 2).toInt = (2 : Int) := congrArg Int32.toInt c_1
    refine lv_aload_n hx hb dX5_takeIn_8 rfl (lv_at hl 1 rfl) ?_
    refine va_get (D := (dC, dI)) (ci := 2) (v := .ref o_Dp) (C := RX2) (T := TX2) (N := 4) hx hb hts (fun w h => List.mem_cons_of_mem _ (uwX2 w h)) hown hK hP 2 rfl rfl 0 (by decide) (hts _ (List.mem_cons_of_mem _ wd_99)) (fun _ h9 => h9) rfl dX5_takeIn_9 ?_
    refine lv_iconst (v := 1) hx hb dX5_takeIn_12 (by decide) ?_
    refine va_iald hx hb hK hP 3 0 rfl rfl (vi_c (by decide +kernel)) dX5_takeIn_13 ?_
    refine lv_aload_n hx hb dX5_takeIn_14 rfl (lv_at hl 0 rfl) ?_
    refine va_get (D := (dC, dI)) (ci := 5) (v := .int (fS 5)) (C := RX5) (T := TX5) (N := 14) hx hb hts (fun w h => List.mem_cons_of_mem _ (uwX5 w h)) hown hK hP 0 rfl rfl 5 (by decide) (hts _ (List.mem_cons_of_mem _ wd_216)) (fun _ h9 => h9) rfl dX5_takeIn_15 ?_
    refine lv_icmp_eq (tgt := 22) hx hb dX5_takeIn_18 (by decide) (fun c_2 => ?_) (fun c_2 => ?_)
    · skip
      have c_2 : (dp 1) = (fS 5) := c_2
      have tc_2 : (dp 1).toInt = (fS 5).toInt := congrArg Int32.toInt c_2
      refine lv_aload_n hx hb dX5_takeIn_22 rfl (lv_at hl 1 rfl) ?_
      refine va_get (D := (dC, dI)) (ci := 2) (v := .int (fD 3)) (C := RX2) (T := TX2) (N := 4) hx hb hts (fun w h => List.mem_cons_of_mem _ (uwX2 w h)) hown hK hP 2 rfl rfl 3 (by decide) (hts _ (List.mem_cons_of_mem _ wd_109)) (fun _ h9 => h9) rfl dX5_takeIn_23 ?_
      refine lv_iconst (v := 5) hx hb dX5_takeIn_26 (by decide) ?_
      refine lv_isub hx hb dX5_takeIn_27 ?_
      refine lv_topi (fun x_3 (ex_3 : x_3 = ((fD 3) - (5 : Int32))) => ?_)
      refine lv_istore_n (lv' := [(2, .int x_3), (0, .ref o_S), (1, .ref o_D)]) hx hb dX5_takeIn_28 rfl hl (by decide) rfl (fun ls hl => ?_)
      have h_sz : (x_3).toInt = (fD 3).toInt - 5 := by rw [ex_3]; exact tI_sc 5 rfl (by omega) (by omega)
      refine lv_iload_n hx hb dX5_takeIn_29 rfl (lv_at hl 0 rfl) ?_
      refine lv_bipush (v := 16) hx hb dX5_takeIn_30 (by decide) ?_
      refine lv_aload_n hx hb dX5_takeIn_32 rfl (lv_at hl 1 rfl) ?_
      refine va_get (D := (dC, dI)) (ci := 5) (v := .int (fS 9)) (C := RX5) (T := TX5) (N := 14) hx hb hts (fun w h => List.mem_cons_of_mem _ (uwX5 w h)) hown hK hP 0 rfl rfl 9 (by decide) (hts _ (List.mem_cons_of_mem _ wd_223)) (fun _ h9 => h9) rfl dX5_takeIn_33 ?_
      refine lv_isub hx hb dX5_takeIn_36 ?_
      refine va_mmin hx hb (hml.trans hl.1.symm) hown (hts _ (List.mem_cons_of_mem _ wd_481)) (hts _ (List.mem_cons_of_mem _ wd_482)) (hts _ (List.mem_cons_of_mem _ wd_12)) (hts _ (List.mem_cons_of_mem _ wd_483)) (Nat.le_of_ble_eq_true rfl) (Nat.le_of_ble_eq_true rfl) (Nat.zero_le _) (Nat.zero_le _) dX5_takeIn_37 ?_
      refine lv_topi (fun x_4 (ex_4 : x_4 = (mn x_3 ((16 : Int32) - (fS 9)))) => ?_)
      refine lv_istore_n (lv' := [(3, .int x_4), (2, .int x_3), (0, .ref o_S), (1, .ref o_D)]) hx hb dX5_takeIn_40 rfl hl (by decide) rfl (fun ls hl => ?_)
      have h_tk : (x_4).toInt = min (x_3).toInt (16 - (fS 9).toInt) := by rw [ex_4, mn_i, tI_cs 16 rfl (by omega) (by omega)]
      refine lv_iconst (v := 0) hx hb dX5_takeIn_41 (by decide) ?_
      refine lv_istore (lv' := [(4, .int 0), (3, .int x_4), (2, .int x_3), (0, .ref o_S), (1, .ref o_D)]) hx hb dX5_takeIn_42 hl (by decide) rfl (fun ls hl => ?_)
      have loop : ∀ (n : Nat) (y4 : Int32) (z_si : (Nat → Int32)) (H : Heap) (locs : List Loc) (ls : Array Slot), (0 ≤ y4.toInt) → ((x_4.toInt - y4.toInt).toNat) < n → LX5_takeIn_44 fS fD dp x_3 x_4 n y4 z_si = FX5_takeIn fS si fD dp → va_P (dC, dI) vwCl [(o_S, .inr (5, [.ref o_So, .ref o_Si, .int (fS 2), .int (fS 3), .int (fS 4), .int (fS 5), .int (fS 6), .int (fS 7), .int (fS 8), .int (fS 9), .int (fS 10), .int (fS 11), .int (fS 12), .int (fS 13)])), (o_Si, .inl (tC 0, 16, .inl z_si)), (o_D, .inr (2, [.ref o_Dp, .int (fD 1), .int (fD 2), .int (fD 3)])), (o_Dp, .inl (tC 0, 32, .inl dp))] H → va_D A [(o_S, .inr (5, [.ref o_So, .ref o_Si, .int (fS 2), .int (fS 3), .int (fS 4), .int (fS 5), .int (fS 6), .int (fS 7), .int (fS 8), .int (fS 9), .int (fS 10), .int (fS 11), .int (fS 12), .int (fS 13)])), (o_Si, .inl (tC 0, 16, .inl z_si)), (o_D, .inr (2, [.ref o_Dp, .int (fD 1), .int (fD 2), .int (fD 3)])), (o_Dp, .inl (tC 0, 32, .inl dp))] → va_S A s.heap H locs → lv_has ls 5 [(4, .int y4), (3, .int x_4), (2, .int x_3), (0, .ref o_S), (1, .ref o_D)] → W p l e (headSpec wsX5_takeIn ({ frames := 1, cells := 0, slots := 0, locals := 21 })).room s m ([.ref o_S, .ref o_D] : List Value).toArray below meth c H locs 0 0 Q (F0 m 44 ls []) := by
        intro n; induction n with
        | zero => intro y4 z_si H locs ls h_i hm hL; exact absurd hm (Nat.not_lt_zero _)
        | succ n ih =>
          intro y4 z_si H locs ls h_i hm hL hP hD hS hl
          refine lv_iload hx hb dX5_takeIn_44 (lv_at hl 0 rfl) ?_
          refine lv_iload_n hx hb dX5_takeIn_46 rfl (lv_at hl 1 rfl) ?_
          refine lv_icmp_ge (tgt := 77) hx hb dX5_takeIn_47 (by decide) (fun c_5 => ?_) (fun c_5 => ?_)
          · skip
            have c_5 : x_4 ≤ y4 := c_5
            have tc_5 : x_4.toInt ≤ y4.toInt := Int32.le_iff_toInt_le.mp c_5
            refine lv_aload_n hx hb dX5_takeIn_77 rfl (lv_at hl 3 rfl) ?_
            refine lv_dup hx hb dX5_takeIn_78 rfl ?_
            refine va_get (D := (dC, dI)) (ci := 5) (v := .int (fS 9)) (C := RX5) (T := TX5) (N := 14) hx hb hts (fun w h => List.mem_cons_of_mem _ (uwX5 w h)) hown hK hP 0 rfl rfl 9 (by decide) (hts _ (List.mem_cons_of_mem _ wd_223)) (fun _ h9 => h9) rfl dX5_takeIn_79 ?_
            refine lv_iload_n hx hb dX5_takeIn_82 rfl (lv_at hl 1 rfl) ?_
            refine lv_iadd hx hb dX5_takeIn_83 ?_
            refine lv_topi (fun f_6 (ef_6 : f_6 = ((fS 9) + x_4)) => ?_)
            refine va_put (D := (dC, dI)) (ci := 5) (v := .int f_6) (ty := .int) (C := RX5) (T := TX5) (N := 14) hx hb hts (fun w h => List.mem_cons_of_mem _ (uwX5 w h)) tyX5 tyX5_ok nmX5 hown hK hP hD hS 0 rfl rfl 9 (by decide) (hts _ (List.mem_cons_of_mem _ wd_223)) (fun _ h9 => h9) rfl (by decide +kernel) rfl rfl (Nat.le_of_ble_eq_true rfl) dX5_takeIn_84 (fun H locs hP hD hS => ?_)
            have hP : va_P (dC, dI) vwCl [(o_S, .inr (5, [.ref o_So, .ref o_Si, .int (fS 2), .int (fS 3), .int (fS 4), .int (fS 5), .int (fS 6), .int (fS 7), .int (fS 8), .int f_6, .int (fS 10), .int (fS 11), .int (fS 12), .int (fS 13)])), (o_Si, .inl (tC 0, 16, .inl z_si)), (o_D, .inr (2, [.ref o_Dp, .int (fD 1), .int (fD 2), .int (fD 3)])), (o_Dp, .inl (tC 0, 32, .inl dp))] H := hP
            have hD : va_D A [(o_S, .inr (5, [.ref o_So, .ref o_Si, .int (fS 2), .int (fS 3), .int (fS 4), .int (fS 5), .int (fS 6), .int (fS 7), .int (fS 8), .int f_6, .int (fS 10), .int (fS 11), .int (fS 12), .int (fS 13)])), (o_Si, .inl (tC 0, 16, .inl z_si)), (o_D, .inr (2, [.ref o_Dp, .int (fD 1), .int (fD 2), .int (fD 3)])), (o_Dp, .inl (tC 0, 32, .inl dp))] := hD
            refine lv_aload_n hx hb dX5_takeIn_87 rfl (lv_at hl 3 rfl) ?_
            refine lv_aload_n hx hb dX5_takeIn_88 rfl (lv_at hl 3 rfl) ?_
            refine va_get (D := (dC, dI)) (ci := 5) (v := .int (fS 5)) (C := RX5) (T := TX5) (N := 14) hx hb hts (fun w h => List.mem_cons_of_mem _ (uwX5 w h)) hown hK hP 0 rfl rfl 5 (by decide) (hts _ (List.mem_cons_of_mem _ wd_216)) (fun _ h9 => h9) rfl dX5_takeIn_89 ?_
            refine lv_iload_n hx hb dX5_takeIn_92 rfl (lv_at hl 1 rfl) ?_
            refine lv_iadd hx hb dX5_takeIn_93 ?_
            refine lv_sipush (v := 255) hx hb dX5_takeIn_94 (by decide) ?_
            refine lv_iand hx hb dX5_takeIn_97 ?_
            refine lv_topi (fun f_7 (ef_7 : f_7 = (((fS 5) + x_4) &&& (255 : Int32))) => ?_)
            refine va_put (D := (dC, dI)) (ci := 5) (v := .int f_7) (ty := .int) (C := RX5) (T := TX5) (N := 14) hx hb hts (fun w h => List.mem_cons_of_mem _ (uwX5 w h)) tyX5 tyX5_ok nmX5 hown hK hP hD hS 0 rfl rfl 5 (by decide) (hts _ (List.mem_cons_of_mem _ wd_216)) (fun _ h9 => h9) rfl (by decide +kernel) rfl rfl (Nat.le_of_ble_eq_true rfl) dX5_takeIn_98 (fun H locs hP hD hS => ?_)
            have hP : va_P (dC, dI) vwCl [(o_S, .inr (5, [.ref o_So, .ref o_Si, .int (fS 2), .int (fS 3), .int (fS 4), .int f_7, .int (fS 6), .int (fS 7), .int (fS 8), .int f_6, .int (fS 10), .int (fS 11), .int (fS 12), .int (fS 13)])), (o_Si, .inl (tC 0, 16, .inl z_si)), (o_D, .inr (2, [.ref o_Dp, .int (fD 1), .int (fD 2), .int (fD 3)])), (o_Dp, .inl (tC 0, 32, .inl dp))] H := hP
            have hD : va_D A [(o_S, .inr (5, [.ref o_So, .ref o_Si, .int (fS 2), .int (fS 3), .int (fS 4), .int f_7, .int (fS 6), .int (fS 7), .int (fS 8), .int f_6, .int (fS 10), .int (fS 11), .int (fS 12), .int (fS 13)])), (o_Si, .inl (tC 0, 16, .inl z_si)), (o_D, .inr (2, [.ref o_Dp, .int (fD 1), .int (fD 2), .int (fD 3)])), (o_Dp, .inl (tC 0, 32, .inl dp))] := hD
            refine lv_iload_n hx hb dX5_takeIn_101 rfl (lv_at hl 1 rfl) ?_
            refine lv_iload_n hx hb dX5_takeIn_102 rfl (lv_at hl 2 rfl) ?_
            refine lv_icmp_ne (tgt := 133) hx hb dX5_takeIn_103 (by decide) (fun c_8 => ?_) (fun c_8 => ?_)
            · skip
              have c_8 : ¬ (x_4 = x_3) := c_8
              have hP9 := hP.sub (ws' := [(o_S, .inr (5, [.ref o_So, .ref o_Si, .int ((upd (upd fS 9 f_6) 5 f_7) 2), .int ((upd (upd fS 9 f_6) 5 f_7) 3), .int ((upd (upd fS 9 f_6) 5 f_7) 4), .int ((upd (upd fS 9 f_6) 5 f_7) 5), .int ((upd (upd fS 9 f_6) 5 f_7) 6), .int ((upd (upd fS 9 f_6) 5 f_7) 7), .int ((upd (upd fS 9 f_6) 5 f_7) 8), .int ((upd (upd fS 9 f_6) 5 f_7) 9), .int ((upd (upd fS 9 f_6) 5 f_7) 10), .int ((upd (upd fS 9 f_6) 5 f_7) 11), .int ((upd (upd fS 9 f_6) 5 f_7) 12), .int ((upd (upd fS 9 f_6) 5 f_7) 13)])), (o_Si, .inl (tC 0, 16, .inl z_si)), (o_D, .inr (2, [.ref o_Dp, .int (fD 1), .int (fD 2), .int (fD 3)])), (o_Dp, .inl (tC 0, 32, .inl dp))]) [0, 1, 2, 3] rfl
              have hD9 := hD.sub (ws' := [(o_S, .inr (5, [.ref o_So, .ref o_Si, .int ((upd (upd fS 9 f_6) 5 f_7) 2), .int ((upd (upd fS 9 f_6) 5 f_7) 3), .int ((upd (upd fS 9 f_6) 5 f_7) 4), .int ((upd (upd fS 9 f_6) 5 f_7) 5), .int ((upd (upd fS 9 f_6) 5 f_7) 6), .int ((upd (upd fS 9 f_6) 5 f_7) 7), .int ((upd (upd fS 9 f_6) 5 f_7) 8), .int ((upd (upd fS 9 f_6) 5 f_7) 9), .int ((upd (upd fS 9 f_6) 5 f_7) 10), .int ((upd (upd fS 9 f_6) 5 f_7) 11), .int ((upd (upd fS 9 f_6) 5 f_7) 12), .int ((upd (upd fS 9 f_6) 5 f_7) 13)])), (o_Si, .inl (tC 0, 16, .inl z_si)), (o_D, .inr (2, [.ref o_Dp, .int (fD 1), .int (fD 2), .int (fD 3)])), (o_Dp, .inl (tC 0, 32, .inl dp))]) [0, 1, 2, 3] (by decide) rfl
              rw [← hQ]
              exact W.vret hx hb hr (fun t ht hW => ⟨⟨((upd (upd fS 9 f_6) 5 f_7), z_si), rfl, (by subst ex_3 ex_4 ef_6 ef_7; rw [← hL]; rw [LX5_takeIn_44]; rw [if_pos c_5]; rw [if_neg c_8]; try rfl), by rw [ht]; exact hP9, va_K.moved hW.alike hK, hD9⟩, hS.F ht⟩) hS.2.2 dX5_takeIn_133
            · skip
              have c_8 : x_4 = x_3 := c_8
              have tc_8 : x_4.toInt = x_3.toInt := congrArg Int32.toInt c_8
              refine lv_aload_n hx hb dX5_takeIn_106 rfl (lv_at hl 4 rfl) ?_
              refine lv_iconst (v := 1) hx hb dX5_takeIn_107 (by decide) ?_
              have hPc := hP.sub (ws' := [(o_D, .inr (2, [.ref o_Dp, .int (fD 1), .int (fD 2), .int (fD 3)])), (o_Dp, .inl (tC 0, 32, .inl dp))]) [2, 3] rfl
              have hDc := hD.sub (ws' := [(o_D, .inr (2, [.ref o_Dp, .int (fD 1), .int (fD 2), .int (fD 3)])), (o_Dp, .inl (tC 0, 32, .inl dp))]) [2, 3] (by decide) rfl
              have hFc := va_free (wc := [(o_D, .inr (2, [.ref o_Dp, .int (fD 1), .int (fD 2), .int (fD 3)])), (o_Dp, .inl (tC 0, 32, .inl dp))]) hD hS hA [2, 3] rfl
              refine va_calli (va_runV (As := [.int 1]) (rest := []) ⟨hx, hb, hml, hown, hts⟩ (c_X2_hasFlag l dC dI tC o_D o_Dp H.size fD dp 1) (cwV 1 hts (gV wd_491 wd_444 wd_445 wd_5 wd_446) rfl rfl rfl dsc_X2_hasFlag ⟨Nat.le_of_ble_eq_true rfl, Nat.le_of_ble_eq_true rfl⟩) ⟨fun a U g mk q => by obtain ⟨q0, q1, qP, qK, qN, qD⟩ := q; exact ⟨q0, q1, qP, va_K.moved (u := U) (U := U.calling g mk a) (Vm.Alike.refl U.vm) qK, NW.same (u := U) (U := U.calling g mk a) rfl qN, qD⟩, va_recv hK hPc (ci := 2) (q0 := 0) rfl rfl, fun U hU hW => ⟨rfl, by rw [hU], by rw [hU]; exact hPc, va_K.moved hW.alike hK, NW.warm hW hN, hDc.weaken (fun _ _ _ _ => trivial)⟩⟩ rfl rfl hl.1 rfl (lv_room (Nat.le_of_ble_eq_true rfl)) dX5_takeIn_108 ⟨Nat.le_of_ble_eq_true rfl, Nat.le_of_ble_eq_true rfl⟩) hS (fun q _ h => hFc q h) hFc (fun r_9 u t H1 locs ht hvm hw hB hz1 hk1 hS => ?_)
              obtain ⟨hP1, hK1, hD1⟩ := hB
              rw [ht] at hP1
              obtain ⟨hP, hD⟩ := va_join (wr := [(o_S, .inr (5, [.ref o_So, .ref o_Si, .int (fS 2), .int (fS 3), .int (fS 4), .int f_7, .int (fS 6), .int (fS 7), .int (fS 8), .int f_6, .int (fS 10), .int (fS 11), .int (fS 12), .int (fS 13)])), (o_Si, .inl (tC 0, 16, .inl z_si))]) (w1 := [(o_D, .inr (2, [.ref o_Dp, .int (fD 1), .int (fD 2), .int (fD 3)])), (o_Dp, .inl (tC 0, 32, .inl dp))]) hP hD [2, 3] [0, 1] rfl rfl (by decide) (by decide) hk1 hFc hP1 hD1
              generalize H1 = H at hP hS ⊢
              have hP : va_P (dC, dI) vwCl [(o_S, .inr (5, [.ref o_So, .ref o_Si, .int (fS 2), .int (fS 3), .int (fS 4), .int f_7, .int (fS 6), .int (fS 7), .int (fS 8), .int f_6, .int (fS 10), .int (fS 11), .int (fS 12), .int (fS 13)])), (o_Si, .inl (tC 0, 16, .inl z_si)), (o_D, .inr (2, [.ref o_Dp, .int (fD 1), .int (fD 2), .int (fD 3)])), (o_Dp, .inl (tC 0, 32, .inl dp))] H := hP
              have hD : va_D A [(o_S, .inr (5, [.ref o_So, .ref o_Si, .int (fS 2), .int (fS 3), .int (fS 4), .int f_7, .int (fS 6), .int (fS 7), .int (fS 8), .int f_6, .int (fS 10), .int (fS 11), .int (fS 12), .int (fS 13)])), (o_Si, .inl (tC 0, 16, .inl z_si)), (o_D, .inr (2, [.ref o_Dp, .int (fD 1), .int (fD 2), .int (fD 3)])), (o_Dp, .inl (tC 0, 32, .inl dp))] := hD
              have er_9 : r_9 = (FX2_hasFlag fD dp 1) := hw
              refine lv_if_eq (tgt := 133) hx hb dX5_takeIn_111 (by decide) (fun c_10 => ?_) (fun c_10 => ?_)
              · skip
                have c_10 : r_9 = 0 := c_10
                have tc_10 : r_9.toInt = (0 : Int) := congrArg Int32.toInt c_10
                have hP9 := hP.sub (ws' := [(o_S, .inr (5, [.ref o_So, .ref o_Si, .int ((upd (upd fS 9 f_6) 5 f_7) 2), .int ((upd (upd fS 9 f_6) 5 f_7) 3), .int ((upd (upd fS 9 f_6) 5 f_7) 4), .int ((upd (upd fS 9 f_6) 5 f_7) 5), .int ((upd (upd fS 9 f_6) 5 f_7) 6), .int ((upd (upd fS 9 f_6) 5 f_7) 7), .int ((upd (upd fS 9 f_6) 5 f_7) 8), .int ((upd (upd fS 9 f_6) 5 f_7) 9), .int ((upd (upd fS 9 f_6) 5 f_7) 10), .int ((upd (upd fS 9 f_6) 5 f_7) 11), .int ((upd (upd fS 9 f_6) 5 f_7) 12), .int ((upd (upd fS 9 f_6) 5 f_7) 13)])), (o_Si, .inl (tC 0, 16, .inl z_si)), (o_D, .inr (2, [.ref o_Dp, .int (fD 1), .int (fD 2), .int (fD 3)])), (o_Dp, .inl (tC 0, 32, .inl dp))]) [0, 1, 2, 3] rfl
                have hD9 := hD.sub (ws' := [(o_S, .inr (5, [.ref o_So, .ref o_Si, .int ((upd (upd fS 9 f_6) 5 f_7) 2), .int ((upd (upd fS 9 f_6) 5 f_7) 3), .int ((upd (upd fS 9 f_6) 5 f_7) 4), .int ((upd (upd fS 9 f_6) 5 f_7) 5), .int ((upd (upd fS 9 f_6) 5 f_7) 6), .int ((upd (upd fS 9 f_6) 5 f_7) 7), .int ((upd (upd fS 9 f_6) 5 f_7) 8), .int ((upd (upd fS 9 f_6) 5 f_7) 9), .int ((upd (upd fS 9 f_6) 5 f_7) 10), .int ((upd (upd fS 9 f_6) 5 f_7) 11), .int ((upd (upd fS 9 f_6) 5 f_7) 12), .int ((upd (upd fS 9 f_6) 5 f_7) 13)])), (o_Si, .inl (tC 0, 16, .inl z_si)), (o_D, .inr (2, [.ref o_Dp, .int (fD 1), .int (fD 2), .int (fD 3)])), (o_Dp, .inl (tC 0, 32, .inl dp))]) [0, 1, 2, 3] (by decide) rfl
                rw [← hQ]
                exact W.vret hx hb hr (fun t ht hW => ⟨⟨((upd (upd fS 9 f_6) 5 f_7), z_si), rfl, (by subst ex_3 ex_4 ef_6 ef_7 er_9; rw [← hL]; rw [LX5_takeIn_44]; rw [if_pos c_5]; rw [if_pos c_8]; rw [if_pos c_10]; try rfl), by rw [ht]; exact hP9, va_K.moved hW.alike hK, hD9⟩, hS.F ht⟩) hS.2.2 dX5_takeIn_133
              · skip
                have c_10 : ¬ (r_9 = 0) := c_10
                refine lv_aload_n hx hb dX5_takeIn_114 rfl (lv_at hl 3 rfl) ?_
                refine lv_aload_n hx hb dX5_takeIn_115 rfl (lv_at hl 3 rfl) ?_
                refine va_get (D := (dC, dI)) (ci := 5) (v := .int f_7) (C := RX5) (T := TX5) (N := 14) hx hb hts (fun w h => List.mem_cons_of_mem _ (uwX5 w h)) hown hK hP 0 rfl rfl 5 (by decide) (hts _ (List.mem_cons_of_mem _ wd_216)) (fun _ h9 => h9) rfl dX5_takeIn_116 ?_
                refine lv_iconst (v := 1) hx hb dX5_takeIn_119 (by decide) ?_
                refine lv_iadd hx hb dX5_takeIn_120 ?_
                refine lv_sipush (v := 255) hx hb dX5_takeIn_121 (by decide) ?_
                refine lv_iand hx hb dX5_takeIn_124 ?_
                refine lv_topi (fun f_11 (ef_11 : f_11 = ((f_7 + (1 : Int32)) &&& (255 : Int32))) => ?_)
                refine va_put (D := (dC, dI)) (ci := 5) (v := .int f_11) (ty := .int) (C := RX5) (T := TX5) (N := 14) hx hb hts (fun w h => List.mem_cons_of_mem _ (uwX5 w h)) tyX5 tyX5_ok nmX5 hown hK hP hD hS 0 rfl rfl 5 (by decide) (hts _ (List.mem_cons_of_mem _ wd_216)) (fun _ h9 => h9) rfl (by decide +kernel) rfl rfl (Nat.le_of_ble_eq_true rfl) dX5_takeIn_125 (fun H locs hP hD hS => ?_)
                have hP : va_P (dC, dI) vwCl [(o_S, .inr (5, [.ref o_So, .ref o_Si, .int (fS 2), .int (fS 3), .int (fS 4), .int f_11, .int (fS 6), .int (fS 7), .int (fS 8), .int f_6, .int (fS 10), .int (fS 11), .int (fS 12), .int (fS 13)])), (o_Si, .inl (tC 0, 16, .inl z_si)), (o_D, .inr (2, [.ref o_Dp, .int (fD 1), .int (fD 2), .int (fD 3)])), (o_Dp, .inl (tC 0, 32, .inl dp))] H := hP
                have hD : va_D A [(o_S, .inr (5, [.ref o_So, .ref o_Si, .int (fS 2), .int (fS 3), .int (fS 4), .int f_11, .int (fS 6), .int (fS 7), .int (fS 8), .int f_6, .int (fS 10), .int (fS 11), .int (fS 12), .int (fS 13)])), (o_Si, .inl (tC 0, 16, .inl z_si)), (o_D, .inr (2, [.ref o_Dp, .int (fD 1), .int (fD 2), .int (fD 3)])), (o_Dp, .inl (tC 0, 32, .inl dp))] := hD
                refine lv_aload_n hx hb dX5_takeIn_128 rfl (lv_at hl 3 rfl) ?_
                refine lv_iconst (v := 3) hx hb dX5_takeIn_129 (by decide) ?_
                refine va_put (D := (dC, dI)) (ci := 5) (v := .int 3) (ty := .int) (C := RX5) (T := TX5) (N := 14) hx hb hts (fun w h => List.mem_cons_of_mem _ (uwX5 w h)) tyX5 tyX5_ok nmX5 hown hK hP hD hS 0 rfl rfl 2 (by decide) (hts _ (List.mem_cons_of_mem _ wd_210)) (fun _ h9 => h9) rfl (by decide +kernel) rfl rfl (Nat.le_of_ble_eq_true rfl) dX5_takeIn_130 (fun H locs hP hD hS => ?_)
                have hP : va_P (dC, dI) vwCl [(o_S, .inr (5, [.ref o_So, .ref o_Si, .int 3, .int (fS 3), .int (fS 4), .int f_11, .int (fS 6), .int (fS 7), .int (fS 8), .int f_6, .int (fS 10), .int (fS 11), .int (fS 12), .int (fS 13)])), (o_Si, .inl (tC 0, 16, .inl z_si)), (o_D, .inr (2, [.ref o_Dp, .int (fD 1), .int (fD 2), .int (fD 3)])), (o_Dp, .inl (tC 0, 32, .inl dp))] H := hP
                have hD : va_D A [(o_S, .inr (5, [.ref o_So, .ref o_Si, .int 3, .int (fS 3), .int (fS 4), .int f_11, .int (fS 6), .int (fS 7), .int (fS 8), .int f_6, .int (fS 10), .int (fS 11), .int (fS 12), .int (fS 13)])), (o_Si, .inl (tC 0, 16, .inl z_si)), (o_D, .inr (2, [.ref o_Dp, .int (fD 1), .int (fD 2), .int (fD 3)])), (o_Dp, .inl (tC 0, 32, .inl dp))] := hD
                have hP9 := hP.sub (ws' := [(o_S, .inr (5, [.ref o_So, .ref o_Si, .int ((upd (upd (upd (upd fS 9 f_6) 5 f_7) 5 f_11) 2 3) 2), .int ((upd (upd (upd (upd fS 9 f_6) 5 f_7) 5 f_11) 2 3) 3), .int ((upd (upd (upd (upd fS 9 f_6) 5 f_7) 5 f_11) 2 3) 4), .int ((upd (upd (upd (upd fS 9 f_6) 5 f_7) 5 f_11) 2 3) 5), .int ((upd (upd (upd (upd fS 9 f_6) 5 f_7) 5 f_11) 2 3) 6), .int ((upd (upd (upd (upd fS 9 f_6) 5 f_7) 5 f_11) 2 3) 7), .int ((upd (upd (upd (upd fS 9 f_6) 5 f_7) 5 f_11) 2 3) 8), .int ((upd (upd (upd (upd fS 9 f_6) 5 f_7) 5 f_11) 2 3) 9), .int ((upd (upd (upd (upd fS 9 f_6) 5 f_7) 5 f_11) 2 3) 10), .int ((upd (upd (upd (upd fS 9 f_6) 5 f_7) 5 f_11) 2 3) 11), .int ((upd (upd (upd (upd fS 9 f_6) 5 f_7) 5 f_11) 2 3) 12), .int ((upd (upd (upd (upd fS 9 f_6) 5 f_7) 5 f_11) 2 3) 13)])), (o_Si, .inl (tC 0, 16, .inl z_si)), (o_D, .inr (2, [.ref o_Dp, .int (fD 1), .int (fD 2), .int (fD 3)])), (o_Dp, .inl (tC 0, 32, .inl dp))]) [0, 1, 2, 3] rfl
                have hD9 := hD.sub (ws' := [(o_S, .inr (5, [.ref o_So, .ref o_Si, .int ((upd (upd (upd (upd fS 9 f_6) 5 f_7) 5 f_11) 2 3) 2), .int ((upd (upd (upd (upd fS 9 f_6) 5 f_7) 5 f_11) 2 3) 3), .int ((upd (upd (upd (upd fS 9 f_6) 5 f_7) 5 f_11) 2 3) 4), .int ((upd (upd (upd (upd fS 9 f_6) 5 f_7) 5 f_11) 2 3) 5), .int ((upd (upd (upd (upd fS 9 f_6) 5 f_7) 5 f_11) 2 3) 6), .int ((upd (upd (upd (upd fS 9 f_6) 5 f_7) 5 f_11) 2 3) 7), .int ((upd (upd (upd (upd fS 9 f_6) 5 f_7) 5 f_11) 2 3) 8), .int ((upd (upd (upd (upd fS 9 f_6) 5 f_7) 5 f_11) 2 3) 9), .int ((upd (upd (upd (upd fS 9 f_6) 5 f_7) 5 f_11) 2 3) 10), .int ((upd (upd (upd (upd fS 9 f_6) 5 f_7) 5 f_11) 2 3) 11), .int ((upd (upd (upd (upd fS 9 f_6) 5 f_7) 5 f_11) 2 3) 12), .int ((upd (upd (upd (upd fS 9 f_6) 5 f_7) 5 f_11) 2 3) 13)])), (o_Si, .inl (tC 0, 16, .inl z_si)), (o_D, .inr (2, [.ref o_Dp, .int (fD 1), .int (fD 2), .int (fD 3)])), (o_Dp, .inl (tC 0, 32, .inl dp))]) [0, 1, 2, 3] (by decide) rfl
                rw [← hQ]
                exact W.vret hx hb hr (fun t ht hW => ⟨⟨((upd (upd (upd (upd fS 9 f_6) 5 f_7) 5 f_11) 2 3), z_si), rfl, (by subst ex_3 ex_4 ef_6 ef_7 er_9 ef_11; rw [← hL]; rw [LX5_takeIn_44]; rw [if_pos c_5]; rw [if_pos c_8]; rw [if_neg c_10]; try rfl), by rw [ht]; exact hP9, va_K.moved hW.alike hK, hD9⟩, hS.F ht⟩) hS.2.2 dX5_takeIn_133
          · skip
            have c_5 : ¬ (x_4 ≤ y4) := c_5
            have tc_5 : ¬ x_4.toInt ≤ y4.toInt := fun q => c_5 (Int32.le_iff_toInt_le.mpr q)
            refine lv_aload_n hx hb dX5_takeIn_50 rfl (lv_at hl 3 rfl) ?_
            refine va_get (D := (dC, dI)) (ci := 5) (v := .ref o_Si) (C := RX5) (T := TX5) (N := 14) hx hb hts (fun w h => List.mem_cons_of_mem _ (uwX5 w h)) hown hK hP 0 rfl rfl 1 (by decide) (hts _ (List.mem_cons_of_mem _ wd_208)) (fun _ h9 => h9) rfl dX5_takeIn_51 ?_
            refine lv_aload_n hx hb dX5_takeIn_54 rfl (lv_at hl 3 rfl) ?_
            refine va_get (D := (dC, dI)) (ci := 5) (v := .int (fS 9)) (C := RX5) (T := TX5) (N := 14) hx hb hts (fun w h => List.mem_cons_of_mem _ (uwX5 w h)) hown hK hP 0 rfl rfl 9 (by decide) (hts _ (List.mem_cons_of_mem _ wd_223)) (fun _ h9 => h9) rfl dX5_takeIn_55 ?_
            refine lv_iload hx hb dX5_takeIn_58 (lv_at hl 0 rfl) ?_
            refine lv_iadd hx hb dX5_takeIn_60 ?_
            refine lv_aload_n hx hb dX5_takeIn_61 rfl (lv_at hl 4 rfl) ?_
            refine va_get (D := (dC, dI)) (ci := 2) (v := .ref o_Dp) (C := RX2) (T := TX2) (N := 4) hx hb hts (fun w h => List.mem_cons_of_mem _ (uwX2 w h)) hown hK hP 2 rfl rfl 0 (by decide) (hts _ (List.mem_cons_of_mem _ wd_99)) (fun _ h9 => h9) rfl dX5_takeIn_62 ?_
            refine lv_iconst (v := 5) hx hb dX5_takeIn_65 (by decide) ?_
            refine lv_iload hx hb dX5_takeIn_66 (lv_at hl 0 rfl) ?_
            refine lv_iadd hx hb dX5_takeIn_68 ?_
            refine va_iald hx hb hK hP 3 0 rfl rfl (vi_addl 5 rfl (by omega) (by omega) (by omega)) dX5_takeIn_69 ?_
            refine lv_topi (fun v_12 (ev_12 : v_12 = (dp ((5 : Int32) + y4).toNatClampNeg)) => ?_)
            refine va_iast hx hb hK hP hD hS 1 0 rfl rfl (vi_add (by omega) (by omega) (by omega)) dX5_takeIn_70 (fun H locs hP hD hS => ?_)
            have hP : va_P (dC, dI) vwCl [(o_S, .inr (5, [.ref o_So, .ref o_Si, .int (fS 2), .int (fS 3), .int (fS 4), .int (fS 5), .int (fS 6), .int (fS 7), .int (fS 8), .int (fS 9), .int (fS 10), .int (fS 11), .int (fS 12), .int (fS 13)])), (o_Si, .inl (tC 0, 16, .inl (upd z_si ((fS 9) + y4).toNatClampNeg v_12))), (o_D, .inr (2, [.ref o_Dp, .int (fD 1), .int (fD 2), .int (fD 3)])), (o_Dp, .inl (tC 0, 32, .inl dp))] H := hP
            have hD : va_D A [(o_S, .inr (5, [.ref o_So, .ref o_Si, .int (fS 2), .int (fS 3), .int (fS 4), .int (fS 5), .int (fS 6), .int (fS 7), .int (fS 8), .int (fS 9), .int (fS 10), .int (fS 11), .int (fS 12), .int (fS 13)])), (o_Si, .inl (tC 0, 16, .inl (upd z_si ((fS 9) + y4).toNatClampNeg v_12))), (o_D, .inr (2, [.ref o_Dp, .int (fD 1), .int (fD 2), .int (fD 3)])), (o_Dp, .inl (tC 0, 32, .inl dp))] := hD
            obtain ⟨x_13, ex_13⟩ : ∃ y : Int32, y = (y4 + 1) := ⟨_, rfl⟩
            refine lv_iinc (v := x_13) (lv' := [(4, .int x_13), (3, .int x_4), (2, .int x_3), (0, .ref o_S), (1, .ref o_D)]) hx hb dX5_takeIn_71 hl (k := 0) rfl (by rw [ex_13]; rfl) (by decide) rfl (fun ls hl => ?_)
            have tx_13 : x_13.toInt = y4.toInt + 1 := by rw [ex_13]; exact tI_ac 1 rfl (by omega) (by omega)
            refine lv_goto (tgt := 44) hx hb dX5_takeIn_74 (by decide) ?_
            exact ih x_13 (upd z_si ((fS 9) + y4).toNatClampNeg v_12) _ _ ls (by omega) (by omega) (by subst ev_12 ex_13; rw [LX5_takeIn_44] at hL; rw [if_neg c_5] at hL; exact hL) (hP.sub [0, 1, 2, 3] rfl) (hD.sub [0, 1, 2, 3] (by decide) rfl) hS (lv_sub hl [0, 1, 2, 3, 4] rfl)
      exact loop 128 0 si _ _ ls (by decide) (by have q0 : (0 : Int32).toInt = 0 := rfl; omega) (by subst ex_3 ex_4; rw [FX5_takeIn]; rw [if_pos c_1]; rw [if_pos c_2]; try rfl) hP hD hS hl
    · skip
      have c_2 : ¬ ((dp 1) = (fS 5)) := c_2
      have hP9 := hP.sub (ws' := [(o_S, .inr (5, [.ref o_So, .ref o_Si, .int (fS 2), .int (fS 3), .int (fS 4), .int (fS 5), .int (fS 6), .int (fS 7), .int (fS 8), .int (fS 9), .int (fS 10), .int (fS 11), .int (fS 12), .int (fS 13)])), (o_Si, .inl (tC 0, 16, .inl si)), (o_D, .inr (2, [.ref o_Dp, .int (fD 1), .int (fD 2), .int (fD 3)])), (o_Dp, .inl (tC 0, 32, .inl dp))]) [0, 1, 2, 3] rfl
      have hD9 := hD.sub (ws' := [(o_S, .inr (5, [.ref o_So, .ref o_Si, .int (fS 2), .int (fS 3), .int (fS 4), .int (fS 5), .int (fS 6), .int (fS 7), .int (fS 8), .int (fS 9), .int (fS 10), .int (fS 11), .int (fS 12), .int (fS 13)])), (o_Si, .inl (tC 0, 16, .inl si)), (o_D, .inr (2, [.ref o_Dp, .int (fD 1), .int (fD 2), .int (fD 3)])), (o_Dp, .inl (tC 0, 32, .inl dp))]) [0, 1, 2, 3] (by decide) rfl
      rw [← hQ]
      exact W.vret hx hb hr (fun t ht hW => ⟨⟨(fS, si), rfl, (by rw [FX5_takeIn]; rw [if_pos c_1]; rw [if_neg c_2]; try rfl), by rw [ht]; exact hP9, va_K.moved hW.alike hK, hD9⟩, hS.F ht⟩) hS.2.2 dX5_takeIn_21
set_option maxHeartbeats 4000000 in
set_option maxRecDepth 100000 in
theorem c_X5_follow (l : Launch) (dC : Nat → ClassId) (dI : Nat → Nat → Nat) (tC : Nat → ClassId) (o_S o_D o_So o_Si o_Dp : Nat) (sz : Nat) (fS : (Nat → Int32)) (so : (Nat → Int32)) (si : (Nat → Int32)) (fD : (Nat → Int32)) (dp : (Nat → Int32)) (h_S : iv_S fS) (h_d0 : 5 ≤ (fD 3).toInt) (h_d1 : (fD 3).toInt ≤ 32) : Met l yX5_follow wsX5_follow ({ frames := 2, cells := 0, slots := 0, locals := 46 }) (va_Pc [.ref o_S, .ref o_D] (fun U => U.heap.size = sz ∧ va_P (dC, dI) vwCl [(o_S, .inr (5, [.ref o_So, .ref o_Si, .int (fS 2), .int (fS 3), .int (fS 4), .int (fS 5), .int (fS 6), .int (fS 7), .int (fS 8), .int (fS 9), .int (fS 10), .int (fS 11), .int (fS 12), .int (fS 13)])), (o_So, .inl (tC 0, 64, .inl so)), (o_Si, .inl (tC 0, 16, .inl si)), (o_D, .inr (2, [.ref o_Dp, .int (fD 1), .int (fD 2), .int (fD 3)])), (o_Dp, .inl (tC 0, 32, .inl dp))] U.heap ∧ va_K (dC, dI) vwCl (TY tC) U ∧ NW U ∧ va_D (fun _ => True) [(o_S, .inr (5, [.ref o_So, .ref o_Si, .int (fS 2), .int (fS 3), .int (fS 4), .int (fS 5), .int (fS 6), .int (fS 7), .int (fS 8), .int (fS 9), .int (fS 10), .int (fS 11), .int (fS 12), .int (fS 13)])), (o_So, .inl (tC 0, 64, .inl so)), (o_Si, .inl (tC 0, 16, .inl si)), (o_D, .inr (2, [.ref o_Dp, .int (fD 1), .int (fD 2), .int (fD 3)])), (o_Dp, .inl (tC 0, 32, .inl dp))])) (va_Qi (fun (r : Int32) (u : (Nat → Int32) × (Nat → Int32) × (Nat → Int32)) => (r, u) = FX5_follow fS so si fD dp) (fun (u : (Nat → Int32) × (Nat → Int32) × (Nat → Int32)) (t : State) => va_P (dC, dI) vwCl [(o_S, .inr (5, [.ref o_So, .ref o_Si, .int (u.1 2), .int (u.1 3), .int (u.1 4), .int (u.1 5), .int (u.1 6), .int (u.1 7), .int (u.1 8), .int (u.1 9), .int (u.1 10), .int (u.1 11), .int (u.1 12), .int (u.1 13)])), (o_So, .inl (tC 0, 64, .inl u.2.1)), (o_Si, .inl (tC 0, 16, .inl u.2.2)), (o_D, .inr (2, [.ref o_Dp, .int (fD 1), .int (fD 2), .int (fD 3)])), (o_Dp, .inl (tC 0, 32, .inl dp))] t.heap ∧ va_K (dC, dI) vwCl (TY tC) t ∧ va_D (va_A [(o_S, .inr (5, [.ref o_So, .ref o_Si, .int (fS 2), .int (fS 3), .int (fS 4), .int (fS 5), .int (fS 6), .int (fS 7), .int (fS 8), .int (fS 9), .int (fS 10), .int (fS 11), .int (fS 12), .int (fS 13)])), (o_So, .inl (tC 0, 64, .inl so)), (o_Si, .inl (tC 0, 16, .inl si)), (o_D, .inr (2, [.ref o_Dp, .int (fD 1), .int (fD 2), .int (fD 3)])), (o_Dp, .inl (tC 0, 32, .inl dp))] sz) [(o_S, .inr (5, [.ref o_So, .ref o_Si, .int (u.1 2), .int (u.1 3), .int (u.1 4), .int (u.1 5), .int (u.1 6), .int (u.1 7), .int (u.1 8), .int (u.1 9), .int (u.1 10), .int (u.1 11), .int (u.1 12), .int (u.1 13)])), (o_So, .inl (tC 0, 64, .inl u.2.1)), (o_Si, .inl (tC 0, 16, .inl u.2.2)), (o_D, .inr (2, [.ref o_Dp, .int (fD 1), .int (fD 2), .int (fD 3)])), (o_Dp, .inl (tC 0, 32, .inl dp))]) (va_A [(o_S, .inr (5, [.ref o_So, .ref o_Si, .int (fS 2), .int (fS 3), .int (fS 4), .int (fS 5), .int (fS 6), .int (fS 7), .int (fS 8), .int (fS 9), .int (fS 10), .int (fS 11), .int (fS 12), .int (fS 13)])), (o_So, .inl (tC 0, 64, .inl so)), (o_Si, .inl (tC 0, 16, .inl si)), (o_D, .inr (2, [.ref o_Dp, .int (fD 1), .int (fD 2), .int (fD 3)])), (o_Dp, .inl (tC 0, 32, .inl dp))] sz)) 0 0 (va_A [(o_S, .inr (5, [.ref o_So, .ref o_Si, .int (fS 2), .int (fS 3), .int (fS 4), .int (fS 5), .int (fS 6), .int (fS 7), .int (fS 8), .int (fS 9), .int (fS 10), .int (fS 11), .int (fS 12), .int (fS 13)])), (o_So, .inl (tC 0, 64, .inl so)), (o_Si, .inl (tC 0, 16, .inl si)), (o_D, .inr (2, [.ref o_Dp, .int (fD 1), .int (fD 2), .int (fD 3)])), (o_Dp, .inl (tC 0, 32, .inl dp))] sz) := by
  refine Met.ofW (cc := cX5_follow) (maxL := 2) (ret := (some .boolean)) (by decide) rfl ?_
  intro p e s m args below meth c s₁ B hml hv
  obtain ⟨rfl, hsz, hP, hK, hN, hD0⟩ := hv
  have hx := B.exec
  have hb := B.bytes
  have hr := B.returns
  have hts := atoms_spec (ws := wsX5_follow) B.pre
  have hown : s.vm.findClass RX5 = some m.cls := findClass_of_methodNamed B.named
  have hlocks := B.notSynchronized
  subst hsz
  have hD := hD0.self (sz := s.heap.size)
  generalize hAe : va_A [(o_S, .inr (5, [.ref o_So, .ref o_Si, .int (fS 2), .int (fS 3), .int (fS 4), .int (fS 5), .int (fS 6), .int (fS 7), .int (fS 8), .int (fS 9), .int (fS 10), .int (fS 11), .int (fS 12), .int (fS 13)])), (o_So, .inl (tC 0, 64, .inl so)), (o_Si, .inl (tC 0, 16, .inl si)), (o_D, .inr (2, [.ref o_Dp, .int (fD 1), .int (fD 2), .int (fD 3)])), (o_Dp, .inl (tC 0, 32, .inl dp))] s.heap.size = A at hD ⊢
  have hA : ∀ q : Nat, s.heap.size ≤ q → A q := fun q h => by rw [← hAe]; exact Or.inr h
  have hS : va_S A s.heap s.heap [] := va_S.rf
  have hP : va_P (dC, dI) vwCl [(o_S, .inr (5, [.ref o_So, .ref o_Si, .int (fS 2), .int (fS 3), .int (fS 4), .int (fS 5), .int (fS 6), .int (fS 7), .int (fS 8), .int (fS 9), .int (fS 10), .int (fS 11), .int (fS 12), .int (fS 13)])), (o_So, .inl (tC 0, 64, .inl so)), (o_Si, .inl (tC 0, 16, .inl si)), (o_D, .inr (2, [.ref o_Dp, .int (fD 1), .int (fD 2), .int (fD 3)])), (o_Dp, .inl (tC 0, 32, .inl dp))] s.heap := hP
  have hl := lv_entry ([.ref o_S, .ref o_D]) (n := 2) (Nat.le_of_ble_eq_true rfl)
  rw [lg_entry_eq]
  generalize (lg_sl ([.ref o_S, .ref o_D]) ++ List.replicate (2 - (lg_sl ([.ref o_S, .ref o_D])).length) Slot.unset).toArray = ls at hl ⊢
  have hl : lv_has ls 2 [(0, .ref o_S), (1, .ref o_D)] := hl
  obtain ⟨h_a0, h_a1, h_o0, h_o1, h_i0, h_i1⟩ := id h_S
  refine lv_aload_n hx hb dX5_follow_0 rfl (lv_at hl 0 rfl) ?_
  refine lv_aload_n hx hb dX5_follow_1 rfl (lv_at hl 1 rfl) ?_
  refine va_get (D := (dC, dI)) (ci := 2) (v := .ref o_Dp) (C := RX2) (T := TX2) (N := 4) hx hb hts (fun w h => List.mem_cons_of_mem _ (uwX2 w h)) hown hK hP 3 rfl rfl 0 (by decide) (hts _ (List.mem_cons_of_mem _ wd_99)) (fun _ h9 => h9) rfl dX5_follow_2 ?_
  refine lv_iconst (v := 2) hx hb dX5_follow_5 (by decide) ?_
  refine va_iald hx hb hK hP 4 0 rfl rfl (vi_c (by decide +kernel)) dX5_follow_6 ?_
  have hPc := hP.sub (ws' := [(o_S, .inr (5, [.ref o_So, .ref o_Si, .int (fS 2), .int (fS 3), .int (fS 4), .int (fS 5), .int (fS 6), .int (fS 7), .int (fS 8), .int (fS 9), .int (fS 10), .int (fS 11), .int (fS 12), .int (fS 13)])), (o_So, .inl (tC 0, 64, .inl so))]) [0, 1] rfl
  have hDc := hD.sub (ws' := [(o_S, .inr (5, [.ref o_So, .ref o_Si, .int (fS 2), .int (fS 3), .int (fS 4), .int (fS 5), .int (fS 6), .int (fS 7), .int (fS 8), .int (fS 9), .int (fS 10), .int (fS 11), .int (fS 12), .int (fS 13)])), (o_So, .inl (tC 0, 64, .inl so))]) [0, 1] (by decide) rfl
  have hFc := va_free (wc := [(o_S, .inr (5, [.ref o_So, .ref o_Si, .int (fS 2), .int (fS 3), .int (fS 4), .int (fS 5), .int (fS 6), .int (fS 7), .int (fS 8), .int (fS 9), .int (fS 10), .int (fS 11), .int (fS 12), .int (fS 13)])), (o_So, .inl (tC 0, 64, .inl so))]) hD hS hA [0, 1] rfl
  refine va_callv (va_runV (As := [.int (dp 2)]) (rest := []) ⟨hx, hb, hml, hown, hts⟩ (c_X5_acknowledge l dC dI tC o_S o_So o_Si s.heap.size fS so (dp 2) (by first | assumption | omega | (simp only [k0, k1, k4, k5, k8, k9, k16]; omega) | exact h_Ss _ (by decide) | exact h_Ts _ (by decide) | exact h_Ms _ (by decide) | exact Or.inr rfl | exact rfl | decide)) (cwV 1 hts (gV wd_476 wd_478 wp_12 wd_10 wd_479) rfl rfl rfl dsc_X5_acknowledge ⟨Nat.le_of_ble_eq_true rfl, Nat.le_of_ble_eq_true rfl⟩) ⟨fun a U g mk q => by obtain ⟨q0, q1, qP, qK, qN, qD⟩ := q; exact ⟨q0, q1, qP, va_K.moved (u := U) (U := U.calling g mk a) (Vm.Alike.refl U.vm) qK, NW.same (u := U) (U := U.calling g mk a) rfl qN, qD⟩, va_recv hK hPc (ci := 5) (q0 := 0) rfl rfl, fun U hU hW => ⟨rfl, by rw [hU], by rw [hU]; exact hPc, va_K.moved hW.alike hK, NW.warm hW hN, hDc.weaken (fun _ _ _ _ => trivial)⟩⟩ rfl rfl hl.1 rfl (lv_room (Nat.le_of_ble_eq_true rfl)) dX5_follow_7 ⟨Nat.le_of_ble_eq_true rfl, Nat.le_of_ble_eq_true rfl⟩) hS (fun q _ h => hFc q h) hFc (fun  u t H1 locs ht hvm hw hB hz1 hk1 hS => ?_)
  obtain ⟨u1_1, u2_1⟩ := u
  obtain ⟨hP1, hK1, hD1⟩ := hB
  rw [ht] at hP1
  obtain ⟨hP, hD⟩ := va_join (wr := [(o_Si, .inl (tC 0, 16, .inl si)), (o_D, .inr (2, [.ref o_Dp, .int (fD 1), .int (fD 2), .int (fD 3)])), (o_Dp, .inl (tC 0, 32, .inl dp))]) (w1 := [(o_S, .inr (5, [.ref o_So, .ref o_Si, .int (u1_1 2), .int (u1_1 3), .int (u1_1 4), .int (u1_1 5), .int (u1_1 6), .int (u1_1 7), .int (u1_1 8), .int (u1_1 9), .int (u1_1 10), .int (u1_1 11), .int (u1_1 12), .int (u1_1 13)])), (o_So, .inl (tC 0, 64, .inl u2_1))]) hP hD [0, 1] [2, 3, 4] rfl rfl (by decide) (by decide) hk1 hFc hP1 hD1
  generalize H1 = H at hP hS ⊢
  have hP : va_P (dC, dI) vwCl [(o_Si, .inl (tC 0, 16, .inl si)), (o_D, .inr (2, [.ref o_Dp, .int (fD 1), .int (fD 2), .int (fD 3)])), (o_Dp, .inl (tC 0, 32, .inl dp)), (o_S, .inr (5, [.ref o_So, .ref o_Si, .int (u1_1 2), .int (u1_1 3), .int (u1_1 4), .int (u1_1 5), .int (u1_1 6), .int (u1_1 7), .int (u1_1 8), .int (u1_1 9), .int (u1_1 10), .int (u1_1 11), .int (u1_1 12), .int (u1_1 13)])), (o_So, .inl (tC 0, 64, .inl u2_1))] H := hP
  have hD : va_D A [(o_Si, .inl (tC 0, 16, .inl si)), (o_D, .inr (2, [.ref o_Dp, .int (fD 1), .int (fD 2), .int (fD 3)])), (o_Dp, .inl (tC 0, 32, .inl dp)), (o_S, .inr (5, [.ref o_So, .ref o_Si, .int (u1_1 2), .int (u1_1 3), .int (u1_1 4), .int (u1_1 5), .int (u1_1 6), .int (u1_1 7), .int (u1_1 8), .int (u1_1 9), .int (u1_1 10), .int (u1_1 11), .int (u1_1 12), .int (u1_1 13)])), (o_So, .inl (tC 0, 64, .inl u2_1))] := hD
  have eu1_1 : u1_1 = (FX5_acknowledge fS so (dp 2)).1 := congrArg (fun z => z.1) hw
  have eu2_1 : u2_1 = (FX5_acknowledge fS so (dp 2)).2 := congrArg (fun z => z.2) hw
  have h_S2 : iv_S u1_1 := by rw [eu1_1]; exact ack_iv h_S
  refine lv_aload_n hx hb dX5_follow_10 rfl (lv_at hl 0 rfl) ?_
  refine va_get (D := (dC, dI)) (ci := 5) (v := .int (u1_1 2)) (C := RX5) (T := TX5) (N := 14) hx hb hts (fun w h => List.mem_cons_of_mem _ (uwX5 w h)) hown hK hP 3 rfl rfl 2 (by decide) (hts _ (List.mem_cons_of_mem _ wd_210)) (fun _ h9 => h9) rfl dX5_follow_11 ?_
  refine lv_if_ne (tgt := 19) hx hb dX5_follow_14 (by decide) (fun c_2 => ?_) (fun c_2 => ?_)
  · skip
    have c_2 : ¬ ((u1_1 2) = 0) := c_2
    refine lv_aload_n hx hb dX5_follow_19 rfl (lv_at hl 0 rfl) ?_
    refine lv_aload_n hx hb dX5_follow_20 rfl (lv_at hl 1 rfl) ?_
    refine va_get (D := (dC, dI)) (ci := 2) (v := .ref o_Dp) (C := RX2) (T := TX2) (N := 4) hx hb hts (fun w h => List.mem_cons_of_mem _ (uwX2 w h)) hown hK hP 1 rfl rfl 0 (by decide) (hts _ (List.mem_cons_of_mem _ wd_99)) (fun _ h9 => h9) rfl dX5_follow_21 ?_
    refine lv_iconst (v := 4) hx hb dX5_follow_24 (by decide) ?_
    refine va_iald hx hb hK hP 2 0 rfl rfl (vi_c (by decide +kernel)) dX5_follow_25 ?_
    refine lv_topi (fun f_3 (ef_3 : f_3 = (dp 4)) => ?_)
    refine va_put (D := (dC, dI)) (ci := 5) (v := .int f_3) (ty := .int) (C := RX5) (T := TX5) (N := 14) hx hb hts (fun w h => List.mem_cons_of_mem _ (uwX5 w h)) tyX5 tyX5_ok nmX5 hown hK hP hD hS 3 rfl rfl 10 (by decide) (hts _ (List.mem_cons_of_mem _ wd_225)) (fun _ h9 => h9) rfl (by decide +kernel) rfl rfl (Nat.le_of_ble_eq_true rfl) dX5_follow_26 (fun H locs hP hD hS => ?_)
    have hP : va_P (dC, dI) vwCl [(o_Si, .inl (tC 0, 16, .inl si)), (o_D, .inr (2, [.ref o_Dp, .int (fD 1), .int (fD 2), .int (fD 3)])), (o_Dp, .inl (tC 0, 32, .inl dp)), (o_S, .inr (5, [.ref o_So, .ref o_Si, .int (u1_1 2), .int (u1_1 3), .int (u1_1 4), .int (u1_1 5), .int (u1_1 6), .int (u1_1 7), .int (u1_1 8), .int (u1_1 9), .int f_3, .int (u1_1 11), .int (u1_1 12), .int (u1_1 13)])), (o_So, .inl (tC 0, 64, .inl u2_1))] H := hP
    have hD : va_D A [(o_Si, .inl (tC 0, 16, .inl si)), (o_D, .inr (2, [.ref o_Dp, .int (fD 1), .int (fD 2), .int (fD 3)])), (o_Dp, .inl (tC 0, 32, .inl dp)), (o_S, .inr (5, [.ref o_So, .ref o_Si, .int (u1_1 2), .int (u1_1 3), .int (u1_1 4), .int (u1_1 5), .int (u1_1 6), .int (u1_1 7), .int (u1_1 8), .int (u1_1 9), .int f_3, .int (u1_1 11), .int (u1_1 12), .int (u1_1 13)])), (o_So, .inl (tC 0, 64, .inl u2_1))] := hD
    refine lv_aload_n hx hb dX5_follow_29 rfl (lv_at hl 0 rfl) ?_
    refine va_get (D := (dC, dI)) (ci := 5) (v := .int (u1_1 2)) (C := RX5) (T := TX5) (N := 14) hx hb hts (fun w h => List.mem_cons_of_mem _ (uwX5 w h)) hown hK hP 3 rfl rfl 2 (by decide) (hts _ (List.mem_cons_of_mem _ wd_210)) (fun _ h9 => h9) rfl dX5_follow_30 ?_
    refine lv_iconst (v := 1) hx hb dX5_follow_33 (by decide) ?_
    refine lv_icmp_ne (tgt := 39) hx hb dX5_follow_34 (by decide) (fun c_4 => ?_) (fun c_4 => ?_)
    · skip
      have c_4 : ¬ ((u1_1 2) = 1) := c_4
      refine lv_aload_n hx hb dX5_follow_39 rfl (lv_at hl 0 rfl) ?_
      refine lv_aload_n hx hb dX5_follow_40 rfl (lv_at hl 1 rfl) ?_
      have h_S3 : iv_S ((upd u1_1 10 f_3)) := iv_S_e h_S2 rfl rfl rfl
      have hPc := hP.sub (ws' := [(o_S, .inr (5, [.ref o_So, .ref o_Si, .int ((upd u1_1 10 f_3) 2), .int ((upd u1_1 10 f_3) 3), .int ((upd u1_1 10 f_3) 4), .int ((upd u1_1 10 f_3) 5), .int ((upd u1_1 10 f_3) 6), .int ((upd u1_1 10 f_3) 7), .int ((upd u1_1 10 f_3) 8), .int ((upd u1_1 10 f_3) 9), .int ((upd u1_1 10 f_3) 10), .int ((upd u1_1 10 f_3) 11), .int ((upd u1_1 10 f_3) 12), .int ((upd u1_1 10 f_3) 13)])), (o_Si, .inl (tC 0, 16, .inl si)), (o_D, .inr (2, [.ref o_Dp, .int (fD 1), .int (fD 2), .int (fD 3)])), (o_Dp, .inl (tC 0, 32, .inl dp))]) [3, 0, 1, 2] rfl
      have hDc := hD.sub (ws' := [(o_S, .inr (5, [.ref o_So, .ref o_Si, .int ((upd u1_1 10 f_3) 2), .int ((upd u1_1 10 f_3) 3), .int ((upd u1_1 10 f_3) 4), .int ((upd u1_1 10 f_3) 5), .int ((upd u1_1 10 f_3) 6), .int ((upd u1_1 10 f_3) 7), .int ((upd u1_1 10 f_3) 8), .int ((upd u1_1 10 f_3) 9), .int ((upd u1_1 10 f_3) 10), .int ((upd u1_1 10 f_3) 11), .int ((upd u1_1 10 f_3) 12), .int ((upd u1_1 10 f_3) 13)])), (o_Si, .inl (tC 0, 16, .inl si)), (o_D, .inr (2, [.ref o_Dp, .int (fD 1), .int (fD 2), .int (fD 3)])), (o_Dp, .inl (tC 0, 32, .inl dp))]) [3, 0, 1, 2] (by decide) rfl
      have hFc := va_free (wc := [(o_S, .inr (5, [.ref o_So, .ref o_Si, .int ((upd u1_1 10 f_3) 2), .int ((upd u1_1 10 f_3) 3), .int ((upd u1_1 10 f_3) 4), .int ((upd u1_1 10 f_3) 5), .int ((upd u1_1 10 f_3) 6), .int ((upd u1_1 10 f_3) 7), .int ((upd u1_1 10 f_3) 8), .int ((upd u1_1 10 f_3) 9), .int ((upd u1_1 10 f_3) 10), .int ((upd u1_1 10 f_3) 11), .int ((upd u1_1 10 f_3) 12), .int ((upd u1_1 10 f_3) 13)])), (o_Si, .inl (tC 0, 16, .inl si)), (o_D, .inr (2, [.ref o_Dp, .int (fD 1), .int (fD 2), .int (fD 3)])), (o_Dp, .inl (tC 0, 32, .inl dp))]) hD hS hA [3, 0, 1, 2] rfl
      refine va_callv (va_runV (As := [.ref o_D]) (rest := []) ⟨hx, hb, hml, hown, hts⟩ (c_X5_takeIn l dC dI tC o_S o_D o_So o_Si o_Dp H.size (upd u1_1 10 f_3) si fD dp (by first | assumption | omega | (simp only [k0, k1, k4, k5, k8, k9, k16]; omega) | exact h_Ss _ (by decide) | exact h_Ts _ (by decide) | exact h_Ms _ (by decide) | exact Or.inr rfl | exact rfl | decide) (by first | assumption | omega | (simp only [k0, k1, k4, k5, k8, k9, k16]; omega) | exact h_Ss _ (by decide) | exact h_Ts _ (by decide) | exact h_Ms _ (by decide) | exact Or.inr rfl | exact rfl | decide) (by first | assumption | omega | (simp only [k0, k1, k4, k5, k8, k9, k16]; omega) | exact h_Ss _ (by decide) | exact h_Ts _ (by decide) | exact h_Ms _ (by decide) | exact Or.inr rfl | exact rfl | decide)) (cwV 1 hts (gV wd_487 wd_489 wp_13 wd_10 wd_490) rfl rfl rfl dsc_X5_takeIn ⟨Nat.le_of_ble_eq_true rfl, Nat.le_of_ble_eq_true rfl⟩) ⟨fun a U g mk q => by obtain ⟨q0, q1, qP, qK, qN, qD⟩ := q; exact ⟨q0, q1, qP, va_K.moved (u := U) (U := U.calling g mk a) (Vm.Alike.refl U.vm) qK, NW.same (u := U) (U := U.calling g mk a) rfl qN, qD⟩, va_recv hK hPc (ci := 5) (q0 := 0) rfl rfl, fun U hU hW => ⟨rfl, by rw [hU], by rw [hU]; exact hPc, va_K.moved hW.alike hK, NW.warm hW hN, hDc.weaken (fun _ _ _ _ => trivial)⟩⟩ rfl rfl hl.1 rfl (lv_room (Nat.le_of_ble_eq_true rfl)) dX5_follow_41 ⟨Nat.le_of_ble_eq_true rfl, Nat.le_of_ble_eq_true rfl⟩) hS (fun q _ h => hFc q h) hFc (fun  u t H1 locs ht hvm hw hB hz1 hk1 hS => ?_)
      obtain ⟨u1_5, u2_5⟩ := u
      obtain ⟨hP1, hK1, hD1⟩ := hB
      rw [ht] at hP1
      obtain ⟨hP, hD⟩ := va_join (wr := [(o_So, .inl (tC 0, 64, .inl u2_1))]) (w1 := [(o_S, .inr (5, [.ref o_So, .ref o_Si, .int (u1_5 2), .int (u1_5 3), .int (u1_5 4), .int (u1_5 5), .int (u1_5 6), .int (u1_5 7), .int (u1_5 8), .int (u1_5 9), .int (u1_5 10), .int (u1_5 11), .int (u1_5 12), .int (u1_5 13)])), (o_Si, .inl (tC 0, 16, .inl u2_5)), (o_D, .inr (2, [.ref o_Dp, .int (fD 1), .int (fD 2), .int (fD 3)])), (o_Dp, .inl (tC 0, 32, .inl dp))]) hP hD [3, 0, 1, 2] [4] rfl rfl (by decide) (by decide) hk1 hFc hP1 hD1
      generalize H1 = H at hP hS ⊢
      have hP : va_P (dC, dI) vwCl [(o_So, .inl (tC 0, 64, .inl u2_1)), (o_S, .inr (5, [.ref o_So, .ref o_Si, .int (u1_5 2), .int (u1_5 3), .int (u1_5 4), .int (u1_5 5), .int (u1_5 6), .int (u1_5 7), .int (u1_5 8), .int (u1_5 9), .int (u1_5 10), .int (u1_5 11), .int (u1_5 12), .int (u1_5 13)])), (o_Si, .inl (tC 0, 16, .inl u2_5)), (o_D, .inr (2, [.ref o_Dp, .int (fD 1), .int (fD 2), .int (fD 3)])), (o_Dp, .inl (tC 0, 32, .inl dp))] H := hP
      have hD : va_D A [(o_So, .inl (tC 0, 64, .inl u2_1)), (o_S, .inr (5, [.ref o_So, .ref o_Si, .int (u1_5 2), .int (u1_5 3), .int (u1_5 4), .int (u1_5 5), .int (u1_5 6), .int (u1_5 7), .int (u1_5 8), .int (u1_5 9), .int (u1_5 10), .int (u1_5 11), .int (u1_5 12), .int (u1_5 13)])), (o_Si, .inl (tC 0, 16, .inl u2_5)), (o_D, .inr (2, [.ref o_Dp, .int (fD 1), .int (fD 2), .int (fD 3)])), (o_Dp, .inl (tC 0, 32, .inl dp))] := hD
      have eu1_5 : u1_5 = (FX5_takeIn (upd u1_1 10 f_3) si fD dp).1 := congrArg (fun z => z.1) hw
      have eu2_5 : u2_5 = (FX5_takeIn (upd u1_1 10 f_3) si fD dp).2 := congrArg (fun z => z.2) hw
      refine lv_iconst (v := 1) hx hb dX5_follow_44 (by decide) ?_
      have hP9 := hP.sub (ws' := [(o_S, .inr (5, [.ref o_So, .ref o_Si, .int (u1_5 2), .int (u1_5 3), .int (u1_5 4), .int (u1_5 5), .int (u1_5 6), .int (u1_5 7), .int (u1_5 8), .int (u1_5 9), .int (u1_5 10), .int (u1_5 11), .int (u1_5 12), .int (u1_5 13)])), (o_So, .inl (tC 0, 64, .inl u2_1)), (o_Si, .inl (tC 0, 16, .inl u2_5)), (o_D, .inr (2, [.ref o_Dp, .int (fD 1), .int (fD 2), .int (fD 3)])), (o_Dp, .inl (tC 0, 32, .inl dp))]) [1, 0, 2, 3, 4] rfl
      have hD9 := hD.sub (ws' := [(o_S, .inr (5, [.ref o_So, .ref o_Si, .int (u1_5 2), .int (u1_5 3), .int (u1_5 4), .int (u1_5 5), .int (u1_5 6), .int (u1_5 7), .int (u1_5 8), .int (u1_5 9), .int (u1_5 10), .int (u1_5 11), .int (u1_5 12), .int (u1_5 13)])), (o_So, .inl (tC 0, 64, .inl u2_1)), (o_Si, .inl (tC 0, 16, .inl u2_5)), (o_D, .inr (2, [.ref o_Dp, .int (fD 1), .int (fD 2), .int (fD 3)])), (o_Dp, .inl (tC 0, 32, .inl dp))]) [1, 0, 2, 3, 4] (by decide) rfl
      exact W.zret (v := 1) hx hb hr rfl (fun t ht hW => ⟨⟨1, (u1_5, u2_1, u2_5), rfl, (by subst eu1_1 eu2_1 ef_3 eu1_5 eu2_5; rw [FX5_follow]; rw [KX5_follow_7]; rw [if_neg c_2]; rw [if_neg c_4]; rw [KX5_follow_41]; try rfl), by rw [ht]; exact hP9, va_K.moved hW.alike hK, hD9⟩, hS.F ht⟩) hS.2.2 dX5_follow_45
    · skip
      have c_4 : (u1_1 2) = 1 := c_4
      have tc_4 : (u1_1 2).toInt = (1 : Int) := congrArg Int32.toInt c_4
      refine lv_iconst (v := 0) hx hb dX5_follow_37 (by decide) ?_
      have hP9 := hP.sub (ws' := [(o_S, .inr (5, [.ref o_So, .ref o_Si, .int ((upd u1_1 10 f_3) 2), .int ((upd u1_1 10 f_3) 3), .int ((upd u1_1 10 f_3) 4), .int ((upd u1_1 10 f_3) 5), .int ((upd u1_1 10 f_3) 6), .int ((upd u1_1 10 f_3) 7), .int ((upd u1_1 10 f_3) 8), .int ((upd u1_1 10 f_3) 9), .int ((upd u1_1 10 f_3) 10), .int ((upd u1_1 10 f_3) 11), .int ((upd u1_1 10 f_3) 12), .int ((upd u1_1 10 f_3) 13)])), (o_So, .inl (tC 0, 64, .inl u2_1)), (o_Si, .inl (tC 0, 16, .inl si)), (o_D, .inr (2, [.ref o_Dp, .int (fD 1), .int (fD 2), .int (fD 3)])), (o_Dp, .inl (tC 0, 32, .inl dp))]) [3, 4, 0, 1, 2] rfl
      have hD9 := hD.sub (ws' := [(o_S, .inr (5, [.ref o_So, .ref o_Si, .int ((upd u1_1 10 f_3) 2), .int ((upd u1_1 10 f_3) 3), .int ((upd u1_1 10 f_3) 4), .int ((upd u1_1 10 f_3) 5), .int ((upd u1_1 10 f_3) 6), .int ((upd u1_1 10 f_3) 7), .int ((upd u1_1 10 f_3) 8), .int ((upd u1_1 10 f_3) 9), .int ((upd u1_1 10 f_3) 10), .int ((upd u1_1 10 f_3) 11), .int ((upd u1_1 10 f_3) 12), .int ((upd u1_1 10 f_3) 13)])), (o_So, .inl (tC 0, 64, .inl u2_1)), (o_Si, .inl (tC 0, 16, .inl si)), (o_D, .inr (2, [.ref o_Dp, .int (fD 1), .int (fD 2), .int (fD 3)])), (o_Dp, .inl (tC 0, 32, .inl dp))]) [3, 4, 0, 1, 2] (by decide) rfl
      exact W.zret (v := 0) hx hb hr rfl (fun t ht hW => ⟨⟨0, ((upd u1_1 10 f_3), u2_1, si), rfl, (by subst eu1_1 eu2_1 ef_3; rw [FX5_follow]; rw [KX5_follow_7]; rw [if_neg c_2]; rw [if_pos c_4]; try rfl), by rw [ht]; exact hP9, va_K.moved hW.alike hK, hD9⟩, hS.F ht⟩) hS.2.2 dX5_follow_38
  · skip
    have c_2 : (u1_1 2) = 0 := c_2
    have tc_2 : (u1_1 2).toInt = (0 : Int) := congrArg Int32.toInt c_2
    refine lv_iconst (v := 0) hx hb dX5_follow_17 (by decide) ?_
    have hP9 := hP.sub (ws' := [(o_S, .inr (5, [.ref o_So, .ref o_Si, .int (u1_1 2), .int (u1_1 3), .int (u1_1 4), .int (u1_1 5), .int (u1_1 6), .int (u1_1 7), .int (u1_1 8), .int (u1_1 9), .int (u1_1 10), .int (u1_1 11), .int (u1_1 12), .int (u1_1 13)])), (o_So, .inl (tC 0, 64, .inl u2_1)), (o_Si, .inl (tC 0, 16, .inl si)), (o_D, .inr (2, [.ref o_Dp, .int (fD 1), .int (fD 2), .int (fD 3)])), (o_Dp, .inl (tC 0, 32, .inl dp))]) [3, 4, 0, 1, 2] rfl
    have hD9 := hD.sub (ws' := [(o_S, .inr (5, [.ref o_So, .ref o_Si, .int (u1_1 2), .int (u1_1 3), .int (u1_1 4), .int (u1_1 5), .int (u1_1 6), .int (u1_1 7), .int (u1_1 8), .int (u1_1 9), .int (u1_1 10), .int (u1_1 11), .int (u1_1 12), .int (u1_1 13)])), (o_So, .inl (tC 0, 64, .inl u2_1)), (o_Si, .inl (tC 0, 16, .inl si)), (o_D, .inr (2, [.ref o_Dp, .int (fD 1), .int (fD 2), .int (fD 3)])), (o_Dp, .inl (tC 0, 32, .inl dp))]) [3, 4, 0, 1, 2] (by decide) rfl
    exact W.zret (v := 0) hx hb hr rfl (fun t ht hW => ⟨⟨0, (u1_1, u2_1, si), rfl, (by subst eu1_1 eu2_1; rw [FX5_follow]; rw [KX5_follow_7]; rw [if_pos c_2]; try rfl), by rw [ht]; exact hP9, va_K.moved hW.alike hK, hD9⟩, hS.F ht⟩) hS.2.2 dX5_follow_18
set_option maxHeartbeats 4000000 in
set_option maxRecDepth 100000 in
theorem c_X5_lineLength (l : Launch) (dC : Nat → ClassId) (dI : Nat → Nat → Nat) (tC : Nat → ClassId) (o_S o_So o_Si : Nat) (sz : Nat) (fS : (Nat → Int32)) (si : (Nat → Int32)) : Met l yX5_lineLength wsX5_lineLength ({ frames := 1, cells := 0, slots := 0, locals := 21 }) (va_Pc [.ref o_S] (fun U => U.heap.size = sz ∧ va_P (dC, dI) vwCl [(o_S, .inr (5, [.ref o_So, .ref o_Si, .int (fS 2), .int (fS 3), .int (fS 4), .int (fS 5), .int (fS 6), .int (fS 7), .int (fS 8), .int (fS 9), .int (fS 10), .int (fS 11), .int (fS 12), .int (fS 13)])), (o_Si, .inl (tC 0, 16, .inl si))] U.heap ∧ va_K (dC, dI) vwCl (TY tC) U ∧ NW U ∧ va_D (fun _ => True) [(o_S, .inr (5, [.ref o_So, .ref o_Si, .int (fS 2), .int (fS 3), .int (fS 4), .int (fS 5), .int (fS 6), .int (fS 7), .int (fS 8), .int (fS 9), .int (fS 10), .int (fS 11), .int (fS 12), .int (fS 13)])), (o_Si, .inl (tC 0, 16, .inl si))])) (va_Qi (fun (r : Int32) (u : Unit) => r = FX5_lineLength fS si) (fun (u : Unit) (t : State) => va_P (dC, dI) vwCl [(o_S, .inr (5, [.ref o_So, .ref o_Si, .int (fS 2), .int (fS 3), .int (fS 4), .int (fS 5), .int (fS 6), .int (fS 7), .int (fS 8), .int (fS 9), .int (fS 10), .int (fS 11), .int (fS 12), .int (fS 13)])), (o_Si, .inl (tC 0, 16, .inl si))] t.heap ∧ va_K (dC, dI) vwCl (TY tC) t ∧ va_D (va_A [(o_S, .inr (5, [.ref o_So, .ref o_Si, .int (fS 2), .int (fS 3), .int (fS 4), .int (fS 5), .int (fS 6), .int (fS 7), .int (fS 8), .int (fS 9), .int (fS 10), .int (fS 11), .int (fS 12), .int (fS 13)])), (o_Si, .inl (tC 0, 16, .inl si))] sz) [(o_S, .inr (5, [.ref o_So, .ref o_Si, .int (fS 2), .int (fS 3), .int (fS 4), .int (fS 5), .int (fS 6), .int (fS 7), .int (fS 8), .int (fS 9), .int (fS 10), .int (fS 11), .int (fS 12), .int (fS 13)])), (o_Si, .inl (tC 0, 16, .inl si))]) (va_A [(o_S, .inr (5, [.ref o_So, .ref o_Si, .int (fS 2), .int (fS 3), .int (fS 4), .int (fS 5), .int (fS 6), .int (fS 7), .int (fS 8), .int (fS 9), .int (fS 10), .int (fS 11), .int (fS 12), .int (fS 13)])), (o_Si, .inl (tC 0, 16, .inl si))] sz)) 0 0 (va_A [(o_S, .inr (5, [.ref o_So, .ref o_Si, .int (fS 2), .int (fS 3), .int (fS 4), .int (fS 5), .int (fS 6), .int (fS 7), .int (fS 8), .int (fS 9), .int (fS 10), .int (fS 11), .int (fS 12), .int (fS 13)])), (o_Si, .inl (tC 0, 16, .inl si))] sz) := by
  refine Met.ofW (cc := cX5_lineLength) (maxL := 3) (ret := (some .int)) (by decide) rfl ?_
  intro p e s m args below meth c s₁ B hml hv
  obtain ⟨rfl, hsz, hP, hK, hN, hD0⟩ := hv
  have hx := B.exec
  have hb := B.bytes
  have hr := B.returns
  have hts := atoms_spec (ws := wsX5_lineLength) B.pre
  have hown : s.vm.findClass RX5 = some m.cls := findClass_of_methodNamed B.named
  have hlocks := B.notSynchronized
  subst hsz
  have hD := hD0.self (sz := s.heap.size)
  generalize hAe : va_A [(o_S, .inr (5, [.ref o_So, .ref o_Si, .int (fS 2), .int (fS 3), .int (fS 4), .int (fS 5), .int (fS 6), .int (fS 7), .int (fS 8), .int (fS 9), .int (fS 10), .int (fS 11), .int (fS 12), .int (fS 13)])), (o_Si, .inl (tC 0, 16, .inl si))] s.heap.size = A at hD ⊢
  have hA : ∀ q : Nat, s.heap.size ≤ q → A q := fun q h => by rw [← hAe]; exact Or.inr h
  have hS : va_S A s.heap s.heap [] := va_S.rf
  have hP : va_P (dC, dI) vwCl [(o_S, .inr (5, [.ref o_So, .ref o_Si, .int (fS 2), .int (fS 3), .int (fS 4), .int (fS 5), .int (fS 6), .int (fS 7), .int (fS 8), .int (fS 9), .int (fS 10), .int (fS 11), .int (fS 12), .int (fS 13)])), (o_Si, .inl (tC 0, 16, .inl si))] s.heap := hP
  have hl := lv_entry ([.ref o_S]) (n := 3) (Nat.le_of_ble_eq_true rfl)
  rw [lg_entry_eq]
  generalize (lg_sl ([.ref o_S]) ++ List.replicate (3 - (lg_sl ([.ref o_S])).length) Slot.unset).toArray = ls at hl ⊢
  have hl : lv_has ls 3 [(0, .ref o_S)] := hl
  generalize hQ : MQ _ _ _ _ _ _ _ = Q
  refine lv_aload_n hx hb dX5_lineLength_0 rfl (lv_at hl 0 rfl) ?_
  refine va_get (D := (dC, dI)) (ci := 5) (v := .int (fS 9)) (C := RX5) (T := TX5) (N := 14) hx hb hts (fun w h => List.mem_cons_of_mem _ (uwX5 w h)) hown hK hP 0 rfl rfl 9 (by decide) (hts _ (List.mem_cons_of_mem _ wd_223)) (fun _ h9 => h9) rfl dX5_lineLength_1 ?_
  refine lv_bipush (v := 7) hx hb dX5_lineLength_4 (by decide) ?_
  refine va_mmin hx hb (hml.trans hl.1.symm) hown (hts _ (List.mem_cons_of_mem _ wd_481)) (hts _ (List.mem_cons_of_mem _ wd_482)) (hts _ (List.mem_cons_of_mem _ wd_12)) (hts _ (List.mem_cons_of_mem _ wd_483)) (Nat.le_of_ble_eq_true rfl) (Nat.le_of_ble_eq_true rfl) (Nat.zero_le _) (Nat.zero_le _) dX5_lineLength_6 ?_
  refine lv_topi (fun x_1 (ex_1 : x_1 = (mn (fS 9) (7 : Int32))) => ?_)
  refine lv_istore_n (lv' := [(1, .int x_1), (0, .ref o_S)]) hx hb dX5_lineLength_9 rfl hl (by decide) rfl (fun ls hl => ?_)
  refine lv_iconst (v := 0) hx hb dX5_lineLength_10 (by decide) ?_
  refine lv_istore_n (lv' := [(2, .int 0), (1, .int x_1), (0, .ref o_S)]) hx hb dX5_lineLength_11 rfl hl (by decide) rfl (fun ls hl => ?_)
  have h_mn : (x_1).toInt ≤ 7 := by rw [ex_1, mn_i, k7]; omega
  have loop : ∀ (n : Nat) (y2 : Int32) (H : Heap) (locs : List Loc) (ls : Array Slot), (0 ≤ y2.toInt) → ((x_1.toInt - y2.toInt).toNat) < n → LX5_lineLength_12 si x_1 n y2 = FX5_lineLength fS si → va_P (dC, dI) vwCl [(o_S, .inr (5, [.ref o_So, .ref o_Si, .int (fS 2), .int (fS 3), .int (fS 4), .int (fS 5), .int (fS 6), .int (fS 7), .int (fS 8), .int (fS 9), .int (fS 10), .int (fS 11), .int (fS 12), .int (fS 13)])), (o_Si, .inl (tC 0, 16, .inl si))] H → va_D A [(o_S, .inr (5, [.ref o_So, .ref o_Si, .int (fS 2), .int (fS 3), .int (fS 4), .int (fS 5), .int (fS 6), .int (fS 7), .int (fS 8), .int (fS 9), .int (fS 10), .int (fS 11), .int (fS 12), .int (fS 13)])), (o_Si, .inl (tC 0, 16, .inl si))] → va_S A s.heap H locs → lv_has ls 3 [(2, .int y2), (1, .int x_1), (0, .ref o_S)] → W p l e (headSpec wsX5_lineLength ({ frames := 1, cells := 0, slots := 0, locals := 21 })).room s m ([.ref o_S] : List Value).toArray below meth c H locs 0 0 Q (F0 m 12 ls []) := by
    intro n; induction n with
    | zero => intro y2 H locs ls h_i hm hL; exact absurd hm (Nat.not_lt_zero _)
    | succ n ih =>
      intro y2 H locs ls h_i hm hL hP hD hS hl
      refine lv_iload_n hx hb dX5_lineLength_12 rfl (lv_at hl 0 rfl) ?_
      refine lv_iload_n hx hb dX5_lineLength_13 rfl (lv_at hl 1 rfl) ?_
      refine lv_icmp_ge (tgt := 38) hx hb dX5_lineLength_14 (by decide) (fun c_2 => ?_) (fun c_2 => ?_)
      · skip
        have c_2 : x_1 ≤ y2 := c_2
        have tc_2 : x_1.toInt ≤ y2.toInt := Int32.le_iff_toInt_le.mp c_2
        refine lv_iload_n hx hb dX5_lineLength_38 rfl (lv_at hl 1 rfl) ?_
        refine lv_bipush (v := 7) hx hb dX5_lineLength_39 (by decide) ?_
        refine lv_icmp_ne (tgt := 49) hx hb dX5_lineLength_41 (by decide) (fun c_3 => ?_) (fun c_3 => ?_)
        · skip
          have c_3 : ¬ (x_1 = 7) := c_3
          refine lv_iconst (v := 0) hx hb dX5_lineLength_49 (by decide) ?_
          have hP9 := hP.sub (ws' := [(o_S, .inr (5, [.ref o_So, .ref o_Si, .int (fS 2), .int (fS 3), .int (fS 4), .int (fS 5), .int (fS 6), .int (fS 7), .int (fS 8), .int (fS 9), .int (fS 10), .int (fS 11), .int (fS 12), .int (fS 13)])), (o_Si, .inl (tC 0, 16, .inl si))]) [0, 1] rfl
          have hD9 := hD.sub (ws' := [(o_S, .inr (5, [.ref o_So, .ref o_Si, .int (fS 2), .int (fS 3), .int (fS 4), .int (fS 5), .int (fS 6), .int (fS 7), .int (fS 8), .int (fS 9), .int (fS 10), .int (fS 11), .int (fS 12), .int (fS 13)])), (o_Si, .inl (tC 0, 16, .inl si))]) [0, 1] (by decide) rfl
          rw [← hQ]
          exact W.iret (v := 0) hx hb hr (fun t ht hW => ⟨⟨0, (), rfl, (by subst ex_1; rw [← hL]; rw [LX5_lineLength_12]; rw [if_pos c_2]; rw [if_neg c_3]; try rfl), by rw [ht]; exact hP9, va_K.moved hW.alike hK, hD9⟩, hS.F ht⟩) hS.2.2 dX5_lineLength_50
        · skip
          have c_3 : x_1 = 7 := c_3
          have tc_3 : x_1.toInt = (7 : Int) := congrArg Int32.toInt c_3
          refine lv_bipush (v := 7) hx hb dX5_lineLength_44 (by decide) ?_
          refine lv_goto (tgt := 50) hx hb dX5_lineLength_46 (by decide) ?_
          have hP9 := hP.sub (ws' := [(o_S, .inr (5, [.ref o_So, .ref o_Si, .int (fS 2), .int (fS 3), .int (fS 4), .int (fS 5), .int (fS 6), .int (fS 7), .int (fS 8), .int (fS 9), .int (fS 10), .int (fS 11), .int (fS 12), .int (fS 13)])), (o_Si, .inl (tC 0, 16, .inl si))]) [0, 1] rfl
          have hD9 := hD.sub (ws' := [(o_S, .inr (5, [.ref o_So, .ref o_Si, .int (fS 2), .int (fS 3), .int (fS 4), .int (fS 5), .int (fS 6), .int (fS 7), .int (fS 8), .int (fS 9), .int (fS 10), .int (fS 11), .int (fS 12), .int (fS 13)])), (o_Si, .inl (tC 0, 16, .inl si))]) [0, 1] (by decide) rfl
          rw [← hQ]
          exact W.iret (v := 7) hx hb hr (fun t ht hW => ⟨⟨7, (), rfl, (by subst ex_1; rw [← hL]; rw [LX5_lineLength_12]; rw [if_pos c_2]; rw [if_pos c_3]; try rfl), by rw [ht]; exact hP9, va_K.moved hW.alike hK, hD9⟩, hS.F ht⟩) hS.2.2 dX5_lineLength_50
      · skip
        have c_2 : ¬ (x_1 ≤ y2) := c_2
        have tc_2 : ¬ x_1.toInt ≤ y2.toInt := fun q => c_2 (Int32.le_iff_toInt_le.mpr q)
        refine lv_aload_n hx hb dX5_lineLength_17 rfl (lv_at hl 2 rfl) ?_
        refine va_get (D := (dC, dI)) (ci := 5) (v := .ref o_Si) (C := RX5) (T := TX5) (N := 14) hx hb hts (fun w h => List.mem_cons_of_mem _ (uwX5 w h)) hown hK hP 0 rfl rfl 1 (by decide) (hts _ (List.mem_cons_of_mem _ wd_208)) (fun _ h9 => h9) rfl dX5_lineLength_18 ?_
        refine lv_iload_n hx hb dX5_lineLength_21 rfl (lv_at hl 0 rfl) ?_
        refine va_iald hx hb hK hP 1 0 rfl rfl (vp_in_iff.mpr (by omega)) dX5_lineLength_22 ?_
        refine lv_bipush (v := 10) hx hb dX5_lineLength_23 (by decide) ?_
        refine lv_icmp_ne (tgt := 32) hx hb dX5_lineLength_25 (by decide) (fun c_4 => ?_) (fun c_4 => ?_)
        · skip
          have c_4 : ¬ ((si y2.toNatClampNeg) = 10) := c_4
          obtain ⟨x_5, ex_5⟩ : ∃ y : Int32, y = (y2 + 1) := ⟨_, rfl⟩
          refine lv_iinc (v := x_5) (lv' := [(2, .int x_5), (1, .int x_1), (0, .ref o_S)]) hx hb dX5_lineLength_32 hl (k := 0) rfl (by rw [ex_5]; rfl) (by decide) rfl (fun ls hl => ?_)
          have tx_5 : x_5.toInt = y2.toInt + 1 := by rw [ex_5]; exact tI_ac 1 rfl (by omega) (by omega)
          refine lv_goto (tgt := 12) hx hb dX5_lineLength_35 (by decide) ?_
          exact ih x_5 _ _ ls (by omega) (by omega) (by subst ex_5; rw [LX5_lineLength_12] at hL; rw [if_neg c_2] at hL; rw [if_neg c_4] at hL; exact hL) (hP.sub [0, 1] rfl) (hD.sub [0, 1] (by decide) rfl) hS (lv_sub hl [0, 1, 2] rfl)
        · skip
          have c_4 : (si y2.toNatClampNeg) = 10 := c_4
          have tc_4 : (si y2.toNatClampNeg).toInt = (10 : Int) := congrArg Int32.toInt c_4
          refine lv_iload_n hx hb dX5_lineLength_28 rfl (lv_at hl 0 rfl) ?_
          refine lv_iconst (v := 1) hx hb dX5_lineLength_29 (by decide) ?_
          refine lv_iadd hx hb dX5_lineLength_30 ?_
          have hP9 := hP.sub (ws' := [(o_S, .inr (5, [.ref o_So, .ref o_Si, .int (fS 2), .int (fS 3), .int (fS 4), .int (fS 5), .int (fS 6), .int (fS 7), .int (fS 8), .int (fS 9), .int (fS 10), .int (fS 11), .int (fS 12), .int (fS 13)])), (o_Si, .inl (tC 0, 16, .inl si))]) [0, 1] rfl
          have hD9 := hD.sub (ws' := [(o_S, .inr (5, [.ref o_So, .ref o_Si, .int (fS 2), .int (fS 3), .int (fS 4), .int (fS 5), .int (fS 6), .int (fS 7), .int (fS 8), .int (fS 9), .int (fS 10), .int (fS 11), .int (fS 12), .int (fS 13)])), (o_Si, .inl (tC 0, 16, .inl si))]) [0, 1] (by decide) rfl
          rw [← hQ]
          exact W.iret (v := (y2 + (1 : Int32))) hx hb hr (fun t ht hW => ⟨⟨(y2 + (1 : Int32)), (), rfl, (by subst ex_1; rw [← hL]; rw [LX5_lineLength_12]; rw [if_neg c_2]; rw [if_pos c_4]; try rfl), by rw [ht]; exact hP9, va_K.moved hW.alike hK, hD9⟩, hS.F ht⟩) hS.2.2 dX5_lineLength_31
  exact loop 128 0 _ _ ls (by decide) (by have q0 : (0 : Int32).toInt = 0 := rfl; omega) (by subst ex_1; rw [FX5_lineLength]; try rfl) hP hD hS hl
set_option maxHeartbeats 4000000 in
set_option maxRecDepth 100000 in
theorem c_X5_replaceLine (l : Launch) (dC : Nat → ClassId) (dI : Nat → Nat → Nat) (tC : Nat → ClassId) (o_S o_w o_So o_Si : Nat) (n_w : Nat) (sz : Nat) (fS : (Nat → Int32)) (so : (Nat → Int32)) (si : (Nat → Int32)) (rb : (Nat → Int32)) (i0 i1 : Int32) (h_S : iv_S fS) (h_n : n_w ≤ 1000) (h_0 : 0 ≤ i0.toInt) (h_b0 : 0 ≤ i1.toInt) (h_b1 : i1.toInt ≤ n_w) (h_ob : (fS 8).toInt + i1.toInt ≤ 64) : Met l yX5_replaceLine wsX5_replaceLine ({ frames := 1, cells := 0, slots := 0, locals := 24 }) (va_Pc [.ref o_S, .int i0, .ref o_w, .int i1] (fun U => U.heap.size = sz ∧ va_P (dC, dI) vwCl [(o_S, .inr (5, [.ref o_So, .ref o_Si, .int (fS 2), .int (fS 3), .int (fS 4), .int (fS 5), .int (fS 6), .int (fS 7), .int (fS 8), .int (fS 9), .int (fS 10), .int (fS 11), .int (fS 12), .int (fS 13)])), (o_So, .inl (tC 0, 64, .inl so)), (o_Si, .inl (tC 0, 16, .inl si)), (o_w, .inl (tC 0, n_w, .inl rb))] U.heap ∧ va_K (dC, dI) vwCl (TY tC) U ∧ NW U ∧ va_D (fun _ => True) [(o_S, .inr (5, [.ref o_So, .ref o_Si, .int (fS 2), .int (fS 3), .int (fS 4), .int (fS 5), .int (fS 6), .int (fS 7), .int (fS 8), .int (fS 9), .int (fS 10), .int (fS 11), .int (fS 12), .int (fS 13)])), (o_So, .inl (tC 0, 64, .inl so)), (o_Si, .inl (tC 0, 16, .inl si)), (o_w, .inl (tC 0, n_w, .inl rb))])) (va_Qv (fun (u : (Nat → Int32) × (Nat → Int32) × (Nat → Int32)) => u = FX5_replaceLine fS so si rb i0 i1) (fun (u : (Nat → Int32) × (Nat → Int32) × (Nat → Int32)) (t : State) => va_P (dC, dI) vwCl [(o_S, .inr (5, [.ref o_So, .ref o_Si, .int (u.1 2), .int (u.1 3), .int (u.1 4), .int (u.1 5), .int (u.1 6), .int (u.1 7), .int (u.1 8), .int (u.1 9), .int (u.1 10), .int (u.1 11), .int (u.1 12), .int (u.1 13)])), (o_So, .inl (tC 0, 64, .inl u.2.1)), (o_Si, .inl (tC 0, 16, .inl u.2.2)), (o_w, .inl (tC 0, n_w, .inl rb))] t.heap ∧ va_K (dC, dI) vwCl (TY tC) t ∧ va_D (va_A [(o_S, .inr (5, [.ref o_So, .ref o_Si, .int (fS 2), .int (fS 3), .int (fS 4), .int (fS 5), .int (fS 6), .int (fS 7), .int (fS 8), .int (fS 9), .int (fS 10), .int (fS 11), .int (fS 12), .int (fS 13)])), (o_So, .inl (tC 0, 64, .inl so)), (o_Si, .inl (tC 0, 16, .inl si)), (o_w, .inl (tC 0, n_w, .inl rb))] sz) [(o_S, .inr (5, [.ref o_So, .ref o_Si, .int (u.1 2), .int (u.1 3), .int (u.1 4), .int (u.1 5), .int (u.1 6), .int (u.1 7), .int (u.1 8), .int (u.1 9), .int (u.1 10), .int (u.1 11), .int (u.1 12), .int (u.1 13)])), (o_So, .inl (tC 0, 64, .inl u.2.1)), (o_Si, .inl (tC 0, 16, .inl u.2.2)), (o_w, .inl (tC 0, n_w, .inl rb))]) (va_A [(o_S, .inr (5, [.ref o_So, .ref o_Si, .int (fS 2), .int (fS 3), .int (fS 4), .int (fS 5), .int (fS 6), .int (fS 7), .int (fS 8), .int (fS 9), .int (fS 10), .int (fS 11), .int (fS 12), .int (fS 13)])), (o_So, .inl (tC 0, 64, .inl so)), (o_Si, .inl (tC 0, 16, .inl si)), (o_w, .inl (tC 0, n_w, .inl rb))] sz)) 0 0 (va_A [(o_S, .inr (5, [.ref o_So, .ref o_Si, .int (fS 2), .int (fS 3), .int (fS 4), .int (fS 5), .int (fS 6), .int (fS 7), .int (fS 8), .int (fS 9), .int (fS 10), .int (fS 11), .int (fS 12), .int (fS 13)])), (o_So, .inl (tC 0, 64, .inl so)), (o_Si, .inl (tC 0, 16, .inl si)), (o_w, .inl (tC 0, n_w, .inl rb))] sz) := by
  refine Met.ofW (cc := cX5_replaceLine) (maxL := 5) (ret := none) (by decide) rfl ?_
  intro p e s m args below meth c s₁ B hml hv
  obtain ⟨rfl, hsz, hP, hK, hN, hD0⟩ := hv
  have hx := B.exec
  have hb := B.bytes
  have hr := B.returns
  have hts := atoms_spec (ws := wsX5_replaceLine) B.pre
  have hown : s.vm.findClass RX5 = some m.cls := findClass_of_methodNamed B.named
  have hlocks := B.notSynchronized
  subst hsz
  have hD := hD0.self (sz := s.heap.size)
  generalize hAe : va_A [(o_S, .inr (5, [.ref o_So, .ref o_Si, .int (fS 2), .int (fS 3), .int (fS 4), .int (fS 5), .int (fS 6), .int (fS 7), .int (fS 8), .int (fS 9), .int (fS 10), .int (fS 11), .int (fS 12), .int (fS 13)])), (o_So, .inl (tC 0, 64, .inl so)), (o_Si, .inl (tC 0, 16, .inl si)), (o_w, .inl (tC 0, n_w, .inl rb))] s.heap.size = A at hD ⊢
  have hA : ∀ q : Nat, s.heap.size ≤ q → A q := fun q h => by rw [← hAe]; exact Or.inr h
  have hS : va_S A s.heap s.heap [] := va_S.rf
  have hP : va_P (dC, dI) vwCl [(o_S, .inr (5, [.ref o_So, .ref o_Si, .int (fS 2), .int (fS 3), .int (fS 4), .int (fS 5), .int (fS 6), .int (fS 7), .int (fS 8), .int (fS 9), .int (fS 10), .int (fS 11), .int (fS 12), .int (fS 13)])), (o_So, .inl (tC 0, 64, .inl so)), (o_Si, .inl (tC 0, 16, .inl si)), (o_w, .inl (tC 0, n_w, .inl rb))] s.heap := hP
  have hl := lv_entry ([.ref o_S, .int i0, .ref o_w, .int i1]) (n := 5) (Nat.le_of_ble_eq_true rfl)
  rw [lg_entry_eq]
  generalize (lg_sl ([.ref o_S, .int i0, .ref o_w, .int i1]) ++ List.replicate (5 - (lg_sl ([.ref o_S, .int i0, .ref o_w, .int i1])).length) Slot.unset).toArray = ls at hl ⊢
  have hl : lv_has ls 5 [(0, .ref o_S), (1, .int i0), (2, .ref o_w), (3, .int i1)] := hl
  generalize hQ : MQ _ _ _ _ _ _ _ = Q
  obtain ⟨h_a0, h_a1, h_o0, h_o1, h_i0, h_i1⟩ := id h_S
  refine lv_aload_n hx hb dX5_replaceLine_0 rfl (lv_at hl 0 rfl) ?_
  refine lv_aload_n hx hb dX5_replaceLine_1 rfl (lv_at hl 0 rfl) ?_
  refine va_get (D := (dC, dI)) (ci := 5) (v := .ref o_Si) (C := RX5) (T := TX5) (N := 14) hx hb hts (fun w h => List.mem_cons_of_mem _ (uwX5 w h)) hown hK hP 0 rfl rfl 1 (by decide) (hts _ (List.mem_cons_of_mem _ wd_208)) (fun _ h9 => h9) rfl dX5_replaceLine_2 ?_
  refine lv_aload_n hx hb dX5_replaceLine_5 rfl (lv_at hl 0 rfl) ?_
  refine va_get (D := (dC, dI)) (ci := 5) (v := .int (fS 9)) (C := RX5) (T := TX5) (N := 14) hx hb hts (fun w h => List.mem_cons_of_mem _ (uwX5 w h)) hown hK hP 0 rfl rfl 9 (by decide) (hts _ (List.mem_cons_of_mem _ wd_223)) (fun _ h9 => h9) rfl dX5_replaceLine_6 ?_
  refine lv_iload_n hx hb dX5_replaceLine_9 rfl (lv_at hl 1 rfl) ?_
  have hPc := hP.sub (ws' := [(o_Si, .inl (tC 0, 16, .inl si))]) [2] rfl
  have hDc := hD.sub (ws' := [(o_Si, .inl (tC 0, 16, .inl si))]) [2] (by decide) rfl
  have hFc := va_free (wc := [(o_Si, .inl (tC 0, 16, .inl si))]) hD hS hA [2] rfl
  refine va_calli (va_runS (As := [.ref o_Si, .int (fS 9), .int i0]) (rest := [.ref o_S]) ⟨hx, hb, hml, hown, hts⟩ (c_X5_removeFirst l dC dI tC o_Si 16 s.heap.size si (fS 9) i0 (by first | assumption | omega | (simp only [k0, k1, k4, k5, k8, k9, k16]; omega) | exact h_Ss _ (by decide) | exact h_Ts _ (by decide) | exact h_Ms _ (by decide) | exact Or.inr rfl | exact rfl | decide) (by first | assumption | omega | (simp only [k0, k1, k4, k5, k8, k9, k16]; omega) | exact h_Ss _ (by decide) | exact h_Ts _ (by decide) | exact h_Ms _ (by decide) | exact Or.inr rfl | exact rfl | decide) (by first | assumption | omega | (simp only [k0, k1, k4, k5, k8, k9, k16]; omega) | exact h_Ss _ (by decide) | exact h_Ts _ (by decide) | exact h_Ms _ (by decide) | exact Or.inr rfl | exact rfl | decide) (by first | assumption | omega | (simp only [k0, k1, k4, k5, k8, k9, k16]; omega) | exact h_Ss _ (by decide) | exact h_Ts _ (by decide) | exact h_Ms _ (by decide) | exact Or.inr rfl | exact rfl | decide) (by first | assumption | omega | (simp only [k0, k1, k4, k5, k8, k9, k16]; omega) | exact h_Ss _ (by decide) | exact h_Ts _ (by decide) | exact h_Ms _ (by decide) | exact Or.inr rfl | exact rfl | decide)) (va_cwS 3 hts (gS wd_484 wd_485 wd_10 wd_486) rfl rfl rfl dsc_X5_removeFirst.2 ⟨Nat.le_of_ble_eq_true rfl, Nat.le_of_ble_eq_true rfl⟩) ⟨fun a U g mk q => by obtain ⟨q0, q1, qP, qK, qN, qD⟩ := q; exact ⟨q0, q1, qP, va_K.moved (u := U) (U := U.calling g mk a) (Vm.Alike.refl U.vm) qK, NW.same (u := U) (U := U.calling g mk a) rfl qN, qD⟩, fun U hU hW => ⟨rfl, by rw [hU], by rw [hU]; exact hPc, va_K.moved hW.alike hK, NW.warm hW hN, hDc.weaken (fun _ _ _ _ => trivial)⟩⟩ rfl rfl hl.1 rfl (lv_room (Nat.le_of_ble_eq_true rfl)) dX5_replaceLine_10 ⟨Nat.le_of_ble_eq_true rfl, Nat.le_of_ble_eq_true rfl⟩) hS (fun q _ h => hFc q h) hFc (fun r_1 u t H1 locs ht hvm hw hB hz1 hk1 hS => ?_)
  obtain ⟨u1_1, rfl⟩ : ∃ z, z = u := ⟨_, rfl⟩
  obtain ⟨hP1, hK1, hD1⟩ := hB
  rw [ht] at hP1
  obtain ⟨hP, hD⟩ := va_join (wr := [(o_S, .inr (5, [.ref o_So, .ref o_Si, .int (fS 2), .int (fS 3), .int (fS 4), .int (fS 5), .int (fS 6), .int (fS 7), .int (fS 8), .int (fS 9), .int (fS 10), .int (fS 11), .int (fS 12), .int (fS 13)])), (o_So, .inl (tC 0, 64, .inl so)), (o_w, .inl (tC 0, n_w, .inl rb))]) (w1 := [(o_Si, .inl (tC 0, 16, .inl u1_1))]) hP hD [2] [0, 1, 3] rfl rfl (by decide) (by decide) hk1 hFc hP1 hD1
  generalize H1 = H at hP hS ⊢
  have hP : va_P (dC, dI) vwCl [(o_S, .inr (5, [.ref o_So, .ref o_Si, .int (fS 2), .int (fS 3), .int (fS 4), .int (fS 5), .int (fS 6), .int (fS 7), .int (fS 8), .int (fS 9), .int (fS 10), .int (fS 11), .int (fS 12), .int (fS 13)])), (o_So, .inl (tC 0, 64, .inl so)), (o_w, .inl (tC 0, n_w, .inl rb)), (o_Si, .inl (tC 0, 16, .inl u1_1))] H := hP
  have hD : va_D A [(o_S, .inr (5, [.ref o_So, .ref o_Si, .int (fS 2), .int (fS 3), .int (fS 4), .int (fS 5), .int (fS 6), .int (fS 7), .int (fS 8), .int (fS 9), .int (fS 10), .int (fS 11), .int (fS 12), .int (fS 13)])), (o_So, .inl (tC 0, 64, .inl so)), (o_w, .inl (tC 0, n_w, .inl rb)), (o_Si, .inl (tC 0, 16, .inl u1_1))] := hD
  have er_1 : r_1 = (FX5_removeFirst si (fS 9) i0).1 := congrArg (fun z => z.1) hw
  have eu1_1 : u1_1 = (FX5_removeFirst si (fS 9) i0).2 := congrArg (fun z => z.2) hw
  refine va_put (D := (dC, dI)) (ci := 5) (v := .int r_1) (ty := .int) (C := RX5) (T := TX5) (N := 14) hx hb hts (fun w h => List.mem_cons_of_mem _ (uwX5 w h)) tyX5 tyX5_ok nmX5 hown hK hP hD hS 0 rfl rfl 9 (by decide) (hts _ (List.mem_cons_of_mem _ wd_223)) (fun _ h9 => h9) rfl (by decide +kernel) rfl rfl (Nat.le_of_ble_eq_true rfl) dX5_replaceLine_13 (fun H locs hP hD hS => ?_)
  have hP : va_P (dC, dI) vwCl [(o_S, .inr (5, [.ref o_So, .ref o_Si, .int (fS 2), .int (fS 3), .int (fS 4), .int (fS 5), .int (fS 6), .int (fS 7), .int (fS 8), .int r_1, .int (fS 10), .int (fS 11), .int (fS 12), .int (fS 13)])), (o_So, .inl (tC 0, 64, .inl so)), (o_w, .inl (tC 0, n_w, .inl rb)), (o_Si, .inl (tC 0, 16, .inl u1_1))] H := hP
  have hD : va_D A [(o_S, .inr (5, [.ref o_So, .ref o_Si, .int (fS 2), .int (fS 3), .int (fS 4), .int (fS 5), .int (fS 6), .int (fS 7), .int (fS 8), .int r_1, .int (fS 10), .int (fS 11), .int (fS 12), .int (fS 13)])), (o_So, .inl (tC 0, 64, .inl so)), (o_w, .inl (tC 0, n_w, .inl rb)), (o_Si, .inl (tC 0, 16, .inl u1_1))] := hD
  refine lv_iconst (v := 0) hx hb dX5_replaceLine_16 (by decide) ?_
  refine lv_istore (lv' := [(4, .int 0), (0, .ref o_S), (1, .int i0), (2, .ref o_w), (3, .int i1)]) hx hb dX5_replaceLine_17 hl (by decide) rfl (fun ls hl => ?_)
  have loop : ∀ (n : Nat) (y4 : Int32) (z_so : (Nat → Int32)) (H : Heap) (locs : List Loc) (ls : Array Slot), (0 ≤ y4.toInt) → ((i1.toInt - y4.toInt).toNat) < n → LX5_replaceLine_19 fS rb i1 r_1 u1_1 n y4 z_so = FX5_replaceLine fS so si rb i0 i1 → va_P (dC, dI) vwCl [(o_S, .inr (5, [.ref o_So, .ref o_Si, .int (fS 2), .int (fS 3), .int (fS 4), .int (fS 5), .int (fS 6), .int (fS 7), .int (fS 8), .int r_1, .int (fS 10), .int (fS 11), .int (fS 12), .int (fS 13)])), (o_So, .inl (tC 0, 64, .inl z_so)), (o_w, .inl (tC 0, n_w, .inl rb)), (o_Si, .inl (tC 0, 16, .inl u1_1))] H → va_D A [(o_S, .inr (5, [.ref o_So, .ref o_Si, .int (fS 2), .int (fS 3), .int (fS 4), .int (fS 5), .int (fS 6), .int (fS 7), .int (fS 8), .int r_1, .int (fS 10), .int (fS 11), .int (fS 12), .int (fS 13)])), (o_So, .inl (tC 0, 64, .inl z_so)), (o_w, .inl (tC 0, n_w, .inl rb)), (o_Si, .inl (tC 0, 16, .inl u1_1))] → va_S A s.heap H locs → lv_has ls 5 [(4, .int y4), (0, .ref o_S), (1, .int i0), (2, .ref o_w), (3, .int i1)] → W p l e (headSpec wsX5_replaceLine ({ frames := 1, cells := 0, slots := 0, locals := 24 })).room s m ([.ref o_S, .int i0, .ref o_w, .int i1] : List Value).toArray below meth c H locs 0 0 Q (F0 m 19 ls []) := by
    intro n; induction n with
    | zero => intro y4 z_so H locs ls h_i hm hL; exact absurd hm (Nat.not_lt_zero _)
    | succ n ih =>
      intro y4 z_so H locs ls h_i hm hL hP hD hS hl
      refine lv_iload hx hb dX5_replaceLine_19 (lv_at hl 0 rfl) ?_
      refine lv_iload_n hx hb dX5_replaceLine_21 rfl (lv_at hl 4 rfl) ?_
      refine lv_icmp_ge (tgt := 47) hx hb dX5_replaceLine_22 (by decide) (fun c_2 => ?_) (fun c_2 => ?_)
      · skip
        have c_2 : i1 ≤ y4 := c_2
        have tc_2 : i1.toInt ≤ y4.toInt := Int32.le_iff_toInt_le.mp c_2
        refine lv_aload_n hx hb dX5_replaceLine_47 rfl (lv_at hl 1 rfl) ?_
        refine lv_dup hx hb dX5_replaceLine_48 rfl ?_
        refine va_get (D := (dC, dI)) (ci := 5) (v := .int (fS 8)) (C := RX5) (T := TX5) (N := 14) hx hb hts (fun w h => List.mem_cons_of_mem _ (uwX5 w h)) hown hK hP 0 rfl rfl 8 (by decide) (hts _ (List.mem_cons_of_mem _ wd_221)) (fun _ h9 => h9) rfl dX5_replaceLine_49 ?_
        refine lv_iload_n hx hb dX5_replaceLine_52 rfl (lv_at hl 4 rfl) ?_
        refine lv_iadd hx hb dX5_replaceLine_53 ?_
        refine lv_topi (fun f_3 (ef_3 : f_3 = ((fS 8) + i1)) => ?_)
        refine va_put (D := (dC, dI)) (ci := 5) (v := .int f_3) (ty := .int) (C := RX5) (T := TX5) (N := 14) hx hb hts (fun w h => List.mem_cons_of_mem _ (uwX5 w h)) tyX5 tyX5_ok nmX5 hown hK hP hD hS 0 rfl rfl 8 (by decide) (hts _ (List.mem_cons_of_mem _ wd_221)) (fun _ h9 => h9) rfl (by decide +kernel) rfl rfl (Nat.le_of_ble_eq_true rfl) dX5_replaceLine_54 (fun H locs hP hD hS => ?_)
        have hP : va_P (dC, dI) vwCl [(o_S, .inr (5, [.ref o_So, .ref o_Si, .int (fS 2), .int (fS 3), .int (fS 4), .int (fS 5), .int (fS 6), .int (fS 7), .int f_3, .int r_1, .int (fS 10), .int (fS 11), .int (fS 12), .int (fS 13)])), (o_So, .inl (tC 0, 64, .inl z_so)), (o_w, .inl (tC 0, n_w, .inl rb)), (o_Si, .inl (tC 0, 16, .inl u1_1))] H := hP
        have hD : va_D A [(o_S, .inr (5, [.ref o_So, .ref o_Si, .int (fS 2), .int (fS 3), .int (fS 4), .int (fS 5), .int (fS 6), .int (fS 7), .int f_3, .int r_1, .int (fS 10), .int (fS 11), .int (fS 12), .int (fS 13)])), (o_So, .inl (tC 0, 64, .inl z_so)), (o_w, .inl (tC 0, n_w, .inl rb)), (o_Si, .inl (tC 0, 16, .inl u1_1))] := hD
        have hP9 := hP.sub (ws' := [(o_S, .inr (5, [.ref o_So, .ref o_Si, .int ((upd (upd fS 9 r_1) 8 f_3) 2), .int ((upd (upd fS 9 r_1) 8 f_3) 3), .int ((upd (upd fS 9 r_1) 8 f_3) 4), .int ((upd (upd fS 9 r_1) 8 f_3) 5), .int ((upd (upd fS 9 r_1) 8 f_3) 6), .int ((upd (upd fS 9 r_1) 8 f_3) 7), .int ((upd (upd fS 9 r_1) 8 f_3) 8), .int ((upd (upd fS 9 r_1) 8 f_3) 9), .int ((upd (upd fS 9 r_1) 8 f_3) 10), .int ((upd (upd fS 9 r_1) 8 f_3) 11), .int ((upd (upd fS 9 r_1) 8 f_3) 12), .int ((upd (upd fS 9 r_1) 8 f_3) 13)])), (o_So, .inl (tC 0, 64, .inl z_so)), (o_Si, .inl (tC 0, 16, .inl u1_1)), (o_w, .inl (tC 0, n_w, .inl rb))]) [0, 1, 3, 2] rfl
        have hD9 := hD.sub (ws' := [(o_S, .inr (5, [.ref o_So, .ref o_Si, .int ((upd (upd fS 9 r_1) 8 f_3) 2), .int ((upd (upd fS 9 r_1) 8 f_3) 3), .int ((upd (upd fS 9 r_1) 8 f_3) 4), .int ((upd (upd fS 9 r_1) 8 f_3) 5), .int ((upd (upd fS 9 r_1) 8 f_3) 6), .int ((upd (upd fS 9 r_1) 8 f_3) 7), .int ((upd (upd fS 9 r_1) 8 f_3) 8), .int ((upd (upd fS 9 r_1) 8 f_3) 9), .int ((upd (upd fS 9 r_1) 8 f_3) 10), .int ((upd (upd fS 9 r_1) 8 f_3) 11), .int ((upd (upd fS 9 r_1) 8 f_3) 12), .int ((upd (upd fS 9 r_1) 8 f_3) 13)])), (o_So, .inl (tC 0, 64, .inl z_so)), (o_Si, .inl (tC 0, 16, .inl u1_1)), (o_w, .inl (tC 0, n_w, .inl rb))]) [0, 1, 3, 2] (by decide) rfl
        rw [← hQ]
        exact W.vret hx hb hr (fun t ht hW => ⟨⟨((upd (upd fS 9 r_1) 8 f_3), z_so, u1_1), rfl, (by subst er_1 eu1_1 ef_3; rw [← hL]; rw [LX5_replaceLine_19]; rw [if_pos c_2]; try rfl), by rw [ht]; exact hP9, va_K.moved hW.alike hK, hD9⟩, hS.F ht⟩) hS.2.2 dX5_replaceLine_57
      · skip
        have c_2 : ¬ (i1 ≤ y4) := c_2
        have tc_2 : ¬ i1.toInt ≤ y4.toInt := fun q => c_2 (Int32.le_iff_toInt_le.mpr q)
        refine lv_aload_n hx hb dX5_replaceLine_25 rfl (lv_at hl 1 rfl) ?_
        refine va_get (D := (dC, dI)) (ci := 5) (v := .ref o_So) (C := RX5) (T := TX5) (N := 14) hx hb hts (fun w h => List.mem_cons_of_mem _ (uwX5 w h)) hown hK hP 0 rfl rfl 0 (by decide) (hts _ (List.mem_cons_of_mem _ wd_206)) (fun _ h9 => h9) rfl dX5_replaceLine_26 ?_
        refine lv_aload_n hx hb dX5_replaceLine_29 rfl (lv_at hl 1 rfl) ?_
        refine va_get (D := (dC, dI)) (ci := 5) (v := .int (fS 8)) (C := RX5) (T := TX5) (N := 14) hx hb hts (fun w h => List.mem_cons_of_mem _ (uwX5 w h)) hown hK hP 0 rfl rfl 8 (by decide) (hts _ (List.mem_cons_of_mem _ wd_221)) (fun _ h9 => h9) rfl dX5_replaceLine_30 ?_
        refine lv_iload hx hb dX5_replaceLine_33 (lv_at hl 0 rfl) ?_
        refine lv_iadd hx hb dX5_replaceLine_35 ?_
        refine lv_aload_n hx hb dX5_replaceLine_36 rfl (lv_at hl 3 rfl) ?_
        refine lv_iload hx hb dX5_replaceLine_37 (lv_at hl 0 rfl) ?_
        refine va_iald hx hb hK hP 2 0 rfl rfl (vp_in_iff.mpr (by omega)) dX5_replaceLine_39 ?_
        refine lv_topi (fun v_4 (ev_4 : v_4 = (rb y4.toNatClampNeg)) => ?_)
        refine va_iast hx hb hK hP hD hS 1 0 rfl rfl (vi_add (by omega) (by omega) (by omega)) dX5_replaceLine_40 (fun H locs hP hD hS => ?_)
        have hP : va_P (dC, dI) vwCl [(o_S, .inr (5, [.ref o_So, .ref o_Si, .int (fS 2), .int (fS 3), .int (fS 4), .int (fS 5), .int (fS 6), .int (fS 7), .int (fS 8), .int r_1, .int (fS 10), .int (fS 11), .int (fS 12), .int (fS 13)])), (o_So, .inl (tC 0, 64, .inl (upd z_so ((fS 8) + y4).toNatClampNeg v_4))), (o_w, .inl (tC 0, n_w, .inl rb)), (o_Si, .inl (tC 0, 16, .inl u1_1))] H := hP
        have hD : va_D A [(o_S, .inr (5, [.ref o_So, .ref o_Si, .int (fS 2), .int (fS 3), .int (fS 4), .int (fS 5), .int (fS 6), .int (fS 7), .int (fS 8), .int r_1, .int (fS 10), .int (fS 11), .int (fS 12), .int (fS 13)])), (o_So, .inl (tC 0, 64, .inl (upd z_so ((fS 8) + y4).toNatClampNeg v_4))), (o_w, .inl (tC 0, n_w, .inl rb)), (o_Si, .inl (tC 0, 16, .inl u1_1))] := hD
        obtain ⟨x_5, ex_5⟩ : ∃ y : Int32, y = (y4 + 1) := ⟨_, rfl⟩
        refine lv_iinc (v := x_5) (lv' := [(4, .int x_5), (0, .ref o_S), (1, .int i0), (2, .ref o_w), (3, .int i1)]) hx hb dX5_replaceLine_41 hl (k := 0) rfl (by rw [ex_5]; rfl) (by decide) rfl (fun ls hl => ?_)
        have tx_5 : x_5.toInt = y4.toInt + 1 := by rw [ex_5]; exact tI_ac 1 rfl (by omega) (by omega)
        refine lv_goto (tgt := 19) hx hb dX5_replaceLine_44 (by decide) ?_
        exact ih x_5 (upd z_so ((fS 8) + y4).toNatClampNeg v_4) _ _ ls (by omega) (by omega) (by subst ev_4 ex_5; rw [LX5_replaceLine_19] at hL; rw [if_neg c_2] at hL; exact hL) (hP.sub [0, 1, 2, 3] rfl) (hD.sub [0, 1, 2, 3] (by decide) rfl) hS (lv_sub hl [0, 1, 2, 3, 4] rfl)
  exact loop 128 0 so _ _ ls (by decide) (by have q0 : (0 : Int32).toInt = 0 := rfl; omega) (by subst er_1 eu1_1; rw [FX5_replaceLine]; rw [KX5_replaceLine_10]; try rfl) hP hD hS hl
set_option maxHeartbeats 4000000 in
set_option maxRecDepth 100000 in
theorem c_X5_nextSegmentSize (l : Launch) (dC : Nat → ClassId) (dI : Nat → Nat → Nat) (tC : Nat → ClassId) (o_S o_So o_Si : Nat) (sz : Nat) (fS : (Nat → Int32)) : Met l yX5_nextSegmentSize wsX5_nextSegmentSize ({ frames := 1, cells := 0, slots := 0, locals := 21 }) (va_Pc [.ref o_S] (fun U => U.heap.size = sz ∧ va_P (dC, dI) vwCl [(o_S, .inr (5, [.ref o_So, .ref o_Si, .int (fS 2), .int (fS 3), .int (fS 4), .int (fS 5), .int (fS 6), .int (fS 7), .int (fS 8), .int (fS 9), .int (fS 10), .int (fS 11), .int (fS 12), .int (fS 13)]))] U.heap ∧ va_K (dC, dI) vwCl (TY tC) U ∧ NW U ∧ va_D (fun _ => True) [(o_S, .inr (5, [.ref o_So, .ref o_Si, .int (fS 2), .int (fS 3), .int (fS 4), .int (fS 5), .int (fS 6), .int (fS 7), .int (fS 8), .int (fS 9), .int (fS 10), .int (fS 11), .int (fS 12), .int (fS 13)]))])) (va_Qi (fun (r : Int32) (u : Unit) => r = FX5_nextSegmentSize fS) (fun (u : Unit) (t : State) => va_P (dC, dI) vwCl [(o_S, .inr (5, [.ref o_So, .ref o_Si, .int (fS 2), .int (fS 3), .int (fS 4), .int (fS 5), .int (fS 6), .int (fS 7), .int (fS 8), .int (fS 9), .int (fS 10), .int (fS 11), .int (fS 12), .int (fS 13)]))] t.heap ∧ va_K (dC, dI) vwCl (TY tC) t ∧ va_D (va_A [(o_S, .inr (5, [.ref o_So, .ref o_Si, .int (fS 2), .int (fS 3), .int (fS 4), .int (fS 5), .int (fS 6), .int (fS 7), .int (fS 8), .int (fS 9), .int (fS 10), .int (fS 11), .int (fS 12), .int (fS 13)]))] sz) [(o_S, .inr (5, [.ref o_So, .ref o_Si, .int (fS 2), .int (fS 3), .int (fS 4), .int (fS 5), .int (fS 6), .int (fS 7), .int (fS 8), .int (fS 9), .int (fS 10), .int (fS 11), .int (fS 12), .int (fS 13)]))]) (va_A [(o_S, .inr (5, [.ref o_So, .ref o_Si, .int (fS 2), .int (fS 3), .int (fS 4), .int (fS 5), .int (fS 6), .int (fS 7), .int (fS 8), .int (fS 9), .int (fS 10), .int (fS 11), .int (fS 12), .int (fS 13)]))] sz)) 0 0 (va_A [(o_S, .inr (5, [.ref o_So, .ref o_Si, .int (fS 2), .int (fS 3), .int (fS 4), .int (fS 5), .int (fS 6), .int (fS 7), .int (fS 8), .int (fS 9), .int (fS 10), .int (fS 11), .int (fS 12), .int (fS 13)]))] sz) := by
  refine Met.ofW (cc := cX5_nextSegmentSize) (maxL := 3) (ret := (some .int)) (by decide) rfl ?_
  intro p e s m args below meth c s₁ B hml hv
  obtain ⟨rfl, hsz, hP, hK, hN, hD0⟩ := hv
  have hx := B.exec
  have hb := B.bytes
  have hr := B.returns
  have hts := atoms_spec (ws := wsX5_nextSegmentSize) B.pre
  have hown : s.vm.findClass RX5 = some m.cls := findClass_of_methodNamed B.named
  have hlocks := B.notSynchronized
  subst hsz
  have hD := hD0.self (sz := s.heap.size)
  generalize hAe : va_A [(o_S, .inr (5, [.ref o_So, .ref o_Si, .int (fS 2), .int (fS 3), .int (fS 4), .int (fS 5), .int (fS 6), .int (fS 7), .int (fS 8), .int (fS 9), .int (fS 10), .int (fS 11), .int (fS 12), .int (fS 13)]))] s.heap.size = A at hD ⊢
  have hA : ∀ q : Nat, s.heap.size ≤ q → A q := fun q h => by rw [← hAe]; exact Or.inr h
  have hS : va_S A s.heap s.heap [] := va_S.rf
  have hP : va_P (dC, dI) vwCl [(o_S, .inr (5, [.ref o_So, .ref o_Si, .int (fS 2), .int (fS 3), .int (fS 4), .int (fS 5), .int (fS 6), .int (fS 7), .int (fS 8), .int (fS 9), .int (fS 10), .int (fS 11), .int (fS 12), .int (fS 13)]))] s.heap := hP
  have hl := lv_entry ([.ref o_S]) (n := 3) (Nat.le_of_ble_eq_true rfl)
  rw [lg_entry_eq]
  generalize (lg_sl ([.ref o_S]) ++ List.replicate (3 - (lg_sl ([.ref o_S])).length) Slot.unset).toArray = ls at hl ⊢
  have hl : lv_has ls 3 [(0, .ref o_S)] := hl
  refine lv_aload_n hx hb dX5_nextSegmentSize_0 rfl (lv_at hl 0 rfl) ?_
  refine va_get (D := (dC, dI)) (ci := 5) (v := .int (fS 10)) (C := RX5) (T := TX5) (N := 14) hx hb hts (fun w h => List.mem_cons_of_mem _ (uwX5 w h)) hown hK hP 0 rfl rfl 10 (by decide) (hts _ (List.mem_cons_of_mem _ wd_225)) (fun _ h9 => h9) rfl dX5_nextSegmentSize_1 ?_
  refine lv_bipush (v := 8) hx hb dX5_nextSegmentSize_4 (by decide) ?_
  refine lv_aload_n hx hb dX5_nextSegmentSize_6 rfl (lv_at hl 0 rfl) ?_
  refine va_get (D := (dC, dI)) (ci := 5) (v := .int (fS 11)) (C := RX5) (T := TX5) (N := 14) hx hb hts (fun w h => List.mem_cons_of_mem _ (uwX5 w h)) hown hK hP 0 rfl rfl 11 (by decide) (hts _ (List.mem_cons_of_mem _ wd_226)) (fun _ h9 => h9) rfl dX5_nextSegmentSize_7 ?_
  refine lv_imul hx hb dX5_nextSegmentSize_10 ?_
  refine va_mmin hx hb (hml.trans hl.1.symm) hown (hts _ (List.mem_cons_of_mem _ wd_481)) (hts _ (List.mem_cons_of_mem _ wd_482)) (hts _ (List.mem_cons_of_mem _ wd_12)) (hts _ (List.mem_cons_of_mem _ wd_483)) (Nat.le_of_ble_eq_true rfl) (Nat.le_of_ble_eq_true rfl) (Nat.zero_le _) (Nat.zero_le _) dX5_nextSegmentSize_11 ?_
  refine lv_topi (fun x_1 (ex_1 : x_1 = (mn (fS 10) ((8 : Int32) * (fS 11)))) => ?_)
  refine lv_aload_n hx hb dX5_nextSegmentSize_14 rfl (lv_at hl 0 rfl) ?_
  have hPc := hP.sub (ws' := [(o_S, .inr (5, [.ref o_So, .ref o_Si, .int (fS 2), .int (fS 3), .int (fS 4), .int (fS 5), .int (fS 6), .int (fS 7), .int (fS 8), .int (fS 9), .int (fS 10), .int (fS 11), .int (fS 12), .int (fS 13)]))]) [0] rfl
  have hDc := hD.sub (ws' := [(o_S, .inr (5, [.ref o_So, .ref o_Si, .int (fS 2), .int (fS 3), .int (fS 4), .int (fS 5), .int (fS 6), .int (fS 7), .int (fS 8), .int (fS 9), .int (fS 10), .int (fS 11), .int (fS 12), .int (fS 13)]))]) [0] (by decide) rfl
  have hFc := va_free (wc := [(o_S, .inr (5, [.ref o_So, .ref o_Si, .int (fS 2), .int (fS 3), .int (fS 4), .int (fS 5), .int (fS 6), .int (fS 7), .int (fS 8), .int (fS 9), .int (fS 10), .int (fS 11), .int (fS 12), .int (fS 13)]))]) hD hS hA [0] rfl
  refine va_calli (va_runV (As := []) (rest := [.int x_1]) ⟨hx, hb, hml, hown, hts⟩ (c_X5_onTheWay l dC dI tC o_S o_So o_Si s.heap.size fS) (cwV 0 hts (gV wd_480 wd_465 wd_466 wd_10 wd_467) rfl rfl rfl dsc_X5_onTheWay ⟨Nat.le_of_ble_eq_true rfl, Nat.le_of_ble_eq_true rfl⟩) ⟨fun a U g mk q => by obtain ⟨q0, q1, qP, qK, qN, qD⟩ := q; exact ⟨q0, q1, qP, va_K.moved (u := U) (U := U.calling g mk a) (Vm.Alike.refl U.vm) qK, NW.same (u := U) (U := U.calling g mk a) rfl qN, qD⟩, va_recv hK hPc (ci := 5) (q0 := 0) rfl rfl, fun U hU hW => ⟨rfl, by rw [hU], by rw [hU]; exact hPc, va_K.moved hW.alike hK, NW.warm hW hN, hDc.weaken (fun _ _ _ _ => trivial)⟩⟩ rfl rfl hl.1 rfl (lv_room (Nat.le_of_ble_eq_true rfl)) dX5_nextSegmentSize_15 ⟨Nat.le_of_ble_eq_true rfl, Nat.le_of_ble_eq_true rfl⟩) hS (fun q _ h => hFc q h) hFc (fun r_2 u t H1 locs ht hvm hw hB hz1 hk1 hS => ?_)
  obtain ⟨hP1, hK1, hD1⟩ := hB
  rw [ht] at hP1
  obtain ⟨hP, hD⟩ := va_join (wr := []) (w1 := [(o_S, .inr (5, [.ref o_So, .ref o_Si, .int (fS 2), .int (fS 3), .int (fS 4), .int (fS 5), .int (fS 6), .int (fS 7), .int (fS 8), .int (fS 9), .int (fS 10), .int (fS 11), .int (fS 12), .int (fS 13)]))]) hP hD [0] [] rfl rfl (by decide) (by decide) hk1 hFc hP1 hD1
  generalize H1 = H at hP hS ⊢
  have hP : va_P (dC, dI) vwCl [(o_S, .inr (5, [.ref o_So, .ref o_Si, .int (fS 2), .int (fS 3), .int (fS 4), .int (fS 5), .int (fS 6), .int (fS 7), .int (fS 8), .int (fS 9), .int (fS 10), .int (fS 11), .int (fS 12), .int (fS 13)]))] H := hP
  have hD : va_D A [(o_S, .inr (5, [.ref o_So, .ref o_Si, .int (fS 2), .int (fS 3), .int (fS 4), .int (fS 5), .int (fS 6), .int (fS 7), .int (fS 8), .int (fS 9), .int (fS 10), .int (fS 11), .int (fS 12), .int (fS 13)]))] := hD
  have er_2 : r_2 = (FX5_onTheWay fS) := hw
  refine lv_isub hx hb dX5_nextSegmentSize_18 ?_
  refine lv_topi (fun x_3 (ex_3 : x_3 = (x_1 - r_2)) => ?_)
  refine lv_istore_n (lv' := [(1, .int x_3), (0, .ref o_S)]) hx hb dX5_nextSegmentSize_19 rfl hl (by decide) rfl (fun ls hl => ?_)
  refine lv_aload_n hx hb dX5_nextSegmentSize_20 rfl (lv_at hl 1 rfl) ?_
  refine va_get (D := (dC, dI)) (ci := 5) (v := .int (fS 8)) (C := RX5) (T := TX5) (N := 14) hx hb hts (fun w h => List.mem_cons_of_mem _ (uwX5 w h)) hown hK hP 0 rfl rfl 8 (by decide) (hts _ (List.mem_cons_of_mem _ wd_221)) (fun _ h9 => h9) rfl dX5_nextSegmentSize_21 ?_
  refine lv_aload_n hx hb dX5_nextSegmentSize_24 rfl (lv_at hl 1 rfl) ?_
  have hPc := hP.sub (ws' := [(o_S, .inr (5, [.ref o_So, .ref o_Si, .int (fS 2), .int (fS 3), .int (fS 4), .int (fS 5), .int (fS 6), .int (fS 7), .int (fS 8), .int (fS 9), .int (fS 10), .int (fS 11), .int (fS 12), .int (fS 13)]))]) [0] rfl
  have hDc := hD.sub (ws' := [(o_S, .inr (5, [.ref o_So, .ref o_Si, .int (fS 2), .int (fS 3), .int (fS 4), .int (fS 5), .int (fS 6), .int (fS 7), .int (fS 8), .int (fS 9), .int (fS 10), .int (fS 11), .int (fS 12), .int (fS 13)]))]) [0] (by decide) rfl
  have hFc := va_free (wc := [(o_S, .inr (5, [.ref o_So, .ref o_Si, .int (fS 2), .int (fS 3), .int (fS 4), .int (fS 5), .int (fS 6), .int (fS 7), .int (fS 8), .int (fS 9), .int (fS 10), .int (fS 11), .int (fS 12), .int (fS 13)]))]) hD hS hA [0] rfl
  refine va_calli (va_runV (As := []) (rest := [.int (fS 8)]) ⟨hx, hb, hml, hown, hts⟩ (c_X5_onTheWay l dC dI tC o_S o_So o_Si H.size fS) (cwV 0 hts (gV wd_480 wd_465 wd_466 wd_10 wd_467) rfl rfl rfl dsc_X5_onTheWay ⟨Nat.le_of_ble_eq_true rfl, Nat.le_of_ble_eq_true rfl⟩) ⟨fun a U g mk q => by obtain ⟨q0, q1, qP, qK, qN, qD⟩ := q; exact ⟨q0, q1, qP, va_K.moved (u := U) (U := U.calling g mk a) (Vm.Alike.refl U.vm) qK, NW.same (u := U) (U := U.calling g mk a) rfl qN, qD⟩, va_recv hK hPc (ci := 5) (q0 := 0) rfl rfl, fun U hU hW => ⟨rfl, by rw [hU], by rw [hU]; exact hPc, va_K.moved hW.alike hK, NW.warm hW hN, hDc.weaken (fun _ _ _ _ => trivial)⟩⟩ rfl rfl hl.1 rfl (lv_room (Nat.le_of_ble_eq_true rfl)) dX5_nextSegmentSize_25 ⟨Nat.le_of_ble_eq_true rfl, Nat.le_of_ble_eq_true rfl⟩) hS (fun q _ h => hFc q h) hFc (fun r_4 u t H1 locs ht hvm hw hB hz1 hk1 hS => ?_)
  obtain ⟨hP1, hK1, hD1⟩ := hB
  rw [ht] at hP1
  obtain ⟨hP, hD⟩ := va_join (wr := []) (w1 := [(o_S, .inr (5, [.ref o_So, .ref o_Si, .int (fS 2), .int (fS 3), .int (fS 4), .int (fS 5), .int (fS 6), .int (fS 7), .int (fS 8), .int (fS 9), .int (fS 10), .int (fS 11), .int (fS 12), .int (fS 13)]))]) hP hD [0] [] rfl rfl (by decide) (by decide) hk1 hFc hP1 hD1
  generalize H1 = H at hP hS ⊢
  have hP : va_P (dC, dI) vwCl [(o_S, .inr (5, [.ref o_So, .ref o_Si, .int (fS 2), .int (fS 3), .int (fS 4), .int (fS 5), .int (fS 6), .int (fS 7), .int (fS 8), .int (fS 9), .int (fS 10), .int (fS 11), .int (fS 12), .int (fS 13)]))] H := hP
  have hD : va_D A [(o_S, .inr (5, [.ref o_So, .ref o_Si, .int (fS 2), .int (fS 3), .int (fS 4), .int (fS 5), .int (fS 6), .int (fS 7), .int (fS 8), .int (fS 9), .int (fS 10), .int (fS 11), .int (fS 12), .int (fS 13)]))] := hD
  have er_4 : r_4 = (FX5_onTheWay fS) := hw
  refine lv_isub hx hb dX5_nextSegmentSize_28 ?_
  refine lv_topi (fun x_5 (ex_5 : x_5 = ((fS 8) - r_4)) => ?_)
  refine lv_istore_n (lv' := [(2, .int x_5), (1, .int x_3), (0, .ref o_S)]) hx hb dX5_nextSegmentSize_29 rfl hl (by decide) rfl (fun ls hl => ?_)
  refine lv_iconst (v := 0) hx hb dX5_nextSegmentSize_30 (by decide) ?_
  refine lv_bipush (v := 8) hx hb dX5_nextSegmentSize_31 (by decide) ?_
  refine lv_iload_n hx hb dX5_nextSegmentSize_33 rfl (lv_at hl 1 rfl) ?_
  refine lv_iload_n hx hb dX5_nextSegmentSize_34 rfl (lv_at hl 0 rfl) ?_
  refine va_mmin hx hb (hml.trans hl.1.symm) hown (hts _ (List.mem_cons_of_mem _ wd_481)) (hts _ (List.mem_cons_of_mem _ wd_482)) (hts _ (List.mem_cons_of_mem _ wd_12)) (hts _ (List.mem_cons_of_mem _ wd_483)) (Nat.le_of_ble_eq_true rfl) (Nat.le_of_ble_eq_true rfl) (Nat.zero_le _) (Nat.zero_le _) dX5_nextSegmentSize_35 ?_
  refine lv_topi (fun x_6 (ex_6 : x_6 = (mn x_3 x_5)) => ?_)
  refine va_mmin hx hb (hml.trans hl.1.symm) hown (hts _ (List.mem_cons_of_mem _ wd_481)) (hts _ (List.mem_cons_of_mem _ wd_482)) (hts _ (List.mem_cons_of_mem _ wd_12)) (hts _ (List.mem_cons_of_mem _ wd_483)) (Nat.le_of_ble_eq_true rfl) (Nat.le_of_ble_eq_true rfl) (Nat.zero_le _) (Nat.zero_le _) dX5_nextSegmentSize_38 ?_
  refine lv_topi (fun x_7 (ex_7 : x_7 = (mn (8 : Int32) x_6)) => ?_)
  refine va_mmax hx hb (hml.trans hl.1.symm) hown (hts _ (List.mem_cons_of_mem _ wd_542)) (hts _ (List.mem_cons_of_mem _ wd_543)) (hts _ (List.mem_cons_of_mem _ wd_12)) (hts _ (List.mem_cons_of_mem _ wd_544)) (Nat.le_of_ble_eq_true rfl) (Nat.le_of_ble_eq_true rfl) (Nat.zero_le _) (Nat.zero_le _) dX5_nextSegmentSize_41 ?_
  refine lv_topi (fun x_8 (ex_8 : x_8 = (mx (0 : Int32) x_7)) => ?_)
  have hP9 := hP.sub (ws' := [(o_S, .inr (5, [.ref o_So, .ref o_Si, .int (fS 2), .int (fS 3), .int (fS 4), .int (fS 5), .int (fS 6), .int (fS 7), .int (fS 8), .int (fS 9), .int (fS 10), .int (fS 11), .int (fS 12), .int (fS 13)]))]) [0] rfl
  have hD9 := hD.sub (ws' := [(o_S, .inr (5, [.ref o_So, .ref o_Si, .int (fS 2), .int (fS 3), .int (fS 4), .int (fS 5), .int (fS 6), .int (fS 7), .int (fS 8), .int (fS 9), .int (fS 10), .int (fS 11), .int (fS 12), .int (fS 13)]))]) [0] (by decide) rfl
  exact W.iret (v := x_8) hx hb hr (fun t ht hW => ⟨⟨x_8, (), rfl, (by subst ex_1 er_2 ex_3 er_4 ex_5 ex_6 ex_7 ex_8; rw [FX5_nextSegmentSize]; try rfl), by rw [ht]; exact hP9, va_K.moved hW.alike hK, hD9⟩, hS.F ht⟩) hS.2.2 dX5_nextSegmentSize_44
set_option maxHeartbeats 4000000 in
set_option maxRecDepth 100000 in
theorem c_X5_canEnd (l : Launch) (dC : Nat → ClassId) (dI : Nat → Nat → Nat) (tC : Nat → ClassId) (o_S o_So o_Si : Nat) (sz : Nat) (fS : (Nat → Int32)) (si : (Nat → Int32)) : Met l yX5_canEnd wsX5_canEnd ({ frames := 2, cells := 0, slots := 0, locals := 43 }) (va_Pc [.ref o_S] (fun U => U.heap.size = sz ∧ va_P (dC, dI) vwCl [(o_S, .inr (5, [.ref o_So, .ref o_Si, .int (fS 2), .int (fS 3), .int (fS 4), .int (fS 5), .int (fS 6), .int (fS 7), .int (fS 8), .int (fS 9), .int (fS 10), .int (fS 11), .int (fS 12), .int (fS 13)])), (o_Si, .inl (tC 0, 16, .inl si))] U.heap ∧ va_K (dC, dI) vwCl (TY tC) U ∧ NW U ∧ va_D (fun _ => True) [(o_S, .inr (5, [.ref o_So, .ref o_Si, .int (fS 2), .int (fS 3), .int (fS 4), .int (fS 5), .int (fS 6), .int (fS 7), .int (fS 8), .int (fS 9), .int (fS 10), .int (fS 11), .int (fS 12), .int (fS 13)])), (o_Si, .inl (tC 0, 16, .inl si))])) (va_Qi (fun (r : Int32) (u : Unit) => r = FX5_canEnd fS si) (fun (u : Unit) (t : State) => va_P (dC, dI) vwCl [(o_S, .inr (5, [.ref o_So, .ref o_Si, .int (fS 2), .int (fS 3), .int (fS 4), .int (fS 5), .int (fS 6), .int (fS 7), .int (fS 8), .int (fS 9), .int (fS 10), .int (fS 11), .int (fS 12), .int (fS 13)])), (o_Si, .inl (tC 0, 16, .inl si))] t.heap ∧ va_K (dC, dI) vwCl (TY tC) t ∧ va_D (va_A [(o_S, .inr (5, [.ref o_So, .ref o_Si, .int (fS 2), .int (fS 3), .int (fS 4), .int (fS 5), .int (fS 6), .int (fS 7), .int (fS 8), .int (fS 9), .int (fS 10), .int (fS 11), .int (fS 12), .int (fS 13)])), (o_Si, .inl (tC 0, 16, .inl si))] sz) [(o_S, .inr (5, [.ref o_So, .ref o_Si, .int (fS 2), .int (fS 3), .int (fS 4), .int (fS 5), .int (fS 6), .int (fS 7), .int (fS 8), .int (fS 9), .int (fS 10), .int (fS 11), .int (fS 12), .int (fS 13)])), (o_Si, .inl (tC 0, 16, .inl si))]) (va_A [(o_S, .inr (5, [.ref o_So, .ref o_Si, .int (fS 2), .int (fS 3), .int (fS 4), .int (fS 5), .int (fS 6), .int (fS 7), .int (fS 8), .int (fS 9), .int (fS 10), .int (fS 11), .int (fS 12), .int (fS 13)])), (o_Si, .inl (tC 0, 16, .inl si))] sz)) 0 0 (va_A [(o_S, .inr (5, [.ref o_So, .ref o_Si, .int (fS 2), .int (fS 3), .int (fS 4), .int (fS 5), .int (fS 6), .int (fS 7), .int (fS 8), .int (fS 9), .int (fS 10), .int (fS 11), .int (fS 12), .int (fS 13)])), (o_Si, .inl (tC 0, 16, .inl si))] sz) := by
  refine Met.ofW (cc := cX5_canEnd) (maxL := 1) (ret := (some .boolean)) (by decide) rfl ?_
  intro p e s m args below meth c s₁ B hml hv
  obtain ⟨rfl, hsz, hP, hK, hN, hD0⟩ := hv
  have hx := B.exec
  have hb := B.bytes
  have hr := B.returns
  have hts := atoms_spec (ws := wsX5_canEnd) B.pre
  have hown : s.vm.findClass RX5 = some m.cls := findClass_of_methodNamed B.named
  have hlocks := B.notSynchronized
  subst hsz
  have hD := hD0.self (sz := s.heap.size)
  generalize hAe : va_A [(o_S, .inr (5, [.ref o_So, .ref o_Si, .int (fS 2), .int (fS 3), .int (fS 4), .int (fS 5), .int (fS 6), .int (fS 7), .int (fS 8), .int (fS 9), .int (fS 10), .int (fS 11), .int (fS 12), .int (fS 13)])), (o_Si, .inl (tC 0, 16, .inl si))] s.heap.size = A at hD ⊢
  have hA : ∀ q : Nat, s.heap.size ≤ q → A q := fun q h => by rw [← hAe]; exact Or.inr h
  have hS : va_S A s.heap s.heap [] := va_S.rf
  have hP : va_P (dC, dI) vwCl [(o_S, .inr (5, [.ref o_So, .ref o_Si, .int (fS 2), .int (fS 3), .int (fS 4), .int (fS 5), .int (fS 6), .int (fS 7), .int (fS 8), .int (fS 9), .int (fS 10), .int (fS 11), .int (fS 12), .int (fS 13)])), (o_Si, .inl (tC 0, 16, .inl si))] s.heap := hP
  have hl := lv_entry ([.ref o_S]) (n := 1) (Nat.le_of_ble_eq_true rfl)
  rw [lg_entry_eq]
  generalize (lg_sl ([.ref o_S]) ++ List.replicate (1 - (lg_sl ([.ref o_S])).length) Slot.unset).toArray = ls at hl ⊢
  have hl : lv_has ls 1 [(0, .ref o_S)] := hl
  refine lv_aload_n hx hb dX5_canEnd_0 rfl (lv_at hl 0 rfl) ?_
  refine va_get (D := (dC, dI)) (ci := 5) (v := .int (fS 2)) (C := RX5) (T := TX5) (N := 14) hx hb hts (fun w h => List.mem_cons_of_mem _ (uwX5 w h)) hown hK hP 0 rfl rfl 2 (by decide) (hts _ (List.mem_cons_of_mem _ wd_210)) (fun _ h9 => h9) rfl dX5_canEnd_1 ?_
  refine lv_iconst (v := 3) hx hb dX5_canEnd_4 (by decide) ?_
  refine lv_icmp_ne (tgt := 30) hx hb dX5_canEnd_5 (by decide) (fun c_1 => ?_) (fun c_1 => ?_)
  · skip
    have c_1 : ¬ ((fS 2) = 3) := c_1
    refine lv_iconst (v := 0) hx hb dX5_canEnd_30 (by decide) ?_
    have hP9 := hP.sub (ws' := [(o_S, .inr (5, [.ref o_So, .ref o_Si, .int (fS 2), .int (fS 3), .int (fS 4), .int (fS 5), .int (fS 6), .int (fS 7), .int (fS 8), .int (fS 9), .int (fS 10), .int (fS 11), .int (fS 12), .int (fS 13)])), (o_Si, .inl (tC 0, 16, .inl si))]) [0, 1] rfl
    have hD9 := hD.sub (ws' := [(o_S, .inr (5, [.ref o_So, .ref o_Si, .int (fS 2), .int (fS 3), .int (fS 4), .int (fS 5), .int (fS 6), .int (fS 7), .int (fS 8), .int (fS 9), .int (fS 10), .int (fS 11), .int (fS 12), .int (fS 13)])), (o_Si, .inl (tC 0, 16, .inl si))]) [0, 1] (by decide) rfl
    exact W.zret (v := 0) hx hb hr rfl (fun t ht hW => ⟨⟨0, (), rfl, (by rw [FX5_canEnd]; rw [if_neg c_1]; try rfl), by rw [ht]; exact hP9, va_K.moved hW.alike hK, hD9⟩, hS.F ht⟩) hS.2.2 dX5_canEnd_31
  · skip
    have c_1 : (fS 2) = 3 := c_1
    have tc_1 : (fS 2).toInt = (3 : Int) := congrArg Int32.toInt c_1
    refine lv_aload_n hx hb dX5_canEnd_8 rfl (lv_at hl 0 rfl) ?_
    have hPc := hP.sub (ws' := [(o_S, .inr (5, [.ref o_So, .ref o_Si, .int (fS 2), .int (fS 3), .int (fS 4), .int (fS 5), .int (fS 6), .int (fS 7), .int (fS 8), .int (fS 9), .int (fS 10), .int (fS 11), .int (fS 12), .int (fS 13)]))]) [0] rfl
    have hDc := hD.sub (ws' := [(o_S, .inr (5, [.ref o_So, .ref o_Si, .int (fS 2), .int (fS 3), .int (fS 4), .int (fS 5), .int (fS 6), .int (fS 7), .int (fS 8), .int (fS 9), .int (fS 10), .int (fS 11), .int (fS 12), .int (fS 13)]))]) [0] (by decide) rfl
    have hFc := va_free (wc := [(o_S, .inr (5, [.ref o_So, .ref o_Si, .int (fS 2), .int (fS 3), .int (fS 4), .int (fS 5), .int (fS 6), .int (fS 7), .int (fS 8), .int (fS 9), .int (fS 10), .int (fS 11), .int (fS 12), .int (fS 13)]))]) hD hS hA [0] rfl
    refine va_calli (va_runV (As := []) (rest := []) ⟨hx, hb, hml, hown, hts⟩ (c_X5_onTheWay l dC dI tC o_S o_So o_Si s.heap.size fS) (cwV 0 hts (gV wd_480 wd_465 wd_466 wd_10 wd_467) rfl rfl rfl dsc_X5_onTheWay ⟨Nat.le_of_ble_eq_true rfl, Nat.le_of_ble_eq_true rfl⟩) ⟨fun a U g mk q => by obtain ⟨q0, q1, qP, qK, qN, qD⟩ := q; exact ⟨q0, q1, qP, va_K.moved (u := U) (U := U.calling g mk a) (Vm.Alike.refl U.vm) qK, NW.same (u := U) (U := U.calling g mk a) rfl qN, qD⟩, va_recv hK hPc (ci := 5) (q0 := 0) rfl rfl, fun U hU hW => ⟨rfl, by rw [hU], by rw [hU]; exact hPc, va_K.moved hW.alike hK, NW.warm hW hN, hDc.weaken (fun _ _ _ _ => trivial)⟩⟩ rfl rfl hl.1 rfl (lv_room (Nat.le_of_ble_eq_true rfl)) dX5_canEnd_9 ⟨Nat.le_of_ble_eq_true rfl, Nat.le_of_ble_eq_true rfl⟩) hS (fun q _ h => hFc q h) hFc (fun r_2 u t H1 locs ht hvm hw hB hz1 hk1 hS => ?_)
    obtain ⟨hP1, hK1, hD1⟩ := hB
    rw [ht] at hP1
    obtain ⟨hP, hD⟩ := va_join (wr := [(o_Si, .inl (tC 0, 16, .inl si))]) (w1 := [(o_S, .inr (5, [.ref o_So, .ref o_Si, .int (fS 2), .int (fS 3), .int (fS 4), .int (fS 5), .int (fS 6), .int (fS 7), .int (fS 8), .int (fS 9), .int (fS 10), .int (fS 11), .int (fS 12), .int (fS 13)]))]) hP hD [0] [1] rfl rfl (by decide) (by decide) hk1 hFc hP1 hD1
    generalize H1 = H at hP hS ⊢
    have hP : va_P (dC, dI) vwCl [(o_Si, .inl (tC 0, 16, .inl si)), (o_S, .inr (5, [.ref o_So, .ref o_Si, .int (fS 2), .int (fS 3), .int (fS 4), .int (fS 5), .int (fS 6), .int (fS 7), .int (fS 8), .int (fS 9), .int (fS 10), .int (fS 11), .int (fS 12), .int (fS 13)]))] H := hP
    have hD : va_D A [(o_Si, .inl (tC 0, 16, .inl si)), (o_S, .inr (5, [.ref o_So, .ref o_Si, .int (fS 2), .int (fS 3), .int (fS 4), .int (fS 5), .int (fS 6), .int (fS 7), .int (fS 8), .int (fS 9), .int (fS 10), .int (fS 11), .int (fS 12), .int (fS 13)]))] := hD
    have er_2 : r_2 = (FX5_onTheWay fS) := hw
    refine lv_aload_n hx hb dX5_canEnd_12 rfl (lv_at hl 0 rfl) ?_
    refine va_get (D := (dC, dI)) (ci := 5) (v := .int (fS 8)) (C := RX5) (T := TX5) (N := 14) hx hb hts (fun w h => List.mem_cons_of_mem _ (uwX5 w h)) hown hK hP 1 rfl rfl 8 (by decide) (hts _ (List.mem_cons_of_mem _ wd_221)) (fun _ h9 => h9) rfl dX5_canEnd_13 ?_
    refine lv_icmp_ne (tgt := 30) hx hb dX5_canEnd_16 (by decide) (fun c_3 => ?_) (fun c_3 => ?_)
    · skip
      have c_3 : ¬ (r_2 = (fS 8)) := c_3
      refine lv_iconst (v := 0) hx hb dX5_canEnd_30 (by decide) ?_
      have hP9 := hP.sub (ws' := [(o_S, .inr (5, [.ref o_So, .ref o_Si, .int (fS 2), .int (fS 3), .int (fS 4), .int (fS 5), .int (fS 6), .int (fS 7), .int (fS 8), .int (fS 9), .int (fS 10), .int (fS 11), .int (fS 12), .int (fS 13)])), (o_Si, .inl (tC 0, 16, .inl si))]) [1, 0] rfl
      have hD9 := hD.sub (ws' := [(o_S, .inr (5, [.ref o_So, .ref o_Si, .int (fS 2), .int (fS 3), .int (fS 4), .int (fS 5), .int (fS 6), .int (fS 7), .int (fS 8), .int (fS 9), .int (fS 10), .int (fS 11), .int (fS 12), .int (fS 13)])), (o_Si, .inl (tC 0, 16, .inl si))]) [1, 0] (by decide) rfl
      exact W.zret (v := 0) hx hb hr rfl (fun t ht hW => ⟨⟨0, (), rfl, (by subst er_2; rw [FX5_canEnd]; rw [if_pos c_1]; rw [if_neg c_3]; try rfl), by rw [ht]; exact hP9, va_K.moved hW.alike hK, hD9⟩, hS.F ht⟩) hS.2.2 dX5_canEnd_31
    · skip
      have c_3 : r_2 = (fS 8) := c_3
      have tc_3 : r_2.toInt = (fS 8).toInt := congrArg Int32.toInt c_3
      refine lv_aload_n hx hb dX5_canEnd_19 rfl (lv_at hl 0 rfl) ?_
      have hPc := hP.sub (ws' := [(o_S, .inr (5, [.ref o_So, .ref o_Si, .int (fS 2), .int (fS 3), .int (fS 4), .int (fS 5), .int (fS 6), .int (fS 7), .int (fS 8), .int (fS 9), .int (fS 10), .int (fS 11), .int (fS 12), .int (fS 13)])), (o_Si, .inl (tC 0, 16, .inl si))]) [1, 0] rfl
      have hDc := hD.sub (ws' := [(o_S, .inr (5, [.ref o_So, .ref o_Si, .int (fS 2), .int (fS 3), .int (fS 4), .int (fS 5), .int (fS 6), .int (fS 7), .int (fS 8), .int (fS 9), .int (fS 10), .int (fS 11), .int (fS 12), .int (fS 13)])), (o_Si, .inl (tC 0, 16, .inl si))]) [1, 0] (by decide) rfl
      have hFc := va_free (wc := [(o_S, .inr (5, [.ref o_So, .ref o_Si, .int (fS 2), .int (fS 3), .int (fS 4), .int (fS 5), .int (fS 6), .int (fS 7), .int (fS 8), .int (fS 9), .int (fS 10), .int (fS 11), .int (fS 12), .int (fS 13)])), (o_Si, .inl (tC 0, 16, .inl si))]) hD hS hA [1, 0] rfl
      refine va_calli (va_runV (As := []) (rest := []) ⟨hx, hb, hml, hown, hts⟩ (c_X5_lineLength l dC dI tC o_S o_So o_Si H.size fS si) (cwV 0 hts (gV wd_549 wd_497 wd_498 wd_10 wd_499) rfl rfl rfl dsc_X5_lineLength ⟨Nat.le_of_ble_eq_true rfl, Nat.le_of_ble_eq_true rfl⟩) ⟨fun a U g mk q => by obtain ⟨q0, q1, qP, qK, qN, qD⟩ := q; exact ⟨q0, q1, qP, va_K.moved (u := U) (U := U.calling g mk a) (Vm.Alike.refl U.vm) qK, NW.same (u := U) (U := U.calling g mk a) rfl qN, qD⟩, va_recv hK hPc (ci := 5) (q0 := 0) rfl rfl, fun U hU hW => ⟨rfl, by rw [hU], by rw [hU]; exact hPc, va_K.moved hW.alike hK, NW.warm hW hN, hDc.weaken (fun _ _ _ _ => trivial)⟩⟩ rfl rfl hl.1 rfl (lv_room (Nat.le_of_ble_eq_true rfl)) dX5_canEnd_20 ⟨Nat.le_of_ble_eq_true rfl, Nat.le_of_ble_eq_true rfl⟩) hS (fun q _ h => hFc q h) hFc (fun r_4 u t H1 locs ht hvm hw hB hz1 hk1 hS => ?_)
      obtain ⟨hP1, hK1, hD1⟩ := hB
      rw [ht] at hP1
      obtain ⟨hP, hD⟩ := va_join (wr := []) (w1 := [(o_S, .inr (5, [.ref o_So, .ref o_Si, .int (fS 2), .int (fS 3), .int (fS 4), .int (fS 5), .int (fS 6), .int (fS 7), .int (fS 8), .int (fS 9), .int (fS 10), .int (fS 11), .int (fS 12), .int (fS 13)])), (o_Si, .inl (tC 0, 16, .inl si))]) hP hD [1, 0] [] rfl rfl (by decide) (by decide) hk1 hFc hP1 hD1
      generalize H1 = H at hP hS ⊢
      have hP : va_P (dC, dI) vwCl [(o_S, .inr (5, [.ref o_So, .ref o_Si, .int (fS 2), .int (fS 3), .int (fS 4), .int (fS 5), .int (fS 6), .int (fS 7), .int (fS 8), .int (fS 9), .int (fS 10), .int (fS 11), .int (fS 12), .int (fS 13)])), (o_Si, .inl (tC 0, 16, .inl si))] H := hP
      have hD : va_D A [(o_S, .inr (5, [.ref o_So, .ref o_Si, .int (fS 2), .int (fS 3), .int (fS 4), .int (fS 5), .int (fS 6), .int (fS 7), .int (fS 8), .int (fS 9), .int (fS 10), .int (fS 11), .int (fS 12), .int (fS 13)])), (o_Si, .inl (tC 0, 16, .inl si))] := hD
      have er_4 : r_4 = (FX5_lineLength fS si) := hw
      refine lv_if_ne (tgt := 30) hx hb dX5_canEnd_23 (by decide) (fun c_5 => ?_) (fun c_5 => ?_)
      · skip
        have c_5 : ¬ (r_4 = 0) := c_5
        refine lv_iconst (v := 0) hx hb dX5_canEnd_30 (by decide) ?_
        have hP9 := hP.sub (ws' := [(o_S, .inr (5, [.ref o_So, .ref o_Si, .int (fS 2), .int (fS 3), .int (fS 4), .int (fS 5), .int (fS 6), .int (fS 7), .int (fS 8), .int (fS 9), .int (fS 10), .int (fS 11), .int (fS 12), .int (fS 13)])), (o_Si, .inl (tC 0, 16, .inl si))]) [0, 1] rfl
        have hD9 := hD.sub (ws' := [(o_S, .inr (5, [.ref o_So, .ref o_Si, .int (fS 2), .int (fS 3), .int (fS 4), .int (fS 5), .int (fS 6), .int (fS 7), .int (fS 8), .int (fS 9), .int (fS 10), .int (fS 11), .int (fS 12), .int (fS 13)])), (o_Si, .inl (tC 0, 16, .inl si))]) [0, 1] (by decide) rfl
        exact W.zret (v := 0) hx hb hr rfl (fun t ht hW => ⟨⟨0, (), rfl, (by subst er_2 er_4; rw [FX5_canEnd]; rw [if_pos c_1]; rw [if_pos c_3]; rw [if_neg c_5]; try rfl), by rw [ht]; exact hP9, va_K.moved hW.alike hK, hD9⟩, hS.F ht⟩) hS.2.2 dX5_canEnd_31
      · skip
        have c_5 : r_4 = 0 := c_5
        have tc_5 : r_4.toInt = (0 : Int) := congrArg Int32.toInt c_5
        refine lv_iconst (v := 1) hx hb dX5_canEnd_26 (by decide) ?_
        refine lv_goto (tgt := 31) hx hb dX5_canEnd_27 (by decide) ?_
        have hP9 := hP.sub (ws' := [(o_S, .inr (5, [.ref o_So, .ref o_Si, .int (fS 2), .int (fS 3), .int (fS 4), .int (fS 5), .int (fS 6), .int (fS 7), .int (fS 8), .int (fS 9), .int (fS 10), .int (fS 11), .int (fS 12), .int (fS 13)])), (o_Si, .inl (tC 0, 16, .inl si))]) [0, 1] rfl
        have hD9 := hD.sub (ws' := [(o_S, .inr (5, [.ref o_So, .ref o_Si, .int (fS 2), .int (fS 3), .int (fS 4), .int (fS 5), .int (fS 6), .int (fS 7), .int (fS 8), .int (fS 9), .int (fS 10), .int (fS 11), .int (fS 12), .int (fS 13)])), (o_Si, .inl (tC 0, 16, .inl si))]) [0, 1] (by decide) rfl
        exact W.zret (v := 1) hx hb hr rfl (fun t ht hW => ⟨⟨1, (), rfl, (by subst er_2 er_4; rw [FX5_canEnd]; rw [if_pos c_1]; rw [if_pos c_3]; rw [if_pos c_5]; try rfl), by rw [ht]; exact hP9, va_K.moved hW.alike hK, hD9⟩, hS.F ht⟩) hS.2.2 dX5_canEnd_31
set_option maxHeartbeats 4000000 in
set_option maxRecDepth 100000 in
theorem c_X5_tell (l : Launch) (dC : Nat → ClassId) (dI : Nat → Nat → Nat) (tC : Nat → ClassId) (o_S o_So o_Si : Nat) (sz : Nat) (fS : (Nat → Int32)) (i0 : Int32) : Met l yX5_tell wsX5_tell ({ frames := 0, cells := 0, slots := 0, locals := 0 }) (va_Pc [.ref o_S, .int i0] (fun U => U.heap.size = sz ∧ va_P (dC, dI) vwCl [(o_S, .inr (5, [.ref o_So, .ref o_Si, .int (fS 2), .int (fS 3), .int (fS 4), .int (fS 5), .int (fS 6), .int (fS 7), .int (fS 8), .int (fS 9), .int (fS 10), .int (fS 11), .int (fS 12), .int (fS 13)]))] U.heap ∧ va_K (dC, dI) vwCl (TY tC) U ∧ NW U ∧ va_D (fun _ => True) [(o_S, .inr (5, [.ref o_So, .ref o_Si, .int (fS 2), .int (fS 3), .int (fS 4), .int (fS 5), .int (fS 6), .int (fS 7), .int (fS 8), .int (fS 9), .int (fS 10), .int (fS 11), .int (fS 12), .int (fS 13)]))])) (va_Qi (fun (r : Int32) (u : Unit) => r = FX5_tell fS i0) (fun (u : Unit) (t : State) => va_P (dC, dI) vwCl [(o_S, .inr (5, [.ref o_So, .ref o_Si, .int (fS 2), .int (fS 3), .int (fS 4), .int (fS 5), .int (fS 6), .int (fS 7), .int (fS 8), .int (fS 9), .int (fS 10), .int (fS 11), .int (fS 12), .int (fS 13)]))] t.heap ∧ va_K (dC, dI) vwCl (TY tC) t ∧ va_D (va_A [(o_S, .inr (5, [.ref o_So, .ref o_Si, .int (fS 2), .int (fS 3), .int (fS 4), .int (fS 5), .int (fS 6), .int (fS 7), .int (fS 8), .int (fS 9), .int (fS 10), .int (fS 11), .int (fS 12), .int (fS 13)]))] sz) [(o_S, .inr (5, [.ref o_So, .ref o_Si, .int (fS 2), .int (fS 3), .int (fS 4), .int (fS 5), .int (fS 6), .int (fS 7), .int (fS 8), .int (fS 9), .int (fS 10), .int (fS 11), .int (fS 12), .int (fS 13)]))]) (va_A [(o_S, .inr (5, [.ref o_So, .ref o_Si, .int (fS 2), .int (fS 3), .int (fS 4), .int (fS 5), .int (fS 6), .int (fS 7), .int (fS 8), .int (fS 9), .int (fS 10), .int (fS 11), .int (fS 12), .int (fS 13)]))] sz)) 0 0 (va_A [(o_S, .inr (5, [.ref o_So, .ref o_Si, .int (fS 2), .int (fS 3), .int (fS 4), .int (fS 5), .int (fS 6), .int (fS 7), .int (fS 8), .int (fS 9), .int (fS 10), .int (fS 11), .int (fS 12), .int (fS 13)]))] sz) := by
  refine Met.ofW (cc := cX5_tell) (maxL := 3) (ret := (some .int)) (by decide) rfl ?_
  intro p e s m args below meth c s₁ B hml hv
  obtain ⟨rfl, hsz, hP, hK, hN, hD0⟩ := hv
  have hx := B.exec
  have hb := B.bytes
  have hr := B.returns
  have hts := atoms_spec (ws := wsX5_tell) B.pre
  have hown : s.vm.findClass RX5 = some m.cls := findClass_of_methodNamed B.named
  have hlocks := B.notSynchronized
  subst hsz
  have hD := hD0.self (sz := s.heap.size)
  generalize hAe : va_A [(o_S, .inr (5, [.ref o_So, .ref o_Si, .int (fS 2), .int (fS 3), .int (fS 4), .int (fS 5), .int (fS 6), .int (fS 7), .int (fS 8), .int (fS 9), .int (fS 10), .int (fS 11), .int (fS 12), .int (fS 13)]))] s.heap.size = A at hD ⊢
  have hA : ∀ q : Nat, s.heap.size ≤ q → A q := fun q h => by rw [← hAe]; exact Or.inr h
  have hS : va_S A s.heap s.heap [] := va_S.rf
  have hP : va_P (dC, dI) vwCl [(o_S, .inr (5, [.ref o_So, .ref o_Si, .int (fS 2), .int (fS 3), .int (fS 4), .int (fS 5), .int (fS 6), .int (fS 7), .int (fS 8), .int (fS 9), .int (fS 10), .int (fS 11), .int (fS 12), .int (fS 13)]))] s.heap := hP
  have hl := lv_entry ([.ref o_S, .int i0]) (n := 3) (Nat.le_of_ble_eq_true rfl)
  rw [lg_entry_eq]
  generalize (lg_sl ([.ref o_S, .int i0]) ++ List.replicate (3 - (lg_sl ([.ref o_S, .int i0])).length) Slot.unset).toArray = ls at hl ⊢
  have hl : lv_has ls 3 [(0, .ref o_S), (1, .int i0)] := hl
  refine lv_iload_n hx hb dX5_tell_0 rfl (lv_at hl 1 rfl) ?_
  by_cases c_1 : i0 = 0
  · refine lv_tableIn (tgt := 64) hx hb dX5_tell_1 (by rw [c_1]; decide) (by rw [c_1]; decide) (by rw [c_1]; rfl) (by decide) ?_
    refine lv_aload_n hx hb dX5_tell_64 rfl (lv_at hl 0 rfl) ?_
    refine va_get (D := (dC, dI)) (ci := 5) (v := .int (fS 2)) (C := RX5) (T := TX5) (N := 14) hx hb hts (fun w h => List.mem_cons_of_mem _ (uwX5 w h)) hown hK hP 0 rfl rfl 2 (by decide) (hts _ (List.mem_cons_of_mem _ wd_210)) (fun _ h9 => h9) rfl dX5_tell_65 ?_
    refine lv_topi (fun x_2 (ex_2 : x_2 = (fS 2)) => ?_)
    refine lv_istore_n (lv' := [(2, .int x_2), (0, .ref o_S), (1, .int i0)]) hx hb dX5_tell_68 rfl hl (by decide) rfl (fun ls hl => ?_)
    refine lv_goto (tgt := 162) hx hb dX5_tell_69 (by decide) ?_
    refine lv_aload_n hx hb dX5_tell_162 rfl (lv_at hl 1 rfl) ?_
    refine va_get (D := (dC, dI)) (ci := 5) (v := .int (fS 2)) (C := RX5) (T := TX5) (N := 14) hx hb hts (fun w h => List.mem_cons_of_mem _ (uwX5 w h)) hown hK hP 0 rfl rfl 2 (by decide) (hts _ (List.mem_cons_of_mem _ wd_210)) (fun _ h9 => h9) rfl dX5_tell_163 ?_
    refine lv_if_ne (tgt := 173) hx hb dX5_tell_166 (by decide) (fun c_3 => ?_) (fun c_3 => ?_)
    · skip
      have c_3 : ¬ ((fS 2) = 0) := c_3
      refine lv_iload_n hx hb dX5_tell_173 rfl (lv_at hl 0 rfl) ?_
      have hP9 := hP.sub (ws' := [(o_S, .inr (5, [.ref o_So, .ref o_Si, .int (fS 2), .int (fS 3), .int (fS 4), .int (fS 5), .int (fS 6), .int (fS 7), .int (fS 8), .int (fS 9), .int (fS 10), .int (fS 11), .int (fS 12), .int (fS 13)]))]) [0] rfl
      have hD9 := hD.sub (ws' := [(o_S, .inr (5, [.ref o_So, .ref o_Si, .int (fS 2), .int (fS 3), .int (fS 4), .int (fS 5), .int (fS 6), .int (fS 7), .int (fS 8), .int (fS 9), .int (fS 10), .int (fS 11), .int (fS 12), .int (fS 13)]))]) [0] (by decide) rfl
      exact W.iret (v := x_2) hx hb hr (fun t ht hW => ⟨⟨x_2, (), rfl, (by subst ex_2; rw [FX5_tell]; rw [if_pos c_1]; rw [if_neg c_3]; try rfl), by rw [ht]; exact hP9, va_K.moved hW.alike hK, hD9⟩, hS.F ht⟩) hS.2.2 dX5_tell_174
    · skip
      have c_3 : (fS 2) = 0 := c_3
      have tc_3 : (fS 2).toInt = (0 : Int) := congrArg Int32.toInt c_3
      refine lv_iconst (v := 0) hx hb dX5_tell_169 (by decide) ?_
      refine lv_goto (tgt := 174) hx hb dX5_tell_170 (by decide) ?_
      have hP9 := hP.sub (ws' := [(o_S, .inr (5, [.ref o_So, .ref o_Si, .int (fS 2), .int (fS 3), .int (fS 4), .int (fS 5), .int (fS 6), .int (fS 7), .int (fS 8), .int (fS 9), .int (fS 10), .int (fS 11), .int (fS 12), .int (fS 13)]))]) [0] rfl
      have hD9 := hD.sub (ws' := [(o_S, .inr (5, [.ref o_So, .ref o_Si, .int (fS 2), .int (fS 3), .int (fS 4), .int (fS 5), .int (fS 6), .int (fS 7), .int (fS 8), .int (fS 9), .int (fS 10), .int (fS 11), .int (fS 12), .int (fS 13)]))]) [0] (by decide) rfl
      exact W.iret (v := 0) hx hb hr (fun t ht hW => ⟨⟨0, (), rfl, (by subst ex_2; rw [FX5_tell]; rw [if_pos c_1]; rw [if_pos c_3]; try rfl), by rw [ht]; exact hP9, va_K.moved hW.alike hK, hD9⟩, hS.F ht⟩) hS.2.2 dX5_tell_174
  by_cases c_4 : i0 = 1
  · refine lv_tableIn (tgt := 72) hx hb dX5_tell_1 (by rw [c_4]; decide) (by rw [c_4]; decide) (by rw [c_4]; rfl) (by decide) ?_
    refine lv_aload_n hx hb dX5_tell_72 rfl (lv_at hl 0 rfl) ?_
    refine va_get (D := (dC, dI)) (ci := 5) (v := .int (fS 3)) (C := RX5) (T := TX5) (N := 14) hx hb hts (fun w h => List.mem_cons_of_mem _ (uwX5 w h)) hown hK hP 0 rfl rfl 3 (by decide) (hts _ (List.mem_cons_of_mem _ wd_212)) (fun _ h9 => h9) rfl dX5_tell_73 ?_
    refine lv_topi (fun x_5 (ex_5 : x_5 = (fS 3)) => ?_)
    refine lv_istore_n (lv' := [(2, .int x_5), (0, .ref o_S), (1, .int i0)]) hx hb dX5_tell_76 rfl hl (by decide) rfl (fun ls hl => ?_)
    refine lv_goto (tgt := 162) hx hb dX5_tell_77 (by decide) ?_
    refine lv_aload_n hx hb dX5_tell_162 rfl (lv_at hl 1 rfl) ?_
    refine va_get (D := (dC, dI)) (ci := 5) (v := .int (fS 2)) (C := RX5) (T := TX5) (N := 14) hx hb hts (fun w h => List.mem_cons_of_mem _ (uwX5 w h)) hown hK hP 0 rfl rfl 2 (by decide) (hts _ (List.mem_cons_of_mem _ wd_210)) (fun _ h9 => h9) rfl dX5_tell_163 ?_
    refine lv_if_ne (tgt := 173) hx hb dX5_tell_166 (by decide) (fun c_6 => ?_) (fun c_6 => ?_)
    · skip
      have c_6 : ¬ ((fS 2) = 0) := c_6
      refine lv_iload_n hx hb dX5_tell_173 rfl (lv_at hl 0 rfl) ?_
      have hP9 := hP.sub (ws' := [(o_S, .inr (5, [.ref o_So, .ref o_Si, .int (fS 2), .int (fS 3), .int (fS 4), .int (fS 5), .int (fS 6), .int (fS 7), .int (fS 8), .int (fS 9), .int (fS 10), .int (fS 11), .int (fS 12), .int (fS 13)]))]) [0] rfl
      have hD9 := hD.sub (ws' := [(o_S, .inr (5, [.ref o_So, .ref o_Si, .int (fS 2), .int (fS 3), .int (fS 4), .int (fS 5), .int (fS 6), .int (fS 7), .int (fS 8), .int (fS 9), .int (fS 10), .int (fS 11), .int (fS 12), .int (fS 13)]))]) [0] (by decide) rfl
      exact W.iret (v := x_5) hx hb hr (fun t ht hW => ⟨⟨x_5, (), rfl, (by subst ex_5; rw [FX5_tell]; rw [if_neg c_1]; rw [if_pos c_4]; rw [if_neg c_6]; try rfl), by rw [ht]; exact hP9, va_K.moved hW.alike hK, hD9⟩, hS.F ht⟩) hS.2.2 dX5_tell_174
    · skip
      have c_6 : (fS 2) = 0 := c_6
      have tc_6 : (fS 2).toInt = (0 : Int) := congrArg Int32.toInt c_6
      refine lv_iconst (v := 0) hx hb dX5_tell_169 (by decide) ?_
      refine lv_goto (tgt := 174) hx hb dX5_tell_170 (by decide) ?_
      have hP9 := hP.sub (ws' := [(o_S, .inr (5, [.ref o_So, .ref o_Si, .int (fS 2), .int (fS 3), .int (fS 4), .int (fS 5), .int (fS 6), .int (fS 7), .int (fS 8), .int (fS 9), .int (fS 10), .int (fS 11), .int (fS 12), .int (fS 13)]))]) [0] rfl
      have hD9 := hD.sub (ws' := [(o_S, .inr (5, [.ref o_So, .ref o_Si, .int (fS 2), .int (fS 3), .int (fS 4), .int (fS 5), .int (fS 6), .int (fS 7), .int (fS 8), .int (fS 9), .int (fS 10), .int (fS 11), .int (fS 12), .int (fS 13)]))]) [0] (by decide) rfl
      exact W.iret (v := 0) hx hb hr (fun t ht hW => ⟨⟨0, (), rfl, (by subst ex_5; rw [FX5_tell]; rw [if_neg c_1]; rw [if_pos c_4]; rw [if_pos c_6]; try rfl), by rw [ht]; exact hP9, va_K.moved hW.alike hK, hD9⟩, hS.F ht⟩) hS.2.2 dX5_tell_174
  by_cases c_7 : i0 = 2
  · refine lv_tableIn (tgt := 80) hx hb dX5_tell_1 (by rw [c_7]; decide) (by rw [c_7]; decide) (by rw [c_7]; rfl) (by decide) ?_
    refine lv_aload_n hx hb dX5_tell_80 rfl (lv_at hl 0 rfl) ?_
    refine va_get (D := (dC, dI)) (ci := 5) (v := .int (fS 4)) (C := RX5) (T := TX5) (N := 14) hx hb hts (fun w h => List.mem_cons_of_mem _ (uwX5 w h)) hown hK hP 0 rfl rfl 4 (by decide) (hts _ (List.mem_cons_of_mem _ wd_214)) (fun _ h9 => h9) rfl dX5_tell_81 ?_
    refine lv_topi (fun x_8 (ex_8 : x_8 = (fS 4)) => ?_)
    refine lv_istore_n (lv' := [(2, .int x_8), (0, .ref o_S), (1, .int i0)]) hx hb dX5_tell_84 rfl hl (by decide) rfl (fun ls hl => ?_)
    refine lv_goto (tgt := 162) hx hb dX5_tell_85 (by decide) ?_
    refine lv_aload_n hx hb dX5_tell_162 rfl (lv_at hl 1 rfl) ?_
    refine va_get (D := (dC, dI)) (ci := 5) (v := .int (fS 2)) (C := RX5) (T := TX5) (N := 14) hx hb hts (fun w h => List.mem_cons_of_mem _ (uwX5 w h)) hown hK hP 0 rfl rfl 2 (by decide) (hts _ (List.mem_cons_of_mem _ wd_210)) (fun _ h9 => h9) rfl dX5_tell_163 ?_
    refine lv_if_ne (tgt := 173) hx hb dX5_tell_166 (by decide) (fun c_9 => ?_) (fun c_9 => ?_)
    · skip
      have c_9 : ¬ ((fS 2) = 0) := c_9
      refine lv_iload_n hx hb dX5_tell_173 rfl (lv_at hl 0 rfl) ?_
      have hP9 := hP.sub (ws' := [(o_S, .inr (5, [.ref o_So, .ref o_Si, .int (fS 2), .int (fS 3), .int (fS 4), .int (fS 5), .int (fS 6), .int (fS 7), .int (fS 8), .int (fS 9), .int (fS 10), .int (fS 11), .int (fS 12), .int (fS 13)]))]) [0] rfl
      have hD9 := hD.sub (ws' := [(o_S, .inr (5, [.ref o_So, .ref o_Si, .int (fS 2), .int (fS 3), .int (fS 4), .int (fS 5), .int (fS 6), .int (fS 7), .int (fS 8), .int (fS 9), .int (fS 10), .int (fS 11), .int (fS 12), .int (fS 13)]))]) [0] (by decide) rfl
      exact W.iret (v := x_8) hx hb hr (fun t ht hW => ⟨⟨x_8, (), rfl, (by subst ex_8; rw [FX5_tell]; rw [if_neg c_1]; rw [if_neg c_4]; rw [if_pos c_7]; rw [if_neg c_9]; try rfl), by rw [ht]; exact hP9, va_K.moved hW.alike hK, hD9⟩, hS.F ht⟩) hS.2.2 dX5_tell_174
    · skip
      have c_9 : (fS 2) = 0 := c_9
      have tc_9 : (fS 2).toInt = (0 : Int) := congrArg Int32.toInt c_9
      refine lv_iconst (v := 0) hx hb dX5_tell_169 (by decide) ?_
      refine lv_goto (tgt := 174) hx hb dX5_tell_170 (by decide) ?_
      have hP9 := hP.sub (ws' := [(o_S, .inr (5, [.ref o_So, .ref o_Si, .int (fS 2), .int (fS 3), .int (fS 4), .int (fS 5), .int (fS 6), .int (fS 7), .int (fS 8), .int (fS 9), .int (fS 10), .int (fS 11), .int (fS 12), .int (fS 13)]))]) [0] rfl
      have hD9 := hD.sub (ws' := [(o_S, .inr (5, [.ref o_So, .ref o_Si, .int (fS 2), .int (fS 3), .int (fS 4), .int (fS 5), .int (fS 6), .int (fS 7), .int (fS 8), .int (fS 9), .int (fS 10), .int (fS 11), .int (fS 12), .int (fS 13)]))]) [0] (by decide) rfl
      exact W.iret (v := 0) hx hb hr (fun t ht hW => ⟨⟨0, (), rfl, (by subst ex_8; rw [FX5_tell]; rw [if_neg c_1]; rw [if_neg c_4]; rw [if_pos c_7]; rw [if_pos c_9]; try rfl), by rw [ht]; exact hP9, va_K.moved hW.alike hK, hD9⟩, hS.F ht⟩) hS.2.2 dX5_tell_174
  by_cases c_10 : i0 = 3
  · refine lv_tableIn (tgt := 88) hx hb dX5_tell_1 (by rw [c_10]; decide) (by rw [c_10]; decide) (by rw [c_10]; rfl) (by decide) ?_
    refine lv_aload_n hx hb dX5_tell_88 rfl (lv_at hl 0 rfl) ?_
    refine va_get (D := (dC, dI)) (ci := 5) (v := .int (fS 5)) (C := RX5) (T := TX5) (N := 14) hx hb hts (fun w h => List.mem_cons_of_mem _ (uwX5 w h)) hown hK hP 0 rfl rfl 5 (by decide) (hts _ (List.mem_cons_of_mem _ wd_216)) (fun _ h9 => h9) rfl dX5_tell_89 ?_
    refine lv_topi (fun x_11 (ex_11 : x_11 = (fS 5)) => ?_)
    refine lv_istore_n (lv' := [(2, .int x_11), (0, .ref o_S), (1, .int i0)]) hx hb dX5_tell_92 rfl hl (by decide) rfl (fun ls hl => ?_)
    refine lv_goto (tgt := 162) hx hb dX5_tell_93 (by decide) ?_
    refine lv_aload_n hx hb dX5_tell_162 rfl (lv_at hl 1 rfl) ?_
    refine va_get (D := (dC, dI)) (ci := 5) (v := .int (fS 2)) (C := RX5) (T := TX5) (N := 14) hx hb hts (fun w h => List.mem_cons_of_mem _ (uwX5 w h)) hown hK hP 0 rfl rfl 2 (by decide) (hts _ (List.mem_cons_of_mem _ wd_210)) (fun _ h9 => h9) rfl dX5_tell_163 ?_
    refine lv_if_ne (tgt := 173) hx hb dX5_tell_166 (by decide) (fun c_12 => ?_) (fun c_12 => ?_)
    · skip
      have c_12 : ¬ ((fS 2) = 0) := c_12
      refine lv_iload_n hx hb dX5_tell_173 rfl (lv_at hl 0 rfl) ?_
      have hP9 := hP.sub (ws' := [(o_S, .inr (5, [.ref o_So, .ref o_Si, .int (fS 2), .int (fS 3), .int (fS 4), .int (fS 5), .int (fS 6), .int (fS 7), .int (fS 8), .int (fS 9), .int (fS 10), .int (fS 11), .int (fS 12), .int (fS 13)]))]) [0] rfl
      have hD9 := hD.sub (ws' := [(o_S, .inr (5, [.ref o_So, .ref o_Si, .int (fS 2), .int (fS 3), .int (fS 4), .int (fS 5), .int (fS 6), .int (fS 7), .int (fS 8), .int (fS 9), .int (fS 10), .int (fS 11), .int (fS 12), .int (fS 13)]))]) [0] (by decide) rfl
      exact W.iret (v := x_11) hx hb hr (fun t ht hW => ⟨⟨x_11, (), rfl, (by subst ex_11; rw [FX5_tell]; rw [if_neg c_1]; rw [if_neg c_4]; rw [if_neg c_7]; rw [if_pos c_10]; rw [if_neg c_12]; try rfl), by rw [ht]; exact hP9, va_K.moved hW.alike hK, hD9⟩, hS.F ht⟩) hS.2.2 dX5_tell_174
    · skip
      have c_12 : (fS 2) = 0 := c_12
      have tc_12 : (fS 2).toInt = (0 : Int) := congrArg Int32.toInt c_12
      refine lv_iconst (v := 0) hx hb dX5_tell_169 (by decide) ?_
      refine lv_goto (tgt := 174) hx hb dX5_tell_170 (by decide) ?_
      have hP9 := hP.sub (ws' := [(o_S, .inr (5, [.ref o_So, .ref o_Si, .int (fS 2), .int (fS 3), .int (fS 4), .int (fS 5), .int (fS 6), .int (fS 7), .int (fS 8), .int (fS 9), .int (fS 10), .int (fS 11), .int (fS 12), .int (fS 13)]))]) [0] rfl
      have hD9 := hD.sub (ws' := [(o_S, .inr (5, [.ref o_So, .ref o_Si, .int (fS 2), .int (fS 3), .int (fS 4), .int (fS 5), .int (fS 6), .int (fS 7), .int (fS 8), .int (fS 9), .int (fS 10), .int (fS 11), .int (fS 12), .int (fS 13)]))]) [0] (by decide) rfl
      exact W.iret (v := 0) hx hb hr (fun t ht hW => ⟨⟨0, (), rfl, (by subst ex_11; rw [FX5_tell]; rw [if_neg c_1]; rw [if_neg c_4]; rw [if_neg c_7]; rw [if_pos c_10]; rw [if_pos c_12]; try rfl), by rw [ht]; exact hP9, va_K.moved hW.alike hK, hD9⟩, hS.F ht⟩) hS.2.2 dX5_tell_174
  by_cases c_13 : i0 = 4
  · refine lv_tableIn (tgt := 96) hx hb dX5_tell_1 (by rw [c_13]; decide) (by rw [c_13]; decide) (by rw [c_13]; rfl) (by decide) ?_
    refine lv_aload_n hx hb dX5_tell_96 rfl (lv_at hl 0 rfl) ?_
    refine va_get (D := (dC, dI)) (ci := 5) (v := .int (fS 6)) (C := RX5) (T := TX5) (N := 14) hx hb hts (fun w h => List.mem_cons_of_mem _ (uwX5 w h)) hown hK hP 0 rfl rfl 6 (by decide) (hts _ (List.mem_cons_of_mem _ wd_218)) (fun _ h9 => h9) rfl dX5_tell_97 ?_
    refine lv_topi (fun x_14 (ex_14 : x_14 = (fS 6)) => ?_)
    refine lv_istore_n (lv' := [(2, .int x_14), (0, .ref o_S), (1, .int i0)]) hx hb dX5_tell_100 rfl hl (by decide) rfl (fun ls hl => ?_)
    refine lv_goto (tgt := 162) hx hb dX5_tell_101 (by decide) ?_
    refine lv_aload_n hx hb dX5_tell_162 rfl (lv_at hl 1 rfl) ?_
    refine va_get (D := (dC, dI)) (ci := 5) (v := .int (fS 2)) (C := RX5) (T := TX5) (N := 14) hx hb hts (fun w h => List.mem_cons_of_mem _ (uwX5 w h)) hown hK hP 0 rfl rfl 2 (by decide) (hts _ (List.mem_cons_of_mem _ wd_210)) (fun _ h9 => h9) rfl dX5_tell_163 ?_
    refine lv_if_ne (tgt := 173) hx hb dX5_tell_166 (by decide) (fun c_15 => ?_) (fun c_15 => ?_)
    · skip
      have c_15 : ¬ ((fS 2) = 0) := c_15
      refine lv_iload_n hx hb dX5_tell_173 rfl (lv_at hl 0 rfl) ?_
      have hP9 := hP.sub (ws' := [(o_S, .inr (5, [.ref o_So, .ref o_Si, .int (fS 2), .int (fS 3), .int (fS 4), .int (fS 5), .int (fS 6), .int (fS 7), .int (fS 8), .int (fS 9), .int (fS 10), .int (fS 11), .int (fS 12), .int (fS 13)]))]) [0] rfl
      have hD9 := hD.sub (ws' := [(o_S, .inr (5, [.ref o_So, .ref o_Si, .int (fS 2), .int (fS 3), .int (fS 4), .int (fS 5), .int (fS 6), .int (fS 7), .int (fS 8), .int (fS 9), .int (fS 10), .int (fS 11), .int (fS 12), .int (fS 13)]))]) [0] (by decide) rfl
      exact W.iret (v := x_14) hx hb hr (fun t ht hW => ⟨⟨x_14, (), rfl, (by subst ex_14; rw [FX5_tell]; rw [if_neg c_1]; rw [if_neg c_4]; rw [if_neg c_7]; rw [if_neg c_10]; rw [if_pos c_13]; rw [if_neg c_15]; try rfl), by rw [ht]; exact hP9, va_K.moved hW.alike hK, hD9⟩, hS.F ht⟩) hS.2.2 dX5_tell_174
    · skip
      have c_15 : (fS 2) = 0 := c_15
      have tc_15 : (fS 2).toInt = (0 : Int) := congrArg Int32.toInt c_15
      refine lv_iconst (v := 0) hx hb dX5_tell_169 (by decide) ?_
      refine lv_goto (tgt := 174) hx hb dX5_tell_170 (by decide) ?_
      have hP9 := hP.sub (ws' := [(o_S, .inr (5, [.ref o_So, .ref o_Si, .int (fS 2), .int (fS 3), .int (fS 4), .int (fS 5), .int (fS 6), .int (fS 7), .int (fS 8), .int (fS 9), .int (fS 10), .int (fS 11), .int (fS 12), .int (fS 13)]))]) [0] rfl
      have hD9 := hD.sub (ws' := [(o_S, .inr (5, [.ref o_So, .ref o_Si, .int (fS 2), .int (fS 3), .int (fS 4), .int (fS 5), .int (fS 6), .int (fS 7), .int (fS 8), .int (fS 9), .int (fS 10), .int (fS 11), .int (fS 12), .int (fS 13)]))]) [0] (by decide) rfl
      exact W.iret (v := 0) hx hb hr (fun t ht hW => ⟨⟨0, (), rfl, (by subst ex_14; rw [FX5_tell]; rw [if_neg c_1]; rw [if_neg c_4]; rw [if_neg c_7]; rw [if_neg c_10]; rw [if_pos c_13]; rw [if_pos c_15]; try rfl), by rw [ht]; exact hP9, va_K.moved hW.alike hK, hD9⟩, hS.F ht⟩) hS.2.2 dX5_tell_174
  by_cases c_16 : i0 = 5
  · refine lv_tableIn (tgt := 104) hx hb dX5_tell_1 (by rw [c_16]; decide) (by rw [c_16]; decide) (by rw [c_16]; rfl) (by decide) ?_
    refine lv_aload_n hx hb dX5_tell_104 rfl (lv_at hl 0 rfl) ?_
    refine va_get (D := (dC, dI)) (ci := 5) (v := .int (fS 7)) (C := RX5) (T := TX5) (N := 14) hx hb hts (fun w h => List.mem_cons_of_mem _ (uwX5 w h)) hown hK hP 0 rfl rfl 7 (by decide) (hts _ (List.mem_cons_of_mem _ wd_219)) (fun _ h9 => h9) rfl dX5_tell_105 ?_
    refine lv_topi (fun x_17 (ex_17 : x_17 = (fS 7)) => ?_)
    refine lv_istore_n (lv' := [(2, .int x_17), (0, .ref o_S), (1, .int i0)]) hx hb dX5_tell_108 rfl hl (by decide) rfl (fun ls hl => ?_)
    refine lv_goto (tgt := 162) hx hb dX5_tell_109 (by decide) ?_
    refine lv_aload_n hx hb dX5_tell_162 rfl (lv_at hl 1 rfl) ?_
    refine va_get (D := (dC, dI)) (ci := 5) (v := .int (fS 2)) (C := RX5) (T := TX5) (N := 14) hx hb hts (fun w h => List.mem_cons_of_mem _ (uwX5 w h)) hown hK hP 0 rfl rfl 2 (by decide) (hts _ (List.mem_cons_of_mem _ wd_210)) (fun _ h9 => h9) rfl dX5_tell_163 ?_
    refine lv_if_ne (tgt := 173) hx hb dX5_tell_166 (by decide) (fun c_18 => ?_) (fun c_18 => ?_)
    · skip
      have c_18 : ¬ ((fS 2) = 0) := c_18
      refine lv_iload_n hx hb dX5_tell_173 rfl (lv_at hl 0 rfl) ?_
      have hP9 := hP.sub (ws' := [(o_S, .inr (5, [.ref o_So, .ref o_Si, .int (fS 2), .int (fS 3), .int (fS 4), .int (fS 5), .int (fS 6), .int (fS 7), .int (fS 8), .int (fS 9), .int (fS 10), .int (fS 11), .int (fS 12), .int (fS 13)]))]) [0] rfl
      have hD9 := hD.sub (ws' := [(o_S, .inr (5, [.ref o_So, .ref o_Si, .int (fS 2), .int (fS 3), .int (fS 4), .int (fS 5), .int (fS 6), .int (fS 7), .int (fS 8), .int (fS 9), .int (fS 10), .int (fS 11), .int (fS 12), .int (fS 13)]))]) [0] (by decide) rfl
      exact W.iret (v := x_17) hx hb hr (fun t ht hW => ⟨⟨x_17, (), rfl, (by subst ex_17; rw [FX5_tell]; rw [if_neg c_1]; rw [if_neg c_4]; rw [if_neg c_7]; rw [if_neg c_10]; rw [if_neg c_13]; rw [if_pos c_16]; rw [if_neg c_18]; try rfl), by rw [ht]; exact hP9, va_K.moved hW.alike hK, hD9⟩, hS.F ht⟩) hS.2.2 dX5_tell_174
    · skip
      have c_18 : (fS 2) = 0 := c_18
      have tc_18 : (fS 2).toInt = (0 : Int) := congrArg Int32.toInt c_18
      refine lv_iconst (v := 0) hx hb dX5_tell_169 (by decide) ?_
      refine lv_goto (tgt := 174) hx hb dX5_tell_170 (by decide) ?_
      have hP9 := hP.sub (ws' := [(o_S, .inr (5, [.ref o_So, .ref o_Si, .int (fS 2), .int (fS 3), .int (fS 4), .int (fS 5), .int (fS 6), .int (fS 7), .int (fS 8), .int (fS 9), .int (fS 10), .int (fS 11), .int (fS 12), .int (fS 13)]))]) [0] rfl
      have hD9 := hD.sub (ws' := [(o_S, .inr (5, [.ref o_So, .ref o_Si, .int (fS 2), .int (fS 3), .int (fS 4), .int (fS 5), .int (fS 6), .int (fS 7), .int (fS 8), .int (fS 9), .int (fS 10), .int (fS 11), .int (fS 12), .int (fS 13)]))]) [0] (by decide) rfl
      exact W.iret (v := 0) hx hb hr (fun t ht hW => ⟨⟨0, (), rfl, (by subst ex_17; rw [FX5_tell]; rw [if_neg c_1]; rw [if_neg c_4]; rw [if_neg c_7]; rw [if_neg c_10]; rw [if_neg c_13]; rw [if_pos c_16]; rw [if_pos c_18]; try rfl), by rw [ht]; exact hP9, va_K.moved hW.alike hK, hD9⟩, hS.F ht⟩) hS.2.2 dX5_tell_174
  by_cases c_19 : i0 = 6
  · refine lv_tableIn (tgt := 112) hx hb dX5_tell_1 (by rw [c_19]; decide) (by rw [c_19]; decide) (by rw [c_19]; rfl) (by decide) ?_
    refine lv_aload_n hx hb dX5_tell_112 rfl (lv_at hl 0 rfl) ?_
    refine va_get (D := (dC, dI)) (ci := 5) (v := .int (fS 8)) (C := RX5) (T := TX5) (N := 14) hx hb hts (fun w h => List.mem_cons_of_mem _ (uwX5 w h)) hown hK hP 0 rfl rfl 8 (by decide) (hts _ (List.mem_cons_of_mem _ wd_221)) (fun _ h9 => h9) rfl dX5_tell_113 ?_
    refine lv_topi (fun x_20 (ex_20 : x_20 = (fS 8)) => ?_)
    refine lv_istore_n (lv' := [(2, .int x_20), (0, .ref o_S), (1, .int i0)]) hx hb dX5_tell_116 rfl hl (by decide) rfl (fun ls hl => ?_)
    refine lv_goto (tgt := 162) hx hb dX5_tell_117 (by decide) ?_
    refine lv_aload_n hx hb dX5_tell_162 rfl (lv_at hl 1 rfl) ?_
    refine va_get (D := (dC, dI)) (ci := 5) (v := .int (fS 2)) (C := RX5) (T := TX5) (N := 14) hx hb hts (fun w h => List.mem_cons_of_mem _ (uwX5 w h)) hown hK hP 0 rfl rfl 2 (by decide) (hts _ (List.mem_cons_of_mem _ wd_210)) (fun _ h9 => h9) rfl dX5_tell_163 ?_
    refine lv_if_ne (tgt := 173) hx hb dX5_tell_166 (by decide) (fun c_21 => ?_) (fun c_21 => ?_)
    · skip
      have c_21 : ¬ ((fS 2) = 0) := c_21
      refine lv_iload_n hx hb dX5_tell_173 rfl (lv_at hl 0 rfl) ?_
      have hP9 := hP.sub (ws' := [(o_S, .inr (5, [.ref o_So, .ref o_Si, .int (fS 2), .int (fS 3), .int (fS 4), .int (fS 5), .int (fS 6), .int (fS 7), .int (fS 8), .int (fS 9), .int (fS 10), .int (fS 11), .int (fS 12), .int (fS 13)]))]) [0] rfl
      have hD9 := hD.sub (ws' := [(o_S, .inr (5, [.ref o_So, .ref o_Si, .int (fS 2), .int (fS 3), .int (fS 4), .int (fS 5), .int (fS 6), .int (fS 7), .int (fS 8), .int (fS 9), .int (fS 10), .int (fS 11), .int (fS 12), .int (fS 13)]))]) [0] (by decide) rfl
      exact W.iret (v := x_20) hx hb hr (fun t ht hW => ⟨⟨x_20, (), rfl, (by subst ex_20; rw [FX5_tell]; rw [if_neg c_1]; rw [if_neg c_4]; rw [if_neg c_7]; rw [if_neg c_10]; rw [if_neg c_13]; rw [if_neg c_16]; rw [if_pos c_19]; rw [if_neg c_21]; try rfl), by rw [ht]; exact hP9, va_K.moved hW.alike hK, hD9⟩, hS.F ht⟩) hS.2.2 dX5_tell_174
    · skip
      have c_21 : (fS 2) = 0 := c_21
      have tc_21 : (fS 2).toInt = (0 : Int) := congrArg Int32.toInt c_21
      refine lv_iconst (v := 0) hx hb dX5_tell_169 (by decide) ?_
      refine lv_goto (tgt := 174) hx hb dX5_tell_170 (by decide) ?_
      have hP9 := hP.sub (ws' := [(o_S, .inr (5, [.ref o_So, .ref o_Si, .int (fS 2), .int (fS 3), .int (fS 4), .int (fS 5), .int (fS 6), .int (fS 7), .int (fS 8), .int (fS 9), .int (fS 10), .int (fS 11), .int (fS 12), .int (fS 13)]))]) [0] rfl
      have hD9 := hD.sub (ws' := [(o_S, .inr (5, [.ref o_So, .ref o_Si, .int (fS 2), .int (fS 3), .int (fS 4), .int (fS 5), .int (fS 6), .int (fS 7), .int (fS 8), .int (fS 9), .int (fS 10), .int (fS 11), .int (fS 12), .int (fS 13)]))]) [0] (by decide) rfl
      exact W.iret (v := 0) hx hb hr (fun t ht hW => ⟨⟨0, (), rfl, (by subst ex_20; rw [FX5_tell]; rw [if_neg c_1]; rw [if_neg c_4]; rw [if_neg c_7]; rw [if_neg c_10]; rw [if_neg c_13]; rw [if_neg c_16]; rw [if_pos c_19]; rw [if_pos c_21]; try rfl), by rw [ht]; exact hP9, va_K.moved hW.alike hK, hD9⟩, hS.F ht⟩) hS.2.2 dX5_tell_174
  by_cases c_22 : i0 = 7
  · refine lv_tableIn (tgt := 120) hx hb dX5_tell_1 (by rw [c_22]; decide) (by rw [c_22]; decide) (by rw [c_22]; rfl) (by decide) ?_
    refine lv_aload_n hx hb dX5_tell_120 rfl (lv_at hl 0 rfl) ?_
    refine va_get (D := (dC, dI)) (ci := 5) (v := .int (fS 9)) (C := RX5) (T := TX5) (N := 14) hx hb hts (fun w h => List.mem_cons_of_mem _ (uwX5 w h)) hown hK hP 0 rfl rfl 9 (by decide) (hts _ (List.mem_cons_of_mem _ wd_223)) (fun _ h9 => h9) rfl dX5_tell_121 ?_
    refine lv_topi (fun x_23 (ex_23 : x_23 = (fS 9)) => ?_)
    refine lv_istore_n (lv' := [(2, .int x_23), (0, .ref o_S), (1, .int i0)]) hx hb dX5_tell_124 rfl hl (by decide) rfl (fun ls hl => ?_)
    refine lv_goto (tgt := 162) hx hb dX5_tell_125 (by decide) ?_
    refine lv_aload_n hx hb dX5_tell_162 rfl (lv_at hl 1 rfl) ?_
    refine va_get (D := (dC, dI)) (ci := 5) (v := .int (fS 2)) (C := RX5) (T := TX5) (N := 14) hx hb hts (fun w h => List.mem_cons_of_mem _ (uwX5 w h)) hown hK hP 0 rfl rfl 2 (by decide) (hts _ (List.mem_cons_of_mem _ wd_210)) (fun _ h9 => h9) rfl dX5_tell_163 ?_
    refine lv_if_ne (tgt := 173) hx hb dX5_tell_166 (by decide) (fun c_24 => ?_) (fun c_24 => ?_)
    · skip
      have c_24 : ¬ ((fS 2) = 0) := c_24
      refine lv_iload_n hx hb dX5_tell_173 rfl (lv_at hl 0 rfl) ?_
      have hP9 := hP.sub (ws' := [(o_S, .inr (5, [.ref o_So, .ref o_Si, .int (fS 2), .int (fS 3), .int (fS 4), .int (fS 5), .int (fS 6), .int (fS 7), .int (fS 8), .int (fS 9), .int (fS 10), .int (fS 11), .int (fS 12), .int (fS 13)]))]) [0] rfl
      have hD9 := hD.sub (ws' := [(o_S, .inr (5, [.ref o_So, .ref o_Si, .int (fS 2), .int (fS 3), .int (fS 4), .int (fS 5), .int (fS 6), .int (fS 7), .int (fS 8), .int (fS 9), .int (fS 10), .int (fS 11), .int (fS 12), .int (fS 13)]))]) [0] (by decide) rfl
      exact W.iret (v := x_23) hx hb hr (fun t ht hW => ⟨⟨x_23, (), rfl, (by subst ex_23; rw [FX5_tell]; rw [if_neg c_1]; rw [if_neg c_4]; rw [if_neg c_7]; rw [if_neg c_10]; rw [if_neg c_13]; rw [if_neg c_16]; rw [if_neg c_19]; rw [if_pos c_22]; rw [if_neg c_24]; try rfl), by rw [ht]; exact hP9, va_K.moved hW.alike hK, hD9⟩, hS.F ht⟩) hS.2.2 dX5_tell_174
    · skip
      have c_24 : (fS 2) = 0 := c_24
      have tc_24 : (fS 2).toInt = (0 : Int) := congrArg Int32.toInt c_24
      refine lv_iconst (v := 0) hx hb dX5_tell_169 (by decide) ?_
      refine lv_goto (tgt := 174) hx hb dX5_tell_170 (by decide) ?_
      have hP9 := hP.sub (ws' := [(o_S, .inr (5, [.ref o_So, .ref o_Si, .int (fS 2), .int (fS 3), .int (fS 4), .int (fS 5), .int (fS 6), .int (fS 7), .int (fS 8), .int (fS 9), .int (fS 10), .int (fS 11), .int (fS 12), .int (fS 13)]))]) [0] rfl
      have hD9 := hD.sub (ws' := [(o_S, .inr (5, [.ref o_So, .ref o_Si, .int (fS 2), .int (fS 3), .int (fS 4), .int (fS 5), .int (fS 6), .int (fS 7), .int (fS 8), .int (fS 9), .int (fS 10), .int (fS 11), .int (fS 12), .int (fS 13)]))]) [0] (by decide) rfl
      exact W.iret (v := 0) hx hb hr (fun t ht hW => ⟨⟨0, (), rfl, (by subst ex_23; rw [FX5_tell]; rw [if_neg c_1]; rw [if_neg c_4]; rw [if_neg c_7]; rw [if_neg c_10]; rw [if_neg c_13]; rw [if_neg c_16]; rw [if_neg c_19]; rw [if_pos c_22]; rw [if_pos c_24]; try rfl), by rw [ht]; exact hP9, va_K.moved hW.alike hK, hD9⟩, hS.F ht⟩) hS.2.2 dX5_tell_174
  by_cases c_25 : i0 = 8
  · refine lv_tableIn (tgt := 128) hx hb dX5_tell_1 (by rw [c_25]; decide) (by rw [c_25]; decide) (by rw [c_25]; rfl) (by decide) ?_
    refine lv_aload_n hx hb dX5_tell_128 rfl (lv_at hl 0 rfl) ?_
    refine va_get (D := (dC, dI)) (ci := 5) (v := .int (fS 10)) (C := RX5) (T := TX5) (N := 14) hx hb hts (fun w h => List.mem_cons_of_mem _ (uwX5 w h)) hown hK hP 0 rfl rfl 10 (by decide) (hts _ (List.mem_cons_of_mem _ wd_225)) (fun _ h9 => h9) rfl dX5_tell_129 ?_
    refine lv_topi (fun x_26 (ex_26 : x_26 = (fS 10)) => ?_)
    refine lv_istore_n (lv' := [(2, .int x_26), (0, .ref o_S), (1, .int i0)]) hx hb dX5_tell_132 rfl hl (by decide) rfl (fun ls hl => ?_)
    refine lv_goto (tgt := 162) hx hb dX5_tell_133 (by decide) ?_
    refine lv_aload_n hx hb dX5_tell_162 rfl (lv_at hl 1 rfl) ?_
    refine va_get (D := (dC, dI)) (ci := 5) (v := .int (fS 2)) (C := RX5) (T := TX5) (N := 14) hx hb hts (fun w h => List.mem_cons_of_mem _ (uwX5 w h)) hown hK hP 0 rfl rfl 2 (by decide) (hts _ (List.mem_cons_of_mem _ wd_210)) (fun _ h9 => h9) rfl dX5_tell_163 ?_
    refine lv_if_ne (tgt := 173) hx hb dX5_tell_166 (by decide) (fun c_27 => ?_) (fun c_27 => ?_)
    · skip
      have c_27 : ¬ ((fS 2) = 0) := c_27
      refine lv_iload_n hx hb dX5_tell_173 rfl (lv_at hl 0 rfl) ?_
      have hP9 := hP.sub (ws' := [(o_S, .inr (5, [.ref o_So, .ref o_Si, .int (fS 2), .int (fS 3), .int (fS 4), .int (fS 5), .int (fS 6), .int (fS 7), .int (fS 8), .int (fS 9), .int (fS 10), .int (fS 11), .int (fS 12), .int (fS 13)]))]) [0] rfl
      have hD9 := hD.sub (ws' := [(o_S, .inr (5, [.ref o_So, .ref o_Si, .int (fS 2), .int (fS 3), .int (fS 4), .int (fS 5), .int (fS 6), .int (fS 7), .int (fS 8), .int (fS 9), .int (fS 10), .int (fS 11), .int (fS 12), .int (fS 13)]))]) [0] (by decide) rfl
      exact W.iret (v := x_26) hx hb hr (fun t ht hW => ⟨⟨x_26, (), rfl, (by subst ex_26; rw [FX5_tell]; rw [if_neg c_1]; rw [if_neg c_4]; rw [if_neg c_7]; rw [if_neg c_10]; rw [if_neg c_13]; rw [if_neg c_16]; rw [if_neg c_19]; rw [if_neg c_22]; rw [if_pos c_25]; rw [if_neg c_27]; try rfl), by rw [ht]; exact hP9, va_K.moved hW.alike hK, hD9⟩, hS.F ht⟩) hS.2.2 dX5_tell_174
    · skip
      have c_27 : (fS 2) = 0 := c_27
      have tc_27 : (fS 2).toInt = (0 : Int) := congrArg Int32.toInt c_27
      refine lv_iconst (v := 0) hx hb dX5_tell_169 (by decide) ?_
      refine lv_goto (tgt := 174) hx hb dX5_tell_170 (by decide) ?_
      have hP9 := hP.sub (ws' := [(o_S, .inr (5, [.ref o_So, .ref o_Si, .int (fS 2), .int (fS 3), .int (fS 4), .int (fS 5), .int (fS 6), .int (fS 7), .int (fS 8), .int (fS 9), .int (fS 10), .int (fS 11), .int (fS 12), .int (fS 13)]))]) [0] rfl
      have hD9 := hD.sub (ws' := [(o_S, .inr (5, [.ref o_So, .ref o_Si, .int (fS 2), .int (fS 3), .int (fS 4), .int (fS 5), .int (fS 6), .int (fS 7), .int (fS 8), .int (fS 9), .int (fS 10), .int (fS 11), .int (fS 12), .int (fS 13)]))]) [0] (by decide) rfl
      exact W.iret (v := 0) hx hb hr (fun t ht hW => ⟨⟨0, (), rfl, (by subst ex_26; rw [FX5_tell]; rw [if_neg c_1]; rw [if_neg c_4]; rw [if_neg c_7]; rw [if_neg c_10]; rw [if_neg c_13]; rw [if_neg c_16]; rw [if_neg c_19]; rw [if_neg c_22]; rw [if_pos c_25]; rw [if_pos c_27]; try rfl), by rw [ht]; exact hP9, va_K.moved hW.alike hK, hD9⟩, hS.F ht⟩) hS.2.2 dX5_tell_174
  by_cases c_28 : i0 = 9
  · refine lv_tableIn (tgt := 136) hx hb dX5_tell_1 (by rw [c_28]; decide) (by rw [c_28]; decide) (by rw [c_28]; rfl) (by decide) ?_
    refine lv_aload_n hx hb dX5_tell_136 rfl (lv_at hl 0 rfl) ?_
    refine va_get (D := (dC, dI)) (ci := 5) (v := .int (fS 11)) (C := RX5) (T := TX5) (N := 14) hx hb hts (fun w h => List.mem_cons_of_mem _ (uwX5 w h)) hown hK hP 0 rfl rfl 11 (by decide) (hts _ (List.mem_cons_of_mem _ wd_226)) (fun _ h9 => h9) rfl dX5_tell_137 ?_
    refine lv_topi (fun x_29 (ex_29 : x_29 = (fS 11)) => ?_)
    refine lv_istore_n (lv' := [(2, .int x_29), (0, .ref o_S), (1, .int i0)]) hx hb dX5_tell_140 rfl hl (by decide) rfl (fun ls hl => ?_)
    refine lv_goto (tgt := 162) hx hb dX5_tell_141 (by decide) ?_
    refine lv_aload_n hx hb dX5_tell_162 rfl (lv_at hl 1 rfl) ?_
    refine va_get (D := (dC, dI)) (ci := 5) (v := .int (fS 2)) (C := RX5) (T := TX5) (N := 14) hx hb hts (fun w h => List.mem_cons_of_mem _ (uwX5 w h)) hown hK hP 0 rfl rfl 2 (by decide) (hts _ (List.mem_cons_of_mem _ wd_210)) (fun _ h9 => h9) rfl dX5_tell_163 ?_
    refine lv_if_ne (tgt := 173) hx hb dX5_tell_166 (by decide) (fun c_30 => ?_) (fun c_30 => ?_)
    · skip
      have c_30 : ¬ ((fS 2) = 0) := c_30
      refine lv_iload_n hx hb dX5_tell_173 rfl (lv_at hl 0 rfl) ?_
      have hP9 := hP.sub (ws' := [(o_S, .inr (5, [.ref o_So, .ref o_Si, .int (fS 2), .int (fS 3), .int (fS 4), .int (fS 5), .int (fS 6), .int (fS 7), .int (fS 8), .int (fS 9), .int (fS 10), .int (fS 11), .int (fS 12), .int (fS 13)]))]) [0] rfl
      have hD9 := hD.sub (ws' := [(o_S, .inr (5, [.ref o_So, .ref o_Si, .int (fS 2), .int (fS 3), .int (fS 4), .int (fS 5), .int (fS 6), .int (fS 7), .int (fS 8), .int (fS 9), .int (fS 10), .int (fS 11), .int (fS 12), .int (fS 13)]))]) [0] (by decide) rfl
      exact W.iret (v := x_29) hx hb hr (fun t ht hW => ⟨⟨x_29, (), rfl, (by subst ex_29; rw [FX5_tell]; rw [if_neg c_1]; rw [if_neg c_4]; rw [if_neg c_7]; rw [if_neg c_10]; rw [if_neg c_13]; rw [if_neg c_16]; rw [if_neg c_19]; rw [if_neg c_22]; rw [if_neg c_25]; rw [if_pos c_28]; rw [if_neg c_30]; try rfl), by rw [ht]; exact hP9, va_K.moved hW.alike hK, hD9⟩, hS.F ht⟩) hS.2.2 dX5_tell_174
    · skip
      have c_30 : (fS 2) = 0 := c_30
      have tc_30 : (fS 2).toInt = (0 : Int) := congrArg Int32.toInt c_30
      refine lv_iconst (v := 0) hx hb dX5_tell_169 (by decide) ?_
      refine lv_goto (tgt := 174) hx hb dX5_tell_170 (by decide) ?_
      have hP9 := hP.sub (ws' := [(o_S, .inr (5, [.ref o_So, .ref o_Si, .int (fS 2), .int (fS 3), .int (fS 4), .int (fS 5), .int (fS 6), .int (fS 7), .int (fS 8), .int (fS 9), .int (fS 10), .int (fS 11), .int (fS 12), .int (fS 13)]))]) [0] rfl
      have hD9 := hD.sub (ws' := [(o_S, .inr (5, [.ref o_So, .ref o_Si, .int (fS 2), .int (fS 3), .int (fS 4), .int (fS 5), .int (fS 6), .int (fS 7), .int (fS 8), .int (fS 9), .int (fS 10), .int (fS 11), .int (fS 12), .int (fS 13)]))]) [0] (by decide) rfl
      exact W.iret (v := 0) hx hb hr (fun t ht hW => ⟨⟨0, (), rfl, (by subst ex_29; rw [FX5_tell]; rw [if_neg c_1]; rw [if_neg c_4]; rw [if_neg c_7]; rw [if_neg c_10]; rw [if_neg c_13]; rw [if_neg c_16]; rw [if_neg c_19]; rw [if_neg c_22]; rw [if_neg c_25]; rw [if_pos c_28]; rw [if_pos c_30]; try rfl), by rw [ht]; exact hP9, va_K.moved hW.alike hK, hD9⟩, hS.F ht⟩) hS.2.2 dX5_tell_174
  by_cases c_31 : i0 = 10
  · refine lv_tableIn (tgt := 144) hx hb dX5_tell_1 (by rw [c_31]; decide) (by rw [c_31]; decide) (by rw [c_31]; rfl) (by decide) ?_
    refine lv_aload_n hx hb dX5_tell_144 rfl (lv_at hl 0 rfl) ?_
    refine va_get (D := (dC, dI)) (ci := 5) (v := .int (fS 12)) (C := RX5) (T := TX5) (N := 14) hx hb hts (fun w h => List.mem_cons_of_mem _ (uwX5 w h)) hown hK hP 0 rfl rfl 12 (by decide) (hts _ (List.mem_cons_of_mem _ wd_227)) (fun _ h9 => h9) rfl dX5_tell_145 ?_
    refine lv_topi (fun x_32 (ex_32 : x_32 = (fS 12)) => ?_)
    refine lv_istore_n (lv' := [(2, .int x_32), (0, .ref o_S), (1, .int i0)]) hx hb dX5_tell_148 rfl hl (by decide) rfl (fun ls hl => ?_)
    refine lv_goto (tgt := 162) hx hb dX5_tell_149 (by decide) ?_
    refine lv_aload_n hx hb dX5_tell_162 rfl (lv_at hl 1 rfl) ?_
    refine va_get (D := (dC, dI)) (ci := 5) (v := .int (fS 2)) (C := RX5) (T := TX5) (N := 14) hx hb hts (fun w h => List.mem_cons_of_mem _ (uwX5 w h)) hown hK hP 0 rfl rfl 2 (by decide) (hts _ (List.mem_cons_of_mem _ wd_210)) (fun _ h9 => h9) rfl dX5_tell_163 ?_
    refine lv_if_ne (tgt := 173) hx hb dX5_tell_166 (by decide) (fun c_33 => ?_) (fun c_33 => ?_)
    · skip
      have c_33 : ¬ ((fS 2) = 0) := c_33
      refine lv_iload_n hx hb dX5_tell_173 rfl (lv_at hl 0 rfl) ?_
      have hP9 := hP.sub (ws' := [(o_S, .inr (5, [.ref o_So, .ref o_Si, .int (fS 2), .int (fS 3), .int (fS 4), .int (fS 5), .int (fS 6), .int (fS 7), .int (fS 8), .int (fS 9), .int (fS 10), .int (fS 11), .int (fS 12), .int (fS 13)]))]) [0] rfl
      have hD9 := hD.sub (ws' := [(o_S, .inr (5, [.ref o_So, .ref o_Si, .int (fS 2), .int (fS 3), .int (fS 4), .int (fS 5), .int (fS 6), .int (fS 7), .int (fS 8), .int (fS 9), .int (fS 10), .int (fS 11), .int (fS 12), .int (fS 13)]))]) [0] (by decide) rfl
      exact W.iret (v := x_32) hx hb hr (fun t ht hW => ⟨⟨x_32, (), rfl, (by subst ex_32; rw [FX5_tell]; rw [if_neg c_1]; rw [if_neg c_4]; rw [if_neg c_7]; rw [if_neg c_10]; rw [if_neg c_13]; rw [if_neg c_16]; rw [if_neg c_19]; rw [if_neg c_22]; rw [if_neg c_25]; rw [if_neg c_28]; rw [if_pos c_31]; rw [if_neg c_33]; try rfl), by rw [ht]; exact hP9, va_K.moved hW.alike hK, hD9⟩, hS.F ht⟩) hS.2.2 dX5_tell_174
    · skip
      have c_33 : (fS 2) = 0 := c_33
      have tc_33 : (fS 2).toInt = (0 : Int) := congrArg Int32.toInt c_33
      refine lv_iconst (v := 0) hx hb dX5_tell_169 (by decide) ?_
      refine lv_goto (tgt := 174) hx hb dX5_tell_170 (by decide) ?_
      have hP9 := hP.sub (ws' := [(o_S, .inr (5, [.ref o_So, .ref o_Si, .int (fS 2), .int (fS 3), .int (fS 4), .int (fS 5), .int (fS 6), .int (fS 7), .int (fS 8), .int (fS 9), .int (fS 10), .int (fS 11), .int (fS 12), .int (fS 13)]))]) [0] rfl
      have hD9 := hD.sub (ws' := [(o_S, .inr (5, [.ref o_So, .ref o_Si, .int (fS 2), .int (fS 3), .int (fS 4), .int (fS 5), .int (fS 6), .int (fS 7), .int (fS 8), .int (fS 9), .int (fS 10), .int (fS 11), .int (fS 12), .int (fS 13)]))]) [0] (by decide) rfl
      exact W.iret (v := 0) hx hb hr (fun t ht hW => ⟨⟨0, (), rfl, (by subst ex_32; rw [FX5_tell]; rw [if_neg c_1]; rw [if_neg c_4]; rw [if_neg c_7]; rw [if_neg c_10]; rw [if_neg c_13]; rw [if_neg c_16]; rw [if_neg c_19]; rw [if_neg c_22]; rw [if_neg c_25]; rw [if_neg c_28]; rw [if_pos c_31]; rw [if_pos c_33]; try rfl), by rw [ht]; exact hP9, va_K.moved hW.alike hK, hD9⟩, hS.F ht⟩) hS.2.2 dX5_tell_174
  by_cases c_34 : i0 = 11
  · refine lv_tableIn (tgt := 152) hx hb dX5_tell_1 (by rw [c_34]; decide) (by rw [c_34]; decide) (by rw [c_34]; rfl) (by decide) ?_
    refine lv_aload_n hx hb dX5_tell_152 rfl (lv_at hl 0 rfl) ?_
    refine va_get (D := (dC, dI)) (ci := 5) (v := .int (fS 13)) (C := RX5) (T := TX5) (N := 14) hx hb hts (fun w h => List.mem_cons_of_mem _ (uwX5 w h)) hown hK hP 0 rfl rfl 13 (by decide) (hts _ (List.mem_cons_of_mem _ wd_229)) (fun _ h9 => h9) rfl dX5_tell_153 ?_
    refine lv_topi (fun x_35 (ex_35 : x_35 = (fS 13)) => ?_)
    refine lv_istore_n (lv' := [(2, .int x_35), (0, .ref o_S), (1, .int i0)]) hx hb dX5_tell_156 rfl hl (by decide) rfl (fun ls hl => ?_)
    refine lv_goto (tgt := 162) hx hb dX5_tell_157 (by decide) ?_
    refine lv_aload_n hx hb dX5_tell_162 rfl (lv_at hl 1 rfl) ?_
    refine va_get (D := (dC, dI)) (ci := 5) (v := .int (fS 2)) (C := RX5) (T := TX5) (N := 14) hx hb hts (fun w h => List.mem_cons_of_mem _ (uwX5 w h)) hown hK hP 0 rfl rfl 2 (by decide) (hts _ (List.mem_cons_of_mem _ wd_210)) (fun _ h9 => h9) rfl dX5_tell_163 ?_
    refine lv_if_ne (tgt := 173) hx hb dX5_tell_166 (by decide) (fun c_36 => ?_) (fun c_36 => ?_)
    · skip
      have c_36 : ¬ ((fS 2) = 0) := c_36
      refine lv_iload_n hx hb dX5_tell_173 rfl (lv_at hl 0 rfl) ?_
      have hP9 := hP.sub (ws' := [(o_S, .inr (5, [.ref o_So, .ref o_Si, .int (fS 2), .int (fS 3), .int (fS 4), .int (fS 5), .int (fS 6), .int (fS 7), .int (fS 8), .int (fS 9), .int (fS 10), .int (fS 11), .int (fS 12), .int (fS 13)]))]) [0] rfl
      have hD9 := hD.sub (ws' := [(o_S, .inr (5, [.ref o_So, .ref o_Si, .int (fS 2), .int (fS 3), .int (fS 4), .int (fS 5), .int (fS 6), .int (fS 7), .int (fS 8), .int (fS 9), .int (fS 10), .int (fS 11), .int (fS 12), .int (fS 13)]))]) [0] (by decide) rfl
      exact W.iret (v := x_35) hx hb hr (fun t ht hW => ⟨⟨x_35, (), rfl, (by subst ex_35; rw [FX5_tell]; rw [if_neg c_1]; rw [if_neg c_4]; rw [if_neg c_7]; rw [if_neg c_10]; rw [if_neg c_13]; rw [if_neg c_16]; rw [if_neg c_19]; rw [if_neg c_22]; rw [if_neg c_25]; rw [if_neg c_28]; rw [if_neg c_31]; rw [if_pos c_34]; rw [if_neg c_36]; try rfl), by rw [ht]; exact hP9, va_K.moved hW.alike hK, hD9⟩, hS.F ht⟩) hS.2.2 dX5_tell_174
    · skip
      have c_36 : (fS 2) = 0 := c_36
      have tc_36 : (fS 2).toInt = (0 : Int) := congrArg Int32.toInt c_36
      refine lv_iconst (v := 0) hx hb dX5_tell_169 (by decide) ?_
      refine lv_goto (tgt := 174) hx hb dX5_tell_170 (by decide) ?_
      have hP9 := hP.sub (ws' := [(o_S, .inr (5, [.ref o_So, .ref o_Si, .int (fS 2), .int (fS 3), .int (fS 4), .int (fS 5), .int (fS 6), .int (fS 7), .int (fS 8), .int (fS 9), .int (fS 10), .int (fS 11), .int (fS 12), .int (fS 13)]))]) [0] rfl
      have hD9 := hD.sub (ws' := [(o_S, .inr (5, [.ref o_So, .ref o_Si, .int (fS 2), .int (fS 3), .int (fS 4), .int (fS 5), .int (fS 6), .int (fS 7), .int (fS 8), .int (fS 9), .int (fS 10), .int (fS 11), .int (fS 12), .int (fS 13)]))]) [0] (by decide) rfl
      exact W.iret (v := 0) hx hb hr (fun t ht hW => ⟨⟨0, (), rfl, (by subst ex_35; rw [FX5_tell]; rw [if_neg c_1]; rw [if_neg c_4]; rw [if_neg c_7]; rw [if_neg c_10]; rw [if_neg c_13]; rw [if_neg c_16]; rw [if_neg c_19]; rw [if_neg c_22]; rw [if_neg c_25]; rw [if_neg c_28]; rw [if_neg c_31]; rw [if_pos c_34]; rw [if_pos c_36]; try rfl), by rw [ht]; exact hP9, va_K.moved hW.alike hK, hD9⟩, hS.F ht⟩) hS.2.2 dX5_tell_174
  refine lv_tableOut (tgt := 160) hx hb dX5_tell_1 (by have nc_1 := neT (b := 0) c_1 (a := 0) rfl; have nc_4 := neT (b := 1) c_4 (a := 1) rfl; have nc_7 := neT (b := 2) c_7 (a := 2) rfl; have nc_10 := neT (b := 3) c_10 (a := 3) rfl; have nc_13 := neT (b := 4) c_13 (a := 4) rfl; have nc_16 := neT (b := 5) c_16 (a := 5) rfl; have nc_19 := neT (b := 6) c_19 (a := 6) rfl; have nc_22 := neT (b := 7) c_22 (a := 7) rfl; have nc_25 := neT (b := 8) c_25 (a := 8) rfl; have nc_28 := neT (b := 9) c_28 (a := 9) rfl; have nc_31 := neT (b := 10) c_31 (a := 10) rfl; have nc_34 := neT (b := 11) c_34 (a := 11) rfl; omega) (by decide) ?_
  refine lv_iconst (v := (-1)) hx hb dX5_tell_160 (by decide) ?_
  have hP9 := hP.sub (ws' := [(o_S, .inr (5, [.ref o_So, .ref o_Si, .int (fS 2), .int (fS 3), .int (fS 4), .int (fS 5), .int (fS 6), .int (fS 7), .int (fS 8), .int (fS 9), .int (fS 10), .int (fS 11), .int (fS 12), .int (fS 13)]))]) [0] rfl
  have hD9 := hD.sub (ws' := [(o_S, .inr (5, [.ref o_So, .ref o_Si, .int (fS 2), .int (fS 3), .int (fS 4), .int (fS 5), .int (fS 6), .int (fS 7), .int (fS 8), .int (fS 9), .int (fS 10), .int (fS 11), .int (fS 12), .int (fS 13)]))]) [0] (by decide) rfl
  exact W.iret (v := (-1)) hx hb hr (fun t ht hW => ⟨⟨(-1), (), rfl, (by rw [FX5_tell]; rw [if_neg c_1]; rw [if_neg c_4]; rw [if_neg c_7]; rw [if_neg c_10]; rw [if_neg c_13]; rw [if_neg c_16]; rw [if_neg c_19]; rw [if_neg c_22]; rw [if_neg c_25]; rw [if_neg c_28]; rw [if_neg c_31]; rw [if_neg c_34]; try rfl), by rw [ht]; exact hP9, va_K.moved hW.alike hK, hD9⟩, hS.F ht⟩) hS.2.2 dX5_tell_161
