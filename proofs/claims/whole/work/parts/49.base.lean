/-! ===== BEGIN new T[n][m]: the outer array a place, the inner ones among the pooled ===== -/
/-- f, but v at every address of l -/
def vr_up {α : Type} (f : Nat → α) (l : List Nat) (v : α) : Nat → α := fun a => if a ∈ l then v else f a
theorem vr_up_in {α : Type} {f : Nat → α} {l : List Nat} {v : α} {a : Nat} (h : a ∈ l) : vr_up f l v a = v := if_pos h
theorem vr_up_ne {α : Type} {f : Nat → α} {l : List Nat} {v : α} {a : Nat} (h : a ∉ l) : vr_up f l v a = f a := if_neg h
theorem vr_rows {L l : List Nat} {f : Nat → va_E} {e : va_E} (h : ∀ a, a ∈ l → a ∉ L) : va_pl L f ++ l.map (fun a => (a, e)) = va_pl (L ++ l) (vr_up f l e) := by
  unfold va_pl
  rw [List.map_append]
  congr 1
  · apply List.map_congr_left
    intro a ha
    rw [vr_up_ne (fun q => h a q ha)]
  · apply List.map_congr_left
    intro a ha
    rw [vr_up_in ha]
theorem vr_lay {X rows : va_W} {x : Nat × va_E} {pl : va_W} {D : va_G} {cl : List vw_C} {H : Heap} (hP : va_P D cl (((X ++ pl) ++ [x]) ++ rows) H) : va_P D cl ((X ++ [x]) ++ (pl ++ rows)) H := by
  rw [List.append_assoc (X ++ pl)] at hP
  have h := va_P.swap hP
  rw [← List.append_assoc X] at h
  have h2 := va_P.swap h
  rw [List.append_assoc (X ++ [x])] at h2
  exact h2
theorem vr_layD {X rows : va_W} {x : Nat × va_E} {pl : va_W} {A : Nat → Prop} (hD : va_D A (((X ++ pl) ++ [x]) ++ rows)) : va_D A ((X ++ [x]) ++ (pl ++ rows)) := by
  rw [List.append_assoc (X ++ pl)] at hD
  have h := va_D.swap hD
  rw [← List.append_assoc X] at h
  have h2 := va_D.swap h
  rw [List.append_assoc (X ++ [x])] at h2
  exact h2
theorem vr_outer (c : ClassId) (N h0 : Nat) : ∀ i : Nat, Jvm.Free.Multi.outerC c N h0 i = arrV c N (fun j => va_rf (if j < i then some (h0 + 1 + j) else none))
  | 0 => by
    show ({ cls := c, slots := Array.replicate N .null, vm := .none } : Cell) = _
    rw [arrV_new]
    refine congrArg (arrV c N) (funext fun j => ?_)
    simp [va_rf]
  | i + 1 => by
    show (Jvm.Free.Multi.outerC c N h0 i).setSlot i (.ref (h0 + 1 + i)) = _
    rw [vr_outer c N h0 i, arrV_store]
    refine congrArg (arrV c N) (funext fun j => ?_)
    by_cases e : j = i
    · subst e
      simp [updV, va_rf]
    · by_cases h : j < i
      · simp [updV, e, h, Nat.lt_succ_of_lt h]
      · simp [updV, e, h, show ¬ j < i + 1 by omega]
section VGM
variable {p : Program} {l : Launch} {e : Env} {R : Room} {s : State} {m : MethodId} {args : Array Value} {below : List Frame} {meth : Method} {c : Code} {H : Heap} {locs : List Loc} {cells slots : Nat} {Q : State → Prop}
variable {cc : ByteArray} {pc : Nat} {ls : Array Slot} {rest : List Value} {D : va_G} {cl : List vw_C} {A : Nat → Prop} {a : Nat} {tys : List (ClassId × FieldType)} {ws : va_W} {H0 : Heap}
theorem va_mna {X : va_W} {L : List Nat} {f : Nat → va_E} {cc : ByteArray} (hexec : p.tables.exec = Jvm.exec) (hb : c.code = cc) {own : String} {index : Nat} {ty : FieldType} {cy : ClassId} (hown : s.vm.findClass own = some m.cls) (hclink : (Cond.classLink own index ("[" ++ (FieldType.array ty).toString)).before args s = true) (hover : va_AOA ty s) (harr : (Cond.arrayClass ty).before args s = true) (hcy : s.vm.findClass (FieldType.array ty).toString = some cy)
    (hK : va_K D cl tys s) (hP : va_P D cl (X ++ va_pl L f) H) (hD : va_D A (X ++ va_pl L f)) (hS : va_S A H0 H locs) (hA : ∀ q, H0.size ≤ q → A q) {n k : Int32} {N' K' : Nat} {z : vp_A} (hn : ¬ n < 0) (hk : ¬ k < 0) (hN : n.toNatClampNeg = N') (hM : k.toNatClampNeg = K')
    (hb1 : N' * 4 ≤ 536870912) (hb2 : K' * componentBytes ty ≤ 536870912) (hb3 : K' ≤ 536870912) (hdf : fits ty (defaultValue ty) = true) (hdd : (defaultValue ty).isDefault = true) (hcells : cells + (1 + N') ≤ R.cells) (hslots : slots + (N' + N' * K') ≤ R.slots) (hz : ∀ c : ClassId, Jvm.Free.Multi.innerC c K' (defaultValue ty) = vp_cell c z) (hdg : decode cc pc = .ok (.multianewarray index 2, 4))
    (kk : ∀ (q : Nat) (r : Nat → Nat) (cA : ClassId) (H1 : Heap), (∀ i j : Nat, i < N' → j < N' → r i = r j → i = j) → (∀ i : Nat, i < N' → r i ∉ L) → va_K D cl (tys ++ [(cA, .array ty)]) s →
      va_P D cl ((X ++ [(q, .inl (cA, N', .inr (.inr (.inr (.inr (fun i => if i < N' then some (r i) else none))))))]) ++ va_pl (L ++ (List.range N').map r) (vr_up f ((List.range N').map r) (.inl (cy, z)))) H1 → va_D A ((X ++ [(q, .inl (cA, N', .inr (.inr (.inr (.inr (fun i => if i < N' then some (r i) else none))))))]) ++ va_pl (L ++ (List.range N').map r) (vr_up f ((List.range N').map r) (.inl (cy, z)))) → va_S A H0 H1 locs →
      W p l e R s m args below meth c H1 locs (cells + 1 + N') (slots + N' + N' * K') Q (F0 m (pc + 4) ls (.ref q :: rest))) : W p l e R s m args below meth c H locs cells slots Q (F0 m pc ls (.int k :: .int n :: rest)) := by
  subst hN
  subst hM
  intro T hT Xs
  obtain ⟨vm₁, cA, comp, -, fA, fC, hO, -, X', step⟩ := Xs.multianewarray2F hexec hown hclink (va_AOA.use hover) harr (g := F0 m pc ls (.int k :: .int n :: rest)) rfl (by rw [hb]; exact hdg) rfl hn hk hb1 hb2 hb3 hdf hdd hcells hslots
  have ec : some cy = some comp := hcy.symm.trans fC
  cases ec
  generalize hF : Jvm.Free.Multi.fill (T.setVm vm₁) cA cy n.toNatClampNeg k.toNatClampNeg (defaultValue ty) n.toNatClampNeg = F at X' step
  have hTh : (T.setVm vm₁).heap = H := hT
  obtain ⟨f1, f2, -, -⟩ := Jvm.Free.Multi.fill_facts (T.setVm vm₁) cA cy n.toNatClampNeg k.toNatClampNeg (defaultValue ty) n.toNatClampNeg
  rw [hF, hTh] at f1 f2
  have hold : ∀ x : Nat, x < H.size → F.heap[x]? = H[x]? := fun x hx => by
    have := Jvm.Free.Multi.fill_old (T.setVm vm₁) cA cy n.toNatClampNeg k.toNatClampNeg (defaultValue ty) (a := x) (by rw [hTh]; exact hx) n.toNatClampNeg
    rw [hF, hTh] at this
    exact this
  have hrow : ∀ j : Nat, j < n.toNatClampNeg → F.heap[H.size + 1 + j]? = some (vp_cell cy z) := fun j hj => by
    have := Jvm.Free.Multi.fill_inner (T.setVm vm₁) cA cy n.toNatClampNeg k.toNatClampNeg (defaultValue ty) n.toNatClampNeg j hj
    rw [hF, hTh, hz] at this
    exact this
  have hout : Jvm.Free.Multi.outerC cA n.toNatClampNeg H.size n.toNatClampNeg = vp_cell cA (n.toNatClampNeg, .inr (.inr (.inr (.inr (fun i => if i < n.toNatClampNeg then some (H.size + 1 + i) else none))))) := by
    rw [vp_cell_q]
    exact vr_outer cA n.toNatClampNeg H.size n.toNatClampNeg
  rw [hout] at f2
  have hlt : ∀ a, a ∈ L → a < H.size := fun a ha => by
    obtain ⟨k9, hk9⟩ := va_pl_get (X := X) (f := f) ha
    exact (hP k9 _ hk9).lt
  have hnl : ∀ i : Nat, i < n.toNatClampNeg → H.size + 1 + i ∉ L := fun i _ h => by
    have := hlt _ h
    omega
  have hnm : ∀ a, a ∈ (List.range n.toNatClampNeg).map (fun i => H.size + 1 + i) → a ∉ L := fun a ha h => by
    obtain ⟨i, -, rfl⟩ := List.mem_map.mp ha
    have := hlt _ h
    omega
  have hP0 : va_P D cl (X ++ va_pl L f) F.heap := hP.kept (fun k9 x hx => hold x.1 ((hP k9 x hx).lt))
  have hP1 : va_P D cl ((X ++ va_pl L f) ++ [(H.size, .inl (cA, n.toNatClampNeg, .inr (.inr (.inr (.inr (fun i => if i < n.toNatClampNeg then some (H.size + 1 + i) else none))))))]) F.heap := hP0.app (fun k9 x hx => by
    have h0 : k9 < 1 := (List.getElem?_eq_some_iff.mp hx).1
    rw [show k9 = 0 by omega] at hx
    cases hx
    exact f2)
  have hP2 : va_P D cl (((X ++ va_pl L f) ++ [(H.size, .inl (cA, n.toNatClampNeg, .inr (.inr (.inr (.inr (fun i => if i < n.toNatClampNeg then some (H.size + 1 + i) else none))))))]) ++ ((List.range n.toNatClampNeg).map (fun i => H.size + 1 + i)).map (fun a => (a, .inl (cy, z)))) F.heap := hP1.app (fun k9 x hx => by
    obtain ⟨a, ha, rfl⟩ := List.mem_map.mp (List.mem_of_getElem? hx)
    obtain ⟨i, hi, rfl⟩ := List.mem_map.mp ha
    exact hrow i (List.mem_range.mp hi))
  have hD2 : va_D A (((X ++ va_pl L f) ++ [(H.size, .inl (cA, n.toNatClampNeg, .inr (.inr (.inr (.inr (fun i => if i < n.toNatClampNeg then some (H.size + 1 + i) else none))))))]) ++ ((List.range n.toNatClampNeg).map (fun i => H.size + 1 + i)).map (fun a => (a, .inl (cy, z)))) := by
    have hD1 := hD.push (e := .inl (cA, n.toNatClampNeg, .inr (.inr (.inr (.inr (fun i => if i < n.toNatClampNeg then some (H.size + 1 + i) else none)))))) hP rfl (hA _ hS.1)
    generalize hW1 : (X ++ va_pl L f) ++ [(H.size, .inl (cA, n.toNatClampNeg, .inr (.inr (.inr (.inr (fun i => if i < n.toNatClampNeg then some (H.size + 1 + i) else none))))))] = W1 at hD1 hP1 ⊢
    have hle : ∀ (k9 : Nat) (x : Nat × va_E), W1[k9]? = some x → x.1 ≤ H.size := fun k9 x hx => by
      rw [← hW1] at hx
      by_cases hl : k9 < (X ++ va_pl L f).length
      · rw [List.getElem?_append_left hl] at hx
        exact Nat.le_of_lt ((hP k9 x hx).lt)
      · rw [List.getElem?_append_right (by omega)] at hx
        have h0 : k9 - (X ++ va_pl L f).length < 1 := (List.getElem?_eq_some_iff.mp hx).1
        rw [show k9 - (X ++ va_pl L f).length = 0 by omega] at hx
        cases hx
        exact Nat.le_refl _
    have hr : ∀ (k9 : Nat) (x : Nat × va_E), (((List.range n.toNatClampNeg).map (fun i => H.size + 1 + i)).map (fun a => ((a, .inl (cy, z)) : Nat × va_E)))[k9]? = some x → x.1 = H.size + 1 + k9 := fun k9 x hx => by
      rw [List.getElem?_map, List.getElem?_map] at hx
      by_cases h9 : k9 < n.toNatClampNeg
      · rw [List.getElem?_range h9] at hx
        cases hx
        rfl
      · have hn0 : (List.range n.toNatClampNeg)[k9]? = none := List.getElem?_eq_none (by rw [List.length_range]; omega)
        rw [hn0] at hx
        cases hx
    refine ⟨fun i j x y hi hj hxy => ?_, fun k9 x hx => ?_⟩
    · by_cases h1 : i < W1.length <;> by_cases h2 : j < W1.length
      · rw [List.getElem?_append_left h1] at hi
        rw [List.getElem?_append_left h2] at hj
        exact hD1.1 i j x y hi hj hxy
      · rw [List.getElem?_append_left h1] at hi
        rw [List.getElem?_append_right (by omega)] at hj
        have := hle _ _ hi
        have := hr _ _ hj
        omega
      · rw [List.getElem?_append_right (by omega)] at hi
        rw [List.getElem?_append_left h2] at hj
        have := hle _ _ hj
        have := hr _ _ hi
        omega
      · rw [List.getElem?_append_right (by omega)] at hi hj
        have := hr _ _ hi
        have := hr _ _ hj
        omega
    · by_cases h1 : k9 < W1.length
      · rw [List.getElem?_append_left h1] at hx
        exact hD1.2 k9 x hx
      · rw [List.getElem?_append_right (by omega)] at hx
        have := hr _ _ hx
        exact hA _ (by have := hS.1; omega)
  have hAr : ArrOfT s cA (.array ty) := fun N9 z9 => by
    obtain ⟨-, k9, hk9, cm9, hkk9⟩ := (hO 0 0 0).1
    exact ⟨(fun q hq => by cases hq), k9, hk9, cm9, hkk9⟩
  have hK2 : va_K D cl (tys ++ [(cA, .array ty)]) s := ⟨hK.1, fun k9 x hx => by
    by_cases hl : k9 < tys.length
    · rw [List.getElem?_append_left hl] at hx
      exact hK.2 k9 x hx
    · rw [List.getElem?_append_right (by omega)] at hx
      have h0 : k9 - tys.length < 1 := (List.getElem?_eq_some_iff.mp hx).1
      rw [show k9 - tys.length = 0 by omega] at hx
      cases hx
      exact ⟨hAr, fA⟩⟩
  obtain ⟨t, a1, b1⟩ := kk H.size (fun i => H.size + 1 + i) cA F.heap (fun i j _ _ h => by have h9 : H.size + 1 + i = H.size + 1 + j := h; omega) hnl hK2 (by rw [← vr_rows hnm]; exact vr_lay hP2) (by rw [← vr_rows hnm]; exact vr_layD hD2) ⟨by rw [f1]; have := hS.1; omega, fun x h1 h2 => (hold x (Nat.lt_of_lt_of_le h1 hS.1)).trans (hS.2.1 x h1 h2), hS.2.2⟩ F rfl X'
  refine ⟨t, step t ?_, b1⟩
  have e : T.heap.size = H.size := by rw [hT]
  rw [e]
  exact a1
end VGM

theorem ty_int {D : va_G} {cl : List vw_C} {tC : Nat → ClassId} {cA : ClassId} {U : State} (h : va_K D cl (TY tC ++ [(cA, .int)]) U) : cA = tC 0 := by
  have h1 : U.vm.findClass ("[" ++ FieldType.int.toString) = some cA := (h.2 6 (cA, .int) rfl).2
  have h0 : U.vm.findClass ("[" ++ FieldType.int.toString) = some (tC 0) := (h.2 0 (tC 0, .int) rfl).2
  exact Option.some.inj (h1.symm.trans h0)
theorem ty_bool {D : va_G} {cl : List vw_C} {tC : Nat → ClassId} {cA : ClassId} {U : State} (h : va_K D cl (TY tC ++ [(cA, .boolean)]) U) : cA = tC 5 := by
  have h1 : U.vm.findClass ("[" ++ FieldType.boolean.toString) = some cA := (h.2 6 (cA, .boolean) rfl).2
  have h0 : U.vm.findClass ("[" ++ FieldType.boolean.toString) = some (tC 5) := (h.2 5 (tC 5, .boolean) rfl).2
  exact Option.some.inj (h1.symm.trans h0)
theorem ty_aa {D : va_G} {cl : List vw_C} {tC : Nat → ClassId} {cA : ClassId} {U : State} (h : va_K D cl (TY tC ++ [(cA, .array .int)]) U) : cA = tC 4 := by
  have h1 : U.vm.findClass ("[" ++ (FieldType.array .int).toString) = some cA := (h.2 6 (cA, .array .int) rfl).2
  have h0 : U.vm.findClass ("[" ++ (FieldType.array .int).toString) = some (tC 4) := (h.2 4 (tC 4, .array .int) rfl).2
  exact Option.some.inj (h1.symm.trans h0)
theorem ty_obj {D : va_G} {cl : List vw_C} {tC : Nat → ClassId} {cA : ClassId} {U : State} {C : String} {j : Nat} (hj : (TY tC)[j]? = some (tC j, .object C)) (h : va_K D cl (TY tC ++ [(cA, .object C)]) U) : cA = tC j := by
  have hl : j < (TY tC).length := (List.getElem?_eq_some_iff.mp hj).1
  have hj2 : (TY tC ++ [(cA, FieldType.object C)])[j]? = some (tC j, .object C) := by rw [List.getElem?_append_left hl]; exact hj
  obtain ⟨_, _, _, _, _, h1⟩ := (h.2 6 (cA, .object C) rfl).2
  obtain ⟨_, _, _, _, _, h0⟩ := (h.2 j _ hj2).2
  exact Option.some.inj (h1.symm.trans h0)
theorem vr2_up {a b : Nat} : va_up (va_up (fun _ => none) 0 (some a)) 1 (some b) = vr2 a b := funext fun k => by
  unfold va_up
  match k with
  | 0 => rfl
  | 1 => rfl
  | k + 2 => rw [if_neg (by omega), if_neg (by omega)]; rfl
theorem vr3_up {a b c : Nat} : va_up (va_up (va_up (fun _ => none) 0 (some a)) 1 (some b)) 2 (some c) = vr3 a b c := funext fun k => by
  unfold va_up
  match k with
  | 0 => rfl
  | 1 => rfl
  | 2 => rfl
  | k + 3 => rw [if_neg (by omega), if_neg (by omega), if_neg (by omega)]; rfl
theorem vr6_up {a b c d e f : Nat} : va_up (va_up (va_up (va_up (va_up (va_up (fun _ => none) 0 (some a)) 1 (some b)) 2 (some c)) 3 (some d)) 4 (some e)) 5 (some f) = vr6 a b c d e f := funext fun k => by
  unfold va_up
  match k with
  | 0 => rfl
  | 1 => rfl
  | 2 => rfl
  | 3 => rfl
  | 4 => rfl
  | 5 => rfl
  | k + 6 => rw [if_neg (by omega), if_neg (by omega), if_neg (by omega), if_neg (by omega), if_neg (by omega), if_neg (by omega)]; rfl
theorem vr12_up {r : Nat → Nat} : (fun i => if i < 12 then some (r i) else none) = vr12 (r 0) (r 1) (r 2) (r 3) (r 4) (r 5) (r 6) (r 7) (r 8) (r 9) (r 10) (r 11) := funext fun k => by
  match k with
  | 0 => rfl
  | 1 => rfl
  | 2 => rfl
  | 3 => rfl
  | 4 => rfl
  | 5 => rfl
  | 6 => rfl
  | 7 => rfl
  | 8 => rfl
  | 9 => rfl
  | 10 => rfl
  | 11 => rfl
  | k + 12 => rw [if_neg (by omega)]; rfl
section OWN2
variable {p : Program} {l : Launch} {e : Env} {R : Room} {s : State} {m : MethodId} {args : Array Value} {below : List Frame} {meth : Method} {c : Code} {H : Heap} {locs : List Loc} {cells slots : Nat} {Q : State → Prop}
variable {cc : ByteArray} {pc : Nat} {ls : Array Slot} {rest : List Value} {D : va_G} {cl : List vw_C} {A : Nat → Prop} {ws : va_W} {H0 : Heap}
theorem va_mul12 {own : String} {index : Nat} {tC : Nat → ClassId} (hexec : p.tables.exec = Jvm.exec) (hb : c.code = cc) (hown : s.vm.findClass own = some m.cls) (hclink : (Cond.classLink own index ("[" ++ (FieldType.array .int).toString)).before args s = true) (hover : va_AOA .int s) (harr : (Cond.arrayClass .int).before args s = true) (hK : va_K D cl (TY tC) s) (hP : va_P D cl ws H) (hD : va_D A ws) (hS : va_S A H0 H locs) (hA : ∀ q, H0.size ≤ q → A q) (hcells : cells + (1 + 12) ≤ R.cells) (hslots : slots + (12 + 12 * 41) ≤ R.slots) (hdg : decode cc pc = .ok (.multianewarray index 2, 4))
    (kk : ∀ (q r0 r1 r2 r3 r4 r5 r6 r7 r8 r9 r10 r11 : Nat) (H1 : Heap), va_P D cl (ws ++ [(q, .inl (tC 4, 12, .inr (.inr (.inr (.inr (vr12 r0 r1 r2 r3 r4 r5 r6 r7 r8 r9 r10 r11)))))), (r0, .inl (tC 0, 41, .inl (fun _ => 0))), (r1, .inl (tC 0, 41, .inl (fun _ => 0))), (r2, .inl (tC 0, 41, .inl (fun _ => 0))), (r3, .inl (tC 0, 41, .inl (fun _ => 0))), (r4, .inl (tC 0, 41, .inl (fun _ => 0))), (r5, .inl (tC 0, 41, .inl (fun _ => 0))), (r6, .inl (tC 0, 41, .inl (fun _ => 0))), (r7, .inl (tC 0, 41, .inl (fun _ => 0))), (r8, .inl (tC 0, 41, .inl (fun _ => 0))), (r9, .inl (tC 0, 41, .inl (fun _ => 0))), (r10, .inl (tC 0, 41, .inl (fun _ => 0))), (r11, .inl (tC 0, 41, .inl (fun _ => 0)))]) H1 →
      va_D A (ws ++ [(q, .inl (tC 4, 12, .inr (.inr (.inr (.inr (vr12 r0 r1 r2 r3 r4 r5 r6 r7 r8 r9 r10 r11)))))), (r0, .inl (tC 0, 41, .inl (fun _ => 0))), (r1, .inl (tC 0, 41, .inl (fun _ => 0))), (r2, .inl (tC 0, 41, .inl (fun _ => 0))), (r3, .inl (tC 0, 41, .inl (fun _ => 0))), (r4, .inl (tC 0, 41, .inl (fun _ => 0))), (r5, .inl (tC 0, 41, .inl (fun _ => 0))), (r6, .inl (tC 0, 41, .inl (fun _ => 0))), (r7, .inl (tC 0, 41, .inl (fun _ => 0))), (r8, .inl (tC 0, 41, .inl (fun _ => 0))), (r9, .inl (tC 0, 41, .inl (fun _ => 0))), (r10, .inl (tC 0, 41, .inl (fun _ => 0))), (r11, .inl (tC 0, 41, .inl (fun _ => 0)))]) → va_S A H0 H1 locs →
      W p l e R s m args below meth c H1 locs (cells + 1 + 12) (slots + 12 + 12 * 41) Q (F0 m (pc + 4) ls (.ref q :: rest))) : W p l e R s m args below meth c H locs cells slots Q (F0 m pc ls (.int 41 :: .int 12 :: rest)) := by
  have hcy : s.vm.findClass (FieldType.array .int).toString = some (tC 0) := (hK.2 0 (tC 0, .int) rfl).2
  refine va_mna (X := ws) (L := []) (f := fun _ => .inl (tC 0, 41, .inl (fun _ => 0))) (ty := .int) (cy := tC 0) (n := 12) (k := 41) (N' := 12) (K' := 41) (z := (41, .inl (fun _ => 0))) hexec hb hown hclink hover harr hcy hK (by rw [show va_pl [] _ = [] from rfl, List.append_nil]; exact hP) (by rw [show va_pl [] _ = [] from rfl, List.append_nil]; exact hD) hS hA (by decide) (by decide) rfl rfl (by decide) (by decide) (by decide) rfl rfl hcells hslots (fun c => by show ({ cls := c, slots := Array.replicate 41 (Value.int 0), vm := .none } : Cell) = _; rw [arrV_new]; rfl) hdg (fun q r cA H1 hi hn hK2 hP1 hD1 hS1 => ?_)
  obtain rfl : cA = tC 4 := ty_aa hK2
  have el : va_pl ([] ++ (List.range 12).map r) (vr_up (fun _ => .inl (tC 0, 41, .inl (fun _ => 0))) ((List.range 12).map r) (.inl (tC 0, 41, .inl (fun _ => 0)))) = [(r 0, .inl (tC 0, 41, .inl (fun _ => 0))), (r 1, .inl (tC 0, 41, .inl (fun _ => 0))), (r 2, .inl (tC 0, 41, .inl (fun _ => 0))), (r 3, .inl (tC 0, 41, .inl (fun _ => 0))), (r 4, .inl (tC 0, 41, .inl (fun _ => 0))), (r 5, .inl (tC 0, 41, .inl (fun _ => 0))), (r 6, .inl (tC 0, 41, .inl (fun _ => 0))), (r 7, .inl (tC 0, 41, .inl (fun _ => 0))), (r 8, .inl (tC 0, 41, .inl (fun _ => 0))), (r 9, .inl (tC 0, 41, .inl (fun _ => 0))), (r 10, .inl (tC 0, 41, .inl (fun _ => 0))), (r 11, .inl (tC 0, 41, .inl (fun _ => 0)))] := by
    have e1 : vr_up (fun _ => (.inl (tC 0, 41, .inl (fun _ => 0)) : va_E)) ((List.range 12).map r) (.inl (tC 0, 41, .inl (fun _ => 0))) = fun _ => .inl (tC 0, 41, .inl (fun _ => 0)) := funext fun a => by
      unfold vr_up
      split <;> rfl
    rw [e1]
    rfl
  rw [el, vr12_up, List.append_assoc] at hP1 hD1
  exact kk q (r 0) (r 1) (r 2) (r 3) (r 4) (r 5) (r 6) (r 7) (r 8) (r 9) (r 10) (r 11) H1 hP1 hD1 hS1
end OWN2

