def va_AOA (t : FieldType) (U : State) : Prop := (Cond.arrayOver (.array t)).before #[] U = true
theorem va_AOA.use {t : FieldType} {A : Array Value} {U : State} (h : va_AOA t U) : (Cond.arrayOver (.array t)).before A U = true := h
theorem va_AOA.moved {t : FieldType} {u U : State} (hvm : u.vm.Alike U.vm) (h : va_AOA t u) : va_AOA t U := by
  obtain ⟨comp, c, k, h1, h2, h3, h4, h5⟩ := arrayOverA_spec (va_AOA.use (A := #[]) h)
  obtain ⟨k', hk', he⟩ := hvm.2.2 _ _ h3
  have hi : (U.vm.classes.findIdx? fun (x : Class) => match x.kind with | .array component _ => component == comp | _ => false) = some c := by
    have e0 := hvm.bare_eq
    first
      | exact (va_idx_bare U.vm comp).symm.trans ((congrArg (fun v : Vm => v.classes.findIdx? (fun (x : Class) => match x.kind with | .array component _ => component == comp | _ => false)) e0).trans ((va_idx_bare u.vm comp).trans h2))
      | exact (va_idx_bare U.vm comp).symm.trans ((congrArg (fun v : Vm => v.classes.findIdx? (fun (x : Class) => match x.kind with | .array component _ => component == comp | _ => false)) e0.symm).trans ((va_idx_bare u.vm comp).trans h2))
  have hkind : k'.kind = .array comp (.array t) := by rw [he]; exact h4
  have f1 : U.vm.findClass (FieldType.array t).toString = some comp := by rw [hvm.findClass]; exact h1
  have f2 : U.vm.findClass ("[" ++ (FieldType.array t).toString) = some c := by rw [hvm.findClass]; exact h5
  unfold va_AOA Cond.before Cond.holds
  simp only [Cond.value]
  rw [f1, Option.bind_some]
  refine (congrArg (fun o : Option Nat => (o.bind (fun c => (U.vm.classes[c]?).map fun (k : Class) => match k.kind with | .array _ ty => decide (ty = FieldType.array t) && decide (U.vm.findClass ("[" ++ (FieldType.array t).toString) = some c) | _ => false) == some true)) hi).trans ?_
  simp [hk', hkind, f2]
def wsG : List Cond := lw_tbl.filter goodWord
theorem wsG_t : ∀ w ∈ wsG, w ∈ lw_tbl := fun w h => (List.mem_filter.mp h).1
abbrev RX0 : String := "WireHost$Arrival"
def TX0 : u_T := fun k => match k with
  | 0 => ("WireHost$Arrival", "octets", "[I", true)
  | _ => ("WireHost$Arrival", "length", "I", false)
def tyX0 : Nat → FieldType := fun k => match k with
  | 0 => .array .int
  | _ => .int
theorem nmX0 : ∀ a, a < 2 → ∀ b, b < 2 → a ≠ b → (TX0 a).2.1 ≠ (TX0 b).2.1 := by decide +kernel
theorem tyX0_ok : ∀ k, k < 2 → parseFieldDescriptor (TX0 k).2.2.1 = some (tyX0 k) := by decide +kernel
theorem uwX0 : ∀ w ∈ u_ws RX0 TX0 2, w ∈ wsG := fun w h => List.mem_filter.mpr ⟨(by decide +kernel : ∀ w ∈ u_ws RX0 TX0 2, w ∈ lw_tbl) w h, (by decide +kernel : ∀ w ∈ u_ws RX0 TX0 2, goodWord w = true) w h⟩
abbrev RX1 : String := "WireHost$Assembly"
def TX1 : u_T := fun k => match k with
  | 0 => ("WireHost$Assembly", "octets", "[I", true)
  | 1 => ("WireHost$Assembly", "inUse", "Z", false)
  | 2 => ("WireHost$Assembly", "source", "I", false)
  | 3 => ("WireHost$Assembly", "id", "I", false)
  | 4 => ("WireHost$Assembly", "protocol", "I", false)
  | 5 => ("WireHost$Assembly", "units", "I", false)
  | 6 => ("WireHost$Assembly", "end", "I", false)
  | _ => ("WireHost$Assembly", "age", "I", false)
def tyX1 : Nat → FieldType := fun k => match k with
  | 0 => .array .int
  | 1 => .boolean
  | 2 => .int
  | 3 => .int
  | 4 => .int
  | 5 => .int
  | 6 => .int
  | _ => .int
theorem nmX1 : ∀ a, a < 8 → ∀ b, b < 8 → a ≠ b → (TX1 a).2.1 ≠ (TX1 b).2.1 := by decide +kernel
theorem tyX1_ok : ∀ k, k < 8 → parseFieldDescriptor (TX1 k).2.2.1 = some (tyX1 k) := by decide +kernel
theorem uwX1 : ∀ w ∈ u_ws RX1 TX1 8, w ∈ wsG := fun w h => List.mem_filter.mpr ⟨(by decide +kernel : ∀ w ∈ u_ws RX1 TX1 8, w ∈ lw_tbl) w h, (by decide +kernel : ∀ w ∈ u_ws RX1 TX1 8, goodWord w = true) w h⟩
abbrev RX2 : String := "WireHost$Datagram"
def TX2 : u_T := fun k => match k with
  | 0 => ("WireHost$Datagram", "payload", "[I", true)
  | 1 => ("WireHost$Datagram", "source", "I", false)
  | 2 => ("WireHost$Datagram", "protocol", "I", false)
  | _ => ("WireHost$Datagram", "length", "I", false)
def tyX2 : Nat → FieldType := fun k => match k with
  | 0 => .array .int
  | 1 => .int
  | 2 => .int
  | _ => .int
theorem nmX2 : ∀ a, a < 4 → ∀ b, b < 4 → a ≠ b → (TX2 a).2.1 ≠ (TX2 b).2.1 := by decide +kernel
theorem tyX2_ok : ∀ k, k < 4 → parseFieldDescriptor (TX2 k).2.2.1 = some (tyX2 k) := by decide +kernel
theorem uwX2 : ∀ w ∈ u_ws RX2 TX2 4, w ∈ wsG := fun w h => List.mem_filter.mpr ⟨(by decide +kernel : ∀ w ∈ u_ws RX2 TX2 4, w ∈ lw_tbl) w h, (by decide +kernel : ∀ w ∈ u_ws RX2 TX2 4, goodWord w = true) w h⟩
abbrev RX3 : String := "WireHost$Gathering"
def TX3 : u_T := fun k => match k with
  | 0 => ("WireHost$Gathering", "all", "[LWireHost$Assembly;", true)
  | _ => ("WireHost$Gathering", "newest", "I", false)
def tyX3 : Nat → FieldType := fun k => match k with
  | 0 => .array (.object "WireHost$Assembly")
  | _ => .int
theorem nmX3 : ∀ a, a < 2 → ∀ b, b < 2 → a ≠ b → (TX3 a).2.1 ≠ (TX3 b).2.1 := by decide +kernel
theorem tyX3_ok : ∀ k, k < 2 → parseFieldDescriptor (TX3 k).2.2.1 = some (tyX3 k) := by decide +kernel
theorem uwX3 : ∀ w ∈ u_ws RX3 TX3 2, w ∈ wsG := fun w h => List.mem_filter.mpr ⟨(by decide +kernel : ∀ w ∈ u_ws RX3 TX3 2, w ∈ lw_tbl) w h, (by decide +kernel : ∀ w ∈ u_ws RX3 TX3 2, goodWord w = true) w h⟩
abbrev RX4 : String := "WireHost$Shelf"
def TX4 : u_T := fun k => match k with
  | 0 => ("WireHost$Shelf", "texts", "[LWireHost$Text;", true)
  | 1 => ("WireHost$Shelf", "answer", "[I", true)
  | _ => ("WireHost$Shelf", "answerLength", "I", false)
def tyX4 : Nat → FieldType := fun k => match k with
  | 0 => .array (.object "WireHost$Text")
  | 1 => .array .int
  | _ => .int
theorem nmX4 : ∀ a, a < 3 → ∀ b, b < 3 → a ≠ b → (TX4 a).2.1 ≠ (TX4 b).2.1 := by decide +kernel
theorem tyX4_ok : ∀ k, k < 3 → parseFieldDescriptor (TX4 k).2.2.1 = some (tyX4 k) := by decide +kernel
theorem uwX4 : ∀ w ∈ u_ws RX4 TX4 3, w ∈ wsG := fun w h => List.mem_filter.mpr ⟨(by decide +kernel : ∀ w ∈ u_ws RX4 TX4 3, w ∈ lw_tbl) w h, (by decide +kernel : ∀ w ∈ u_ws RX4 TX4 3, goodWord w = true) w h⟩
abbrev RX5 : String := "WireHost$Stream"
def TX5 : u_T := fun k => match k with
  | 0 => ("WireHost$Stream", "out", "[I", true)
  | 1 => ("WireHost$Stream", "in", "[I", true)
  | 2 => ("WireHost$Stream", "state", "I", false)
  | 3 => ("WireHost$Stream", "address", "I", false)
  | 4 => ("WireHost$Stream", "port", "I", false)
  | 5 => ("WireHost$Stream", "next", "I", false)
  | 6 => ("WireHost$Stream", "first", "I", false)
  | 7 => ("WireHost$Stream", "sent", "I", false)
  | 8 => ("WireHost$Stream", "outLength", "I", false)
  | 9 => ("WireHost$Stream", "inLength", "I", false)
  | 10 => ("WireHost$Stream", "window", "I", false)
  | 11 => ("WireHost$Stream", "pace", "I", false)
  | 12 => ("WireHost$Stream", "tries", "I", false)
  | _ => ("WireHost$Stream", "timer", "I", false)
def tyX5 : Nat → FieldType := fun k => match k with
  | 0 => .array .int
  | 1 => .array .int
  | 2 => .int
  | 3 => .int
  | 4 => .int
  | 5 => .int
  | 6 => .int
  | 7 => .int
  | 8 => .int
  | 9 => .int
  | 10 => .int
  | 11 => .int
  | 12 => .int
  | _ => .int
theorem nmX5 : ∀ a, a < 14 → ∀ b, b < 14 → a ≠ b → (TX5 a).2.1 ≠ (TX5 b).2.1 := by decide +kernel
theorem tyX5_ok : ∀ k, k < 14 → parseFieldDescriptor (TX5 k).2.2.1 = some (tyX5 k) := by decide +kernel
theorem uwX5 : ∀ w ∈ u_ws RX5 TX5 14, w ∈ wsG := fun w h => List.mem_filter.mpr ⟨(by decide +kernel : ∀ w ∈ u_ws RX5 TX5 14, w ∈ lw_tbl) w h, (by decide +kernel : ∀ w ∈ u_ws RX5 TX5 14, goodWord w = true) w h⟩
abbrev RX6 : String := "WireHost$Streams"
def TX6 : u_T := fun k => match k with
  | 0 => ("WireHost$Streams", "all", "[LWireHost$Stream;", true)
  | 1 => ("WireHost$Streams", "wire", "LWireHost$Wire;", true)
  | 2 => ("WireHost$Streams", "shelf", "LWireHost$Shelf;", true)
  | 3 => ("WireHost$Streams", "segment", "[I", true)
  | 4 => ("WireHost$Streams", "begun", "I", false)
  | 5 => ("WireHost$Streams", "lines", "I", false)
  | _ => ("WireHost$Streams", "again", "I", false)
def tyX6 : Nat → FieldType := fun k => match k with
  | 0 => .array (.object "WireHost$Stream")
  | 1 => .object "WireHost$Wire"
  | 2 => .object "WireHost$Shelf"
  | 3 => .array .int
  | 4 => .int
  | 5 => .int
  | _ => .int
theorem nmX6 : ∀ a, a < 7 → ∀ b, b < 7 → a ≠ b → (TX6 a).2.1 ≠ (TX6 b).2.1 := by decide +kernel
theorem tyX6_ok : ∀ k, k < 7 → parseFieldDescriptor (TX6 k).2.2.1 = some (tyX6 k) := by decide +kernel
theorem uwX6 : ∀ w ∈ u_ws RX6 TX6 7, w ∈ wsG := fun w h => List.mem_filter.mpr ⟨(by decide +kernel : ∀ w ∈ u_ws RX6 TX6 7, w ∈ lw_tbl) w h, (by decide +kernel : ∀ w ∈ u_ws RX6 TX6 7, goodWord w = true) w h⟩
abbrev RX7 : String := "WireHost$Text"
def TX7 : u_T := fun k => match k with
  | 0 => ("WireHost$Text", "letters", "[I", true)
  | 1 => ("WireHost$Text", "octets", "[I", true)
  | 2 => ("WireHost$Text", "nameLength", "I", false)
  | 3 => ("WireHost$Text", "check", "I", false)
  | _ => ("WireHost$Text", "length", "I", false)
def tyX7 : Nat → FieldType := fun k => match k with
  | 0 => .array .int
  | 1 => .array .int
  | 2 => .int
  | 3 => .int
  | _ => .int
theorem nmX7 : ∀ a, a < 5 → ∀ b, b < 5 → a ≠ b → (TX7 a).2.1 ≠ (TX7 b).2.1 := by decide +kernel
theorem tyX7_ok : ∀ k, k < 5 → parseFieldDescriptor (TX7 k).2.2.1 = some (tyX7 k) := by decide +kernel
theorem uwX7 : ∀ w ∈ u_ws RX7 TX7 5, w ∈ wsG := fun w h => List.mem_filter.mpr ⟨(by decide +kernel : ∀ w ∈ u_ws RX7 TX7 5, w ∈ lw_tbl) w h, (by decide +kernel : ∀ w ∈ u_ws RX7 TX7 5, goodWord w = true) w h⟩
abbrev RX8 : String := "WireHost$Wire"
def TX8 : u_T := fun k => match k with
  | 0 => ("WireHost$Wire", "stations", "[I", true)
  | 1 => ("WireHost$Wire", "frames", "[[I", true)
  | 2 => ("WireHost$Wire", "lengths", "[I", true)
  | 3 => ("WireHost$Wire", "latest", "I", false)
  | 4 => ("WireHost$Wire", "total", "I", false)
  | _ => ("WireHost$Wire", "ids", "I", false)
def tyX8 : Nat → FieldType := fun k => match k with
  | 0 => .array .int
  | 1 => .array (.array .int)
  | 2 => .array .int
  | 3 => .int
  | 4 => .int
  | _ => .int
theorem nmX8 : ∀ a, a < 6 → ∀ b, b < 6 → a ≠ b → (TX8 a).2.1 ≠ (TX8 b).2.1 := by decide +kernel
theorem tyX8_ok : ∀ k, k < 6 → parseFieldDescriptor (TX8 k).2.2.1 = some (tyX8 k) := by decide +kernel
theorem uwX8 : ∀ w ∈ u_ws RX8 TX8 6, w ∈ wsG := fun w h => List.mem_filter.mpr ⟨(by decide +kernel : ∀ w ∈ u_ws RX8 TX8 6, w ∈ lw_tbl) w h, (by decide +kernel : ∀ w ∈ u_ws RX8 TX8 6, goodWord w = true) w h⟩
abbrev RX9 : String := "WireHost"
def TX9 : u_T := fun k => match k with
  | 0 => ("WireHost", "arrival", "LWireHost$Arrival;", true)
  | 1 => ("WireHost", "gathering", "LWireHost$Gathering;", true)
  | 2 => ("WireHost", "datagram", "LWireHost$Datagram;", true)
  | 3 => ("WireHost", "streams", "LWireHost$Streams;", true)
  | 4 => ("WireHost", "time", "I", false)
  | 5 => ("WireHost", "arrived", "I", false)
  | _ => ("WireHost", "dropped", "I", false)
def tyX9 : Nat → FieldType := fun k => match k with
  | 0 => .object "WireHost$Arrival"
  | 1 => .object "WireHost$Gathering"
  | 2 => .object "WireHost$Datagram"
  | 3 => .object "WireHost$Streams"
  | 4 => .int
  | 5 => .int
  | _ => .int
theorem nmX9 : ∀ a, a < 7 → ∀ b, b < 7 → a ≠ b → (TX9 a).2.1 ≠ (TX9 b).2.1 := by decide +kernel
theorem tyX9_ok : ∀ k, k < 7 → parseFieldDescriptor (TX9 k).2.2.1 = some (tyX9 k) := by decide +kernel
theorem uwX9 : ∀ w ∈ u_ws RX9 TX9 7, w ∈ wsG := fun w h => List.mem_filter.mpr ⟨(by decide +kernel : ∀ w ∈ u_ws RX9 TX9 7, w ∈ lw_tbl) w h, (by decide +kernel : ∀ w ∈ u_ws RX9 TX9 7, goodWord w = true) w h⟩
abbrev RX10 : String := "WireHostModel"
def TX10 : u_T := fun k => match k with
  | 0 => ("WireHostModel", "in", "[I", true)
  | 1 => ("WireHostModel", "known", "[I", true)
  | 2 => ("WireHostModel", "out", "[I", true)
  | 3 => ("WireHostModel", "outLength", "[I", true)
  | 4 => ("WireHostModel", "length", "I", false)
  | 5 => ("WireHostModel", "ticks", "I", false)
  | 6 => ("WireHostModel", "arrived", "I", false)
  | 7 => ("WireHostModel", "dropped", "I", false)
  | 8 => ("WireHostModel", "frames", "I", false)
  | 9 => ("WireHostModel", "ids", "I", false)
  | 10 => ("WireHostModel", "begun", "I", false)
  | 11 => ("WireHostModel", "answered", "I", false)
  | 12 => ("WireHostModel", "anew", "I", false)
  | 13 => ("WireHostModel", "name", "[I", true)
  | 14 => ("WireHostModel", "nameLength", "[I", true)
  | 15 => ("WireHostModel", "body", "[I", true)
  | 16 => ("WireHostModel", "bodyLength", "[I", true)
  | 17 => ("WireHostModel", "check", "[I", true)
  | 18 => ("WireHostModel", "used", "[Z", true)
  | 19 => ("WireHostModel", "source", "[I", true)
  | 20 => ("WireHostModel", "id", "[I", true)
  | 21 => ("WireHostModel", "units", "[I", true)
  | 22 => ("WireHostModel", "last", "[I", true)
  | 23 => ("WireHostModel", "since", "[I", true)
  | 24 => ("WireHostModel", "order", "[I", true)
  | 25 => ("WireHostModel", "protocol", "[I", true)
  | 26 => ("WireHostModel", "pieces", "[I", true)
  | 27 => ("WireHostModel", "orders", "I", false)
  | 28 => ("WireHostModel", "load", "[I", true)
  | 29 => ("WireHostModel", "send", "[I", true)
  | 30 => ("WireHostModel", "sendLength", "I", false)
  | 31 => ("WireHostModel", "state", "[I", true)
  | 32 => ("WireHostModel", "address", "[I", true)
  | 33 => ("WireHostModel", "port", "[I", true)
  | 34 => ("WireHostModel", "next", "[I", true)
  | 35 => ("WireHostModel", "first", "[I", true)
  | 36 => ("WireHostModel", "sent", "[I", true)
  | 37 => ("WireHostModel", "window", "[I", true)
  | 38 => ("WireHostModel", "pace", "[I", true)
  | 39 => ("WireHostModel", "tries", "[I", true)
  | 40 => ("WireHostModel", "timer", "[I", true)
  | 41 => ("WireHostModel", "queue", "[I", true)
  | 42 => ("WireHostModel", "queued", "[I", true)
  | 43 => ("WireHostModel", "box", "[I", true)
  | 44 => ("WireHostModel", "boxed", "[I", true)
  | 45 => ("WireHostModel", "answer", "[I", true)
  | _ => ("WireHostModel", "answerLength", "I", false)
def tyX10 : Nat → FieldType := fun k => match k with
  | 0 => .array .int
  | 1 => .array .int
  | 2 => .array .int
  | 3 => .array .int
  | 4 => .int
  | 5 => .int
  | 6 => .int
  | 7 => .int
  | 8 => .int
  | 9 => .int
  | 10 => .int
  | 11 => .int
  | 12 => .int
  | 13 => .array .int
  | 14 => .array .int
  | 15 => .array .int
  | 16 => .array .int
  | 17 => .array .int
  | 18 => .array .boolean
  | 19 => .array .int
  | 20 => .array .int
  | 21 => .array .int
  | 22 => .array .int
  | 23 => .array .int
  | 24 => .array .int
  | 25 => .array .int
  | 26 => .array .int
  | 27 => .int
  | 28 => .array .int
  | 29 => .array .int
  | 30 => .int
  | 31 => .array .int
  | 32 => .array .int
  | 33 => .array .int
  | 34 => .array .int
  | 35 => .array .int
  | 36 => .array .int
  | 37 => .array .int
  | 38 => .array .int
  | 39 => .array .int
  | 40 => .array .int
  | 41 => .array .int
  | 42 => .array .int
  | 43 => .array .int
  | 44 => .array .int
  | 45 => .array .int
  | _ => .int
theorem nmX10 : ∀ a, a < 47 → ∀ b, b < 47 → a ≠ b → (TX10 a).2.1 ≠ (TX10 b).2.1 := by decide +kernel
theorem tyX10_ok : ∀ k, k < 47 → parseFieldDescriptor (TX10 k).2.2.1 = some (tyX10 k) := by decide +kernel
theorem uwX10 : ∀ w ∈ u_ws RX10 TX10 47, w ∈ wsG := fun w h => List.mem_filter.mpr ⟨(by decide +kernel : ∀ w ∈ u_ws RX10 TX10 47, w ∈ lw_tbl) w h, (by decide +kernel : ∀ w ∈ u_ws RX10 TX10 47, goodWord w = true) w h⟩
abbrev vwCl : List vw_C := [(RX0, TX0, 2), (RX1, TX1, 8), (RX2, TX2, 4), (RX3, TX3, 2), (RX4, TX4, 3), (RX5, TX5, 14), (RX6, TX6, 7), (RX7, TX7, 5), (RX8, TX8, 6), (RX9, TX9, 7), (RX10, TX10, 47)]
abbrev TY (tC : Nat → ClassId) : List (ClassId × FieldType) := [(tC 0, .int), (tC 1, .object RX1), (tC 2, .object RX5), (tC 3, .object RX7), (tC 4, .array .int), (tC 5, .boolean)]
theorem gB {a w : Cond} (h : w ∈ wsG) : GoodIn (a :: wsG) (w :: wsG) := by
  intro x hx
  have hm : x ∈ wsG := by
    rcases List.mem_cons.mp hx with rfl | hx
    · exact h
    · exact hx
  exact ⟨List.mem_cons_of_mem _ hm, good_of_word (List.mem_filter.mp hm).2⟩
theorem gX {a : Cond} {l : List Cond} (h : ∀ w ∈ l, w ∈ wsG) : GoodIn (a :: wsG) l := fun x hx => ⟨List.mem_cons_of_mem _ (h x hx), good_of_word (List.mem_filter.mp (h x hx)).2⟩
theorem gV {a w : Cond} {own C : String} {idx : Nat} {y : MethodName} (h1 : Cond.methodLink own idx y ∈ wsG) (h2 : Cond.instanceMethod y ∈ wsG) (h3 : Cond.selects C y y ∈ wsG) (h4 : Cond.initialized C ∈ wsG) (h : w ∈ wsG) : GoodIn (a :: wsG) (wsV own idx C y (w :: wsG)) := by
  refine gX (fun x hx => ?_)
  unfold wsV at hx
  simp only [List.cons_append, List.nil_append, List.mem_cons] at hx
  rcases hx with rfl | rfl | rfl | rfl | rfl | hx
  · exact h1
  · exact h2
  · exact h3
  · exact h4
  · exact h
  · exact hx
theorem gS {a w : Cond} {own : String} {idx : Nat} {y : MethodName} (h1 : Cond.methodLink own idx y ∈ wsG) (h2 : Cond.static y ∈ wsG) (h4 : Cond.initialized y.cls ∈ wsG) (h : w ∈ wsG) : GoodIn (a :: wsG) (va_wsS own idx y (w :: wsG)) := by
  refine gX (fun x hx => ?_)
  unfold va_wsS at hx
  simp only [List.cons_append, List.nil_append, List.mem_cons] at hx
  rcases hx with rfl | rfl | rfl | rfl | hx
  · exact h1
  · exact h2
  · exact h4
  · exact h
  · exact hx
abbrev cX0_init : ByteArray := prog_2_method_1_code
abbrev yX0_init : MethodName := ⟨"WireHost$Arrival", "<init>", "()V"⟩
abbrev wsX0_init : List Cond := .code yX0_init cX0_init 1 none :: wsG
theorem dsc_X0_init : yX0_init.cls = "WireHost$Arrival" ∧ yX0_init.cls ≠ "java/lang/invoke/MethodHandle" ∧ yX0_init.cls ≠ "java/lang/invoke/VarHandle" ∧ (parseMethodDescriptor yX0_init.desc).map (fun d => d.parameters.length) = some 0 := by decide +kernel
abbrev cX0_isFit : ByteArray := prog_2_method_2_code
abbrev yX0_isFit : MethodName := ⟨"WireHost$Arrival", "isFit", "()Z"⟩
abbrev wsX0_isFit : List Cond := .code yX0_isFit cX0_isFit 2 (some .boolean) :: wsG
theorem dsc_X0_isFit : yX0_isFit.cls = "WireHost$Arrival" ∧ yX0_isFit.cls ≠ "java/lang/invoke/MethodHandle" ∧ yX0_isFit.cls ≠ "java/lang/invoke/VarHandle" ∧ (parseMethodDescriptor yX0_isFit.desc).map (fun d => d.parameters.length) = some 0 := by decide +kernel
abbrev cX0_isFitDatagram : ByteArray := prog_2_method_3_code
abbrev yX0_isFitDatagram : MethodName := ⟨"WireHost$Arrival", "isFitDatagram", "()Z"⟩
abbrev wsX0_isFitDatagram : List Cond := .code yX0_isFitDatagram cX0_isFitDatagram 1 (some .boolean) :: wsG
theorem dsc_X0_isFitDatagram : yX0_isFitDatagram.cls = "WireHost$Arrival" ∧ yX0_isFitDatagram.cls ≠ "java/lang/invoke/MethodHandle" ∧ yX0_isFitDatagram.cls ≠ "java/lang/invoke/VarHandle" ∧ (parseMethodDescriptor yX0_isFitDatagram.desc).map (fun d => d.parameters.length) = some 0 := by decide +kernel
abbrev cX0_sumsToZero : ByteArray := prog_2_method_4_code
abbrev yX0_sumsToZero : MethodName := ⟨"WireHost$Arrival", "sumsToZero", "()Z"⟩
abbrev wsX0_sumsToZero : List Cond := .code yX0_sumsToZero cX0_sumsToZero 3 (some .boolean) :: wsG
theorem dsc_X0_sumsToZero : yX0_sumsToZero.cls = "WireHost$Arrival" ∧ yX0_sumsToZero.cls ≠ "java/lang/invoke/MethodHandle" ∧ yX0_sumsToZero.cls ≠ "java/lang/invoke/VarHandle" ∧ (parseMethodDescriptor yX0_sumsToZero.desc).map (fun d => d.parameters.length) = some 0 := by decide +kernel
abbrev cX0_isFitFragment : ByteArray := prog_2_method_5_code
abbrev yX0_isFitFragment : MethodName := ⟨"WireHost$Arrival", "isFitFragment", "()Z"⟩
abbrev wsX0_isFitFragment : List Cond := .code yX0_isFitFragment cX0_isFitFragment 1 (some .boolean) :: wsG
theorem dsc_X0_isFitFragment : yX0_isFitFragment.cls = "WireHost$Arrival" ∧ yX0_isFitFragment.cls ≠ "java/lang/invoke/MethodHandle" ∧ yX0_isFitFragment.cls ≠ "java/lang/invoke/VarHandle" ∧ (parseMethodDescriptor yX0_isFitFragment.desc).map (fun d => d.parameters.length) = some 0 := by decide +kernel
abbrev cX0_isWhole : ByteArray := prog_2_method_6_code
abbrev yX0_isWhole : MethodName := ⟨"WireHost$Arrival", "isWhole", "()Z"⟩
abbrev wsX0_isWhole : List Cond := .code yX0_isWhole cX0_isWhole 1 (some .boolean) :: wsG
theorem dsc_X0_isWhole : yX0_isWhole.cls = "WireHost$Arrival" ∧ yX0_isWhole.cls ≠ "java/lang/invoke/MethodHandle" ∧ yX0_isWhole.cls ≠ "java/lang/invoke/VarHandle" ∧ (parseMethodDescriptor yX0_isWhole.desc).map (fun d => d.parameters.length) = some 0 := by decide +kernel
abbrev cX0_isEnd : ByteArray := prog_2_method_7_code
abbrev yX0_isEnd : MethodName := ⟨"WireHost$Arrival", "isEnd", "()Z"⟩
abbrev wsX0_isEnd : List Cond := .code yX0_isEnd cX0_isEnd 1 (some .boolean) :: wsG
theorem dsc_X0_isEnd : yX0_isEnd.cls = "WireHost$Arrival" ∧ yX0_isEnd.cls ≠ "java/lang/invoke/MethodHandle" ∧ yX0_isEnd.cls ≠ "java/lang/invoke/VarHandle" ∧ (parseMethodDescriptor yX0_isEnd.desc).map (fun d => d.parameters.length) = some 0 := by decide +kernel
abbrev cX0_unit : ByteArray := prog_2_method_8_code
abbrev yX0_unit : MethodName := ⟨"WireHost$Arrival", "unit", "()I"⟩
abbrev wsX0_unit : List Cond := .code yX0_unit cX0_unit 1 (some .int) :: wsG
theorem dsc_X0_unit : yX0_unit.cls = "WireHost$Arrival" ∧ yX0_unit.cls ≠ "java/lang/invoke/MethodHandle" ∧ yX0_unit.cls ≠ "java/lang/invoke/VarHandle" ∧ (parseMethodDescriptor yX0_unit.desc).map (fun d => d.parameters.length) = some 0 := by decide +kernel
abbrev cX0_size : ByteArray := prog_2_method_9_code
abbrev yX0_size : MethodName := ⟨"WireHost$Arrival", "size", "()I"⟩
abbrev wsX0_size : List Cond := .code yX0_size cX0_size 1 (some .int) :: wsG
theorem dsc_X0_size : yX0_size.cls = "WireHost$Arrival" ∧ yX0_size.cls ≠ "java/lang/invoke/MethodHandle" ∧ yX0_size.cls ≠ "java/lang/invoke/VarHandle" ∧ (parseMethodDescriptor yX0_size.desc).map (fun d => d.parameters.length) = some 0 := by decide +kernel
abbrev cX0_reach : ByteArray := prog_2_method_10_code
abbrev yX0_reach : MethodName := ⟨"WireHost$Arrival", "reach", "()I"⟩
abbrev wsX0_reach : List Cond := .code yX0_reach cX0_reach 1 (some .int) :: wsG
theorem dsc_X0_reach : yX0_reach.cls = "WireHost$Arrival" ∧ yX0_reach.cls ≠ "java/lang/invoke/MethodHandle" ∧ yX0_reach.cls ≠ "java/lang/invoke/VarHandle" ∧ (parseMethodDescriptor yX0_reach.desc).map (fun d => d.parameters.length) = some 0 := by decide +kernel
abbrev cX0_units : ByteArray := prog_2_method_11_code
abbrev yX0_units : MethodName := ⟨"WireHost$Arrival", "units", "()I"⟩
abbrev wsX0_units : List Cond := .code yX0_units cX0_units 1 (some .int) :: wsG
theorem dsc_X0_units : yX0_units.cls = "WireHost$Arrival" ∧ yX0_units.cls ≠ "java/lang/invoke/MethodHandle" ∧ yX0_units.cls ≠ "java/lang/invoke/VarHandle" ∧ (parseMethodDescriptor yX0_units.desc).map (fun d => d.parameters.length) = some 0 := by decide +kernel
abbrev cX1_init : ByteArray := prog_3_method_1_code
abbrev yX1_init : MethodName := ⟨"WireHost$Assembly", "<init>", "()V"⟩
abbrev wsX1_init : List Cond := .code yX1_init cX1_init 1 none :: wsG
theorem dsc_X1_init : yX1_init.cls = "WireHost$Assembly" ∧ yX1_init.cls ≠ "java/lang/invoke/MethodHandle" ∧ yX1_init.cls ≠ "java/lang/invoke/VarHandle" ∧ (parseMethodDescriptor yX1_init.desc).map (fun d => d.parameters.length) = some 0 := by decide +kernel
abbrev cX1_begin : ByteArray := prog_3_method_2_code
abbrev yX1_begin : MethodName := ⟨"WireHost$Assembly", "begin", "(II)V"⟩
abbrev wsX1_begin : List Cond := .code yX1_begin cX1_begin 3 none :: wsG
theorem dsc_X1_begin : yX1_begin.cls = "WireHost$Assembly" ∧ yX1_begin.cls ≠ "java/lang/invoke/MethodHandle" ∧ yX1_begin.cls ≠ "java/lang/invoke/VarHandle" ∧ (parseMethodDescriptor yX1_begin.desc).map (fun d => d.parameters.length) = some 2 := by decide +kernel
abbrev cX1_isOf : ByteArray := prog_3_method_3_code
abbrev yX1_isOf : MethodName := ⟨"WireHost$Assembly", "isOf", "(LWireHost$Arrival;)Z"⟩
abbrev wsX1_isOf : List Cond := .code yX1_isOf cX1_isOf 2 (some .boolean) :: wsG
theorem dsc_X1_isOf : yX1_isOf.cls = "WireHost$Assembly" ∧ yX1_isOf.cls ≠ "java/lang/invoke/MethodHandle" ∧ yX1_isOf.cls ≠ "java/lang/invoke/VarHandle" ∧ (parseMethodDescriptor yX1_isOf.desc).map (fun d => d.parameters.length) = some 1 := by decide +kernel
abbrev cX1_clashesWith : ByteArray := prog_3_method_4_code
abbrev yX1_clashesWith : MethodName := ⟨"WireHost$Assembly", "clashesWith", "(LWireHost$Arrival;)Z"⟩
abbrev wsX1_clashesWith : List Cond := .code yX1_clashesWith cX1_clashesWith 3 (some .boolean) :: wsG
theorem dsc_X1_clashesWith : yX1_clashesWith.cls = "WireHost$Assembly" ∧ yX1_clashesWith.cls ≠ "java/lang/invoke/MethodHandle" ∧ yX1_clashesWith.cls ≠ "java/lang/invoke/VarHandle" ∧ (parseMethodDescriptor yX1_clashesWith.desc).map (fun d => d.parameters.length) = some 1 := by decide +kernel
abbrev cX1_put : ByteArray := prog_3_method_5_code
abbrev yX1_put : MethodName := ⟨"WireHost$Assembly", "put", "(LWireHost$Arrival;)V"⟩
abbrev wsX1_put : List Cond := .code yX1_put cX1_put 4 none :: wsG
theorem dsc_X1_put : yX1_put.cls = "WireHost$Assembly" ∧ yX1_put.cls ≠ "java/lang/invoke/MethodHandle" ∧ yX1_put.cls ≠ "java/lang/invoke/VarHandle" ∧ (parseMethodDescriptor yX1_put.desc).map (fun d => d.parameters.length) = some 1 := by decide +kernel
abbrev cX1_isComplete : ByteArray := prog_3_method_6_code
abbrev yX1_isComplete : MethodName := ⟨"WireHost$Assembly", "isComplete", "()Z"⟩
abbrev wsX1_isComplete : List Cond := .code yX1_isComplete cX1_isComplete 1 (some .boolean) :: wsG
theorem dsc_X1_isComplete : yX1_isComplete.cls = "WireHost$Assembly" ∧ yX1_isComplete.cls ≠ "java/lang/invoke/MethodHandle" ∧ yX1_isComplete.cls ≠ "java/lang/invoke/VarHandle" ∧ (parseMethodDescriptor yX1_isComplete.desc).map (fun d => d.parameters.length) = some 0 := by decide +kernel
abbrev cX1_tell : ByteArray := prog_3_method_7_code
abbrev yX1_tell : MethodName := ⟨"WireHost$Assembly", "tell", "(I)I"⟩
abbrev wsX1_tell : List Cond := .code yX1_tell cX1_tell 3 (some .int) :: wsG
theorem dsc_X1_tell : yX1_tell.cls = "WireHost$Assembly" ∧ yX1_tell.cls ≠ "java/lang/invoke/MethodHandle" ∧ yX1_tell.cls ≠ "java/lang/invoke/VarHandle" ∧ (parseMethodDescriptor yX1_tell.desc).map (fun d => d.parameters.length) = some 1 := by decide +kernel
abbrev cX2_init : ByteArray := prog_4_method_1_code
abbrev yX2_init : MethodName := ⟨"WireHost$Datagram", "<init>", "()V"⟩
abbrev wsX2_init : List Cond := .code yX2_init cX2_init 1 none :: wsG
theorem dsc_X2_init : yX2_init.cls = "WireHost$Datagram" ∧ yX2_init.cls ≠ "java/lang/invoke/MethodHandle" ∧ yX2_init.cls ≠ "java/lang/invoke/VarHandle" ∧ (parseMethodDescriptor yX2_init.desc).map (fun d => d.parameters.length) = some 0 := by decide +kernel
abbrev cX2_fill : ByteArray := prog_4_method_2_code
abbrev yX2_fill : MethodName := ⟨"WireHost$Datagram", "fill", "(II[III)V"⟩
abbrev wsX2_fill : List Cond := .code yX2_fill cX2_fill 7 none :: wsG
theorem dsc_X2_fill : yX2_fill.cls = "WireHost$Datagram" ∧ yX2_fill.cls ≠ "java/lang/invoke/MethodHandle" ∧ yX2_fill.cls ≠ "java/lang/invoke/VarHandle" ∧ (parseMethodDescriptor yX2_fill.desc).map (fun d => d.parameters.length) = some 5 := by decide +kernel
abbrev cX2_isEchoAsked : ByteArray := prog_4_method_3_code
abbrev yX2_isEchoAsked : MethodName := ⟨"WireHost$Datagram", "isEchoAsked", "()Z"⟩
abbrev wsX2_isEchoAsked : List Cond := .code yX2_isEchoAsked cX2_isEchoAsked 1 (some .boolean) :: wsG
theorem dsc_X2_isEchoAsked : yX2_isEchoAsked.cls = "WireHost$Datagram" ∧ yX2_isEchoAsked.cls ≠ "java/lang/invoke/MethodHandle" ∧ yX2_isEchoAsked.cls ≠ "java/lang/invoke/VarHandle" ∧ (parseMethodDescriptor yX2_isEchoAsked.desc).map (fun d => d.parameters.length) = some 0 := by decide +kernel
abbrev cX2_isSegment : ByteArray := prog_4_method_4_code
abbrev yX2_isSegment : MethodName := ⟨"WireHost$Datagram", "isSegment", "()Z"⟩
abbrev wsX2_isSegment : List Cond := .code yX2_isSegment cX2_isSegment 1 (some .boolean) :: wsG
theorem dsc_X2_isSegment : yX2_isSegment.cls = "WireHost$Datagram" ∧ yX2_isSegment.cls ≠ "java/lang/invoke/MethodHandle" ∧ yX2_isSegment.cls ≠ "java/lang/invoke/VarHandle" ∧ (parseMethodDescriptor yX2_isSegment.desc).map (fun d => d.parameters.length) = some 0 := by decide +kernel
abbrev cX2_hasFlag : ByteArray := prog_4_method_5_code
abbrev yX2_hasFlag : MethodName := ⟨"WireHost$Datagram", "hasFlag", "(I)Z"⟩
abbrev wsX2_hasFlag : List Cond := .code yX2_hasFlag cX2_hasFlag 2 (some .boolean) :: wsG
theorem dsc_X2_hasFlag : yX2_hasFlag.cls = "WireHost$Datagram" ∧ yX2_hasFlag.cls ≠ "java/lang/invoke/MethodHandle" ∧ yX2_hasFlag.cls ≠ "java/lang/invoke/VarHandle" ∧ (parseMethodDescriptor yX2_hasFlag.desc).map (fun d => d.parameters.length) = some 1 := by decide +kernel
abbrev cX2_wantsAck : ByteArray := prog_4_method_6_code
abbrev yX2_wantsAck : MethodName := ⟨"WireHost$Datagram", "wantsAck", "()Z"⟩
abbrev wsX2_wantsAck : List Cond := .code yX2_wantsAck cX2_wantsAck 1 (some .boolean) :: wsG
theorem dsc_X2_wantsAck : yX2_wantsAck.cls = "WireHost$Datagram" ∧ yX2_wantsAck.cls ≠ "java/lang/invoke/MethodHandle" ∧ yX2_wantsAck.cls ≠ "java/lang/invoke/VarHandle" ∧ (parseMethodDescriptor yX2_wantsAck.desc).map (fun d => d.parameters.length) = some 0 := by decide +kernel
abbrev cX3_init : ByteArray := prog_5_method_1_code
abbrev yX3_init : MethodName := ⟨"WireHost$Gathering", "<init>", "()V"⟩
abbrev wsX3_init : List Cond := .code yX3_init cX3_init 2 none :: wsG
theorem dsc_X3_init : yX3_init.cls = "WireHost$Gathering" ∧ yX3_init.cls ≠ "java/lang/invoke/MethodHandle" ∧ yX3_init.cls ≠ "java/lang/invoke/VarHandle" ∧ (parseMethodDescriptor yX3_init.desc).map (fun d => d.parameters.length) = some 0 := by decide +kernel
abbrev cX3_completes : ByteArray := prog_5_method_2_code
abbrev yX3_completes : MethodName := ⟨"WireHost$Gathering", "completes", "(LWireHost$Arrival;LWireHost$Datagram;)Z"⟩
abbrev wsX3_completes : List Cond := .code yX3_completes cX3_completes 4 (some .boolean) :: wsG
theorem dsc_X3_completes : yX3_completes.cls = "WireHost$Gathering" ∧ yX3_completes.cls ≠ "java/lang/invoke/MethodHandle" ∧ yX3_completes.cls ≠ "java/lang/invoke/VarHandle" ∧ (parseMethodDescriptor yX3_completes.desc).map (fun d => d.parameters.length) = some 2 := by decide +kernel
abbrev cX3_placeFor : ByteArray := prog_5_method_3_code
abbrev yX3_placeFor : MethodName := ⟨"WireHost$Gathering", "placeFor", "(LWireHost$Arrival;)I"⟩
abbrev wsX3_placeFor : List Cond := .code yX3_placeFor cX3_placeFor 4 (some .int) :: wsG
theorem dsc_X3_placeFor : yX3_placeFor.cls = "WireHost$Gathering" ∧ yX3_placeFor.cls ≠ "java/lang/invoke/MethodHandle" ∧ yX3_placeFor.cls ≠ "java/lang/invoke/VarHandle" ∧ (parseMethodDescriptor yX3_placeFor.desc).map (fun d => d.parameters.length) = some 1 := by decide +kernel
abbrev cX3_grow : ByteArray := prog_5_method_4_code
abbrev yX3_grow : MethodName := ⟨"WireHost$Gathering", "grow", "()V"⟩
abbrev wsX3_grow : List Cond := .code yX3_grow cX3_grow 3 none :: wsG
theorem dsc_X3_grow : yX3_grow.cls = "WireHost$Gathering" ∧ yX3_grow.cls ≠ "java/lang/invoke/MethodHandle" ∧ yX3_grow.cls ≠ "java/lang/invoke/VarHandle" ∧ (parseMethodDescriptor yX3_grow.desc).map (fun d => d.parameters.length) = some 0 := by decide +kernel
abbrev cX4_init : ByteArray := prog_6_method_1_code
abbrev yX4_init : MethodName := ⟨"WireHost$Shelf", "<init>", "()V"⟩
abbrev wsX4_init : List Cond := .code yX4_init cX4_init 2 none :: wsG
theorem dsc_X4_init : yX4_init.cls = "WireHost$Shelf" ∧ yX4_init.cls ≠ "java/lang/invoke/MethodHandle" ∧ yX4_init.cls ≠ "java/lang/invoke/VarHandle" ∧ (parseMethodDescriptor yX4_init.desc).map (fun d => d.parameters.length) = some 0 := by decide +kernel
abbrev cX4_answerTo : ByteArray := prog_6_method_2_code
abbrev yX4_answerTo : MethodName := ⟨"WireHost$Shelf", "answerTo", "([II)V"⟩
abbrev wsX4_answerTo : List Cond := .code yX4_answerTo cX4_answerTo 3 none :: wsG
theorem dsc_X4_answerTo : yX4_answerTo.cls = "WireHost$Shelf" ∧ yX4_answerTo.cls ≠ "java/lang/invoke/MethodHandle" ∧ yX4_answerTo.cls ≠ "java/lang/invoke/VarHandle" ∧ (parseMethodDescriptor yX4_answerTo.desc).map (fun d => d.parameters.length) = some 2 := by decide +kernel
abbrev cX4_isRequest : ByteArray := prog_6_method_3_code
abbrev yX4_isRequest : MethodName := ⟨"WireHost$Shelf", "isRequest", "([II)Z"⟩
abbrev wsX4_isRequest : List Cond := .code yX4_isRequest cX4_isRequest 3 (some .boolean) :: wsG
theorem dsc_X4_isRequest : yX4_isRequest.cls = "WireHost$Shelf" ∧ yX4_isRequest.cls ≠ "java/lang/invoke/MethodHandle" ∧ yX4_isRequest.cls ≠ "java/lang/invoke/VarHandle" ∧ (parseMethodDescriptor yX4_isRequest.desc).map (fun d => d.parameters.length) = some 2 := by decide +kernel
abbrev cX4_find : ByteArray := prog_6_method_4_code
abbrev yX4_find : MethodName := ⟨"WireHost$Shelf", "find", "([II)LWireHost$Text;"⟩
abbrev wsX4_find : List Cond := .code yX4_find cX4_find 4 (some (.object "WireHost$Text")) :: wsG
theorem dsc_X4_find : yX4_find.cls = "WireHost$Shelf" ∧ yX4_find.cls ≠ "java/lang/invoke/MethodHandle" ∧ yX4_find.cls ≠ "java/lang/invoke/VarHandle" ∧ (parseMethodDescriptor yX4_find.desc).map (fun d => d.parameters.length) = some 2 := by decide +kernel
abbrev cX4_putText : ByteArray := prog_6_method_5_code
abbrev yX4_putText : MethodName := ⟨"WireHost$Shelf", "putText", "(LWireHost$Text;)V"⟩
abbrev wsX4_putText : List Cond := .code yX4_putText cX4_putText 3 none :: wsG
theorem dsc_X4_putText : yX4_putText.cls = "WireHost$Shelf" ∧ yX4_putText.cls ≠ "java/lang/invoke/MethodHandle" ∧ yX4_putText.cls ≠ "java/lang/invoke/VarHandle" ∧ (parseMethodDescriptor yX4_putText.desc).map (fun d => d.parameters.length) = some 1 := by decide +kernel
abbrev cX4_put : ByteArray := prog_6_method_6_code
abbrev yX4_put : MethodName := ⟨"WireHost$Shelf", "put", "(I)V"⟩
abbrev wsX4_put : List Cond := .code yX4_put cX4_put 2 none :: wsG
theorem dsc_X4_put : yX4_put.cls = "WireHost$Shelf" ∧ yX4_put.cls ≠ "java/lang/invoke/MethodHandle" ∧ yX4_put.cls ≠ "java/lang/invoke/VarHandle" ∧ (parseMethodDescriptor yX4_put.desc).map (fun d => d.parameters.length) = some 1 := by decide +kernel
abbrev cX5_init : ByteArray := prog_7_method_1_code
abbrev yX5_init : MethodName := ⟨"WireHost$Stream", "<init>", "()V"⟩
abbrev wsX5_init : List Cond := .code yX5_init cX5_init 1 none :: wsG
theorem dsc_X5_init : yX5_init.cls = "WireHost$Stream" ∧ yX5_init.cls ≠ "java/lang/invoke/MethodHandle" ∧ yX5_init.cls ≠ "java/lang/invoke/VarHandle" ∧ (parseMethodDescriptor yX5_init.desc).map (fun d => d.parameters.length) = some 0 := by decide +kernel
abbrev cX5_begin : ByteArray := prog_7_method_2_code
abbrev yX5_begin : MethodName := ⟨"WireHost$Stream", "begin", "(LWireHost$Datagram;I)V"⟩
abbrev wsX5_begin : List Cond := .code yX5_begin cX5_begin 3 none :: wsG
theorem dsc_X5_begin : yX5_begin.cls = "WireHost$Stream" ∧ yX5_begin.cls ≠ "java/lang/invoke/MethodHandle" ∧ yX5_begin.cls ≠ "java/lang/invoke/VarHandle" ∧ (parseMethodDescriptor yX5_begin.desc).map (fun d => d.parameters.length) = some 2 := by decide +kernel
abbrev cX5_onTheWay : ByteArray := prog_7_method_3_code
abbrev yX5_onTheWay : MethodName := ⟨"WireHost$Stream", "onTheWay", "()I"⟩
abbrev wsX5_onTheWay : List Cond := .code yX5_onTheWay cX5_onTheWay 1 (some .int) :: wsG
theorem dsc_X5_onTheWay : yX5_onTheWay.cls = "WireHost$Stream" ∧ yX5_onTheWay.cls ≠ "java/lang/invoke/MethodHandle" ∧ yX5_onTheWay.cls ≠ "java/lang/invoke/VarHandle" ∧ (parseMethodDescriptor yX5_onTheWay.desc).map (fun d => d.parameters.length) = some 0 := by decide +kernel
abbrev cX5_goOn : ByteArray := prog_7_method_4_code
abbrev yX5_goOn : MethodName := ⟨"WireHost$Stream", "goOn", "(I)V"⟩
abbrev wsX5_goOn : List Cond := .code yX5_goOn cX5_goOn 2 none :: wsG
theorem dsc_X5_goOn : yX5_goOn.cls = "WireHost$Stream" ∧ yX5_goOn.cls ≠ "java/lang/invoke/MethodHandle" ∧ yX5_goOn.cls ≠ "java/lang/invoke/VarHandle" ∧ (parseMethodDescriptor yX5_goOn.desc).map (fun d => d.parameters.length) = some 1 := by decide +kernel
abbrev cX5_tickEndsTimer : ByteArray := prog_7_method_5_code
abbrev yX5_tickEndsTimer : MethodName := ⟨"WireHost$Stream", "tickEndsTimer", "()Z"⟩
abbrev wsX5_tickEndsTimer : List Cond := .code yX5_tickEndsTimer cX5_tickEndsTimer 1 (some .boolean) :: wsG
theorem dsc_X5_tickEndsTimer : yX5_tickEndsTimer.cls = "WireHost$Stream" ∧ yX5_tickEndsTimer.cls ≠ "java/lang/invoke/MethodHandle" ∧ yX5_tickEndsTimer.cls ≠ "java/lang/invoke/VarHandle" ∧ (parseMethodDescriptor yX5_tickEndsTimer.desc).map (fun d => d.parameters.length) = some 0 := by decide +kernel
abbrev cX5_goBack : ByteArray := prog_7_method_6_code
abbrev yX5_goBack : MethodName := ⟨"WireHost$Stream", "goBack", "()V"⟩
abbrev wsX5_goBack : List Cond := .code yX5_goBack cX5_goBack 1 none :: wsG
theorem dsc_X5_goBack : yX5_goBack.cls = "WireHost$Stream" ∧ yX5_goBack.cls ≠ "java/lang/invoke/MethodHandle" ∧ yX5_goBack.cls ≠ "java/lang/invoke/VarHandle" ∧ (parseMethodDescriptor yX5_goBack.desc).map (fun d => d.parameters.length) = some 0 := by decide +kernel
abbrev cX5_acknowledge : ByteArray := prog_7_method_7_code
abbrev yX5_acknowledge : MethodName := ⟨"WireHost$Stream", "acknowledge", "(I)V"⟩
abbrev wsX5_acknowledge : List Cond := .code yX5_acknowledge cX5_acknowledge 3 none :: wsG
theorem dsc_X5_acknowledge : yX5_acknowledge.cls = "WireHost$Stream" ∧ yX5_acknowledge.cls ≠ "java/lang/invoke/MethodHandle" ∧ yX5_acknowledge.cls ≠ "java/lang/invoke/VarHandle" ∧ (parseMethodDescriptor yX5_acknowledge.desc).map (fun d => d.parameters.length) = some 1 := by decide +kernel
abbrev cX5_follow : ByteArray := prog_7_method_8_code
abbrev yX5_follow : MethodName := ⟨"WireHost$Stream", "follow", "(LWireHost$Datagram;)Z"⟩
abbrev wsX5_follow : List Cond := .code yX5_follow cX5_follow 2 (some .boolean) :: wsG
theorem dsc_X5_follow : yX5_follow.cls = "WireHost$Stream" ∧ yX5_follow.cls ≠ "java/lang/invoke/MethodHandle" ∧ yX5_follow.cls ≠ "java/lang/invoke/VarHandle" ∧ (parseMethodDescriptor yX5_follow.desc).map (fun d => d.parameters.length) = some 1 := by decide +kernel
abbrev cX5_takeIn : ByteArray := prog_7_method_9_code
abbrev yX5_takeIn : MethodName := ⟨"WireHost$Stream", "takeIn", "(LWireHost$Datagram;)V"⟩
abbrev wsX5_takeIn : List Cond := .code yX5_takeIn cX5_takeIn 5 none :: wsG
theorem dsc_X5_takeIn : yX5_takeIn.cls = "WireHost$Stream" ∧ yX5_takeIn.cls ≠ "java/lang/invoke/MethodHandle" ∧ yX5_takeIn.cls ≠ "java/lang/invoke/VarHandle" ∧ (parseMethodDescriptor yX5_takeIn.desc).map (fun d => d.parameters.length) = some 1 := by decide +kernel
abbrev cX5_lineLength : ByteArray := prog_7_method_10_code
abbrev yX5_lineLength : MethodName := ⟨"WireHost$Stream", "lineLength", "()I"⟩
abbrev wsX5_lineLength : List Cond := .code yX5_lineLength cX5_lineLength 3 (some .int) :: wsG
theorem dsc_X5_lineLength : yX5_lineLength.cls = "WireHost$Stream" ∧ yX5_lineLength.cls ≠ "java/lang/invoke/MethodHandle" ∧ yX5_lineLength.cls ≠ "java/lang/invoke/VarHandle" ∧ (parseMethodDescriptor yX5_lineLength.desc).map (fun d => d.parameters.length) = some 0 := by decide +kernel
abbrev cX5_replaceLine : ByteArray := prog_7_method_11_code
abbrev yX5_replaceLine : MethodName := ⟨"WireHost$Stream", "replaceLine", "(I[II)V"⟩
abbrev wsX5_replaceLine : List Cond := .code yX5_replaceLine cX5_replaceLine 5 none :: wsG
theorem dsc_X5_replaceLine : yX5_replaceLine.cls = "WireHost$Stream" ∧ yX5_replaceLine.cls ≠ "java/lang/invoke/MethodHandle" ∧ yX5_replaceLine.cls ≠ "java/lang/invoke/VarHandle" ∧ (parseMethodDescriptor yX5_replaceLine.desc).map (fun d => d.parameters.length) = some 3 := by decide +kernel
abbrev cX5_nextSegmentSize : ByteArray := prog_7_method_12_code
abbrev yX5_nextSegmentSize : MethodName := ⟨"WireHost$Stream", "nextSegmentSize", "()I"⟩
abbrev wsX5_nextSegmentSize : List Cond := .code yX5_nextSegmentSize cX5_nextSegmentSize 3 (some .int) :: wsG
theorem dsc_X5_nextSegmentSize : yX5_nextSegmentSize.cls = "WireHost$Stream" ∧ yX5_nextSegmentSize.cls ≠ "java/lang/invoke/MethodHandle" ∧ yX5_nextSegmentSize.cls ≠ "java/lang/invoke/VarHandle" ∧ (parseMethodDescriptor yX5_nextSegmentSize.desc).map (fun d => d.parameters.length) = some 0 := by decide +kernel
abbrev cX5_canEnd : ByteArray := prog_7_method_13_code
abbrev yX5_canEnd : MethodName := ⟨"WireHost$Stream", "canEnd", "()Z"⟩
abbrev wsX5_canEnd : List Cond := .code yX5_canEnd cX5_canEnd 1 (some .boolean) :: wsG
theorem dsc_X5_canEnd : yX5_canEnd.cls = "WireHost$Stream" ∧ yX5_canEnd.cls ≠ "java/lang/invoke/MethodHandle" ∧ yX5_canEnd.cls ≠ "java/lang/invoke/VarHandle" ∧ (parseMethodDescriptor yX5_canEnd.desc).map (fun d => d.parameters.length) = some 0 := by decide +kernel
abbrev cX5_tell : ByteArray := prog_7_method_14_code
abbrev yX5_tell : MethodName := ⟨"WireHost$Stream", "tell", "(I)I"⟩
abbrev wsX5_tell : List Cond := .code yX5_tell cX5_tell 3 (some .int) :: wsG
theorem dsc_X5_tell : yX5_tell.cls = "WireHost$Stream" ∧ yX5_tell.cls ≠ "java/lang/invoke/MethodHandle" ∧ yX5_tell.cls ≠ "java/lang/invoke/VarHandle" ∧ (parseMethodDescriptor yX5_tell.desc).map (fun d => d.parameters.length) = some 1 := by decide +kernel
abbrev cX5_removeFirst : ByteArray := prog_7_method_15_code
abbrev yX5_removeFirst : MethodName := ⟨"WireHost$Stream", "removeFirst", "([III)I"⟩
abbrev wsX5_removeFirst : List Cond := .code yX5_removeFirst cX5_removeFirst 5 (some .int) :: wsG
theorem dsc_X5_removeFirst : yX5_removeFirst.cls = "WireHost$Stream" ∧ yX5_removeFirst.cls ≠ "java/lang/invoke/MethodHandle" ∧ yX5_removeFirst.cls ≠ "java/lang/invoke/VarHandle" ∧ (parseMethodDescriptor yX5_removeFirst.desc).map (fun d => d.parameters.length) = some 3 := by decide +kernel
abbrev cX6_init : ByteArray := prog_8_method_1_code
abbrev yX6_init : MethodName := ⟨"WireHost$Streams", "<init>", "()V"⟩
abbrev wsX6_init : List Cond := .code yX6_init cX6_init 2 none :: wsG
theorem dsc_X6_init : yX6_init.cls = "WireHost$Streams" ∧ yX6_init.cls ≠ "java/lang/invoke/MethodHandle" ∧ yX6_init.cls ≠ "java/lang/invoke/VarHandle" ∧ (parseMethodDescriptor yX6_init.desc).map (fun d => d.parameters.length) = some 0 := by decide +kernel
abbrev cX6_take : ByteArray := prog_8_method_2_code
abbrev yX6_take : MethodName := ⟨"WireHost$Streams", "take", "(LWireHost$Datagram;I)V"⟩
abbrev wsX6_take : List Cond := .code yX6_take cX6_take 5 none :: wsG
theorem dsc_X6_take : yX6_take.cls = "WireHost$Streams" ∧ yX6_take.cls ≠ "java/lang/invoke/MethodHandle" ∧ yX6_take.cls ≠ "java/lang/invoke/VarHandle" ∧ (parseMethodDescriptor yX6_take.desc).map (fun d => d.parameters.length) = some 2 := by decide +kernel
abbrev cX6_find : ByteArray := prog_8_method_3_code
abbrev yX6_find : MethodName := ⟨"WireHost$Streams", "find", "(II)LWireHost$Stream;"⟩
abbrev wsX6_find : List Cond := .code yX6_find cX6_find 4 (some (.object "WireHost$Stream")) :: wsG
theorem dsc_X6_find : yX6_find.cls = "WireHost$Streams" ∧ yX6_find.cls ≠ "java/lang/invoke/MethodHandle" ∧ yX6_find.cls ≠ "java/lang/invoke/VarHandle" ∧ (parseMethodDescriptor yX6_find.desc).map (fun d => d.parameters.length) = some 2 := by decide +kernel
abbrev cX6_findFree : ByteArray := prog_8_method_4_code
abbrev yX6_findFree : MethodName := ⟨"WireHost$Streams", "findFree", "()LWireHost$Stream;"⟩
abbrev wsX6_findFree : List Cond := .code yX6_findFree cX6_findFree 2 (some (.object "WireHost$Stream")) :: wsG
theorem dsc_X6_findFree : yX6_findFree.cls = "WireHost$Streams" ∧ yX6_findFree.cls ≠ "java/lang/invoke/MethodHandle" ∧ yX6_findFree.cls ≠ "java/lang/invoke/VarHandle" ∧ (parseMethodDescriptor yX6_findFree.desc).map (fun d => d.parameters.length) = some 0 := by decide +kernel
abbrev cX6_meetStranger : ByteArray := prog_8_method_5_code
abbrev yX6_meetStranger : MethodName := ⟨"WireHost$Streams", "meetStranger", "(LWireHost$Datagram;I)V"⟩
abbrev wsX6_meetStranger : List Cond := .code yX6_meetStranger cX6_meetStranger 5 none :: wsG
theorem dsc_X6_meetStranger : yX6_meetStranger.cls = "WireHost$Streams" ∧ yX6_meetStranger.cls ≠ "java/lang/invoke/MethodHandle" ∧ yX6_meetStranger.cls ≠ "java/lang/invoke/VarHandle" ∧ (parseMethodDescriptor yX6_meetStranger.desc).map (fun d => d.parameters.length) = some 2 := by decide +kernel
abbrev cX6_read : ByteArray := prog_8_method_6_code
abbrev yX6_read : MethodName := ⟨"WireHost$Streams", "read", "(LWireHost$Stream;)V"⟩
abbrev wsX6_read : List Cond := .code yX6_read cX6_read 4 none :: wsG
theorem dsc_X6_read : yX6_read.cls = "WireHost$Streams" ∧ yX6_read.cls ≠ "java/lang/invoke/MethodHandle" ∧ yX6_read.cls ≠ "java/lang/invoke/VarHandle" ∧ (parseMethodDescriptor yX6_read.desc).map (fun d => d.parameters.length) = some 1 := by decide +kernel
abbrev cX6_push : ByteArray := prog_8_method_7_code
abbrev yX6_push : MethodName := ⟨"WireHost$Streams", "push", "(LWireHost$Stream;)Z"⟩
abbrev wsX6_push : List Cond := .code yX6_push cX6_push 5 (some .boolean) :: wsG
theorem dsc_X6_push : yX6_push.cls = "WireHost$Streams" ∧ yX6_push.cls ≠ "java/lang/invoke/MethodHandle" ∧ yX6_push.cls ≠ "java/lang/invoke/VarHandle" ∧ (parseMethodDescriptor yX6_push.desc).map (fun d => d.parameters.length) = some 1 := by decide +kernel
abbrev cX6_send : ByteArray := prog_8_method_8_code
abbrev yX6_send : MethodName := ⟨"WireHost$Streams", "send", "(LWireHost$Stream;II)V"⟩
abbrev wsX6_send : List Cond := .code yX6_send cX6_send 6 none :: wsG
theorem dsc_X6_send : yX6_send.cls = "WireHost$Streams" ∧ yX6_send.cls ≠ "java/lang/invoke/MethodHandle" ∧ yX6_send.cls ≠ "java/lang/invoke/VarHandle" ∧ (parseMethodDescriptor yX6_send.desc).map (fun d => d.parameters.length) = some 3 := by decide +kernel
abbrev cX6_sendReset : ByteArray := prog_8_method_9_code
abbrev yX6_sendReset : MethodName := ⟨"WireHost$Streams", "sendReset", "(III)V"⟩
abbrev wsX6_sendReset : List Cond := .code yX6_sendReset cX6_sendReset 4 none :: wsG
theorem dsc_X6_sendReset : yX6_sendReset.cls = "WireHost$Streams" ∧ yX6_sendReset.cls ≠ "java/lang/invoke/MethodHandle" ∧ yX6_sendReset.cls ≠ "java/lang/invoke/VarHandle" ∧ (parseMethodDescriptor yX6_sendReset.desc).map (fun d => d.parameters.length) = some 3 := by decide +kernel
abbrev cX6_runTimer : ByteArray := prog_8_method_10_code
abbrev yX6_runTimer : MethodName := ⟨"WireHost$Streams", "runTimer", "(LWireHost$Stream;)V"⟩
abbrev wsX6_runTimer : List Cond := .code yX6_runTimer cX6_runTimer 2 none :: wsG
theorem dsc_X6_runTimer : yX6_runTimer.cls = "WireHost$Streams" ∧ yX6_runTimer.cls ≠ "java/lang/invoke/MethodHandle" ∧ yX6_runTimer.cls ≠ "java/lang/invoke/VarHandle" ∧ (parseMethodDescriptor yX6_runTimer.desc).map (fun d => d.parameters.length) = some 1 := by decide +kernel
abbrev cX7_init : ByteArray := prog_9_method_1_code
abbrev yX7_init : MethodName := ⟨"WireHost$Text", "<init>", "()V"⟩
abbrev wsX7_init : List Cond := .code yX7_init cX7_init 1 none :: wsG
theorem dsc_X7_init : yX7_init.cls = "WireHost$Text" ∧ yX7_init.cls ≠ "java/lang/invoke/MethodHandle" ∧ yX7_init.cls ≠ "java/lang/invoke/VarHandle" ∧ (parseMethodDescriptor yX7_init.desc).map (fun d => d.parameters.length) = some 0 := by decide +kernel
abbrev cX7_addLetter : ByteArray := prog_9_method_2_code
abbrev yX7_addLetter : MethodName := ⟨"WireHost$Text", "addLetter", "(I)I"⟩
abbrev wsX7_addLetter : List Cond := .code yX7_addLetter cX7_addLetter 2 (some .int) :: wsG
theorem dsc_X7_addLetter : yX7_addLetter.cls = "WireHost$Text" ∧ yX7_addLetter.cls ≠ "java/lang/invoke/MethodHandle" ∧ yX7_addLetter.cls ≠ "java/lang/invoke/VarHandle" ∧ (parseMethodDescriptor yX7_addLetter.desc).map (fun d => d.parameters.length) = some 1 := by decide +kernel
abbrev cX7_addOctet : ByteArray := prog_9_method_3_code
abbrev yX7_addOctet : MethodName := ⟨"WireHost$Text", "addOctet", "(I)I"⟩
abbrev wsX7_addOctet : List Cond := .code yX7_addOctet cX7_addOctet 2 (some .int) :: wsG
theorem dsc_X7_addOctet : yX7_addOctet.cls = "WireHost$Text" ∧ yX7_addOctet.cls ≠ "java/lang/invoke/MethodHandle" ∧ yX7_addOctet.cls ≠ "java/lang/invoke/VarHandle" ∧ (parseMethodDescriptor yX7_addOctet.desc).map (fun d => d.parameters.length) = some 1 := by decide +kernel
abbrev cX7_replace : ByteArray := prog_9_method_4_code
abbrev yX7_replace : MethodName := ⟨"WireHost$Text", "replace", "(II)I"⟩
abbrev wsX7_replace : List Cond := .code yX7_replace cX7_replace 4 (some .int) :: wsG
theorem dsc_X7_replace : yX7_replace.cls = "WireHost$Text" ∧ yX7_replace.cls ≠ "java/lang/invoke/MethodHandle" ∧ yX7_replace.cls ≠ "java/lang/invoke/VarHandle" ∧ (parseMethodDescriptor yX7_replace.desc).map (fun d => d.parameters.length) = some 2 := by decide +kernel
abbrev cX7_empty : ByteArray := prog_9_method_5_code
abbrev yX7_empty : MethodName := ⟨"WireHost$Text", "empty", "()I"⟩
abbrev wsX7_empty : List Cond := .code yX7_empty cX7_empty 2 (some .int) :: wsG
theorem dsc_X7_empty : yX7_empty.cls = "WireHost$Text" ∧ yX7_empty.cls ≠ "java/lang/invoke/MethodHandle" ∧ yX7_empty.cls ≠ "java/lang/invoke/VarHandle" ∧ (parseMethodDescriptor yX7_empty.desc).map (fun d => d.parameters.length) = some 0 := by decide +kernel
abbrev cX7_isAskedBy : ByteArray := prog_9_method_6_code
abbrev yX7_isAskedBy : MethodName := ⟨"WireHost$Text", "isAskedBy", "([II)Z"⟩
abbrev wsX7_isAskedBy : List Cond := .code yX7_isAskedBy cX7_isAskedBy 4 (some .boolean) :: wsG
theorem dsc_X7_isAskedBy : yX7_isAskedBy.cls = "WireHost$Text" ∧ yX7_isAskedBy.cls ≠ "java/lang/invoke/MethodHandle" ∧ yX7_isAskedBy.cls ≠ "java/lang/invoke/VarHandle" ∧ (parseMethodDescriptor yX7_isAskedBy.desc).map (fun d => d.parameters.length) = some 2 := by decide +kernel
abbrev cX7_isSound : ByteArray := prog_9_method_7_code
abbrev yX7_isSound : MethodName := ⟨"WireHost$Text", "isSound", "()Z"⟩
abbrev wsX7_isSound : List Cond := .code yX7_isSound cX7_isSound 3 (some .boolean) :: wsG
theorem dsc_X7_isSound : yX7_isSound.cls = "WireHost$Text" ∧ yX7_isSound.cls ≠ "java/lang/invoke/MethodHandle" ∧ yX7_isSound.cls ≠ "java/lang/invoke/VarHandle" ∧ (parseMethodDescriptor yX7_isSound.desc).map (fun d => d.parameters.length) = some 0 := by decide +kernel
abbrev cX8_init : ByteArray := prog_10_method_1_code
abbrev yX8_init : MethodName := ⟨"WireHost$Wire", "<init>", "()V"⟩
abbrev wsX8_init : List Cond := .code yX8_init cX8_init 2 none :: wsG
theorem dsc_X8_init : yX8_init.cls = "WireHost$Wire" ∧ yX8_init.cls ≠ "java/lang/invoke/MethodHandle" ∧ yX8_init.cls ≠ "java/lang/invoke/VarHandle" ∧ (parseMethodDescriptor yX8_init.desc).map (fun d => d.parameters.length) = some 0 := by decide +kernel
abbrev cX8_look : ByteArray := prog_10_method_2_code
abbrev yX8_look : MethodName := ⟨"WireHost$Wire", "look", "(II)I"⟩
abbrev wsX8_look : List Cond := .code yX8_look cX8_look 4 (some .int) :: wsG
theorem dsc_X8_look : yX8_look.cls = "WireHost$Wire" ∧ yX8_look.cls ≠ "java/lang/invoke/MethodHandle" ∧ yX8_look.cls ≠ "java/lang/invoke/VarHandle" ∧ (parseMethodDescriptor yX8_look.desc).map (fun d => d.parameters.length) = some 2 := by decide +kernel
abbrev cX8_sendShort : ByteArray := prog_10_method_3_code
abbrev yX8_sendShort : MethodName := ⟨"WireHost$Wire", "sendShort", "(III)V"⟩
abbrev wsX8_sendShort : List Cond := .code yX8_sendShort cX8_sendShort 5 none :: wsG
theorem dsc_X8_sendShort : yX8_sendShort.cls = "WireHost$Wire" ∧ yX8_sendShort.cls ≠ "java/lang/invoke/MethodHandle" ∧ yX8_sendShort.cls ≠ "java/lang/invoke/VarHandle" ∧ (parseMethodDescriptor yX8_sendShort.desc).map (fun d => d.parameters.length) = some 3 := by decide +kernel
abbrev cX8_sendPayload : ByteArray := prog_10_method_4_code
abbrev yX8_sendPayload : MethodName := ⟨"WireHost$Wire", "sendPayload", "(II[II)V"⟩
abbrev wsX8_sendPayload : List Cond := .code yX8_sendPayload cX8_sendPayload 5 none :: wsG
theorem dsc_X8_sendPayload : yX8_sendPayload.cls = "WireHost$Wire" ∧ yX8_sendPayload.cls ≠ "java/lang/invoke/MethodHandle" ∧ yX8_sendPayload.cls ≠ "java/lang/invoke/VarHandle" ∧ (parseMethodDescriptor yX8_sendPayload.desc).map (fun d => d.parameters.length) = some 4 := by decide +kernel
abbrev cX8_sendPiece : ByteArray := prog_10_method_5_code
abbrev yX8_sendPiece : MethodName := ⟨"WireHost$Wire", "sendPiece", "(II[IIII)V"⟩
abbrev wsX8_sendPiece : List Cond := .code yX8_sendPiece cX8_sendPiece 10 none :: wsG
theorem dsc_X8_sendPiece : yX8_sendPiece.cls = "WireHost$Wire" ∧ yX8_sendPiece.cls ≠ "java/lang/invoke/MethodHandle" ∧ yX8_sendPiece.cls ≠ "java/lang/invoke/VarHandle" ∧ (parseMethodDescriptor yX8_sendPiece.desc).map (fun d => d.parameters.length) = some 6 := by decide +kernel
abbrev cX8_nextFrame : ByteArray := prog_10_method_6_code
abbrev yX8_nextFrame : MethodName := ⟨"WireHost$Wire", "nextFrame", "(I)[I"⟩
abbrev wsX8_nextFrame : List Cond := .code yX8_nextFrame cX8_nextFrame 2 (some (.array .int)) :: wsG
theorem dsc_X8_nextFrame : yX8_nextFrame.cls = "WireHost$Wire" ∧ yX8_nextFrame.cls ≠ "java/lang/invoke/MethodHandle" ∧ yX8_nextFrame.cls ≠ "java/lang/invoke/VarHandle" ∧ (parseMethodDescriptor yX8_nextFrame.desc).map (fun d => d.parameters.length) = some 1 := by decide +kernel
abbrev cX9_init : ByteArray := prog_1_method_1_code
abbrev yX9_init : MethodName := ⟨"WireHost", "<init>", "()V"⟩
abbrev wsX9_init : List Cond := .code yX9_init cX9_init 1 none :: wsG
theorem dsc_X9_init : yX9_init.cls = "WireHost" ∧ yX9_init.cls ≠ "java/lang/invoke/MethodHandle" ∧ yX9_init.cls ≠ "java/lang/invoke/VarHandle" ∧ (parseMethodDescriptor yX9_init.desc).map (fun d => d.parameters.length) = some 0 := by decide +kernel
abbrev cX9_octet : ByteArray := prog_1_method_2_code
abbrev yX9_octet : MethodName := ⟨"WireHost", "octet", "(I)I"⟩
abbrev wsX9_octet : List Cond := .code yX9_octet cX9_octet 2 (some .int) :: wsG
theorem dsc_X9_octet : yX9_octet.cls = "WireHost" ∧ yX9_octet.cls ≠ "java/lang/invoke/MethodHandle" ∧ yX9_octet.cls ≠ "java/lang/invoke/VarHandle" ∧ (parseMethodDescriptor yX9_octet.desc).map (fun d => d.parameters.length) = some 1 := by decide +kernel
abbrev cX9_arrive : ByteArray := prog_1_method_3_code
abbrev yX9_arrive : MethodName := ⟨"WireHost", "arrive", "()I"⟩
abbrev wsX9_arrive : List Cond := .code yX9_arrive cX9_arrive 3 (some .int) :: wsG
theorem dsc_X9_arrive : yX9_arrive.cls = "WireHost" ∧ yX9_arrive.cls ≠ "java/lang/invoke/MethodHandle" ∧ yX9_arrive.cls ≠ "java/lang/invoke/VarHandle" ∧ (parseMethodDescriptor yX9_arrive.desc).map (fun d => d.parameters.length) = some 0 := by decide +kernel
abbrev cX9_tick : ByteArray := prog_1_method_4_code
abbrev yX9_tick : MethodName := ⟨"WireHost", "tick", "(I)I"⟩
abbrev wsX9_tick : List Cond := .code yX9_tick cX9_tick 5 (some .int) :: wsG
theorem dsc_X9_tick : yX9_tick.cls = "WireHost" ∧ yX9_tick.cls ≠ "java/lang/invoke/MethodHandle" ∧ yX9_tick.cls ≠ "java/lang/invoke/VarHandle" ∧ (parseMethodDescriptor yX9_tick.desc).map (fun d => d.parameters.length) = some 1 := by decide +kernel
abbrev cX9_sent : ByteArray := prog_1_method_5_code
abbrev yX9_sent : MethodName := ⟨"WireHost", "sent", "(II)I"⟩
abbrev wsX9_sent : List Cond := .code yX9_sent cX9_sent 3 (some .int) :: wsG
theorem dsc_X9_sent : yX9_sent.cls = "WireHost" ∧ yX9_sent.cls ≠ "java/lang/invoke/MethodHandle" ∧ yX9_sent.cls ≠ "java/lang/invoke/VarHandle" ∧ (parseMethodDescriptor yX9_sent.desc).map (fun d => d.parameters.length) = some 2 := by decide +kernel
abbrev cX9_name : ByteArray := prog_1_method_6_code
abbrev yX9_name : MethodName := ⟨"WireHost", "name", "(II)I"⟩
abbrev wsX9_name : List Cond := .code yX9_name cX9_name 3 (some .int) :: wsG
theorem dsc_X9_name : yX9_name.cls = "WireHost" ∧ yX9_name.cls ≠ "java/lang/invoke/MethodHandle" ∧ yX9_name.cls ≠ "java/lang/invoke/VarHandle" ∧ (parseMethodDescriptor yX9_name.desc).map (fun d => d.parameters.length) = some 2 := by decide +kernel
abbrev cX9_body : ByteArray := prog_1_method_7_code
abbrev yX9_body : MethodName := ⟨"WireHost", "body", "(II)I"⟩
abbrev wsX9_body : List Cond := .code yX9_body cX9_body 3 (some .int) :: wsG
theorem dsc_X9_body : yX9_body.cls = "WireHost" ∧ yX9_body.cls ≠ "java/lang/invoke/MethodHandle" ∧ yX9_body.cls ≠ "java/lang/invoke/VarHandle" ∧ (parseMethodDescriptor yX9_body.desc).map (fun d => d.parameters.length) = some 2 := by decide +kernel
abbrev cX9_spoil : ByteArray := prog_1_method_8_code
abbrev yX9_spoil : MethodName := ⟨"WireHost", "spoil", "(III)I"⟩
abbrev wsX9_spoil : List Cond := .code yX9_spoil cX9_spoil 4 (some .int) :: wsG
theorem dsc_X9_spoil : yX9_spoil.cls = "WireHost" ∧ yX9_spoil.cls ≠ "java/lang/invoke/MethodHandle" ∧ yX9_spoil.cls ≠ "java/lang/invoke/VarHandle" ∧ (parseMethodDescriptor yX9_spoil.desc).map (fun d => d.parameters.length) = some 3 := by decide +kernel
abbrev cX9_erase : ByteArray := prog_1_method_9_code
abbrev yX9_erase : MethodName := ⟨"WireHost", "erase", "(I)I"⟩
abbrev wsX9_erase : List Cond := .code yX9_erase cX9_erase 2 (some .int) :: wsG
theorem dsc_X9_erase : yX9_erase.cls = "WireHost" ∧ yX9_erase.cls ≠ "java/lang/invoke/MethodHandle" ∧ yX9_erase.cls ≠ "java/lang/invoke/VarHandle" ∧ (parseMethodDescriptor yX9_erase.desc).map (fun d => d.parameters.length) = some 1 := by decide +kernel
abbrev cX9_known : ByteArray := prog_1_method_10_code
abbrev yX9_known : MethodName := ⟨"WireHost", "known", "(I)I"⟩
abbrev wsX9_known : List Cond := .code yX9_known cX9_known 2 (some .int) :: wsG
theorem dsc_X9_known : yX9_known.cls = "WireHost" ∧ yX9_known.cls ≠ "java/lang/invoke/MethodHandle" ∧ yX9_known.cls ≠ "java/lang/invoke/VarHandle" ∧ (parseMethodDescriptor yX9_known.desc).map (fun d => d.parameters.length) = some 1 := by decide +kernel
abbrev cX9_stream : ByteArray := prog_1_method_11_code
abbrev yX9_stream : MethodName := ⟨"WireHost", "stream", "(II)I"⟩
abbrev wsX9_stream : List Cond := .code yX9_stream cX9_stream 3 (some .int) :: wsG
theorem dsc_X9_stream : yX9_stream.cls = "WireHost" ∧ yX9_stream.cls ≠ "java/lang/invoke/MethodHandle" ∧ yX9_stream.cls ≠ "java/lang/invoke/VarHandle" ∧ (parseMethodDescriptor yX9_stream.desc).map (fun d => d.parameters.length) = some 2 := by decide +kernel
abbrev cX9_assembly : ByteArray := prog_1_method_12_code
abbrev yX9_assembly : MethodName := ⟨"WireHost", "assembly", "(II)I"⟩
abbrev wsX9_assembly : List Cond := .code yX9_assembly cX9_assembly 3 (some .int) :: wsG
theorem dsc_X9_assembly : yX9_assembly.cls = "WireHost" ∧ yX9_assembly.cls ≠ "java/lang/invoke/MethodHandle" ∧ yX9_assembly.cls ≠ "java/lang/invoke/VarHandle" ∧ (parseMethodDescriptor yX9_assembly.desc).map (fun d => d.parameters.length) = some 2 := by decide +kernel
abbrev cX9_count : ByteArray := prog_1_method_13_code
abbrev yX9_count : MethodName := ⟨"WireHost", "count", "(I)I"⟩
abbrev wsX9_count : List Cond := .code yX9_count cX9_count 2 (some .int) :: wsG
theorem dsc_X9_count : yX9_count.cls = "WireHost" ∧ yX9_count.cls ≠ "java/lang/invoke/MethodHandle" ∧ yX9_count.cls ≠ "java/lang/invoke/VarHandle" ∧ (parseMethodDescriptor yX9_count.desc).map (fun d => d.parameters.length) = some 1 := by decide +kernel
abbrev cX9_meetNeighbour : ByteArray := prog_1_method_14_code
abbrev yX9_meetNeighbour : MethodName := ⟨"WireHost", "meetNeighbour", "()V"⟩
abbrev wsX9_meetNeighbour : List Cond := .code yX9_meetNeighbour cX9_meetNeighbour 2 none :: wsG
theorem dsc_X9_meetNeighbour : yX9_meetNeighbour.cls = "WireHost" ∧ yX9_meetNeighbour.cls ≠ "java/lang/invoke/MethodHandle" ∧ yX9_meetNeighbour.cls ≠ "java/lang/invoke/VarHandle" ∧ (parseMethodDescriptor yX9_meetNeighbour.desc).map (fun d => d.parameters.length) = some 0 := by decide +kernel
abbrev cX9_isOctet : ByteArray := prog_1_method_15_code
abbrev yX9_isOctet : MethodName := ⟨"WireHost", "isOctet", "(I)Z"⟩
abbrev wsX9_isOctet : List Cond := .code yX9_isOctet cX9_isOctet 1 (some .boolean) :: wsG
theorem dsc_X9_isOctet : yX9_isOctet.cls = "WireHost" ∧ yX9_isOctet.cls ≠ "java/lang/invoke/MethodHandle" ∧ yX9_isOctet.cls ≠ "java/lang/invoke/VarHandle" ∧ (parseMethodDescriptor yX9_isOctet.desc).map (fun d => d.parameters.length) = some 1 := by decide +kernel
abbrev cX9_isLetter : ByteArray := prog_1_method_16_code
abbrev yX9_isLetter : MethodName := ⟨"WireHost", "isLetter", "(I)Z"⟩
abbrev wsX9_isLetter : List Cond := .code yX9_isLetter cX9_isLetter 1 (some .boolean) :: wsG
theorem dsc_X9_isLetter : yX9_isLetter.cls = "WireHost" ∧ yX9_isLetter.cls ≠ "java/lang/invoke/MethodHandle" ∧ yX9_isLetter.cls ≠ "java/lang/invoke/VarHandle" ∧ (parseMethodDescriptor yX9_isLetter.desc).map (fun d => d.parameters.length) = some 1 := by decide +kernel
abbrev cX9_isText : ByteArray := prog_1_method_17_code
abbrev yX9_isText : MethodName := ⟨"WireHost", "isText", "(I)Z"⟩
abbrev wsX9_isText : List Cond := .code yX9_isText cX9_isText 1 (some .boolean) :: wsG
theorem dsc_X9_isText : yX9_isText.cls = "WireHost" ∧ yX9_isText.cls ≠ "java/lang/invoke/MethodHandle" ∧ yX9_isText.cls ≠ "java/lang/invoke/VarHandle" ∧ (parseMethodDescriptor yX9_isText.desc).map (fun d => d.parameters.length) = some 1 := by decide +kernel
abbrev cX9_unitsUpTo : ByteArray := prog_1_method_18_code
abbrev yX9_unitsUpTo : MethodName := ⟨"WireHost", "unitsUpTo", "(I)I"⟩
abbrev wsX9_unitsUpTo : List Cond := .code yX9_unitsUpTo cX9_unitsUpTo 2 (some .int) :: wsG
theorem dsc_X9_unitsUpTo : yX9_unitsUpTo.cls = "WireHost" ∧ yX9_unitsUpTo.cls ≠ "java/lang/invoke/MethodHandle" ∧ yX9_unitsUpTo.cls ≠ "java/lang/invoke/VarHandle" ∧ (parseMethodDescriptor yX9_unitsUpTo.desc).map (fun d => d.parameters.length) = some 1 := by decide +kernel
abbrev cX10_init : ByteArray := prog_12_method_1_code
abbrev yX10_init : MethodName := ⟨"WireHostModel", "<init>", "()V"⟩
abbrev wsX10_init : List Cond := .code yX10_init cX10_init 2 none :: wsG
theorem dsc_X10_init : yX10_init.cls = "WireHostModel" ∧ yX10_init.cls ≠ "java/lang/invoke/MethodHandle" ∧ yX10_init.cls ≠ "java/lang/invoke/VarHandle" ∧ (parseMethodDescriptor yX10_init.desc).map (fun d => d.parameters.length) = some 0 := by decide +kernel
abbrev cX10_is : ByteArray := prog_12_method_2_code
abbrev yX10_is : MethodName := ⟨"WireHostModel", "is", "(III)Z"⟩
abbrev wsX10_is : List Cond := .code yX10_is cX10_is 3 (some .boolean) :: wsG
theorem dsc_X10_is : yX10_is.cls = "WireHostModel" ∧ yX10_is.cls ≠ "java/lang/invoke/MethodHandle" ∧ yX10_is.cls ≠ "java/lang/invoke/VarHandle" ∧ (parseMethodDescriptor yX10_is.desc).map (fun d => d.parameters.length) = some 3 := by decide +kernel
abbrev cX10_open : ByteArray := prog_12_method_3_code
abbrev yX10_open : MethodName := ⟨"WireHostModel", "open", "(II)V"⟩
abbrev wsX10_open : List Cond := .code yX10_open cX10_open 5 none :: wsG
theorem dsc_X10_open : yX10_open.cls = "WireHostModel" ∧ yX10_open.cls ≠ "java/lang/invoke/MethodHandle" ∧ yX10_open.cls ≠ "java/lang/invoke/VarHandle" ∧ (parseMethodDescriptor yX10_open.desc).map (fun d => d.parameters.length) = some 2 := by decide +kernel
abbrev cX10_put : ByteArray := prog_12_method_4_code
abbrev yX10_put : MethodName := ⟨"WireHostModel", "put", "(I)V"⟩
abbrev wsX10_put : List Cond := .code yX10_put cX10_put 2 none :: wsG
theorem dsc_X10_put : yX10_put.cls = "WireHostModel" ∧ yX10_put.cls ≠ "java/lang/invoke/MethodHandle" ∧ yX10_put.cls ≠ "java/lang/invoke/VarHandle" ∧ (parseMethodDescriptor yX10_put.desc).map (fun d => d.parameters.length) = some 1 := by decide +kernel
abbrev cX10_datagram : ByteArray := prog_12_method_5_code
abbrev yX10_datagram : MethodName := ⟨"WireHostModel", "datagram", "(IIIIIII)V"⟩
abbrev wsX10_datagram : List Cond := .code yX10_datagram cX10_datagram 10 none :: wsG
theorem dsc_X10_datagram : yX10_datagram.cls = "WireHostModel" ∧ yX10_datagram.cls ≠ "java/lang/invoke/MethodHandle" ∧ yX10_datagram.cls ≠ "java/lang/invoke/VarHandle" ∧ (parseMethodDescriptor yX10_datagram.desc).map (fun d => d.parameters.length) = some 7 := by decide +kernel
abbrev cX10_sendTo : ByteArray := prog_12_method_6_code
abbrev yX10_sendTo : MethodName := ⟨"WireHostModel", "sendTo", "(II)V"⟩
abbrev wsX10_sendTo : List Cond := .code yX10_sendTo cX10_sendTo 5 none :: wsG
theorem dsc_X10_sendTo : yX10_sendTo.cls = "WireHostModel" ∧ yX10_sendTo.cls ≠ "java/lang/invoke/MethodHandle" ∧ yX10_sendTo.cls ≠ "java/lang/invoke/VarHandle" ∧ (parseMethodDescriptor yX10_sendTo.desc).map (fun d => d.parameters.length) = some 2 := by decide +kernel
abbrev cX10_octet : ByteArray := prog_12_method_7_code
abbrev yX10_octet : MethodName := ⟨"WireHostModel", "octet", "(I)I"⟩
abbrev wsX10_octet : List Cond := .code yX10_octet cX10_octet 2 (some .int) :: wsG
theorem dsc_X10_octet : yX10_octet.cls = "WireHostModel" ∧ yX10_octet.cls ≠ "java/lang/invoke/MethodHandle" ∧ yX10_octet.cls ≠ "java/lang/invoke/VarHandle" ∧ (parseMethodDescriptor yX10_octet.desc).map (fun d => d.parameters.length) = some 1 := by decide +kernel
abbrev cX10_isGood : ByteArray := prog_12_method_8_code
abbrev yX10_isGood : MethodName := ⟨"WireHostModel", "isGood", "(I)Z"⟩
abbrev wsX10_isGood : List Cond := .code yX10_isGood cX10_isGood 6 (some .boolean) :: wsG
theorem dsc_X10_isGood : yX10_isGood.cls = "WireHostModel" ∧ yX10_isGood.cls ≠ "java/lang/invoke/MethodHandle" ∧ yX10_isGood.cls ≠ "java/lang/invoke/VarHandle" ∧ (parseMethodDescriptor yX10_isGood.desc).map (fun d => d.parameters.length) = some 1 := by decide +kernel
abbrev cX10_arrive : ByteArray := prog_12_method_9_code
abbrev yX10_arrive : MethodName := ⟨"WireHostModel", "arrive", "()I"⟩
abbrev wsX10_arrive : List Cond := .code yX10_arrive cX10_arrive 4 (some .int) :: wsG
theorem dsc_X10_arrive : yX10_arrive.cls = "WireHostModel" ∧ yX10_arrive.cls ≠ "java/lang/invoke/MethodHandle" ∧ yX10_arrive.cls ≠ "java/lang/invoke/VarHandle" ∧ (parseMethodDescriptor yX10_arrive.desc).map (fun d => d.parameters.length) = some 0 := by decide +kernel
abbrev cX10_assemblyOf : ByteArray := prog_12_method_10_code
abbrev yX10_assemblyOf : MethodName := ⟨"WireHostModel", "assemblyOf", "(II)I"⟩
abbrev wsX10_assemblyOf : List Cond := .code yX10_assemblyOf cX10_assemblyOf 4 (some .int) :: wsG
theorem dsc_X10_assemblyOf : yX10_assemblyOf.cls = "WireHostModel" ∧ yX10_assemblyOf.cls ≠ "java/lang/invoke/MethodHandle" ∧ yX10_assemblyOf.cls ≠ "java/lang/invoke/VarHandle" ∧ (parseMethodDescriptor yX10_assemblyOf.desc).map (fun d => d.parameters.length) = some 2 := by decide +kernel
abbrev cX10_fragment : ByteArray := prog_12_method_11_code
abbrev yX10_fragment : MethodName := ⟨"WireHostModel", "fragment", "(IIIII)V"⟩
abbrev wsX10_fragment : List Cond := .code yX10_fragment cX10_fragment 13 none :: wsG
theorem dsc_X10_fragment : yX10_fragment.cls = "WireHostModel" ∧ yX10_fragment.cls ≠ "java/lang/invoke/MethodHandle" ∧ yX10_fragment.cls ≠ "java/lang/invoke/VarHandle" ∧ (parseMethodDescriptor yX10_fragment.desc).map (fun d => d.parameters.length) = some 5 := by decide +kernel
abbrev cX10_take : ByteArray := prog_12_method_12_code
abbrev yX10_take : MethodName := ⟨"WireHostModel", "take", "(III)V"⟩
abbrev wsX10_take : List Cond := .code yX10_take cX10_take 5 none :: wsG
theorem dsc_X10_take : yX10_take.cls = "WireHostModel" ∧ yX10_take.cls ≠ "java/lang/invoke/MethodHandle" ∧ yX10_take.cls ≠ "java/lang/invoke/VarHandle" ∧ (parseMethodDescriptor yX10_take.desc).map (fun d => d.parameters.length) = some 3 := by decide +kernel
abbrev cX10_way : ByteArray := prog_12_method_13_code
abbrev yX10_way : MethodName := ⟨"WireHostModel", "way", "(I)I"⟩
abbrev wsX10_way : List Cond := .code yX10_way cX10_way 2 (some .int) :: wsG
theorem dsc_X10_way : yX10_way.cls = "WireHostModel" ∧ yX10_way.cls ≠ "java/lang/invoke/MethodHandle" ∧ yX10_way.cls ≠ "java/lang/invoke/VarHandle" ∧ (parseMethodDescriptor yX10_way.desc).map (fun d => d.parameters.length) = some 1 := by decide +kernel
abbrev cX10_say : ByteArray := prog_12_method_14_code
abbrev yX10_say : MethodName := ⟨"WireHostModel", "say", "(IIIII)V"⟩
abbrev wsX10_say : List Cond := .code yX10_say cX10_say 6 none :: wsG
theorem dsc_X10_say : yX10_say.cls = "WireHostModel" ∧ yX10_say.cls ≠ "java/lang/invoke/MethodHandle" ∧ yX10_say.cls ≠ "java/lang/invoke/VarHandle" ∧ (parseMethodDescriptor yX10_say.desc).map (fun d => d.parameters.length) = some 5 := by decide +kernel
abbrev cX10_tell : ByteArray := prog_12_method_15_code
abbrev yX10_tell : MethodName := ⟨"WireHostModel", "tell", "(II)V"⟩
abbrev wsX10_tell : List Cond := .code yX10_tell cX10_tell 3 none :: wsG
theorem dsc_X10_tell : yX10_tell.cls = "WireHostModel" ∧ yX10_tell.cls ≠ "java/lang/invoke/MethodHandle" ∧ yX10_tell.cls ≠ "java/lang/invoke/VarHandle" ∧ (parseMethodDescriptor yX10_tell.desc).map (fun d => d.parameters.length) = some 2 := by decide +kernel
abbrev cX10_advance : ByteArray := prog_12_method_16_code
abbrev yX10_advance : MethodName := ⟨"WireHostModel", "advance", "(II)V"⟩
abbrev wsX10_advance : List Cond := .code yX10_advance cX10_advance 3 none :: wsG
theorem dsc_X10_advance : yX10_advance.cls = "WireHostModel" ∧ yX10_advance.cls ≠ "java/lang/invoke/MethodHandle" ∧ yX10_advance.cls ≠ "java/lang/invoke/VarHandle" ∧ (parseMethodDescriptor yX10_advance.desc).map (fun d => d.parameters.length) = some 2 := by decide +kernel
abbrev cX10_reset : ByteArray := prog_12_method_17_code
abbrev yX10_reset : MethodName := ⟨"WireHostModel", "reset", "(III)V"⟩
abbrev wsX10_reset : List Cond := .code yX10_reset cX10_reset 4 none :: wsG
theorem dsc_X10_reset : yX10_reset.cls = "WireHostModel" ∧ yX10_reset.cls ≠ "java/lang/invoke/MethodHandle" ∧ yX10_reset.cls ≠ "java/lang/invoke/VarHandle" ∧ (parseMethodDescriptor yX10_reset.desc).map (fun d => d.parameters.length) = some 3 := by decide +kernel
abbrev cX10_segment : ByteArray := prog_12_method_18_code
abbrev yX10_segment : MethodName := ⟨"WireHostModel", "segment", "(II)V"⟩
abbrev wsX10_segment : List Cond := .code yX10_segment cX10_segment 10 none :: wsG
theorem dsc_X10_segment : yX10_segment.cls = "WireHostModel" ∧ yX10_segment.cls ≠ "java/lang/invoke/MethodHandle" ∧ yX10_segment.cls ≠ "java/lang/invoke/VarHandle" ∧ (parseMethodDescriptor yX10_segment.desc).map (fun d => d.parameters.length) = some 2 := by decide +kernel
abbrev cX10_begin : ByteArray := prog_12_method_19_code
abbrev yX10_begin : MethodName := ⟨"WireHostModel", "begin", "(IIIII)V"⟩
abbrev wsX10_begin : List Cond := .code yX10_begin cX10_begin 6 none :: wsG
theorem dsc_X10_begin : yX10_begin.cls = "WireHostModel" ∧ yX10_begin.cls ≠ "java/lang/invoke/MethodHandle" ∧ yX10_begin.cls ≠ "java/lang/invoke/VarHandle" ∧ (parseMethodDescriptor yX10_begin.desc).map (fun d => d.parameters.length) = some 5 := by decide +kernel
abbrev cX10_goOn : ByteArray := prog_12_method_20_code
abbrev yX10_goOn : MethodName := ⟨"WireHostModel", "goOn", "(IIIZII)V"⟩
abbrev wsX10_goOn : List Cond := .code yX10_goOn cX10_goOn 10 none :: wsG
theorem dsc_X10_goOn : yX10_goOn.cls = "WireHostModel" ∧ yX10_goOn.cls ≠ "java/lang/invoke/MethodHandle" ∧ yX10_goOn.cls ≠ "java/lang/invoke/VarHandle" ∧ (parseMethodDescriptor yX10_goOn.desc).map (fun d => d.parameters.length) = some 6 := by decide +kernel
abbrev cX10_line : ByteArray := prog_12_method_21_code
abbrev yX10_line : MethodName := ⟨"WireHostModel", "line", "(I)I"⟩
abbrev wsX10_line : List Cond := .code yX10_line cX10_line 3 (some .int) :: wsG
theorem dsc_X10_line : yX10_line.cls = "WireHostModel" ∧ yX10_line.cls ≠ "java/lang/invoke/MethodHandle" ∧ yX10_line.cls ≠ "java/lang/invoke/VarHandle" ∧ (parseMethodDescriptor yX10_line.desc).map (fun d => d.parameters.length) = some 1 := by decide +kernel
abbrev cX10_read : ByteArray := prog_12_method_22_code
abbrev yX10_read : MethodName := ⟨"WireHostModel", "read", "(I)V"⟩
abbrev wsX10_read : List Cond := .code yX10_read cX10_read 4 none :: wsG
theorem dsc_X10_read : yX10_read.cls = "WireHostModel" ∧ yX10_read.cls ≠ "java/lang/invoke/MethodHandle" ∧ yX10_read.cls ≠ "java/lang/invoke/VarHandle" ∧ (parseMethodDescriptor yX10_read.desc).map (fun d => d.parameters.length) = some 1 := by decide +kernel
abbrev cX10_isNamed : ByteArray := prog_12_method_23_code
abbrev yX10_isNamed : MethodName := ⟨"WireHostModel", "isNamed", "(III)Z"⟩
abbrev wsX10_isNamed : List Cond := .code yX10_isNamed cX10_isNamed 6 (some .boolean) :: wsG
theorem dsc_X10_isNamed : yX10_isNamed.cls = "WireHostModel" ∧ yX10_isNamed.cls ≠ "java/lang/invoke/MethodHandle" ∧ yX10_isNamed.cls ≠ "java/lang/invoke/VarHandle" ∧ (parseMethodDescriptor yX10_isNamed.desc).map (fun d => d.parameters.length) = some 3 := by decide +kernel
abbrev cX10_reply : ByteArray := prog_12_method_24_code
abbrev yX10_reply : MethodName := ⟨"WireHostModel", "reply", "(II)V"⟩
abbrev wsX10_reply : List Cond := .code yX10_reply cX10_reply 7 none :: wsG
theorem dsc_X10_reply : yX10_reply.cls = "WireHostModel" ∧ yX10_reply.cls ≠ "java/lang/invoke/MethodHandle" ∧ yX10_reply.cls ≠ "java/lang/invoke/VarHandle" ∧ (parseMethodDescriptor yX10_reply.desc).map (fun d => d.parameters.length) = some 2 := by decide +kernel
abbrev cX10_push : ByteArray := prog_12_method_25_code
abbrev yX10_push : MethodName := ⟨"WireHostModel", "push", "(I)V"⟩
abbrev wsX10_push : List Cond := .code yX10_push cX10_push 6 none :: wsG
theorem dsc_X10_push : yX10_push.cls = "WireHostModel" ∧ yX10_push.cls ≠ "java/lang/invoke/MethodHandle" ∧ yX10_push.cls ≠ "java/lang/invoke/VarHandle" ∧ (parseMethodDescriptor yX10_push.desc).map (fun d => d.parameters.length) = some 1 := by decide +kernel
abbrev cX10_tick : ByteArray := prog_12_method_26_code
abbrev yX10_tick : MethodName := ⟨"WireHostModel", "tick", "(I)I"⟩
abbrev wsX10_tick : List Cond := .code yX10_tick cX10_tick 5 (some .int) :: wsG
theorem dsc_X10_tick : yX10_tick.cls = "WireHostModel" ∧ yX10_tick.cls ≠ "java/lang/invoke/MethodHandle" ∧ yX10_tick.cls ≠ "java/lang/invoke/VarHandle" ∧ (parseMethodDescriptor yX10_tick.desc).map (fun d => d.parameters.length) = some 1 := by decide +kernel
abbrev cX10_beat : ByteArray := prog_12_method_27_code
abbrev yX10_beat : MethodName := ⟨"WireHostModel", "beat", "(I)V"⟩
abbrev wsX10_beat : List Cond := .code yX10_beat cX10_beat 2 none :: wsG
theorem dsc_X10_beat : yX10_beat.cls = "WireHostModel" ∧ yX10_beat.cls ≠ "java/lang/invoke/MethodHandle" ∧ yX10_beat.cls ≠ "java/lang/invoke/VarHandle" ∧ (parseMethodDescriptor yX10_beat.desc).map (fun d => d.parameters.length) = some 1 := by decide +kernel
abbrev cX10_name : ByteArray := prog_12_method_28_code
abbrev yX10_name : MethodName := ⟨"WireHostModel", "name", "(II)I"⟩
abbrev wsX10_name : List Cond := .code yX10_name cX10_name 3 (some .int) :: wsG
theorem dsc_X10_name : yX10_name.cls = "WireHostModel" ∧ yX10_name.cls ≠ "java/lang/invoke/MethodHandle" ∧ yX10_name.cls ≠ "java/lang/invoke/VarHandle" ∧ (parseMethodDescriptor yX10_name.desc).map (fun d => d.parameters.length) = some 2 := by decide +kernel
abbrev cX10_body : ByteArray := prog_12_method_29_code
abbrev yX10_body : MethodName := ⟨"WireHostModel", "body", "(II)I"⟩
abbrev wsX10_body : List Cond := .code yX10_body cX10_body 3 (some .int) :: wsG
theorem dsc_X10_body : yX10_body.cls = "WireHostModel" ∧ yX10_body.cls ≠ "java/lang/invoke/MethodHandle" ∧ yX10_body.cls ≠ "java/lang/invoke/VarHandle" ∧ (parseMethodDescriptor yX10_body.desc).map (fun d => d.parameters.length) = some 2 := by decide +kernel
abbrev cX10_spoil : ByteArray := prog_12_method_30_code
abbrev yX10_spoil : MethodName := ⟨"WireHostModel", "spoil", "(III)I"⟩
abbrev wsX10_spoil : List Cond := .code yX10_spoil cX10_spoil 5 (some .int) :: wsG
theorem dsc_X10_spoil : yX10_spoil.cls = "WireHostModel" ∧ yX10_spoil.cls ≠ "java/lang/invoke/MethodHandle" ∧ yX10_spoil.cls ≠ "java/lang/invoke/VarHandle" ∧ (parseMethodDescriptor yX10_spoil.desc).map (fun d => d.parameters.length) = some 3 := by decide +kernel
abbrev cX10_erase : ByteArray := prog_12_method_31_code
abbrev yX10_erase : MethodName := ⟨"WireHostModel", "erase", "(I)I"⟩
abbrev wsX10_erase : List Cond := .code yX10_erase cX10_erase 3 (some .int) :: wsG
theorem dsc_X10_erase : yX10_erase.cls = "WireHostModel" ∧ yX10_erase.cls ≠ "java/lang/invoke/MethodHandle" ∧ yX10_erase.cls ≠ "java/lang/invoke/VarHandle" ∧ (parseMethodDescriptor yX10_erase.desc).map (fun d => d.parameters.length) = some 1 := by decide +kernel
abbrev cX10_sent : ByteArray := prog_12_method_32_code
abbrev yX10_sent : MethodName := ⟨"WireHostModel", "sent", "(II)I"⟩
abbrev wsX10_sent : List Cond := .code yX10_sent cX10_sent 3 (some .int) :: wsG
theorem dsc_X10_sent : yX10_sent.cls = "WireHostModel" ∧ yX10_sent.cls ≠ "java/lang/invoke/MethodHandle" ∧ yX10_sent.cls ≠ "java/lang/invoke/VarHandle" ∧ (parseMethodDescriptor yX10_sent.desc).map (fun d => d.parameters.length) = some 2 := by decide +kernel
abbrev cX10_known : ByteArray := prog_12_method_33_code
abbrev yX10_known : MethodName := ⟨"WireHostModel", "known", "(I)I"⟩
abbrev wsX10_known : List Cond := .code yX10_known cX10_known 2 (some .int) :: wsG
theorem dsc_X10_known : yX10_known.cls = "WireHostModel" ∧ yX10_known.cls ≠ "java/lang/invoke/MethodHandle" ∧ yX10_known.cls ≠ "java/lang/invoke/VarHandle" ∧ (parseMethodDescriptor yX10_known.desc).map (fun d => d.parameters.length) = some 1 := by decide +kernel
abbrev cX10_stream : ByteArray := prog_12_method_34_code
abbrev yX10_stream : MethodName := ⟨"WireHostModel", "stream", "(II)I"⟩
abbrev wsX10_stream : List Cond := .code yX10_stream cX10_stream 3 (some .int) :: wsG
theorem dsc_X10_stream : yX10_stream.cls = "WireHostModel" ∧ yX10_stream.cls ≠ "java/lang/invoke/MethodHandle" ∧ yX10_stream.cls ≠ "java/lang/invoke/VarHandle" ∧ (parseMethodDescriptor yX10_stream.desc).map (fun d => d.parameters.length) = some 2 := by decide +kernel
abbrev cX10_assembly : ByteArray := prog_12_method_35_code
abbrev yX10_assembly : MethodName := ⟨"WireHostModel", "assembly", "(II)I"⟩
abbrev wsX10_assembly : List Cond := .code yX10_assembly cX10_assembly 3 (some .int) :: wsG
theorem dsc_X10_assembly : yX10_assembly.cls = "WireHostModel" ∧ yX10_assembly.cls ≠ "java/lang/invoke/MethodHandle" ∧ yX10_assembly.cls ≠ "java/lang/invoke/VarHandle" ∧ (parseMethodDescriptor yX10_assembly.desc).map (fun d => d.parameters.length) = some 2 := by decide +kernel
abbrev cX10_count : ByteArray := prog_12_method_36_code
abbrev yX10_count : MethodName := ⟨"WireHostModel", "count", "(I)I"⟩
abbrev wsX10_count : List Cond := .code yX10_count cX10_count 2 (some .int) :: wsG
theorem dsc_X10_count : yX10_count.cls = "WireHostModel" ∧ yX10_count.cls ≠ "java/lang/invoke/MethodHandle" ∧ yX10_count.cls ≠ "java/lang/invoke/VarHandle" ∧ (parseMethodDescriptor yX10_count.desc).map (fun d => d.parameters.length) = some 1 := by decide +kernel
def NW (U : State) : Prop := va_Nw (Jvm.Cond.methodLinkNest "WireHost$Arrival" (45 : Nat) ({ cls := "WireHost", name := "unitsUpTo", desc := "(I)I" } : Jvm.MethodName) "WireHost") U ∧ va_Nw (Jvm.Cond.methodLinkNest "WireHost$Assembly" (57 : Nat) ({ cls := "WireHost", name := "unitsUpTo", desc := "(I)I" } : Jvm.MethodName) "WireHost") U ∧ va_Nw (Jvm.Cond.methodLinkNest "WireHost$Shelf" (42 : Nat) ({ cls := "WireHost", name := "isLetter", desc := "(I)Z" } : Jvm.MethodName) "WireHost") U ∧ va_AO "WireHost$Assembly" U ∧ va_Nw (Jvm.Cond.methodLinkNest "WireHost$Gathering" (17 : Nat) ({ cls := "WireHost$Assembly", name := "<init>", desc := "()V" } : Jvm.MethodName) "WireHost") U ∧ va_AO "WireHost$Text" U ∧ va_Nw (Jvm.Cond.methodLinkNest "WireHost$Shelf" (21 : Nat) ({ cls := "WireHost$Text", name := "<init>", desc := "()V" } : Jvm.MethodName) "WireHost") U ∧ va_AOA .int U ∧ va_AO "WireHost$Stream" U ∧ va_Nw (Jvm.Cond.methodLinkNest "WireHost$Streams" (35 : Nat) ({ cls := "WireHost$Stream", name := "<init>", desc := "()V" } : Jvm.MethodName) "WireHost") U ∧ va_Nw (Jvm.Cond.methodLinkNest "WireHost" (9 : Nat) ({ cls := "WireHost$Arrival", name := "<init>", desc := "()V" } : Jvm.MethodName) "WireHost") U ∧ va_Nw (Jvm.Cond.methodLinkNest "WireHost" (25 : Nat) ({ cls := "WireHost$Datagram", name := "<init>", desc := "()V" } : Jvm.MethodName) "WireHost") U
theorem NW.warm {s U : State} (hW : s.WarmedH U.vm) (q : NW s) : NW U := ⟨va_Nw.warmM hW q.1, va_Nw.warmM hW q.2.1, va_Nw.warmM hW q.2.2.1, va_AO.moved hW.alike q.2.2.2.1, va_Nw.warmM hW q.2.2.2.2.1, va_AO.moved hW.alike q.2.2.2.2.2.1, va_Nw.warmM hW q.2.2.2.2.2.2.1, va_AOA.moved hW.alike q.2.2.2.2.2.2.2.1, va_AO.moved hW.alike q.2.2.2.2.2.2.2.2.1, va_Nw.warmM hW q.2.2.2.2.2.2.2.2.2.1, va_Nw.warmM hW q.2.2.2.2.2.2.2.2.2.2.1, va_Nw.warmM hW q.2.2.2.2.2.2.2.2.2.2.2⟩
theorem NW.same {u U : State} (h : u.vm = U.vm) (q : NW u) : NW U := ⟨va_Nw.same rfl h q.1, va_Nw.same rfl h q.2.1, va_Nw.same rfl h q.2.2.1, va_AO.moved (by rw [h]; exact Vm.Alike.refl _) q.2.2.2.1, va_Nw.same rfl h q.2.2.2.2.1, va_AO.moved (by rw [h]; exact Vm.Alike.refl _) q.2.2.2.2.2.1, va_Nw.same rfl h q.2.2.2.2.2.2.1, va_AOA.moved (by rw [h]; exact Vm.Alike.refl _) q.2.2.2.2.2.2.2.1, va_AO.moved (by rw [h]; exact Vm.Alike.refl _) q.2.2.2.2.2.2.2.2.1, va_Nw.same rfl h q.2.2.2.2.2.2.2.2.2.1, va_Nw.same rfl h q.2.2.2.2.2.2.2.2.2.2.1, va_Nw.same rfl h q.2.2.2.2.2.2.2.2.2.2.2⟩

