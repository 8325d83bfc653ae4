theorem wd_13 : (Jvm.Cond.classLink "WireHostLaw" (7 : Nat) "WireHost") ∈ wsG := List.mem_filter.mpr ⟨List.mem_append_right _ (List.mem_of_getElem? (i := 13) (by decide +kernel)), rfl⟩
theorem wd_14 : (Jvm.Cond.instantiable "WireHost" (7 : Nat)) ∈ wsG := List.mem_filter.mpr ⟨List.mem_append_right _ (List.mem_of_getElem? (i := 14) (by decide +kernel)), rfl⟩
theorem wd_15 : (Jvm.Cond.methodLink "WireHostLaw" (9 : Nat) ({ cls := "WireHost", name := "<init>", desc := "()V" } : Jvm.MethodName)) ∈ wsG := List.mem_filter.mpr ⟨List.mem_append_right _ (List.mem_of_getElem? (i := 15) (by decide +kernel)), rfl⟩
theorem wd_16 : (Jvm.Cond.instanceMethod ({ cls := "WireHost", name := "<init>", desc := "()V" } : Jvm.MethodName)) ∈ wsG := List.mem_filter.mpr ⟨List.mem_append_right _ (List.mem_of_getElem? (i := 16) (by decide +kernel)), rfl⟩
theorem wd_17 : (Jvm.Cond.code ({ cls := "WireHost", name := "<init>", desc := "()V" } : Jvm.MethodName) prog_1_method_1_code (1 : Nat) (Option.none : Option Jvm.ClassFile.FieldType)) ∈ wsG := List.mem_filter.mpr ⟨List.mem_append_right _ (List.mem_of_getElem? (i := 17) (by decide +kernel)), rfl⟩
theorem wd_309 : (Jvm.Cond.methodLink "WireHostLaw" (13 : Nat) ({ cls := "WireHost", name := "octet", desc := "(I)I" } : Jvm.MethodName)) ∈ wsG := List.mem_filter.mpr ⟨List.mem_append_right _ (List.mem_of_getElem? (i := 309) (by decide +kernel)), rfl⟩
theorem wd_310 : (Jvm.Cond.instanceMethod ({ cls := "WireHost", name := "octet", desc := "(I)I" } : Jvm.MethodName)) ∈ wsG := List.mem_filter.mpr ⟨List.mem_append_right _ (List.mem_of_getElem? (i := 310) (by decide +kernel)), rfl⟩
theorem wd_311 : (Jvm.Cond.selects "WireHost" ({ cls := "WireHost", name := "octet", desc := "(I)I" } : Jvm.MethodName) ({ cls := "WireHost", name := "octet", desc := "(I)I" } : Jvm.MethodName)) ∈ wsG := List.mem_filter.mpr ⟨List.mem_append_right _ (List.mem_of_getElem? (i := 311) (by decide +kernel)), rfl⟩
theorem wd_312 : (Jvm.Cond.code ({ cls := "WireHost", name := "octet", desc := "(I)I" } : Jvm.MethodName) prog_1_method_2_code (2 : Nat) (Option.some Jvm.ClassFile.FieldType.int)) ∈ wsG := List.mem_filter.mpr ⟨List.mem_append_right _ (List.mem_of_getElem? (i := 312) (by decide +kernel)), rfl⟩
theorem wd_316 : (Jvm.Cond.methodLink "WireHostLaw" (18 : Nat) ({ cls := "WireHost", name := "arrive", desc := "()I" } : Jvm.MethodName)) ∈ wsG := List.mem_filter.mpr ⟨List.mem_append_right _ (List.mem_of_getElem? (i := 316) (by decide +kernel)), rfl⟩
theorem wd_317 : (Jvm.Cond.instanceMethod ({ cls := "WireHost", name := "arrive", desc := "()I" } : Jvm.MethodName)) ∈ wsG := List.mem_filter.mpr ⟨List.mem_append_right _ (List.mem_of_getElem? (i := 317) (by decide +kernel)), rfl⟩
theorem wd_318 : (Jvm.Cond.selects "WireHost" ({ cls := "WireHost", name := "arrive", desc := "()I" } : Jvm.MethodName) ({ cls := "WireHost", name := "arrive", desc := "()I" } : Jvm.MethodName)) ∈ wsG := List.mem_filter.mpr ⟨List.mem_append_right _ (List.mem_of_getElem? (i := 318) (by decide +kernel)), rfl⟩
theorem wd_319 : (Jvm.Cond.code ({ cls := "WireHost", name := "arrive", desc := "()I" } : Jvm.MethodName) prog_1_method_3_code (3 : Nat) (Option.some Jvm.ClassFile.FieldType.int)) ∈ wsG := List.mem_filter.mpr ⟨List.mem_append_right _ (List.mem_of_getElem? (i := 319) (by decide +kernel)), rfl⟩
theorem wd_555 : (Jvm.Cond.methodLink "WireHostLaw" (23 : Nat) ({ cls := "WireHost", name := "tick", desc := "(I)I" } : Jvm.MethodName)) ∈ wsG := List.mem_filter.mpr ⟨List.mem_append_right _ (List.mem_of_getElem? (i := 555) (by decide +kernel)), rfl⟩
theorem wd_556 : (Jvm.Cond.instanceMethod ({ cls := "WireHost", name := "tick", desc := "(I)I" } : Jvm.MethodName)) ∈ wsG := List.mem_filter.mpr ⟨List.mem_append_right _ (List.mem_of_getElem? (i := 556) (by decide +kernel)), rfl⟩
theorem wd_557 : (Jvm.Cond.selects "WireHost" ({ cls := "WireHost", name := "tick", desc := "(I)I" } : Jvm.MethodName) ({ cls := "WireHost", name := "tick", desc := "(I)I" } : Jvm.MethodName)) ∈ wsG := List.mem_filter.mpr ⟨List.mem_append_right _ (List.mem_of_getElem? (i := 557) (by decide +kernel)), rfl⟩
theorem wd_558 : (Jvm.Cond.code ({ cls := "WireHost", name := "tick", desc := "(I)I" } : Jvm.MethodName) prog_1_method_4_code (5 : Nat) (Option.some Jvm.ClassFile.FieldType.int)) ∈ wsG := List.mem_filter.mpr ⟨List.mem_append_right _ (List.mem_of_getElem? (i := 558) (by decide +kernel)), rfl⟩
theorem wd_575 : (Jvm.Cond.methodLink "WireHostLaw" (27 : Nat) ({ cls := "WireHost", name := "sent", desc := "(II)I" } : Jvm.MethodName)) ∈ wsG := List.mem_filter.mpr ⟨List.mem_append_right _ (List.mem_of_getElem? (i := 575) (by decide +kernel)), rfl⟩
theorem wd_576 : (Jvm.Cond.instanceMethod ({ cls := "WireHost", name := "sent", desc := "(II)I" } : Jvm.MethodName)) ∈ wsG := List.mem_filter.mpr ⟨List.mem_append_right _ (List.mem_of_getElem? (i := 576) (by decide +kernel)), rfl⟩
theorem wd_577 : (Jvm.Cond.selects "WireHost" ({ cls := "WireHost", name := "sent", desc := "(II)I" } : Jvm.MethodName) ({ cls := "WireHost", name := "sent", desc := "(II)I" } : Jvm.MethodName)) ∈ wsG := List.mem_filter.mpr ⟨List.mem_append_right _ (List.mem_of_getElem? (i := 577) (by decide +kernel)), rfl⟩
theorem wd_578 : (Jvm.Cond.code ({ cls := "WireHost", name := "sent", desc := "(II)I" } : Jvm.MethodName) prog_1_method_5_code (3 : Nat) (Option.some Jvm.ClassFile.FieldType.int)) ∈ wsG := List.mem_filter.mpr ⟨List.mem_append_right _ (List.mem_of_getElem? (i := 578) (by decide +kernel)), rfl⟩
theorem wd_583 : (Jvm.Cond.methodLink "WireHostLaw" (32 : Nat) ({ cls := "WireHost", name := "name", desc := "(II)I" } : Jvm.MethodName)) ∈ wsG := List.mem_filter.mpr ⟨List.mem_append_right _ (List.mem_of_getElem? (i := 583) (by decide +kernel)), rfl⟩
theorem wd_584 : (Jvm.Cond.instanceMethod ({ cls := "WireHost", name := "name", desc := "(II)I" } : Jvm.MethodName)) ∈ wsG := List.mem_filter.mpr ⟨List.mem_append_right _ (List.mem_of_getElem? (i := 584) (by decide +kernel)), rfl⟩
theorem wd_585 : (Jvm.Cond.selects "WireHost" ({ cls := "WireHost", name := "name", desc := "(II)I" } : Jvm.MethodName) ({ cls := "WireHost", name := "name", desc := "(II)I" } : Jvm.MethodName)) ∈ wsG := List.mem_filter.mpr ⟨List.mem_append_right _ (List.mem_of_getElem? (i := 585) (by decide +kernel)), rfl⟩
theorem wd_586 : (Jvm.Cond.code ({ cls := "WireHost", name := "name", desc := "(II)I" } : Jvm.MethodName) prog_1_method_6_code (3 : Nat) (Option.some Jvm.ClassFile.FieldType.int)) ∈ wsG := List.mem_filter.mpr ⟨List.mem_append_right _ (List.mem_of_getElem? (i := 586) (by decide +kernel)), rfl⟩
theorem wd_595 : (Jvm.Cond.methodLink "WireHostLaw" (36 : Nat) ({ cls := "WireHost", name := "body", desc := "(II)I" } : Jvm.MethodName)) ∈ wsG := List.mem_filter.mpr ⟨List.mem_append_right _ (List.mem_of_getElem? (i := 595) (by decide +kernel)), rfl⟩
theorem wd_596 : (Jvm.Cond.instanceMethod ({ cls := "WireHost", name := "body", desc := "(II)I" } : Jvm.MethodName)) ∈ wsG := List.mem_filter.mpr ⟨List.mem_append_right _ (List.mem_of_getElem? (i := 596) (by decide +kernel)), rfl⟩
theorem wd_597 : (Jvm.Cond.selects "WireHost" ({ cls := "WireHost", name := "body", desc := "(II)I" } : Jvm.MethodName) ({ cls := "WireHost", name := "body", desc := "(II)I" } : Jvm.MethodName)) ∈ wsG := List.mem_filter.mpr ⟨List.mem_append_right _ (List.mem_of_getElem? (i := 597) (by decide +kernel)), rfl⟩
theorem wd_598 : (Jvm.Cond.code ({ cls := "WireHost", name := "body", desc := "(II)I" } : Jvm.MethodName) prog_1_method_7_code (3 : Nat) (Option.some Jvm.ClassFile.FieldType.int)) ∈ wsG := List.mem_filter.mpr ⟨List.mem_append_right _ (List.mem_of_getElem? (i := 598) (by decide +kernel)), rfl⟩
theorem wd_603 : (Jvm.Cond.methodLink "WireHostLaw" (40 : Nat) ({ cls := "WireHost", name := "spoil", desc := "(III)I" } : Jvm.MethodName)) ∈ wsG := List.mem_filter.mpr ⟨List.mem_append_right _ (List.mem_of_getElem? (i := 603) (by decide +kernel)), rfl⟩
theorem wd_604 : (Jvm.Cond.instanceMethod ({ cls := "WireHost", name := "spoil", desc := "(III)I" } : Jvm.MethodName)) ∈ wsG := List.mem_filter.mpr ⟨List.mem_append_right _ (List.mem_of_getElem? (i := 604) (by decide +kernel)), rfl⟩
theorem wd_605 : (Jvm.Cond.selects "WireHost" ({ cls := "WireHost", name := "spoil", desc := "(III)I" } : Jvm.MethodName) ({ cls := "WireHost", name := "spoil", desc := "(III)I" } : Jvm.MethodName)) ∈ wsG := List.mem_filter.mpr ⟨List.mem_append_right _ (List.mem_of_getElem? (i := 605) (by decide +kernel)), rfl⟩
theorem wd_606 : (Jvm.Cond.code ({ cls := "WireHost", name := "spoil", desc := "(III)I" } : Jvm.MethodName) prog_1_method_8_code (4 : Nat) (Option.some Jvm.ClassFile.FieldType.int)) ∈ wsG := List.mem_filter.mpr ⟨List.mem_append_right _ (List.mem_of_getElem? (i := 606) (by decide +kernel)), rfl⟩
theorem wd_611 : (Jvm.Cond.methodLink "WireHostLaw" (45 : Nat) ({ cls := "WireHost", name := "erase", desc := "(I)I" } : Jvm.MethodName)) ∈ wsG := List.mem_filter.mpr ⟨List.mem_append_right _ (List.mem_of_getElem? (i := 611) (by decide +kernel)), rfl⟩
theorem wd_612 : (Jvm.Cond.instanceMethod ({ cls := "WireHost", name := "erase", desc := "(I)I" } : Jvm.MethodName)) ∈ wsG := List.mem_filter.mpr ⟨List.mem_append_right _ (List.mem_of_getElem? (i := 612) (by decide +kernel)), rfl⟩
theorem wd_613 : (Jvm.Cond.selects "WireHost" ({ cls := "WireHost", name := "erase", desc := "(I)I" } : Jvm.MethodName) ({ cls := "WireHost", name := "erase", desc := "(I)I" } : Jvm.MethodName)) ∈ wsG := List.mem_filter.mpr ⟨List.mem_append_right _ (List.mem_of_getElem? (i := 613) (by decide +kernel)), rfl⟩
theorem wd_614 : (Jvm.Cond.code ({ cls := "WireHost", name := "erase", desc := "(I)I" } : Jvm.MethodName) prog_1_method_9_code (2 : Nat) (Option.some Jvm.ClassFile.FieldType.int)) ∈ wsG := List.mem_filter.mpr ⟨List.mem_append_right _ (List.mem_of_getElem? (i := 614) (by decide +kernel)), rfl⟩
theorem wd_619 : (Jvm.Cond.methodLink "WireHostLaw" (49 : Nat) ({ cls := "WireHost", name := "known", desc := "(I)I" } : Jvm.MethodName)) ∈ wsG := List.mem_filter.mpr ⟨List.mem_append_right _ (List.mem_of_getElem? (i := 619) (by decide +kernel)), rfl⟩
theorem wd_620 : (Jvm.Cond.instanceMethod ({ cls := "WireHost", name := "known", desc := "(I)I" } : Jvm.MethodName)) ∈ wsG := List.mem_filter.mpr ⟨List.mem_append_right _ (List.mem_of_getElem? (i := 620) (by decide +kernel)), rfl⟩
theorem wd_621 : (Jvm.Cond.selects "WireHost" ({ cls := "WireHost", name := "known", desc := "(I)I" } : Jvm.MethodName) ({ cls := "WireHost", name := "known", desc := "(I)I" } : Jvm.MethodName)) ∈ wsG := List.mem_filter.mpr ⟨List.mem_append_right _ (List.mem_of_getElem? (i := 621) (by decide +kernel)), rfl⟩
theorem wd_622 : (Jvm.Cond.code ({ cls := "WireHost", name := "known", desc := "(I)I" } : Jvm.MethodName) prog_1_method_10_code (2 : Nat) (Option.some Jvm.ClassFile.FieldType.int)) ∈ wsG := List.mem_filter.mpr ⟨List.mem_append_right _ (List.mem_of_getElem? (i := 622) (by decide +kernel)), rfl⟩
theorem wd_623 : (Jvm.Cond.methodLink "WireHostLaw" (53 : Nat) ({ cls := "WireHost", name := "stream", desc := "(II)I" } : Jvm.MethodName)) ∈ wsG := List.mem_filter.mpr ⟨List.mem_append_right _ (List.mem_of_getElem? (i := 623) (by decide +kernel)), rfl⟩
theorem wd_624 : (Jvm.Cond.instanceMethod ({ cls := "WireHost", name := "stream", desc := "(II)I" } : Jvm.MethodName)) ∈ wsG := List.mem_filter.mpr ⟨List.mem_append_right _ (List.mem_of_getElem? (i := 624) (by decide +kernel)), rfl⟩
theorem wd_625 : (Jvm.Cond.selects "WireHost" ({ cls := "WireHost", name := "stream", desc := "(II)I" } : Jvm.MethodName) ({ cls := "WireHost", name := "stream", desc := "(II)I" } : Jvm.MethodName)) ∈ wsG := List.mem_filter.mpr ⟨List.mem_append_right _ (List.mem_of_getElem? (i := 625) (by decide +kernel)), rfl⟩
theorem wd_626 : (Jvm.Cond.code ({ cls := "WireHost", name := "stream", desc := "(II)I" } : Jvm.MethodName) prog_1_method_11_code (3 : Nat) (Option.some Jvm.ClassFile.FieldType.int)) ∈ wsG := List.mem_filter.mpr ⟨List.mem_append_right _ (List.mem_of_getElem? (i := 626) (by decide +kernel)), rfl⟩
theorem wd_631 : (Jvm.Cond.methodLink "WireHostLaw" (57 : Nat) ({ cls := "WireHost", name := "assembly", desc := "(II)I" } : Jvm.MethodName)) ∈ wsG := List.mem_filter.mpr ⟨List.mem_append_right _ (List.mem_of_getElem? (i := 631) (by decide +kernel)), rfl⟩
theorem wd_632 : (Jvm.Cond.instanceMethod ({ cls := "WireHost", name := "assembly", desc := "(II)I" } : Jvm.MethodName)) ∈ wsG := List.mem_filter.mpr ⟨List.mem_append_right _ (List.mem_of_getElem? (i := 632) (by decide +kernel)), rfl⟩
theorem wd_633 : (Jvm.Cond.selects "WireHost" ({ cls := "WireHost", name := "assembly", desc := "(II)I" } : Jvm.MethodName) ({ cls := "WireHost", name := "assembly", desc := "(II)I" } : Jvm.MethodName)) ∈ wsG := List.mem_filter.mpr ⟨List.mem_append_right _ (List.mem_of_getElem? (i := 633) (by decide +kernel)), rfl⟩
theorem wd_634 : (Jvm.Cond.code ({ cls := "WireHost", name := "assembly", desc := "(II)I" } : Jvm.MethodName) prog_1_method_12_code (3 : Nat) (Option.some Jvm.ClassFile.FieldType.int)) ∈ wsG := List.mem_filter.mpr ⟨List.mem_append_right _ (List.mem_of_getElem? (i := 634) (by decide +kernel)), rfl⟩
theorem wd_639 : (Jvm.Cond.methodLink "WireHostLaw" (61 : Nat) ({ cls := "WireHost", name := "count", desc := "(I)I" } : Jvm.MethodName)) ∈ wsG := List.mem_filter.mpr ⟨List.mem_append_right _ (List.mem_of_getElem? (i := 639) (by decide +kernel)), rfl⟩
theorem wd_640 : (Jvm.Cond.instanceMethod ({ cls := "WireHost", name := "count", desc := "(I)I" } : Jvm.MethodName)) ∈ wsG := List.mem_filter.mpr ⟨List.mem_append_right _ (List.mem_of_getElem? (i := 640) (by decide +kernel)), rfl⟩
theorem wd_641 : (Jvm.Cond.selects "WireHost" ({ cls := "WireHost", name := "count", desc := "(I)I" } : Jvm.MethodName) ({ cls := "WireHost", name := "count", desc := "(I)I" } : Jvm.MethodName)) ∈ wsG := List.mem_filter.mpr ⟨List.mem_append_right _ (List.mem_of_getElem? (i := 641) (by decide +kernel)), rfl⟩
theorem wd_642 : (Jvm.Cond.code ({ cls := "WireHost", name := "count", desc := "(I)I" } : Jvm.MethodName) prog_1_method_13_code (2 : Nat) (Option.some Jvm.ClassFile.FieldType.int)) ∈ wsG := List.mem_filter.mpr ⟨List.mem_append_right _ (List.mem_of_getElem? (i := 642) (by decide +kernel)), rfl⟩
theorem wd_643 : (Jvm.Cond.classLink "WireHostLaw" (10 : Nat) "WireHostModel") ∈ wsG := List.mem_filter.mpr ⟨List.mem_append_right _ (List.mem_of_getElem? (i := 643) (by decide +kernel)), rfl⟩
theorem wd_644 : (Jvm.Cond.instantiable "WireHostModel" (47 : Nat)) ∈ wsG := List.mem_filter.mpr ⟨List.mem_append_right _ (List.mem_of_getElem? (i := 644) (by decide +kernel)), rfl⟩
theorem wd_645 : (Jvm.Cond.methodLink "WireHostLaw" (12 : Nat) ({ cls := "WireHostModel", name := "<init>", desc := "()V" } : Jvm.MethodName)) ∈ wsG := List.mem_filter.mpr ⟨List.mem_append_right _ (List.mem_of_getElem? (i := 645) (by decide +kernel)), rfl⟩
theorem wd_646 : (Jvm.Cond.instanceMethod ({ cls := "WireHostModel", name := "<init>", desc := "()V" } : Jvm.MethodName)) ∈ wsG := List.mem_filter.mpr ⟨List.mem_append_right _ (List.mem_of_getElem? (i := 646) (by decide +kernel)), rfl⟩
theorem wd_647 : (Jvm.Cond.code ({ cls := "WireHostModel", name := "<init>", desc := "()V" } : Jvm.MethodName) prog_12_method_1_code (2 : Nat) (Option.none : Option Jvm.ClassFile.FieldType)) ∈ wsG := List.mem_filter.mpr ⟨List.mem_append_right _ (List.mem_of_getElem? (i := 647) (by decide +kernel)), rfl⟩
theorem wd_792 : (Jvm.Cond.methodLink "WireHostLaw" (17 : Nat) ({ cls := "WireHostModel", name := "octet", desc := "(I)I" } : Jvm.MethodName)) ∈ wsG := List.mem_filter.mpr ⟨List.mem_append_right _ (List.mem_of_getElem? (i := 792) (by decide +kernel)), rfl⟩
theorem wd_793 : (Jvm.Cond.instanceMethod ({ cls := "WireHostModel", name := "octet", desc := "(I)I" } : Jvm.MethodName)) ∈ wsG := List.mem_filter.mpr ⟨List.mem_append_right _ (List.mem_of_getElem? (i := 793) (by decide +kernel)), rfl⟩
theorem wd_794 : (Jvm.Cond.selects "WireHostModel" ({ cls := "WireHostModel", name := "octet", desc := "(I)I" } : Jvm.MethodName) ({ cls := "WireHostModel", name := "octet", desc := "(I)I" } : Jvm.MethodName)) ∈ wsG := List.mem_filter.mpr ⟨List.mem_append_right _ (List.mem_of_getElem? (i := 794) (by decide +kernel)), rfl⟩
theorem wd_795 : (Jvm.Cond.code ({ cls := "WireHostModel", name := "octet", desc := "(I)I" } : Jvm.MethodName) prog_12_method_7_code (2 : Nat) (Option.some Jvm.ClassFile.FieldType.int)) ∈ wsG := List.mem_filter.mpr ⟨List.mem_append_right _ (List.mem_of_getElem? (i := 795) (by decide +kernel)), rfl⟩
theorem wd_799 : (Jvm.Cond.methodLink "WireHostLaw" (22 : Nat) ({ cls := "WireHostModel", name := "arrive", desc := "()I" } : Jvm.MethodName)) ∈ wsG := List.mem_filter.mpr ⟨List.mem_append_right _ (List.mem_of_getElem? (i := 799) (by decide +kernel)), rfl⟩
theorem wd_800 : (Jvm.Cond.instanceMethod ({ cls := "WireHostModel", name := "arrive", desc := "()I" } : Jvm.MethodName)) ∈ wsG := List.mem_filter.mpr ⟨List.mem_append_right _ (List.mem_of_getElem? (i := 800) (by decide +kernel)), rfl⟩
theorem wd_801 : (Jvm.Cond.selects "WireHostModel" ({ cls := "WireHostModel", name := "arrive", desc := "()I" } : Jvm.MethodName) ({ cls := "WireHostModel", name := "arrive", desc := "()I" } : Jvm.MethodName)) ∈ wsG := List.mem_filter.mpr ⟨List.mem_append_right _ (List.mem_of_getElem? (i := 801) (by decide +kernel)), rfl⟩
theorem wd_802 : (Jvm.Cond.code ({ cls := "WireHostModel", name := "arrive", desc := "()I" } : Jvm.MethodName) prog_12_method_9_code (4 : Nat) (Option.some Jvm.ClassFile.FieldType.int)) ∈ wsG := List.mem_filter.mpr ⟨List.mem_append_right _ (List.mem_of_getElem? (i := 802) (by decide +kernel)), rfl⟩
theorem wd_887 : (Jvm.Cond.methodLink "WireHostLaw" (26 : Nat) ({ cls := "WireHostModel", name := "tick", desc := "(I)I" } : Jvm.MethodName)) ∈ wsG := List.mem_filter.mpr ⟨List.mem_append_right _ (List.mem_of_getElem? (i := 887) (by decide +kernel)), rfl⟩
theorem wd_888 : (Jvm.Cond.instanceMethod ({ cls := "WireHostModel", name := "tick", desc := "(I)I" } : Jvm.MethodName)) ∈ wsG := List.mem_filter.mpr ⟨List.mem_append_right _ (List.mem_of_getElem? (i := 888) (by decide +kernel)), rfl⟩
theorem wd_889 : (Jvm.Cond.selects "WireHostModel" ({ cls := "WireHostModel", name := "tick", desc := "(I)I" } : Jvm.MethodName) ({ cls := "WireHostModel", name := "tick", desc := "(I)I" } : Jvm.MethodName)) ∈ wsG := List.mem_filter.mpr ⟨List.mem_append_right _ (List.mem_of_getElem? (i := 889) (by decide +kernel)), rfl⟩
theorem wd_890 : (Jvm.Cond.code ({ cls := "WireHostModel", name := "tick", desc := "(I)I" } : Jvm.MethodName) prog_12_method_26_code (5 : Nat) (Option.some Jvm.ClassFile.FieldType.int)) ∈ wsG := List.mem_filter.mpr ⟨List.mem_append_right _ (List.mem_of_getElem? (i := 890) (by decide +kernel)), rfl⟩
theorem wd_895 : (Jvm.Cond.methodLink "WireHostLaw" (35 : Nat) ({ cls := "WireHostModel", name := "name", desc := "(II)I" } : Jvm.MethodName)) ∈ wsG := List.mem_filter.mpr ⟨List.mem_append_right _ (List.mem_of_getElem? (i := 895) (by decide +kernel)), rfl⟩
theorem wd_896 : (Jvm.Cond.instanceMethod ({ cls := "WireHostModel", name := "name", desc := "(II)I" } : Jvm.MethodName)) ∈ wsG := List.mem_filter.mpr ⟨List.mem_append_right _ (List.mem_of_getElem? (i := 896) (by decide +kernel)), rfl⟩
theorem wd_897 : (Jvm.Cond.selects "WireHostModel" ({ cls := "WireHostModel", name := "name", desc := "(II)I" } : Jvm.MethodName) ({ cls := "WireHostModel", name := "name", desc := "(II)I" } : Jvm.MethodName)) ∈ wsG := List.mem_filter.mpr ⟨List.mem_append_right _ (List.mem_of_getElem? (i := 897) (by decide +kernel)), rfl⟩
theorem wd_898 : (Jvm.Cond.code ({ cls := "WireHostModel", name := "name", desc := "(II)I" } : Jvm.MethodName) prog_12_method_28_code (3 : Nat) (Option.some Jvm.ClassFile.FieldType.int)) ∈ wsG := List.mem_filter.mpr ⟨List.mem_append_right _ (List.mem_of_getElem? (i := 898) (by decide +kernel)), rfl⟩
theorem wd_899 : (Jvm.Cond.methodLink "WireHostLaw" (39 : Nat) ({ cls := "WireHostModel", name := "body", desc := "(II)I" } : Jvm.MethodName)) ∈ wsG := List.mem_filter.mpr ⟨List.mem_append_right _ (List.mem_of_getElem? (i := 899) (by decide +kernel)), rfl⟩
theorem wd_900 : (Jvm.Cond.instanceMethod ({ cls := "WireHostModel", name := "body", desc := "(II)I" } : Jvm.MethodName)) ∈ wsG := List.mem_filter.mpr ⟨List.mem_append_right _ (List.mem_of_getElem? (i := 900) (by decide +kernel)), rfl⟩
theorem wd_901 : (Jvm.Cond.selects "WireHostModel" ({ cls := "WireHostModel", name := "body", desc := "(II)I" } : Jvm.MethodName) ({ cls := "WireHostModel", name := "body", desc := "(II)I" } : Jvm.MethodName)) ∈ wsG := List.mem_filter.mpr ⟨List.mem_append_right _ (List.mem_of_getElem? (i := 901) (by decide +kernel)), rfl⟩
theorem wd_902 : (Jvm.Cond.code ({ cls := "WireHostModel", name := "body", desc := "(II)I" } : Jvm.MethodName) prog_12_method_29_code (3 : Nat) (Option.some Jvm.ClassFile.FieldType.int)) ∈ wsG := List.mem_filter.mpr ⟨List.mem_append_right _ (List.mem_of_getElem? (i := 902) (by decide +kernel)), rfl⟩
theorem wd_903 : (Jvm.Cond.methodLink "WireHostLaw" (44 : Nat) ({ cls := "WireHostModel", name := "spoil", desc := "(III)I" } : Jvm.MethodName)) ∈ wsG := List.mem_filter.mpr ⟨List.mem_append_right _ (List.mem_of_getElem? (i := 903) (by decide +kernel)), rfl⟩
theorem wd_904 : (Jvm.Cond.instanceMethod ({ cls := "WireHostModel", name := "spoil", desc := "(III)I" } : Jvm.MethodName)) ∈ wsG := List.mem_filter.mpr ⟨List.mem_append_right _ (List.mem_of_getElem? (i := 904) (by decide +kernel)), rfl⟩
theorem wd_905 : (Jvm.Cond.selects "WireHostModel" ({ cls := "WireHostModel", name := "spoil", desc := "(III)I" } : Jvm.MethodName) ({ cls := "WireHostModel", name := "spoil", desc := "(III)I" } : Jvm.MethodName)) ∈ wsG := List.mem_filter.mpr ⟨List.mem_append_right _ (List.mem_of_getElem? (i := 905) (by decide +kernel)), rfl⟩
theorem wd_906 : (Jvm.Cond.code ({ cls := "WireHostModel", name := "spoil", desc := "(III)I" } : Jvm.MethodName) prog_12_method_30_code (5 : Nat) (Option.some Jvm.ClassFile.FieldType.int)) ∈ wsG := List.mem_filter.mpr ⟨List.mem_append_right _ (List.mem_of_getElem? (i := 906) (by decide +kernel)), rfl⟩
theorem wd_907 : (Jvm.Cond.methodLink "WireHostLaw" (48 : Nat) ({ cls := "WireHostModel", name := "erase", desc := "(I)I" } : Jvm.MethodName)) ∈ wsG := List.mem_filter.mpr ⟨List.mem_append_right _ (List.mem_of_getElem? (i := 907) (by decide +kernel)), rfl⟩
theorem wd_908 : (Jvm.Cond.instanceMethod ({ cls := "WireHostModel", name := "erase", desc := "(I)I" } : Jvm.MethodName)) ∈ wsG := List.mem_filter.mpr ⟨List.mem_append_right _ (List.mem_of_getElem? (i := 908) (by decide +kernel)), rfl⟩
theorem wd_909 : (Jvm.Cond.selects "WireHostModel" ({ cls := "WireHostModel", name := "erase", desc := "(I)I" } : Jvm.MethodName) ({ cls := "WireHostModel", name := "erase", desc := "(I)I" } : Jvm.MethodName)) ∈ wsG := List.mem_filter.mpr ⟨List.mem_append_right _ (List.mem_of_getElem? (i := 909) (by decide +kernel)), rfl⟩
theorem wd_910 : (Jvm.Cond.code ({ cls := "WireHostModel", name := "erase", desc := "(I)I" } : Jvm.MethodName) prog_12_method_31_code (3 : Nat) (Option.some Jvm.ClassFile.FieldType.int)) ∈ wsG := List.mem_filter.mpr ⟨List.mem_append_right _ (List.mem_of_getElem? (i := 910) (by decide +kernel)), rfl⟩
theorem wd_911 : (Jvm.Cond.methodLink "WireHostLaw" (31 : Nat) ({ cls := "WireHostModel", name := "sent", desc := "(II)I" } : Jvm.MethodName)) ∈ wsG := List.mem_filter.mpr ⟨List.mem_append_right _ (List.mem_of_getElem? (i := 911) (by decide +kernel)), rfl⟩
theorem wd_912 : (Jvm.Cond.instanceMethod ({ cls := "WireHostModel", name := "sent", desc := "(II)I" } : Jvm.MethodName)) ∈ wsG := List.mem_filter.mpr ⟨List.mem_append_right _ (List.mem_of_getElem? (i := 912) (by decide +kernel)), rfl⟩
theorem wd_913 : (Jvm.Cond.selects "WireHostModel" ({ cls := "WireHostModel", name := "sent", desc := "(II)I" } : Jvm.MethodName) ({ cls := "WireHostModel", name := "sent", desc := "(II)I" } : Jvm.MethodName)) ∈ wsG := List.mem_filter.mpr ⟨List.mem_append_right _ (List.mem_of_getElem? (i := 913) (by decide +kernel)), rfl⟩
theorem wd_914 : (Jvm.Cond.code ({ cls := "WireHostModel", name := "sent", desc := "(II)I" } : Jvm.MethodName) prog_12_method_32_code (3 : Nat) (Option.some Jvm.ClassFile.FieldType.int)) ∈ wsG := List.mem_filter.mpr ⟨List.mem_append_right _ (List.mem_of_getElem? (i := 914) (by decide +kernel)), rfl⟩
theorem wd_915 : (Jvm.Cond.methodLink "WireHostLaw" (52 : Nat) ({ cls := "WireHostModel", name := "known", desc := "(I)I" } : Jvm.MethodName)) ∈ wsG := List.mem_filter.mpr ⟨List.mem_append_right _ (List.mem_of_getElem? (i := 915) (by decide +kernel)), rfl⟩
theorem wd_916 : (Jvm.Cond.instanceMethod ({ cls := "WireHostModel", name := "known", desc := "(I)I" } : Jvm.MethodName)) ∈ wsG := List.mem_filter.mpr ⟨List.mem_append_right _ (List.mem_of_getElem? (i := 916) (by decide +kernel)), rfl⟩
theorem wd_917 : (Jvm.Cond.selects "WireHostModel" ({ cls := "WireHostModel", name := "known", desc := "(I)I" } : Jvm.MethodName) ({ cls := "WireHostModel", name := "known", desc := "(I)I" } : Jvm.MethodName)) ∈ wsG := List.mem_filter.mpr ⟨List.mem_append_right _ (List.mem_of_getElem? (i := 917) (by decide +kernel)), rfl⟩
theorem wd_918 : (Jvm.Cond.code ({ cls := "WireHostModel", name := "known", desc := "(I)I" } : Jvm.MethodName) prog_12_method_33_code (2 : Nat) (Option.some Jvm.ClassFile.FieldType.int)) ∈ wsG := List.mem_filter.mpr ⟨List.mem_append_right _ (List.mem_of_getElem? (i := 918) (by decide +kernel)), rfl⟩
theorem wd_919 : (Jvm.Cond.methodLink "WireHostLaw" (56 : Nat) ({ cls := "WireHostModel", name := "stream", desc := "(II)I" } : Jvm.MethodName)) ∈ wsG := List.mem_filter.mpr ⟨List.mem_append_right _ (List.mem_of_getElem? (i := 919) (by decide +kernel)), rfl⟩
theorem wd_920 : (Jvm.Cond.instanceMethod ({ cls := "WireHostModel", name := "stream", desc := "(II)I" } : Jvm.MethodName)) ∈ wsG := List.mem_filter.mpr ⟨List.mem_append_right _ (List.mem_of_getElem? (i := 920) (by decide +kernel)), rfl⟩
theorem wd_921 : (Jvm.Cond.selects "WireHostModel" ({ cls := "WireHostModel", name := "stream", desc := "(II)I" } : Jvm.MethodName) ({ cls := "WireHostModel", name := "stream", desc := "(II)I" } : Jvm.MethodName)) ∈ wsG := List.mem_filter.mpr ⟨List.mem_append_right _ (List.mem_of_getElem? (i := 921) (by decide +kernel)), rfl⟩
theorem wd_922 : (Jvm.Cond.code ({ cls := "WireHostModel", name := "stream", desc := "(II)I" } : Jvm.MethodName) prog_12_method_34_code (3 : Nat) (Option.some Jvm.ClassFile.FieldType.int)) ∈ wsG := List.mem_filter.mpr ⟨List.mem_append_right _ (List.mem_of_getElem? (i := 922) (by decide +kernel)), rfl⟩
theorem wd_923 : (Jvm.Cond.methodLink "WireHostLaw" (60 : Nat) ({ cls := "WireHostModel", name := "assembly", desc := "(II)I" } : Jvm.MethodName)) ∈ wsG := List.mem_filter.mpr ⟨List.mem_append_right _ (List.mem_of_getElem? (i := 923) (by decide +kernel)), rfl⟩
theorem wd_924 : (Jvm.Cond.instanceMethod ({ cls := "WireHostModel", name := "assembly", desc := "(II)I" } : Jvm.MethodName)) ∈ wsG := List.mem_filter.mpr ⟨List.mem_append_right _ (List.mem_of_getElem? (i := 924) (by decide +kernel)), rfl⟩
theorem wd_925 : (Jvm.Cond.selects "WireHostModel" ({ cls := "WireHostModel", name := "assembly", desc := "(II)I" } : Jvm.MethodName) ({ cls := "WireHostModel", name := "assembly", desc := "(II)I" } : Jvm.MethodName)) ∈ wsG := List.mem_filter.mpr ⟨List.mem_append_right _ (List.mem_of_getElem? (i := 925) (by decide +kernel)), rfl⟩
theorem wd_926 : (Jvm.Cond.code ({ cls := "WireHostModel", name := "assembly", desc := "(II)I" } : Jvm.MethodName) prog_12_method_35_code (3 : Nat) (Option.some Jvm.ClassFile.FieldType.int)) ∈ wsG := List.mem_filter.mpr ⟨List.mem_append_right _ (List.mem_of_getElem? (i := 926) (by decide +kernel)), rfl⟩
theorem wd_927 : (Jvm.Cond.methodLink "WireHostLaw" (64 : Nat) ({ cls := "WireHostModel", name := "count", desc := "(I)I" } : Jvm.MethodName)) ∈ wsG := List.mem_filter.mpr ⟨List.mem_append_right _ (List.mem_of_getElem? (i := 927) (by decide +kernel)), rfl⟩
theorem wd_928 : (Jvm.Cond.instanceMethod ({ cls := "WireHostModel", name := "count", desc := "(I)I" } : Jvm.MethodName)) ∈ wsG := List.mem_filter.mpr ⟨List.mem_append_right _ (List.mem_of_getElem? (i := 928) (by decide +kernel)), rfl⟩
theorem wd_929 : (Jvm.Cond.selects "WireHostModel" ({ cls := "WireHostModel", name := "count", desc := "(I)I" } : Jvm.MethodName) ({ cls := "WireHostModel", name := "count", desc := "(I)I" } : Jvm.MethodName)) ∈ wsG := List.mem_filter.mpr ⟨List.mem_append_right _ (List.mem_of_getElem? (i := 929) (by decide +kernel)), rfl⟩
theorem wd_930 : (Jvm.Cond.code ({ cls := "WireHostModel", name := "count", desc := "(I)I" } : Jvm.MethodName) prog_12_method_36_code (2 : Nat) (Option.some Jvm.ClassFile.FieldType.int)) ∈ wsG := List.mem_filter.mpr ⟨List.mem_append_right _ (List.mem_of_getElem? (i := 930) (by decide +kernel)), rfl⟩
theorem d_law_0 : decode code 0 = .ok (.new 7, 3) := by decide +kernel
theorem d_law_3 : decode code 3 = .ok (.dup, 1) := by decide +kernel
theorem d_law_4 : decode code 4 = .ok (.invokespecial 9, 3) := by decide +kernel
theorem d_law_7 : decode code 7 = .ok (.astore_n 1, 1) := by decide +kernel
theorem d_law_8 : decode code 8 = .ok (.new 10, 3) := by decide +kernel
theorem d_law_11 : decode code 11 = .ok (.dup, 1) := by decide +kernel
theorem d_law_12 : decode code 12 = .ok (.invokespecial 12, 3) := by decide +kernel
theorem d_law_15 : decode code 15 = .ok (.astore_n 2, 1) := by decide +kernel
theorem d_law_16 : decode code 16 = .ok (.iconst 0, 1) := by decide +kernel
theorem d_law_17 : decode code 17 = .ok (.istore_n 3, 1) := by decide +kernel
theorem d_law_18 : decode code 18 = .ok (.iload_n 3, 1) := by decide +kernel
theorem d_law_19 : decode code 19 = .ok (.aload_n 0, 1) := by decide +kernel
theorem d_law_20 : decode code 20 = .ok (.arraylength, 1) := by decide +kernel
theorem d_law_21 : decode code 21 = .ok (.iconst 4, 1) := by decide +kernel
theorem d_law_22 : decode code 22 = .ok (.isub, 1) := by decide +kernel
theorem d_law_23 : decode code 23 = .ok (.if_icmp .gt 415, 3) := by decide +kernel
theorem d_law_26 : decode code 26 = .ok (.aload_n 0, 1) := by decide +kernel
theorem d_law_27 : decode code 27 = .ok (.iload_n 3, 1) := by decide +kernel
theorem d_law_28 : decode code 28 = .ok (.iaload, 1) := by decide +kernel
theorem d_law_29 : decode code 29 = .ok (.bipush 15, 2) := by decide +kernel
theorem d_law_31 : decode code 31 = .ok (.iand, 1) := by decide +kernel
theorem d_law_32 : decode code 32 = .ok (.tableswitch 400 0 11 #[64, 87, 100, 123, 156, 189, 222, 265, 288, 311, 344, 377], 64) := by decide +kernel
theorem d_law_96 : decode code 96 = .ok (.aload_n 1, 1) := by decide +kernel
theorem d_law_97 : decode code 97 = .ok (.aload_n 0, 1) := by decide +kernel
theorem d_law_98 : decode code 98 = .ok (.iload_n 3, 1) := by decide +kernel
theorem d_law_99 : decode code 99 = .ok (.iconst 1, 1) := by decide +kernel
theorem d_law_100 : decode code 100 = .ok (.iadd, 1) := by decide +kernel
theorem d_law_101 : decode code 101 = .ok (.iaload, 1) := by decide +kernel
theorem d_law_102 : decode code 102 = .ok (.invokevirtual 13, 3) := by decide +kernel
theorem d_law_105 : decode code 105 = .ok (.aload_n 2, 1) := by decide +kernel
theorem d_law_106 : decode code 106 = .ok (.aload_n 0, 1) := by decide +kernel
theorem d_law_107 : decode code 107 = .ok (.iload_n 3, 1) := by decide +kernel
theorem d_law_108 : decode code 108 = .ok (.iconst 1, 1) := by decide +kernel
theorem d_law_109 : decode code 109 = .ok (.iadd, 1) := by decide +kernel
theorem d_law_110 : decode code 110 = .ok (.iaload, 1) := by decide +kernel
theorem d_law_111 : decode code 111 = .ok (.invokevirtual 17, 3) := by decide +kernel
theorem d_law_114 : decode code 114 = .ok (.if_icmp .eq 318, 3) := by decide +kernel
theorem d_law_117 : decode code 117 = .ok (.iconst 0, 1) := by decide +kernel
theorem d_law_118 : decode code 118 = .ok (.ireturn, 1) := by decide +kernel
theorem d_law_119 : decode code 119 = .ok (.aload_n 1, 1) := by decide +kernel
theorem d_law_120 : decode code 120 = .ok (.invokevirtual 18, 3) := by decide +kernel
theorem d_law_123 : decode code 123 = .ok (.aload_n 2, 1) := by decide +kernel
theorem d_law_124 : decode code 124 = .ok (.invokevirtual 22, 3) := by decide +kernel
theorem d_law_127 : decode code 127 = .ok (.if_icmp .eq 305, 3) := by decide +kernel
theorem d_law_130 : decode code 130 = .ok (.iconst 0, 1) := by decide +kernel
theorem d_law_131 : decode code 131 = .ok (.ireturn, 1) := by decide +kernel
theorem d_law_132 : decode code 132 = .ok (.aload_n 1, 1) := by decide +kernel
theorem d_law_133 : decode code 133 = .ok (.aload_n 0, 1) := by decide +kernel
theorem d_law_134 : decode code 134 = .ok (.iload_n 3, 1) := by decide +kernel
theorem d_law_135 : decode code 135 = .ok (.iconst 1, 1) := by decide +kernel
theorem d_law_136 : decode code 136 = .ok (.iadd, 1) := by decide +kernel
theorem d_law_137 : decode code 137 = .ok (.iaload, 1) := by decide +kernel
theorem d_law_138 : decode code 138 = .ok (.invokevirtual 23, 3) := by decide +kernel
theorem d_law_141 : decode code 141 = .ok (.aload_n 2, 1) := by decide +kernel
theorem d_law_142 : decode code 142 = .ok (.aload_n 0, 1) := by decide +kernel
theorem d_law_143 : decode code 143 = .ok (.iload_n 3, 1) := by decide +kernel
theorem d_law_144 : decode code 144 = .ok (.iconst 1, 1) := by decide +kernel
theorem d_law_145 : decode code 145 = .ok (.iadd, 1) := by decide +kernel
theorem d_law_146 : decode code 146 = .ok (.iaload, 1) := by decide +kernel
theorem d_law_147 : decode code 147 = .ok (.invokevirtual 26, 3) := by decide +kernel
theorem d_law_150 : decode code 150 = .ok (.if_icmp .eq 282, 3) := by decide +kernel
theorem d_law_153 : decode code 153 = .ok (.iconst 0, 1) := by decide +kernel
theorem d_law_154 : decode code 154 = .ok (.ireturn, 1) := by decide +kernel
theorem d_law_155 : decode code 155 = .ok (.aload_n 1, 1) := by decide +kernel
theorem d_law_156 : decode code 156 = .ok (.aload_n 0, 1) := by decide +kernel
theorem d_law_157 : decode code 157 = .ok (.iload_n 3, 1) := by decide +kernel
theorem d_law_158 : decode code 158 = .ok (.iconst 1, 1) := by decide +kernel
theorem d_law_159 : decode code 159 = .ok (.iadd, 1) := by decide +kernel
theorem d_law_160 : decode code 160 = .ok (.iaload, 1) := by decide +kernel
theorem d_law_161 : decode code 161 = .ok (.aload_n 0, 1) := by decide +kernel
theorem d_law_162 : decode code 162 = .ok (.iload_n 3, 1) := by decide +kernel
theorem d_law_163 : decode code 163 = .ok (.iconst 2, 1) := by decide +kernel
theorem d_law_164 : decode code 164 = .ok (.iadd, 1) := by decide +kernel
theorem d_law_165 : decode code 165 = .ok (.iaload, 1) := by decide +kernel
theorem d_law_166 : decode code 166 = .ok (.invokevirtual 27, 3) := by decide +kernel
theorem d_law_169 : decode code 169 = .ok (.aload_n 2, 1) := by decide +kernel
theorem d_law_170 : decode code 170 = .ok (.aload_n 0, 1) := by decide +kernel
theorem d_law_171 : decode code 171 = .ok (.iload_n 3, 1) := by decide +kernel
theorem d_law_172 : decode code 172 = .ok (.iconst 1, 1) := by decide +kernel
theorem d_law_173 : decode code 173 = .ok (.iadd, 1) := by decide +kernel
theorem d_law_174 : decode code 174 = .ok (.iaload, 1) := by decide +kernel
theorem d_law_175 : decode code 175 = .ok (.aload_n 0, 1) := by decide +kernel
theorem d_law_176 : decode code 176 = .ok (.iload_n 3, 1) := by decide +kernel
theorem d_law_177 : decode code 177 = .ok (.iconst 2, 1) := by decide +kernel
theorem d_law_178 : decode code 178 = .ok (.iadd, 1) := by decide +kernel
theorem d_law_179 : decode code 179 = .ok (.iaload, 1) := by decide +kernel
theorem d_law_180 : decode code 180 = .ok (.invokevirtual 31, 3) := by decide +kernel
theorem d_law_183 : decode code 183 = .ok (.if_icmp .eq 249, 3) := by decide +kernel
theorem d_law_186 : decode code 186 = .ok (.iconst 0, 1) := by decide +kernel
theorem d_law_187 : decode code 187 = .ok (.ireturn, 1) := by decide +kernel
theorem d_law_188 : decode code 188 = .ok (.aload_n 1, 1) := by decide +kernel
theorem d_law_189 : decode code 189 = .ok (.aload_n 0, 1) := by decide +kernel
theorem d_law_190 : decode code 190 = .ok (.iload_n 3, 1) := by decide +kernel
theorem d_law_191 : decode code 191 = .ok (.iconst 1, 1) := by decide +kernel
theorem d_law_192 : decode code 192 = .ok (.iadd, 1) := by decide +kernel
theorem d_law_193 : decode code 193 = .ok (.iaload, 1) := by decide +kernel
theorem d_law_194 : decode code 194 = .ok (.aload_n 0, 1) := by decide +kernel
theorem d_law_195 : decode code 195 = .ok (.iload_n 3, 1) := by decide +kernel
theorem d_law_196 : decode code 196 = .ok (.iconst 2, 1) := by decide +kernel
theorem d_law_197 : decode code 197 = .ok (.iadd, 1) := by decide +kernel
theorem d_law_198 : decode code 198 = .ok (.iaload, 1) := by decide +kernel
theorem d_law_199 : decode code 199 = .ok (.invokevirtual 32, 3) := by decide +kernel
theorem d_law_202 : decode code 202 = .ok (.aload_n 2, 1) := by decide +kernel
theorem d_law_203 : decode code 203 = .ok (.aload_n 0, 1) := by decide +kernel
theorem d_law_204 : decode code 204 = .ok (.iload_n 3, 1) := by decide +kernel
theorem d_law_205 : decode code 205 = .ok (.iconst 1, 1) := by decide +kernel
theorem d_law_206 : decode code 206 = .ok (.iadd, 1) := by decide +kernel
theorem d_law_207 : decode code 207 = .ok (.iaload, 1) := by decide +kernel
theorem d_law_208 : decode code 208 = .ok (.aload_n 0, 1) := by decide +kernel
theorem d_law_209 : decode code 209 = .ok (.iload_n 3, 1) := by decide +kernel
theorem d_law_210 : decode code 210 = .ok (.iconst 2, 1) := by decide +kernel
theorem d_law_211 : decode code 211 = .ok (.iadd, 1) := by decide +kernel
theorem d_law_212 : decode code 212 = .ok (.iaload, 1) := by decide +kernel
theorem d_law_213 : decode code 213 = .ok (.invokevirtual 35, 3) := by decide +kernel
theorem d_law_216 : decode code 216 = .ok (.if_icmp .eq 216, 3) := by decide +kernel
theorem d_law_219 : decode code 219 = .ok (.iconst 0, 1) := by decide +kernel
theorem d_law_220 : decode code 220 = .ok (.ireturn, 1) := by decide +kernel
theorem d_law_221 : decode code 221 = .ok (.aload_n 1, 1) := by decide +kernel
theorem d_law_222 : decode code 222 = .ok (.aload_n 0, 1) := by decide +kernel
theorem d_law_223 : decode code 223 = .ok (.iload_n 3, 1) := by decide +kernel
theorem d_law_224 : decode code 224 = .ok (.iconst 1, 1) := by decide +kernel
theorem d_law_225 : decode code 225 = .ok (.iadd, 1) := by decide +kernel
theorem d_law_226 : decode code 226 = .ok (.iaload, 1) := by decide +kernel
theorem d_law_227 : decode code 227 = .ok (.aload_n 0, 1) := by decide +kernel
theorem d_law_228 : decode code 228 = .ok (.iload_n 3, 1) := by decide +kernel
theorem d_law_229 : decode code 229 = .ok (.iconst 2, 1) := by decide +kernel
theorem d_law_230 : decode code 230 = .ok (.iadd, 1) := by decide +kernel
theorem d_law_231 : decode code 231 = .ok (.iaload, 1) := by decide +kernel
theorem d_law_232 : decode code 232 = .ok (.invokevirtual 36, 3) := by decide +kernel
theorem d_law_235 : decode code 235 = .ok (.aload_n 2, 1) := by decide +kernel
theorem d_law_236 : decode code 236 = .ok (.aload_n 0, 1) := by decide +kernel
theorem d_law_237 : decode code 237 = .ok (.iload_n 3, 1) := by decide +kernel
theorem d_law_238 : decode code 238 = .ok (.iconst 1, 1) := by decide +kernel
theorem d_law_239 : decode code 239 = .ok (.iadd, 1) := by decide +kernel
theorem d_law_240 : decode code 240 = .ok (.iaload, 1) := by decide +kernel
theorem d_law_241 : decode code 241 = .ok (.aload_n 0, 1) := by decide +kernel
theorem d_law_242 : decode code 242 = .ok (.iload_n 3, 1) := by decide +kernel
theorem d_law_243 : decode code 243 = .ok (.iconst 2, 1) := by decide +kernel
theorem d_law_244 : decode code 244 = .ok (.iadd, 1) := by decide +kernel
theorem d_law_245 : decode code 245 = .ok (.iaload, 1) := by decide +kernel
theorem d_law_246 : decode code 246 = .ok (.invokevirtual 39, 3) := by decide +kernel
theorem d_law_249 : decode code 249 = .ok (.if_icmp .eq 183, 3) := by decide +kernel
theorem d_law_252 : decode code 252 = .ok (.iconst 0, 1) := by decide +kernel
theorem d_law_253 : decode code 253 = .ok (.ireturn, 1) := by decide +kernel
theorem d_law_254 : decode code 254 = .ok (.aload_n 1, 1) := by decide +kernel
theorem d_law_255 : decode code 255 = .ok (.aload_n 0, 1) := by decide +kernel
theorem d_law_256 : decode code 256 = .ok (.iload_n 3, 1) := by decide +kernel
theorem d_law_257 : decode code 257 = .ok (.iconst 1, 1) := by decide +kernel
theorem d_law_258 : decode code 258 = .ok (.iadd, 1) := by decide +kernel
theorem d_law_259 : decode code 259 = .ok (.iaload, 1) := by decide +kernel
theorem d_law_260 : decode code 260 = .ok (.aload_n 0, 1) := by decide +kernel
theorem d_law_261 : decode code 261 = .ok (.iload_n 3, 1) := by decide +kernel
theorem d_law_262 : decode code 262 = .ok (.iconst 2, 1) := by decide +kernel
theorem d_law_263 : decode code 263 = .ok (.iadd, 1) := by decide +kernel
theorem d_law_264 : decode code 264 = .ok (.iaload, 1) := by decide +kernel
theorem d_law_265 : decode code 265 = .ok (.aload_n 0, 1) := by decide +kernel
theorem d_law_266 : decode code 266 = .ok (.iload_n 3, 1) := by decide +kernel
theorem d_law_267 : decode code 267 = .ok (.iconst 3, 1) := by decide +kernel
theorem d_law_268 : decode code 268 = .ok (.iadd, 1) := by decide +kernel
theorem d_law_269 : decode code 269 = .ok (.iaload, 1) := by decide +kernel
theorem d_law_270 : decode code 270 = .ok (.invokevirtual 40, 3) := by decide +kernel
theorem d_law_273 : decode code 273 = .ok (.aload_n 2, 1) := by decide +kernel
theorem d_law_274 : decode code 274 = .ok (.aload_n 0, 1) := by decide +kernel
theorem d_law_275 : decode code 275 = .ok (.iload_n 3, 1) := by decide +kernel
theorem d_law_276 : decode code 276 = .ok (.iconst 1, 1) := by decide +kernel
theorem d_law_277 : decode code 277 = .ok (.iadd, 1) := by decide +kernel
theorem d_law_278 : decode code 278 = .ok (.iaload, 1) := by decide +kernel
theorem d_law_279 : decode code 279 = .ok (.aload_n 0, 1) := by decide +kernel
theorem d_law_280 : decode code 280 = .ok (.iload_n 3, 1) := by decide +kernel
theorem d_law_281 : decode code 281 = .ok (.iconst 2, 1) := by decide +kernel
theorem d_law_282 : decode code 282 = .ok (.iadd, 1) := by decide +kernel
theorem d_law_283 : decode code 283 = .ok (.iaload, 1) := by decide +kernel
theorem d_law_284 : decode code 284 = .ok (.aload_n 0, 1) := by decide +kernel
theorem d_law_285 : decode code 285 = .ok (.iload_n 3, 1) := by decide +kernel
theorem d_law_286 : decode code 286 = .ok (.iconst 3, 1) := by decide +kernel
theorem d_law_287 : decode code 287 = .ok (.iadd, 1) := by decide +kernel
theorem d_law_288 : decode code 288 = .ok (.iaload, 1) := by decide +kernel
theorem d_law_289 : decode code 289 = .ok (.invokevirtual 44, 3) := by decide +kernel
theorem d_law_292 : decode code 292 = .ok (.if_icmp .eq 140, 3) := by decide +kernel
theorem d_law_295 : decode code 295 = .ok (.iconst 0, 1) := by decide +kernel
theorem d_law_296 : decode code 296 = .ok (.ireturn, 1) := by decide +kernel
theorem d_law_297 : decode code 297 = .ok (.aload_n 1, 1) := by decide +kernel
theorem d_law_298 : decode code 298 = .ok (.aload_n 0, 1) := by decide +kernel
theorem d_law_299 : decode code 299 = .ok (.iload_n 3, 1) := by decide +kernel
theorem d_law_300 : decode code 300 = .ok (.iconst 1, 1) := by decide +kernel
theorem d_law_301 : decode code 301 = .ok (.iadd, 1) := by decide +kernel
theorem d_law_302 : decode code 302 = .ok (.iaload, 1) := by decide +kernel
theorem d_law_303 : decode code 303 = .ok (.invokevirtual 45, 3) := by decide +kernel
theorem d_law_306 : decode code 306 = .ok (.aload_n 2, 1) := by decide +kernel
theorem d_law_307 : decode code 307 = .ok (.aload_n 0, 1) := by decide +kernel
theorem d_law_308 : decode code 308 = .ok (.iload_n 3, 1) := by decide +kernel
theorem d_law_309 : decode code 309 = .ok (.iconst 1, 1) := by decide +kernel
theorem d_law_310 : decode code 310 = .ok (.iadd, 1) := by decide +kernel
theorem d_law_311 : decode code 311 = .ok (.iaload, 1) := by decide +kernel
theorem d_law_312 : decode code 312 = .ok (.invokevirtual 48, 3) := by decide +kernel
theorem d_law_315 : decode code 315 = .ok (.if_icmp .eq 117, 3) := by decide +kernel
theorem d_law_318 : decode code 318 = .ok (.iconst 0, 1) := by decide +kernel
theorem d_law_319 : decode code 319 = .ok (.ireturn, 1) := by decide +kernel
theorem d_law_320 : decode code 320 = .ok (.aload_n 1, 1) := by decide +kernel
theorem d_law_321 : decode code 321 = .ok (.aload_n 0, 1) := by decide +kernel
theorem d_law_322 : decode code 322 = .ok (.iload_n 3, 1) := by decide +kernel
theorem d_law_323 : decode code 323 = .ok (.iconst 1, 1) := by decide +kernel
theorem d_law_324 : decode code 324 = .ok (.iadd, 1) := by decide +kernel
theorem d_law_325 : decode code 325 = .ok (.iaload, 1) := by decide +kernel
theorem d_law_326 : decode code 326 = .ok (.invokevirtual 49, 3) := by decide +kernel
theorem d_law_329 : decode code 329 = .ok (.aload_n 2, 1) := by decide +kernel
theorem d_law_330 : decode code 330 = .ok (.aload_n 0, 1) := by decide +kernel
theorem d_law_331 : decode code 331 = .ok (.iload_n 3, 1) := by decide +kernel
theorem d_law_332 : decode code 332 = .ok (.iconst 1, 1) := by decide +kernel
theorem d_law_333 : decode code 333 = .ok (.iadd, 1) := by decide +kernel
theorem d_law_334 : decode code 334 = .ok (.iaload, 1) := by decide +kernel
theorem d_law_335 : decode code 335 = .ok (.invokevirtual 52, 3) := by decide +kernel
theorem d_law_338 : decode code 338 = .ok (.if_icmp .eq 94, 3) := by decide +kernel
theorem d_law_341 : decode code 341 = .ok (.iconst 0, 1) := by decide +kernel
theorem d_law_342 : decode code 342 = .ok (.ireturn, 1) := by decide +kernel
theorem d_law_343 : decode code 343 = .ok (.aload_n 1, 1) := by decide +kernel
theorem d_law_344 : decode code 344 = .ok (.aload_n 0, 1) := by decide +kernel
theorem d_law_345 : decode code 345 = .ok (.iload_n 3, 1) := by decide +kernel
theorem d_law_346 : decode code 346 = .ok (.iconst 1, 1) := by decide +kernel
theorem d_law_347 : decode code 347 = .ok (.iadd, 1) := by decide +kernel
theorem d_law_348 : decode code 348 = .ok (.iaload, 1) := by decide +kernel
theorem d_law_349 : decode code 349 = .ok (.aload_n 0, 1) := by decide +kernel
theorem d_law_350 : decode code 350 = .ok (.iload_n 3, 1) := by decide +kernel
theorem d_law_351 : decode code 351 = .ok (.iconst 2, 1) := by decide +kernel
theorem d_law_352 : decode code 352 = .ok (.iadd, 1) := by decide +kernel
theorem d_law_353 : decode code 353 = .ok (.iaload, 1) := by decide +kernel
theorem d_law_354 : decode code 354 = .ok (.invokevirtual 53, 3) := by decide +kernel
theorem d_law_357 : decode code 357 = .ok (.aload_n 2, 1) := by decide +kernel
theorem d_law_358 : decode code 358 = .ok (.aload_n 0, 1) := by decide +kernel
theorem d_law_359 : decode code 359 = .ok (.iload_n 3, 1) := by decide +kernel
theorem d_law_360 : decode code 360 = .ok (.iconst 1, 1) := by decide +kernel
theorem d_law_361 : decode code 361 = .ok (.iadd, 1) := by decide +kernel
theorem d_law_362 : decode code 362 = .ok (.iaload, 1) := by decide +kernel
theorem d_law_363 : decode code 363 = .ok (.aload_n 0, 1) := by decide +kernel
theorem d_law_364 : decode code 364 = .ok (.iload_n 3, 1) := by decide +kernel
theorem d_law_365 : decode code 365 = .ok (.iconst 2, 1) := by decide +kernel
theorem d_law_366 : decode code 366 = .ok (.iadd, 1) := by decide +kernel
theorem d_law_367 : decode code 367 = .ok (.iaload, 1) := by decide +kernel
theorem d_law_368 : decode code 368 = .ok (.invokevirtual 56, 3) := by decide +kernel
theorem d_law_371 : decode code 371 = .ok (.if_icmp .eq 61, 3) := by decide +kernel
theorem d_law_374 : decode code 374 = .ok (.iconst 0, 1) := by decide +kernel
theorem d_law_375 : decode code 375 = .ok (.ireturn, 1) := by decide +kernel
theorem d_law_376 : decode code 376 = .ok (.aload_n 1, 1) := by decide +kernel
theorem d_law_377 : decode code 377 = .ok (.aload_n 0, 1) := by decide +kernel
theorem d_law_378 : decode code 378 = .ok (.iload_n 3, 1) := by decide +kernel
theorem d_law_379 : decode code 379 = .ok (.iconst 1, 1) := by decide +kernel
theorem d_law_380 : decode code 380 = .ok (.iadd, 1) := by decide +kernel
theorem d_law_381 : decode code 381 = .ok (.iaload, 1) := by decide +kernel
theorem d_law_382 : decode code 382 = .ok (.aload_n 0, 1) := by decide +kernel
theorem d_law_383 : decode code 383 = .ok (.iload_n 3, 1) := by decide +kernel
theorem d_law_384 : decode code 384 = .ok (.iconst 2, 1) := by decide +kernel
theorem d_law_385 : decode code 385 = .ok (.iadd, 1) := by decide +kernel
theorem d_law_386 : decode code 386 = .ok (.iaload, 1) := by decide +kernel
theorem d_law_387 : decode code 387 = .ok (.invokevirtual 57, 3) := by decide +kernel
theorem d_law_390 : decode code 390 = .ok (.aload_n 2, 1) := by decide +kernel
theorem d_law_391 : decode code 391 = .ok (.aload_n 0, 1) := by decide +kernel
theorem d_law_392 : decode code 392 = .ok (.iload_n 3, 1) := by decide +kernel
theorem d_law_393 : decode code 393 = .ok (.iconst 1, 1) := by decide +kernel
theorem d_law_394 : decode code 394 = .ok (.iadd, 1) := by decide +kernel
theorem d_law_395 : decode code 395 = .ok (.iaload, 1) := by decide +kernel
theorem d_law_396 : decode code 396 = .ok (.aload_n 0, 1) := by decide +kernel
theorem d_law_397 : decode code 397 = .ok (.iload_n 3, 1) := by decide +kernel
theorem d_law_398 : decode code 398 = .ok (.iconst 2, 1) := by decide +kernel
theorem d_law_399 : decode code 399 = .ok (.iadd, 1) := by decide +kernel
theorem d_law_400 : decode code 400 = .ok (.iaload, 1) := by decide +kernel
theorem d_law_401 : decode code 401 = .ok (.invokevirtual 60, 3) := by decide +kernel
theorem d_law_404 : decode code 404 = .ok (.if_icmp .eq 28, 3) := by decide +kernel
theorem d_law_407 : decode code 407 = .ok (.iconst 0, 1) := by decide +kernel
theorem d_law_408 : decode code 408 = .ok (.ireturn, 1) := by decide +kernel
theorem d_law_409 : decode code 409 = .ok (.aload_n 1, 1) := by decide +kernel
theorem d_law_410 : decode code 410 = .ok (.aload_n 0, 1) := by decide +kernel
theorem d_law_411 : decode code 411 = .ok (.iload_n 3, 1) := by decide +kernel
theorem d_law_412 : decode code 412 = .ok (.iconst 1, 1) := by decide +kernel
theorem d_law_413 : decode code 413 = .ok (.iadd, 1) := by decide +kernel
theorem d_law_414 : decode code 414 = .ok (.iaload, 1) := by decide +kernel
theorem d_law_415 : decode code 415 = .ok (.invokevirtual 61, 3) := by decide +kernel
theorem d_law_418 : decode code 418 = .ok (.aload_n 2, 1) := by decide +kernel
theorem d_law_419 : decode code 419 = .ok (.aload_n 0, 1) := by decide +kernel
theorem d_law_420 : decode code 420 = .ok (.iload_n 3, 1) := by decide +kernel
theorem d_law_421 : decode code 421 = .ok (.iconst 1, 1) := by decide +kernel
theorem d_law_422 : decode code 422 = .ok (.iadd, 1) := by decide +kernel
theorem d_law_423 : decode code 423 = .ok (.iaload, 1) := by decide +kernel
theorem d_law_424 : decode code 424 = .ok (.invokevirtual 64, 3) := by decide +kernel
theorem d_law_427 : decode code 427 = .ok (.if_icmp .eq 5, 3) := by decide +kernel
theorem d_law_430 : decode code 430 = .ok (.iconst 0, 1) := by decide +kernel
theorem d_law_431 : decode code 431 = .ok (.ireturn, 1) := by decide +kernel
theorem d_law_432 : decode code 432 = .ok (.iinc 3 4, 3) := by decide +kernel
theorem d_law_435 : decode code 435 = .ok (.goto (-417), 3) := by decide +kernel
theorem d_law_438 : decode code 438 = .ok (.iconst 1, 1) := by decide +kernel
theorem d_law_439 : decode code 439 = .ok (.ireturn, 1) := by decide +kernel
theorem lw_hts {s : State} {b : Nat} (h : ∀ w ∈ lw_tbl, w.before #[Value.ref b] s = true) : ∀ w ∈ ((Jvm.Cond.initialized "WireHost") :: wsG), w.before #[Value.ref b] s = true := fun w hw => by
  rcases List.mem_cons.mp hw with q | q
  · rw [q]; exact h _ (wsG_t _ wd_1)
  · exact h _ (wsG_t _ q)
theorem start_N {s : State} {b : Nat} (h : ∀ w ∈ lw_tbl, w.before #[Value.ref b] s = true) : NW s := ⟨va_Nw.of rfl (h (Jvm.Cond.methodLinkNest "WireHost$Arrival" (45 : Nat) ({ cls := "WireHost", name := "unitsUpTo", desc := "(I)I" } : Jvm.MethodName) "WireHost") (List.mem_append_right _ (List.mem_of_getElem? (i := 399) (by decide +kernel)))), va_Nw.of rfl (h (Jvm.Cond.methodLinkNest "WireHost$Assembly" (57 : Nat) ({ cls := "WireHost", name := "unitsUpTo", desc := "(I)I" } : Jvm.MethodName) "WireHost") (List.mem_append_right _ (List.mem_of_getElem? (i := 413) (by decide +kernel)))), va_Nw.of rfl (h (Jvm.Cond.methodLinkNest "WireHost$Shelf" (42 : Nat) ({ cls := "WireHost", name := "isLetter", desc := "(I)Z" } : Jvm.MethodName) "WireHost") (List.mem_append_right _ (List.mem_of_getElem? (i := 507) (by decide +kernel)))), va_AO.of (h (Jvm.Cond.arrayOver (Jvm.ClassFile.FieldType.object "WireHost$Assembly")) (List.mem_append_right _ (List.mem_of_getElem? (i := 46) (by decide +kernel)))), va_Nw.of rfl (h (Jvm.Cond.methodLinkNest "WireHost$Gathering" (17 : Nat) ({ cls := "WireHost$Assembly", name := "<init>", desc := "()V" } : Jvm.MethodName) "WireHost") (List.mem_append_right _ (List.mem_of_getElem? (i := 48) (by decide +kernel)))), va_AO.of (h (Jvm.Cond.arrayOver (Jvm.ClassFile.FieldType.object "WireHost$Text")) (List.mem_append_right _ (List.mem_of_getElem? (i := 164) (by decide +kernel)))), va_Nw.of rfl (h (Jvm.Cond.methodLinkNest "WireHost$Shelf" (21 : Nat) ({ cls := "WireHost$Text", name := "<init>", desc := "()V" } : Jvm.MethodName) "WireHost") (List.mem_append_right _ (List.mem_of_getElem? (i := 166) (by decide +kernel)))), (show (Cond.arrayOver (.array .int)).before #[] s = true from (h (Jvm.Cond.arrayOver (Jvm.ClassFile.FieldType.array Jvm.ClassFile.FieldType.int)) (List.mem_append_right _ (List.mem_of_getElem? (i := 134) (by decide +kernel))))), va_AO.of (h (Jvm.Cond.arrayOver (Jvm.ClassFile.FieldType.object "WireHost$Stream")) (List.mem_append_right _ (List.mem_of_getElem? (i := 126) (by decide +kernel)))), va_Nw.of rfl (h (Jvm.Cond.methodLinkNest "WireHost$Streams" (35 : Nat) ({ cls := "WireHost$Stream", name := "<init>", desc := "()V" } : Jvm.MethodName) "WireHost") (List.mem_append_right _ (List.mem_of_getElem? (i := 202) (by decide +kernel)))), va_Nw.of rfl (h (Jvm.Cond.methodLinkNest "WireHost" (9 : Nat) ({ cls := "WireHost$Arrival", name := "<init>", desc := "()V" } : Jvm.MethodName) "WireHost") (List.mem_append_right _ (List.mem_of_getElem? (i := 23) (by decide +kernel)))), va_Nw.of rfl (h (Jvm.Cond.methodLinkNest "WireHost" (25 : Nat) ({ cls := "WireHost$Datagram", name := "<init>", desc := "()V" } : Jvm.MethodName) "WireHost") (List.mem_append_right _ (List.mem_of_getElem? (i := 93) (by decide +kernel))))⟩
theorem start_K {s : State} {b : Nat} (h0 : ∀ w ∈ lw_tbl, w.before #[Value.ref b] s = true) (hN : NW s) : ∃ (dC : Nat → ClassId) (dI : Nat → Nat → Nat) (tC : Nat → ClassId), va_K (dC, dI) vwCl (TY tC) s := by
  have hts := lw_hts h0
  obtain ⟨c0, i0, g0⟩ := u_known (C := RX0) (T := TX0) (N := 2) (n := 2) hts (fun w h => List.mem_cons_of_mem _ (uwX0 w h)) (hts _ (List.mem_cons_of_mem _ wd_22))
  obtain ⟨c1, i1, g1⟩ := u_known (C := RX1) (T := TX1) (N := 8) (n := 8) hts (fun w h => List.mem_cons_of_mem _ (uwX1 w h)) (hts _ (List.mem_cons_of_mem _ wd_47))
  obtain ⟨c2, i2, g2⟩ := u_known (C := RX2) (T := TX2) (N := 4) (n := 4) hts (fun w h => List.mem_cons_of_mem _ (uwX2 w h)) (hts _ (List.mem_cons_of_mem _ wd_92))
  obtain ⟨c3, i3, g3⟩ := u_known (C := RX3) (T := TX3) (N := 2) (n := 2) hts (fun w h => List.mem_cons_of_mem _ (uwX3 w h)) (hts _ (List.mem_cons_of_mem _ wd_40))
  obtain ⟨c4, i4, g4⟩ := u_known (C := RX4) (T := TX4) (N := 3) (n := 3) hts (fun w h => List.mem_cons_of_mem _ (uwX4 w h)) (hts _ (List.mem_cons_of_mem _ wd_158))
  obtain ⟨c5, i5, g5⟩ := u_known (C := RX5) (T := TX5) (N := 14) (n := 14) hts (fun w h => List.mem_cons_of_mem _ (uwX5 w h)) (hts _ (List.mem_cons_of_mem _ wd_201))
  obtain ⟨c6, i6, g6⟩ := u_known (C := RX6) (T := TX6) (N := 7) (n := 7) hts (fun w h => List.mem_cons_of_mem _ (uwX6 w h)) (hts _ (List.mem_cons_of_mem _ wd_120))
  obtain ⟨c7, i7, g7⟩ := u_known (C := RX7) (T := TX7) (N := 5) (n := 5) hts (fun w h => List.mem_cons_of_mem _ (uwX7 w h)) (hts _ (List.mem_cons_of_mem _ wd_165))
  obtain ⟨c8, i8, g8⟩ := u_known (C := RX8) (T := TX8) (N := 6) (n := 6) hts (fun w h => List.mem_cons_of_mem _ (uwX8 w h)) (hts _ (List.mem_cons_of_mem _ wd_128))
  obtain ⟨c9, i9, g9⟩ := u_known (C := RX9) (T := TX9) (N := 7) (n := 7) hts (fun w h => List.mem_cons_of_mem _ (uwX9 w h)) (hts _ (List.mem_cons_of_mem _ wd_14))
  obtain ⟨c10, i10, g10⟩ := u_known (C := RX10) (T := TX10) (N := 47) (n := 47) hts (fun w h => List.mem_cons_of_mem _ (uwX10 w h)) (hts _ (List.mem_cons_of_mem _ wd_644))
  obtain ⟨a0, k0, m0, x0, y0, z0⟩ := Cond.arrayClass_spec (hts _ (List.mem_cons_of_mem _ wd_38))
  obtain ⟨a5, k5, m5, x5, y5, z5⟩ := Cond.arrayClass_spec (hts _ (List.mem_cons_of_mem _ wd_791))
  obtain ⟨m1, a1, k1, w1, v1, x1, y1, z1⟩ := Cond.arrayOver_spec (va_AO.use (A := #[]) hN.2.2.2.1)
  obtain ⟨m2, a2, k2, w2, v2, x2, y2, z2⟩ := Cond.arrayOver_spec (va_AO.use (A := #[]) hN.2.2.2.2.2.2.2.2.1)
  obtain ⟨m3, a3, k3, w3, v3, x3, y3, z3⟩ := Cond.arrayOver_spec (va_AO.use (A := #[]) hN.2.2.2.2.2.1)
  obtain ⟨m4, a4, k4, w4, v4, x4, y4, z4⟩ := arrayOverA_spec (va_AOA.use (A := #[]) hN.2.2.2.2.2.2.2.1)
  refine ⟨fun k => match k with | 0 => c0 | 1 => c1 | 2 => c2 | 3 => c3 | 4 => c4 | 5 => c5 | 6 => c6 | 7 => c7 | 8 => c8 | 9 => c9 | _ => c10, fun k => match k with | 0 => i0 | 1 => i1 | 2 => i2 | 3 => i3 | 4 => i4 | 5 => i5 | 6 => i6 | 7 => i7 | 8 => i8 | 9 => i9 | _ => i10, fun k => match k with | 0 => a0 | 1 => a1 | 2 => a2 | 3 => a3 | 4 => a4 | _ => a5, fun k q hq => ?_, fun k q hq => ?_⟩
  · match k, hq with
    | 0, hq => cases hq; exact g0
    | 1, hq => cases hq; exact g1
    | 2, hq => cases hq; exact g2
    | 3, hq => cases hq; exact g3
    | 4, hq => cases hq; exact g4
    | 5, hq => cases hq; exact g5
    | 6, hq => cases hq; exact g6
    | 7, hq => cases hq; exact g7
    | 8, hq => cases hq; exact g8
    | 9, hq => cases hq; exact g9
    | 10, hq => cases hq; exact g10
    | k + 11, hq => simp [vwCl] at hq
  · match k, hq with
    | 0, hq => cases hq; exact ⟨fun n z => ⟨(fun k h => by cases h), k0, y0, m0, z0⟩, x0⟩
    | 1, hq => cases hq; exact ⟨fun n z => ⟨(fun k h => by cases h), k1, x1, m1, y1⟩, k1, m1, x1, y1, w1, z1⟩
    | 2, hq => cases hq; exact ⟨fun n z => ⟨(fun k h => by cases h), k2, x2, m2, y2⟩, k2, m2, x2, y2, w2, z2⟩
    | 3, hq => cases hq; exact ⟨fun n z => ⟨(fun k h => by cases h), k3, x3, m3, y3⟩, k3, m3, x3, y3, w3, z3⟩
    | 4, hq => cases hq; exact ⟨fun n z => ⟨(fun k h => by cases h), k4, x4, m4, y4⟩, z4⟩
    | 5, hq => cases hq; exact ⟨fun n z => ⟨(fun k h => by cases h), k5, y5, m5, z5⟩, x5⟩
    | k + 6, hq => simp [TY] at hq
