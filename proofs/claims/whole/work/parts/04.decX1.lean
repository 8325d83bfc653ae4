theorem dX1_init_0 : decode cX1_init 0 = .ok (.aload_n 0, 1) := by decide +kernel
theorem dX1_init_1 : decode cX1_init 1 = .ok (.invokespecial 3, 3) := by decide +kernel
theorem dX1_init_4 : decode cX1_init 4 = .ok (.aload_n 0, 1) := by decide +kernel
theorem dX1_init_5 : decode cX1_init 5 = .ok (.bipush 32, 2) := by decide +kernel
theorem dX1_init_7 : decode cX1_init 7 = .ok (.newarray .int, 2) := by decide +kernel
theorem dX1_init_9 : decode cX1_init 9 = .ok (.putfield 9, 3) := by decide +kernel
theorem dX1_init_12 : decode cX1_init 12 = .ok (.return_, 1) := by decide +kernel
theorem dX1_begin_0 : decode cX1_begin 0 = .ok (.aload_n 0, 1) := by decide +kernel
theorem dX1_begin_1 : decode cX1_begin 1 = .ok (.iconst 1, 1) := by decide +kernel
theorem dX1_begin_2 : decode cX1_begin 2 = .ok (.putfield 15, 3) := by decide +kernel
theorem dX1_begin_5 : decode cX1_begin 5 = .ok (.aload_n 0, 1) := by decide +kernel
theorem dX1_begin_6 : decode cX1_begin 6 = .ok (.iload_n 1, 1) := by decide +kernel
theorem dX1_begin_7 : decode cX1_begin 7 = .ok (.putfield 19, 3) := by decide +kernel
theorem dX1_begin_10 : decode cX1_begin 10 = .ok (.aload_n 0, 1) := by decide +kernel
theorem dX1_begin_11 : decode cX1_begin 11 = .ok (.iload_n 2, 1) := by decide +kernel
theorem dX1_begin_12 : decode cX1_begin 12 = .ok (.putfield 23, 3) := by decide +kernel
theorem dX1_begin_15 : decode cX1_begin 15 = .ok (.aload_n 0, 1) := by decide +kernel
theorem dX1_begin_16 : decode cX1_begin 16 = .ok (.iconst 0, 1) := by decide +kernel
theorem dX1_begin_17 : decode cX1_begin 17 = .ok (.putfield 26, 3) := by decide +kernel
theorem dX1_begin_20 : decode cX1_begin 20 = .ok (.aload_n 0, 1) := by decide +kernel
theorem dX1_begin_21 : decode cX1_begin 21 = .ok (.iconst 0, 1) := by decide +kernel
theorem dX1_begin_22 : decode cX1_begin 22 = .ok (.putfield 29, 3) := by decide +kernel
theorem dX1_begin_25 : decode cX1_begin 25 = .ok (.aload_n 0, 1) := by decide +kernel
theorem dX1_begin_26 : decode cX1_begin 26 = .ok (.iconst (-1), 1) := by decide +kernel
theorem dX1_begin_27 : decode cX1_begin 27 = .ok (.putfield 32, 3) := by decide +kernel
theorem dX1_begin_30 : decode cX1_begin 30 = .ok (.aload_n 0, 1) := by decide +kernel
theorem dX1_begin_31 : decode cX1_begin 31 = .ok (.iconst 0, 1) := by decide +kernel
theorem dX1_begin_32 : decode cX1_begin 32 = .ok (.putfield 35, 3) := by decide +kernel
theorem dX1_begin_35 : decode cX1_begin 35 = .ok (.return_, 1) := by decide +kernel
theorem dX1_isOf_0 : decode cX1_isOf 0 = .ok (.aload_n 0, 1) := by decide +kernel
theorem dX1_isOf_1 : decode cX1_isOf 1 = .ok (.getfield 15, 3) := by decide +kernel
theorem dX1_isOf_4 : decode cX1_isOf 4 = .ok (.if_ .eq 33, 3) := by decide +kernel
theorem dX1_isOf_7 : decode cX1_isOf 7 = .ok (.aload_n 0, 1) := by decide +kernel
theorem dX1_isOf_8 : decode cX1_isOf 8 = .ok (.getfield 19, 3) := by decide +kernel
theorem dX1_isOf_11 : decode cX1_isOf 11 = .ok (.aload_n 1, 1) := by decide +kernel
theorem dX1_isOf_12 : decode cX1_isOf 12 = .ok (.getfield 38, 3) := by decide +kernel
theorem dX1_isOf_15 : decode cX1_isOf 15 = .ok (.iconst 3, 1) := by decide +kernel
theorem dX1_isOf_16 : decode cX1_isOf 16 = .ok (.iaload, 1) := by decide +kernel
theorem dX1_isOf_17 : decode cX1_isOf 17 = .ok (.if_icmp .ne 20, 3) := by decide +kernel
theorem dX1_isOf_20 : decode cX1_isOf 20 = .ok (.aload_n 0, 1) := by decide +kernel
theorem dX1_isOf_21 : decode cX1_isOf 21 = .ok (.getfield 23, 3) := by decide +kernel
theorem dX1_isOf_24 : decode cX1_isOf 24 = .ok (.aload_n 1, 1) := by decide +kernel
theorem dX1_isOf_25 : decode cX1_isOf 25 = .ok (.getfield 38, 3) := by decide +kernel
theorem dX1_isOf_28 : decode cX1_isOf 28 = .ok (.iconst 5, 1) := by decide +kernel
theorem dX1_isOf_29 : decode cX1_isOf 29 = .ok (.iaload, 1) := by decide +kernel
theorem dX1_isOf_30 : decode cX1_isOf 30 = .ok (.if_icmp .ne 7, 3) := by decide +kernel
theorem dX1_isOf_33 : decode cX1_isOf 33 = .ok (.iconst 1, 1) := by decide +kernel
theorem dX1_isOf_34 : decode cX1_isOf 34 = .ok (.goto 4, 3) := by decide +kernel
theorem dX1_isOf_37 : decode cX1_isOf 37 = .ok (.iconst 0, 1) := by decide +kernel
theorem dX1_isOf_38 : decode cX1_isOf 38 = .ok (.ireturn, 1) := by decide +kernel
theorem dX1_clashesWith_0 : decode cX1_clashesWith 0 = .ok (.aload_n 1, 1) := by decide +kernel
theorem dX1_clashesWith_1 : decode cX1_clashesWith 1 = .ok (.invokevirtual 41, 3) := by decide +kernel
theorem dX1_clashesWith_4 : decode cX1_clashesWith 4 = .ok (.istore_n 2, 1) := by decide +kernel
theorem dX1_clashesWith_5 : decode cX1_clashesWith 5 = .ok (.aload_n 0, 1) := by decide +kernel
theorem dX1_clashesWith_6 : decode cX1_clashesWith 6 = .ok (.getfield 29, 3) := by decide +kernel
theorem dX1_clashesWith_9 : decode cX1_clashesWith 9 = .ok (.aload_n 1, 1) := by decide +kernel
theorem dX1_clashesWith_10 : decode cX1_clashesWith 10 = .ok (.invokevirtual 45, 3) := by decide +kernel
theorem dX1_clashesWith_13 : decode cX1_clashesWith 13 = .ok (.iand, 1) := by decide +kernel
theorem dX1_clashesWith_14 : decode cX1_clashesWith 14 = .ok (.if_ .eq 5, 3) := by decide +kernel
theorem dX1_clashesWith_17 : decode cX1_clashesWith 17 = .ok (.iconst 1, 1) := by decide +kernel
theorem dX1_clashesWith_18 : decode cX1_clashesWith 18 = .ok (.ireturn, 1) := by decide +kernel
theorem dX1_clashesWith_19 : decode cX1_clashesWith 19 = .ok (.aload_n 0, 1) := by decide +kernel
theorem dX1_clashesWith_20 : decode cX1_clashesWith 20 = .ok (.getfield 32, 3) := by decide +kernel
theorem dX1_clashesWith_23 : decode cX1_clashesWith 23 = .ok (.if_ .lt 28, 3) := by decide +kernel
theorem dX1_clashesWith_26 : decode cX1_clashesWith 26 = .ok (.iload_n 2, 1) := by decide +kernel
theorem dX1_clashesWith_27 : decode cX1_clashesWith 27 = .ok (.aload_n 0, 1) := by decide +kernel
theorem dX1_clashesWith_28 : decode cX1_clashesWith 28 = .ok (.getfield 32, 3) := by decide +kernel
theorem dX1_clashesWith_31 : decode cX1_clashesWith 31 = .ok (.if_icmp .gt 18, 3) := by decide +kernel
theorem dX1_clashesWith_34 : decode cX1_clashesWith 34 = .ok (.aload_n 1, 1) := by decide +kernel
theorem dX1_clashesWith_35 : decode cX1_clashesWith 35 = .ok (.invokevirtual 47, 3) := by decide +kernel
theorem dX1_clashesWith_38 : decode cX1_clashesWith 38 = .ok (.if_ .eq 13, 3) := by decide +kernel
theorem dX1_clashesWith_41 : decode cX1_clashesWith 41 = .ok (.iload_n 2, 1) := by decide +kernel
theorem dX1_clashesWith_42 : decode cX1_clashesWith 42 = .ok (.aload_n 0, 1) := by decide +kernel
theorem dX1_clashesWith_43 : decode cX1_clashesWith 43 = .ok (.getfield 32, 3) := by decide +kernel
theorem dX1_clashesWith_46 : decode cX1_clashesWith 46 = .ok (.if_icmp .eq 5, 3) := by decide +kernel
theorem dX1_clashesWith_49 : decode cX1_clashesWith 49 = .ok (.iconst 1, 1) := by decide +kernel
theorem dX1_clashesWith_50 : decode cX1_clashesWith 50 = .ok (.ireturn, 1) := by decide +kernel
theorem dX1_clashesWith_51 : decode cX1_clashesWith 51 = .ok (.aload_n 1, 1) := by decide +kernel
theorem dX1_clashesWith_52 : decode cX1_clashesWith 52 = .ok (.invokevirtual 47, 3) := by decide +kernel
theorem dX1_clashesWith_55 : decode cX1_clashesWith 55 = .ok (.if_ .eq 18, 3) := by decide +kernel
theorem dX1_clashesWith_58 : decode cX1_clashesWith 58 = .ok (.aload_n 0, 1) := by decide +kernel
theorem dX1_clashesWith_59 : decode cX1_clashesWith 59 = .ok (.getfield 29, 3) := by decide +kernel
theorem dX1_clashesWith_62 : decode cX1_clashesWith 62 = .ok (.iload_n 2, 1) := by decide +kernel
theorem dX1_clashesWith_63 : decode cX1_clashesWith 63 = .ok (.iconst 4, 1) := by decide +kernel
theorem dX1_clashesWith_64 : decode cX1_clashesWith 64 = .ok (.idiv, 1) := by decide +kernel
theorem dX1_clashesWith_65 : decode cX1_clashesWith 65 = .ok (.ishr, 1) := by decide +kernel
theorem dX1_clashesWith_66 : decode cX1_clashesWith 66 = .ok (.if_ .eq 7, 3) := by decide +kernel
theorem dX1_clashesWith_69 : decode cX1_clashesWith 69 = .ok (.iconst 1, 1) := by decide +kernel
theorem dX1_clashesWith_70 : decode cX1_clashesWith 70 = .ok (.goto 4, 3) := by decide +kernel
theorem dX1_clashesWith_73 : decode cX1_clashesWith 73 = .ok (.iconst 0, 1) := by decide +kernel
theorem dX1_clashesWith_74 : decode cX1_clashesWith 74 = .ok (.ireturn, 1) := by decide +kernel
theorem dX1_put_0 : decode cX1_put 0 = .ok (.iconst 4, 1) := by decide +kernel
theorem dX1_put_1 : decode cX1_put 1 = .ok (.aload_n 1, 1) := by decide +kernel
theorem dX1_put_2 : decode cX1_put 2 = .ok (.invokevirtual 51, 3) := by decide +kernel
theorem dX1_put_5 : decode cX1_put 5 = .ok (.imul, 1) := by decide +kernel
theorem dX1_put_6 : decode cX1_put 6 = .ok (.istore_n 2, 1) := by decide +kernel
theorem dX1_put_7 : decode cX1_put 7 = .ok (.iconst 0, 1) := by decide +kernel
theorem dX1_put_8 : decode cX1_put 8 = .ok (.istore_n 3, 1) := by decide +kernel
theorem dX1_put_9 : decode cX1_put 9 = .ok (.iload_n 3, 1) := by decide +kernel
theorem dX1_put_10 : decode cX1_put 10 = .ok (.aload_n 1, 1) := by decide +kernel
theorem dX1_put_11 : decode cX1_put 11 = .ok (.invokevirtual 54, 3) := by decide +kernel
theorem dX1_put_14 : decode cX1_put 14 = .ok (.if_icmp .ge 26, 3) := by decide +kernel
theorem dX1_put_17 : decode cX1_put 17 = .ok (.aload_n 0, 1) := by decide +kernel
theorem dX1_put_18 : decode cX1_put 18 = .ok (.getfield 9, 3) := by decide +kernel
theorem dX1_put_21 : decode cX1_put 21 = .ok (.iload_n 2, 1) := by decide +kernel
theorem dX1_put_22 : decode cX1_put 22 = .ok (.iload_n 3, 1) := by decide +kernel
theorem dX1_put_23 : decode cX1_put 23 = .ok (.iadd, 1) := by decide +kernel
theorem dX1_put_24 : decode cX1_put 24 = .ok (.aload_n 1, 1) := by decide +kernel
theorem dX1_put_25 : decode cX1_put 25 = .ok (.getfield 38, 3) := by decide +kernel
theorem dX1_put_28 : decode cX1_put 28 = .ok (.bipush 9, 2) := by decide +kernel
theorem dX1_put_30 : decode cX1_put 30 = .ok (.iload_n 3, 1) := by decide +kernel
theorem dX1_put_31 : decode cX1_put 31 = .ok (.iadd, 1) := by decide +kernel
theorem dX1_put_32 : decode cX1_put 32 = .ok (.iaload, 1) := by decide +kernel
theorem dX1_put_33 : decode cX1_put 33 = .ok (.iastore, 1) := by decide +kernel
theorem dX1_put_34 : decode cX1_put 34 = .ok (.iinc 3 1, 3) := by decide +kernel
theorem dX1_put_37 : decode cX1_put 37 = .ok (.goto (-28), 3) := by decide +kernel
theorem dX1_put_40 : decode cX1_put 40 = .ok (.aload_n 0, 1) := by decide +kernel
theorem dX1_put_41 : decode cX1_put 41 = .ok (.dup, 1) := by decide +kernel
theorem dX1_put_42 : decode cX1_put 42 = .ok (.getfield 29, 3) := by decide +kernel
theorem dX1_put_45 : decode cX1_put 45 = .ok (.aload_n 1, 1) := by decide +kernel
theorem dX1_put_46 : decode cX1_put 46 = .ok (.invokevirtual 45, 3) := by decide +kernel
theorem dX1_put_49 : decode cX1_put 49 = .ok (.ior, 1) := by decide +kernel
theorem dX1_put_50 : decode cX1_put 50 = .ok (.putfield 29, 3) := by decide +kernel
theorem dX1_put_53 : decode cX1_put 53 = .ok (.aload_n 1, 1) := by decide +kernel
theorem dX1_put_54 : decode cX1_put 54 = .ok (.invokevirtual 51, 3) := by decide +kernel
theorem dX1_put_57 : decode cX1_put 57 = .ok (.if_ .ne 14, 3) := by decide +kernel
theorem dX1_put_60 : decode cX1_put 60 = .ok (.aload_n 0, 1) := by decide +kernel
theorem dX1_put_61 : decode cX1_put 61 = .ok (.aload_n 1, 1) := by decide +kernel
theorem dX1_put_62 : decode cX1_put 62 = .ok (.getfield 38, 3) := by decide +kernel
theorem dX1_put_65 : decode cX1_put 65 = .ok (.bipush 7, 2) := by decide +kernel
theorem dX1_put_67 : decode cX1_put 67 = .ok (.iaload, 1) := by decide +kernel
theorem dX1_put_68 : decode cX1_put 68 = .ok (.putfield 26, 3) := by decide +kernel
theorem dX1_put_71 : decode cX1_put 71 = .ok (.aload_n 1, 1) := by decide +kernel
theorem dX1_put_72 : decode cX1_put 72 = .ok (.invokevirtual 47, 3) := by decide +kernel
theorem dX1_put_75 : decode cX1_put 75 = .ok (.if_ .eq 11, 3) := by decide +kernel
theorem dX1_put_78 : decode cX1_put 78 = .ok (.aload_n 0, 1) := by decide +kernel
theorem dX1_put_79 : decode cX1_put 79 = .ok (.aload_n 1, 1) := by decide +kernel
theorem dX1_put_80 : decode cX1_put 80 = .ok (.invokevirtual 41, 3) := by decide +kernel
theorem dX1_put_83 : decode cX1_put 83 = .ok (.putfield 32, 3) := by decide +kernel
theorem dX1_put_86 : decode cX1_put 86 = .ok (.return_, 1) := by decide +kernel
theorem dX1_isComplete_0 : decode cX1_isComplete 0 = .ok (.aload_n 0, 1) := by decide +kernel
theorem dX1_isComplete_1 : decode cX1_isComplete 1 = .ok (.getfield 32, 3) := by decide +kernel
theorem dX1_isComplete_4 : decode cX1_isComplete 4 = .ok (.if_ .lt 21, 3) := by decide +kernel
theorem dX1_isComplete_7 : decode cX1_isComplete 7 = .ok (.aload_n 0, 1) := by decide +kernel
theorem dX1_isComplete_8 : decode cX1_isComplete 8 = .ok (.getfield 29, 3) := by decide +kernel
theorem dX1_isComplete_11 : decode cX1_isComplete 11 = .ok (.aload_n 0, 1) := by decide +kernel
theorem dX1_isComplete_12 : decode cX1_isComplete 12 = .ok (.getfield 32, 3) := by decide +kernel
theorem dX1_isComplete_15 : decode cX1_isComplete 15 = .ok (.invokestatic 57, 3) := by decide +kernel
theorem dX1_isComplete_18 : decode cX1_isComplete 18 = .ok (.if_icmp .ne 7, 3) := by decide +kernel
theorem dX1_isComplete_21 : decode cX1_isComplete 21 = .ok (.iconst 1, 1) := by decide +kernel
theorem dX1_isComplete_22 : decode cX1_isComplete 22 = .ok (.goto 4, 3) := by decide +kernel
theorem dX1_isComplete_25 : decode cX1_isComplete 25 = .ok (.iconst 0, 1) := by decide +kernel
theorem dX1_isComplete_26 : decode cX1_isComplete 26 = .ok (.ireturn, 1) := by decide +kernel
theorem dX1_tell_0 : decode cX1_tell 0 = .ok (.iload_n 1, 1) := by decide +kernel
theorem dX1_tell_1 : decode cX1_tell 1 = .ok (.tableswitch 84 0 5 #[39, 44, 52, 60, 68, 76], 39) := by decide +kernel
theorem dX1_tell_40 : decode cX1_tell 40 = .ok (.iconst 1, 1) := by decide +kernel
theorem dX1_tell_41 : decode cX1_tell 41 = .ok (.istore_n 2, 1) := by decide +kernel
theorem dX1_tell_42 : decode cX1_tell 42 = .ok (.goto 45, 3) := by decide +kernel
theorem dX1_tell_45 : decode cX1_tell 45 = .ok (.aload_n 0, 1) := by decide +kernel
theorem dX1_tell_46 : decode cX1_tell 46 = .ok (.getfield 19, 3) := by decide +kernel
theorem dX1_tell_49 : decode cX1_tell 49 = .ok (.istore_n 2, 1) := by decide +kernel
theorem dX1_tell_50 : decode cX1_tell 50 = .ok (.goto 37, 3) := by decide +kernel
theorem dX1_tell_53 : decode cX1_tell 53 = .ok (.aload_n 0, 1) := by decide +kernel
theorem dX1_tell_54 : decode cX1_tell 54 = .ok (.getfield 23, 3) := by decide +kernel
theorem dX1_tell_57 : decode cX1_tell 57 = .ok (.istore_n 2, 1) := by decide +kernel
theorem dX1_tell_58 : decode cX1_tell 58 = .ok (.goto 29, 3) := by decide +kernel
theorem dX1_tell_61 : decode cX1_tell 61 = .ok (.aload_n 0, 1) := by decide +kernel
theorem dX1_tell_62 : decode cX1_tell 62 = .ok (.getfield 29, 3) := by decide +kernel
theorem dX1_tell_65 : decode cX1_tell 65 = .ok (.istore_n 2, 1) := by decide +kernel
theorem dX1_tell_66 : decode cX1_tell 66 = .ok (.goto 21, 3) := by decide +kernel
theorem dX1_tell_69 : decode cX1_tell 69 = .ok (.aload_n 0, 1) := by decide +kernel
theorem dX1_tell_70 : decode cX1_tell 70 = .ok (.getfield 32, 3) := by decide +kernel
theorem dX1_tell_73 : decode cX1_tell 73 = .ok (.istore_n 2, 1) := by decide +kernel
theorem dX1_tell_74 : decode cX1_tell 74 = .ok (.goto 13, 3) := by decide +kernel
theorem dX1_tell_77 : decode cX1_tell 77 = .ok (.aload_n 0, 1) := by decide +kernel
theorem dX1_tell_78 : decode cX1_tell 78 = .ok (.getfield 35, 3) := by decide +kernel
theorem dX1_tell_81 : decode cX1_tell 81 = .ok (.istore_n 2, 1) := by decide +kernel
theorem dX1_tell_82 : decode cX1_tell 82 = .ok (.goto 5, 3) := by decide +kernel
theorem dX1_tell_85 : decode cX1_tell 85 = .ok (.iconst (-1), 1) := by decide +kernel
theorem dX1_tell_86 : decode cX1_tell 86 = .ok (.ireturn, 1) := by decide +kernel
theorem dX1_tell_87 : decode cX1_tell 87 = .ok (.aload_n 0, 1) := by decide +kernel
theorem dX1_tell_88 : decode cX1_tell 88 = .ok (.getfield 15, 3) := by decide +kernel
theorem dX1_tell_91 : decode cX1_tell 91 = .ok (.if_ .eq 7, 3) := by decide +kernel
theorem dX1_tell_94 : decode cX1_tell 94 = .ok (.iload_n 2, 1) := by decide +kernel
theorem dX1_tell_95 : decode cX1_tell 95 = .ok (.goto 4, 3) := by decide +kernel
theorem dX1_tell_98 : decode cX1_tell 98 = .ok (.iconst 0, 1) := by decide +kernel
theorem dX1_tell_99 : decode cX1_tell 99 = .ok (.ireturn, 1) := by decide +kernel
