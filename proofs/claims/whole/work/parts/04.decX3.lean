theorem dX3_init_0 : decode cX3_init 0 = .ok (.aload_n 0, 1) := by decide +kernel
theorem dX3_init_1 : decode cX3_init 1 = .ok (.invokespecial 3, 3) := by decide +kernel
theorem dX3_init_4 : decode cX3_init 4 = .ok (.aload_n 0, 1) := by decide +kernel
theorem dX3_init_5 : decode cX3_init 5 = .ok (.iconst 2, 1) := by decide +kernel
theorem dX3_init_6 : decode cX3_init 6 = .ok (.anewarray 9, 3) := by decide +kernel
theorem dX3_init_9 : decode cX3_init 9 = .ok (.putfield 11, 3) := by decide +kernel
theorem dX3_init_12 : decode cX3_init 12 = .ok (.iconst 0, 1) := by decide +kernel
theorem dX3_init_13 : decode cX3_init 13 = .ok (.istore_n 1, 1) := by decide +kernel
theorem dX3_init_14 : decode cX3_init 14 = .ok (.iload_n 1, 1) := by decide +kernel
theorem dX3_init_15 : decode cX3_init 15 = .ok (.iconst 2, 1) := by decide +kernel
theorem dX3_init_16 : decode cX3_init 16 = .ok (.if_icmp .ge 22, 3) := by decide +kernel
theorem dX3_init_19 : decode cX3_init 19 = .ok (.aload_n 0, 1) := by decide +kernel
theorem dX3_init_20 : decode cX3_init 20 = .ok (.getfield 11, 3) := by decide +kernel
theorem dX3_init_23 : decode cX3_init 23 = .ok (.iload_n 1, 1) := by decide +kernel
theorem dX3_init_24 : decode cX3_init 24 = .ok (.new 9, 3) := by decide +kernel
theorem dX3_init_27 : decode cX3_init 27 = .ok (.dup, 1) := by decide +kernel
theorem dX3_init_28 : decode cX3_init 28 = .ok (.invokespecial 17, 3) := by decide +kernel
theorem dX3_init_31 : decode cX3_init 31 = .ok (.aastore, 1) := by decide +kernel
theorem dX3_init_32 : decode cX3_init 32 = .ok (.iinc 1 1, 3) := by decide +kernel
theorem dX3_init_35 : decode cX3_init 35 = .ok (.goto (-21), 3) := by decide +kernel
theorem dX3_init_38 : decode cX3_init 38 = .ok (.return_, 1) := by decide +kernel
theorem dX3_completes_0 : decode cX3_completes 0 = .ok (.aload_n 1, 1) := by decide +kernel
theorem dX3_completes_1 : decode cX3_completes 1 = .ok (.invokevirtual 18, 3) := by decide +kernel
theorem dX3_completes_4 : decode cX3_completes 4 = .ok (.if_ .eq 32, 3) := by decide +kernel
theorem dX3_completes_7 : decode cX3_completes 7 = .ok (.aload_n 2, 1) := by decide +kernel
theorem dX3_completes_8 : decode cX3_completes 8 = .ok (.aload_n 1, 1) := by decide +kernel
theorem dX3_completes_9 : decode cX3_completes 9 = .ok (.getfield 24, 3) := by decide +kernel
theorem dX3_completes_12 : decode cX3_completes 12 = .ok (.iconst 3, 1) := by decide +kernel
theorem dX3_completes_13 : decode cX3_completes 13 = .ok (.iaload, 1) := by decide +kernel
theorem dX3_completes_14 : decode cX3_completes 14 = .ok (.aload_n 1, 1) := by decide +kernel
theorem dX3_completes_15 : decode cX3_completes 15 = .ok (.getfield 24, 3) := by decide +kernel
theorem dX3_completes_18 : decode cX3_completes 18 = .ok (.bipush 7, 2) := by decide +kernel
theorem dX3_completes_20 : decode cX3_completes 20 = .ok (.iaload, 1) := by decide +kernel
theorem dX3_completes_21 : decode cX3_completes 21 = .ok (.aload_n 1, 1) := by decide +kernel
theorem dX3_completes_22 : decode cX3_completes 22 = .ok (.getfield 24, 3) := by decide +kernel
theorem dX3_completes_25 : decode cX3_completes 25 = .ok (.bipush 9, 2) := by decide +kernel
theorem dX3_completes_27 : decode cX3_completes 27 = .ok (.aload_n 1, 1) := by decide +kernel
theorem dX3_completes_28 : decode cX3_completes 28 = .ok (.invokevirtual 28, 3) := by decide +kernel
theorem dX3_completes_31 : decode cX3_completes 31 = .ok (.invokevirtual 32, 3) := by decide +kernel
theorem dX3_completes_34 : decode cX3_completes 34 = .ok (.iconst 1, 1) := by decide +kernel
theorem dX3_completes_35 : decode cX3_completes 35 = .ok (.ireturn, 1) := by decide +kernel
theorem dX3_completes_36 : decode cX3_completes 36 = .ok (.aload_n 0, 1) := by decide +kernel
theorem dX3_completes_37 : decode cX3_completes 37 = .ok (.getfield 11, 3) := by decide +kernel
theorem dX3_completes_40 : decode cX3_completes 40 = .ok (.aload_n 0, 1) := by decide +kernel
theorem dX3_completes_41 : decode cX3_completes 41 = .ok (.aload_n 1, 1) := by decide +kernel
theorem dX3_completes_42 : decode cX3_completes 42 = .ok (.invokevirtual 38, 3) := by decide +kernel
theorem dX3_completes_45 : decode cX3_completes 45 = .ok (.aaload, 1) := by decide +kernel
theorem dX3_completes_46 : decode cX3_completes 46 = .ok (.astore_n 3, 1) := by decide +kernel
theorem dX3_completes_47 : decode cX3_completes 47 = .ok (.aload_n 3, 1) := by decide +kernel
theorem dX3_completes_48 : decode cX3_completes 48 = .ok (.aload_n 1, 1) := by decide +kernel
theorem dX3_completes_49 : decode cX3_completes 49 = .ok (.invokevirtual 42, 3) := by decide +kernel
theorem dX3_completes_52 : decode cX3_completes 52 = .ok (.if_ .eq 10, 3) := by decide +kernel
theorem dX3_completes_55 : decode cX3_completes 55 = .ok (.aload_n 3, 1) := by decide +kernel
theorem dX3_completes_56 : decode cX3_completes 56 = .ok (.iconst 0, 1) := by decide +kernel
theorem dX3_completes_57 : decode cX3_completes 57 = .ok (.putfield 46, 3) := by decide +kernel
theorem dX3_completes_60 : decode cX3_completes 60 = .ok (.iconst 0, 1) := by decide +kernel
theorem dX3_completes_61 : decode cX3_completes 61 = .ok (.ireturn, 1) := by decide +kernel
theorem dX3_completes_62 : decode cX3_completes 62 = .ok (.aload_n 3, 1) := by decide +kernel
theorem dX3_completes_63 : decode cX3_completes 63 = .ok (.aload_n 1, 1) := by decide +kernel
theorem dX3_completes_64 : decode cX3_completes 64 = .ok (.invokevirtual 50, 3) := by decide +kernel
theorem dX3_completes_67 : decode cX3_completes 67 = .ok (.aload_n 3, 1) := by decide +kernel
theorem dX3_completes_68 : decode cX3_completes 68 = .ok (.invokevirtual 54, 3) := by decide +kernel
theorem dX3_completes_71 : decode cX3_completes 71 = .ok (.if_ .ne 5, 3) := by decide +kernel
theorem dX3_completes_74 : decode cX3_completes 74 = .ok (.iconst 0, 1) := by decide +kernel
theorem dX3_completes_75 : decode cX3_completes 75 = .ok (.ireturn, 1) := by decide +kernel
theorem dX3_completes_76 : decode cX3_completes 76 = .ok (.aload_n 3, 1) := by decide +kernel
theorem dX3_completes_77 : decode cX3_completes 77 = .ok (.iconst 0, 1) := by decide +kernel
theorem dX3_completes_78 : decode cX3_completes 78 = .ok (.putfield 46, 3) := by decide +kernel
theorem dX3_completes_81 : decode cX3_completes 81 = .ok (.aload_n 2, 1) := by decide +kernel
theorem dX3_completes_82 : decode cX3_completes 82 = .ok (.aload_n 3, 1) := by decide +kernel
theorem dX3_completes_83 : decode cX3_completes 83 = .ok (.getfield 57, 3) := by decide +kernel
theorem dX3_completes_86 : decode cX3_completes 86 = .ok (.aload_n 3, 1) := by decide +kernel
theorem dX3_completes_87 : decode cX3_completes 87 = .ok (.getfield 61, 3) := by decide +kernel
theorem dX3_completes_90 : decode cX3_completes 90 = .ok (.aload_n 3, 1) := by decide +kernel
theorem dX3_completes_91 : decode cX3_completes 91 = .ok (.getfield 64, 3) := by decide +kernel
theorem dX3_completes_94 : decode cX3_completes 94 = .ok (.iconst 0, 1) := by decide +kernel
theorem dX3_completes_95 : decode cX3_completes 95 = .ok (.aload_n 3, 1) := by decide +kernel
theorem dX3_completes_96 : decode cX3_completes 96 = .ok (.getfield 65, 3) := by decide +kernel
theorem dX3_completes_99 : decode cX3_completes 99 = .ok (.invokevirtual 32, 3) := by decide +kernel
theorem dX3_completes_102 : decode cX3_completes 102 = .ok (.iconst 1, 1) := by decide +kernel
theorem dX3_completes_103 : decode cX3_completes 103 = .ok (.ireturn, 1) := by decide +kernel
theorem dX3_placeFor_0 : decode cX3_placeFor 0 = .ok (.iconst 0, 1) := by decide +kernel
theorem dX3_placeFor_1 : decode cX3_placeFor 1 = .ok (.istore_n 2, 1) := by decide +kernel
theorem dX3_placeFor_2 : decode cX3_placeFor 2 = .ok (.iload_n 2, 1) := by decide +kernel
theorem dX3_placeFor_3 : decode cX3_placeFor 3 = .ok (.iconst 2, 1) := by decide +kernel
theorem dX3_placeFor_4 : decode cX3_placeFor 4 = .ok (.if_icmp .ge 24, 3) := by decide +kernel
theorem dX3_placeFor_7 : decode cX3_placeFor 7 = .ok (.aload_n 0, 1) := by decide +kernel
theorem dX3_placeFor_8 : decode cX3_placeFor 8 = .ok (.getfield 11, 3) := by decide +kernel
theorem dX3_placeFor_11 : decode cX3_placeFor 11 = .ok (.iload_n 2, 1) := by decide +kernel
theorem dX3_placeFor_12 : decode cX3_placeFor 12 = .ok (.aaload, 1) := by decide +kernel
theorem dX3_placeFor_13 : decode cX3_placeFor 13 = .ok (.aload_n 1, 1) := by decide +kernel
theorem dX3_placeFor_14 : decode cX3_placeFor 14 = .ok (.invokevirtual 68, 3) := by decide +kernel
theorem dX3_placeFor_17 : decode cX3_placeFor 17 = .ok (.if_ .eq 5, 3) := by decide +kernel
theorem dX3_placeFor_20 : decode cX3_placeFor 20 = .ok (.iload_n 2, 1) := by decide +kernel
theorem dX3_placeFor_21 : decode cX3_placeFor 21 = .ok (.ireturn, 1) := by decide +kernel
theorem dX3_placeFor_22 : decode cX3_placeFor 22 = .ok (.iinc 2 1, 3) := by decide +kernel
theorem dX3_placeFor_25 : decode cX3_placeFor 25 = .ok (.goto (-23), 3) := by decide +kernel
theorem dX3_placeFor_28 : decode cX3_placeFor 28 = .ok (.iconst 1, 1) := by decide +kernel
theorem dX3_placeFor_29 : decode cX3_placeFor 29 = .ok (.aload_n 0, 1) := by decide +kernel
theorem dX3_placeFor_30 : decode cX3_placeFor 30 = .ok (.getfield 71, 3) := by decide +kernel
theorem dX3_placeFor_33 : decode cX3_placeFor 33 = .ok (.isub, 1) := by decide +kernel
theorem dX3_placeFor_34 : decode cX3_placeFor 34 = .ok (.istore_n 2, 1) := by decide +kernel
theorem dX3_placeFor_35 : decode cX3_placeFor 35 = .ok (.iconst 1, 1) := by decide +kernel
theorem dX3_placeFor_36 : decode cX3_placeFor 36 = .ok (.istore_n 3, 1) := by decide +kernel
theorem dX3_placeFor_37 : decode cX3_placeFor 37 = .ok (.iload_n 3, 1) := by decide +kernel
theorem dX3_placeFor_38 : decode cX3_placeFor 38 = .ok (.if_ .lt 23, 3) := by decide +kernel
theorem dX3_placeFor_41 : decode cX3_placeFor 41 = .ok (.aload_n 0, 1) := by decide +kernel
theorem dX3_placeFor_42 : decode cX3_placeFor 42 = .ok (.getfield 11, 3) := by decide +kernel
theorem dX3_placeFor_45 : decode cX3_placeFor 45 = .ok (.iload_n 3, 1) := by decide +kernel
theorem dX3_placeFor_46 : decode cX3_placeFor 46 = .ok (.aaload, 1) := by decide +kernel
theorem dX3_placeFor_47 : decode cX3_placeFor 47 = .ok (.getfield 46, 3) := by decide +kernel
theorem dX3_placeFor_50 : decode cX3_placeFor 50 = .ok (.if_ .ne 5, 3) := by decide +kernel
theorem dX3_placeFor_53 : decode cX3_placeFor 53 = .ok (.iload_n 3, 1) := by decide +kernel
theorem dX3_placeFor_54 : decode cX3_placeFor 54 = .ok (.istore_n 2, 1) := by decide +kernel
theorem dX3_placeFor_55 : decode cX3_placeFor 55 = .ok (.iinc 3 (-1), 3) := by decide +kernel
theorem dX3_placeFor_58 : decode cX3_placeFor 58 = .ok (.goto (-21), 3) := by decide +kernel
theorem dX3_placeFor_61 : decode cX3_placeFor 61 = .ok (.aload_n 0, 1) := by decide +kernel
theorem dX3_placeFor_62 : decode cX3_placeFor 62 = .ok (.getfield 11, 3) := by decide +kernel
theorem dX3_placeFor_65 : decode cX3_placeFor 65 = .ok (.iload_n 2, 1) := by decide +kernel
theorem dX3_placeFor_66 : decode cX3_placeFor 66 = .ok (.aaload, 1) := by decide +kernel
theorem dX3_placeFor_67 : decode cX3_placeFor 67 = .ok (.aload_n 1, 1) := by decide +kernel
theorem dX3_placeFor_68 : decode cX3_placeFor 68 = .ok (.getfield 24, 3) := by decide +kernel
theorem dX3_placeFor_71 : decode cX3_placeFor 71 = .ok (.iconst 3, 1) := by decide +kernel
theorem dX3_placeFor_72 : decode cX3_placeFor 72 = .ok (.iaload, 1) := by decide +kernel
theorem dX3_placeFor_73 : decode cX3_placeFor 73 = .ok (.aload_n 1, 1) := by decide +kernel
theorem dX3_placeFor_74 : decode cX3_placeFor 74 = .ok (.getfield 24, 3) := by decide +kernel
theorem dX3_placeFor_77 : decode cX3_placeFor 77 = .ok (.iconst 5, 1) := by decide +kernel
theorem dX3_placeFor_78 : decode cX3_placeFor 78 = .ok (.iaload, 1) := by decide +kernel
theorem dX3_placeFor_79 : decode cX3_placeFor 79 = .ok (.invokevirtual 74, 3) := by decide +kernel
theorem dX3_placeFor_82 : decode cX3_placeFor 82 = .ok (.aload_n 0, 1) := by decide +kernel
theorem dX3_placeFor_83 : decode cX3_placeFor 83 = .ok (.iload_n 2, 1) := by decide +kernel
theorem dX3_placeFor_84 : decode cX3_placeFor 84 = .ok (.putfield 71, 3) := by decide +kernel
theorem dX3_placeFor_87 : decode cX3_placeFor 87 = .ok (.iload_n 2, 1) := by decide +kernel
theorem dX3_placeFor_88 : decode cX3_placeFor 88 = .ok (.ireturn, 1) := by decide +kernel
theorem dX3_grow_0 : decode cX3_grow 0 = .ok (.iconst 0, 1) := by decide +kernel
theorem dX3_grow_1 : decode cX3_grow 1 = .ok (.istore_n 1, 1) := by decide +kernel
theorem dX3_grow_2 : decode cX3_grow 2 = .ok (.iload_n 1, 1) := by decide +kernel
theorem dX3_grow_3 : decode cX3_grow 3 = .ok (.iconst 2, 1) := by decide +kernel
theorem dX3_grow_4 : decode cX3_grow 4 = .ok (.if_icmp .ge 40, 3) := by decide +kernel
theorem dX3_grow_7 : decode cX3_grow 7 = .ok (.aload_n 0, 1) := by decide +kernel
theorem dX3_grow_8 : decode cX3_grow 8 = .ok (.getfield 11, 3) := by decide +kernel
theorem dX3_grow_11 : decode cX3_grow 11 = .ok (.iload_n 1, 1) := by decide +kernel
theorem dX3_grow_12 : decode cX3_grow 12 = .ok (.aaload, 1) := by decide +kernel
theorem dX3_grow_13 : decode cX3_grow 13 = .ok (.astore_n 2, 1) := by decide +kernel
theorem dX3_grow_14 : decode cX3_grow 14 = .ok (.aload_n 2, 1) := by decide +kernel
theorem dX3_grow_15 : decode cX3_grow 15 = .ok (.dup, 1) := by decide +kernel
theorem dX3_grow_16 : decode cX3_grow 16 = .ok (.getfield 78, 3) := by decide +kernel
theorem dX3_grow_19 : decode cX3_grow 19 = .ok (.iconst 1, 1) := by decide +kernel
theorem dX3_grow_20 : decode cX3_grow 20 = .ok (.iadd, 1) := by decide +kernel
theorem dX3_grow_21 : decode cX3_grow 21 = .ok (.putfield 78, 3) := by decide +kernel
theorem dX3_grow_24 : decode cX3_grow 24 = .ok (.aload_n 2, 1) := by decide +kernel
theorem dX3_grow_25 : decode cX3_grow 25 = .ok (.getfield 78, 3) := by decide +kernel
theorem dX3_grow_28 : decode cX3_grow 28 = .ok (.bipush 15, 2) := by decide +kernel
theorem dX3_grow_30 : decode cX3_grow 30 = .ok (.if_icmp .lt 8, 3) := by decide +kernel
theorem dX3_grow_33 : decode cX3_grow 33 = .ok (.aload_n 2, 1) := by decide +kernel
theorem dX3_grow_34 : decode cX3_grow 34 = .ok (.iconst 0, 1) := by decide +kernel
theorem dX3_grow_35 : decode cX3_grow 35 = .ok (.putfield 46, 3) := by decide +kernel
theorem dX3_grow_38 : decode cX3_grow 38 = .ok (.iinc 1 1, 3) := by decide +kernel
theorem dX3_grow_41 : decode cX3_grow 41 = .ok (.goto (-39), 3) := by decide +kernel
theorem dX3_grow_44 : decode cX3_grow 44 = .ok (.return_, 1) := by decide +kernel
