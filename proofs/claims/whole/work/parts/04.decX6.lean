theorem dX6_init_0 : decode cX6_init 0 = .ok (.aload_n 0, 1) := by decide +kernel
theorem dX6_init_1 : decode cX6_init 1 = .ok (.invokespecial 3, 3) := by decide +kernel
theorem dX6_init_4 : decode cX6_init 4 = .ok (.aload_n 0, 1) := by decide +kernel
theorem dX6_init_5 : decode cX6_init 5 = .ok (.iconst 3, 1) := by decide +kernel
theorem dX6_init_6 : decode cX6_init 6 = .ok (.anewarray 9, 3) := by decide +kernel
theorem dX6_init_9 : decode cX6_init 9 = .ok (.putfield 11, 3) := by decide +kernel
theorem dX6_init_12 : decode cX6_init 12 = .ok (.aload_n 0, 1) := by decide +kernel
theorem dX6_init_13 : decode cX6_init 13 = .ok (.new 17, 3) := by decide +kernel
theorem dX6_init_16 : decode cX6_init 16 = .ok (.dup, 1) := by decide +kernel
theorem dX6_init_17 : decode cX6_init 17 = .ok (.invokespecial 19, 3) := by decide +kernel
theorem dX6_init_20 : decode cX6_init 20 = .ok (.putfield 20, 3) := by decide +kernel
theorem dX6_init_23 : decode cX6_init 23 = .ok (.aload_n 0, 1) := by decide +kernel
theorem dX6_init_24 : decode cX6_init 24 = .ok (.new 24, 3) := by decide +kernel
theorem dX6_init_27 : decode cX6_init 27 = .ok (.dup, 1) := by decide +kernel
theorem dX6_init_28 : decode cX6_init 28 = .ok (.invokespecial 26, 3) := by decide +kernel
theorem dX6_init_31 : decode cX6_init 31 = .ok (.putfield 27, 3) := by decide +kernel
theorem dX6_init_34 : decode cX6_init 34 = .ok (.aload_n 0, 1) := by decide +kernel
theorem dX6_init_35 : decode cX6_init 35 = .ok (.bipush 13, 2) := by decide +kernel
theorem dX6_init_37 : decode cX6_init 37 = .ok (.newarray .int, 2) := by decide +kernel
theorem dX6_init_39 : decode cX6_init 39 = .ok (.putfield 31, 3) := by decide +kernel
theorem dX6_init_42 : decode cX6_init 42 = .ok (.iconst 0, 1) := by decide +kernel
theorem dX6_init_43 : decode cX6_init 43 = .ok (.istore_n 1, 1) := by decide +kernel
theorem dX6_init_44 : decode cX6_init 44 = .ok (.iload_n 1, 1) := by decide +kernel
theorem dX6_init_45 : decode cX6_init 45 = .ok (.iconst 3, 1) := by decide +kernel
theorem dX6_init_46 : decode cX6_init 46 = .ok (.if_icmp .ge 22, 3) := by decide +kernel
theorem dX6_init_49 : decode cX6_init 49 = .ok (.aload_n 0, 1) := by decide +kernel
theorem dX6_init_50 : decode cX6_init 50 = .ok (.getfield 11, 3) := by decide +kernel
theorem dX6_init_53 : decode cX6_init 53 = .ok (.iload_n 1, 1) := by decide +kernel
theorem dX6_init_54 : decode cX6_init 54 = .ok (.new 9, 3) := by decide +kernel
theorem dX6_init_57 : decode cX6_init 57 = .ok (.dup, 1) := by decide +kernel
theorem dX6_init_58 : decode cX6_init 58 = .ok (.invokespecial 35, 3) := by decide +kernel
theorem dX6_init_61 : decode cX6_init 61 = .ok (.aastore, 1) := by decide +kernel
theorem dX6_init_62 : decode cX6_init 62 = .ok (.iinc 1 1, 3) := by decide +kernel
theorem dX6_init_65 : decode cX6_init 65 = .ok (.goto (-21), 3) := by decide +kernel
theorem dX6_init_68 : decode cX6_init 68 = .ok (.return_, 1) := by decide +kernel
theorem dX6_take_0 : decode cX6_take 0 = .ok (.aload_n 0, 1) := by decide +kernel
theorem dX6_take_1 : decode cX6_take 1 = .ok (.aload_n 1, 1) := by decide +kernel
theorem dX6_take_2 : decode cX6_take 2 = .ok (.getfield 36, 3) := by decide +kernel
theorem dX6_take_5 : decode cX6_take 5 = .ok (.aload_n 1, 1) := by decide +kernel
theorem dX6_take_6 : decode cX6_take 6 = .ok (.getfield 42, 3) := by decide +kernel
theorem dX6_take_9 : decode cX6_take 9 = .ok (.iconst 0, 1) := by decide +kernel
theorem dX6_take_10 : decode cX6_take 10 = .ok (.iaload, 1) := by decide +kernel
theorem dX6_take_11 : decode cX6_take 11 = .ok (.invokevirtual 45, 3) := by decide +kernel
theorem dX6_take_14 : decode cX6_take 14 = .ok (.astore_n 3, 1) := by decide +kernel
theorem dX6_take_15 : decode cX6_take 15 = .ok (.aload_n 3, 1) := by decide +kernel
theorem dX6_take_16 : decode cX6_take 16 = .ok (.ifnonnull 12, 3) := by decide +kernel
theorem dX6_take_19 : decode cX6_take 19 = .ok (.aload_n 0, 1) := by decide +kernel
theorem dX6_take_20 : decode cX6_take 20 = .ok (.aload_n 1, 1) := by decide +kernel
theorem dX6_take_21 : decode cX6_take 21 = .ok (.iload_n 2, 1) := by decide +kernel
theorem dX6_take_22 : decode cX6_take 22 = .ok (.invokevirtual 49, 3) := by decide +kernel
theorem dX6_take_25 : decode cX6_take 25 = .ok (.goto 111, 3) := by decide +kernel
theorem dX6_take_28 : decode cX6_take 28 = .ok (.aload_n 1, 1) := by decide +kernel
theorem dX6_take_29 : decode cX6_take 29 = .ok (.iconst 4, 1) := by decide +kernel
theorem dX6_take_30 : decode cX6_take 30 = .ok (.invokevirtual 53, 3) := by decide +kernel
theorem dX6_take_33 : decode cX6_take 33 = .ok (.if_ .eq 24, 3) := by decide +kernel
theorem dX6_take_36 : decode cX6_take 36 = .ok (.aload_n 1, 1) := by decide +kernel
theorem dX6_take_37 : decode cX6_take 37 = .ok (.getfield 42, 3) := by decide +kernel
theorem dX6_take_40 : decode cX6_take 40 = .ok (.iconst 1, 1) := by decide +kernel
theorem dX6_take_41 : decode cX6_take 41 = .ok (.iaload, 1) := by decide +kernel
theorem dX6_take_42 : decode cX6_take 42 = .ok (.aload_n 3, 1) := by decide +kernel
theorem dX6_take_43 : decode cX6_take 43 = .ok (.getfield 57, 3) := by decide +kernel
theorem dX6_take_46 : decode cX6_take 46 = .ok (.if_icmp .ne 90, 3) := by decide +kernel
theorem dX6_take_49 : decode cX6_take 49 = .ok (.aload_n 3, 1) := by decide +kernel
theorem dX6_take_50 : decode cX6_take 50 = .ok (.iconst 0, 1) := by decide +kernel
theorem dX6_take_51 : decode cX6_take 51 = .ok (.putfield 60, 3) := by decide +kernel
theorem dX6_take_54 : decode cX6_take 54 = .ok (.goto 82, 3) := by decide +kernel
theorem dX6_take_57 : decode cX6_take 57 = .ok (.aload_n 1, 1) := by decide +kernel
theorem dX6_take_58 : decode cX6_take 58 = .ok (.iconst 2, 1) := by decide +kernel
theorem dX6_take_59 : decode cX6_take 59 = .ok (.invokevirtual 53, 3) := by decide +kernel
theorem dX6_take_62 : decode cX6_take 62 = .ok (.if_ .eq 14, 3) := by decide +kernel
theorem dX6_take_65 : decode cX6_take 65 = .ok (.aload_n 0, 1) := by decide +kernel
theorem dX6_take_66 : decode cX6_take 66 = .ok (.aload_n 3, 1) := by decide +kernel
theorem dX6_take_67 : decode cX6_take 67 = .ok (.bipush 16, 2) := by decide +kernel
theorem dX6_take_69 : decode cX6_take 69 = .ok (.iconst 0, 1) := by decide +kernel
theorem dX6_take_70 : decode cX6_take 70 = .ok (.invokevirtual 63, 3) := by decide +kernel
theorem dX6_take_73 : decode cX6_take 73 = .ok (.goto 63, 3) := by decide +kernel
theorem dX6_take_76 : decode cX6_take 76 = .ok (.aload_n 1, 1) := by decide +kernel
theorem dX6_take_77 : decode cX6_take 77 = .ok (.bipush 16, 2) := by decide +kernel
theorem dX6_take_79 : decode cX6_take 79 = .ok (.invokevirtual 53, 3) := by decide +kernel
theorem dX6_take_82 : decode cX6_take 82 = .ok (.if_ .eq 54, 3) := by decide +kernel
theorem dX6_take_85 : decode cX6_take 85 = .ok (.aload_n 3, 1) := by decide +kernel
theorem dX6_take_86 : decode cX6_take 86 = .ok (.aload_n 1, 1) := by decide +kernel
theorem dX6_take_87 : decode cX6_take 87 = .ok (.invokevirtual 67, 3) := by decide +kernel
theorem dX6_take_90 : decode cX6_take 90 = .ok (.if_ .eq 46, 3) := by decide +kernel
theorem dX6_take_93 : decode cX6_take 93 = .ok (.iconst 0, 1) := by decide +kernel
theorem dX6_take_94 : decode cX6_take 94 = .ok (.istore 4, 2) := by decide +kernel
theorem dX6_take_96 : decode cX6_take 96 = .ok (.aload_n 3, 1) := by decide +kernel
theorem dX6_take_97 : decode cX6_take 97 = .ok (.getfield 60, 3) := by decide +kernel
theorem dX6_take_100 : decode cX6_take 100 = .ok (.iconst 4, 1) := by decide +kernel
theorem dX6_take_101 : decode cX6_take 101 = .ok (.if_icmp .eq 15, 3) := by decide +kernel
theorem dX6_take_104 : decode cX6_take 104 = .ok (.aload_n 0, 1) := by decide +kernel
theorem dX6_take_105 : decode cX6_take 105 = .ok (.aload_n 3, 1) := by decide +kernel
theorem dX6_take_106 : decode cX6_take 106 = .ok (.invokevirtual 71, 3) := by decide +kernel
theorem dX6_take_109 : decode cX6_take 109 = .ok (.aload_n 0, 1) := by decide +kernel
theorem dX6_take_110 : decode cX6_take 110 = .ok (.aload_n 3, 1) := by decide +kernel
theorem dX6_take_111 : decode cX6_take 111 = .ok (.invokevirtual 75, 3) := by decide +kernel
theorem dX6_take_114 : decode cX6_take 114 = .ok (.istore 4, 2) := by decide +kernel
theorem dX6_take_116 : decode cX6_take 116 = .ok (.aload_n 1, 1) := by decide +kernel
theorem dX6_take_117 : decode cX6_take 117 = .ok (.invokevirtual 79, 3) := by decide +kernel
theorem dX6_take_120 : decode cX6_take 120 = .ok (.if_ .eq 16, 3) := by decide +kernel
theorem dX6_take_123 : decode cX6_take 123 = .ok (.iload 4, 2) := by decide +kernel
theorem dX6_take_125 : decode cX6_take 125 = .ok (.if_ .ne 11, 3) := by decide +kernel
theorem dX6_take_128 : decode cX6_take 128 = .ok (.aload_n 0, 1) := by decide +kernel
theorem dX6_take_129 : decode cX6_take 129 = .ok (.aload_n 3, 1) := by decide +kernel
theorem dX6_take_130 : decode cX6_take 130 = .ok (.bipush 16, 2) := by decide +kernel
theorem dX6_take_132 : decode cX6_take 132 = .ok (.iconst 0, 1) := by decide +kernel
theorem dX6_take_133 : decode cX6_take 133 = .ok (.invokevirtual 63, 3) := by decide +kernel
theorem dX6_take_136 : decode cX6_take 136 = .ok (.return_, 1) := by decide +kernel
theorem dX6_find_0 : decode cX6_find 0 = .ok (.iconst 0, 1) := by decide +kernel
theorem dX6_find_1 : decode cX6_find 1 = .ok (.istore_n 3, 1) := by decide +kernel
theorem dX6_find_2 : decode cX6_find 2 = .ok (.iload_n 3, 1) := by decide +kernel
theorem dX6_find_3 : decode cX6_find 3 = .ok (.iconst 3, 1) := by decide +kernel
theorem dX6_find_4 : decode cX6_find 4 = .ok (.if_icmp .ge 54, 3) := by decide +kernel
theorem dX6_find_7 : decode cX6_find 7 = .ok (.aload_n 0, 1) := by decide +kernel
theorem dX6_find_8 : decode cX6_find 8 = .ok (.getfield 11, 3) := by decide +kernel
theorem dX6_find_11 : decode cX6_find 11 = .ok (.iload_n 3, 1) := by decide +kernel
theorem dX6_find_12 : decode cX6_find 12 = .ok (.aaload, 1) := by decide +kernel
theorem dX6_find_13 : decode cX6_find 13 = .ok (.getfield 60, 3) := by decide +kernel
theorem dX6_find_16 : decode cX6_find 16 = .ok (.if_ .eq 36, 3) := by decide +kernel
theorem dX6_find_19 : decode cX6_find 19 = .ok (.aload_n 0, 1) := by decide +kernel
theorem dX6_find_20 : decode cX6_find 20 = .ok (.getfield 11, 3) := by decide +kernel
theorem dX6_find_23 : decode cX6_find 23 = .ok (.iload_n 3, 1) := by decide +kernel
theorem dX6_find_24 : decode cX6_find 24 = .ok (.aaload, 1) := by decide +kernel
theorem dX6_find_25 : decode cX6_find 25 = .ok (.getfield 83, 3) := by decide +kernel
theorem dX6_find_28 : decode cX6_find 28 = .ok (.iload_n 1, 1) := by decide +kernel
theorem dX6_find_29 : decode cX6_find 29 = .ok (.if_icmp .ne 23, 3) := by decide +kernel
theorem dX6_find_32 : decode cX6_find 32 = .ok (.aload_n 0, 1) := by decide +kernel
theorem dX6_find_33 : decode cX6_find 33 = .ok (.getfield 11, 3) := by decide +kernel
theorem dX6_find_36 : decode cX6_find 36 = .ok (.iload_n 3, 1) := by decide +kernel
theorem dX6_find_37 : decode cX6_find 37 = .ok (.aaload, 1) := by decide +kernel
theorem dX6_find_38 : decode cX6_find 38 = .ok (.getfield 86, 3) := by decide +kernel
theorem dX6_find_41 : decode cX6_find 41 = .ok (.iload_n 2, 1) := by decide +kernel
theorem dX6_find_42 : decode cX6_find 42 = .ok (.if_icmp .ne 10, 3) := by decide +kernel
theorem dX6_find_45 : decode cX6_find 45 = .ok (.aload_n 0, 1) := by decide +kernel
theorem dX6_find_46 : decode cX6_find 46 = .ok (.getfield 11, 3) := by decide +kernel
theorem dX6_find_49 : decode cX6_find 49 = .ok (.iload_n 3, 1) := by decide +kernel
theorem dX6_find_50 : decode cX6_find 50 = .ok (.aaload, 1) := by decide +kernel
theorem dX6_find_51 : decode cX6_find 51 = .ok (.areturn, 1) := by decide +kernel
theorem dX6_find_52 : decode cX6_find 52 = .ok (.iinc 3 1, 3) := by decide +kernel
theorem dX6_find_55 : decode cX6_find 55 = .ok (.goto (-53), 3) := by decide +kernel
theorem dX6_find_58 : decode cX6_find 58 = .ok (.aconst_null, 1) := by decide +kernel
theorem dX6_find_59 : decode cX6_find 59 = .ok (.areturn, 1) := by decide +kernel
theorem dX6_findFree_0 : decode cX6_findFree 0 = .ok (.iconst 0, 1) := by decide +kernel
theorem dX6_findFree_1 : decode cX6_findFree 1 = .ok (.istore_n 1, 1) := by decide +kernel
theorem dX6_findFree_2 : decode cX6_findFree 2 = .ok (.iload_n 1, 1) := by decide +kernel
theorem dX6_findFree_3 : decode cX6_findFree 3 = .ok (.iconst 3, 1) := by decide +kernel
theorem dX6_findFree_4 : decode cX6_findFree 4 = .ok (.if_icmp .ge 28, 3) := by decide +kernel
theorem dX6_findFree_7 : decode cX6_findFree 7 = .ok (.aload_n 0, 1) := by decide +kernel
theorem dX6_findFree_8 : decode cX6_findFree 8 = .ok (.getfield 11, 3) := by decide +kernel
theorem dX6_findFree_11 : decode cX6_findFree 11 = .ok (.iload_n 1, 1) := by decide +kernel
theorem dX6_findFree_12 : decode cX6_findFree 12 = .ok (.aaload, 1) := by decide +kernel
theorem dX6_findFree_13 : decode cX6_findFree 13 = .ok (.getfield 60, 3) := by decide +kernel
theorem dX6_findFree_16 : decode cX6_findFree 16 = .ok (.if_ .ne 10, 3) := by decide +kernel
theorem dX6_findFree_19 : decode cX6_findFree 19 = .ok (.aload_n 0, 1) := by decide +kernel
theorem dX6_findFree_20 : decode cX6_findFree 20 = .ok (.getfield 11, 3) := by decide +kernel
theorem dX6_findFree_23 : decode cX6_findFree 23 = .ok (.iload_n 1, 1) := by decide +kernel
theorem dX6_findFree_24 : decode cX6_findFree 24 = .ok (.aaload, 1) := by decide +kernel
theorem dX6_findFree_25 : decode cX6_findFree 25 = .ok (.areturn, 1) := by decide +kernel
theorem dX6_findFree_26 : decode cX6_findFree 26 = .ok (.iinc 1 1, 3) := by decide +kernel
theorem dX6_findFree_29 : decode cX6_findFree 29 = .ok (.goto (-27), 3) := by decide +kernel
theorem dX6_findFree_32 : decode cX6_findFree 32 = .ok (.aconst_null, 1) := by decide +kernel
theorem dX6_findFree_33 : decode cX6_findFree 33 = .ok (.areturn, 1) := by decide +kernel
theorem dX6_meetStranger_0 : decode cX6_meetStranger 0 = .ok (.aload_n 1, 1) := by decide +kernel
theorem dX6_meetStranger_1 : decode cX6_meetStranger 1 = .ok (.iconst 4, 1) := by decide +kernel
theorem dX6_meetStranger_2 : decode cX6_meetStranger 2 = .ok (.invokevirtual 53, 3) := by decide +kernel
theorem dX6_meetStranger_5 : decode cX6_meetStranger 5 = .ok (.if_ .eq 4, 3) := by decide +kernel
theorem dX6_meetStranger_8 : decode cX6_meetStranger 8 = .ok (.return_, 1) := by decide +kernel
theorem dX6_meetStranger_9 : decode cX6_meetStranger 9 = .ok (.aload_n 1, 1) := by decide +kernel
theorem dX6_meetStranger_10 : decode cX6_meetStranger 10 = .ok (.iconst 2, 1) := by decide +kernel
theorem dX6_meetStranger_11 : decode cX6_meetStranger 11 = .ok (.invokevirtual 53, 3) := by decide +kernel
theorem dX6_meetStranger_14 : decode cX6_meetStranger 14 = .ok (.if_ .eq 24, 3) := by decide +kernel
theorem dX6_meetStranger_17 : decode cX6_meetStranger 17 = .ok (.aload_n 1, 1) := by decide +kernel
theorem dX6_meetStranger_18 : decode cX6_meetStranger 18 = .ok (.bipush 17, 2) := by decide +kernel
theorem dX6_meetStranger_20 : decode cX6_meetStranger 20 = .ok (.invokevirtual 53, 3) := by decide +kernel
theorem dX6_meetStranger_23 : decode cX6_meetStranger 23 = .ok (.if_ .ne 15, 3) := by decide +kernel
theorem dX6_meetStranger_26 : decode cX6_meetStranger 26 = .ok (.aload_n 1, 1) := by decide +kernel
theorem dX6_meetStranger_27 : decode cX6_meetStranger 27 = .ok (.getfield 89, 3) := by decide +kernel
theorem dX6_meetStranger_30 : decode cX6_meetStranger 30 = .ok (.iconst 5, 1) := by decide +kernel
theorem dX6_meetStranger_31 : decode cX6_meetStranger 31 = .ok (.if_icmp .ne 7, 3) := by decide +kernel
theorem dX6_meetStranger_34 : decode cX6_meetStranger 34 = .ok (.iconst 1, 1) := by decide +kernel
theorem dX6_meetStranger_35 : decode cX6_meetStranger 35 = .ok (.goto 4, 3) := by decide +kernel
theorem dX6_meetStranger_38 : decode cX6_meetStranger 38 = .ok (.iconst 0, 1) := by decide +kernel
theorem dX6_meetStranger_39 : decode cX6_meetStranger 39 = .ok (.istore_n 3, 1) := by decide +kernel
theorem dX6_meetStranger_40 : decode cX6_meetStranger 40 = .ok (.iload_n 3, 1) := by decide +kernel
theorem dX6_meetStranger_41 : decode cX6_meetStranger 41 = .ok (.if_ .eq 10, 3) := by decide +kernel
theorem dX6_meetStranger_44 : decode cX6_meetStranger 44 = .ok (.aload_n 0, 1) := by decide +kernel
theorem dX6_meetStranger_45 : decode cX6_meetStranger 45 = .ok (.invokevirtual 92, 3) := by decide +kernel
theorem dX6_meetStranger_48 : decode cX6_meetStranger 48 = .ok (.goto 4, 3) := by decide +kernel
theorem dX6_meetStranger_51 : decode cX6_meetStranger 51 = .ok (.aconst_null, 1) := by decide +kernel
theorem dX6_meetStranger_52 : decode cX6_meetStranger 52 = .ok (.astore 4, 2) := by decide +kernel
theorem dX6_meetStranger_54 : decode cX6_meetStranger 54 = .ok (.aload 4, 2) := by decide +kernel
theorem dX6_meetStranger_56 : decode cX6_meetStranger 56 = .ok (.ifnonnull 24, 3) := by decide +kernel
theorem dX6_meetStranger_59 : decode cX6_meetStranger 59 = .ok (.aload_n 0, 1) := by decide +kernel
theorem dX6_meetStranger_60 : decode cX6_meetStranger 60 = .ok (.aload_n 1, 1) := by decide +kernel
theorem dX6_meetStranger_61 : decode cX6_meetStranger 61 = .ok (.getfield 36, 3) := by decide +kernel
theorem dX6_meetStranger_64 : decode cX6_meetStranger 64 = .ok (.aload_n 1, 1) := by decide +kernel
theorem dX6_meetStranger_65 : decode cX6_meetStranger 65 = .ok (.getfield 42, 3) := by decide +kernel
theorem dX6_meetStranger_68 : decode cX6_meetStranger 68 = .ok (.iconst 0, 1) := by decide +kernel
theorem dX6_meetStranger_69 : decode cX6_meetStranger 69 = .ok (.iaload, 1) := by decide +kernel
theorem dX6_meetStranger_70 : decode cX6_meetStranger 70 = .ok (.aload_n 1, 1) := by decide +kernel
theorem dX6_meetStranger_71 : decode cX6_meetStranger 71 = .ok (.getfield 42, 3) := by decide +kernel
theorem dX6_meetStranger_74 : decode cX6_meetStranger 74 = .ok (.iconst 2, 1) := by decide +kernel
theorem dX6_meetStranger_75 : decode cX6_meetStranger 75 = .ok (.iaload, 1) := by decide +kernel
theorem dX6_meetStranger_76 : decode cX6_meetStranger 76 = .ok (.invokevirtual 96, 3) := by decide +kernel
theorem dX6_meetStranger_79 : decode cX6_meetStranger 79 = .ok (.return_, 1) := by decide +kernel
theorem dX6_meetStranger_80 : decode cX6_meetStranger 80 = .ok (.aload 4, 2) := by decide +kernel
theorem dX6_meetStranger_82 : decode cX6_meetStranger 82 = .ok (.aload_n 1, 1) := by decide +kernel
theorem dX6_meetStranger_83 : decode cX6_meetStranger 83 = .ok (.iconst 4, 1) := by decide +kernel
theorem dX6_meetStranger_84 : decode cX6_meetStranger 84 = .ok (.iload_n 2, 1) := by decide +kernel
theorem dX6_meetStranger_85 : decode cX6_meetStranger 85 = .ok (.imul, 1) := by decide +kernel
theorem dX6_meetStranger_86 : decode cX6_meetStranger 86 = .ok (.sipush 255, 3) := by decide +kernel
theorem dX6_meetStranger_89 : decode cX6_meetStranger 89 = .ok (.iand, 1) := by decide +kernel
theorem dX6_meetStranger_90 : decode cX6_meetStranger 90 = .ok (.invokevirtual 100, 3) := by decide +kernel
theorem dX6_meetStranger_93 : decode cX6_meetStranger 93 = .ok (.aload_n 0, 1) := by decide +kernel
theorem dX6_meetStranger_94 : decode cX6_meetStranger 94 = .ok (.dup, 1) := by decide +kernel
theorem dX6_meetStranger_95 : decode cX6_meetStranger 95 = .ok (.getfield 103, 3) := by decide +kernel
theorem dX6_meetStranger_98 : decode cX6_meetStranger 98 = .ok (.iconst 1, 1) := by decide +kernel
theorem dX6_meetStranger_99 : decode cX6_meetStranger 99 = .ok (.iadd, 1) := by decide +kernel
theorem dX6_meetStranger_100 : decode cX6_meetStranger 100 = .ok (.putfield 103, 3) := by decide +kernel
theorem dX6_meetStranger_103 : decode cX6_meetStranger 103 = .ok (.aload_n 0, 1) := by decide +kernel
theorem dX6_meetStranger_104 : decode cX6_meetStranger 104 = .ok (.aload 4, 2) := by decide +kernel
theorem dX6_meetStranger_106 : decode cX6_meetStranger 106 = .ok (.bipush 18, 2) := by decide +kernel
theorem dX6_meetStranger_108 : decode cX6_meetStranger 108 = .ok (.iconst 0, 1) := by decide +kernel
theorem dX6_meetStranger_109 : decode cX6_meetStranger 109 = .ok (.invokevirtual 63, 3) := by decide +kernel
theorem dX6_meetStranger_112 : decode cX6_meetStranger 112 = .ok (.return_, 1) := by decide +kernel
theorem dX6_read_0 : decode cX6_read 0 = .ok (.iconst 0, 1) := by decide +kernel
theorem dX6_read_1 : decode cX6_read 1 = .ok (.istore_n 2, 1) := by decide +kernel
theorem dX6_read_2 : decode cX6_read 2 = .ok (.iload_n 2, 1) := by decide +kernel
theorem dX6_read_3 : decode cX6_read 3 = .ok (.bipush 16, 2) := by decide +kernel
theorem dX6_read_5 : decode cX6_read 5 = .ok (.if_icmp .ge 78, 3) := by decide +kernel
theorem dX6_read_8 : decode cX6_read 8 = .ok (.aload_n 1, 1) := by decide +kernel
theorem dX6_read_9 : decode cX6_read 9 = .ok (.invokevirtual 106, 3) := by decide +kernel
theorem dX6_read_12 : decode cX6_read 12 = .ok (.istore_n 3, 1) := by decide +kernel
theorem dX6_read_13 : decode cX6_read 13 = .ok (.iload_n 3, 1) := by decide +kernel
theorem dX6_read_14 : decode cX6_read 14 = .ok (.if_ .ne 4, 3) := by decide +kernel
theorem dX6_read_17 : decode cX6_read 17 = .ok (.return_, 1) := by decide +kernel
theorem dX6_read_18 : decode cX6_read 18 = .ok (.aload_n 0, 1) := by decide +kernel
theorem dX6_read_19 : decode cX6_read 19 = .ok (.getfield 27, 3) := by decide +kernel
theorem dX6_read_22 : decode cX6_read 22 = .ok (.aload_n 1, 1) := by decide +kernel
theorem dX6_read_23 : decode cX6_read 23 = .ok (.getfield 110, 3) := by decide +kernel
theorem dX6_read_26 : decode cX6_read 26 = .ok (.iload_n 3, 1) := by decide +kernel
theorem dX6_read_27 : decode cX6_read 27 = .ok (.invokevirtual 113, 3) := by decide +kernel
theorem dX6_read_30 : decode cX6_read 30 = .ok (.aload_n 1, 1) := by decide +kernel
theorem dX6_read_31 : decode cX6_read 31 = .ok (.getfield 117, 3) := by decide +kernel
theorem dX6_read_34 : decode cX6_read 34 = .ok (.aload_n 0, 1) := by decide +kernel
theorem dX6_read_35 : decode cX6_read 35 = .ok (.getfield 27, 3) := by decide +kernel
theorem dX6_read_38 : decode cX6_read 38 = .ok (.getfield 120, 3) := by decide +kernel
theorem dX6_read_41 : decode cX6_read 41 = .ok (.iadd, 1) := by decide +kernel
theorem dX6_read_42 : decode cX6_read 42 = .ok (.bipush 64, 2) := by decide +kernel
theorem dX6_read_44 : decode cX6_read 44 = .ok (.if_icmp .le 4, 3) := by decide +kernel
theorem dX6_read_47 : decode cX6_read 47 = .ok (.return_, 1) := by decide +kernel
theorem dX6_read_48 : decode cX6_read 48 = .ok (.aload_n 1, 1) := by decide +kernel
theorem dX6_read_49 : decode cX6_read 49 = .ok (.iload_n 3, 1) := by decide +kernel
theorem dX6_read_50 : decode cX6_read 50 = .ok (.aload_n 0, 1) := by decide +kernel
theorem dX6_read_51 : decode cX6_read 51 = .ok (.getfield 27, 3) := by decide +kernel
theorem dX6_read_54 : decode cX6_read 54 = .ok (.getfield 123, 3) := by decide +kernel
theorem dX6_read_57 : decode cX6_read 57 = .ok (.aload_n 0, 1) := by decide +kernel
theorem dX6_read_58 : decode cX6_read 58 = .ok (.getfield 27, 3) := by decide +kernel
theorem dX6_read_61 : decode cX6_read 61 = .ok (.getfield 120, 3) := by decide +kernel
theorem dX6_read_64 : decode cX6_read 64 = .ok (.invokevirtual 126, 3) := by decide +kernel
theorem dX6_read_67 : decode cX6_read 67 = .ok (.aload_n 0, 1) := by decide +kernel
theorem dX6_read_68 : decode cX6_read 68 = .ok (.dup, 1) := by decide +kernel
theorem dX6_read_69 : decode cX6_read 69 = .ok (.getfield 130, 3) := by decide +kernel
theorem dX6_read_72 : decode cX6_read 72 = .ok (.iconst 1, 1) := by decide +kernel
theorem dX6_read_73 : decode cX6_read 73 = .ok (.iadd, 1) := by decide +kernel
theorem dX6_read_74 : decode cX6_read 74 = .ok (.putfield 130, 3) := by decide +kernel
theorem dX6_read_77 : decode cX6_read 77 = .ok (.iinc 2 1, 3) := by decide +kernel
theorem dX6_read_80 : decode cX6_read 80 = .ok (.goto (-78), 3) := by decide +kernel
theorem dX6_read_83 : decode cX6_read 83 = .ok (.return_, 1) := by decide +kernel
theorem dX6_push_0 : decode cX6_push 0 = .ok (.iconst 0, 1) := by decide +kernel
theorem dX6_push_1 : decode cX6_push 1 = .ok (.istore_n 2, 1) := by decide +kernel
theorem dX6_push_2 : decode cX6_push 2 = .ok (.aload_n 1, 1) := by decide +kernel
theorem dX6_push_3 : decode cX6_push 3 = .ok (.invokevirtual 133, 3) := by decide +kernel
theorem dX6_push_6 : decode cX6_push 6 = .ok (.istore_n 3, 1) := by decide +kernel
theorem dX6_push_7 : decode cX6_push 7 = .ok (.iconst 0, 1) := by decide +kernel
theorem dX6_push_8 : decode cX6_push 8 = .ok (.istore 4, 2) := by decide +kernel
theorem dX6_push_10 : decode cX6_push 10 = .ok (.iload 4, 2) := by decide +kernel
theorem dX6_push_12 : decode cX6_push 12 = .ok (.bipush 64, 2) := by decide +kernel
theorem dX6_push_14 : decode cX6_push 14 = .ok (.if_icmp .ge 28, 3) := by decide +kernel
theorem dX6_push_17 : decode cX6_push 17 = .ok (.iload_n 3, 1) := by decide +kernel
theorem dX6_push_18 : decode cX6_push 18 = .ok (.if_ .le 24, 3) := by decide +kernel
theorem dX6_push_21 : decode cX6_push 21 = .ok (.aload_n 0, 1) := by decide +kernel
theorem dX6_push_22 : decode cX6_push 22 = .ok (.aload_n 1, 1) := by decide +kernel
theorem dX6_push_23 : decode cX6_push 23 = .ok (.bipush 16, 2) := by decide +kernel
theorem dX6_push_25 : decode cX6_push 25 = .ok (.iload_n 3, 1) := by decide +kernel
theorem dX6_push_26 : decode cX6_push 26 = .ok (.invokevirtual 63, 3) := by decide +kernel
theorem dX6_push_29 : decode cX6_push 29 = .ok (.iconst 1, 1) := by decide +kernel
theorem dX6_push_30 : decode cX6_push 30 = .ok (.istore_n 2, 1) := by decide +kernel
theorem dX6_push_31 : decode cX6_push 31 = .ok (.aload_n 1, 1) := by decide +kernel
theorem dX6_push_32 : decode cX6_push 32 = .ok (.invokevirtual 133, 3) := by decide +kernel
theorem dX6_push_35 : decode cX6_push 35 = .ok (.istore_n 3, 1) := by decide +kernel
theorem dX6_push_36 : decode cX6_push 36 = .ok (.iinc 4 1, 3) := by decide +kernel
theorem dX6_push_39 : decode cX6_push 39 = .ok (.goto (-29), 3) := by decide +kernel
theorem dX6_push_42 : decode cX6_push 42 = .ok (.aload_n 1, 1) := by decide +kernel
theorem dX6_push_43 : decode cX6_push 43 = .ok (.invokevirtual 136, 3) := by decide +kernel
theorem dX6_push_46 : decode cX6_push 46 = .ok (.if_ .eq 23, 3) := by decide +kernel
theorem dX6_push_49 : decode cX6_push 49 = .ok (.aload_n 1, 1) := by decide +kernel
theorem dX6_push_50 : decode cX6_push 50 = .ok (.iconst 0, 1) := by decide +kernel
theorem dX6_push_51 : decode cX6_push 51 = .ok (.putfield 139, 3) := by decide +kernel
theorem dX6_push_54 : decode cX6_push 54 = .ok (.aload_n 0, 1) := by decide +kernel
theorem dX6_push_55 : decode cX6_push 55 = .ok (.aload_n 1, 1) := by decide +kernel
theorem dX6_push_56 : decode cX6_push 56 = .ok (.bipush 17, 2) := by decide +kernel
theorem dX6_push_58 : decode cX6_push 58 = .ok (.iconst 0, 1) := by decide +kernel
theorem dX6_push_59 : decode cX6_push 59 = .ok (.invokevirtual 63, 3) := by decide +kernel
theorem dX6_push_62 : decode cX6_push 62 = .ok (.aload_n 1, 1) := by decide +kernel
theorem dX6_push_63 : decode cX6_push 63 = .ok (.iconst 4, 1) := by decide +kernel
theorem dX6_push_64 : decode cX6_push 64 = .ok (.putfield 60, 3) := by decide +kernel
theorem dX6_push_67 : decode cX6_push 67 = .ok (.iconst 1, 1) := by decide +kernel
theorem dX6_push_68 : decode cX6_push 68 = .ok (.istore_n 2, 1) := by decide +kernel
theorem dX6_push_69 : decode cX6_push 69 = .ok (.iload_n 2, 1) := by decide +kernel
theorem dX6_push_70 : decode cX6_push 70 = .ok (.ireturn, 1) := by decide +kernel
theorem dX6_send_0 : decode cX6_send 0 = .ok (.aload_n 0, 1) := by decide +kernel
theorem dX6_send_1 : decode cX6_send 1 = .ok (.getfield 31, 3) := by decide +kernel
theorem dX6_send_4 : decode cX6_send 4 = .ok (.iconst 0, 1) := by decide +kernel
theorem dX6_send_5 : decode cX6_send 5 = .ok (.aload_n 1, 1) := by decide +kernel
theorem dX6_send_6 : decode cX6_send 6 = .ok (.getfield 86, 3) := by decide +kernel
theorem dX6_send_9 : decode cX6_send 9 = .ok (.iastore, 1) := by decide +kernel
theorem dX6_send_10 : decode cX6_send 10 = .ok (.aload_n 0, 1) := by decide +kernel
theorem dX6_send_11 : decode cX6_send 11 = .ok (.getfield 31, 3) := by decide +kernel
theorem dX6_send_14 : decode cX6_send 14 = .ok (.iconst 1, 1) := by decide +kernel
theorem dX6_send_15 : decode cX6_send 15 = .ok (.aload_n 1, 1) := by decide +kernel
theorem dX6_send_16 : decode cX6_send 16 = .ok (.getfield 142, 3) := by decide +kernel
theorem dX6_send_19 : decode cX6_send 19 = .ok (.iastore, 1) := by decide +kernel
theorem dX6_send_20 : decode cX6_send 20 = .ok (.aload_n 0, 1) := by decide +kernel
theorem dX6_send_21 : decode cX6_send 21 = .ok (.getfield 31, 3) := by decide +kernel
theorem dX6_send_24 : decode cX6_send 24 = .ok (.iconst 2, 1) := by decide +kernel
theorem dX6_send_25 : decode cX6_send 25 = .ok (.aload_n 1, 1) := by decide +kernel
theorem dX6_send_26 : decode cX6_send 26 = .ok (.getfield 57, 3) := by decide +kernel
theorem dX6_send_29 : decode cX6_send 29 = .ok (.iastore, 1) := by decide +kernel
theorem dX6_send_30 : decode cX6_send 30 = .ok (.aload_n 0, 1) := by decide +kernel
theorem dX6_send_31 : decode cX6_send 31 = .ok (.getfield 31, 3) := by decide +kernel
theorem dX6_send_34 : decode cX6_send 34 = .ok (.iconst 3, 1) := by decide +kernel
theorem dX6_send_35 : decode cX6_send 35 = .ok (.iload_n 2, 1) := by decide +kernel
theorem dX6_send_36 : decode cX6_send 36 = .ok (.iastore, 1) := by decide +kernel
theorem dX6_send_37 : decode cX6_send 37 = .ok (.aload_n 0, 1) := by decide +kernel
theorem dX6_send_38 : decode cX6_send 38 = .ok (.getfield 31, 3) := by decide +kernel
theorem dX6_send_41 : decode cX6_send 41 = .ok (.iconst 4, 1) := by decide +kernel
theorem dX6_send_42 : decode cX6_send 42 = .ok (.bipush 16, 2) := by decide +kernel
theorem dX6_send_44 : decode cX6_send 44 = .ok (.aload_n 1, 1) := by decide +kernel
theorem dX6_send_45 : decode cX6_send 45 = .ok (.getfield 139, 3) := by decide +kernel
theorem dX6_send_48 : decode cX6_send 48 = .ok (.isub, 1) := by decide +kernel
theorem dX6_send_49 : decode cX6_send 49 = .ok (.iastore, 1) := by decide +kernel
theorem dX6_send_50 : decode cX6_send 50 = .ok (.aload_n 1, 1) := by decide +kernel
theorem dX6_send_51 : decode cX6_send 51 = .ok (.invokevirtual 145, 3) := by decide +kernel
theorem dX6_send_54 : decode cX6_send 54 = .ok (.istore 4, 2) := by decide +kernel
theorem dX6_send_56 : decode cX6_send 56 = .ok (.iconst 0, 1) := by decide +kernel
theorem dX6_send_57 : decode cX6_send 57 = .ok (.istore 5, 2) := by decide +kernel
theorem dX6_send_59 : decode cX6_send 59 = .ok (.iload 5, 2) := by decide +kernel
theorem dX6_send_61 : decode cX6_send 61 = .ok (.iload_n 3, 1) := by decide +kernel
theorem dX6_send_62 : decode cX6_send 62 = .ok (.if_icmp .ge 28, 3) := by decide +kernel
theorem dX6_send_65 : decode cX6_send 65 = .ok (.aload_n 0, 1) := by decide +kernel
theorem dX6_send_66 : decode cX6_send 66 = .ok (.getfield 31, 3) := by decide +kernel
theorem dX6_send_69 : decode cX6_send 69 = .ok (.iconst 5, 1) := by decide +kernel
theorem dX6_send_70 : decode cX6_send 70 = .ok (.iload 5, 2) := by decide +kernel
theorem dX6_send_72 : decode cX6_send 72 = .ok (.iadd, 1) := by decide +kernel
theorem dX6_send_73 : decode cX6_send 73 = .ok (.aload_n 1, 1) := by decide +kernel
theorem dX6_send_74 : decode cX6_send 74 = .ok (.getfield 148, 3) := by decide +kernel
theorem dX6_send_77 : decode cX6_send 77 = .ok (.iload 4, 2) := by decide +kernel
theorem dX6_send_79 : decode cX6_send 79 = .ok (.iload 5, 2) := by decide +kernel
theorem dX6_send_81 : decode cX6_send 81 = .ok (.iadd, 1) := by decide +kernel
theorem dX6_send_82 : decode cX6_send 82 = .ok (.iaload, 1) := by decide +kernel
theorem dX6_send_83 : decode cX6_send 83 = .ok (.iastore, 1) := by decide +kernel
theorem dX6_send_84 : decode cX6_send 84 = .ok (.iinc 5 1, 3) := by decide +kernel
theorem dX6_send_87 : decode cX6_send 87 = .ok (.goto (-28), 3) := by decide +kernel
theorem dX6_send_90 : decode cX6_send 90 = .ok (.aload_n 0, 1) := by decide +kernel
theorem dX6_send_91 : decode cX6_send 91 = .ok (.getfield 20, 3) := by decide +kernel
theorem dX6_send_94 : decode cX6_send 94 = .ok (.aload_n 1, 1) := by decide +kernel
theorem dX6_send_95 : decode cX6_send 95 = .ok (.getfield 83, 3) := by decide +kernel
theorem dX6_send_98 : decode cX6_send 98 = .ok (.bipush 6, 2) := by decide +kernel
theorem dX6_send_100 : decode cX6_send 100 = .ok (.aload_n 0, 1) := by decide +kernel
theorem dX6_send_101 : decode cX6_send 101 = .ok (.getfield 31, 3) := by decide +kernel
theorem dX6_send_104 : decode cX6_send 104 = .ok (.iconst 5, 1) := by decide +kernel
theorem dX6_send_105 : decode cX6_send 105 = .ok (.iload_n 3, 1) := by decide +kernel
theorem dX6_send_106 : decode cX6_send 106 = .ok (.iadd, 1) := by decide +kernel
theorem dX6_send_107 : decode cX6_send 107 = .ok (.invokevirtual 151, 3) := by decide +kernel
theorem dX6_send_110 : decode cX6_send 110 = .ok (.aload_n 1, 1) := by decide +kernel
theorem dX6_send_111 : decode cX6_send 111 = .ok (.iload_n 2, 1) := by decide +kernel
theorem dX6_send_112 : decode cX6_send 112 = .ok (.iconst 3, 1) := by decide +kernel
theorem dX6_send_113 : decode cX6_send 113 = .ok (.iand, 1) := by decide +kernel
theorem dX6_send_114 : decode cX6_send 114 = .ok (.if_ .eq 9, 3) := by decide +kernel
theorem dX6_send_117 : decode cX6_send 117 = .ok (.iload_n 3, 1) := by decide +kernel
theorem dX6_send_118 : decode cX6_send 118 = .ok (.iconst 1, 1) := by decide +kernel
theorem dX6_send_119 : decode cX6_send 119 = .ok (.iadd, 1) := by decide +kernel
theorem dX6_send_120 : decode cX6_send 120 = .ok (.goto 4, 3) := by decide +kernel
theorem dX6_send_123 : decode cX6_send 123 = .ok (.iload_n 3, 1) := by decide +kernel
theorem dX6_send_124 : decode cX6_send 124 = .ok (.invokevirtual 155, 3) := by decide +kernel
theorem dX6_send_127 : decode cX6_send 127 = .ok (.return_, 1) := by decide +kernel
theorem dX6_sendReset_0 : decode cX6_sendReset 0 = .ok (.aload_n 0, 1) := by decide +kernel
theorem dX6_sendReset_1 : decode cX6_sendReset 1 = .ok (.getfield 31, 3) := by decide +kernel
theorem dX6_sendReset_4 : decode cX6_sendReset 4 = .ok (.iconst 0, 1) := by decide +kernel
theorem dX6_sendReset_5 : decode cX6_sendReset 5 = .ok (.iload_n 2, 1) := by decide +kernel
theorem dX6_sendReset_6 : decode cX6_sendReset 6 = .ok (.iastore, 1) := by decide +kernel
theorem dX6_sendReset_7 : decode cX6_sendReset 7 = .ok (.aload_n 0, 1) := by decide +kernel
theorem dX6_sendReset_8 : decode cX6_sendReset 8 = .ok (.getfield 31, 3) := by decide +kernel
theorem dX6_sendReset_11 : decode cX6_sendReset 11 = .ok (.iconst 1, 1) := by decide +kernel
theorem dX6_sendReset_12 : decode cX6_sendReset 12 = .ok (.iload_n 3, 1) := by decide +kernel
theorem dX6_sendReset_13 : decode cX6_sendReset 13 = .ok (.iastore, 1) := by decide +kernel
theorem dX6_sendReset_14 : decode cX6_sendReset 14 = .ok (.aload_n 0, 1) := by decide +kernel
theorem dX6_sendReset_15 : decode cX6_sendReset 15 = .ok (.getfield 31, 3) := by decide +kernel
theorem dX6_sendReset_18 : decode cX6_sendReset 18 = .ok (.iconst 2, 1) := by decide +kernel
theorem dX6_sendReset_19 : decode cX6_sendReset 19 = .ok (.iconst 0, 1) := by decide +kernel
theorem dX6_sendReset_20 : decode cX6_sendReset 20 = .ok (.iastore, 1) := by decide +kernel
theorem dX6_sendReset_21 : decode cX6_sendReset 21 = .ok (.aload_n 0, 1) := by decide +kernel
theorem dX6_sendReset_22 : decode cX6_sendReset 22 = .ok (.getfield 31, 3) := by decide +kernel
theorem dX6_sendReset_25 : decode cX6_sendReset 25 = .ok (.iconst 3, 1) := by decide +kernel
theorem dX6_sendReset_26 : decode cX6_sendReset 26 = .ok (.iconst 4, 1) := by decide +kernel
theorem dX6_sendReset_27 : decode cX6_sendReset 27 = .ok (.iastore, 1) := by decide +kernel
theorem dX6_sendReset_28 : decode cX6_sendReset 28 = .ok (.aload_n 0, 1) := by decide +kernel
theorem dX6_sendReset_29 : decode cX6_sendReset 29 = .ok (.getfield 31, 3) := by decide +kernel
theorem dX6_sendReset_32 : decode cX6_sendReset 32 = .ok (.iconst 4, 1) := by decide +kernel
theorem dX6_sendReset_33 : decode cX6_sendReset 33 = .ok (.iconst 0, 1) := by decide +kernel
theorem dX6_sendReset_34 : decode cX6_sendReset 34 = .ok (.iastore, 1) := by decide +kernel
theorem dX6_sendReset_35 : decode cX6_sendReset 35 = .ok (.aload_n 0, 1) := by decide +kernel
theorem dX6_sendReset_36 : decode cX6_sendReset 36 = .ok (.getfield 20, 3) := by decide +kernel
theorem dX6_sendReset_39 : decode cX6_sendReset 39 = .ok (.iload_n 1, 1) := by decide +kernel
theorem dX6_sendReset_40 : decode cX6_sendReset 40 = .ok (.bipush 6, 2) := by decide +kernel
theorem dX6_sendReset_42 : decode cX6_sendReset 42 = .ok (.aload_n 0, 1) := by decide +kernel
theorem dX6_sendReset_43 : decode cX6_sendReset 43 = .ok (.getfield 31, 3) := by decide +kernel
theorem dX6_sendReset_46 : decode cX6_sendReset 46 = .ok (.iconst 5, 1) := by decide +kernel
theorem dX6_sendReset_47 : decode cX6_sendReset 47 = .ok (.invokevirtual 151, 3) := by decide +kernel
theorem dX6_sendReset_50 : decode cX6_sendReset 50 = .ok (.return_, 1) := by decide +kernel
theorem dX6_runTimer_0 : decode cX6_runTimer 0 = .ok (.aload_n 1, 1) := by decide +kernel
theorem dX6_runTimer_1 : decode cX6_runTimer 1 = .ok (.invokevirtual 159, 3) := by decide +kernel
theorem dX6_runTimer_4 : decode cX6_runTimer 4 = .ok (.if_ .ne 4, 3) := by decide +kernel
theorem dX6_runTimer_7 : decode cX6_runTimer 7 = .ok (.return_, 1) := by decide +kernel
theorem dX6_runTimer_8 : decode cX6_runTimer 8 = .ok (.aload_n 1, 1) := by decide +kernel
theorem dX6_runTimer_9 : decode cX6_runTimer 9 = .ok (.getfield 162, 3) := by decide +kernel
theorem dX6_runTimer_12 : decode cX6_runTimer 12 = .ok (.iconst 3, 1) := by decide +kernel
theorem dX6_runTimer_13 : decode cX6_runTimer 13 = .ok (.if_icmp .lt 25, 3) := by decide +kernel
theorem dX6_runTimer_16 : decode cX6_runTimer 16 = .ok (.aload_n 0, 1) := by decide +kernel
theorem dX6_runTimer_17 : decode cX6_runTimer 17 = .ok (.aload_n 1, 1) := by decide +kernel
theorem dX6_runTimer_18 : decode cX6_runTimer 18 = .ok (.getfield 83, 3) := by decide +kernel
theorem dX6_runTimer_21 : decode cX6_runTimer 21 = .ok (.aload_n 1, 1) := by decide +kernel
theorem dX6_runTimer_22 : decode cX6_runTimer 22 = .ok (.getfield 86, 3) := by decide +kernel
theorem dX6_runTimer_25 : decode cX6_runTimer 25 = .ok (.aload_n 1, 1) := by decide +kernel
theorem dX6_runTimer_26 : decode cX6_runTimer 26 = .ok (.getfield 142, 3) := by decide +kernel
theorem dX6_runTimer_29 : decode cX6_runTimer 29 = .ok (.invokevirtual 96, 3) := by decide +kernel
theorem dX6_runTimer_32 : decode cX6_runTimer 32 = .ok (.aload_n 1, 1) := by decide +kernel
theorem dX6_runTimer_33 : decode cX6_runTimer 33 = .ok (.iconst 0, 1) := by decide +kernel
theorem dX6_runTimer_34 : decode cX6_runTimer 34 = .ok (.putfield 60, 3) := by decide +kernel
theorem dX6_runTimer_37 : decode cX6_runTimer 37 = .ok (.return_, 1) := by decide +kernel
theorem dX6_runTimer_38 : decode cX6_runTimer 38 = .ok (.aload_n 1, 1) := by decide +kernel
theorem dX6_runTimer_39 : decode cX6_runTimer 39 = .ok (.invokevirtual 165, 3) := by decide +kernel
theorem dX6_runTimer_42 : decode cX6_runTimer 42 = .ok (.aload_n 0, 1) := by decide +kernel
theorem dX6_runTimer_43 : decode cX6_runTimer 43 = .ok (.dup, 1) := by decide +kernel
theorem dX6_runTimer_44 : decode cX6_runTimer 44 = .ok (.getfield 168, 3) := by decide +kernel
theorem dX6_runTimer_47 : decode cX6_runTimer 47 = .ok (.iconst 1, 1) := by decide +kernel
theorem dX6_runTimer_48 : decode cX6_runTimer 48 = .ok (.iadd, 1) := by decide +kernel
theorem dX6_runTimer_49 : decode cX6_runTimer 49 = .ok (.putfield 168, 3) := by decide +kernel
theorem dX6_runTimer_52 : decode cX6_runTimer 52 = .ok (.aload_n 1, 1) := by decide +kernel
theorem dX6_runTimer_53 : decode cX6_runTimer 53 = .ok (.getfield 60, 3) := by decide +kernel
theorem dX6_runTimer_56 : decode cX6_runTimer 56 = .ok (.iconst 1, 1) := by decide +kernel
theorem dX6_runTimer_57 : decode cX6_runTimer 57 = .ok (.if_icmp .ne 14, 3) := by decide +kernel
theorem dX6_runTimer_60 : decode cX6_runTimer 60 = .ok (.aload_n 0, 1) := by decide +kernel
theorem dX6_runTimer_61 : decode cX6_runTimer 61 = .ok (.aload_n 1, 1) := by decide +kernel
theorem dX6_runTimer_62 : decode cX6_runTimer 62 = .ok (.bipush 18, 2) := by decide +kernel
theorem dX6_runTimer_64 : decode cX6_runTimer 64 = .ok (.iconst 0, 1) := by decide +kernel
theorem dX6_runTimer_65 : decode cX6_runTimer 65 = .ok (.invokevirtual 63, 3) := by decide +kernel
theorem dX6_runTimer_68 : decode cX6_runTimer 68 = .ok (.goto 9, 3) := by decide +kernel
theorem dX6_runTimer_71 : decode cX6_runTimer 71 = .ok (.aload_n 0, 1) := by decide +kernel
theorem dX6_runTimer_72 : decode cX6_runTimer 72 = .ok (.aload_n 1, 1) := by decide +kernel
theorem dX6_runTimer_73 : decode cX6_runTimer 73 = .ok (.invokevirtual 75, 3) := by decide +kernel
theorem dX6_runTimer_76 : decode cX6_runTimer 76 = .ok (.pop, 1) := by decide +kernel
theorem dX6_runTimer_77 : decode cX6_runTimer 77 = .ok (.return_, 1) := by decide +kernel
