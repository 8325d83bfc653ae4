theorem dX0_init_0 : decode cX0_init 0 = .ok (.aload_n 0, 1) := by decide +kernel
theorem dX0_init_1 : decode cX0_init 1 = .ok (.invokespecial 3, 3) := by decide +kernel
theorem dX0_init_4 : decode cX0_init 4 = .ok (.aload_n 0, 1) := by decide +kernel
theorem dX0_init_5 : decode cX0_init 5 = .ok (.bipush 44, 2) := by decide +kernel
theorem dX0_init_7 : decode cX0_init 7 = .ok (.newarray .int, 2) := by decide +kernel
theorem dX0_init_9 : decode cX0_init 9 = .ok (.putfield 9, 3) := by decide +kernel
theorem dX0_init_12 : decode cX0_init 12 = .ok (.return_, 1) := by decide +kernel
theorem dX0_isFit_0 : decode cX0_isFit 0 = .ok (.aload_n 0, 1) := by decide +kernel
theorem dX0_isFit_1 : decode cX0_isFit 1 = .ok (.getfield 15, 3) := by decide +kernel
theorem dX0_isFit_4 : decode cX0_isFit 4 = .ok (.iconst 5, 1) := by decide +kernel
theorem dX0_isFit_5 : decode cX0_isFit 5 = .ok (.if_icmp .lt 12, 3) := by decide +kernel
theorem dX0_isFit_8 : decode cX0_isFit 8 = .ok (.aload_n 0, 1) := by decide +kernel
theorem dX0_isFit_9 : decode cX0_isFit 9 = .ok (.getfield 15, 3) := by decide +kernel
theorem dX0_isFit_12 : decode cX0_isFit 12 = .ok (.bipush 41, 2) := by decide +kernel
theorem dX0_isFit_14 : decode cX0_isFit 14 = .ok (.if_icmp .le 5, 3) := by decide +kernel
theorem dX0_isFit_17 : decode cX0_isFit 17 = .ok (.iconst 0, 1) := by decide +kernel
theorem dX0_isFit_18 : decode cX0_isFit 18 = .ok (.ireturn, 1) := by decide +kernel
theorem dX0_isFit_19 : decode cX0_isFit 19 = .ok (.aload_n 0, 1) := by decide +kernel
theorem dX0_isFit_20 : decode cX0_isFit 20 = .ok (.getfield 9, 3) := by decide +kernel
theorem dX0_isFit_23 : decode cX0_isFit 23 = .ok (.iconst 0, 1) := by decide +kernel
theorem dX0_isFit_24 : decode cX0_isFit 24 = .ok (.iaload, 1) := by decide +kernel
theorem dX0_isFit_25 : decode cX0_isFit 25 = .ok (.iconst 1, 1) := by decide +kernel
theorem dX0_isFit_26 : decode cX0_isFit 26 = .ok (.if_icmp .eq 14, 3) := by decide +kernel
theorem dX0_isFit_29 : decode cX0_isFit 29 = .ok (.aload_n 0, 1) := by decide +kernel
theorem dX0_isFit_30 : decode cX0_isFit 30 = .ok (.getfield 9, 3) := by decide +kernel
theorem dX0_isFit_33 : decode cX0_isFit 33 = .ok (.iconst 0, 1) := by decide +kernel
theorem dX0_isFit_34 : decode cX0_isFit 34 = .ok (.iaload, 1) := by decide +kernel
theorem dX0_isFit_35 : decode cX0_isFit 35 = .ok (.bipush 15, 2) := by decide +kernel
theorem dX0_isFit_37 : decode cX0_isFit 37 = .ok (.if_icmp .ne 7, 3) := by decide +kernel
theorem dX0_isFit_40 : decode cX0_isFit 40 = .ok (.iconst 1, 1) := by decide +kernel
theorem dX0_isFit_41 : decode cX0_isFit 41 = .ok (.goto 4, 3) := by decide +kernel
theorem dX0_isFit_44 : decode cX0_isFit 44 = .ok (.iconst 0, 1) := by decide +kernel
theorem dX0_isFit_45 : decode cX0_isFit 45 = .ok (.istore_n 1, 1) := by decide +kernel
theorem dX0_isFit_46 : decode cX0_isFit 46 = .ok (.iload_n 1, 1) := by decide +kernel
theorem dX0_isFit_47 : decode cX0_isFit 47 = .ok (.if_ .eq 14, 3) := by decide +kernel
theorem dX0_isFit_50 : decode cX0_isFit 50 = .ok (.aload_n 0, 1) := by decide +kernel
theorem dX0_isFit_51 : decode cX0_isFit 51 = .ok (.getfield 9, 3) := by decide +kernel
theorem dX0_isFit_54 : decode cX0_isFit 54 = .ok (.iconst 1, 1) := by decide +kernel
theorem dX0_isFit_55 : decode cX0_isFit 55 = .ok (.iaload, 1) := by decide +kernel
theorem dX0_isFit_56 : decode cX0_isFit 56 = .ok (.bipush 15, 2) := by decide +kernel
theorem dX0_isFit_58 : decode cX0_isFit 58 = .ok (.if_icmp .lt 5, 3) := by decide +kernel
theorem dX0_isFit_61 : decode cX0_isFit 61 = .ok (.iconst 0, 1) := by decide +kernel
theorem dX0_isFit_62 : decode cX0_isFit 62 = .ok (.ireturn, 1) := by decide +kernel
theorem dX0_isFit_63 : decode cX0_isFit 63 = .ok (.aload_n 0, 1) := by decide +kernel
theorem dX0_isFit_64 : decode cX0_isFit 64 = .ok (.getfield 9, 3) := by decide +kernel
theorem dX0_isFit_67 : decode cX0_isFit 67 = .ok (.iconst 3, 1) := by decide +kernel
theorem dX0_isFit_68 : decode cX0_isFit 68 = .ok (.iaload, 1) := by decide +kernel
theorem dX0_isFit_69 : decode cX0_isFit 69 = .ok (.bipush 16, 2) := by decide +kernel
theorem dX0_isFit_71 : decode cX0_isFit 71 = .ok (.if_icmp .ge 14, 3) := by decide +kernel
theorem dX0_isFit_74 : decode cX0_isFit 74 = .ok (.aload_n 0, 1) := by decide +kernel
theorem dX0_isFit_75 : decode cX0_isFit 75 = .ok (.getfield 9, 3) := by decide +kernel
theorem dX0_isFit_78 : decode cX0_isFit 78 = .ok (.iconst 4, 1) := by decide +kernel
theorem dX0_isFit_79 : decode cX0_isFit 79 = .ok (.iaload, 1) := by decide +kernel
theorem dX0_isFit_80 : decode cX0_isFit 80 = .ok (.bipush 16, 2) := by decide +kernel
theorem dX0_isFit_82 : decode cX0_isFit 82 = .ok (.if_icmp .lt 5, 3) := by decide +kernel
theorem dX0_isFit_85 : decode cX0_isFit 85 = .ok (.iconst 0, 1) := by decide +kernel
theorem dX0_isFit_86 : decode cX0_isFit 86 = .ok (.ireturn, 1) := by decide +kernel
theorem dX0_isFit_87 : decode cX0_isFit 87 = .ok (.aload_n 0, 1) := by decide +kernel
theorem dX0_isFit_88 : decode cX0_isFit 88 = .ok (.getfield 9, 3) := by decide +kernel
theorem dX0_isFit_91 : decode cX0_isFit 91 = .ok (.iconst 2, 1) := by decide +kernel
theorem dX0_isFit_92 : decode cX0_isFit 92 = .ok (.iaload, 1) := by decide +kernel
theorem dX0_isFit_93 : decode cX0_isFit 93 = .ok (.iconst 1, 1) := by decide +kernel
theorem dX0_isFit_94 : decode cX0_isFit 94 = .ok (.if_icmp .eq 13, 3) := by decide +kernel
theorem dX0_isFit_97 : decode cX0_isFit 97 = .ok (.aload_n 0, 1) := by decide +kernel
theorem dX0_isFit_98 : decode cX0_isFit 98 = .ok (.getfield 9, 3) := by decide +kernel
theorem dX0_isFit_101 : decode cX0_isFit 101 = .ok (.iconst 2, 1) := by decide +kernel
theorem dX0_isFit_102 : decode cX0_isFit 102 = .ok (.iaload, 1) := by decide +kernel
theorem dX0_isFit_103 : decode cX0_isFit 103 = .ok (.iconst 2, 1) := by decide +kernel
theorem dX0_isFit_104 : decode cX0_isFit 104 = .ok (.if_icmp .ne 17, 3) := by decide +kernel
theorem dX0_isFit_107 : decode cX0_isFit 107 = .ok (.aload_n 0, 1) := by decide +kernel
theorem dX0_isFit_108 : decode cX0_isFit 108 = .ok (.getfield 15, 3) := by decide +kernel
theorem dX0_isFit_111 : decode cX0_isFit 111 = .ok (.iconst 5, 1) := by decide +kernel
theorem dX0_isFit_112 : decode cX0_isFit 112 = .ok (.if_icmp .ne 7, 3) := by decide +kernel
theorem dX0_isFit_115 : decode cX0_isFit 115 = .ok (.iconst 1, 1) := by decide +kernel
theorem dX0_isFit_116 : decode cX0_isFit 116 = .ok (.goto 4, 3) := by decide +kernel
theorem dX0_isFit_119 : decode cX0_isFit 119 = .ok (.iconst 0, 1) := by decide +kernel
theorem dX0_isFit_120 : decode cX0_isFit 120 = .ok (.ireturn, 1) := by decide +kernel
theorem dX0_isFit_121 : decode cX0_isFit 121 = .ok (.aload_n 0, 1) := by decide +kernel
theorem dX0_isFit_122 : decode cX0_isFit 122 = .ok (.getfield 9, 3) := by decide +kernel
theorem dX0_isFit_125 : decode cX0_isFit 125 = .ok (.iconst 2, 1) := by decide +kernel
theorem dX0_isFit_126 : decode cX0_isFit 126 = .ok (.iaload, 1) := by decide +kernel
theorem dX0_isFit_127 : decode cX0_isFit 127 = .ok (.iconst 3, 1) := by decide +kernel
theorem dX0_isFit_128 : decode cX0_isFit 128 = .ok (.if_icmp .ne 14, 3) := by decide +kernel
theorem dX0_isFit_131 : decode cX0_isFit 131 = .ok (.aload_n 0, 1) := by decide +kernel
theorem dX0_isFit_132 : decode cX0_isFit 132 = .ok (.invokevirtual 19, 3) := by decide +kernel
theorem dX0_isFit_135 : decode cX0_isFit 135 = .ok (.if_ .eq 7, 3) := by decide +kernel
theorem dX0_isFit_138 : decode cX0_isFit 138 = .ok (.iconst 1, 1) := by decide +kernel
theorem dX0_isFit_139 : decode cX0_isFit 139 = .ok (.goto 4, 3) := by decide +kernel
theorem dX0_isFit_142 : decode cX0_isFit 142 = .ok (.iconst 0, 1) := by decide +kernel
theorem dX0_isFit_143 : decode cX0_isFit 143 = .ok (.ireturn, 1) := by decide +kernel
theorem dX0_isFitDatagram_0 : decode cX0_isFitDatagram 0 = .ok (.aload_n 0, 1) := by decide +kernel
theorem dX0_isFitDatagram_1 : decode cX0_isFitDatagram 1 = .ok (.getfield 15, 3) := by decide +kernel
theorem dX0_isFitDatagram_4 : decode cX0_isFitDatagram 4 = .ok (.bipush 9, 2) := by decide +kernel
theorem dX0_isFitDatagram_6 : decode cX0_isFitDatagram 6 = .ok (.if_icmp .lt 38, 3) := by decide +kernel
theorem dX0_isFitDatagram_9 : decode cX0_isFitDatagram 9 = .ok (.aload_n 0, 1) := by decide +kernel
theorem dX0_isFitDatagram_10 : decode cX0_isFitDatagram 10 = .ok (.getfield 9, 3) := by decide +kernel
theorem dX0_isFitDatagram_13 : decode cX0_isFitDatagram 13 = .ok (.iconst 4, 1) := by decide +kernel
theorem dX0_isFitDatagram_14 : decode cX0_isFitDatagram 14 = .ok (.iaload, 1) := by decide +kernel
theorem dX0_isFitDatagram_15 : decode cX0_isFitDatagram 15 = .ok (.iconst 1, 1) := by decide +kernel
theorem dX0_isFitDatagram_16 : decode cX0_isFitDatagram 16 = .ok (.if_icmp .ne 28, 3) := by decide +kernel
theorem dX0_isFitDatagram_19 : decode cX0_isFitDatagram 19 = .ok (.aload_n 0, 1) := by decide +kernel
theorem dX0_isFitDatagram_20 : decode cX0_isFitDatagram 20 = .ok (.invokevirtual 23, 3) := by decide +kernel
theorem dX0_isFitDatagram_23 : decode cX0_isFitDatagram 23 = .ok (.if_ .eq 21, 3) := by decide +kernel
theorem dX0_isFitDatagram_26 : decode cX0_isFitDatagram 26 = .ok (.aload_n 0, 1) := by decide +kernel
theorem dX0_isFitDatagram_27 : decode cX0_isFitDatagram 27 = .ok (.invokevirtual 26, 3) := by decide +kernel
theorem dX0_isFitDatagram_30 : decode cX0_isFitDatagram 30 = .ok (.if_ .ne 10, 3) := by decide +kernel
theorem dX0_isFitDatagram_33 : decode cX0_isFitDatagram 33 = .ok (.aload_n 0, 1) := by decide +kernel
theorem dX0_isFitDatagram_34 : decode cX0_isFitDatagram 34 = .ok (.invokevirtual 29, 3) := by decide +kernel
theorem dX0_isFitDatagram_37 : decode cX0_isFitDatagram 37 = .ok (.if_ .eq 7, 3) := by decide +kernel
theorem dX0_isFitDatagram_40 : decode cX0_isFitDatagram 40 = .ok (.iconst 1, 1) := by decide +kernel
theorem dX0_isFitDatagram_41 : decode cX0_isFitDatagram 41 = .ok (.goto 4, 3) := by decide +kernel
theorem dX0_isFitDatagram_44 : decode cX0_isFitDatagram 44 = .ok (.iconst 0, 1) := by decide +kernel
theorem dX0_isFitDatagram_45 : decode cX0_isFitDatagram 45 = .ok (.ireturn, 1) := by decide +kernel
theorem dX0_sumsToZero_0 : decode cX0_sumsToZero 0 = .ok (.iconst 0, 1) := by decide +kernel
theorem dX0_sumsToZero_1 : decode cX0_sumsToZero 1 = .ok (.istore_n 1, 1) := by decide +kernel
theorem dX0_sumsToZero_2 : decode cX0_sumsToZero 2 = .ok (.iconst 3, 1) := by decide +kernel
theorem dX0_sumsToZero_3 : decode cX0_sumsToZero 3 = .ok (.istore_n 2, 1) := by decide +kernel
theorem dX0_sumsToZero_4 : decode cX0_sumsToZero 4 = .ok (.iload_n 2, 1) := by decide +kernel
theorem dX0_sumsToZero_5 : decode cX0_sumsToZero 5 = .ok (.aload_n 0, 1) := by decide +kernel
theorem dX0_sumsToZero_6 : decode cX0_sumsToZero 6 = .ok (.getfield 15, 3) := by decide +kernel
theorem dX0_sumsToZero_9 : decode cX0_sumsToZero 9 = .ok (.if_icmp .ge 18, 3) := by decide +kernel
theorem dX0_sumsToZero_12 : decode cX0_sumsToZero 12 = .ok (.iload_n 1, 1) := by decide +kernel
theorem dX0_sumsToZero_13 : decode cX0_sumsToZero 13 = .ok (.aload_n 0, 1) := by decide +kernel
theorem dX0_sumsToZero_14 : decode cX0_sumsToZero 14 = .ok (.getfield 9, 3) := by decide +kernel
theorem dX0_sumsToZero_17 : decode cX0_sumsToZero 17 = .ok (.iload_n 2, 1) := by decide +kernel
theorem dX0_sumsToZero_18 : decode cX0_sumsToZero 18 = .ok (.iaload, 1) := by decide +kernel
theorem dX0_sumsToZero_19 : decode cX0_sumsToZero 19 = .ok (.iadd, 1) := by decide +kernel
theorem dX0_sumsToZero_20 : decode cX0_sumsToZero 20 = .ok (.istore_n 1, 1) := by decide +kernel
theorem dX0_sumsToZero_21 : decode cX0_sumsToZero 21 = .ok (.iinc 2 1, 3) := by decide +kernel
theorem dX0_sumsToZero_24 : decode cX0_sumsToZero 24 = .ok (.goto (-20), 3) := by decide +kernel
theorem dX0_sumsToZero_27 : decode cX0_sumsToZero 27 = .ok (.iload_n 1, 1) := by decide +kernel
theorem dX0_sumsToZero_28 : decode cX0_sumsToZero 28 = .ok (.sipush 255, 3) := by decide +kernel
theorem dX0_sumsToZero_31 : decode cX0_sumsToZero 31 = .ok (.iand, 1) := by decide +kernel
theorem dX0_sumsToZero_32 : decode cX0_sumsToZero 32 = .ok (.if_ .ne 7, 3) := by decide +kernel
theorem dX0_sumsToZero_35 : decode cX0_sumsToZero 35 = .ok (.iconst 1, 1) := by decide +kernel
theorem dX0_sumsToZero_36 : decode cX0_sumsToZero 36 = .ok (.goto 4, 3) := by decide +kernel
theorem dX0_sumsToZero_39 : decode cX0_sumsToZero 39 = .ok (.iconst 0, 1) := by decide +kernel
theorem dX0_sumsToZero_40 : decode cX0_sumsToZero 40 = .ok (.ireturn, 1) := by decide +kernel
theorem dX0_isFitFragment_0 : decode cX0_isFitFragment 0 = .ok (.aload_n 0, 1) := by decide +kernel
theorem dX0_isFitFragment_1 : decode cX0_isFitFragment 1 = .ok (.invokevirtual 32, 3) := by decide +kernel
theorem dX0_isFitFragment_4 : decode cX0_isFitFragment 4 = .ok (.bipush 8, 2) := by decide +kernel
theorem dX0_isFitFragment_6 : decode cX0_isFitFragment 6 = .ok (.if_icmp .ge 12, 3) := by decide +kernel
theorem dX0_isFitFragment_9 : decode cX0_isFitFragment 9 = .ok (.aload_n 0, 1) := by decide +kernel
theorem dX0_isFitFragment_10 : decode cX0_isFitFragment 10 = .ok (.invokevirtual 36, 3) := by decide +kernel
theorem dX0_isFitFragment_13 : decode cX0_isFitFragment 13 = .ok (.bipush 32, 2) := by decide +kernel
theorem dX0_isFitFragment_15 : decode cX0_isFitFragment 15 = .ok (.if_icmp .le 5, 3) := by decide +kernel
theorem dX0_isFitFragment_18 : decode cX0_isFitFragment 18 = .ok (.iconst 0, 1) := by decide +kernel
theorem dX0_isFitFragment_19 : decode cX0_isFitFragment 19 = .ok (.ireturn, 1) := by decide +kernel
theorem dX0_isFitFragment_20 : decode cX0_isFitFragment 20 = .ok (.aload_n 0, 1) := by decide +kernel
theorem dX0_isFitFragment_21 : decode cX0_isFitFragment 21 = .ok (.invokevirtual 39, 3) := by decide +kernel
theorem dX0_isFitFragment_24 : decode cX0_isFitFragment 24 = .ok (.if_ .ne 19, 3) := by decide +kernel
theorem dX0_isFitFragment_27 : decode cX0_isFitFragment 27 = .ok (.aload_n 0, 1) := by decide +kernel
theorem dX0_isFitFragment_28 : decode cX0_isFitFragment 28 = .ok (.invokevirtual 42, 3) := by decide +kernel
theorem dX0_isFitFragment_31 : decode cX0_isFitFragment 31 = .ok (.if_ .le 16, 3) := by decide +kernel
theorem dX0_isFitFragment_34 : decode cX0_isFitFragment 34 = .ok (.aload_n 0, 1) := by decide +kernel
theorem dX0_isFitFragment_35 : decode cX0_isFitFragment 35 = .ok (.invokevirtual 42, 3) := by decide +kernel
theorem dX0_isFitFragment_38 : decode cX0_isFitFragment 38 = .ok (.iconst 4, 1) := by decide +kernel
theorem dX0_isFitFragment_39 : decode cX0_isFitFragment 39 = .ok (.irem, 1) := by decide +kernel
theorem dX0_isFitFragment_40 : decode cX0_isFitFragment 40 = .ok (.if_ .ne 7, 3) := by decide +kernel
theorem dX0_isFitFragment_43 : decode cX0_isFitFragment 43 = .ok (.iconst 1, 1) := by decide +kernel
theorem dX0_isFitFragment_44 : decode cX0_isFitFragment 44 = .ok (.goto 4, 3) := by decide +kernel
theorem dX0_isFitFragment_47 : decode cX0_isFitFragment 47 = .ok (.iconst 0, 1) := by decide +kernel
theorem dX0_isFitFragment_48 : decode cX0_isFitFragment 48 = .ok (.ireturn, 1) := by decide +kernel
theorem dX0_isWhole_0 : decode cX0_isWhole 0 = .ok (.aload_n 0, 1) := by decide +kernel
theorem dX0_isWhole_1 : decode cX0_isWhole 1 = .ok (.getfield 9, 3) := by decide +kernel
theorem dX0_isWhole_4 : decode cX0_isWhole 4 = .ok (.bipush 6, 2) := by decide +kernel
theorem dX0_isWhole_6 : decode cX0_isWhole 6 = .ok (.iaload, 1) := by decide +kernel
theorem dX0_isWhole_7 : decode cX0_isWhole 7 = .ok (.if_ .ne 7, 3) := by decide +kernel
theorem dX0_isWhole_10 : decode cX0_isWhole 10 = .ok (.iconst 1, 1) := by decide +kernel
theorem dX0_isWhole_11 : decode cX0_isWhole 11 = .ok (.goto 4, 3) := by decide +kernel
theorem dX0_isWhole_14 : decode cX0_isWhole 14 = .ok (.iconst 0, 1) := by decide +kernel
theorem dX0_isWhole_15 : decode cX0_isWhole 15 = .ok (.ireturn, 1) := by decide +kernel
theorem dX0_isEnd_0 : decode cX0_isEnd 0 = .ok (.aload_n 0, 1) := by decide +kernel
theorem dX0_isEnd_1 : decode cX0_isEnd 1 = .ok (.getfield 9, 3) := by decide +kernel
theorem dX0_isEnd_4 : decode cX0_isEnd 4 = .ok (.bipush 6, 2) := by decide +kernel
theorem dX0_isEnd_6 : decode cX0_isEnd 6 = .ok (.iaload, 1) := by decide +kernel
theorem dX0_isEnd_7 : decode cX0_isEnd 7 = .ok (.sipush 128, 3) := by decide +kernel
theorem dX0_isEnd_10 : decode cX0_isEnd 10 = .ok (.if_icmp .ge 7, 3) := by decide +kernel
theorem dX0_isEnd_13 : decode cX0_isEnd 13 = .ok (.iconst 1, 1) := by decide +kernel
theorem dX0_isEnd_14 : decode cX0_isEnd 14 = .ok (.goto 4, 3) := by decide +kernel
theorem dX0_isEnd_17 : decode cX0_isEnd 17 = .ok (.iconst 0, 1) := by decide +kernel
theorem dX0_isEnd_18 : decode cX0_isEnd 18 = .ok (.ireturn, 1) := by decide +kernel
theorem dX0_unit_0 : decode cX0_unit 0 = .ok (.aload_n 0, 1) := by decide +kernel
theorem dX0_unit_1 : decode cX0_unit 1 = .ok (.getfield 9, 3) := by decide +kernel
theorem dX0_unit_4 : decode cX0_unit 4 = .ok (.bipush 6, 2) := by decide +kernel
theorem dX0_unit_6 : decode cX0_unit 6 = .ok (.iaload, 1) := by decide +kernel
theorem dX0_unit_7 : decode cX0_unit 7 = .ok (.bipush 127, 2) := by decide +kernel
theorem dX0_unit_9 : decode cX0_unit 9 = .ok (.iand, 1) := by decide +kernel
theorem dX0_unit_10 : decode cX0_unit 10 = .ok (.ireturn, 1) := by decide +kernel
theorem dX0_size_0 : decode cX0_size 0 = .ok (.aload_n 0, 1) := by decide +kernel
theorem dX0_size_1 : decode cX0_size 1 = .ok (.getfield 15, 3) := by decide +kernel
theorem dX0_size_4 : decode cX0_size 4 = .ok (.bipush 9, 2) := by decide +kernel
theorem dX0_size_6 : decode cX0_size 6 = .ok (.isub, 1) := by decide +kernel
theorem dX0_size_7 : decode cX0_size 7 = .ok (.ireturn, 1) := by decide +kernel
theorem dX0_reach_0 : decode cX0_reach 0 = .ok (.iconst 4, 1) := by decide +kernel
theorem dX0_reach_1 : decode cX0_reach 1 = .ok (.aload_n 0, 1) := by decide +kernel
theorem dX0_reach_2 : decode cX0_reach 2 = .ok (.invokevirtual 32, 3) := by decide +kernel
theorem dX0_reach_5 : decode cX0_reach 5 = .ok (.imul, 1) := by decide +kernel
theorem dX0_reach_6 : decode cX0_reach 6 = .ok (.aload_n 0, 1) := by decide +kernel
theorem dX0_reach_7 : decode cX0_reach 7 = .ok (.invokevirtual 42, 3) := by decide +kernel
theorem dX0_reach_10 : decode cX0_reach 10 = .ok (.iadd, 1) := by decide +kernel
theorem dX0_reach_11 : decode cX0_reach 11 = .ok (.ireturn, 1) := by decide +kernel
theorem dX0_units_0 : decode cX0_units 0 = .ok (.aload_n 0, 1) := by decide +kernel
theorem dX0_units_1 : decode cX0_units 1 = .ok (.invokevirtual 42, 3) := by decide +kernel
theorem dX0_units_4 : decode cX0_units 4 = .ok (.invokestatic 45, 3) := by decide +kernel
theorem dX0_units_7 : decode cX0_units 7 = .ok (.aload_n 0, 1) := by decide +kernel
theorem dX0_units_8 : decode cX0_units 8 = .ok (.invokevirtual 32, 3) := by decide +kernel
theorem dX0_units_11 : decode cX0_units 11 = .ok (.ishl, 1) := by decide +kernel
theorem dX0_units_12 : decode cX0_units 12 = .ok (.ireturn, 1) := by decide +kernel
