theorem dX0_init_0 : decode cX0_init 0 = .ok (.aload_n 0, 1) := by decide +kernel
theorem dX0_init_1 : decode cX0_init 1 = .ok (.invokespecial 3, 3) := by decide +kernel
theorem dX0_init_4 : decode cX0_init 4 = .ok (.aload_n 0, 1) := by decide +kernel
theorem dX0_init_5 : decode cX0_init 5 = .ok (.bipush 44, 2) := by decide +kernel
theorem dX0_init_7 : decode cX0_init 7 = .ok (.newarray .int, 2) := by decide +kernel
theorem dX0_init_9 : decode cX0_init 9 = .ok (.putfield 9, 3) := by decide +kernel
theorem dX0_init_12 : decode cX0_init 12 = .ok (.return_, 1) := by decide +kernel
theorem dX0_isFit_0 : decode cX0_isFit 0 = .ok (.aload_n 0, 1) := by decide +kernel
theorem dX0_isFit_1 : decode cX0_isFit 1 = .ok (.getfield 15, 3) := by decide +kernel
theorem dX0_isFit_4 : decode cX0_isFit 4 = .ok (.iconst 5, 1) := by decide +kernel
theorem dX0_isFit_5 : decode cX0_isFit 5 = .ok (.if_icmp .lt 12, 3) := by decide +kernel
theorem dX0_isFit_8 : decode cX0_isFit 8 = .ok (.aload_n 0, 1) := by decide +kernel
theorem dX0_isFit_9 : decode cX0_isFit 9 = .ok (.getfield 15, 3) := by decide +kernel
theorem dX0_isFit_12 : decode cX0_isFit 12 = .ok (.bipush 41, 2) := by decide +kernel
theorem dX0_isFit_14 : decode cX0_isFit 14 = .ok (.if_icmp .le 5, 3) := by decide +kernel
theorem dX0_isFit_17 : decode cX0_isFit 17 = .ok (.iconst 0, 1) := by decide +kernel
theorem dX0_isFit_18 : decode cX0_isFit 18 = .ok (.ireturn, 1) := by decide +kernel
theorem dX0_isFit_19 : decode cX0_isFit 19 = .ok (.aload_n 0, 1) := by decide +kernel
theorem dX0_isFit_20 : decode cX0_isFit 20 = .ok (.getfield 9, 3) := by decide +kernel
theorem dX0_isFit_23 : decode cX0_isFit 23 = .ok (.iconst 0, 1) := by decide +kernel
theorem dX0_isFit_24 : decode cX0_isFit 24 = .ok (.iaload, 1) := by decide +kernel
theorem dX0_isFit_25 : decode cX0_isFit 25 = .ok (.iconst 1, 1) := by decide +kernel
theorem dX0_isFit_26 : decode cX0_isFit 26 = .ok (.if_icmp .eq 14, 3) := by decide +kernel
theorem dX0_isFit_29 : decode cX0_isFit 29 = .ok (.aload_n 0, 1) := by decide +kernel
theorem dX0_isFit_30 : decode cX0_isFit 30 = .ok (.getfield 9, 3) := by decide +kernel
theorem dX0_isFit_33 : decode cX0_isFit 33 = .ok (.iconst 0, 1) := by decide +kernel
theorem dX0_isFit_34 : decode cX0_isFit 34 = .ok (.iaload, 1) := by decide +kernel
theorem dX0_isFit_35 : decode cX0_isFit 35 = .ok (.bipush 15, 2) := by decide +kernel
theorem dX0_isFit_37 : decode cX0_isFit 37 = .ok (.if_icmp .ne 7, 3) := by decide +kernel
theorem dX0_isFit_40 : decode cX0_isFit 40 = .ok (.iconst 1, 1) := by decide +kernel
theorem dX0_isFit_41 : decode cX0_isFit 41 = .ok (.goto 4, 3) := by decide +kernel
theorem dX0_isFit_44 : decode cX0_isFit 44 = .ok (.iconst 0, 1) := by decide +kernel
theorem dX0_isFit_45 : decode cX0_isFit 45 = .ok (.istore_n 1, 1) := by decide +kernel
theorem dX0_isFit_46 : decode cX0_isFit 46 = .ok (.iload_n 1, 1) := by decide +kernel
theorem dX0_isFit_47 : decode cX0_isFit 47 = .ok (.ifCond .eq 14, 3) := by decide +kernel
theorem dX0_isFit_50 : decode cX0_isFit 50 = .ok (.aload_n 0, 1) := by decide +kernel
theorem dX0_isFit_51 : decode cX0_isFit 51 = .ok (.getfield 9, 3) := by decide +kernel
theorem dX0_isFit_54 : decode cX0_isFit 54 = .ok (.iconst 1, 1) := by decide +kernel
theorem dX0_isFit_55 : decode cX0_isFit 55 = .ok (.iaload, 1) := by decide +kernel
theorem dX0_isFit_56 : decode cX0_isFit 56 = .ok (.bipush 15, 2) := by decide +kernel
theorem dX0_isFit_58 : decode cX0_isFit 58 = .ok (.if_icmp .lt 5, 3) := by decide +kernel
theorem dX0_isFit_61 : decode cX0_isFit 61 = .ok (.iconst 0, 1) := by decide +kernel
theorem dX0_isFit_62 : decode cX0_isFit 62 = .ok (.ireturn, 1) := by decide +kernel
theorem dX0_isFit_63 : decode cX0_isFit 63 = .ok (.aload_n 0, 1) := by decide +kernel
theorem dX0_isFit_64 : decode cX0_isFit 64 = .ok (.getfield 9, 3) := by decide +kernel
theorem dX0_isFit_67 : decode cX0_isFit 67 = .ok (.iconst 3, 1) := by decide +kernel
theorem dX0_isFit_68 : decode cX0_isFit 68 = .ok (.iaload, 1) := by decide +kernel
theorem dX0_isFit_69 : decode cX0_isFit 69 = .ok (.bipush 16, 2) := by decide +kernel
theorem dX0_isFit_71 : decode cX0_isFit 71 = .ok (.if_icmp .ge 14, 3) := by decide +kernel
theorem dX0_isFit_74 : decode cX0_isFit 74 = .ok (.aload_n 0, 1) := by decide +kernel
theorem dX0_isFit_75 : decode cX0_isFit 75 = .ok (.getfield 9, 3) := by decide +kernel
theorem dX0_isFit_78 : decode cX0_isFit 78 = .ok (.iconst 4, 1) := by decide +kernel
theorem dX0_isFit_79 : decode cX0_isFit 79 = .ok (.iaload, 1) := by decide +kernel
theorem dX0_isFit_80 : decode cX0_isFit 80 = .ok (.bipush 16, 2) := by decide +kernel
theorem dX0_isFit_82 : decode cX0_isFit 82 = .ok (.if_icmp .lt 5, 3) := by decide +kernel
theorem dX0_isFit_85 : decode cX0_isFit 85 = .ok (.iconst 0, 1) := by decide +kernel
theorem dX0_isFit_86 : decode cX0_isFit 86 = .ok (.ireturn, 1) := by decide +kernel
theorem dX0_isFit_87 : decode cX0_isFit 87 = .ok (.aload_n 0, 1) := by decide +kernel
theorem dX0_isFit_88 : decode cX0_isFit 88 = .ok (.getfield 9, 3) := by decide +kernel
theorem dX0_isFit_91 : decode cX0_isFit 91 = .ok (.iconst 2, 1) := by decide +kernel
theorem dX0_isFit_92 : decode cX0_isFit 92 = .ok (.iaload, 1) := by decide +kernel
theorem dX0_isFit_93 : decode cX0_isFit 93 = .ok (.iconst 1, 1) := by decide +kernel
theorem dX0_isFit_94 : decode cX0_isFit 94 = .ok (.if_icmp .eq 13, 3) := by decide +kernel
theorem dX0_isFit_97 : decode cX0_isFit 97 = .ok (.aload_n 0, 1) := by decide +kernel
theorem dX0_isFit_98 : decode cX0_isFit 98 = .ok (.getfield 9, 3) := by decide +kernel
theorem dX0_isFit_101 : decode cX0_isFit 101 = .ok (.iconst 2, 1) := by decide +kernel
theorem dX0_isFit_102 : decode cX0_isFit 102 = .ok (.iaload, 1) := by decide +kernel
theorem dX0_isFit_103 : decode cX0_isFit 103 = .ok (.iconst 2, 1) := by decide +kernel
theorem dX0_isFit_104 : decode cX0_isFit 104 = .ok (.if_icmp .ne 17, 3) := by decide +kernel
theorem dX0_isFit_107 : decode cX0_isFit 107 = .ok (.aload_n 0, 1) := by decide +kernel
theorem dX0_isFit_108 : decode cX0_isFit 108 = .ok (.getfield 15, 3) := by decide +kernel
theorem dX0_isFit_111 : decode cX0_isFit 111 = .ok (.iconst 5, 1) := by decide +kernel
theorem dX0_isFit_112 : decode cX0_isFit 112 = .ok (.if_icmp .ne 7, 3) := by decide +kernel
theorem dX0_isFit_115 : decode cX0_isFit 115 = .ok (.iconst 1, 1) := by decide +kernel
theorem dX0_isFit_116 : decode cX0_isFit 116 = .ok (.goto 4, 3) := by decide +kernel
theorem dX0_isFit_119 : decode cX0_isFit 119 = .ok (.iconst 0, 1) := by decide +kernel
theorem dX0_isFit_120 : decode cX0_isFit 120 = .ok (.ireturn, 1) := by decide +kernel
theorem dX0_isFit_121 : decode cX0_isFit 121 = .ok (.aload_n 0, 1) := by decide +kernel
theorem dX0_isFit_122 : decode cX0_isFit 122 = .ok (.getfield 9, 3) := by decide +kernel
theorem dX0_isFit_125 : decode cX0_isFit 125 = .ok (.iconst 2, 1) := by decide +kernel
theorem dX0_isFit_126 : decode cX0_isFit 126 = .ok (.iaload, 1) := by decide +kernel
theorem dX0_isFit_127 : decode cX0_isFit 127 = .ok (.iconst 3, 1) := by decide +kernel
theorem dX0_isFit_128 : decode cX0_isFit 128 = .ok (.if_icmp .ne 14, 3) := by decide +kernel
theorem dX0_isFit_131 : decode cX0_isFit 131 = .ok (.aload_n 0, 1) := by decide +kernel
theorem dX0_isFit_132 : decode cX0_isFit 132 = .ok (.invokevirtual 19, 3) := by decide +kernel
theorem dX0_isFit_135 : decode cX0_isFit 135 = .ok (.ifCond .eq 7, 3) := by decide +kernel
theorem dX0_isFit_138 : decode cX0_isFit 138 = .ok (.iconst 1, 1) := by decide +kernel
theorem dX0_isFit_139 : decode cX0_isFit 139 = .ok (.goto 4, 3) := by decide +kernel
theorem dX0_isFit_142 : decode cX0_isFit 142 = .ok (.iconst 0, 1) := by decide +kernel
theorem dX0_isFit_143 : decode cX0_isFit 143 = .ok (.ireturn, 1) := by decide +kernel
theorem dX0_isFitDatagram_0 : decode cX0_isFitDatagram 0 = .ok (.aload_n 0, 1) := by decide +kernel
theorem dX0_isFitDatagram_1 : decode cX0_isFitDatagram 1 = .ok (.getfield 15, 3) := by decide +kernel
theorem dX0_isFitDatagram_4 : decode cX0_isFitDatagram 4 = .ok (.bipush 9, 2) := by decide +kernel
theorem dX0_isFitDatagram_6 : decode cX0_isFitDatagram 6 = .ok (.if_icmp .lt 38, 3) := by decide +kernel
theorem dX0_isFitDatagram_9 : decode cX0_isFitDatagram 9 = .ok (.aload_n 0, 1) := by decide +kernel
theorem dX0_isFitDatagram_10 : decode cX0_isFitDatagram 10 = .ok (.getfield 9, 3) := by decide +kernel
theorem dX0_isFitDatagram_13 : decode cX0_isFitDatagram 13 = .ok (.iconst 4, 1) := by decide +kernel
theorem dX0_isFitDatagram_14 : decode cX0_isFitDatagram 14 = .ok (.iaload, 1) := by decide +kernel
theorem dX0_isFitDatagram_15 : decode cX0_isFitDatagram 15 = .ok (.iconst 1, 1) := by decide +kernel
theorem dX0_isFitDatagram_16 : decode cX0_isFitDatagram 16 = .ok (.if_icmp .ne 28, 3) := by decide +kernel
theorem dX0_isFitDatagram_19 : decode cX0_isFitDatagram 19 = .ok (.aload_n 0, 1) := by decide +kernel
theorem dX0_isFitDatagram_20 : decode cX0_isFitDatagram 20 = .ok (.invokevirtual 23, 3) := by decide +kernel
theorem dX0_isFitDatagram_23 : decode cX0_isFitDatagram 23 = .ok (.ifCond .eq 21, 3) := by decide +kernel
theorem dX0_isFitDatagram_26 : decode cX0_isFitDatagram 26 = .ok (.aload_n 0, 1) := by decide +kernel
theorem dX0_isFitDatagram_27 : decode cX0_isFitDatagram 27 = .ok (.invokevirtual 26, 3) := by decide +kernel
theorem dX0_isFitDatagram_30 : decode cX0_isFitDatagram 30 = .ok (.ifCond .ne 10, 3) := by decide +kernel
theorem dX0_isFitDatagram_33 : decode cX0_isFitDatagram 33 = .ok (.aload_n 0, 1) := by decide +kernel
theorem dX0_isFitDatagram_34 : decode cX0_isFitDatagram 34 = .ok (.invokevirtual 29, 3) := by decide +kernel
theorem dX0_isFitDatagram_37 : decode cX0_isFitDatagram 37 = .ok (.ifCond .eq 7, 3) := by decide +kernel
theorem dX0_isFitDatagram_40 : decode cX0_isFitDatagram 40 = .ok (.iconst 1, 1) := by decide +kernel
theorem dX0_isFitDatagram_41 : decode cX0_isFitDatagram 41 = .ok (.goto 4, 3) := by decide +kernel
theorem dX0_isFitDatagram_44 : decode cX0_isFitDatagram 44 = .ok (.iconst 0, 1) := by decide +kernel
theorem dX0_isFitDatagram_45 : decode cX0_isFitDatagram 45 = .ok (.ireturn, 1) := by decide +kernel
theorem dX0_sumsToZero_0 : decode cX0_sumsToZero 0 = .ok (.iconst 0, 1) := by decide +kernel
theorem dX0_sumsToZero_1 : decode cX0_sumsToZero 1 = .ok (.istore_n 1, 1) := by decide +kernel
theorem dX0_sumsToZero_2 : decode cX0_sumsToZero 2 = .ok (.iconst 3, 1) := by decide +kernel
theorem dX0_sumsToZero_3 : decode cX0_sumsToZero 3 = .ok (.istore_n 2, 1) := by decide +kernel
theorem dX0_sumsToZero_4 : decode cX0_sumsToZero 4 = .ok (.iload_n 2, 1) := by decide +kernel
theorem dX0_sumsToZero_5 : decode cX0_sumsToZero 5 = .ok (.aload_n 0, 1) := by decide +kernel
theorem dX0_sumsToZero_6 : decode cX0_sumsToZero 6 = .ok (.getfield 15, 3) := by decide +kernel
theorem dX0_sumsToZero_9 : decode cX0_sumsToZero 9 = .ok (.if_icmp .ge 18, 3) := by decide +kernel
theorem dX0_sumsToZero_12 : decode cX0_sumsToZero 12 = .ok (.iload_n 1, 1) := by decide +kernel
theorem dX0_sumsToZero_13 : decode cX0_sumsToZero 13 = .ok (.aload_n 0, 1) := by decide +kernel
theorem dX0_sumsToZero_14 : decode cX0_sumsToZero 14 = .ok (.getfield 9, 3) := by decide +kernel
theorem dX0_sumsToZero_17 : decode cX0_sumsToZero 17 = .ok (.iload_n 2, 1) := by decide +kernel
theorem dX0_sumsToZero_18 : decode cX0_sumsToZero 18 = .ok (.iaload, 1) := by decide +kernel
theorem dX0_sumsToZero_19 : decode cX0_sumsToZero 19 = .ok (.iadd, 1) := by decide +kernel
theorem dX0_sumsToZero_20 : decode cX0_sumsToZero 20 = .ok (.istore_n 1, 1) := by decide +kernel
theorem dX0_sumsToZero_21 : decode cX0_sumsToZero 21 = .ok (.iinc 2 1, 3) := by decide +kernel
theorem dX0_sumsToZero_24 : decode cX0_sumsToZero 24 = .ok (.goto (-20), 3) := by decide +kernel
theorem dX0_sumsToZero_27 : decode cX0_sumsToZero 27 = .ok (.iload_n 1, 1) := by decide +kernel
theorem dX0_sumsToZero_28 : decode cX0_sumsToZero 28 = .ok (.sipush 255, 3) := by decide +kernel
theorem dX0_sumsToZero_31 : decode cX0_sumsToZero 31 = .ok (.iand, 1) := by decide +kernel
theorem dX0_sumsToZero_32 : decode cX0_sumsToZero 32 = .ok (.ifCond .ne 7, 3) := by decide +kernel
theorem dX0_sumsToZero_35 : decode cX0_sumsToZero 35 = .ok (.iconst 1, 1) := by decide +kernel
theorem dX0_sumsToZero_36 : decode cX0_sumsToZero 36 = .ok (.goto 4, 3) := by decide +kernel
theorem dX0_sumsToZero_39 : decode cX0_sumsToZero 39 = .ok (.iconst 0, 1) := by decide +kernel
theorem dX0_sumsToZero_40 : decode cX0_sumsToZero 40 = .ok (.ireturn, 1) := by decide +kernel
theorem dX0_isFitFragment_0 : decode cX0_isFitFragment 0 = .ok (.aload_n 0, 1) := by decide +kernel
theorem dX0_isFitFragment_1 : decode cX0_isFitFragment 1 = .ok (.invokevirtual 32, 3) := by decide +kernel
theorem dX0_isFitFragment_4 : decode cX0_isFitFragment 4 = .ok (.bipush 8, 2) := by decide +kernel
theorem dX0_isFitFragment_6 : decode cX0_isFitFragment 6 = .ok (.if_icmp .ge 12, 3) := by decide +kernel
theorem dX0_isFitFragment_9 : decode cX0_isFitFragment 9 = .ok (.aload_n 0, 1) := by decide +kernel
theorem dX0_isFitFragment_10 : decode cX0_isFitFragment 10 = .ok (.invokevirtual 36, 3) := by decide +kernel
theorem dX0_isFitFragment_13 : decode cX0_isFitFragment 13 = .ok (.bipush 32, 2) := by decide +kernel
theorem dX0_isFitFragment_15 : decode cX0_isFitFragment 15 = .ok (.if_icmp .le 5, 3) := by decide +kernel
theorem dX0_isFitFragment_18 : decode cX0_isFitFragment 18 = .ok (.iconst 0, 1) := by decide +kernel
theorem dX0_isFitFragment_19 : decode cX0_isFitFragment 19 = .ok (.ireturn, 1) := by decide +kernel
theorem dX0_isFitFragment_20 : decode cX0_isFitFragment 20 = .ok (.aload_n 0, 1) := by decide +kernel
theorem dX0_isFitFragment_21 : decode cX0_isFitFragment 21 = .ok (.invokevirtual 39, 3) := by decide +kernel
theorem dX0_isFitFragment_24 : decode cX0_isFitFragment 24 = .ok (.ifCond .ne 19, 3) := by decide +kernel
theorem dX0_isFitFragment_27 : decode cX0_isFitFragment 27 = .ok (.aload_n 0, 1) := by decide +kernel
theorem dX0_isFitFragment_28 : decode cX0_isFitFragment 28 = .ok (.invokevirtual 42, 3) := by decide +kernel
theorem dX0_isFitFragment_31 : decode cX0_isFitFragment 31 = .ok (.ifCond .le 16, 3) := by decide +kernel
theorem dX0_isFitFragment_34 : decode cX0_isFitFragment 34 = .ok (.aload_n 0, 1) := by decide +kernel
theorem dX0_isFitFragment_35 : decode cX0_isFitFragment 35 = .ok (.invokevirtual 42, 3) := by decide +kernel
theorem dX0_isFitFragment_38 : decode cX0_isFitFragment 38 = .ok (.iconst 4, 1) := by decide +kernel
theorem dX0_isFitFragment_39 : decode cX0_isFitFragment 39 = .ok (.irem, 1) := by decide +kernel
theorem dX0_isFitFragment_40 : decode cX0_isFitFragment 40 = .ok (.ifCond .ne 7, 3) := by decide +kernel
theorem dX0_isFitFragment_43 : decode cX0_isFitFragment 43 = .ok (.iconst 1, 1) := by decide +kernel
theorem dX0_isFitFragment_44 : decode cX0_isFitFragment 44 = .ok (.goto 4, 3) := by decide +kernel
theorem dX0_isFitFragment_47 : decode cX0_isFitFragment 47 = .ok (.iconst 0, 1) := by decide +kernel
theorem dX0_isFitFragment_48 : decode cX0_isFitFragment 48 = .ok (.ireturn, 1) := by decide +kernel
theorem dX0_isWhole_0 : decode cX0_isWhole 0 = .ok (.aload_n 0, 1) := by decide +kernel
theorem dX0_isWhole_1 : decode cX0_isWhole 1 = .ok (.getfield 9, 3) := by decide +kernel
theorem dX0_isWhole_4 : decode cX0_isWhole 4 = .ok (.bipush 6, 2) := by decide +kernel
theorem dX0_isWhole_6 : decode cX0_isWhole 6 = .ok (.iaload, 1) := by decide +kernel
theorem dX0_isWhole_7 : decode cX0_isWhole 7 = .ok (.ifCond .ne 7, 3) := by decide +kernel
theorem dX0_isWhole_10 : decode cX0_isWhole 10 = .ok (.iconst 1, 1) := by decide +kernel
theorem dX0_isWhole_11 : decode cX0_isWhole 11 = .ok (.goto 4, 3) := by decide +kernel
theorem dX0_isWhole_14 : decode cX0_isWhole 14 = .ok (.iconst 0, 1) := by decide +kernel
theorem dX0_isWhole_15 : decode cX0_isWhole 15 = .ok (.ireturn, 1) := by decide +kernel
theorem dX0_isEnd_0 : decode cX0_isEnd 0 = .ok (.aload_n 0, 1) := by decide +kernel
theorem dX0_isEnd_1 : decode cX0_isEnd 1 = .ok (.getfield 9, 3) := by decide +kernel
theorem dX0_isEnd_4 : decode cX0_isEnd 4 = .ok (.bipush 6, 2) := by decide +kernel
theorem dX0_isEnd_6 : decode cX0_isEnd 6 = .ok (.iaload, 1) := by decide +kernel
theorem dX0_isEnd_7 : decode cX0_isEnd 7 = .ok (.sipush 128, 3) := by decide +kernel
theorem dX0_isEnd_10 : decode cX0_isEnd 10 = .ok (.if_icmp .ge 7, 3) := by decide +kernel
theorem dX0_isEnd_13 : decode cX0_isEnd 13 = .ok (.iconst 1, 1) := by decide +kernel
theorem dX0_isEnd_14 : decode cX0_isEnd 14 = .ok (.goto 4, 3) := by decide +kernel
theorem dX0_isEnd_17 : decode cX0_isEnd 17 = .ok (.iconst 0, 1) := by decide +kernel
theorem dX0_isEnd_18 : decode cX0_isEnd 18 = .ok (.ireturn, 1) := by decide +kernel
theorem dX0_unit_0 : decode cX0_unit 0 = .ok (.aload_n 0, 1) := by decide +kernel
theorem dX0_unit_1 : decode cX0_unit 1 = .ok (.getfield 9, 3) := by decide +kernel
theorem dX0_unit_4 : decode cX0_unit 4 = .ok (.bipush 6, 2) := by decide +kernel
theorem dX0_unit_6 : decode cX0_unit 6 = .ok (.iaload, 1) := by decide +kernel
theorem dX0_unit_7 : decode cX0_unit 7 = .ok (.bipush 127, 2) := by decide +kernel
theorem dX0_unit_9 : decode cX0_unit 9 = .ok (.iand, 1) := by decide +kernel
theorem dX0_unit_10 : decode cX0_unit 10 = .ok (.ireturn, 1) := by decide +kernel
theorem dX0_size_0 : decode cX0_size 0 = .ok (.aload_n 0, 1) := by decide +kernel
theorem dX0_size_1 : decode cX0_size 1 = .ok (.getfield 15, 3) := by decide +kernel
theorem dX0_size_4 : decode cX0_size 4 = .ok (.bipush 9, 2) := by decide +kernel
theorem dX0_size_6 : decode cX0_size 6 = .ok (.isub, 1) := by decide +kernel
theorem dX0_size_7 : decode cX0_size 7 = .ok (.ireturn, 1) := by decide +kernel
theorem dX0_reach_0 : decode cX0_reach 0 = .ok (.iconst 4, 1) := by decide +kernel
theorem dX0_reach_1 : decode cX0_reach 1 = .ok (.aload_n 0, 1) := by decide +kernel
theorem dX0_reach_2 : decode cX0_reach 2 = .ok (.invokevirtual 32, 3) := by decide +kernel
theorem dX0_reach_5 : decode cX0_reach 5 = .ok (.imul, 1) := by decide +kernel
theorem dX0_reach_6 : decode cX0_reach 6 = .ok (.aload_n 0, 1) := by decide +kernel
theorem dX0_reach_7 : decode cX0_reach 7 = .ok (.invokevirtual 42, 3) := by decide +kernel
theorem dX0_reach_10 : decode cX0_reach 10 = .ok (.iadd, 1) := by decide +kernel
theorem dX0_reach_11 : decode cX0_reach 11 = .ok (.ireturn, 1) := by decide +kernel
theorem dX0_units_0 : decode cX0_units 0 = .ok (.aload_n 0, 1) := by decide +kernel
theorem dX0_units_1 : decode cX0_units 1 = .ok (.invokevirtual 42, 3) := by decide +kernel
theorem dX0_units_4 : decode cX0_units 4 = .ok (.invokestatic 45, 3) := by decide +kernel
theorem dX0_units_7 : decode cX0_units 7 = .ok (.aload_n 0, 1) := by decide +kernel
theorem dX0_units_8 : decode cX0_units 8 = .ok (.invokevirtual 32, 3) := by decide +kernel
theorem dX0_units_11 : decode cX0_units 11 = .ok (.ishl, 1) := by decide +kernel
theorem dX0_units_12 : decode cX0_units 12 = .ok (.ireturn, 1) := by decide +kernel
theorem dX1_init_0 : decode cX1_init 0 = .ok (.aload_n 0, 1) := by decide +kernel
theorem dX1_init_1 : decode cX1_init 1 = .ok (.invokespecial 3, 3) := by decide +kernel
theorem dX1_init_4 : decode cX1_init 4 = .ok (.aload_n 0, 1) := by decide +kernel
theorem dX1_init_5 : decode cX1_init 5 = .ok (.bipush 32, 2) := by decide +kernel
theorem dX1_init_7 : decode cX1_init 7 = .ok (.newarray .int, 2) := by decide +kernel
theorem dX1_init_9 : decode cX1_init 9 = .ok (.putfield 9, 3) := by decide +kernel
theorem dX1_init_12 : decode cX1_init 12 = .ok (.return_, 1) := by decide +kernel
theorem dX1_begin_0 : decode cX1_begin 0 = .ok (.aload_n 0, 1) := by decide +kernel
theorem dX1_begin_1 : decode cX1_begin 1 = .ok (.iconst 1, 1) := by decide +kernel
theorem dX1_begin_2 : decode cX1_begin 2 = .ok (.putfield 15, 3) := by decide +kernel
theorem dX1_begin_5 : decode cX1_begin 5 = .ok (.aload_n 0, 1) := by decide +kernel
theorem dX1_begin_6 : decode cX1_begin 6 = .ok (.iload_n 1, 1) := by decide +kernel
theorem dX1_begin_7 : decode cX1_begin 7 = .ok (.putfield 19, 3) := by decide +kernel
theorem dX1_begin_10 : decode cX1_begin 10 = .ok (.aload_n 0, 1) := by decide +kernel
theorem dX1_begin_11 : decode cX1_begin 11 = .ok (.iload_n 2, 1) := by decide +kernel
theorem dX1_begin_12 : decode cX1_begin 12 = .ok (.putfield 23, 3) := by decide +kernel
theorem dX1_begin_15 : decode cX1_begin 15 = .ok (.aload_n 0, 1) := by decide +kernel
theorem dX1_begin_16 : decode cX1_begin 16 = .ok (.iconst 0, 1) := by decide +kernel
theorem dX1_begin_17 : decode cX1_begin 17 = .ok (.putfield 26, 3) := by decide +kernel
theorem dX1_begin_20 : decode cX1_begin 20 = .ok (.aload_n 0, 1) := by decide +kernel
theorem dX1_begin_21 : decode cX1_begin 21 = .ok (.iconst 0, 1) := by decide +kernel
theorem dX1_begin_22 : decode cX1_begin 22 = .ok (.putfield 29, 3) := by decide +kernel
theorem dX1_begin_25 : decode cX1_begin 25 = .ok (.aload_n 0, 1) := by decide +kernel
theorem dX1_begin_26 : decode cX1_begin 26 = .ok (.iconst (-1), 1) := by decide +kernel
theorem dX1_begin_27 : decode cX1_begin 27 = .ok (.putfield 32, 3) := by decide +kernel
theorem dX1_begin_30 : decode cX1_begin 30 = .ok (.aload_n 0, 1) := by decide +kernel
theorem dX1_begin_31 : decode cX1_begin 31 = .ok (.iconst 0, 1) := by decide +kernel
theorem dX1_begin_32 : decode cX1_begin 32 = .ok (.putfield 35, 3) := by decide +kernel
theorem dX1_begin_35 : decode cX1_begin 35 = .ok (.return_, 1) := by decide +kernel
theorem dX1_isOf_0 : decode cX1_isOf 0 = .ok (.aload_n 0, 1) := by decide +kernel
theorem dX1_isOf_1 : decode cX1_isOf 1 = .ok (.getfield 15, 3) := by decide +kernel
theorem dX1_isOf_4 : decode cX1_isOf 4 = .ok (.ifCond .eq 33, 3) := by decide +kernel
theorem dX1_isOf_7 : decode cX1_isOf 7 = .ok (.aload_n 0, 1) := by decide +kernel
theorem dX1_isOf_8 : decode cX1_isOf 8 = .ok (.getfield 19, 3) := by decide +kernel
theorem dX1_isOf_11 : decode cX1_isOf 11 = .ok (.aload_n 1, 1) := by decide +kernel
theorem dX1_isOf_12 : decode cX1_isOf 12 = .ok (.getfield 38, 3) := by decide +kernel
theorem dX1_isOf_15 : decode cX1_isOf 15 = .ok (.iconst 3, 1) := by decide +kernel
theorem dX1_isOf_16 : decode cX1_isOf 16 = .ok (.iaload, 1) := by decide +kernel
theorem dX1_isOf_17 : decode cX1_isOf 17 = .ok (.if_icmp .ne 20, 3) := by decide +kernel
theorem dX1_isOf_20 : decode cX1_isOf 20 = .ok (.aload_n 0, 1) := by decide +kernel
theorem dX1_isOf_21 : decode cX1_isOf 21 = .ok (.getfield 23, 3) := by decide +kernel
theorem dX1_isOf_24 : decode cX1_isOf 24 = .ok (.aload_n 1, 1) := by decide +kernel
theorem dX1_isOf_25 : decode cX1_isOf 25 = .ok (.getfield 38, 3) := by decide +kernel
theorem dX1_isOf_28 : decode cX1_isOf 28 = .ok (.iconst 5, 1) := by decide +kernel
theorem dX1_isOf_29 : decode cX1_isOf 29 = .ok (.iaload, 1) := by decide +kernel
theorem dX1_isOf_30 : decode cX1_isOf 30 = .ok (.if_icmp .ne 7, 3) := by decide +kernel
theorem dX1_isOf_33 : decode cX1_isOf 33 = .ok (.iconst 1, 1) := by decide +kernel
theorem dX1_isOf_34 : decode cX1_isOf 34 = .ok (.goto 4, 3) := by decide +kernel
theorem dX1_isOf_37 : decode cX1_isOf 37 = .ok (.iconst 0, 1) := by decide +kernel
theorem dX1_isOf_38 : decode cX1_isOf 38 = .ok (.ireturn, 1) := by decide +kernel
theorem dX1_clashesWith_0 : decode cX1_clashesWith 0 = .ok (.aload_n 1, 1) := by decide +kernel
theorem dX1_clashesWith_1 : decode cX1_clashesWith 1 = .ok (.invokevirtual 41, 3) := by decide +kernel
theorem dX1_clashesWith_4 : decode cX1_clashesWith 4 = .ok (.istore_n 2, 1) := by decide +kernel
theorem dX1_clashesWith_5 : decode cX1_clashesWith 5 = .ok (.aload_n 0, 1) := by decide +kernel
theorem dX1_clashesWith_6 : decode cX1_clashesWith 6 = .ok (.getfield 29, 3) := by decide +kernel
theorem dX1_clashesWith_9 : decode cX1_clashesWith 9 = .ok (.aload_n 1, 1) := by decide +kernel
theorem dX1_clashesWith_10 : decode cX1_clashesWith 10 = .ok (.invokevirtual 45, 3) := by decide +kernel
theorem dX1_clashesWith_13 : decode cX1_clashesWith 13 = .ok (.iand, 1) := by decide +kernel
theorem dX1_clashesWith_14 : decode cX1_clashesWith 14 = .ok (.ifCond .eq 5, 3) := by decide +kernel
theorem dX1_clashesWith_17 : decode cX1_clashesWith 17 = .ok (.iconst 1, 1) := by decide +kernel
theorem dX1_clashesWith_18 : decode cX1_clashesWith 18 = .ok (.ireturn, 1) := by decide +kernel
theorem dX1_clashesWith_19 : decode cX1_clashesWith 19 = .ok (.aload_n 0, 1) := by decide +kernel
theorem dX1_clashesWith_20 : decode cX1_clashesWith 20 = .ok (.getfield 32, 3) := by decide +kernel
theorem dX1_clashesWith_23 : decode cX1_clashesWith 23 = .ok (.ifCond .lt 28, 3) := by decide +kernel
theorem dX1_clashesWith_26 : decode cX1_clashesWith 26 = .ok (.iload_n 2, 1) := by decide +kernel
theorem dX1_clashesWith_27 : decode cX1_clashesWith 27 = .ok (.aload_n 0, 1) := by decide +kernel
theorem dX1_clashesWith_28 : decode cX1_clashesWith 28 = .ok (.getfield 32, 3) := by decide +kernel
theorem dX1_clashesWith_31 : decode cX1_clashesWith 31 = .ok (.if_icmp .gt 18, 3) := by decide +kernel
theorem dX1_clashesWith_34 : decode cX1_clashesWith 34 = .ok (.aload_n 1, 1) := by decide +kernel
theorem dX1_clashesWith_35 : decode cX1_clashesWith 35 = .ok (.invokevirtual 47, 3) := by decide +kernel
theorem dX1_clashesWith_38 : decode cX1_clashesWith 38 = .ok (.ifCond .eq 13, 3) := by decide +kernel
theorem dX1_clashesWith_41 : decode cX1_clashesWith 41 = .ok (.iload_n 2, 1) := by decide +kernel
theorem dX1_clashesWith_42 : decode cX1_clashesWith 42 = .ok (.aload_n 0, 1) := by decide +kernel
theorem dX1_clashesWith_43 : decode cX1_clashesWith 43 = .ok (.getfield 32, 3) := by decide +kernel
theorem dX1_clashesWith_46 : decode cX1_clashesWith 46 = .ok (.if_icmp .eq 5, 3) := by decide +kernel
theorem dX1_clashesWith_49 : decode cX1_clashesWith 49 = .ok (.iconst 1, 1) := by decide +kernel
theorem dX1_clashesWith_50 : decode cX1_clashesWith 50 = .ok (.ireturn, 1) := by decide +kernel
theorem dX1_clashesWith_51 : decode cX1_clashesWith 51 = .ok (.aload_n 1, 1) := by decide +kernel
theorem dX1_clashesWith_52 : decode cX1_clashesWith 52 = .ok (.invokevirtual 47, 3) := by decide +kernel
theorem dX1_clashesWith_55 : decode cX1_clashesWith 55 = .ok (.ifCond .eq 18, 3) := by decide +kernel
theorem dX1_clashesWith_58 : decode cX1_clashesWith 58 = .ok (.aload_n 0, 1) := by decide +kernel
theorem dX1_clashesWith_59 : decode cX1_clashesWith 59 = .ok (.getfield 29, 3) := by decide +kernel
theorem dX1_clashesWith_62 : decode cX1_clashesWith 62 = .ok (.iload_n 2, 1) := by decide +kernel
theorem dX1_clashesWith_63 : decode cX1_clashesWith 63 = .ok (.iconst 4, 1) := by decide +kernel
theorem dX1_clashesWith_64 : decode cX1_clashesWith 64 = .ok (.idiv, 1) := by decide +kernel
theorem dX1_clashesWith_65 : decode cX1_clashesWith 65 = .ok (.ishr, 1) := by decide +kernel
theorem dX1_clashesWith_66 : decode cX1_clashesWith 66 = .ok (.ifCond .eq 7, 3) := by decide +kernel
theorem dX1_clashesWith_69 : decode cX1_clashesWith 69 = .ok (.iconst 1, 1) := by decide +kernel
theorem dX1_clashesWith_70 : decode cX1_clashesWith 70 = .ok (.goto 4, 3) := by decide +kernel
theorem dX1_clashesWith_73 : decode cX1_clashesWith 73 = .ok (.iconst 0, 1) := by decide +kernel
theorem dX1_clashesWith_74 : decode cX1_clashesWith 74 = .ok (.ireturn, 1) := by decide +kernel
theorem dX1_put_0 : decode cX1_put 0 = .ok (.iconst 4, 1) := by decide +kernel
theorem dX1_put_1 : decode cX1_put 1 = .ok (.aload_n 1, 1) := by decide +kernel
theorem dX1_put_2 : decode cX1_put 2 = .ok (.invokevirtual 51, 3) := by decide +kernel
theorem dX1_put_5 : decode cX1_put 5 = .ok (.imul, 1) := by decide +kernel
theorem dX1_put_6 : decode cX1_put 6 = .ok (.istore_n 2, 1) := by decide +kernel
theorem dX1_put_7 : decode cX1_put 7 = .ok (.iconst 0, 1) := by decide +kernel
theorem dX1_put_8 : decode cX1_put 8 = .ok (.istore_n 3, 1) := by decide +kernel
theorem dX1_put_9 : decode cX1_put 9 = .ok (.iload_n 3, 1) := by decide +kernel
theorem dX1_put_10 : decode cX1_put 10 = .ok (.aload_n 1, 1) := by decide +kernel
theorem dX1_put_11 : decode cX1_put 11 = .ok (.invokevirtual 54, 3) := by decide +kernel
theorem dX1_put_14 : decode cX1_put 14 = .ok (.if_icmp .ge 26, 3) := by decide +kernel
theorem dX1_put_17 : decode cX1_put 17 = .ok (.aload_n 0, 1) := by decide +kernel
theorem dX1_put_18 : decode cX1_put 18 = .ok (.getfield 9, 3) := by decide +kernel
theorem dX1_put_21 : decode cX1_put 21 = .ok (.iload_n 2, 1) := by decide +kernel
theorem dX1_put_22 : decode cX1_put 22 = .ok (.iload_n 3, 1) := by decide +kernel
theorem dX1_put_23 : decode cX1_put 23 = .ok (.iadd, 1) := by decide +kernel
theorem dX1_put_24 : decode cX1_put 24 = .ok (.aload_n 1, 1) := by decide +kernel
theorem dX1_put_25 : decode cX1_put 25 = .ok (.getfield 38, 3) := by decide +kernel
theorem dX1_put_28 : decode cX1_put 28 = .ok (.bipush 9, 2) := by decide +kernel
theorem dX1_put_30 : decode cX1_put 30 = .ok (.iload_n 3, 1) := by decide +kernel
theorem dX1_put_31 : decode cX1_put 31 = .ok (.iadd, 1) := by decide +kernel
theorem dX1_put_32 : decode cX1_put 32 = .ok (.iaload, 1) := by decide +kernel
theorem dX1_put_33 : decode cX1_put 33 = .ok (.iastore, 1) := by decide +kernel
theorem dX1_put_34 : decode cX1_put 34 = .ok (.iinc 3 1, 3) := by decide +kernel
theorem dX1_put_37 : decode cX1_put 37 = .ok (.goto (-28), 3) := by decide +kernel
theorem dX1_put_40 : decode cX1_put 40 = .ok (.aload_n 0, 1) := by decide +kernel
theorem dX1_put_41 : decode cX1_put 41 = .ok (.dup, 1) := by decide +kernel
theorem dX1_put_42 : decode cX1_put 42 = .ok (.getfield 29, 3) := by decide +kernel
theorem dX1_put_45 : decode cX1_put 45 = .ok (.aload_n 1, 1) := by decide +kernel
theorem dX1_put_46 : decode cX1_put 46 = .ok (.invokevirtual 45, 3) := by decide +kernel
theorem dX1_put_49 : decode cX1_put 49 = .ok (.ior, 1) := by decide +kernel
theorem dX1_put_50 : decode cX1_put 50 = .ok (.putfield 29, 3) := by decide +kernel
theorem dX1_put_53 : decode cX1_put 53 = .ok (.aload_n 1, 1) := by decide +kernel
theorem dX1_put_54 : decode cX1_put 54 = .ok (.invokevirtual 51, 3) := by decide +kernel
theorem dX1_put_57 : decode cX1_put 57 = .ok (.ifCond .ne 14, 3) := by decide +kernel
theorem dX1_put_60 : decode cX1_put 60 = .ok (.aload_n 0, 1) := by decide +kernel
theorem dX1_put_61 : decode cX1_put 61 = .ok (.aload_n 1, 1) := by decide +kernel
theorem dX1_put_62 : decode cX1_put 62 = .ok (.getfield 38, 3) := by decide +kernel
theorem dX1_put_65 : decode cX1_put 65 = .ok (.bipush 7, 2) := by decide +kernel
theorem dX1_put_67 : decode cX1_put 67 = .ok (.iaload, 1) := by decide +kernel
theorem dX1_put_68 : decode cX1_put 68 = .ok (.putfield 26, 3) := by decide +kernel
theorem dX1_put_71 : decode cX1_put 71 = .ok (.aload_n 1, 1) := by decide +kernel
theorem dX1_put_72 : decode cX1_put 72 = .ok (.invokevirtual 47, 3) := by decide +kernel
theorem dX1_put_75 : decode cX1_put 75 = .ok (.ifCond .eq 11, 3) := by decide +kernel
theorem dX1_put_78 : decode cX1_put 78 = .ok (.aload_n 0, 1) := by decide +kernel
theorem dX1_put_79 : decode cX1_put 79 = .ok (.aload_n 1, 1) := by decide +kernel
theorem dX1_put_80 : decode cX1_put 80 = .ok (.invokevirtual 41, 3) := by decide +kernel
theorem dX1_put_83 : decode cX1_put 83 = .ok (.putfield 32, 3) := by decide +kernel
theorem dX1_put_86 : decode cX1_put 86 = .ok (.return_, 1) := by decide +kernel
theorem dX1_isComplete_0 : decode cX1_isComplete 0 = .ok (.aload_n 0, 1) := by decide +kernel
theorem dX1_isComplete_1 : decode cX1_isComplete 1 = .ok (.getfield 32, 3) := by decide +kernel
theorem dX1_isComplete_4 : decode cX1_isComplete 4 = .ok (.ifCond .lt 21, 3) := by decide +kernel
theorem dX1_isComplete_7 : decode cX1_isComplete 7 = .ok (.aload_n 0, 1) := by decide +kernel
theorem dX1_isComplete_8 : decode cX1_isComplete 8 = .ok (.getfield 29, 3) := by decide +kernel
theorem dX1_isComplete_11 : decode cX1_isComplete 11 = .ok (.aload_n 0, 1) := by decide +kernel
theorem dX1_isComplete_12 : decode cX1_isComplete 12 = .ok (.getfield 32, 3) := by decide +kernel
theorem dX1_isComplete_15 : decode cX1_isComplete 15 = .ok (.invokestatic 57, 3) := by decide +kernel
theorem dX1_isComplete_18 : decode cX1_isComplete 18 = .ok (.if_icmp .ne 7, 3) := by decide +kernel
theorem dX1_isComplete_21 : decode cX1_isComplete 21 = .ok (.iconst 1, 1) := by decide +kernel
theorem dX1_isComplete_22 : decode cX1_isComplete 22 = .ok (.goto 4, 3) := by decide +kernel
theorem dX1_isComplete_25 : decode cX1_isComplete 25 = .ok (.iconst 0, 1) := by decide +kernel
theorem dX1_isComplete_26 : decode cX1_isComplete 26 = .ok (.ireturn, 1) := by decide +kernel
theorem dX1_tell_0 : decode cX1_tell 0 = .ok (.iload_n 1, 1) := by decide +kernel
theorem dX1_tell_1 : decode cX1_tell 1 = .ok (.tableswitch 84 0 5 #[39, 44, 52, 60, 68, 76], 39) := by decide +kernel
theorem dX1_tell_40 : decode cX1_tell 40 = .ok (.iconst 1, 1) := by decide +kernel
theorem dX1_tell_41 : decode cX1_tell 41 = .ok (.istore_n 2, 1) := by decide +kernel
theorem dX1_tell_42 : decode cX1_tell 42 = .ok (.goto 45, 3) := by decide +kernel
theorem dX1_tell_45 : decode cX1_tell 45 = .ok (.aload_n 0, 1) := by decide +kernel
theorem dX1_tell_46 : decode cX1_tell 46 = .ok (.getfield 19, 3) := by decide +kernel
theorem dX1_tell_49 : decode cX1_tell 49 = .ok (.istore_n 2, 1) := by decide +kernel
theorem dX1_tell_50 : decode cX1_tell 50 = .ok (.goto 37, 3) := by decide +kernel
theorem dX1_tell_53 : decode cX1_tell 53 = .ok (.aload_n 0, 1) := by decide +kernel
theorem dX1_tell_54 : decode cX1_tell 54 = .ok (.getfield 23, 3) := by decide +kernel
theorem dX1_tell_57 : decode cX1_tell 57 = .ok (.istore_n 2, 1) := by decide +kernel
theorem dX1_tell_58 : decode cX1_tell 58 = .ok (.goto 29, 3) := by decide +kernel
theorem dX1_tell_61 : decode cX1_tell 61 = .ok (.aload_n 0, 1) := by decide +kernel
theorem dX1_tell_62 : decode cX1_tell 62 = .ok (.getfield 29, 3) := by decide +kernel
theorem dX1_tell_65 : decode cX1_tell 65 = .ok (.istore_n 2, 1) := by decide +kernel
theorem dX1_tell_66 : decode cX1_tell 66 = .ok (.goto 21, 3) := by decide +kernel
theorem dX1_tell_69 : decode cX1_tell 69 = .ok (.aload_n 0, 1) := by decide +kernel
theorem dX1_tell_70 : decode cX1_tell 70 = .ok (.getfield 32, 3) := by decide +kernel
theorem dX1_tell_73 : decode cX1_tell 73 = .ok (.istore_n 2, 1) := by decide +kernel
theorem dX1_tell_74 : decode cX1_tell 74 = .ok (.goto 13, 3) := by decide +kernel
theorem dX1_tell_77 : decode cX1_tell 77 = .ok (.aload_n 0, 1) := by decide +kernel
theorem dX1_tell_78 : decode cX1_tell 78 = .ok (.getfield 35, 3) := by decide +kernel
theorem dX1_tell_81 : decode cX1_tell 81 = .ok (.istore_n 2, 1) := by decide +kernel
theorem dX1_tell_82 : decode cX1_tell 82 = .ok (.goto 5, 3) := by decide +kernel
theorem dX1_tell_85 : decode cX1_tell 85 = .ok (.iconst (-1), 1) := by decide +kernel
theorem dX1_tell_86 : decode cX1_tell 86 = .ok (.ireturn, 1) := by decide +kernel
theorem dX1_tell_87 : decode cX1_tell 87 = .ok (.aload_n 0, 1) := by decide +kernel
theorem dX1_tell_88 : decode cX1_tell 88 = .ok (.getfield 15, 3) := by decide +kernel
theorem dX1_tell_91 : decode cX1_tell 91 = .ok (.ifCond .eq 7, 3) := by decide +kernel
theorem dX1_tell_94 : decode cX1_tell 94 = .ok (.iload_n 2, 1) := by decide +kernel
theorem dX1_tell_95 : decode cX1_tell 95 = .ok (.goto 4, 3) := by decide +kernel
theorem dX1_tell_98 : decode cX1_tell 98 = .ok (.iconst 0, 1) := by decide +kernel
theorem dX1_tell_99 : decode cX1_tell 99 = .ok (.ireturn, 1) := by decide +kernel
theorem dX2_init_0 : decode cX2_init 0 = .ok (.aload_n 0, 1) := by decide +kernel
theorem dX2_init_1 : decode cX2_init 1 = .ok (.invokespecial 3, 3) := by decide +kernel
theorem dX2_init_4 : decode cX2_init 4 = .ok (.aload_n 0, 1) := by decide +kernel
theorem dX2_init_5 : decode cX2_init 5 = .ok (.bipush 32, 2) := by decide +kernel
theorem dX2_init_7 : decode cX2_init 7 = .ok (.newarray .int, 2) := by decide +kernel
theorem dX2_init_9 : decode cX2_init 9 = .ok (.putfield 9, 3) := by decide +kernel
theorem dX2_init_12 : decode cX2_init 12 = .ok (.return_, 1) := by decide +kernel
theorem dX2_fill_0 : decode cX2_fill 0 = .ok (.aload_n 0, 1) := by decide +kernel
theorem dX2_fill_1 : decode cX2_fill 1 = .ok (.iload_n 1, 1) := by decide +kernel
theorem dX2_fill_2 : decode cX2_fill 2 = .ok (.putfield 15, 3) := by decide +kernel
theorem dX2_fill_5 : decode cX2_fill 5 = .ok (.aload_n 0, 1) := by decide +kernel
theorem dX2_fill_6 : decode cX2_fill 6 = .ok (.iload_n 2, 1) := by decide +kernel
theorem dX2_fill_7 : decode cX2_fill 7 = .ok (.putfield 19, 3) := by decide +kernel
theorem dX2_fill_10 : decode cX2_fill 10 = .ok (.aload_n 0, 1) := by decide +kernel
theorem dX2_fill_11 : decode cX2_fill 11 = .ok (.iload 5, 2) := by decide +kernel
theorem dX2_fill_13 : decode cX2_fill 13 = .ok (.putfield 22, 3) := by decide +kernel
theorem dX2_fill_16 : decode cX2_fill 16 = .ok (.iconst 0, 1) := by decide +kernel
theorem dX2_fill_17 : decode cX2_fill 17 = .ok (.istore 6, 2) := by decide +kernel
theorem dX2_fill_19 : decode cX2_fill 19 = .ok (.iload 6, 2) := by decide +kernel
theorem dX2_fill_21 : decode cX2_fill 21 = .ok (.iload 5, 2) := by decide +kernel
theorem dX2_fill_23 : decode cX2_fill 23 = .ok (.if_icmp .ge 23, 3) := by decide +kernel
theorem dX2_fill_26 : decode cX2_fill 26 = .ok (.aload_n 0, 1) := by decide +kernel
theorem dX2_fill_27 : decode cX2_fill 27 = .ok (.getfield 9, 3) := by decide +kernel
theorem dX2_fill_30 : decode cX2_fill 30 = .ok (.iload 6, 2) := by decide +kernel
theorem dX2_fill_32 : decode cX2_fill 32 = .ok (.aload_n 3, 1) := by decide +kernel
theorem dX2_fill_33 : decode cX2_fill 33 = .ok (.iload 4, 2) := by decide +kernel
theorem dX2_fill_35 : decode cX2_fill 35 = .ok (.iload 6, 2) := by decide +kernel
theorem dX2_fill_37 : decode cX2_fill 37 = .ok (.iadd, 1) := by decide +kernel
theorem dX2_fill_38 : decode cX2_fill 38 = .ok (.iaload, 1) := by decide +kernel
theorem dX2_fill_39 : decode cX2_fill 39 = .ok (.iastore, 1) := by decide +kernel
theorem dX2_fill_40 : decode cX2_fill 40 = .ok (.iinc 6 1, 3) := by decide +kernel
theorem dX2_fill_43 : decode cX2_fill 43 = .ok (.goto (-24), 3) := by decide +kernel
theorem dX2_fill_46 : decode cX2_fill 46 = .ok (.return_, 1) := by decide +kernel
theorem dX2_isEchoAsked_0 : decode cX2_isEchoAsked 0 = .ok (.aload_n 0, 1) := by decide +kernel
theorem dX2_isEchoAsked_1 : decode cX2_isEchoAsked 1 = .ok (.getfield 19, 3) := by decide +kernel
theorem dX2_isEchoAsked_4 : decode cX2_isEchoAsked 4 = .ok (.iconst 1, 1) := by decide +kernel
theorem dX2_isEchoAsked_5 : decode cX2_isEchoAsked 5 = .ok (.if_icmp .ne 25, 3) := by decide +kernel
theorem dX2_isEchoAsked_8 : decode cX2_isEchoAsked 8 = .ok (.aload_n 0, 1) := by decide +kernel
theorem dX2_isEchoAsked_9 : decode cX2_isEchoAsked 9 = .ok (.getfield 22, 3) := by decide +kernel
theorem dX2_isEchoAsked_12 : decode cX2_isEchoAsked 12 = .ok (.ifCond .le 18, 3) := by decide +kernel
theorem dX2_isEchoAsked_15 : decode cX2_isEchoAsked 15 = .ok (.aload_n 0, 1) := by decide +kernel
theorem dX2_isEchoAsked_16 : decode cX2_isEchoAsked 16 = .ok (.getfield 9, 3) := by decide +kernel
theorem dX2_isEchoAsked_19 : decode cX2_isEchoAsked 19 = .ok (.iconst 0, 1) := by decide +kernel
theorem dX2_isEchoAsked_20 : decode cX2_isEchoAsked 20 = .ok (.iaload, 1) := by decide +kernel
theorem dX2_isEchoAsked_21 : decode cX2_isEchoAsked 21 = .ok (.bipush 8, 2) := by decide +kernel
theorem dX2_isEchoAsked_23 : decode cX2_isEchoAsked 23 = .ok (.if_icmp .ne 7, 3) := by decide +kernel
theorem dX2_isEchoAsked_26 : decode cX2_isEchoAsked 26 = .ok (.iconst 1, 1) := by decide +kernel
theorem dX2_isEchoAsked_27 : decode cX2_isEchoAsked 27 = .ok (.goto 4, 3) := by decide +kernel
theorem dX2_isEchoAsked_30 : decode cX2_isEchoAsked 30 = .ok (.iconst 0, 1) := by decide +kernel
theorem dX2_isEchoAsked_31 : decode cX2_isEchoAsked 31 = .ok (.ireturn, 1) := by decide +kernel
theorem dX2_isSegment_0 : decode cX2_isSegment 0 = .ok (.aload_n 0, 1) := by decide +kernel
theorem dX2_isSegment_1 : decode cX2_isSegment 1 = .ok (.getfield 19, 3) := by decide +kernel
theorem dX2_isSegment_4 : decode cX2_isSegment 4 = .ok (.bipush 6, 2) := by decide +kernel
theorem dX2_isSegment_6 : decode cX2_isSegment 6 = .ok (.if_icmp .ne 15, 3) := by decide +kernel
theorem dX2_isSegment_9 : decode cX2_isSegment 9 = .ok (.aload_n 0, 1) := by decide +kernel
theorem dX2_isSegment_10 : decode cX2_isSegment 10 = .ok (.getfield 22, 3) := by decide +kernel
theorem dX2_isSegment_13 : decode cX2_isSegment 13 = .ok (.iconst 5, 1) := by decide +kernel
theorem dX2_isSegment_14 : decode cX2_isSegment 14 = .ok (.if_icmp .lt 7, 3) := by decide +kernel
theorem dX2_isSegment_17 : decode cX2_isSegment 17 = .ok (.iconst 1, 1) := by decide +kernel
theorem dX2_isSegment_18 : decode cX2_isSegment 18 = .ok (.goto 4, 3) := by decide +kernel
theorem dX2_isSegment_21 : decode cX2_isSegment 21 = .ok (.iconst 0, 1) := by decide +kernel
theorem dX2_isSegment_22 : decode cX2_isSegment 22 = .ok (.ireturn, 1) := by decide +kernel
theorem dX2_hasFlag_0 : decode cX2_hasFlag 0 = .ok (.aload_n 0, 1) := by decide +kernel
theorem dX2_hasFlag_1 : decode cX2_hasFlag 1 = .ok (.getfield 9, 3) := by decide +kernel
theorem dX2_hasFlag_4 : decode cX2_hasFlag 4 = .ok (.iconst 3, 1) := by decide +kernel
theorem dX2_hasFlag_5 : decode cX2_hasFlag 5 = .ok (.iaload, 1) := by decide +kernel
theorem dX2_hasFlag_6 : decode cX2_hasFlag 6 = .ok (.iload_n 1, 1) := by decide +kernel
theorem dX2_hasFlag_7 : decode cX2_hasFlag 7 = .ok (.iand, 1) := by decide +kernel
theorem dX2_hasFlag_8 : decode cX2_hasFlag 8 = .ok (.ifCond .eq 7, 3) := by decide +kernel
theorem dX2_hasFlag_11 : decode cX2_hasFlag 11 = .ok (.iconst 1, 1) := by decide +kernel
theorem dX2_hasFlag_12 : decode cX2_hasFlag 12 = .ok (.goto 4, 3) := by decide +kernel
theorem dX2_hasFlag_15 : decode cX2_hasFlag 15 = .ok (.iconst 0, 1) := by decide +kernel
theorem dX2_hasFlag_16 : decode cX2_hasFlag 16 = .ok (.ireturn, 1) := by decide +kernel
theorem dX2_wantsAck_0 : decode cX2_wantsAck 0 = .ok (.aload_n 0, 1) := by decide +kernel
theorem dX2_wantsAck_1 : decode cX2_wantsAck 1 = .ok (.getfield 22, 3) := by decide +kernel
theorem dX2_wantsAck_4 : decode cX2_wantsAck 4 = .ok (.iconst 5, 1) := by decide +kernel
theorem dX2_wantsAck_5 : decode cX2_wantsAck 5 = .ok (.if_icmp .gt 11, 3) := by decide +kernel
theorem dX2_wantsAck_8 : decode cX2_wantsAck 8 = .ok (.aload_n 0, 1) := by decide +kernel
theorem dX2_wantsAck_9 : decode cX2_wantsAck 9 = .ok (.iconst 1, 1) := by decide +kernel
theorem dX2_wantsAck_10 : decode cX2_wantsAck 10 = .ok (.invokevirtual 25, 3) := by decide +kernel
theorem dX2_wantsAck_13 : decode cX2_wantsAck 13 = .ok (.ifCond .eq 7, 3) := by decide +kernel
theorem dX2_wantsAck_16 : decode cX2_wantsAck 16 = .ok (.iconst 1, 1) := by decide +kernel
theorem dX2_wantsAck_17 : decode cX2_wantsAck 17 = .ok (.goto 4, 3) := by decide +kernel
theorem dX2_wantsAck_20 : decode cX2_wantsAck 20 = .ok (.iconst 0, 1) := by decide +kernel
theorem dX2_wantsAck_21 : decode cX2_wantsAck 21 = .ok (.ireturn, 1) := by decide +kernel
theorem dX3_init_0 : decode cX3_init 0 = .ok (.aload_n 0, 1) := by decide +kernel
theorem dX3_init_1 : decode cX3_init 1 = .ok (.invokespecial 3, 3) := by decide +kernel
theorem dX3_init_4 : decode cX3_init 4 = .ok (.aload_n 0, 1) := by decide +kernel
theorem dX3_init_5 : decode cX3_init 5 = .ok (.iconst 2, 1) := by decide +kernel
theorem dX3_init_6 : decode cX3_init 6 = .ok (.anewarray 9, 3) := by decide +kernel
theorem dX3_init_9 : decode cX3_init 9 = .ok (.putfield 11, 3) := by decide +kernel
theorem dX3_init_12 : decode cX3_init 12 = .ok (.iconst 0, 1) := by decide +kernel
theorem dX3_init_13 : decode cX3_init 13 = .ok (.istore_n 1, 1) := by decide +kernel
theorem dX3_init_14 : decode cX3_init 14 = .ok (.iload_n 1, 1) := by decide +kernel
theorem dX3_init_15 : decode cX3_init 15 = .ok (.iconst 2, 1) := by decide +kernel
theorem dX3_init_16 : decode cX3_init 16 = .ok (.if_icmp .ge 22, 3) := by decide +kernel
theorem dX3_init_19 : decode cX3_init 19 = .ok (.aload_n 0, 1) := by decide +kernel
theorem dX3_init_20 : decode cX3_init 20 = .ok (.getfield 11, 3) := by decide +kernel
theorem dX3_init_23 : decode cX3_init 23 = .ok (.iload_n 1, 1) := by decide +kernel
theorem dX3_init_24 : decode cX3_init 24 = .ok (.new 9, 3) := by decide +kernel
theorem dX3_init_27 : decode cX3_init 27 = .ok (.dup, 1) := by decide +kernel
theorem dX3_init_28 : decode cX3_init 28 = .ok (.invokespecial 17, 3) := by decide +kernel
theorem dX3_init_31 : decode cX3_init 31 = .ok (.aastore, 1) := by decide +kernel
theorem dX3_init_32 : decode cX3_init 32 = .ok (.iinc 1 1, 3) := by decide +kernel
theorem dX3_init_35 : decode cX3_init 35 = .ok (.goto (-21), 3) := by decide +kernel
theorem dX3_init_38 : decode cX3_init 38 = .ok (.return_, 1) := by decide +kernel
theorem dX3_completes_0 : decode cX3_completes 0 = .ok (.aload_n 1, 1) := by decide +kernel
theorem dX3_completes_1 : decode cX3_completes 1 = .ok (.invokevirtual 18, 3) := by decide +kernel
theorem dX3_completes_4 : decode cX3_completes 4 = .ok (.ifCond .eq 32, 3) := by decide +kernel
theorem dX3_completes_7 : decode cX3_completes 7 = .ok (.aload_n 2, 1) := by decide +kernel
theorem dX3_completes_8 : decode cX3_completes 8 = .ok (.aload_n 1, 1) := by decide +kernel
theorem dX3_completes_9 : decode cX3_completes 9 = .ok (.getfield 24, 3) := by decide +kernel
theorem dX3_completes_12 : decode cX3_completes 12 = .ok (.iconst 3, 1) := by decide +kernel
theorem dX3_completes_13 : decode cX3_completes 13 = .ok (.iaload, 1) := by decide +kernel
theorem dX3_completes_14 : decode cX3_completes 14 = .ok (.aload_n 1, 1) := by decide +kernel
theorem dX3_completes_15 : decode cX3_completes 15 = .ok (.getfield 24, 3) := by decide +kernel
theorem dX3_completes_18 : decode cX3_completes 18 = .ok (.bipush 7, 2) := by decide +kernel
theorem dX3_completes_20 : decode cX3_completes 20 = .ok (.iaload, 1) := by decide +kernel
theorem dX3_completes_21 : decode cX3_completes 21 = .ok (.aload_n 1, 1) := by decide +kernel
theorem dX3_completes_22 : decode cX3_completes 22 = .ok (.getfield 24, 3) := by decide +kernel
theorem dX3_completes_25 : decode cX3_completes 25 = .ok (.bipush 9, 2) := by decide +kernel
theorem dX3_completes_27 : decode cX3_completes 27 = .ok (.aload_n 1, 1) := by decide +kernel
theorem dX3_completes_28 : decode cX3_completes 28 = .ok (.invokevirtual 28, 3) := by decide +kernel
theorem dX3_completes_31 : decode cX3_completes 31 = .ok (.invokevirtual 32, 3) := by decide +kernel
theorem dX3_completes_34 : decode cX3_completes 34 = .ok (.iconst 1, 1) := by decide +kernel
theorem dX3_completes_35 : decode cX3_completes 35 = .ok (.ireturn, 1) := by decide +kernel
theorem dX3_completes_36 : decode cX3_completes 36 = .ok (.aload_n 0, 1) := by decide +kernel
theorem dX3_completes_37 : decode cX3_completes 37 = .ok (.getfield 11, 3) := by decide +kernel
theorem dX3_completes_40 : decode cX3_completes 40 = .ok (.aload_n 0, 1) := by decide +kernel
theorem dX3_completes_41 : decode cX3_completes 41 = .ok (.aload_n 1, 1) := by decide +kernel
theorem dX3_completes_42 : decode cX3_completes 42 = .ok (.invokevirtual 38, 3) := by decide +kernel
theorem dX3_completes_45 : decode cX3_completes 45 = .ok (.aaload, 1) := by decide +kernel
theorem dX3_completes_46 : decode cX3_completes 46 = .ok (.astore_n 3, 1) := by decide +kernel
theorem dX3_completes_47 : decode cX3_completes 47 = .ok (.aload_n 3, 1) := by decide +kernel
theorem dX3_completes_48 : decode cX3_completes 48 = .ok (.aload_n 1, 1) := by decide +kernel
theorem dX3_completes_49 : decode cX3_completes 49 = .ok (.invokevirtual 42, 3) := by decide +kernel
theorem dX3_completes_52 : decode cX3_completes 52 = .ok (.ifCond .eq 10, 3) := by decide +kernel
theorem dX3_completes_55 : decode cX3_completes 55 = .ok (.aload_n 3, 1) := by decide +kernel
theorem dX3_completes_56 : decode cX3_completes 56 = .ok (.iconst 0, 1) := by decide +kernel
theorem dX3_completes_57 : decode cX3_completes 57 = .ok (.putfield 46, 3) := by decide +kernel
theorem dX3_completes_60 : decode cX3_completes 60 = .ok (.iconst 0, 1) := by decide +kernel
theorem dX3_completes_61 : decode cX3_completes 61 = .ok (.ireturn, 1) := by decide +kernel
theorem dX3_completes_62 : decode cX3_completes 62 = .ok (.aload_n 3, 1) := by decide +kernel
theorem dX3_completes_63 : decode cX3_completes 63 = .ok (.aload_n 1, 1) := by decide +kernel
theorem dX3_completes_64 : decode cX3_completes 64 = .ok (.invokevirtual 50, 3) := by decide +kernel
theorem dX3_completes_67 : decode cX3_completes 67 = .ok (.aload_n 3, 1) := by decide +kernel
theorem dX3_completes_68 : decode cX3_completes 68 = .ok (.invokevirtual 54, 3) := by decide +kernel
theorem dX3_completes_71 : decode cX3_completes 71 = .ok (.ifCond .ne 5, 3) := by decide +kernel
theorem dX3_completes_74 : decode cX3_completes 74 = .ok (.iconst 0, 1) := by decide +kernel
theorem dX3_completes_75 : decode cX3_completes 75 = .ok (.ireturn, 1) := by decide +kernel
theorem dX3_completes_76 : decode cX3_completes 76 = .ok (.aload_n 3, 1) := by decide +kernel
theorem dX3_completes_77 : decode cX3_completes 77 = .ok (.iconst 0, 1) := by decide +kernel
theorem dX3_completes_78 : decode cX3_completes 78 = .ok (.putfield 46, 3) := by decide +kernel
theorem dX3_completes_81 : decode cX3_completes 81 = .ok (.aload_n 2, 1) := by decide +kernel
theorem dX3_completes_82 : decode cX3_completes 82 = .ok (.aload_n 3, 1) := by decide +kernel
theorem dX3_completes_83 : decode cX3_completes 83 = .ok (.getfield 57, 3) := by decide +kernel
theorem dX3_completes_86 : decode cX3_completes 86 = .ok (.aload_n 3, 1) := by decide +kernel
theorem dX3_completes_87 : decode cX3_completes 87 = .ok (.getfield 61, 3) := by decide +kernel
theorem dX3_completes_90 : decode cX3_completes 90 = .ok (.aload_n 3, 1) := by decide +kernel
theorem dX3_completes_91 : decode cX3_completes 91 = .ok (.getfield 64, 3) := by decide +kernel
theorem dX3_completes_94 : decode cX3_completes 94 = .ok (.iconst 0, 1) := by decide +kernel
theorem dX3_completes_95 : decode cX3_completes 95 = .ok (.aload_n 3, 1) := by decide +kernel
theorem dX3_completes_96 : decode cX3_completes 96 = .ok (.getfield 65, 3) := by decide +kernel
theorem dX3_completes_99 : decode cX3_completes 99 = .ok (.invokevirtual 32, 3) := by decide +kernel
theorem dX3_completes_102 : decode cX3_completes 102 = .ok (.iconst 1, 1) := by decide +kernel
theorem dX3_completes_103 : decode cX3_completes 103 = .ok (.ireturn, 1) := by decide +kernel
theorem dX3_placeFor_0 : decode cX3_placeFor 0 = .ok (.iconst 0, 1) := by decide +kernel
theorem dX3_placeFor_1 : decode cX3_placeFor 1 = .ok (.istore_n 2, 1) := by decide +kernel
theorem dX3_placeFor_2 : decode cX3_placeFor 2 = .ok (.iload_n 2, 1) := by decide +kernel
theorem dX3_placeFor_3 : decode cX3_placeFor 3 = .ok (.iconst 2, 1) := by decide +kernel
theorem dX3_placeFor_4 : decode cX3_placeFor 4 = .ok (.if_icmp .ge 24, 3) := by decide +kernel
theorem dX3_placeFor_7 : decode cX3_placeFor 7 = .ok (.aload_n 0, 1) := by decide +kernel
theorem dX3_placeFor_8 : decode cX3_placeFor 8 = .ok (.getfield 11, 3) := by decide +kernel
theorem dX3_placeFor_11 : decode cX3_placeFor 11 = .ok (.iload_n 2, 1) := by decide +kernel
theorem dX3_placeFor_12 : decode cX3_placeFor 12 = .ok (.aaload, 1) := by decide +kernel
theorem dX3_placeFor_13 : decode cX3_placeFor 13 = .ok (.aload_n 1, 1) := by decide +kernel
theorem dX3_placeFor_14 : decode cX3_placeFor 14 = .ok (.invokevirtual 68, 3) := by decide +kernel
theorem dX3_placeFor_17 : decode cX3_placeFor 17 = .ok (.ifCond .eq 5, 3) := by decide +kernel
theorem dX3_placeFor_20 : decode cX3_placeFor 20 = .ok (.iload_n 2, 1) := by decide +kernel
theorem dX3_placeFor_21 : decode cX3_placeFor 21 = .ok (.ireturn, 1) := by decide +kernel
theorem dX3_placeFor_22 : decode cX3_placeFor 22 = .ok (.iinc 2 1, 3) := by decide +kernel
theorem dX3_placeFor_25 : decode cX3_placeFor 25 = .ok (.goto (-23), 3) := by decide +kernel
theorem dX3_placeFor_28 : decode cX3_placeFor 28 = .ok (.iconst 1, 1) := by decide +kernel
theorem dX3_placeFor_29 : decode cX3_placeFor 29 = .ok (.aload_n 0, 1) := by decide +kernel
theorem dX3_placeFor_30 : decode cX3_placeFor 30 = .ok (.getfield 71, 3) := by decide +kernel
theorem dX3_placeFor_33 : decode cX3_placeFor 33 = .ok (.isub, 1) := by decide +kernel
theorem dX3_placeFor_34 : decode cX3_placeFor 34 = .ok (.istore_n 2, 1) := by decide +kernel
theorem dX3_placeFor_35 : decode cX3_placeFor 35 = .ok (.iconst 1, 1) := by decide +kernel
theorem dX3_placeFor_36 : decode cX3_placeFor 36 = .ok (.istore_n 3, 1) := by decide +kernel
theorem dX3_placeFor_37 : decode cX3_placeFor 37 = .ok (.iload_n 3, 1) := by decide +kernel
theorem dX3_placeFor_38 : decode cX3_placeFor 38 = .ok (.ifCond .lt 23, 3) := by decide +kernel
theorem dX3_placeFor_41 : decode cX3_placeFor 41 = .ok (.aload_n 0, 1) := by decide +kernel
theorem dX3_placeFor_42 : decode cX3_placeFor 42 = .ok (.getfield 11, 3) := by decide +kernel
theorem dX3_placeFor_45 : decode cX3_placeFor 45 = .ok (.iload_n 3, 1) := by decide +kernel
theorem dX3_placeFor_46 : decode cX3_placeFor 46 = .ok (.aaload, 1) := by decide +kernel
theorem dX3_placeFor_47 : decode cX3_placeFor 47 = .ok (.getfield 46, 3) := by decide +kernel
theorem dX3_placeFor_50 : decode cX3_placeFor 50 = .ok (.ifCond .ne 5, 3) := by decide +kernel
theorem dX3_placeFor_53 : decode cX3_placeFor 53 = .ok (.iload_n 3, 1) := by decide +kernel
theorem dX3_placeFor_54 : decode cX3_placeFor 54 = .ok (.istore_n 2, 1) := by decide +kernel
theorem dX3_placeFor_55 : decode cX3_placeFor 55 = .ok (.iinc 3 (-1), 3) := by decide +kernel
theorem dX3_placeFor_58 : decode cX3_placeFor 58 = .ok (.goto (-21), 3) := by decide +kernel
theorem dX3_placeFor_61 : decode cX3_placeFor 61 = .ok (.aload_n 0, 1) := by decide +kernel
theorem dX3_placeFor_62 : decode cX3_placeFor 62 = .ok (.getfield 11, 3) := by decide +kernel
theorem dX3_placeFor_65 : decode cX3_placeFor 65 = .ok (.iload_n 2, 1) := by decide +kernel
theorem dX3_placeFor_66 : decode cX3_placeFor 66 = .ok (.aaload, 1) := by decide +kernel
theorem dX3_placeFor_67 : decode cX3_placeFor 67 = .ok (.aload_n 1, 1) := by decide +kernel
theorem dX3_placeFor_68 : decode cX3_placeFor 68 = .ok (.getfield 24, 3) := by decide +kernel
theorem dX3_placeFor_71 : decode cX3_placeFor 71 = .ok (.iconst 3, 1) := by decide +kernel
theorem dX3_placeFor_72 : decode cX3_placeFor 72 = .ok (.iaload, 1) := by decide +kernel
theorem dX3_placeFor_73 : decode cX3_placeFor 73 = .ok (.aload_n 1, 1) := by decide +kernel
theorem dX3_placeFor_74 : decode cX3_placeFor 74 = .ok (.getfield 24, 3) := by decide +kernel
theorem dX3_placeFor_77 : decode cX3_placeFor 77 = .ok (.iconst 5, 1) := by decide +kernel
theorem dX3_placeFor_78 : decode cX3_placeFor 78 = .ok (.iaload, 1) := by decide +kernel
theorem dX3_placeFor_79 : decode cX3_placeFor 79 = .ok (.invokevirtual 74, 3) := by decide +kernel
theorem dX3_placeFor_82 : decode cX3_placeFor 82 = .ok (.aload_n 0, 1) := by decide +kernel
theorem dX3_placeFor_83 : decode cX3_placeFor 83 = .ok (.iload_n 2, 1) := by decide +kernel
theorem dX3_placeFor_84 : decode cX3_placeFor 84 = .ok (.putfield 71, 3) := by decide +kernel
theorem dX3_placeFor_87 : decode cX3_placeFor 87 = .ok (.iload_n 2, 1) := by decide +kernel
theorem dX3_placeFor_88 : decode cX3_placeFor 88 = .ok (.ireturn, 1) := by decide +kernel
theorem dX3_grow_0 : decode cX3_grow 0 = .ok (.iconst 0, 1) := by decide +kernel
theorem dX3_grow_1 : decode cX3_grow 1 = .ok (.istore_n 1, 1) := by decide +kernel
theorem dX3_grow_2 : decode cX3_grow 2 = .ok (.iload_n 1, 1) := by decide +kernel
theorem dX3_grow_3 : decode cX3_grow 3 = .ok (.iconst 2, 1) := by decide +kernel
theorem dX3_grow_4 : decode cX3_grow 4 = .ok (.if_icmp .ge 40, 3) := by decide +kernel
theorem dX3_grow_7 : decode cX3_grow 7 = .ok (.aload_n 0, 1) := by decide +kernel
theorem dX3_grow_8 : decode cX3_grow 8 = .ok (.getfield 11, 3) := by decide +kernel
theorem dX3_grow_11 : decode cX3_grow 11 = .ok (.iload_n 1, 1) := by decide +kernel
theorem dX3_grow_12 : decode cX3_grow 12 = .ok (.aaload, 1) := by decide +kernel
theorem dX3_grow_13 : decode cX3_grow 13 = .ok (.astore_n 2, 1) := by decide +kernel
theorem dX3_grow_14 : decode cX3_grow 14 = .ok (.aload_n 2, 1) := by decide +kernel
theorem dX3_grow_15 : decode cX3_grow 15 = .ok (.dup, 1) := by decide +kernel
theorem dX3_grow_16 : decode cX3_grow 16 = .ok (.getfield 78, 3) := by decide +kernel
theorem dX3_grow_19 : decode cX3_grow 19 = .ok (.iconst 1, 1) := by decide +kernel
theorem dX3_grow_20 : decode cX3_grow 20 = .ok (.iadd, 1) := by decide +kernel
theorem dX3_grow_21 : decode cX3_grow 21 = .ok (.putfield 78, 3) := by decide +kernel
theorem dX3_grow_24 : decode cX3_grow 24 = .ok (.aload_n 2, 1) := by decide +kernel
theorem dX3_grow_25 : decode cX3_grow 25 = .ok (.getfield 78, 3) := by decide +kernel
theorem dX3_grow_28 : decode cX3_grow 28 = .ok (.bipush 15, 2) := by decide +kernel
theorem dX3_grow_30 : decode cX3_grow 30 = .ok (.if_icmp .lt 8, 3) := by decide +kernel
theorem dX3_grow_33 : decode cX3_grow 33 = .ok (.aload_n 2, 1) := by decide +kernel
theorem dX3_grow_34 : decode cX3_grow 34 = .ok (.iconst 0, 1) := by decide +kernel
theorem dX3_grow_35 : decode cX3_grow 35 = .ok (.putfield 46, 3) := by decide +kernel
theorem dX3_grow_38 : decode cX3_grow 38 = .ok (.iinc 1 1, 3) := by decide +kernel
theorem dX3_grow_41 : decode cX3_grow 41 = .ok (.goto (-39), 3) := by decide +kernel
theorem dX3_grow_44 : decode cX3_grow 44 = .ok (.return_, 1) := by decide +kernel
theorem dX4_init_0 : decode cX4_init 0 = .ok (.aload_n 0, 1) := by decide +kernel
theorem dX4_init_1 : decode cX4_init 1 = .ok (.invokespecial 3, 3) := by decide +kernel
theorem dX4_init_4 : decode cX4_init 4 = .ok (.aload_n 0, 1) := by decide +kernel
theorem dX4_init_5 : decode cX4_init 5 = .ok (.bipush 6, 2) := by decide +kernel
theorem dX4_init_7 : decode cX4_init 7 = .ok (.anewarray 9, 3) := by decide +kernel
theorem dX4_init_10 : decode cX4_init 10 = .ok (.putfield 11, 3) := by decide +kernel
theorem dX4_init_13 : decode cX4_init 13 = .ok (.aload_n 0, 1) := by decide +kernel
theorem dX4_init_14 : decode cX4_init 14 = .ok (.bipush 18, 2) := by decide +kernel
theorem dX4_init_16 : decode cX4_init 16 = .ok (.newarray .int, 2) := by decide +kernel
theorem dX4_init_18 : decode cX4_init 18 = .ok (.putfield 17, 3) := by decide +kernel
theorem dX4_init_21 : decode cX4_init 21 = .ok (.iconst 0, 1) := by decide +kernel
theorem dX4_init_22 : decode cX4_init 22 = .ok (.istore_n 1, 1) := by decide +kernel
theorem dX4_init_23 : decode cX4_init 23 = .ok (.iload_n 1, 1) := by decide +kernel
theorem dX4_init_24 : decode cX4_init 24 = .ok (.bipush 6, 2) := by decide +kernel
theorem dX4_init_26 : decode cX4_init 26 = .ok (.if_icmp .ge 22, 3) := by decide +kernel
theorem dX4_init_29 : decode cX4_init 29 = .ok (.aload_n 0, 1) := by decide +kernel
theorem dX4_init_30 : decode cX4_init 30 = .ok (.getfield 11, 3) := by decide +kernel
theorem dX4_init_33 : decode cX4_init 33 = .ok (.iload_n 1, 1) := by decide +kernel
theorem dX4_init_34 : decode cX4_init 34 = .ok (.new 9, 3) := by decide +kernel
theorem dX4_init_37 : decode cX4_init 37 = .ok (.dup, 1) := by decide +kernel
theorem dX4_init_38 : decode cX4_init 38 = .ok (.invokespecial 21, 3) := by decide +kernel
theorem dX4_init_41 : decode cX4_init 41 = .ok (.aastore, 1) := by decide +kernel
theorem dX4_init_42 : decode cX4_init 42 = .ok (.iinc 1 1, 3) := by decide +kernel
theorem dX4_init_45 : decode cX4_init 45 = .ok (.goto (-22), 3) := by decide +kernel
theorem dX4_init_48 : decode cX4_init 48 = .ok (.return_, 1) := by decide +kernel
theorem dX4_answerTo_0 : decode cX4_answerTo 0 = .ok (.aload_n 0, 1) := by decide +kernel
theorem dX4_answerTo_1 : decode cX4_answerTo 1 = .ok (.iconst 0, 1) := by decide +kernel
theorem dX4_answerTo_2 : decode cX4_answerTo 2 = .ok (.putfield 22, 3) := by decide +kernel
theorem dX4_answerTo_5 : decode cX4_answerTo 5 = .ok (.aload_n 1, 1) := by decide +kernel
theorem dX4_answerTo_6 : decode cX4_answerTo 6 = .ok (.iload_n 2, 1) := by decide +kernel
theorem dX4_answerTo_7 : decode cX4_answerTo 7 = .ok (.invokestatic 26, 3) := by decide +kernel
theorem dX4_answerTo_10 : decode cX4_answerTo 10 = .ok (.ifCond .ne 12, 3) := by decide +kernel
theorem dX4_answerTo_13 : decode cX4_answerTo 13 = .ok (.aload_n 0, 1) := by decide +kernel
theorem dX4_answerTo_14 : decode cX4_answerTo 14 = .ok (.bipush 48, 2) := by decide +kernel
theorem dX4_answerTo_16 : decode cX4_answerTo 16 = .ok (.invokevirtual 30, 3) := by decide +kernel
theorem dX4_answerTo_19 : decode cX4_answerTo 19 = .ok (.goto 13, 3) := by decide +kernel
theorem dX4_answerTo_22 : decode cX4_answerTo 22 = .ok (.aload_n 0, 1) := by decide +kernel
theorem dX4_answerTo_23 : decode cX4_answerTo 23 = .ok (.aload_n 0, 1) := by decide +kernel
theorem dX4_answerTo_24 : decode cX4_answerTo 24 = .ok (.aload_n 1, 1) := by decide +kernel
theorem dX4_answerTo_25 : decode cX4_answerTo 25 = .ok (.iload_n 2, 1) := by decide +kernel
theorem dX4_answerTo_26 : decode cX4_answerTo 26 = .ok (.invokevirtual 34, 3) := by decide +kernel
theorem dX4_answerTo_29 : decode cX4_answerTo 29 = .ok (.invokevirtual 38, 3) := by decide +kernel
theorem dX4_answerTo_32 : decode cX4_answerTo 32 = .ok (.aload_n 0, 1) := by decide +kernel
theorem dX4_answerTo_33 : decode cX4_answerTo 33 = .ok (.bipush 10, 2) := by decide +kernel
theorem dX4_answerTo_35 : decode cX4_answerTo 35 = .ok (.invokevirtual 30, 3) := by decide +kernel
theorem dX4_answerTo_38 : decode cX4_answerTo 38 = .ok (.return_, 1) := by decide +kernel
theorem dX4_isRequest_0 : decode cX4_isRequest 0 = .ok (.iload_n 1, 1) := by decide +kernel
theorem dX4_isRequest_1 : decode cX4_isRequest 1 = .ok (.iconst 3, 1) := by decide +kernel
theorem dX4_isRequest_2 : decode cX4_isRequest 2 = .ok (.if_icmp .lt 9, 3) := by decide +kernel
theorem dX4_isRequest_5 : decode cX4_isRequest 5 = .ok (.iload_n 1, 1) := by decide +kernel
theorem dX4_isRequest_6 : decode cX4_isRequest 6 = .ok (.bipush 6, 2) := by decide +kernel
theorem dX4_isRequest_8 : decode cX4_isRequest 8 = .ok (.if_icmp .le 5, 3) := by decide +kernel
theorem dX4_isRequest_11 : decode cX4_isRequest 11 = .ok (.iconst 0, 1) := by decide +kernel
theorem dX4_isRequest_12 : decode cX4_isRequest 12 = .ok (.ireturn, 1) := by decide +kernel
theorem dX4_isRequest_13 : decode cX4_isRequest 13 = .ok (.iconst 1, 1) := by decide +kernel
theorem dX4_isRequest_14 : decode cX4_isRequest 14 = .ok (.istore_n 2, 1) := by decide +kernel
theorem dX4_isRequest_15 : decode cX4_isRequest 15 = .ok (.iload_n 2, 1) := by decide +kernel
theorem dX4_isRequest_16 : decode cX4_isRequest 16 = .ok (.iload_n 1, 1) := by decide +kernel
theorem dX4_isRequest_17 : decode cX4_isRequest 17 = .ok (.iconst 1, 1) := by decide +kernel
theorem dX4_isRequest_18 : decode cX4_isRequest 18 = .ok (.isub, 1) := by decide +kernel
theorem dX4_isRequest_19 : decode cX4_isRequest 19 = .ok (.if_icmp .ge 20, 3) := by decide +kernel
theorem dX4_isRequest_22 : decode cX4_isRequest 22 = .ok (.aload_n 0, 1) := by decide +kernel
theorem dX4_isRequest_23 : decode cX4_isRequest 23 = .ok (.iload_n 2, 1) := by decide +kernel
theorem dX4_isRequest_24 : decode cX4_isRequest 24 = .ok (.iaload, 1) := by decide +kernel
theorem dX4_isRequest_25 : decode cX4_isRequest 25 = .ok (.invokestatic 42, 3) := by decide +kernel
theorem dX4_isRequest_28 : decode cX4_isRequest 28 = .ok (.ifCond .ne 5, 3) := by decide +kernel
theorem dX4_isRequest_31 : decode cX4_isRequest 31 = .ok (.iconst 0, 1) := by decide +kernel
theorem dX4_isRequest_32 : decode cX4_isRequest 32 = .ok (.ireturn, 1) := by decide +kernel
theorem dX4_isRequest_33 : decode cX4_isRequest 33 = .ok (.iinc 2 1, 3) := by decide +kernel
theorem dX4_isRequest_36 : decode cX4_isRequest 36 = .ok (.goto (-21), 3) := by decide +kernel
theorem dX4_isRequest_39 : decode cX4_isRequest 39 = .ok (.aload_n 0, 1) := by decide +kernel
theorem dX4_isRequest_40 : decode cX4_isRequest 40 = .ok (.iconst 0, 1) := by decide +kernel
theorem dX4_isRequest_41 : decode cX4_isRequest 41 = .ok (.iaload, 1) := by decide +kernel
theorem dX4_isRequest_42 : decode cX4_isRequest 42 = .ok (.bipush 71, 2) := by decide +kernel
theorem dX4_isRequest_44 : decode cX4_isRequest 44 = .ok (.if_icmp .ne 17, 3) := by decide +kernel
theorem dX4_isRequest_47 : decode cX4_isRequest 47 = .ok (.aload_n 0, 1) := by decide +kernel
theorem dX4_isRequest_48 : decode cX4_isRequest 48 = .ok (.iload_n 1, 1) := by decide +kernel
theorem dX4_isRequest_49 : decode cX4_isRequest 49 = .ok (.iconst 1, 1) := by decide +kernel
theorem dX4_isRequest_50 : decode cX4_isRequest 50 = .ok (.isub, 1) := by decide +kernel
theorem dX4_isRequest_51 : decode cX4_isRequest 51 = .ok (.iaload, 1) := by decide +kernel
theorem dX4_isRequest_52 : decode cX4_isRequest 52 = .ok (.bipush 10, 2) := by decide +kernel
theorem dX4_isRequest_54 : decode cX4_isRequest 54 = .ok (.if_icmp .ne 7, 3) := by decide +kernel
theorem dX4_isRequest_57 : decode cX4_isRequest 57 = .ok (.iconst 1, 1) := by decide +kernel
theorem dX4_isRequest_58 : decode cX4_isRequest 58 = .ok (.goto 4, 3) := by decide +kernel
theorem dX4_isRequest_61 : decode cX4_isRequest 61 = .ok (.iconst 0, 1) := by decide +kernel
theorem dX4_isRequest_62 : decode cX4_isRequest 62 = .ok (.ireturn, 1) := by decide +kernel
theorem dX4_find_0 : decode cX4_find 0 = .ok (.iconst 0, 1) := by decide +kernel
theorem dX4_find_1 : decode cX4_find 1 = .ok (.istore_n 3, 1) := by decide +kernel
theorem dX4_find_2 : decode cX4_find 2 = .ok (.iload_n 3, 1) := by decide +kernel
theorem dX4_find_3 : decode cX4_find 3 = .ok (.bipush 6, 2) := by decide +kernel
theorem dX4_find_5 : decode cX4_find 5 = .ok (.if_icmp .ge 30, 3) := by decide +kernel
theorem dX4_find_8 : decode cX4_find 8 = .ok (.aload_n 0, 1) := by decide +kernel
theorem dX4_find_9 : decode cX4_find 9 = .ok (.getfield 11, 3) := by decide +kernel
theorem dX4_find_12 : decode cX4_find 12 = .ok (.iload_n 3, 1) := by decide +kernel
theorem dX4_find_13 : decode cX4_find 13 = .ok (.aaload, 1) := by decide +kernel
theorem dX4_find_14 : decode cX4_find 14 = .ok (.aload_n 1, 1) := by decide +kernel
theorem dX4_find_15 : decode cX4_find 15 = .ok (.iload_n 2, 1) := by decide +kernel
theorem dX4_find_16 : decode cX4_find 16 = .ok (.invokevirtual 46, 3) := by decide +kernel
theorem dX4_find_19 : decode cX4_find 19 = .ok (.ifCond .eq 10, 3) := by decide +kernel
theorem dX4_find_22 : decode cX4_find 22 = .ok (.aload_n 0, 1) := by decide +kernel
theorem dX4_find_23 : decode cX4_find 23 = .ok (.getfield 11, 3) := by decide +kernel
theorem dX4_find_26 : decode cX4_find 26 = .ok (.iload_n 3, 1) := by decide +kernel
theorem dX4_find_27 : decode cX4_find 27 = .ok (.aaload, 1) := by decide +kernel
theorem dX4_find_28 : decode cX4_find 28 = .ok (.areturn, 1) := by decide +kernel
theorem dX4_find_29 : decode cX4_find 29 = .ok (.iinc 3 1, 3) := by decide +kernel
theorem dX4_find_32 : decode cX4_find 32 = .ok (.goto (-30), 3) := by decide +kernel
theorem dX4_find_35 : decode cX4_find 35 = .ok (.aconst_null, 1) := by decide +kernel
theorem dX4_find_36 : decode cX4_find 36 = .ok (.areturn, 1) := by decide +kernel
theorem dX4_putText_0 : decode cX4_putText 0 = .ok (.aload_n 1, 1) := by decide +kernel
theorem dX4_putText_1 : decode cX4_putText 1 = .ok (.ifnonnull 12, 3) := by decide +kernel
theorem dX4_putText_4 : decode cX4_putText 4 = .ok (.aload_n 0, 1) := by decide +kernel
theorem dX4_putText_5 : decode cX4_putText 5 = .ok (.bipush 52, 2) := by decide +kernel
theorem dX4_putText_7 : decode cX4_putText 7 = .ok (.invokevirtual 30, 3) := by decide +kernel
theorem dX4_putText_10 : decode cX4_putText 10 = .ok (.goto 51, 3) := by decide +kernel
theorem dX4_putText_13 : decode cX4_putText 13 = .ok (.aload_n 1, 1) := by decide +kernel
theorem dX4_putText_14 : decode cX4_putText 14 = .ok (.invokevirtual 49, 3) := by decide +kernel
theorem dX4_putText_17 : decode cX4_putText 17 = .ok (.ifCond .ne 12, 3) := by decide +kernel
theorem dX4_putText_20 : decode cX4_putText 20 = .ok (.aload_n 0, 1) := by decide +kernel
theorem dX4_putText_21 : decode cX4_putText 21 = .ok (.bipush 53, 2) := by decide +kernel
theorem dX4_putText_23 : decode cX4_putText 23 = .ok (.invokevirtual 30, 3) := by decide +kernel
theorem dX4_putText_26 : decode cX4_putText 26 = .ok (.goto 35, 3) := by decide +kernel
theorem dX4_putText_29 : decode cX4_putText 29 = .ok (.aload_n 0, 1) := by decide +kernel
theorem dX4_putText_30 : decode cX4_putText 30 = .ok (.bipush 50, 2) := by decide +kernel
theorem dX4_putText_32 : decode cX4_putText 32 = .ok (.invokevirtual 30, 3) := by decide +kernel
theorem dX4_putText_35 : decode cX4_putText 35 = .ok (.iconst 0, 1) := by decide +kernel
theorem dX4_putText_36 : decode cX4_putText 36 = .ok (.istore_n 2, 1) := by decide +kernel
theorem dX4_putText_37 : decode cX4_putText 37 = .ok (.iload_n 2, 1) := by decide +kernel
theorem dX4_putText_38 : decode cX4_putText 38 = .ok (.aload_n 1, 1) := by decide +kernel
theorem dX4_putText_39 : decode cX4_putText 39 = .ok (.getfield 53, 3) := by decide +kernel
theorem dX4_putText_42 : decode cX4_putText 42 = .ok (.if_icmp .ge 19, 3) := by decide +kernel
theorem dX4_putText_45 : decode cX4_putText 45 = .ok (.aload_n 0, 1) := by decide +kernel
theorem dX4_putText_46 : decode cX4_putText 46 = .ok (.aload_n 1, 1) := by decide +kernel
theorem dX4_putText_47 : decode cX4_putText 47 = .ok (.getfield 56, 3) := by decide +kernel
theorem dX4_putText_50 : decode cX4_putText 50 = .ok (.iload_n 2, 1) := by decide +kernel
theorem dX4_putText_51 : decode cX4_putText 51 = .ok (.iaload, 1) := by decide +kernel
theorem dX4_putText_52 : decode cX4_putText 52 = .ok (.invokevirtual 30, 3) := by decide +kernel
theorem dX4_putText_55 : decode cX4_putText 55 = .ok (.iinc 2 1, 3) := by decide +kernel
theorem dX4_putText_58 : decode cX4_putText 58 = .ok (.goto (-21), 3) := by decide +kernel
theorem dX4_putText_61 : decode cX4_putText 61 = .ok (.return_, 1) := by decide +kernel
theorem dX4_put_0 : decode cX4_put 0 = .ok (.aload_n 0, 1) := by decide +kernel
theorem dX4_put_1 : decode cX4_put 1 = .ok (.getfield 17, 3) := by decide +kernel
theorem dX4_put_4 : decode cX4_put 4 = .ok (.aload_n 0, 1) := by decide +kernel
theorem dX4_put_5 : decode cX4_put 5 = .ok (.getfield 22, 3) := by decide +kernel
theorem dX4_put_8 : decode cX4_put 8 = .ok (.iload_n 1, 1) := by decide +kernel
theorem dX4_put_9 : decode cX4_put 9 = .ok (.iastore, 1) := by decide +kernel
theorem dX4_put_10 : decode cX4_put 10 = .ok (.aload_n 0, 1) := by decide +kernel
theorem dX4_put_11 : decode cX4_put 11 = .ok (.dup, 1) := by decide +kernel
theorem dX4_put_12 : decode cX4_put 12 = .ok (.getfield 22, 3) := by decide +kernel
theorem dX4_put_15 : decode cX4_put 15 = .ok (.iconst 1, 1) := by decide +kernel
theorem dX4_put_16 : decode cX4_put 16 = .ok (.iadd, 1) := by decide +kernel
theorem dX4_put_17 : decode cX4_put 17 = .ok (.putfield 22, 3) := by decide +kernel
theorem dX4_put_20 : decode cX4_put 20 = .ok (.return_, 1) := by decide +kernel
theorem dX5_init_0 : decode cX5_init 0 = .ok (.aload_n 0, 1) := by decide +kernel
theorem dX5_init_1 : decode cX5_init 1 = .ok (.invokespecial 3, 3) := by decide +kernel
theorem dX5_init_4 : decode cX5_init 4 = .ok (.aload_n 0, 1) := by decide +kernel
theorem dX5_init_5 : decode cX5_init 5 = .ok (.bipush 64, 2) := by decide +kernel
theorem dX5_init_7 : decode cX5_init 7 = .ok (.newarray .int, 2) := by decide +kernel
theorem dX5_init_9 : decode cX5_init 9 = .ok (.putfield 9, 3) := by decide +kernel
theorem dX5_init_12 : decode cX5_init 12 = .ok (.aload_n 0, 1) := by decide +kernel
theorem dX5_init_13 : decode cX5_init 13 = .ok (.bipush 16, 2) := by decide +kernel
theorem dX5_init_15 : decode cX5_init 15 = .ok (.newarray .int, 2) := by decide +kernel
theorem dX5_init_17 : decode cX5_init 17 = .ok (.putfield 15, 3) := by decide +kernel
theorem dX5_init_20 : decode cX5_init 20 = .ok (.return_, 1) := by decide +kernel
theorem dX5_begin_0 : decode cX5_begin 0 = .ok (.aload_n 0, 1) := by decide +kernel
theorem dX5_begin_1 : decode cX5_begin 1 = .ok (.iconst 1, 1) := by decide +kernel
theorem dX5_begin_2 : decode cX5_begin 2 = .ok (.putfield 18, 3) := by decide +kernel
theorem dX5_begin_5 : decode cX5_begin 5 = .ok (.aload_n 0, 1) := by decide +kernel
theorem dX5_begin_6 : decode cX5_begin 6 = .ok (.aload_n 1, 1) := by decide +kernel
theorem dX5_begin_7 : decode cX5_begin 7 = .ok (.getfield 22, 3) := by decide +kernel
theorem dX5_begin_10 : decode cX5_begin 10 = .ok (.putfield 27, 3) := by decide +kernel
theorem dX5_begin_13 : decode cX5_begin 13 = .ok (.aload_n 0, 1) := by decide +kernel
theorem dX5_begin_14 : decode cX5_begin 14 = .ok (.aload_n 1, 1) := by decide +kernel
theorem dX5_begin_15 : decode cX5_begin 15 = .ok (.getfield 30, 3) := by decide +kernel
theorem dX5_begin_18 : decode cX5_begin 18 = .ok (.iconst 0, 1) := by decide +kernel
theorem dX5_begin_19 : decode cX5_begin 19 = .ok (.iaload, 1) := by decide +kernel
theorem dX5_begin_20 : decode cX5_begin 20 = .ok (.putfield 33, 3) := by decide +kernel
theorem dX5_begin_23 : decode cX5_begin 23 = .ok (.aload_n 0, 1) := by decide +kernel
theorem dX5_begin_24 : decode cX5_begin 24 = .ok (.aload_n 1, 1) := by decide +kernel
theorem dX5_begin_25 : decode cX5_begin 25 = .ok (.getfield 30, 3) := by decide +kernel
theorem dX5_begin_28 : decode cX5_begin 28 = .ok (.iconst 1, 1) := by decide +kernel
theorem dX5_begin_29 : decode cX5_begin 29 = .ok (.iaload, 1) := by decide +kernel
theorem dX5_begin_30 : decode cX5_begin 30 = .ok (.iconst 1, 1) := by decide +kernel
theorem dX5_begin_31 : decode cX5_begin 31 = .ok (.iadd, 1) := by decide +kernel
theorem dX5_begin_32 : decode cX5_begin 32 = .ok (.sipush 255, 3) := by decide +kernel
theorem dX5_begin_35 : decode cX5_begin 35 = .ok (.iand, 1) := by decide +kernel
theorem dX5_begin_36 : decode cX5_begin 36 = .ok (.putfield 36, 3) := by decide +kernel
theorem dX5_begin_39 : decode cX5_begin 39 = .ok (.aload_n 0, 1) := by decide +kernel
theorem dX5_begin_40 : decode cX5_begin 40 = .ok (.iload_n 2, 1) := by decide +kernel
theorem dX5_begin_41 : decode cX5_begin 41 = .ok (.putfield 39, 3) := by decide +kernel
theorem dX5_begin_44 : decode cX5_begin 44 = .ok (.aload_n 0, 1) := by decide +kernel
theorem dX5_begin_45 : decode cX5_begin 45 = .ok (.iload_n 2, 1) := by decide +kernel
theorem dX5_begin_46 : decode cX5_begin 46 = .ok (.putfield 42, 3) := by decide +kernel
theorem dX5_begin_49 : decode cX5_begin 49 = .ok (.aload_n 0, 1) := by decide +kernel
theorem dX5_begin_50 : decode cX5_begin 50 = .ok (.iconst 0, 1) := by decide +kernel
theorem dX5_begin_51 : decode cX5_begin 51 = .ok (.putfield 45, 3) := by decide +kernel
theorem dX5_begin_54 : decode cX5_begin 54 = .ok (.aload_n 0, 1) := by decide +kernel
theorem dX5_begin_55 : decode cX5_begin 55 = .ok (.iconst 0, 1) := by decide +kernel
theorem dX5_begin_56 : decode cX5_begin 56 = .ok (.putfield 48, 3) := by decide +kernel
theorem dX5_begin_59 : decode cX5_begin 59 = .ok (.aload_n 0, 1) := by decide +kernel
theorem dX5_begin_60 : decode cX5_begin 60 = .ok (.aload_n 1, 1) := by decide +kernel
theorem dX5_begin_61 : decode cX5_begin 61 = .ok (.getfield 30, 3) := by decide +kernel
theorem dX5_begin_64 : decode cX5_begin 64 = .ok (.iconst 4, 1) := by decide +kernel
theorem dX5_begin_65 : decode cX5_begin 65 = .ok (.iaload, 1) := by decide +kernel
theorem dX5_begin_66 : decode cX5_begin 66 = .ok (.putfield 51, 3) := by decide +kernel
theorem dX5_begin_69 : decode cX5_begin 69 = .ok (.aload_n 0, 1) := by decide +kernel
theorem dX5_begin_70 : decode cX5_begin 70 = .ok (.iconst 1, 1) := by decide +kernel
theorem dX5_begin_71 : decode cX5_begin 71 = .ok (.putfield 54, 3) := by decide +kernel
theorem dX5_begin_74 : decode cX5_begin 74 = .ok (.aload_n 0, 1) := by decide +kernel
theorem dX5_begin_75 : decode cX5_begin 75 = .ok (.iconst 0, 1) := by decide +kernel
theorem dX5_begin_76 : decode cX5_begin 76 = .ok (.putfield 57, 3) := by decide +kernel
theorem dX5_begin_79 : decode cX5_begin 79 = .ok (.aload_n 0, 1) := by decide +kernel
theorem dX5_begin_80 : decode cX5_begin 80 = .ok (.iconst 0, 1) := by decide +kernel
theorem dX5_begin_81 : decode cX5_begin 81 = .ok (.putfield 60, 3) := by decide +kernel
theorem dX5_begin_84 : decode cX5_begin 84 = .ok (.return_, 1) := by decide +kernel
theorem dX5_onTheWay_0 : decode cX5_onTheWay 0 = .ok (.aload_n 0, 1) := by decide +kernel
theorem dX5_onTheWay_1 : decode cX5_onTheWay 1 = .ok (.getfield 42, 3) := by decide +kernel
theorem dX5_onTheWay_4 : decode cX5_onTheWay 4 = .ok (.aload_n 0, 1) := by decide +kernel
theorem dX5_onTheWay_5 : decode cX5_onTheWay 5 = .ok (.getfield 39, 3) := by decide +kernel
theorem dX5_onTheWay_8 : decode cX5_onTheWay 8 = .ok (.isub, 1) := by decide +kernel
theorem dX5_onTheWay_9 : decode cX5_onTheWay 9 = .ok (.sipush 255, 3) := by decide +kernel
theorem dX5_onTheWay_12 : decode cX5_onTheWay 12 = .ok (.iand, 1) := by decide +kernel
theorem dX5_onTheWay_13 : decode cX5_onTheWay 13 = .ok (.ireturn, 1) := by decide +kernel
theorem dX5_goOn_0 : decode cX5_goOn 0 = .ok (.aload_n 0, 1) := by decide +kernel
theorem dX5_goOn_1 : decode cX5_goOn 1 = .ok (.getfield 39, 3) := by decide +kernel
theorem dX5_goOn_4 : decode cX5_goOn 4 = .ok (.aload_n 0, 1) := by decide +kernel
theorem dX5_goOn_5 : decode cX5_goOn 5 = .ok (.getfield 42, 3) := by decide +kernel
theorem dX5_goOn_8 : decode cX5_goOn 8 = .ok (.if_icmp .ne 8, 3) := by decide +kernel
theorem dX5_goOn_11 : decode cX5_goOn 11 = .ok (.aload_n 0, 1) := by decide +kernel
theorem dX5_goOn_12 : decode cX5_goOn 12 = .ok (.iconst 0, 1) := by decide +kernel
theorem dX5_goOn_13 : decode cX5_goOn 13 = .ok (.putfield 60, 3) := by decide +kernel
theorem dX5_goOn_16 : decode cX5_goOn 16 = .ok (.aload_n 0, 1) := by decide +kernel
theorem dX5_goOn_17 : decode cX5_goOn 17 = .ok (.aload_n 0, 1) := by decide +kernel
theorem dX5_goOn_18 : decode cX5_goOn 18 = .ok (.getfield 42, 3) := by decide +kernel
theorem dX5_goOn_21 : decode cX5_goOn 21 = .ok (.iload_n 1, 1) := by decide +kernel
theorem dX5_goOn_22 : decode cX5_goOn 22 = .ok (.iadd, 1) := by decide +kernel
theorem dX5_goOn_23 : decode cX5_goOn 23 = .ok (.sipush 255, 3) := by decide +kernel
theorem dX5_goOn_26 : decode cX5_goOn 26 = .ok (.iand, 1) := by decide +kernel
theorem dX5_goOn_27 : decode cX5_goOn 27 = .ok (.putfield 42, 3) := by decide +kernel
theorem dX5_goOn_30 : decode cX5_goOn 30 = .ok (.return_, 1) := by decide +kernel
theorem dX5_tickEndsTimer_0 : decode cX5_tickEndsTimer 0 = .ok (.aload_n 0, 1) := by decide +kernel
theorem dX5_tickEndsTimer_1 : decode cX5_tickEndsTimer 1 = .ok (.getfield 18, 3) := by decide +kernel
theorem dX5_tickEndsTimer_4 : decode cX5_tickEndsTimer 4 = .ok (.ifCond .eq 14, 3) := by decide +kernel
theorem dX5_tickEndsTimer_7 : decode cX5_tickEndsTimer 7 = .ok (.aload_n 0, 1) := by decide +kernel
theorem dX5_tickEndsTimer_8 : decode cX5_tickEndsTimer 8 = .ok (.getfield 39, 3) := by decide +kernel
theorem dX5_tickEndsTimer_11 : decode cX5_tickEndsTimer 11 = .ok (.aload_n 0, 1) := by decide +kernel
theorem dX5_tickEndsTimer_12 : decode cX5_tickEndsTimer 12 = .ok (.getfield 42, 3) := by decide +kernel
theorem dX5_tickEndsTimer_15 : decode cX5_tickEndsTimer 15 = .ok (.if_icmp .ne 5, 3) := by decide +kernel
theorem dX5_tickEndsTimer_18 : decode cX5_tickEndsTimer 18 = .ok (.iconst 0, 1) := by decide +kernel
theorem dX5_tickEndsTimer_19 : decode cX5_tickEndsTimer 19 = .ok (.ireturn, 1) := by decide +kernel
theorem dX5_tickEndsTimer_20 : decode cX5_tickEndsTimer 20 = .ok (.aload_n 0, 1) := by decide +kernel
theorem dX5_tickEndsTimer_21 : decode cX5_tickEndsTimer 21 = .ok (.dup, 1) := by decide +kernel
theorem dX5_tickEndsTimer_22 : decode cX5_tickEndsTimer 22 = .ok (.getfield 60, 3) := by decide +kernel
theorem dX5_tickEndsTimer_25 : decode cX5_tickEndsTimer 25 = .ok (.iconst 1, 1) := by decide +kernel
theorem dX5_tickEndsTimer_26 : decode cX5_tickEndsTimer 26 = .ok (.iadd, 1) := by decide +kernel
theorem dX5_tickEndsTimer_27 : decode cX5_tickEndsTimer 27 = .ok (.putfield 60, 3) := by decide +kernel
theorem dX5_tickEndsTimer_30 : decode cX5_tickEndsTimer 30 = .ok (.aload_n 0, 1) := by decide +kernel
theorem dX5_tickEndsTimer_31 : decode cX5_tickEndsTimer 31 = .ok (.getfield 60, 3) := by decide +kernel
theorem dX5_tickEndsTimer_34 : decode cX5_tickEndsTimer 34 = .ok (.iconst 4, 1) := by decide +kernel
theorem dX5_tickEndsTimer_35 : decode cX5_tickEndsTimer 35 = .ok (.aload_n 0, 1) := by decide +kernel
theorem dX5_tickEndsTimer_36 : decode cX5_tickEndsTimer 36 = .ok (.getfield 57, 3) := by decide +kernel
theorem dX5_tickEndsTimer_39 : decode cX5_tickEndsTimer 39 = .ok (.ishl, 1) := by decide +kernel
theorem dX5_tickEndsTimer_40 : decode cX5_tickEndsTimer 40 = .ok (.if_icmp .lt 7, 3) := by decide +kernel
theorem dX5_tickEndsTimer_43 : decode cX5_tickEndsTimer 43 = .ok (.iconst 1, 1) := by decide +kernel
theorem dX5_tickEndsTimer_44 : decode cX5_tickEndsTimer 44 = .ok (.goto 4, 3) := by decide +kernel
theorem dX5_tickEndsTimer_47 : decode cX5_tickEndsTimer 47 = .ok (.iconst 0, 1) := by decide +kernel
theorem dX5_tickEndsTimer_48 : decode cX5_tickEndsTimer 48 = .ok (.ireturn, 1) := by decide +kernel
theorem dX5_goBack_0 : decode cX5_goBack 0 = .ok (.aload_n 0, 1) := by decide +kernel
theorem dX5_goBack_1 : decode cX5_goBack 1 = .ok (.dup, 1) := by decide +kernel
theorem dX5_goBack_2 : decode cX5_goBack 2 = .ok (.getfield 57, 3) := by decide +kernel
theorem dX5_goBack_5 : decode cX5_goBack 5 = .ok (.iconst 1, 1) := by decide +kernel
theorem dX5_goBack_6 : decode cX5_goBack 6 = .ok (.iadd, 1) := by decide +kernel
theorem dX5_goBack_7 : decode cX5_goBack 7 = .ok (.putfield 57, 3) := by decide +kernel
theorem dX5_goBack_10 : decode cX5_goBack 10 = .ok (.aload_n 0, 1) := by decide +kernel
theorem dX5_goBack_11 : decode cX5_goBack 11 = .ok (.iconst 1, 1) := by decide +kernel
theorem dX5_goBack_12 : decode cX5_goBack 12 = .ok (.putfield 54, 3) := by decide +kernel
theorem dX5_goBack_15 : decode cX5_goBack 15 = .ok (.aload_n 0, 1) := by decide +kernel
theorem dX5_goBack_16 : decode cX5_goBack 16 = .ok (.iconst 0, 1) := by decide +kernel
theorem dX5_goBack_17 : decode cX5_goBack 17 = .ok (.putfield 60, 3) := by decide +kernel
theorem dX5_goBack_20 : decode cX5_goBack 20 = .ok (.aload_n 0, 1) := by decide +kernel
theorem dX5_goBack_21 : decode cX5_goBack 21 = .ok (.aload_n 0, 1) := by decide +kernel
theorem dX5_goBack_22 : decode cX5_goBack 22 = .ok (.getfield 39, 3) := by decide +kernel
theorem dX5_goBack_25 : decode cX5_goBack 25 = .ok (.putfield 42, 3) := by decide +kernel
theorem dX5_goBack_28 : decode cX5_goBack 28 = .ok (.aload_n 0, 1) := by decide +kernel
theorem dX5_goBack_29 : decode cX5_goBack 29 = .ok (.getfield 18, 3) := by decide +kernel
theorem dX5_goBack_32 : decode cX5_goBack 32 = .ok (.iconst 4, 1) := by decide +kernel
theorem dX5_goBack_33 : decode cX5_goBack 33 = .ok (.if_icmp .ne 8, 3) := by decide +kernel
theorem dX5_goBack_36 : decode cX5_goBack 36 = .ok (.aload_n 0, 1) := by decide +kernel
theorem dX5_goBack_37 : decode cX5_goBack 37 = .ok (.iconst 3, 1) := by decide +kernel
theorem dX5_goBack_38 : decode cX5_goBack 38 = .ok (.putfield 18, 3) := by decide +kernel
theorem dX5_goBack_41 : decode cX5_goBack 41 = .ok (.return_, 1) := by decide +kernel
theorem dX5_acknowledge_0 : decode cX5_acknowledge 0 = .ok (.iload_n 1, 1) := by decide +kernel
theorem dX5_acknowledge_1 : decode cX5_acknowledge 1 = .ok (.aload_n 0, 1) := by decide +kernel
theorem dX5_acknowledge_2 : decode cX5_acknowledge 2 = .ok (.getfield 39, 3) := by decide +kernel
theorem dX5_acknowledge_5 : decode cX5_acknowledge 5 = .ok (.isub, 1) := by decide +kernel
theorem dX5_acknowledge_6 : decode cX5_acknowledge 6 = .ok (.sipush 255, 3) := by decide +kernel
theorem dX5_acknowledge_9 : decode cX5_acknowledge 9 = .ok (.iand, 1) := by decide +kernel
theorem dX5_acknowledge_10 : decode cX5_acknowledge 10 = .ok (.istore_n 2, 1) := by decide +kernel
theorem dX5_acknowledge_11 : decode cX5_acknowledge 11 = .ok (.iload_n 2, 1) := by decide +kernel
theorem dX5_acknowledge_12 : decode cX5_acknowledge 12 = .ok (.iconst 1, 1) := by decide +kernel
theorem dX5_acknowledge_13 : decode cX5_acknowledge 13 = .ok (.if_icmp .lt 11, 3) := by decide +kernel
theorem dX5_acknowledge_16 : decode cX5_acknowledge 16 = .ok (.iload_n 2, 1) := by decide +kernel
theorem dX5_acknowledge_17 : decode cX5_acknowledge 17 = .ok (.aload_n 0, 1) := by decide +kernel
theorem dX5_acknowledge_18 : decode cX5_acknowledge 18 = .ok (.invokevirtual 63, 3) := by decide +kernel
theorem dX5_acknowledge_21 : decode cX5_acknowledge 21 = .ok (.if_icmp .le 4, 3) := by decide +kernel
theorem dX5_acknowledge_24 : decode cX5_acknowledge 24 = .ok (.return_, 1) := by decide +kernel
theorem dX5_acknowledge_25 : decode cX5_acknowledge 25 = .ok (.aload_n 0, 1) := by decide +kernel
theorem dX5_acknowledge_26 : decode cX5_acknowledge 26 = .ok (.iload_n 1, 1) := by decide +kernel
theorem dX5_acknowledge_27 : decode cX5_acknowledge 27 = .ok (.putfield 39, 3) := by decide +kernel
theorem dX5_acknowledge_30 : decode cX5_acknowledge 30 = .ok (.aload_n 0, 1) := by decide +kernel
theorem dX5_acknowledge_31 : decode cX5_acknowledge 31 = .ok (.aload_n 0, 1) := by decide +kernel
theorem dX5_acknowledge_32 : decode cX5_acknowledge 32 = .ok (.getfield 54, 3) := by decide +kernel
theorem dX5_acknowledge_35 : decode cX5_acknowledge 35 = .ok (.iconst 1, 1) := by decide +kernel
theorem dX5_acknowledge_36 : decode cX5_acknowledge 36 = .ok (.iadd, 1) := by decide +kernel
theorem dX5_acknowledge_37 : decode cX5_acknowledge 37 = .ok (.iconst 4, 1) := by decide +kernel
theorem dX5_acknowledge_38 : decode cX5_acknowledge 38 = .ok (.invokestatic 67, 3) := by decide +kernel
theorem dX5_acknowledge_41 : decode cX5_acknowledge 41 = .ok (.putfield 54, 3) := by decide +kernel
theorem dX5_acknowledge_44 : decode cX5_acknowledge 44 = .ok (.aload_n 0, 1) := by decide +kernel
theorem dX5_acknowledge_45 : decode cX5_acknowledge 45 = .ok (.iconst 0, 1) := by decide +kernel
theorem dX5_acknowledge_46 : decode cX5_acknowledge 46 = .ok (.putfield 57, 3) := by decide +kernel
theorem dX5_acknowledge_49 : decode cX5_acknowledge 49 = .ok (.aload_n 0, 1) := by decide +kernel
theorem dX5_acknowledge_50 : decode cX5_acknowledge 50 = .ok (.iconst 0, 1) := by decide +kernel
theorem dX5_acknowledge_51 : decode cX5_acknowledge 51 = .ok (.putfield 60, 3) := by decide +kernel
theorem dX5_acknowledge_54 : decode cX5_acknowledge 54 = .ok (.aload_n 0, 1) := by decide +kernel
theorem dX5_acknowledge_55 : decode cX5_acknowledge 55 = .ok (.getfield 18, 3) := by decide +kernel
theorem dX5_acknowledge_58 : decode cX5_acknowledge 58 = .ok (.iconst 1, 1) := by decide +kernel
theorem dX5_acknowledge_59 : decode cX5_acknowledge 59 = .ok (.if_icmp .ne 9, 3) := by decide +kernel
theorem dX5_acknowledge_62 : decode cX5_acknowledge 62 = .ok (.aload_n 0, 1) := by decide +kernel
theorem dX5_acknowledge_63 : decode cX5_acknowledge 63 = .ok (.iconst 2, 1) := by decide +kernel
theorem dX5_acknowledge_64 : decode cX5_acknowledge 64 = .ok (.putfield 18, 3) := by decide +kernel
theorem dX5_acknowledge_67 : decode cX5_acknowledge 67 = .ok (.return_, 1) := by decide +kernel
theorem dX5_acknowledge_68 : decode cX5_acknowledge 68 = .ok (.aload_n 0, 1) := by decide +kernel
theorem dX5_acknowledge_69 : decode cX5_acknowledge 69 = .ok (.aload_n 0, 1) := by decide +kernel
theorem dX5_acknowledge_70 : decode cX5_acknowledge 70 = .ok (.getfield 9, 3) := by decide +kernel
theorem dX5_acknowledge_73 : decode cX5_acknowledge 73 = .ok (.aload_n 0, 1) := by decide +kernel
theorem dX5_acknowledge_74 : decode cX5_acknowledge 74 = .ok (.getfield 45, 3) := by decide +kernel
theorem dX5_acknowledge_77 : decode cX5_acknowledge 77 = .ok (.iload_n 2, 1) := by decide +kernel
theorem dX5_acknowledge_78 : decode cX5_acknowledge 78 = .ok (.aload_n 0, 1) := by decide +kernel
theorem dX5_acknowledge_79 : decode cX5_acknowledge 79 = .ok (.getfield 45, 3) := by decide +kernel
theorem dX5_acknowledge_82 : decode cX5_acknowledge 82 = .ok (.invokestatic 67, 3) := by decide +kernel
theorem dX5_acknowledge_85 : decode cX5_acknowledge 85 = .ok (.invokestatic 73, 3) := by decide +kernel
theorem dX5_acknowledge_88 : decode cX5_acknowledge 88 = .ok (.putfield 45, 3) := by decide +kernel
theorem dX5_acknowledge_91 : decode cX5_acknowledge 91 = .ok (.aload_n 0, 1) := by decide +kernel
theorem dX5_acknowledge_92 : decode cX5_acknowledge 92 = .ok (.getfield 18, 3) := by decide +kernel
theorem dX5_acknowledge_95 : decode cX5_acknowledge 95 = .ok (.iconst 4, 1) := by decide +kernel
theorem dX5_acknowledge_96 : decode cX5_acknowledge 96 = .ok (.if_icmp .ne 19, 3) := by decide +kernel
theorem dX5_acknowledge_99 : decode cX5_acknowledge 99 = .ok (.aload_n 0, 1) := by decide +kernel
theorem dX5_acknowledge_100 : decode cX5_acknowledge 100 = .ok (.getfield 39, 3) := by decide +kernel
theorem dX5_acknowledge_103 : decode cX5_acknowledge 103 = .ok (.aload_n 0, 1) := by decide +kernel
theorem dX5_acknowledge_104 : decode cX5_acknowledge 104 = .ok (.getfield 42, 3) := by decide +kernel
theorem dX5_acknowledge_107 : decode cX5_acknowledge 107 = .ok (.if_icmp .ne 8, 3) := by decide +kernel
theorem dX5_acknowledge_110 : decode cX5_acknowledge 110 = .ok (.aload_n 0, 1) := by decide +kernel
theorem dX5_acknowledge_111 : decode cX5_acknowledge 111 = .ok (.iconst 0, 1) := by decide +kernel
theorem dX5_acknowledge_112 : decode cX5_acknowledge 112 = .ok (.putfield 18, 3) := by decide +kernel
theorem dX5_acknowledge_115 : decode cX5_acknowledge 115 = .ok (.return_, 1) := by decide +kernel
theorem dX5_follow_0 : decode cX5_follow 0 = .ok (.aload_n 0, 1) := by decide +kernel
theorem dX5_follow_1 : decode cX5_follow 1 = .ok (.aload_n 1, 1) := by decide +kernel
theorem dX5_follow_2 : decode cX5_follow 2 = .ok (.getfield 30, 3) := by decide +kernel
theorem dX5_follow_5 : decode cX5_follow 5 = .ok (.iconst 2, 1) := by decide +kernel
theorem dX5_follow_6 : decode cX5_follow 6 = .ok (.iaload, 1) := by decide +kernel
theorem dX5_follow_7 : decode cX5_follow 7 = .ok (.invokevirtual 77, 3) := by decide +kernel
theorem dX5_follow_10 : decode cX5_follow 10 = .ok (.aload_n 0, 1) := by decide +kernel
theorem dX5_follow_11 : decode cX5_follow 11 = .ok (.getfield 18, 3) := by decide +kernel
theorem dX5_follow_14 : decode cX5_follow 14 = .ok (.ifCond .ne 5, 3) := by decide +kernel
theorem dX5_follow_17 : decode cX5_follow 17 = .ok (.iconst 0, 1) := by decide +kernel
theorem dX5_follow_18 : decode cX5_follow 18 = .ok (.ireturn, 1) := by decide +kernel
theorem dX5_follow_19 : decode cX5_follow 19 = .ok (.aload_n 0, 1) := by decide +kernel
theorem dX5_follow_20 : decode cX5_follow 20 = .ok (.aload_n 1, 1) := by decide +kernel
theorem dX5_follow_21 : decode cX5_follow 21 = .ok (.getfield 30, 3) := by decide +kernel
theorem dX5_follow_24 : decode cX5_follow 24 = .ok (.iconst 4, 1) := by decide +kernel
theorem dX5_follow_25 : decode cX5_follow 25 = .ok (.iaload, 1) := by decide +kernel
theorem dX5_follow_26 : decode cX5_follow 26 = .ok (.putfield 51, 3) := by decide +kernel
theorem dX5_follow_29 : decode cX5_follow 29 = .ok (.aload_n 0, 1) := by decide +kernel
theorem dX5_follow_30 : decode cX5_follow 30 = .ok (.getfield 18, 3) := by decide +kernel
theorem dX5_follow_33 : decode cX5_follow 33 = .ok (.iconst 1, 1) := by decide +kernel
theorem dX5_follow_34 : decode cX5_follow 34 = .ok (.if_icmp .ne 5, 3) := by decide +kernel
theorem dX5_follow_37 : decode cX5_follow 37 = .ok (.iconst 0, 1) := by decide +kernel
theorem dX5_follow_38 : decode cX5_follow 38 = .ok (.ireturn, 1) := by decide +kernel
theorem dX5_follow_39 : decode cX5_follow 39 = .ok (.aload_n 0, 1) := by decide +kernel
theorem dX5_follow_40 : decode cX5_follow 40 = .ok (.aload_n 1, 1) := by decide +kernel
theorem dX5_follow_41 : decode cX5_follow 41 = .ok (.invokevirtual 81, 3) := by decide +kernel
theorem dX5_follow_44 : decode cX5_follow 44 = .ok (.iconst 1, 1) := by decide +kernel
theorem dX5_follow_45 : decode cX5_follow 45 = .ok (.ireturn, 1) := by decide +kernel
theorem dX5_takeIn_0 : decode cX5_takeIn 0 = .ok (.aload_n 0, 1) := by decide +kernel
theorem dX5_takeIn_1 : decode cX5_takeIn 1 = .ok (.getfield 18, 3) := by decide +kernel
theorem dX5_takeIn_4 : decode cX5_takeIn 4 = .ok (.iconst 2, 1) := by decide +kernel
theorem dX5_takeIn_5 : decode cX5_takeIn 5 = .ok (.if_icmp .ne 16, 3) := by decide +kernel
theorem dX5_takeIn_8 : decode cX5_takeIn 8 = .ok (.aload_n 1, 1) := by decide +kernel
theorem dX5_takeIn_9 : decode cX5_takeIn 9 = .ok (.getfield 30, 3) := by decide +kernel
theorem dX5_takeIn_12 : decode cX5_takeIn 12 = .ok (.iconst 1, 1) := by decide +kernel
theorem dX5_takeIn_13 : decode cX5_takeIn 13 = .ok (.iaload, 1) := by decide +kernel
theorem dX5_takeIn_14 : decode cX5_takeIn 14 = .ok (.aload_n 0, 1) := by decide +kernel
theorem dX5_takeIn_15 : decode cX5_takeIn 15 = .ok (.getfield 36, 3) := by decide +kernel
theorem dX5_takeIn_18 : decode cX5_takeIn 18 = .ok (.if_icmp .eq 4, 3) := by decide +kernel
theorem dX5_takeIn_21 : decode cX5_takeIn 21 = .ok (.return_, 1) := by decide +kernel
theorem dX5_takeIn_22 : decode cX5_takeIn 22 = .ok (.aload_n 1, 1) := by decide +kernel
theorem dX5_takeIn_23 : decode cX5_takeIn 23 = .ok (.getfield 85, 3) := by decide +kernel
theorem dX5_takeIn_26 : decode cX5_takeIn 26 = .ok (.iconst 5, 1) := by decide +kernel
theorem dX5_takeIn_27 : decode cX5_takeIn 27 = .ok (.isub, 1) := by decide +kernel
theorem dX5_takeIn_28 : decode cX5_takeIn 28 = .ok (.istore_n 2, 1) := by decide +kernel
theorem dX5_takeIn_29 : decode cX5_takeIn 29 = .ok (.iload_n 2, 1) := by decide +kernel
theorem dX5_takeIn_30 : decode cX5_takeIn 30 = .ok (.bipush 16, 2) := by decide +kernel
theorem dX5_takeIn_32 : decode cX5_takeIn 32 = .ok (.aload_n 0, 1) := by decide +kernel
theorem dX5_takeIn_33 : decode cX5_takeIn 33 = .ok (.getfield 48, 3) := by decide +kernel
theorem dX5_takeIn_36 : decode cX5_takeIn 36 = .ok (.isub, 1) := by decide +kernel
theorem dX5_takeIn_37 : decode cX5_takeIn 37 = .ok (.invokestatic 67, 3) := by decide +kernel
theorem dX5_takeIn_40 : decode cX5_takeIn 40 = .ok (.istore_n 3, 1) := by decide +kernel
theorem dX5_takeIn_41 : decode cX5_takeIn 41 = .ok (.iconst 0, 1) := by decide +kernel
theorem dX5_takeIn_42 : decode cX5_takeIn 42 = .ok (.istore 4, 2) := by decide +kernel
theorem dX5_takeIn_44 : decode cX5_takeIn 44 = .ok (.iload 4, 2) := by decide +kernel
theorem dX5_takeIn_46 : decode cX5_takeIn 46 = .ok (.iload_n 3, 1) := by decide +kernel
theorem dX5_takeIn_47 : decode cX5_takeIn 47 = .ok (.if_icmp .ge 30, 3) := by decide +kernel
theorem dX5_takeIn_50 : decode cX5_takeIn 50 = .ok (.aload_n 0, 1) := by decide +kernel
theorem dX5_takeIn_51 : decode cX5_takeIn 51 = .ok (.getfield 15, 3) := by decide +kernel
theorem dX5_takeIn_54 : decode cX5_takeIn 54 = .ok (.aload_n 0, 1) := by decide +kernel
theorem dX5_takeIn_55 : decode cX5_takeIn 55 = .ok (.getfield 48, 3) := by decide +kernel
theorem dX5_takeIn_58 : decode cX5_takeIn 58 = .ok (.iload 4, 2) := by decide +kernel
theorem dX5_takeIn_60 : decode cX5_takeIn 60 = .ok (.iadd, 1) := by decide +kernel
theorem dX5_takeIn_61 : decode cX5_takeIn 61 = .ok (.aload_n 1, 1) := by decide +kernel
theorem dX5_takeIn_62 : decode cX5_takeIn 62 = .ok (.getfield 30, 3) := by decide +kernel
theorem dX5_takeIn_65 : decode cX5_takeIn 65 = .ok (.iconst 5, 1) := by decide +kernel
theorem dX5_takeIn_66 : decode cX5_takeIn 66 = .ok (.iload 4, 2) := by decide +kernel
theorem dX5_takeIn_68 : decode cX5_takeIn 68 = .ok (.iadd, 1) := by decide +kernel
theorem dX5_takeIn_69 : decode cX5_takeIn 69 = .ok (.iaload, 1) := by decide +kernel
theorem dX5_takeIn_70 : decode cX5_takeIn 70 = .ok (.iastore, 1) := by decide +kernel
theorem dX5_takeIn_71 : decode cX5_takeIn 71 = .ok (.iinc 4 1, 3) := by decide +kernel
theorem dX5_takeIn_74 : decode cX5_takeIn 74 = .ok (.goto (-30), 3) := by decide +kernel
theorem dX5_takeIn_77 : decode cX5_takeIn 77 = .ok (.aload_n 0, 1) := by decide +kernel
theorem dX5_takeIn_78 : decode cX5_takeIn 78 = .ok (.dup, 1) := by decide +kernel
theorem dX5_takeIn_79 : decode cX5_takeIn 79 = .ok (.getfield 48, 3) := by decide +kernel
theorem dX5_takeIn_82 : decode cX5_takeIn 82 = .ok (.iload_n 3, 1) := by decide +kernel
theorem dX5_takeIn_83 : decode cX5_takeIn 83 = .ok (.iadd, 1) := by decide +kernel
theorem dX5_takeIn_84 : decode cX5_takeIn 84 = .ok (.putfield 48, 3) := by decide +kernel
theorem dX5_takeIn_87 : decode cX5_takeIn 87 = .ok (.aload_n 0, 1) := by decide +kernel
theorem dX5_takeIn_88 : decode cX5_takeIn 88 = .ok (.aload_n 0, 1) := by decide +kernel
theorem dX5_takeIn_89 : decode cX5_takeIn 89 = .ok (.getfield 36, 3) := by decide +kernel
theorem dX5_takeIn_92 : decode cX5_takeIn 92 = .ok (.iload_n 3, 1) := by decide +kernel
theorem dX5_takeIn_93 : decode cX5_takeIn 93 = .ok (.iadd, 1) := by decide +kernel
theorem dX5_takeIn_94 : decode cX5_takeIn 94 = .ok (.sipush 255, 3) := by decide +kernel
theorem dX5_takeIn_97 : decode cX5_takeIn 97 = .ok (.iand, 1) := by decide +kernel
theorem dX5_takeIn_98 : decode cX5_takeIn 98 = .ok (.putfield 36, 3) := by decide +kernel
theorem dX5_takeIn_101 : decode cX5_takeIn 101 = .ok (.iload_n 3, 1) := by decide +kernel
theorem dX5_takeIn_102 : decode cX5_takeIn 102 = .ok (.iload_n 2, 1) := by decide +kernel
theorem dX5_takeIn_103 : decode cX5_takeIn 103 = .ok (.if_icmp .ne 30, 3) := by decide +kernel
theorem dX5_takeIn_106 : decode cX5_takeIn 106 = .ok (.aload_n 1, 1) := by decide +kernel
theorem dX5_takeIn_107 : decode cX5_takeIn 107 = .ok (.iconst 1, 1) := by decide +kernel
theorem dX5_takeIn_108 : decode cX5_takeIn 108 = .ok (.invokevirtual 88, 3) := by decide +kernel
theorem dX5_takeIn_111 : decode cX5_takeIn 111 = .ok (.ifCond .eq 22, 3) := by decide +kernel
theorem dX5_takeIn_114 : decode cX5_takeIn 114 = .ok (.aload_n 0, 1) := by decide +kernel
theorem dX5_takeIn_115 : decode cX5_takeIn 115 = .ok (.aload_n 0, 1) := by decide +kernel
theorem dX5_takeIn_116 : decode cX5_takeIn 116 = .ok (.getfield 36, 3) := by decide +kernel
theorem dX5_takeIn_119 : decode cX5_takeIn 119 = .ok (.iconst 1, 1) := by decide +kernel
theorem dX5_takeIn_120 : decode cX5_takeIn 120 = .ok (.iadd, 1) := by decide +kernel
theorem dX5_takeIn_121 : decode cX5_takeIn 121 = .ok (.sipush 255, 3) := by decide +kernel
theorem dX5_takeIn_124 : decode cX5_takeIn 124 = .ok (.iand, 1) := by decide +kernel
theorem dX5_takeIn_125 : decode cX5_takeIn 125 = .ok (.putfield 36, 3) := by decide +kernel
theorem dX5_takeIn_128 : decode cX5_takeIn 128 = .ok (.aload_n 0, 1) := by decide +kernel
theorem dX5_takeIn_129 : decode cX5_takeIn 129 = .ok (.iconst 3, 1) := by decide +kernel
theorem dX5_takeIn_130 : decode cX5_takeIn 130 = .ok (.putfield 18, 3) := by decide +kernel
theorem dX5_takeIn_133 : decode cX5_takeIn 133 = .ok (.return_, 1) := by decide +kernel
theorem dX5_lineLength_0 : decode cX5_lineLength 0 = .ok (.aload_n 0, 1) := by decide +kernel
theorem dX5_lineLength_1 : decode cX5_lineLength 1 = .ok (.getfield 48, 3) := by decide +kernel
theorem dX5_lineLength_4 : decode cX5_lineLength 4 = .ok (.bipush 7, 2) := by decide +kernel
theorem dX5_lineLength_6 : decode cX5_lineLength 6 = .ok (.invokestatic 67, 3) := by decide +kernel
theorem dX5_lineLength_9 : decode cX5_lineLength 9 = .ok (.istore_n 1, 1) := by decide +kernel
theorem dX5_lineLength_10 : decode cX5_lineLength 10 = .ok (.iconst 0, 1) := by decide +kernel
theorem dX5_lineLength_11 : decode cX5_lineLength 11 = .ok (.istore_n 2, 1) := by decide +kernel
theorem dX5_lineLength_12 : decode cX5_lineLength 12 = .ok (.iload_n 2, 1) := by decide +kernel
theorem dX5_lineLength_13 : decode cX5_lineLength 13 = .ok (.iload_n 1, 1) := by decide +kernel
theorem dX5_lineLength_14 : decode cX5_lineLength 14 = .ok (.if_icmp .ge 24, 3) := by decide +kernel
theorem dX5_lineLength_17 : decode cX5_lineLength 17 = .ok (.aload_n 0, 1) := by decide +kernel
theorem dX5_lineLength_18 : decode cX5_lineLength 18 = .ok (.getfield 15, 3) := by decide +kernel
theorem dX5_lineLength_21 : decode cX5_lineLength 21 = .ok (.iload_n 2, 1) := by decide +kernel
theorem dX5_lineLength_22 : decode cX5_lineLength 22 = .ok (.iaload, 1) := by decide +kernel
theorem dX5_lineLength_23 : decode cX5_lineLength 23 = .ok (.bipush 10, 2) := by decide +kernel
theorem dX5_lineLength_25 : decode cX5_lineLength 25 = .ok (.if_icmp .ne 7, 3) := by decide +kernel
theorem dX5_lineLength_28 : decode cX5_lineLength 28 = .ok (.iload_n 2, 1) := by decide +kernel
theorem dX5_lineLength_29 : decode cX5_lineLength 29 = .ok (.iconst 1, 1) := by decide +kernel
theorem dX5_lineLength_30 : decode cX5_lineLength 30 = .ok (.iadd, 1) := by decide +kernel
theorem dX5_lineLength_31 : decode cX5_lineLength 31 = .ok (.ireturn, 1) := by decide +kernel
theorem dX5_lineLength_32 : decode cX5_lineLength 32 = .ok (.iinc 2 1, 3) := by decide +kernel
theorem dX5_lineLength_35 : decode cX5_lineLength 35 = .ok (.goto (-23), 3) := by decide +kernel
theorem dX5_lineLength_38 : decode cX5_lineLength 38 = .ok (.iload_n 1, 1) := by decide +kernel
theorem dX5_lineLength_39 : decode cX5_lineLength 39 = .ok (.bipush 7, 2) := by decide +kernel
theorem dX5_lineLength_41 : decode cX5_lineLength 41 = .ok (.if_icmp .ne 8, 3) := by decide +kernel
theorem dX5_lineLength_44 : decode cX5_lineLength 44 = .ok (.bipush 7, 2) := by decide +kernel
theorem dX5_lineLength_46 : decode cX5_lineLength 46 = .ok (.goto 4, 3) := by decide +kernel
theorem dX5_lineLength_49 : decode cX5_lineLength 49 = .ok (.iconst 0, 1) := by decide +kernel
theorem dX5_lineLength_50 : decode cX5_lineLength 50 = .ok (.ireturn, 1) := by decide +kernel
theorem dX5_replaceLine_0 : decode cX5_replaceLine 0 = .ok (.aload_n 0, 1) := by decide +kernel
theorem dX5_replaceLine_1 : decode cX5_replaceLine 1 = .ok (.aload_n 0, 1) := by decide +kernel
theorem dX5_replaceLine_2 : decode cX5_replaceLine 2 = .ok (.getfield 15, 3) := by decide +kernel
theorem dX5_replaceLine_5 : decode cX5_replaceLine 5 = .ok (.aload_n 0, 1) := by decide +kernel
theorem dX5_replaceLine_6 : decode cX5_replaceLine 6 = .ok (.getfield 48, 3) := by decide +kernel
theorem dX5_replaceLine_9 : decode cX5_replaceLine 9 = .ok (.iload_n 1, 1) := by decide +kernel
theorem dX5_replaceLine_10 : decode cX5_replaceLine 10 = .ok (.invokestatic 73, 3) := by decide +kernel
theorem dX5_replaceLine_13 : decode cX5_replaceLine 13 = .ok (.putfield 48, 3) := by decide +kernel
theorem dX5_replaceLine_16 : decode cX5_replaceLine 16 = .ok (.iconst 0, 1) := by decide +kernel
theorem dX5_replaceLine_17 : decode cX5_replaceLine 17 = .ok (.istore 4, 2) := by decide +kernel
theorem dX5_replaceLine_19 : decode cX5_replaceLine 19 = .ok (.iload 4, 2) := by decide +kernel
theorem dX5_replaceLine_21 : decode cX5_replaceLine 21 = .ok (.iload_n 3, 1) := by decide +kernel
theorem dX5_replaceLine_22 : decode cX5_replaceLine 22 = .ok (.if_icmp .ge 25, 3) := by decide +kernel
theorem dX5_replaceLine_25 : decode cX5_replaceLine 25 = .ok (.aload_n 0, 1) := by decide +kernel
theorem dX5_replaceLine_26 : decode cX5_replaceLine 26 = .ok (.getfield 9, 3) := by decide +kernel
theorem dX5_replaceLine_29 : decode cX5_replaceLine 29 = .ok (.aload_n 0, 1) := by decide +kernel
theorem dX5_replaceLine_30 : decode cX5_replaceLine 30 = .ok (.getfield 45, 3) := by decide +kernel
theorem dX5_replaceLine_33 : decode cX5_replaceLine 33 = .ok (.iload 4, 2) := by decide +kernel
theorem dX5_replaceLine_35 : decode cX5_replaceLine 35 = .ok (.iadd, 1) := by decide +kernel
theorem dX5_replaceLine_36 : decode cX5_replaceLine 36 = .ok (.aload_n 2, 1) := by decide +kernel
theorem dX5_replaceLine_37 : decode cX5_replaceLine 37 = .ok (.iload 4, 2) := by decide +kernel
theorem dX5_replaceLine_39 : decode cX5_replaceLine 39 = .ok (.iaload, 1) := by decide +kernel
theorem dX5_replaceLine_40 : decode cX5_replaceLine 40 = .ok (.iastore, 1) := by decide +kernel
theorem dX5_replaceLine_41 : decode cX5_replaceLine 41 = .ok (.iinc 4 1, 3) := by decide +kernel
theorem dX5_replaceLine_44 : decode cX5_replaceLine 44 = .ok (.goto (-25), 3) := by decide +kernel
theorem dX5_replaceLine_47 : decode cX5_replaceLine 47 = .ok (.aload_n 0, 1) := by decide +kernel
theorem dX5_replaceLine_48 : decode cX5_replaceLine 48 = .ok (.dup, 1) := by decide +kernel
theorem dX5_replaceLine_49 : decode cX5_replaceLine 49 = .ok (.getfield 45, 3) := by decide +kernel
theorem dX5_replaceLine_52 : decode cX5_replaceLine 52 = .ok (.iload_n 3, 1) := by decide +kernel
theorem dX5_replaceLine_53 : decode cX5_replaceLine 53 = .ok (.iadd, 1) := by decide +kernel
theorem dX5_replaceLine_54 : decode cX5_replaceLine 54 = .ok (.putfield 45, 3) := by decide +kernel
theorem dX5_replaceLine_57 : decode cX5_replaceLine 57 = .ok (.return_, 1) := by decide +kernel
theorem dX5_nextSegmentSize_0 : decode cX5_nextSegmentSize 0 = .ok (.aload_n 0, 1) := by decide +kernel
theorem dX5_nextSegmentSize_1 : decode cX5_nextSegmentSize 1 = .ok (.getfield 51, 3) := by decide +kernel
theorem dX5_nextSegmentSize_4 : decode cX5_nextSegmentSize 4 = .ok (.bipush 8, 2) := by decide +kernel
theorem dX5_nextSegmentSize_6 : decode cX5_nextSegmentSize 6 = .ok (.aload_n 0, 1) := by decide +kernel
theorem dX5_nextSegmentSize_7 : decode cX5_nextSegmentSize 7 = .ok (.getfield 54, 3) := by decide +kernel
theorem dX5_nextSegmentSize_10 : decode cX5_nextSegmentSize 10 = .ok (.imul, 1) := by decide +kernel
theorem dX5_nextSegmentSize_11 : decode cX5_nextSegmentSize 11 = .ok (.invokestatic 67, 3) := by decide +kernel
theorem dX5_nextSegmentSize_14 : decode cX5_nextSegmentSize 14 = .ok (.aload_n 0, 1) := by decide +kernel
theorem dX5_nextSegmentSize_15 : decode cX5_nextSegmentSize 15 = .ok (.invokevirtual 63, 3) := by decide +kernel
theorem dX5_nextSegmentSize_18 : decode cX5_nextSegmentSize 18 = .ok (.isub, 1) := by decide +kernel
theorem dX5_nextSegmentSize_19 : decode cX5_nextSegmentSize 19 = .ok (.istore_n 1, 1) := by decide +kernel
theorem dX5_nextSegmentSize_20 : decode cX5_nextSegmentSize 20 = .ok (.aload_n 0, 1) := by decide +kernel
theorem dX5_nextSegmentSize_21 : decode cX5_nextSegmentSize 21 = .ok (.getfield 45, 3) := by decide +kernel
theorem dX5_nextSegmentSize_24 : decode cX5_nextSegmentSize 24 = .ok (.aload_n 0, 1) := by decide +kernel
theorem dX5_nextSegmentSize_25 : decode cX5_nextSegmentSize 25 = .ok (.invokevirtual 63, 3) := by decide +kernel
theorem dX5_nextSegmentSize_28 : decode cX5_nextSegmentSize 28 = .ok (.isub, 1) := by decide +kernel
theorem dX5_nextSegmentSize_29 : decode cX5_nextSegmentSize 29 = .ok (.istore_n 2, 1) := by decide +kernel
theorem dX5_nextSegmentSize_30 : decode cX5_nextSegmentSize 30 = .ok (.iconst 0, 1) := by decide +kernel
theorem dX5_nextSegmentSize_31 : decode cX5_nextSegmentSize 31 = .ok (.bipush 8, 2) := by decide +kernel
theorem dX5_nextSegmentSize_33 : decode cX5_nextSegmentSize 33 = .ok (.iload_n 1, 1) := by decide +kernel
theorem dX5_nextSegmentSize_34 : decode cX5_nextSegmentSize 34 = .ok (.iload_n 2, 1) := by decide +kernel
theorem dX5_nextSegmentSize_35 : decode cX5_nextSegmentSize 35 = .ok (.invokestatic 67, 3) := by decide +kernel
theorem dX5_nextSegmentSize_38 : decode cX5_nextSegmentSize 38 = .ok (.invokestatic 67, 3) := by decide +kernel
theorem dX5_nextSegmentSize_41 : decode cX5_nextSegmentSize 41 = .ok (.invokestatic 92, 3) := by decide +kernel
theorem dX5_nextSegmentSize_44 : decode cX5_nextSegmentSize 44 = .ok (.ireturn, 1) := by decide +kernel
theorem dX5_canEnd_0 : decode cX5_canEnd 0 = .ok (.aload_n 0, 1) := by decide +kernel
theorem dX5_canEnd_1 : decode cX5_canEnd 1 = .ok (.getfield 18, 3) := by decide +kernel
theorem dX5_canEnd_4 : decode cX5_canEnd 4 = .ok (.iconst 3, 1) := by decide +kernel
theorem dX5_canEnd_5 : decode cX5_canEnd 5 = .ok (.if_icmp .ne 25, 3) := by decide +kernel
theorem dX5_canEnd_8 : decode cX5_canEnd 8 = .ok (.aload_n 0, 1) := by decide +kernel
theorem dX5_canEnd_9 : decode cX5_canEnd 9 = .ok (.invokevirtual 63, 3) := by decide +kernel
theorem dX5_canEnd_12 : decode cX5_canEnd 12 = .ok (.aload_n 0, 1) := by decide +kernel
theorem dX5_canEnd_13 : decode cX5_canEnd 13 = .ok (.getfield 45, 3) := by decide +kernel
theorem dX5_canEnd_16 : decode cX5_canEnd 16 = .ok (.if_icmp .ne 14, 3) := by decide +kernel
theorem dX5_canEnd_19 : decode cX5_canEnd 19 = .ok (.aload_n 0, 1) := by decide +kernel
theorem dX5_canEnd_20 : decode cX5_canEnd 20 = .ok (.invokevirtual 95, 3) := by decide +kernel
theorem dX5_canEnd_23 : decode cX5_canEnd 23 = .ok (.ifCond .ne 7, 3) := by decide +kernel
theorem dX5_canEnd_26 : decode cX5_canEnd 26 = .ok (.iconst 1, 1) := by decide +kernel
theorem dX5_canEnd_27 : decode cX5_canEnd 27 = .ok (.goto 4, 3) := by decide +kernel
theorem dX5_canEnd_30 : decode cX5_canEnd 30 = .ok (.iconst 0, 1) := by decide +kernel
theorem dX5_canEnd_31 : decode cX5_canEnd 31 = .ok (.ireturn, 1) := by decide +kernel
theorem dX5_tell_0 : decode cX5_tell 0 = .ok (.iload_n 1, 1) := by decide +kernel
theorem dX5_tell_1 : decode cX5_tell 1 = .ok (.tableswitch 159 0 11 #[63, 71, 79, 87, 95, 103, 111, 119, 127, 135, 143, 151], 63) := by decide +kernel
theorem dX5_tell_64 : decode cX5_tell 64 = .ok (.aload_n 0, 1) := by decide +kernel
theorem dX5_tell_65 : decode cX5_tell 65 = .ok (.getfield 18, 3) := by decide +kernel
theorem dX5_tell_68 : decode cX5_tell 68 = .ok (.istore_n 2, 1) := by decide +kernel
theorem dX5_tell_69 : decode cX5_tell 69 = .ok (.goto 93, 3) := by decide +kernel
theorem dX5_tell_72 : decode cX5_tell 72 = .ok (.aload_n 0, 1) := by decide +kernel
theorem dX5_tell_73 : decode cX5_tell 73 = .ok (.getfield 27, 3) := by decide +kernel
theorem dX5_tell_76 : decode cX5_tell 76 = .ok (.istore_n 2, 1) := by decide +kernel
theorem dX5_tell_77 : decode cX5_tell 77 = .ok (.goto 85, 3) := by decide +kernel
theorem dX5_tell_80 : decode cX5_tell 80 = .ok (.aload_n 0, 1) := by decide +kernel
theorem dX5_tell_81 : decode cX5_tell 81 = .ok (.getfield 33, 3) := by decide +kernel
theorem dX5_tell_84 : decode cX5_tell 84 = .ok (.istore_n 2, 1) := by decide +kernel
theorem dX5_tell_85 : decode cX5_tell 85 = .ok (.goto 77, 3) := by decide +kernel
theorem dX5_tell_88 : decode cX5_tell 88 = .ok (.aload_n 0, 1) := by decide +kernel
theorem dX5_tell_89 : decode cX5_tell 89 = .ok (.getfield 36, 3) := by decide +kernel
theorem dX5_tell_92 : decode cX5_tell 92 = .ok (.istore_n 2, 1) := by decide +kernel
theorem dX5_tell_93 : decode cX5_tell 93 = .ok (.goto 69, 3) := by decide +kernel
theorem dX5_tell_96 : decode cX5_tell 96 = .ok (.aload_n 0, 1) := by decide +kernel
theorem dX5_tell_97 : decode cX5_tell 97 = .ok (.getfield 39, 3) := by decide +kernel
theorem dX5_tell_100 : decode cX5_tell 100 = .ok (.istore_n 2, 1) := by decide +kernel
theorem dX5_tell_101 : decode cX5_tell 101 = .ok (.goto 61, 3) := by decide +kernel
theorem dX5_tell_104 : decode cX5_tell 104 = .ok (.aload_n 0, 1) := by decide +kernel
theorem dX5_tell_105 : decode cX5_tell 105 = .ok (.getfield 42, 3) := by decide +kernel
theorem dX5_tell_108 : decode cX5_tell 108 = .ok (.istore_n 2, 1) := by decide +kernel
theorem dX5_tell_109 : decode cX5_tell 109 = .ok (.goto 53, 3) := by decide +kernel
theorem dX5_tell_112 : decode cX5_tell 112 = .ok (.aload_n 0, 1) := by decide +kernel
theorem dX5_tell_113 : decode cX5_tell 113 = .ok (.getfield 45, 3) := by decide +kernel
theorem dX5_tell_116 : decode cX5_tell 116 = .ok (.istore_n 2, 1) := by decide +kernel
theorem dX5_tell_117 : decode cX5_tell 117 = .ok (.goto 45, 3) := by decide +kernel
theorem dX5_tell_120 : decode cX5_tell 120 = .ok (.aload_n 0, 1) := by decide +kernel
theorem dX5_tell_121 : decode cX5_tell 121 = .ok (.getfield 48, 3) := by decide +kernel
theorem dX5_tell_124 : decode cX5_tell 124 = .ok (.istore_n 2, 1) := by decide +kernel
theorem dX5_tell_125 : decode cX5_tell 125 = .ok (.goto 37, 3) := by decide +kernel
theorem dX5_tell_128 : decode cX5_tell 128 = .ok (.aload_n 0, 1) := by decide +kernel
theorem dX5_tell_129 : decode cX5_tell 129 = .ok (.getfield 51, 3) := by decide +kernel
theorem dX5_tell_132 : decode cX5_tell 132 = .ok (.istore_n 2, 1) := by decide +kernel
theorem dX5_tell_133 : decode cX5_tell 133 = .ok (.goto 29, 3) := by decide +kernel
theorem dX5_tell_136 : decode cX5_tell 136 = .ok (.aload_n 0, 1) := by decide +kernel
theorem dX5_tell_137 : decode cX5_tell 137 = .ok (.getfield 54, 3) := by decide +kernel
theorem dX5_tell_140 : decode cX5_tell 140 = .ok (.istore_n 2, 1) := by decide +kernel
theorem dX5_tell_141 : decode cX5_tell 141 = .ok (.goto 21, 3) := by decide +kernel
theorem dX5_tell_144 : decode cX5_tell 144 = .ok (.aload_n 0, 1) := by decide +kernel
theorem dX5_tell_145 : decode cX5_tell 145 = .ok (.getfield 57, 3) := by decide +kernel
theorem dX5_tell_148 : decode cX5_tell 148 = .ok (.istore_n 2, 1) := by decide +kernel
theorem dX5_tell_149 : decode cX5_tell 149 = .ok (.goto 13, 3) := by decide +kernel
theorem dX5_tell_152 : decode cX5_tell 152 = .ok (.aload_n 0, 1) := by decide +kernel
theorem dX5_tell_153 : decode cX5_tell 153 = .ok (.getfield 60, 3) := by decide +kernel
theorem dX5_tell_156 : decode cX5_tell 156 = .ok (.istore_n 2, 1) := by decide +kernel
theorem dX5_tell_157 : decode cX5_tell 157 = .ok (.goto 5, 3) := by decide +kernel
theorem dX5_tell_160 : decode cX5_tell 160 = .ok (.iconst (-1), 1) := by decide +kernel
theorem dX5_tell_161 : decode cX5_tell 161 = .ok (.ireturn, 1) := by decide +kernel
theorem dX5_tell_162 : decode cX5_tell 162 = .ok (.aload_n 0, 1) := by decide +kernel
theorem dX5_tell_163 : decode cX5_tell 163 = .ok (.getfield 18, 3) := by decide +kernel
theorem dX5_tell_166 : decode cX5_tell 166 = .ok (.ifCond .ne 7, 3) := by decide +kernel
theorem dX5_tell_169 : decode cX5_tell 169 = .ok (.iconst 0, 1) := by decide +kernel
theorem dX5_tell_170 : decode cX5_tell 170 = .ok (.goto 4, 3) := by decide +kernel
theorem dX5_tell_173 : decode cX5_tell 173 = .ok (.iload_n 2, 1) := by decide +kernel
theorem dX5_tell_174 : decode cX5_tell 174 = .ok (.ireturn, 1) := by decide +kernel
theorem dX5_removeFirst_0 : decode cX5_removeFirst 0 = .ok (.iload_n 1, 1) := by decide +kernel
theorem dX5_removeFirst_1 : decode cX5_removeFirst 1 = .ok (.iload_n 2, 1) := by decide +kernel
theorem dX5_removeFirst_2 : decode cX5_removeFirst 2 = .ok (.isub, 1) := by decide +kernel
theorem dX5_removeFirst_3 : decode cX5_removeFirst 3 = .ok (.istore_n 3, 1) := by decide +kernel
theorem dX5_removeFirst_4 : decode cX5_removeFirst 4 = .ok (.iconst 0, 1) := by decide +kernel
theorem dX5_removeFirst_5 : decode cX5_removeFirst 5 = .ok (.istore 4, 2) := by decide +kernel
theorem dX5_removeFirst_7 : decode cX5_removeFirst 7 = .ok (.iload 4, 2) := by decide +kernel
theorem dX5_removeFirst_9 : decode cX5_removeFirst 9 = .ok (.iload_n 3, 1) := by decide +kernel
theorem dX5_removeFirst_10 : decode cX5_removeFirst 10 = .ok (.if_icmp .ge 19, 3) := by decide +kernel
theorem dX5_removeFirst_13 : decode cX5_removeFirst 13 = .ok (.aload_n 0, 1) := by decide +kernel
theorem dX5_removeFirst_14 : decode cX5_removeFirst 14 = .ok (.iload 4, 2) := by decide +kernel
theorem dX5_removeFirst_16 : decode cX5_removeFirst 16 = .ok (.aload_n 0, 1) := by decide +kernel
theorem dX5_removeFirst_17 : decode cX5_removeFirst 17 = .ok (.iload_n 2, 1) := by decide +kernel
theorem dX5_removeFirst_18 : decode cX5_removeFirst 18 = .ok (.iload 4, 2) := by decide +kernel
theorem dX5_removeFirst_20 : decode cX5_removeFirst 20 = .ok (.iadd, 1) := by decide +kernel
theorem dX5_removeFirst_21 : decode cX5_removeFirst 21 = .ok (.iaload, 1) := by decide +kernel
theorem dX5_removeFirst_22 : decode cX5_removeFirst 22 = .ok (.iastore, 1) := by decide +kernel
theorem dX5_removeFirst_23 : decode cX5_removeFirst 23 = .ok (.iinc 4 1, 3) := by decide +kernel
theorem dX5_removeFirst_26 : decode cX5_removeFirst 26 = .ok (.goto (-19), 3) := by decide +kernel
theorem dX5_removeFirst_29 : decode cX5_removeFirst 29 = .ok (.iload_n 3, 1) := by decide +kernel
theorem dX5_removeFirst_30 : decode cX5_removeFirst 30 = .ok (.ireturn, 1) := by decide +kernel
theorem dX6_init_0 : decode cX6_init 0 = .ok (.aload_n 0, 1) := by decide +kernel
theorem dX6_init_1 : decode cX6_init 1 = .ok (.invokespecial 3, 3) := by decide +kernel
theorem dX6_init_4 : decode cX6_init 4 = .ok (.aload_n 0, 1) := by decide +kernel
theorem dX6_init_5 : decode cX6_init 5 = .ok (.iconst 3, 1) := by decide +kernel
theorem dX6_init_6 : decode cX6_init 6 = .ok (.anewarray 9, 3) := by decide +kernel
theorem dX6_init_9 : decode cX6_init 9 = .ok (.putfield 11, 3) := by decide +kernel
theorem dX6_init_12 : decode cX6_init 12 = .ok (.aload_n 0, 1) := by decide +kernel
theorem dX6_init_13 : decode cX6_init 13 = .ok (.new 17, 3) := by decide +kernel
theorem dX6_init_16 : decode cX6_init 16 = .ok (.dup, 1) := by decide +kernel
theorem dX6_init_17 : decode cX6_init 17 = .ok (.invokespecial 19, 3) := by decide +kernel
theorem dX6_init_20 : decode cX6_init 20 = .ok (.putfield 20, 3) := by decide +kernel
theorem dX6_init_23 : decode cX6_init 23 = .ok (.aload_n 0, 1) := by decide +kernel
theorem dX6_init_24 : decode cX6_init 24 = .ok (.new 24, 3) := by decide +kernel
theorem dX6_init_27 : decode cX6_init 27 = .ok (.dup, 1) := by decide +kernel
theorem dX6_init_28 : decode cX6_init 28 = .ok (.invokespecial 26, 3) := by decide +kernel
theorem dX6_init_31 : decode cX6_init 31 = .ok (.putfield 27, 3) := by decide +kernel
theorem dX6_init_34 : decode cX6_init 34 = .ok (.aload_n 0, 1) := by decide +kernel
theorem dX6_init_35 : decode cX6_init 35 = .ok (.bipush 13, 2) := by decide +kernel
theorem dX6_init_37 : decode cX6_init 37 = .ok (.newarray .int, 2) := by decide +kernel
theorem dX6_init_39 : decode cX6_init 39 = .ok (.putfield 31, 3) := by decide +kernel
theorem dX6_init_42 : decode cX6_init 42 = .ok (.iconst 0, 1) := by decide +kernel
theorem dX6_init_43 : decode cX6_init 43 = .ok (.istore_n 1, 1) := by decide +kernel
theorem dX6_init_44 : decode cX6_init 44 = .ok (.iload_n 1, 1) := by decide +kernel
theorem dX6_init_45 : decode cX6_init 45 = .ok (.iconst 3, 1) := by decide +kernel
theorem dX6_init_46 : decode cX6_init 46 = .ok (.if_icmp .ge 22, 3) := by decide +kernel
theorem dX6_init_49 : decode cX6_init 49 = .ok (.aload_n 0, 1) := by decide +kernel
theorem dX6_init_50 : decode cX6_init 50 = .ok (.getfield 11, 3) := by decide +kernel
theorem dX6_init_53 : decode cX6_init 53 = .ok (.iload_n 1, 1) := by decide +kernel
theorem dX6_init_54 : decode cX6_init 54 = .ok (.new 9, 3) := by decide +kernel
theorem dX6_init_57 : decode cX6_init 57 = .ok (.dup, 1) := by decide +kernel
theorem dX6_init_58 : decode cX6_init 58 = .ok (.invokespecial 35, 3) := by decide +kernel
theorem dX6_init_61 : decode cX6_init 61 = .ok (.aastore, 1) := by decide +kernel
theorem dX6_init_62 : decode cX6_init 62 = .ok (.iinc 1 1, 3) := by decide +kernel
theorem dX6_init_65 : decode cX6_init 65 = .ok (.goto (-21), 3) := by decide +kernel
theorem dX6_init_68 : decode cX6_init 68 = .ok (.return_, 1) := by decide +kernel
theorem dX6_take_0 : decode cX6_take 0 = .ok (.aload_n 0, 1) := by decide +kernel
theorem dX6_take_1 : decode cX6_take 1 = .ok (.aload_n 1, 1) := by decide +kernel
theorem dX6_take_2 : decode cX6_take 2 = .ok (.getfield 36, 3) := by decide +kernel
theorem dX6_take_5 : decode cX6_take 5 = .ok (.aload_n 1, 1) := by decide +kernel
theorem dX6_take_6 : decode cX6_take 6 = .ok (.getfield 42, 3) := by decide +kernel
theorem dX6_take_9 : decode cX6_take 9 = .ok (.iconst 0, 1) := by decide +kernel
theorem dX6_take_10 : decode cX6_take 10 = .ok (.iaload, 1) := by decide +kernel
theorem dX6_take_11 : decode cX6_take 11 = .ok (.invokevirtual 45, 3) := by decide +kernel
theorem dX6_take_14 : decode cX6_take 14 = .ok (.astore_n 3, 1) := by decide +kernel
theorem dX6_take_15 : decode cX6_take 15 = .ok (.aload_n 3, 1) := by decide +kernel
theorem dX6_take_16 : decode cX6_take 16 = .ok (.ifnonnull 12, 3) := by decide +kernel
theorem dX6_take_19 : decode cX6_take 19 = .ok (.aload_n 0, 1) := by decide +kernel
theorem dX6_take_20 : decode cX6_take 20 = .ok (.aload_n 1, 1) := by decide +kernel
theorem dX6_take_21 : decode cX6_take 21 = .ok (.iload_n 2, 1) := by decide +kernel
theorem dX6_take_22 : decode cX6_take 22 = .ok (.invokevirtual 49, 3) := by decide +kernel
theorem dX6_take_25 : decode cX6_take 25 = .ok (.goto 111, 3) := by decide +kernel
theorem dX6_take_28 : decode cX6_take 28 = .ok (.aload_n 1, 1) := by decide +kernel
theorem dX6_take_29 : decode cX6_take 29 = .ok (.iconst 4, 1) := by decide +kernel
theorem dX6_take_30 : decode cX6_take 30 = .ok (.invokevirtual 53, 3) := by decide +kernel
theorem dX6_take_33 : decode cX6_take 33 = .ok (.ifCond .eq 24, 3) := by decide +kernel
theorem dX6_take_36 : decode cX6_take 36 = .ok (.aload_n 1, 1) := by decide +kernel
theorem dX6_take_37 : decode cX6_take 37 = .ok (.getfield 42, 3) := by decide +kernel
theorem dX6_take_40 : decode cX6_take 40 = .ok (.iconst 1, 1) := by decide +kernel
theorem dX6_take_41 : decode cX6_take 41 = .ok (.iaload, 1) := by decide +kernel
theorem dX6_take_42 : decode cX6_take 42 = .ok (.aload_n 3, 1) := by decide +kernel
theorem dX6_take_43 : decode cX6_take 43 = .ok (.getfield 57, 3) := by decide +kernel
theorem dX6_take_46 : decode cX6_take 46 = .ok (.if_icmp .ne 90, 3) := by decide +kernel
theorem dX6_take_49 : decode cX6_take 49 = .ok (.aload_n 3, 1) := by decide +kernel
theorem dX6_take_50 : decode cX6_take 50 = .ok (.iconst 0, 1) := by decide +kernel
theorem dX6_take_51 : decode cX6_take 51 = .ok (.putfield 60, 3) := by decide +kernel
theorem dX6_take_54 : decode cX6_take 54 = .ok (.goto 82, 3) := by decide +kernel
theorem dX6_take_57 : decode cX6_take 57 = .ok (.aload_n 1, 1) := by decide +kernel
theorem dX6_take_58 : decode cX6_take 58 = .ok (.iconst 2, 1) := by decide +kernel
theorem dX6_take_59 : decode cX6_take 59 = .ok (.invokevirtual 53, 3) := by decide +kernel
theorem dX6_take_62 : decode cX6_take 62 = .ok (.ifCond .eq 14, 3) := by decide +kernel
theorem dX6_take_65 : decode cX6_take 65 = .ok (.aload_n 0, 1) := by decide +kernel
theorem dX6_take_66 : decode cX6_take 66 = .ok (.aload_n 3, 1) := by decide +kernel
theorem dX6_take_67 : decode cX6_take 67 = .ok (.bipush 16, 2) := by decide +kernel
theorem dX6_take_69 : decode cX6_take 69 = .ok (.iconst 0, 1) := by decide +kernel
theorem dX6_take_70 : decode cX6_take 70 = .ok (.invokevirtual 63, 3) := by decide +kernel
theorem dX6_take_73 : decode cX6_take 73 = .ok (.goto 63, 3) := by decide +kernel
theorem dX6_take_76 : decode cX6_take 76 = .ok (.aload_n 1, 1) := by decide +kernel
theorem dX6_take_77 : decode cX6_take 77 = .ok (.bipush 16, 2) := by decide +kernel
theorem dX6_take_79 : decode cX6_take 79 = .ok (.invokevirtual 53, 3) := by decide +kernel
theorem dX6_take_82 : decode cX6_take 82 = .ok (.ifCond .eq 54, 3) := by decide +kernel
theorem dX6_take_85 : decode cX6_take 85 = .ok (.aload_n 3, 1) := by decide +kernel
theorem dX6_take_86 : decode cX6_take 86 = .ok (.aload_n 1, 1) := by decide +kernel
theorem dX6_take_87 : decode cX6_take 87 = .ok (.invokevirtual 67, 3) := by decide +kernel
theorem dX6_take_90 : decode cX6_take 90 = .ok (.ifCond .eq 46, 3) := by decide +kernel
theorem dX6_take_93 : decode cX6_take 93 = .ok (.iconst 0, 1) := by decide +kernel
theorem dX6_take_94 : decode cX6_take 94 = .ok (.istore 4, 2) := by decide +kernel
theorem dX6_take_96 : decode cX6_take 96 = .ok (.aload_n 3, 1) := by decide +kernel
theorem dX6_take_97 : decode cX6_take 97 = .ok (.getfield 60, 3) := by decide +kernel
theorem dX6_take_100 : decode cX6_take 100 = .ok (.iconst 4, 1) := by decide +kernel
theorem dX6_take_101 : decode cX6_take 101 = .ok (.if_icmp .eq 15, 3) := by decide +kernel
theorem dX6_take_104 : decode cX6_take 104 = .ok (.aload_n 0, 1) := by decide +kernel
theorem dX6_take_105 : decode cX6_take 105 = .ok (.aload_n 3, 1) := by decide +kernel
theorem dX6_take_106 : decode cX6_take 106 = .ok (.invokevirtual 71, 3) := by decide +kernel
theorem dX6_take_109 : decode cX6_take 109 = .ok (.aload_n 0, 1) := by decide +kernel
theorem dX6_take_110 : decode cX6_take 110 = .ok (.aload_n 3, 1) := by decide +kernel
theorem dX6_take_111 : decode cX6_take 111 = .ok (.invokevirtual 75, 3) := by decide +kernel
theorem dX6_take_114 : decode cX6_take 114 = .ok (.istore 4, 2) := by decide +kernel
theorem dX6_take_116 : decode cX6_take 116 = .ok (.aload_n 1, 1) := by decide +kernel
theorem dX6_take_117 : decode cX6_take 117 = .ok (.invokevirtual 79, 3) := by decide +kernel
theorem dX6_take_120 : decode cX6_take 120 = .ok (.ifCond .eq 16, 3) := by decide +kernel
theorem dX6_take_123 : decode cX6_take 123 = .ok (.iload 4, 2) := by decide +kernel
theorem dX6_take_125 : decode cX6_take 125 = .ok (.ifCond .ne 11, 3) := by decide +kernel
theorem dX6_take_128 : decode cX6_take 128 = .ok (.aload_n 0, 1) := by decide +kernel
theorem dX6_take_129 : decode cX6_take 129 = .ok (.aload_n 3, 1) := by decide +kernel
theorem dX6_take_130 : decode cX6_take 130 = .ok (.bipush 16, 2) := by decide +kernel
theorem dX6_take_132 : decode cX6_take 132 = .ok (.iconst 0, 1) := by decide +kernel
theorem dX6_take_133 : decode cX6_take 133 = .ok (.invokevirtual 63, 3) := by decide +kernel
theorem dX6_take_136 : decode cX6_take 136 = .ok (.return_, 1) := by decide +kernel
theorem dX6_find_0 : decode cX6_find 0 = .ok (.iconst 0, 1) := by decide +kernel
theorem dX6_find_1 : decode cX6_find 1 = .ok (.istore_n 3, 1) := by decide +kernel
theorem dX6_find_2 : decode cX6_find 2 = .ok (.iload_n 3, 1) := by decide +kernel
theorem dX6_find_3 : decode cX6_find 3 = .ok (.iconst 3, 1) := by decide +kernel
theorem dX6_find_4 : decode cX6_find 4 = .ok (.if_icmp .ge 54, 3) := by decide +kernel
theorem dX6_find_7 : decode cX6_find 7 = .ok (.aload_n 0, 1) := by decide +kernel
theorem dX6_find_8 : decode cX6_find 8 = .ok (.getfield 11, 3) := by decide +kernel
theorem dX6_find_11 : decode cX6_find 11 = .ok (.iload_n 3, 1) := by decide +kernel
theorem dX6_find_12 : decode cX6_find 12 = .ok (.aaload, 1) := by decide +kernel
theorem dX6_find_13 : decode cX6_find 13 = .ok (.getfield 60, 3) := by decide +kernel
theorem dX6_find_16 : decode cX6_find 16 = .ok (.ifCond .eq 36, 3) := by decide +kernel
theorem dX6_find_19 : decode cX6_find 19 = .ok (.aload_n 0, 1) := by decide +kernel
theorem dX6_find_20 : decode cX6_find 20 = .ok (.getfield 11, 3) := by decide +kernel
theorem dX6_find_23 : decode cX6_find 23 = .ok (.iload_n 3, 1) := by decide +kernel
theorem dX6_find_24 : decode cX6_find 24 = .ok (.aaload, 1) := by decide +kernel
theorem dX6_find_25 : decode cX6_find 25 = .ok (.getfield 83, 3) := by decide +kernel
theorem dX6_find_28 : decode cX6_find 28 = .ok (.iload_n 1, 1) := by decide +kernel
theorem dX6_find_29 : decode cX6_find 29 = .ok (.if_icmp .ne 23, 3) := by decide +kernel
theorem dX6_find_32 : decode cX6_find 32 = .ok (.aload_n 0, 1) := by decide +kernel
theorem dX6_find_33 : decode cX6_find 33 = .ok (.getfield 11, 3) := by decide +kernel
theorem dX6_find_36 : decode cX6_find 36 = .ok (.iload_n 3, 1) := by decide +kernel
theorem dX6_find_37 : decode cX6_find 37 = .ok (.aaload, 1) := by decide +kernel
theorem dX6_find_38 : decode cX6_find 38 = .ok (.getfield 86, 3) := by decide +kernel
theorem dX6_find_41 : decode cX6_find 41 = .ok (.iload_n 2, 1) := by decide +kernel
theorem dX6_find_42 : decode cX6_find 42 = .ok (.if_icmp .ne 10, 3) := by decide +kernel
theorem dX6_find_45 : decode cX6_find 45 = .ok (.aload_n 0, 1) := by decide +kernel
theorem dX6_find_46 : decode cX6_find 46 = .ok (.getfield 11, 3) := by decide +kernel
theorem dX6_find_49 : decode cX6_find 49 = .ok (.iload_n 3, 1) := by decide +kernel
theorem dX6_find_50 : decode cX6_find 50 = .ok (.aaload, 1) := by decide +kernel
theorem dX6_find_51 : decode cX6_find 51 = .ok (.areturn, 1) := by decide +kernel
theorem dX6_find_52 : decode cX6_find 52 = .ok (.iinc 3 1, 3) := by decide +kernel
theorem dX6_find_55 : decode cX6_find 55 = .ok (.goto (-53), 3) := by decide +kernel
theorem dX6_find_58 : decode cX6_find 58 = .ok (.aconst_null, 1) := by decide +kernel
theorem dX6_find_59 : decode cX6_find 59 = .ok (.areturn, 1) := by decide +kernel
theorem dX6_findFree_0 : decode cX6_findFree 0 = .ok (.iconst 0, 1) := by decide +kernel
theorem dX6_findFree_1 : decode cX6_findFree 1 = .ok (.istore_n 1, 1) := by decide +kernel
theorem dX6_findFree_2 : decode cX6_findFree 2 = .ok (.iload_n 1, 1) := by decide +kernel
theorem dX6_findFree_3 : decode cX6_findFree 3 = .ok (.iconst 3, 1) := by decide +kernel
theorem dX6_findFree_4 : decode cX6_findFree 4 = .ok (.if_icmp .ge 28, 3) := by decide +kernel
theorem dX6_findFree_7 : decode cX6_findFree 7 = .ok (.aload_n 0, 1) := by decide +kernel
theorem dX6_findFree_8 : decode cX6_findFree 8 = .ok (.getfield 11, 3) := by decide +kernel
theorem dX6_findFree_11 : decode cX6_findFree 11 = .ok (.iload_n 1, 1) := by decide +kernel
theorem dX6_findFree_12 : decode cX6_findFree 12 = .ok (.aaload, 1) := by decide +kernel
theorem dX6_findFree_13 : decode cX6_findFree 13 = .ok (.getfield 60, 3) := by decide +kernel
theorem dX6_findFree_16 : decode cX6_findFree 16 = .ok (.ifCond .ne 10, 3) := by decide +kernel
theorem dX6_findFree_19 : decode cX6_findFree 19 = .ok (.aload_n 0, 1) := by decide +kernel
theorem dX6_findFree_20 : decode cX6_findFree 20 = .ok (.getfield 11, 3) := by decide +kernel
theorem dX6_findFree_23 : decode cX6_findFree 23 = .ok (.iload_n 1, 1) := by decide +kernel
theorem dX6_findFree_24 : decode cX6_findFree 24 = .ok (.aaload, 1) := by decide +kernel
theorem dX6_findFree_25 : decode cX6_findFree 25 = .ok (.areturn, 1) := by decide +kernel
theorem dX6_findFree_26 : decode cX6_findFree 26 = .ok (.iinc 1 1, 3) := by decide +kernel
theorem dX6_findFree_29 : decode cX6_findFree 29 = .ok (.goto (-27), 3) := by decide +kernel
theorem dX6_findFree_32 : decode cX6_findFree 32 = .ok (.aconst_null, 1) := by decide +kernel
theorem dX6_findFree_33 : decode cX6_findFree 33 = .ok (.areturn, 1) := by decide +kernel
theorem dX6_meetStranger_0 : decode cX6_meetStranger 0 = .ok (.aload_n 1, 1) := by decide +kernel
theorem dX6_meetStranger_1 : decode cX6_meetStranger 1 = .ok (.iconst 4, 1) := by decide +kernel
theorem dX6_meetStranger_2 : decode cX6_meetStranger 2 = .ok (.invokevirtual 53, 3) := by decide +kernel
theorem dX6_meetStranger_5 : decode cX6_meetStranger 5 = .ok (.ifCond .eq 4, 3) := by decide +kernel
theorem dX6_meetStranger_8 : decode cX6_meetStranger 8 = .ok (.return_, 1) := by decide +kernel
theorem dX6_meetStranger_9 : decode cX6_meetStranger 9 = .ok (.aload_n 1, 1) := by decide +kernel
theorem dX6_meetStranger_10 : decode cX6_meetStranger 10 = .ok (.iconst 2, 1) := by decide +kernel
theorem dX6_meetStranger_11 : decode cX6_meetStranger 11 = .ok (.invokevirtual 53, 3) := by decide +kernel
theorem dX6_meetStranger_14 : decode cX6_meetStranger 14 = .ok (.ifCond .eq 24, 3) := by decide +kernel
theorem dX6_meetStranger_17 : decode cX6_meetStranger 17 = .ok (.aload_n 1, 1) := by decide +kernel
theorem dX6_meetStranger_18 : decode cX6_meetStranger 18 = .ok (.bipush 17, 2) := by decide +kernel
theorem dX6_meetStranger_20 : decode cX6_meetStranger 20 = .ok (.invokevirtual 53, 3) := by decide +kernel
theorem dX6_meetStranger_23 : decode cX6_meetStranger 23 = .ok (.ifCond .ne 15, 3) := by decide +kernel
theorem dX6_meetStranger_26 : decode cX6_meetStranger 26 = .ok (.aload_n 1, 1) := by decide +kernel
theorem dX6_meetStranger_27 : decode cX6_meetStranger 27 = .ok (.getfield 89, 3) := by decide +kernel
theorem dX6_meetStranger_30 : decode cX6_meetStranger 30 = .ok (.iconst 5, 1) := by decide +kernel
theorem dX6_meetStranger_31 : decode cX6_meetStranger 31 = .ok (.if_icmp .ne 7, 3) := by decide +kernel
theorem dX6_meetStranger_34 : decode cX6_meetStranger 34 = .ok (.iconst 1, 1) := by decide +kernel
theorem dX6_meetStranger_35 : decode cX6_meetStranger 35 = .ok (.goto 4, 3) := by decide +kernel
theorem dX6_meetStranger_38 : decode cX6_meetStranger 38 = .ok (.iconst 0, 1) := by decide +kernel
theorem dX6_meetStranger_39 : decode cX6_meetStranger 39 = .ok (.istore_n 3, 1) := by decide +kernel
theorem dX6_meetStranger_40 : decode cX6_meetStranger 40 = .ok (.iload_n 3, 1) := by decide +kernel
theorem dX6_meetStranger_41 : decode cX6_meetStranger 41 = .ok (.ifCond .eq 10, 3) := by decide +kernel
theorem dX6_meetStranger_44 : decode cX6_meetStranger 44 = .ok (.aload_n 0, 1) := by decide +kernel
theorem dX6_meetStranger_45 : decode cX6_meetStranger 45 = .ok (.invokevirtual 92, 3) := by decide +kernel
theorem dX6_meetStranger_48 : decode cX6_meetStranger 48 = .ok (.goto 4, 3) := by decide +kernel
theorem dX6_meetStranger_51 : decode cX6_meetStranger 51 = .ok (.aconst_null, 1) := by decide +kernel
theorem dX6_meetStranger_52 : decode cX6_meetStranger 52 = .ok (.astore 4, 2) := by decide +kernel
theorem dX6_meetStranger_54 : decode cX6_meetStranger 54 = .ok (.aload 4, 2) := by decide +kernel
theorem dX6_meetStranger_56 : decode cX6_meetStranger 56 = .ok (.ifnonnull 24, 3) := by decide +kernel
theorem dX6_meetStranger_59 : decode cX6_meetStranger 59 = .ok (.aload_n 0, 1) := by decide +kernel
theorem dX6_meetStranger_60 : decode cX6_meetStranger 60 = .ok (.aload_n 1, 1) := by decide +kernel
theorem dX6_meetStranger_61 : decode cX6_meetStranger 61 = .ok (.getfield 36, 3) := by decide +kernel
theorem dX6_meetStranger_64 : decode cX6_meetStranger 64 = .ok (.aload_n 1, 1) := by decide +kernel
theorem dX6_meetStranger_65 : decode cX6_meetStranger 65 = .ok (.getfield 42, 3) := by decide +kernel
theorem dX6_meetStranger_68 : decode cX6_meetStranger 68 = .ok (.iconst 0, 1) := by decide +kernel
theorem dX6_meetStranger_69 : decode cX6_meetStranger 69 = .ok (.iaload, 1) := by decide +kernel
theorem dX6_meetStranger_70 : decode cX6_meetStranger 70 = .ok (.aload_n 1, 1) := by decide +kernel
theorem dX6_meetStranger_71 : decode cX6_meetStranger 71 = .ok (.getfield 42, 3) := by decide +kernel
theorem dX6_meetStranger_74 : decode cX6_meetStranger 74 = .ok (.iconst 2, 1) := by decide +kernel
theorem dX6_meetStranger_75 : decode cX6_meetStranger 75 = .ok (.iaload, 1) := by decide +kernel
theorem dX6_meetStranger_76 : decode cX6_meetStranger 76 = .ok (.invokevirtual 96, 3) := by decide +kernel
theorem dX6_meetStranger_79 : decode cX6_meetStranger 79 = .ok (.return_, 1) := by decide +kernel
theorem dX6_meetStranger_80 : decode cX6_meetStranger 80 = .ok (.aload 4, 2) := by decide +kernel
theorem dX6_meetStranger_82 : decode cX6_meetStranger 82 = .ok (.aload_n 1, 1) := by decide +kernel
theorem dX6_meetStranger_83 : decode cX6_meetStranger 83 = .ok (.iconst 4, 1) := by decide +kernel
theorem dX6_meetStranger_84 : decode cX6_meetStranger 84 = .ok (.iload_n 2, 1) := by decide +kernel
theorem dX6_meetStranger_85 : decode cX6_meetStranger 85 = .ok (.imul, 1) := by decide +kernel
theorem dX6_meetStranger_86 : decode cX6_meetStranger 86 = .ok (.sipush 255, 3) := by decide +kernel
theorem dX6_meetStranger_89 : decode cX6_meetStranger 89 = .ok (.iand, 1) := by decide +kernel
theorem dX6_meetStranger_90 : decode cX6_meetStranger 90 = .ok (.invokevirtual 100, 3) := by decide +kernel
theorem dX6_meetStranger_93 : decode cX6_meetStranger 93 = .ok (.aload_n 0, 1) := by decide +kernel
theorem dX6_meetStranger_94 : decode cX6_meetStranger 94 = .ok (.dup, 1) := by decide +kernel
theorem dX6_meetStranger_95 : decode cX6_meetStranger 95 = .ok (.getfield 103, 3) := by decide +kernel
theorem dX6_meetStranger_98 : decode cX6_meetStranger 98 = .ok (.iconst 1, 1) := by decide +kernel
theorem dX6_meetStranger_99 : decode cX6_meetStranger 99 = .ok (.iadd, 1) := by decide +kernel
theorem dX6_meetStranger_100 : decode cX6_meetStranger 100 = .ok (.putfield 103, 3) := by decide +kernel
theorem dX6_meetStranger_103 : decode cX6_meetStranger 103 = .ok (.aload_n 0, 1) := by decide +kernel
theorem dX6_meetStranger_104 : decode cX6_meetStranger 104 = .ok (.aload 4, 2) := by decide +kernel
theorem dX6_meetStranger_106 : decode cX6_meetStranger 106 = .ok (.bipush 18, 2) := by decide +kernel
theorem dX6_meetStranger_108 : decode cX6_meetStranger 108 = .ok (.iconst 0, 1) := by decide +kernel
theorem dX6_meetStranger_109 : decode cX6_meetStranger 109 = .ok (.invokevirtual 63, 3) := by decide +kernel
theorem dX6_meetStranger_112 : decode cX6_meetStranger 112 = .ok (.return_, 1) := by decide +kernel
theorem dX6_read_0 : decode cX6_read 0 = .ok (.iconst 0, 1) := by decide +kernel
theorem dX6_read_1 : decode cX6_read 1 = .ok (.istore_n 2, 1) := by decide +kernel
theorem dX6_read_2 : decode cX6_read 2 = .ok (.iload_n 2, 1) := by decide +kernel
theorem dX6_read_3 : decode cX6_read 3 = .ok (.bipush 16, 2) := by decide +kernel
theorem dX6_read_5 : decode cX6_read 5 = .ok (.if_icmp .ge 78, 3) := by decide +kernel
theorem dX6_read_8 : decode cX6_read 8 = .ok (.aload_n 1, 1) := by decide +kernel
theorem dX6_read_9 : decode cX6_read 9 = .ok (.invokevirtual 106, 3) := by decide +kernel
theorem dX6_read_12 : decode cX6_read 12 = .ok (.istore_n 3, 1) := by decide +kernel
theorem dX6_read_13 : decode cX6_read 13 = .ok (.iload_n 3, 1) := by decide +kernel
theorem dX6_read_14 : decode cX6_read 14 = .ok (.ifCond .ne 4, 3) := by decide +kernel
theorem dX6_read_17 : decode cX6_read 17 = .ok (.return_, 1) := by decide +kernel
theorem dX6_read_18 : decode cX6_read 18 = .ok (.aload_n 0, 1) := by decide +kernel
theorem dX6_read_19 : decode cX6_read 19 = .ok (.getfield 27, 3) := by decide +kernel
theorem dX6_read_22 : decode cX6_read 22 = .ok (.aload_n 1, 1) := by decide +kernel
theorem dX6_read_23 : decode cX6_read 23 = .ok (.getfield 110, 3) := by decide +kernel
theorem dX6_read_26 : decode cX6_read 26 = .ok (.iload_n 3, 1) := by decide +kernel
theorem dX6_read_27 : decode cX6_read 27 = .ok (.invokevirtual 113, 3) := by decide +kernel
theorem dX6_read_30 : decode cX6_read 30 = .ok (.aload_n 1, 1) := by decide +kernel
theorem dX6_read_31 : decode cX6_read 31 = .ok (.getfield 117, 3) := by decide +kernel
theorem dX6_read_34 : decode cX6_read 34 = .ok (.aload_n 0, 1) := by decide +kernel
theorem dX6_read_35 : decode cX6_read 35 = .ok (.getfield 27, 3) := by decide +kernel
theorem dX6_read_38 : decode cX6_read 38 = .ok (.getfield 120, 3) := by decide +kernel
theorem dX6_read_41 : decode cX6_read 41 = .ok (.iadd, 1) := by decide +kernel
theorem dX6_read_42 : decode cX6_read 42 = .ok (.bipush 64, 2) := by decide +kernel
theorem dX6_read_44 : decode cX6_read 44 = .ok (.if_icmp .le 4, 3) := by decide +kernel
theorem dX6_read_47 : decode cX6_read 47 = .ok (.return_, 1) := by decide +kernel
theorem dX6_read_48 : decode cX6_read 48 = .ok (.aload_n 1, 1) := by decide +kernel
theorem dX6_read_49 : decode cX6_read 49 = .ok (.iload_n 3, 1) := by decide +kernel
theorem dX6_read_50 : decode cX6_read 50 = .ok (.aload_n 0, 1) := by decide +kernel
theorem dX6_read_51 : decode cX6_read 51 = .ok (.getfield 27, 3) := by decide +kernel
theorem dX6_read_54 : decode cX6_read 54 = .ok (.getfield 123, 3) := by decide +kernel
theorem dX6_read_57 : decode cX6_read 57 = .ok (.aload_n 0, 1) := by decide +kernel
theorem dX6_read_58 : decode cX6_read 58 = .ok (.getfield 27, 3) := by decide +kernel
theorem dX6_read_61 : decode cX6_read 61 = .ok (.getfield 120, 3) := by decide +kernel
theorem dX6_read_64 : decode cX6_read 64 = .ok (.invokevirtual 126, 3) := by decide +kernel
theorem dX6_read_67 : decode cX6_read 67 = .ok (.aload_n 0, 1) := by decide +kernel
theorem dX6_read_68 : decode cX6_read 68 = .ok (.dup, 1) := by decide +kernel
theorem dX6_read_69 : decode cX6_read 69 = .ok (.getfield 130, 3) := by decide +kernel
theorem dX6_read_72 : decode cX6_read 72 = .ok (.iconst 1, 1) := by decide +kernel
theorem dX6_read_73 : decode cX6_read 73 = .ok (.iadd, 1) := by decide +kernel
theorem dX6_read_74 : decode cX6_read 74 = .ok (.putfield 130, 3) := by decide +kernel
theorem dX6_read_77 : decode cX6_read 77 = .ok (.iinc 2 1, 3) := by decide +kernel
theorem dX6_read_80 : decode cX6_read 80 = .ok (.goto (-78), 3) := by decide +kernel
theorem dX6_read_83 : decode cX6_read 83 = .ok (.return_, 1) := by decide +kernel
theorem dX6_push_0 : decode cX6_push 0 = .ok (.iconst 0, 1) := by decide +kernel
theorem dX6_push_1 : decode cX6_push 1 = .ok (.istore_n 2, 1) := by decide +kernel
theorem dX6_push_2 : decode cX6_push 2 = .ok (.aload_n 1, 1) := by decide +kernel
theorem dX6_push_3 : decode cX6_push 3 = .ok (.invokevirtual 133, 3) := by decide +kernel
theorem dX6_push_6 : decode cX6_push 6 = .ok (.istore_n 3, 1) := by decide +kernel
theorem dX6_push_7 : decode cX6_push 7 = .ok (.iconst 0, 1) := by decide +kernel
theorem dX6_push_8 : decode cX6_push 8 = .ok (.istore 4, 2) := by decide +kernel
theorem dX6_push_10 : decode cX6_push 10 = .ok (.iload 4, 2) := by decide +kernel
theorem dX6_push_12 : decode cX6_push 12 = .ok (.bipush 64, 2) := by decide +kernel
theorem dX6_push_14 : decode cX6_push 14 = .ok (.if_icmp .ge 28, 3) := by decide +kernel
theorem dX6_push_17 : decode cX6_push 17 = .ok (.iload_n 3, 1) := by decide +kernel
theorem dX6_push_18 : decode cX6_push 18 = .ok (.ifCond .le 24, 3) := by decide +kernel
theorem dX6_push_21 : decode cX6_push 21 = .ok (.aload_n 0, 1) := by decide +kernel
theorem dX6_push_22 : decode cX6_push 22 = .ok (.aload_n 1, 1) := by decide +kernel
theorem dX6_push_23 : decode cX6_push 23 = .ok (.bipush 16, 2) := by decide +kernel
theorem dX6_push_25 : decode cX6_push 25 = .ok (.iload_n 3, 1) := by decide +kernel
theorem dX6_push_26 : decode cX6_push 26 = .ok (.invokevirtual 63, 3) := by decide +kernel
theorem dX6_push_29 : decode cX6_push 29 = .ok (.iconst 1, 1) := by decide +kernel
theorem dX6_push_30 : decode cX6_push 30 = .ok (.istore_n 2, 1) := by decide +kernel
theorem dX6_push_31 : decode cX6_push 31 = .ok (.aload_n 1, 1) := by decide +kernel
theorem dX6_push_32 : decode cX6_push 32 = .ok (.invokevirtual 133, 3) := by decide +kernel
theorem dX6_push_35 : decode cX6_push 35 = .ok (.istore_n 3, 1) := by decide +kernel
theorem dX6_push_36 : decode cX6_push 36 = .ok (.iinc 4 1, 3) := by decide +kernel
theorem dX6_push_39 : decode cX6_push 39 = .ok (.goto (-29), 3) := by decide +kernel
theorem dX6_push_42 : decode cX6_push 42 = .ok (.aload_n 1, 1) := by decide +kernel
theorem dX6_push_43 : decode cX6_push 43 = .ok (.invokevirtual 136, 3) := by decide +kernel
theorem dX6_push_46 : decode cX6_push 46 = .ok (.ifCond .eq 23, 3) := by decide +kernel
theorem dX6_push_49 : decode cX6_push 49 = .ok (.aload_n 1, 1) := by decide +kernel
theorem dX6_push_50 : decode cX6_push 50 = .ok (.iconst 0, 1) := by decide +kernel
theorem dX6_push_51 : decode cX6_push 51 = .ok (.putfield 139, 3) := by decide +kernel
theorem dX6_push_54 : decode cX6_push 54 = .ok (.aload_n 0, 1) := by decide +kernel
theorem dX6_push_55 : decode cX6_push 55 = .ok (.aload_n 1, 1) := by decide +kernel
theorem dX6_push_56 : decode cX6_push 56 = .ok (.bipush 17, 2) := by decide +kernel
theorem dX6_push_58 : decode cX6_push 58 = .ok (.iconst 0, 1) := by decide +kernel
theorem dX6_push_59 : decode cX6_push 59 = .ok (.invokevirtual 63, 3) := by decide +kernel
theorem dX6_push_62 : decode cX6_push 62 = .ok (.aload_n 1, 1) := by decide +kernel
theorem dX6_push_63 : decode cX6_push 63 = .ok (.iconst 4, 1) := by decide +kernel
theorem dX6_push_64 : decode cX6_push 64 = .ok (.putfield 60, 3) := by decide +kernel
theorem dX6_push_67 : decode cX6_push 67 = .ok (.iconst 1, 1) := by decide +kernel
theorem dX6_push_68 : decode cX6_push 68 = .ok (.istore_n 2, 1) := by decide +kernel
theorem dX6_push_69 : decode cX6_push 69 = .ok (.iload_n 2, 1) := by decide +kernel
theorem dX6_push_70 : decode cX6_push 70 = .ok (.ireturn, 1) := by decide +kernel
theorem dX6_send_0 : decode cX6_send 0 = .ok (.aload_n 0, 1) := by decide +kernel
theorem dX6_send_1 : decode cX6_send 1 = .ok (.getfield 31, 3) := by decide +kernel
theorem dX6_send_4 : decode cX6_send 4 = .ok (.iconst 0, 1) := by decide +kernel
theorem dX6_send_5 : decode cX6_send 5 = .ok (.aload_n 1, 1) := by decide +kernel
theorem dX6_send_6 : decode cX6_send 6 = .ok (.getfield 86, 3) := by decide +kernel
theorem dX6_send_9 : decode cX6_send 9 = .ok (.iastore, 1) := by decide +kernel
theorem dX6_send_10 : decode cX6_send 10 = .ok (.aload_n 0, 1) := by decide +kernel
theorem dX6_send_11 : decode cX6_send 11 = .ok (.getfield 31, 3) := by decide +kernel
theorem dX6_send_14 : decode cX6_send 14 = .ok (.iconst 1, 1) := by decide +kernel
theorem dX6_send_15 : decode cX6_send 15 = .ok (.aload_n 1, 1) := by decide +kernel
theorem dX6_send_16 : decode cX6_send 16 = .ok (.getfield 142, 3) := by decide +kernel
theorem dX6_send_19 : decode cX6_send 19 = .ok (.iastore, 1) := by decide +kernel
theorem dX6_send_20 : decode cX6_send 20 = .ok (.aload_n 0, 1) := by decide +kernel
theorem dX6_send_21 : decode cX6_send 21 = .ok (.getfield 31, 3) := by decide +kernel
theorem dX6_send_24 : decode cX6_send 24 = .ok (.iconst 2, 1) := by decide +kernel
theorem dX6_send_25 : decode cX6_send 25 = .ok (.aload_n 1, 1) := by decide +kernel
theorem dX6_send_26 : decode cX6_send 26 = .ok (.getfield 57, 3) := by decide +kernel
theorem dX6_send_29 : decode cX6_send 29 = .ok (.iastore, 1) := by decide +kernel
theorem dX6_send_30 : decode cX6_send 30 = .ok (.aload_n 0, 1) := by decide +kernel
theorem dX6_send_31 : decode cX6_send 31 = .ok (.getfield 31, 3) := by decide +kernel
theorem dX6_send_34 : decode cX6_send 34 = .ok (.iconst 3, 1) := by decide +kernel
theorem dX6_send_35 : decode cX6_send 35 = .ok (.iload_n 2, 1) := by decide +kernel
theorem dX6_send_36 : decode cX6_send 36 = .ok (.iastore, 1) := by decide +kernel
theorem dX6_send_37 : decode cX6_send 37 = .ok (.aload_n 0, 1) := by decide +kernel
theorem dX6_send_38 : decode cX6_send 38 = .ok (.getfield 31, 3) := by decide +kernel
theorem dX6_send_41 : decode cX6_send 41 = .ok (.iconst 4, 1) := by decide +kernel
theorem dX6_send_42 : decode cX6_send 42 = .ok (.bipush 16, 2) := by decide +kernel
theorem dX6_send_44 : decode cX6_send 44 = .ok (.aload_n 1, 1) := by decide +kernel
theorem dX6_send_45 : decode cX6_send 45 = .ok (.getfield 139, 3) := by decide +kernel
theorem dX6_send_48 : decode cX6_send 48 = .ok (.isub, 1) := by decide +kernel
theorem dX6_send_49 : decode cX6_send 49 = .ok (.iastore, 1) := by decide +kernel
theorem dX6_send_50 : decode cX6_send 50 = .ok (.aload_n 1, 1) := by decide +kernel
theorem dX6_send_51 : decode cX6_send 51 = .ok (.invokevirtual 145, 3) := by decide +kernel
theorem dX6_send_54 : decode cX6_send 54 = .ok (.istore 4, 2) := by decide +kernel
theorem dX6_send_56 : decode cX6_send 56 = .ok (.iconst 0, 1) := by decide +kernel
theorem dX6_send_57 : decode cX6_send 57 = .ok (.istore 5, 2) := by decide +kernel
theorem dX6_send_59 : decode cX6_send 59 = .ok (.iload 5, 2) := by decide +kernel
theorem dX6_send_61 : decode cX6_send 61 = .ok (.iload_n 3, 1) := by decide +kernel
theorem dX6_send_62 : decode cX6_send 62 = .ok (.if_icmp .ge 28, 3) := by decide +kernel
theorem dX6_send_65 : decode cX6_send 65 = .ok (.aload_n 0, 1) := by decide +kernel
theorem dX6_send_66 : decode cX6_send 66 = .ok (.getfield 31, 3) := by decide +kernel
theorem dX6_send_69 : decode cX6_send 69 = .ok (.iconst 5, 1) := by decide +kernel
theorem dX6_send_70 : decode cX6_send 70 = .ok (.iload 5, 2) := by decide +kernel
theorem dX6_send_72 : decode cX6_send 72 = .ok (.iadd, 1) := by decide +kernel
theorem dX6_send_73 : decode cX6_send 73 = .ok (.aload_n 1, 1) := by decide +kernel
theorem dX6_send_74 : decode cX6_send 74 = .ok (.getfield 148, 3) := by decide +kernel
theorem dX6_send_77 : decode cX6_send 77 = .ok (.iload 4, 2) := by decide +kernel
theorem dX6_send_79 : decode cX6_send 79 = .ok (.iload 5, 2) := by decide +kernel
theorem dX6_send_81 : decode cX6_send 81 = .ok (.iadd, 1) := by decide +kernel
theorem dX6_send_82 : decode cX6_send 82 = .ok (.iaload, 1) := by decide +kernel
theorem dX6_send_83 : decode cX6_send 83 = .ok (.iastore, 1) := by decide +kernel
theorem dX6_send_84 : decode cX6_send 84 = .ok (.iinc 5 1, 3) := by decide +kernel
theorem dX6_send_87 : decode cX6_send 87 = .ok (.goto (-28), 3) := by decide +kernel
theorem dX6_send_90 : decode cX6_send 90 = .ok (.aload_n 0, 1) := by decide +kernel
theorem dX6_send_91 : decode cX6_send 91 = .ok (.getfield 20, 3) := by decide +kernel
theorem dX6_send_94 : decode cX6_send 94 = .ok (.aload_n 1, 1) := by decide +kernel
theorem dX6_send_95 : decode cX6_send 95 = .ok (.getfield 83, 3) := by decide +kernel
theorem dX6_send_98 : decode cX6_send 98 = .ok (.bipush 6, 2) := by decide +kernel
theorem dX6_send_100 : decode cX6_send 100 = .ok (.aload_n 0, 1) := by decide +kernel
theorem dX6_send_101 : decode cX6_send 101 = .ok (.getfield 31, 3) := by decide +kernel
theorem dX6_send_104 : decode cX6_send 104 = .ok (.iconst 5, 1) := by decide +kernel
theorem dX6_send_105 : decode cX6_send 105 = .ok (.iload_n 3, 1) := by decide +kernel
theorem dX6_send_106 : decode cX6_send 106 = .ok (.iadd, 1) := by decide +kernel
theorem dX6_send_107 : decode cX6_send 107 = .ok (.invokevirtual 151, 3) := by decide +kernel
theorem dX6_send_110 : decode cX6_send 110 = .ok (.aload_n 1, 1) := by decide +kernel
theorem dX6_send_111 : decode cX6_send 111 = .ok (.iload_n 2, 1) := by decide +kernel
theorem dX6_send_112 : decode cX6_send 112 = .ok (.iconst 3, 1) := by decide +kernel
theorem dX6_send_113 : decode cX6_send 113 = .ok (.iand, 1) := by decide +kernel
theorem dX6_send_114 : decode cX6_send 114 = .ok (.ifCond .eq 9, 3) := by decide +kernel
theorem dX6_send_117 : decode cX6_send 117 = .ok (.iload_n 3, 1) := by decide +kernel
theorem dX6_send_118 : decode cX6_send 118 = .ok (.iconst 1, 1) := by decide +kernel
theorem dX6_send_119 : decode cX6_send 119 = .ok (.iadd, 1) := by decide +kernel
theorem dX6_send_120 : decode cX6_send 120 = .ok (.goto 4, 3) := by decide +kernel
theorem dX6_send_123 : decode cX6_send 123 = .ok (.iload_n 3, 1) := by decide +kernel
theorem dX6_send_124 : decode cX6_send 124 = .ok (.invokevirtual 155, 3) := by decide +kernel
theorem dX6_send_127 : decode cX6_send 127 = .ok (.return_, 1) := by decide +kernel
theorem dX6_sendReset_0 : decode cX6_sendReset 0 = .ok (.aload_n 0, 1) := by decide +kernel
theorem dX6_sendReset_1 : decode cX6_sendReset 1 = .ok (.getfield 31, 3) := by decide +kernel
theorem dX6_sendReset_4 : decode cX6_sendReset 4 = .ok (.iconst 0, 1) := by decide +kernel
theorem dX6_sendReset_5 : decode cX6_sendReset 5 = .ok (.iload_n 2, 1) := by decide +kernel
theorem dX6_sendReset_6 : decode cX6_sendReset 6 = .ok (.iastore, 1) := by decide +kernel
theorem dX6_sendReset_7 : decode cX6_sendReset 7 = .ok (.aload_n 0, 1) := by decide +kernel
theorem dX6_sendReset_8 : decode cX6_sendReset 8 = .ok (.getfield 31, 3) := by decide +kernel
theorem dX6_sendReset_11 : decode cX6_sendReset 11 = .ok (.iconst 1, 1) := by decide +kernel
theorem dX6_sendReset_12 : decode cX6_sendReset 12 = .ok (.iload_n 3, 1) := by decide +kernel
theorem dX6_sendReset_13 : decode cX6_sendReset 13 = .ok (.iastore, 1) := by decide +kernel
theorem dX6_sendReset_14 : decode cX6_sendReset 14 = .ok (.aload_n 0, 1) := by decide +kernel
theorem dX6_sendReset_15 : decode cX6_sendReset 15 = .ok (.getfield 31, 3) := by decide +kernel
theorem dX6_sendReset_18 : decode cX6_sendReset 18 = .ok (.iconst 2, 1) := by decide +kernel
theorem dX6_sendReset_19 : decode cX6_sendReset 19 = .ok (.iconst 0, 1) := by decide +kernel
theorem dX6_sendReset_20 : decode cX6_sendReset 20 = .ok (.iastore, 1) := by decide +kernel
theorem dX6_sendReset_21 : decode cX6_sendReset 21 = .ok (.aload_n 0, 1) := by decide +kernel
theorem dX6_sendReset_22 : decode cX6_sendReset 22 = .ok (.getfield 31, 3) := by decide +kernel
theorem dX6_sendReset_25 : decode cX6_sendReset 25 = .ok (.iconst 3, 1) := by decide +kernel
theorem dX6_sendReset_26 : decode cX6_sendReset 26 = .ok (.iconst 4, 1) := by decide +kernel
theorem dX6_sendReset_27 : decode cX6_sendReset 27 = .ok (.iastore, 1) := by decide +kernel
theorem dX6_sendReset_28 : decode cX6_sendReset 28 = .ok (.aload_n 0, 1) := by decide +kernel
theorem dX6_sendReset_29 : decode cX6_sendReset 29 = .ok (.getfield 31, 3) := by decide +kernel
theorem dX6_sendReset_32 : decode cX6_sendReset 32 = .ok (.iconst 4, 1) := by decide +kernel
theorem dX6_sendReset_33 : decode cX6_sendReset 33 = .ok (.iconst 0, 1) := by decide +kernel
theorem dX6_sendReset_34 : decode cX6_sendReset 34 = .ok (.iastore, 1) := by decide +kernel
theorem dX6_sendReset_35 : decode cX6_sendReset 35 = .ok (.aload_n 0, 1) := by decide +kernel
theorem dX6_sendReset_36 : decode cX6_sendReset 36 = .ok (.getfield 20, 3) := by decide +kernel
theorem dX6_sendReset_39 : decode cX6_sendReset 39 = .ok (.iload_n 1, 1) := by decide +kernel
theorem dX6_sendReset_40 : decode cX6_sendReset 40 = .ok (.bipush 6, 2) := by decide +kernel
theorem dX6_sendReset_42 : decode cX6_sendReset 42 = .ok (.aload_n 0, 1) := by decide +kernel
theorem dX6_sendReset_43 : decode cX6_sendReset 43 = .ok (.getfield 31, 3) := by decide +kernel
theorem dX6_sendReset_46 : decode cX6_sendReset 46 = .ok (.iconst 5, 1) := by decide +kernel
theorem dX6_sendReset_47 : decode cX6_sendReset 47 = .ok (.invokevirtual 151, 3) := by decide +kernel
theorem dX6_sendReset_50 : decode cX6_sendReset 50 = .ok (.return_, 1) := by decide +kernel
theorem dX6_runTimer_0 : decode cX6_runTimer 0 = .ok (.aload_n 1, 1) := by decide +kernel
theorem dX6_runTimer_1 : decode cX6_runTimer 1 = .ok (.invokevirtual 159, 3) := by decide +kernel
theorem dX6_runTimer_4 : decode cX6_runTimer 4 = .ok (.ifCond .ne 4, 3) := by decide +kernel
theorem dX6_runTimer_7 : decode cX6_runTimer 7 = .ok (.return_, 1) := by decide +kernel
theorem dX6_runTimer_8 : decode cX6_runTimer 8 = .ok (.aload_n 1, 1) := by decide +kernel
theorem dX6_runTimer_9 : decode cX6_runTimer 9 = .ok (.getfield 162, 3) := by decide +kernel
theorem dX6_runTimer_12 : decode cX6_runTimer 12 = .ok (.iconst 3, 1) := by decide +kernel
theorem dX6_runTimer_13 : decode cX6_runTimer 13 = .ok (.if_icmp .lt 25, 3) := by decide +kernel
theorem dX6_runTimer_16 : decode cX6_runTimer 16 = .ok (.aload_n 0, 1) := by decide +kernel
theorem dX6_runTimer_17 : decode cX6_runTimer 17 = .ok (.aload_n 1, 1) := by decide +kernel
theorem dX6_runTimer_18 : decode cX6_runTimer 18 = .ok (.getfield 83, 3) := by decide +kernel
theorem dX6_runTimer_21 : decode cX6_runTimer 21 = .ok (.aload_n 1, 1) := by decide +kernel
theorem dX6_runTimer_22 : decode cX6_runTimer 22 = .ok (.getfield 86, 3) := by decide +kernel
theorem dX6_runTimer_25 : decode cX6_runTimer 25 = .ok (.aload_n 1, 1) := by decide +kernel
theorem dX6_runTimer_26 : decode cX6_runTimer 26 = .ok (.getfield 142, 3) := by decide +kernel
theorem dX6_runTimer_29 : decode cX6_runTimer 29 = .ok (.invokevirtual 96, 3) := by decide +kernel
theorem dX6_runTimer_32 : decode cX6_runTimer 32 = .ok (.aload_n 1, 1) := by decide +kernel
theorem dX6_runTimer_33 : decode cX6_runTimer 33 = .ok (.iconst 0, 1) := by decide +kernel
theorem dX6_runTimer_34 : decode cX6_runTimer 34 = .ok (.putfield 60, 3) := by decide +kernel
theorem dX6_runTimer_37 : decode cX6_runTimer 37 = .ok (.return_, 1) := by decide +kernel
theorem dX6_runTimer_38 : decode cX6_runTimer 38 = .ok (.aload_n 1, 1) := by decide +kernel
theorem dX6_runTimer_39 : decode cX6_runTimer 39 = .ok (.invokevirtual 165, 3) := by decide +kernel
theorem dX6_runTimer_42 : decode cX6_runTimer 42 = .ok (.aload_n 0, 1) := by decide +kernel
theorem dX6_runTimer_43 : decode cX6_runTimer 43 = .ok (.dup, 1) := by decide +kernel
theorem dX6_runTimer_44 : decode cX6_runTimer 44 = .ok (.getfield 168, 3) := by decide +kernel
theorem dX6_runTimer_47 : decode cX6_runTimer 47 = .ok (.iconst 1, 1) := by decide +kernel
theorem dX6_runTimer_48 : decode cX6_runTimer 48 = .ok (.iadd, 1) := by decide +kernel
theorem dX6_runTimer_49 : decode cX6_runTimer 49 = .ok (.putfield 168, 3) := by decide +kernel
theorem dX6_runTimer_52 : decode cX6_runTimer 52 = .ok (.aload_n 1, 1) := by decide +kernel
theorem dX6_runTimer_53 : decode cX6_runTimer 53 = .ok (.getfield 60, 3) := by decide +kernel
theorem dX6_runTimer_56 : decode cX6_runTimer 56 = .ok (.iconst 1, 1) := by decide +kernel
theorem dX6_runTimer_57 : decode cX6_runTimer 57 = .ok (.if_icmp .ne 14, 3) := by decide +kernel
theorem dX6_runTimer_60 : decode cX6_runTimer 60 = .ok (.aload_n 0, 1) := by decide +kernel
theorem dX6_runTimer_61 : decode cX6_runTimer 61 = .ok (.aload_n 1, 1) := by decide +kernel
theorem dX6_runTimer_62 : decode cX6_runTimer 62 = .ok (.bipush 18, 2) := by decide +kernel
theorem dX6_runTimer_64 : decode cX6_runTimer 64 = .ok (.iconst 0, 1) := by decide +kernel
theorem dX6_runTimer_65 : decode cX6_runTimer 65 = .ok (.invokevirtual 63, 3) := by decide +kernel
theorem dX6_runTimer_68 : decode cX6_runTimer 68 = .ok (.goto 9, 3) := by decide +kernel
theorem dX6_runTimer_71 : decode cX6_runTimer 71 = .ok (.aload_n 0, 1) := by decide +kernel
theorem dX6_runTimer_72 : decode cX6_runTimer 72 = .ok (.aload_n 1, 1) := by decide +kernel
theorem dX6_runTimer_73 : decode cX6_runTimer 73 = .ok (.invokevirtual 75, 3) := by decide +kernel
theorem dX6_runTimer_76 : decode cX6_runTimer 76 = .ok (.pop, 1) := by decide +kernel
theorem dX6_runTimer_77 : decode cX6_runTimer 77 = .ok (.return_, 1) := by decide +kernel
theorem dX7_init_0 : decode cX7_init 0 = .ok (.aload_n 0, 1) := by decide +kernel
theorem dX7_init_1 : decode cX7_init 1 = .ok (.invokespecial 3, 3) := by decide +kernel
theorem dX7_init_4 : decode cX7_init 4 = .ok (.aload_n 0, 1) := by decide +kernel
theorem dX7_init_5 : decode cX7_init 5 = .ok (.iconst 4, 1) := by decide +kernel
theorem dX7_init_6 : decode cX7_init 6 = .ok (.newarray .int, 2) := by decide +kernel
theorem dX7_init_8 : decode cX7_init 8 = .ok (.putfield 9, 3) := by decide +kernel
theorem dX7_init_11 : decode cX7_init 11 = .ok (.aload_n 0, 1) := by decide +kernel
theorem dX7_init_12 : decode cX7_init 12 = .ok (.bipush 16, 2) := by decide +kernel
theorem dX7_init_14 : decode cX7_init 14 = .ok (.newarray .int, 2) := by decide +kernel
theorem dX7_init_16 : decode cX7_init 16 = .ok (.putfield 15, 3) := by decide +kernel
theorem dX7_init_19 : decode cX7_init 19 = .ok (.return_, 1) := by decide +kernel
theorem dX7_addLetter_0 : decode cX7_addLetter 0 = .ok (.aload_n 0, 1) := by decide +kernel
theorem dX7_addLetter_1 : decode cX7_addLetter 1 = .ok (.getfield 18, 3) := by decide +kernel
theorem dX7_addLetter_4 : decode cX7_addLetter 4 = .ok (.iconst 4, 1) := by decide +kernel
theorem dX7_addLetter_5 : decode cX7_addLetter 5 = .ok (.if_icmp .lt 6, 3) := by decide +kernel
theorem dX7_addLetter_8 : decode cX7_addLetter 8 = .ok (.bipush (-2), 2) := by decide +kernel
theorem dX7_addLetter_10 : decode cX7_addLetter 10 = .ok (.ireturn, 1) := by decide +kernel
theorem dX7_addLetter_11 : decode cX7_addLetter 11 = .ok (.aload_n 0, 1) := by decide +kernel
theorem dX7_addLetter_12 : decode cX7_addLetter 12 = .ok (.getfield 9, 3) := by decide +kernel
theorem dX7_addLetter_15 : decode cX7_addLetter 15 = .ok (.aload_n 0, 1) := by decide +kernel
theorem dX7_addLetter_16 : decode cX7_addLetter 16 = .ok (.getfield 18, 3) := by decide +kernel
theorem dX7_addLetter_19 : decode cX7_addLetter 19 = .ok (.iload_n 1, 1) := by decide +kernel
theorem dX7_addLetter_20 : decode cX7_addLetter 20 = .ok (.iastore, 1) := by decide +kernel
theorem dX7_addLetter_21 : decode cX7_addLetter 21 = .ok (.aload_n 0, 1) := by decide +kernel
theorem dX7_addLetter_22 : decode cX7_addLetter 22 = .ok (.dup, 1) := by decide +kernel
theorem dX7_addLetter_23 : decode cX7_addLetter 23 = .ok (.getfield 18, 3) := by decide +kernel
theorem dX7_addLetter_26 : decode cX7_addLetter 26 = .ok (.iconst 1, 1) := by decide +kernel
theorem dX7_addLetter_27 : decode cX7_addLetter 27 = .ok (.iadd, 1) := by decide +kernel
theorem dX7_addLetter_28 : decode cX7_addLetter 28 = .ok (.putfield 18, 3) := by decide +kernel
theorem dX7_addLetter_31 : decode cX7_addLetter 31 = .ok (.aload_n 0, 1) := by decide +kernel
theorem dX7_addLetter_32 : decode cX7_addLetter 32 = .ok (.getfield 18, 3) := by decide +kernel
theorem dX7_addLetter_35 : decode cX7_addLetter 35 = .ok (.ireturn, 1) := by decide +kernel
theorem dX7_addOctet_0 : decode cX7_addOctet 0 = .ok (.aload_n 0, 1) := by decide +kernel
theorem dX7_addOctet_1 : decode cX7_addOctet 1 = .ok (.getfield 22, 3) := by decide +kernel
theorem dX7_addOctet_4 : decode cX7_addOctet 4 = .ok (.bipush 16, 2) := by decide +kernel
theorem dX7_addOctet_6 : decode cX7_addOctet 6 = .ok (.if_icmp .lt 6, 3) := by decide +kernel
theorem dX7_addOctet_9 : decode cX7_addOctet 9 = .ok (.bipush (-2), 2) := by decide +kernel
theorem dX7_addOctet_11 : decode cX7_addOctet 11 = .ok (.ireturn, 1) := by decide +kernel
theorem dX7_addOctet_12 : decode cX7_addOctet 12 = .ok (.aload_n 0, 1) := by decide +kernel
theorem dX7_addOctet_13 : decode cX7_addOctet 13 = .ok (.getfield 15, 3) := by decide +kernel
theorem dX7_addOctet_16 : decode cX7_addOctet 16 = .ok (.aload_n 0, 1) := by decide +kernel
theorem dX7_addOctet_17 : decode cX7_addOctet 17 = .ok (.getfield 22, 3) := by decide +kernel
theorem dX7_addOctet_20 : decode cX7_addOctet 20 = .ok (.iload_n 1, 1) := by decide +kernel
theorem dX7_addOctet_21 : decode cX7_addOctet 21 = .ok (.iastore, 1) := by decide +kernel
theorem dX7_addOctet_22 : decode cX7_addOctet 22 = .ok (.aload_n 0, 1) := by decide +kernel
theorem dX7_addOctet_23 : decode cX7_addOctet 23 = .ok (.dup, 1) := by decide +kernel
theorem dX7_addOctet_24 : decode cX7_addOctet 24 = .ok (.getfield 22, 3) := by decide +kernel
theorem dX7_addOctet_27 : decode cX7_addOctet 27 = .ok (.iconst 1, 1) := by decide +kernel
theorem dX7_addOctet_28 : decode cX7_addOctet 28 = .ok (.iadd, 1) := by decide +kernel
theorem dX7_addOctet_29 : decode cX7_addOctet 29 = .ok (.putfield 22, 3) := by decide +kernel
theorem dX7_addOctet_32 : decode cX7_addOctet 32 = .ok (.aload_n 0, 1) := by decide +kernel
theorem dX7_addOctet_33 : decode cX7_addOctet 33 = .ok (.aload_n 0, 1) := by decide +kernel
theorem dX7_addOctet_34 : decode cX7_addOctet 34 = .ok (.getfield 25, 3) := by decide +kernel
theorem dX7_addOctet_37 : decode cX7_addOctet 37 = .ok (.iload_n 1, 1) := by decide +kernel
theorem dX7_addOctet_38 : decode cX7_addOctet 38 = .ok (.iadd, 1) := by decide +kernel
theorem dX7_addOctet_39 : decode cX7_addOctet 39 = .ok (.sipush 255, 3) := by decide +kernel
theorem dX7_addOctet_42 : decode cX7_addOctet 42 = .ok (.iand, 1) := by decide +kernel
theorem dX7_addOctet_43 : decode cX7_addOctet 43 = .ok (.putfield 25, 3) := by decide +kernel
theorem dX7_addOctet_46 : decode cX7_addOctet 46 = .ok (.aload_n 0, 1) := by decide +kernel
theorem dX7_addOctet_47 : decode cX7_addOctet 47 = .ok (.getfield 22, 3) := by decide +kernel
theorem dX7_addOctet_50 : decode cX7_addOctet 50 = .ok (.ireturn, 1) := by decide +kernel
theorem dX7_replace_0 : decode cX7_replace 0 = .ok (.iload_n 1, 1) := by decide +kernel
theorem dX7_replace_1 : decode cX7_replace 1 = .ok (.ifCond .lt 11, 3) := by decide +kernel
theorem dX7_replace_4 : decode cX7_replace 4 = .ok (.iload_n 1, 1) := by decide +kernel
theorem dX7_replace_5 : decode cX7_replace 5 = .ok (.aload_n 0, 1) := by decide +kernel
theorem dX7_replace_6 : decode cX7_replace 6 = .ok (.getfield 22, 3) := by decide +kernel
theorem dX7_replace_9 : decode cX7_replace 9 = .ok (.if_icmp .lt 5, 3) := by decide +kernel
theorem dX7_replace_12 : decode cX7_replace 12 = .ok (.iconst (-1), 1) := by decide +kernel
theorem dX7_replace_13 : decode cX7_replace 13 = .ok (.ireturn, 1) := by decide +kernel
theorem dX7_replace_14 : decode cX7_replace 14 = .ok (.aload_n 0, 1) := by decide +kernel
theorem dX7_replace_15 : decode cX7_replace 15 = .ok (.getfield 15, 3) := by decide +kernel
theorem dX7_replace_18 : decode cX7_replace 18 = .ok (.iload_n 1, 1) := by decide +kernel
theorem dX7_replace_19 : decode cX7_replace 19 = .ok (.iaload, 1) := by decide +kernel
theorem dX7_replace_20 : decode cX7_replace 20 = .ok (.istore_n 3, 1) := by decide +kernel
theorem dX7_replace_21 : decode cX7_replace 21 = .ok (.aload_n 0, 1) := by decide +kernel
theorem dX7_replace_22 : decode cX7_replace 22 = .ok (.getfield 15, 3) := by decide +kernel
theorem dX7_replace_25 : decode cX7_replace 25 = .ok (.iload_n 1, 1) := by decide +kernel
theorem dX7_replace_26 : decode cX7_replace 26 = .ok (.iload_n 2, 1) := by decide +kernel
theorem dX7_replace_27 : decode cX7_replace 27 = .ok (.iastore, 1) := by decide +kernel
theorem dX7_replace_28 : decode cX7_replace 28 = .ok (.iload_n 3, 1) := by decide +kernel
theorem dX7_replace_29 : decode cX7_replace 29 = .ok (.ireturn, 1) := by decide +kernel
theorem dX7_empty_0 : decode cX7_empty 0 = .ok (.aload_n 0, 1) := by decide +kernel
theorem dX7_empty_1 : decode cX7_empty 1 = .ok (.getfield 22, 3) := by decide +kernel
theorem dX7_empty_4 : decode cX7_empty 4 = .ok (.istore_n 1, 1) := by decide +kernel
theorem dX7_empty_5 : decode cX7_empty 5 = .ok (.aload_n 0, 1) := by decide +kernel
theorem dX7_empty_6 : decode cX7_empty 6 = .ok (.iconst 0, 1) := by decide +kernel
theorem dX7_empty_7 : decode cX7_empty 7 = .ok (.putfield 18, 3) := by decide +kernel
theorem dX7_empty_10 : decode cX7_empty 10 = .ok (.aload_n 0, 1) := by decide +kernel
theorem dX7_empty_11 : decode cX7_empty 11 = .ok (.iconst 0, 1) := by decide +kernel
theorem dX7_empty_12 : decode cX7_empty 12 = .ok (.putfield 22, 3) := by decide +kernel
theorem dX7_empty_15 : decode cX7_empty 15 = .ok (.aload_n 0, 1) := by decide +kernel
theorem dX7_empty_16 : decode cX7_empty 16 = .ok (.iconst 0, 1) := by decide +kernel
theorem dX7_empty_17 : decode cX7_empty 17 = .ok (.putfield 25, 3) := by decide +kernel
theorem dX7_empty_20 : decode cX7_empty 20 = .ok (.iload_n 1, 1) := by decide +kernel
theorem dX7_empty_21 : decode cX7_empty 21 = .ok (.ireturn, 1) := by decide +kernel
theorem dX7_isAskedBy_0 : decode cX7_isAskedBy 0 = .ok (.aload_n 0, 1) := by decide +kernel
theorem dX7_isAskedBy_1 : decode cX7_isAskedBy 1 = .ok (.getfield 18, 3) := by decide +kernel
theorem dX7_isAskedBy_4 : decode cX7_isAskedBy 4 = .ok (.iload_n 2, 1) := by decide +kernel
theorem dX7_isAskedBy_5 : decode cX7_isAskedBy 5 = .ok (.iconst 2, 1) := by decide +kernel
theorem dX7_isAskedBy_6 : decode cX7_isAskedBy 6 = .ok (.isub, 1) := by decide +kernel
theorem dX7_isAskedBy_7 : decode cX7_isAskedBy 7 = .ok (.if_icmp .eq 5, 3) := by decide +kernel
theorem dX7_isAskedBy_10 : decode cX7_isAskedBy 10 = .ok (.iconst 0, 1) := by decide +kernel
theorem dX7_isAskedBy_11 : decode cX7_isAskedBy 11 = .ok (.ireturn, 1) := by decide +kernel
theorem dX7_isAskedBy_12 : decode cX7_isAskedBy 12 = .ok (.iconst 0, 1) := by decide +kernel
theorem dX7_isAskedBy_13 : decode cX7_isAskedBy 13 = .ok (.istore_n 3, 1) := by decide +kernel
theorem dX7_isAskedBy_14 : decode cX7_isAskedBy 14 = .ok (.iload_n 3, 1) := by decide +kernel
theorem dX7_isAskedBy_15 : decode cX7_isAskedBy 15 = .ok (.aload_n 0, 1) := by decide +kernel
theorem dX7_isAskedBy_16 : decode cX7_isAskedBy 16 = .ok (.getfield 18, 3) := by decide +kernel
theorem dX7_isAskedBy_19 : decode cX7_isAskedBy 19 = .ok (.if_icmp .ge 25, 3) := by decide +kernel
theorem dX7_isAskedBy_22 : decode cX7_isAskedBy 22 = .ok (.aload_n 0, 1) := by decide +kernel
theorem dX7_isAskedBy_23 : decode cX7_isAskedBy 23 = .ok (.getfield 9, 3) := by decide +kernel
theorem dX7_isAskedBy_26 : decode cX7_isAskedBy 26 = .ok (.iload_n 3, 1) := by decide +kernel
theorem dX7_isAskedBy_27 : decode cX7_isAskedBy 27 = .ok (.iaload, 1) := by decide +kernel
theorem dX7_isAskedBy_28 : decode cX7_isAskedBy 28 = .ok (.aload_n 1, 1) := by decide +kernel
theorem dX7_isAskedBy_29 : decode cX7_isAskedBy 29 = .ok (.iconst 1, 1) := by decide +kernel
theorem dX7_isAskedBy_30 : decode cX7_isAskedBy 30 = .ok (.iload_n 3, 1) := by decide +kernel
theorem dX7_isAskedBy_31 : decode cX7_isAskedBy 31 = .ok (.iadd, 1) := by decide +kernel
theorem dX7_isAskedBy_32 : decode cX7_isAskedBy 32 = .ok (.iaload, 1) := by decide +kernel
theorem dX7_isAskedBy_33 : decode cX7_isAskedBy 33 = .ok (.if_icmp .eq 5, 3) := by decide +kernel
theorem dX7_isAskedBy_36 : decode cX7_isAskedBy 36 = .ok (.iconst 0, 1) := by decide +kernel
theorem dX7_isAskedBy_37 : decode cX7_isAskedBy 37 = .ok (.ireturn, 1) := by decide +kernel
theorem dX7_isAskedBy_38 : decode cX7_isAskedBy 38 = .ok (.iinc 3 1, 3) := by decide +kernel
theorem dX7_isAskedBy_41 : decode cX7_isAskedBy 41 = .ok (.goto (-27), 3) := by decide +kernel
theorem dX7_isAskedBy_44 : decode cX7_isAskedBy 44 = .ok (.iconst 1, 1) := by decide +kernel
theorem dX7_isAskedBy_45 : decode cX7_isAskedBy 45 = .ok (.ireturn, 1) := by decide +kernel
theorem dX7_isSound_0 : decode cX7_isSound 0 = .ok (.iconst 0, 1) := by decide +kernel
theorem dX7_isSound_1 : decode cX7_isSound 1 = .ok (.istore_n 1, 1) := by decide +kernel
theorem dX7_isSound_2 : decode cX7_isSound 2 = .ok (.iconst 0, 1) := by decide +kernel
theorem dX7_isSound_3 : decode cX7_isSound 3 = .ok (.istore_n 2, 1) := by decide +kernel
theorem dX7_isSound_4 : decode cX7_isSound 4 = .ok (.iload_n 2, 1) := by decide +kernel
theorem dX7_isSound_5 : decode cX7_isSound 5 = .ok (.aload_n 0, 1) := by decide +kernel
theorem dX7_isSound_6 : decode cX7_isSound 6 = .ok (.getfield 22, 3) := by decide +kernel
theorem dX7_isSound_9 : decode cX7_isSound 9 = .ok (.if_icmp .ge 18, 3) := by decide +kernel
theorem dX7_isSound_12 : decode cX7_isSound 12 = .ok (.iload_n 1, 1) := by decide +kernel
theorem dX7_isSound_13 : decode cX7_isSound 13 = .ok (.aload_n 0, 1) := by decide +kernel
theorem dX7_isSound_14 : decode cX7_isSound 14 = .ok (.getfield 15, 3) := by decide +kernel
theorem dX7_isSound_17 : decode cX7_isSound 17 = .ok (.iload_n 2, 1) := by decide +kernel
theorem dX7_isSound_18 : decode cX7_isSound 18 = .ok (.iaload, 1) := by decide +kernel
theorem dX7_isSound_19 : decode cX7_isSound 19 = .ok (.iadd, 1) := by decide +kernel
theorem dX7_isSound_20 : decode cX7_isSound 20 = .ok (.istore_n 1, 1) := by decide +kernel
theorem dX7_isSound_21 : decode cX7_isSound 21 = .ok (.iinc 2 1, 3) := by decide +kernel
theorem dX7_isSound_24 : decode cX7_isSound 24 = .ok (.goto (-20), 3) := by decide +kernel
theorem dX7_isSound_27 : decode cX7_isSound 27 = .ok (.iload_n 1, 1) := by decide +kernel
theorem dX7_isSound_28 : decode cX7_isSound 28 = .ok (.sipush 255, 3) := by decide +kernel
theorem dX7_isSound_31 : decode cX7_isSound 31 = .ok (.iand, 1) := by decide +kernel
theorem dX7_isSound_32 : decode cX7_isSound 32 = .ok (.aload_n 0, 1) := by decide +kernel
theorem dX7_isSound_33 : decode cX7_isSound 33 = .ok (.getfield 25, 3) := by decide +kernel
theorem dX7_isSound_36 : decode cX7_isSound 36 = .ok (.if_icmp .ne 7, 3) := by decide +kernel
theorem dX7_isSound_39 : decode cX7_isSound 39 = .ok (.iconst 1, 1) := by decide +kernel
theorem dX7_isSound_40 : decode cX7_isSound 40 = .ok (.goto 4, 3) := by decide +kernel
theorem dX7_isSound_43 : decode cX7_isSound 43 = .ok (.iconst 0, 1) := by decide +kernel
theorem dX7_isSound_44 : decode cX7_isSound 44 = .ok (.ireturn, 1) := by decide +kernel
theorem dX8_init_0 : decode cX8_init 0 = .ok (.aload_n 0, 1) := by decide +kernel
theorem dX8_init_1 : decode cX8_init 1 = .ok (.invokespecial 3, 3) := by decide +kernel
theorem dX8_init_4 : decode cX8_init 4 = .ok (.aload_n 0, 1) := by decide +kernel
theorem dX8_init_5 : decode cX8_init 5 = .ok (.bipush 16, 2) := by decide +kernel
theorem dX8_init_7 : decode cX8_init 7 = .ok (.newarray .int, 2) := by decide +kernel
theorem dX8_init_9 : decode cX8_init 9 = .ok (.putfield 9, 3) := by decide +kernel
theorem dX8_init_12 : decode cX8_init 12 = .ok (.aload_n 0, 1) := by decide +kernel
theorem dX8_init_13 : decode cX8_init 13 = .ok (.bipush 12, 2) := by decide +kernel
theorem dX8_init_15 : decode cX8_init 15 = .ok (.bipush 41, 2) := by decide +kernel
theorem dX8_init_17 : decode cX8_init 17 = .ok (.multianewarray 15 2, 4) := by decide +kernel
theorem dX8_init_21 : decode cX8_init 21 = .ok (.putfield 17, 3) := by decide +kernel
theorem dX8_init_24 : decode cX8_init 24 = .ok (.aload_n 0, 1) := by decide +kernel
theorem dX8_init_25 : decode cX8_init 25 = .ok (.bipush 12, 2) := by decide +kernel
theorem dX8_init_27 : decode cX8_init 27 = .ok (.newarray .int, 2) := by decide +kernel
theorem dX8_init_29 : decode cX8_init 29 = .ok (.putfield 20, 3) := by decide +kernel
theorem dX8_init_32 : decode cX8_init 32 = .ok (.iconst 0, 1) := by decide +kernel
theorem dX8_init_33 : decode cX8_init 33 = .ok (.istore_n 1, 1) := by decide +kernel
theorem dX8_init_34 : decode cX8_init 34 = .ok (.iload_n 1, 1) := by decide +kernel
theorem dX8_init_35 : decode cX8_init 35 = .ok (.bipush 16, 2) := by decide +kernel
theorem dX8_init_37 : decode cX8_init 37 = .ok (.if_icmp .ge 16, 3) := by decide +kernel
theorem dX8_init_40 : decode cX8_init 40 = .ok (.aload_n 0, 1) := by decide +kernel
theorem dX8_init_41 : decode cX8_init 41 = .ok (.getfield 9, 3) := by decide +kernel
theorem dX8_init_44 : decode cX8_init 44 = .ok (.iload_n 1, 1) := by decide +kernel
theorem dX8_init_45 : decode cX8_init 45 = .ok (.iconst (-1), 1) := by decide +kernel
theorem dX8_init_46 : decode cX8_init 46 = .ok (.iastore, 1) := by decide +kernel
theorem dX8_init_47 : decode cX8_init 47 = .ok (.iinc 1 1, 3) := by decide +kernel
theorem dX8_init_50 : decode cX8_init 50 = .ok (.goto (-16), 3) := by decide +kernel
theorem dX8_init_53 : decode cX8_init 53 = .ok (.return_, 1) := by decide +kernel
theorem dX8_look_0 : decode cX8_look 0 = .ok (.iload_n 1, 1) := by decide +kernel
theorem dX8_look_1 : decode cX8_look 1 = .ok (.ifCond .lt 17, 3) := by decide +kernel
theorem dX8_look_4 : decode cX8_look 4 = .ok (.iload_n 1, 1) := by decide +kernel
theorem dX8_look_5 : decode cX8_look 5 = .ok (.bipush 12, 2) := by decide +kernel
theorem dX8_look_7 : decode cX8_look 7 = .ok (.if_icmp .ge 11, 3) := by decide +kernel
theorem dX8_look_10 : decode cX8_look 10 = .ok (.iload_n 1, 1) := by decide +kernel
theorem dX8_look_11 : decode cX8_look 11 = .ok (.aload_n 0, 1) := by decide +kernel
theorem dX8_look_12 : decode cX8_look 12 = .ok (.getfield 23, 3) := by decide +kernel
theorem dX8_look_15 : decode cX8_look 15 = .ok (.if_icmp .lt 5, 3) := by decide +kernel
theorem dX8_look_18 : decode cX8_look 18 = .ok (.iconst (-1), 1) := by decide +kernel
theorem dX8_look_19 : decode cX8_look 19 = .ok (.ireturn, 1) := by decide +kernel
theorem dX8_look_20 : decode cX8_look 20 = .ok (.aload_n 0, 1) := by decide +kernel
theorem dX8_look_21 : decode cX8_look 21 = .ok (.getfield 27, 3) := by decide +kernel
theorem dX8_look_24 : decode cX8_look 24 = .ok (.bipush 12, 2) := by decide +kernel
theorem dX8_look_26 : decode cX8_look 26 = .ok (.iadd, 1) := by decide +kernel
theorem dX8_look_27 : decode cX8_look 27 = .ok (.iload_n 1, 1) := by decide +kernel
theorem dX8_look_28 : decode cX8_look 28 = .ok (.isub, 1) := by decide +kernel
theorem dX8_look_29 : decode cX8_look 29 = .ok (.bipush 12, 2) := by decide +kernel
theorem dX8_look_31 : decode cX8_look 31 = .ok (.irem, 1) := by decide +kernel
theorem dX8_look_32 : decode cX8_look 32 = .ok (.istore_n 3, 1) := by decide +kernel
theorem dX8_look_33 : decode cX8_look 33 = .ok (.iload_n 2, 1) := by decide +kernel
theorem dX8_look_34 : decode cX8_look 34 = .ok (.ifCond .lt 13, 3) := by decide +kernel
theorem dX8_look_37 : decode cX8_look 37 = .ok (.iload_n 2, 1) := by decide +kernel
theorem dX8_look_38 : decode cX8_look 38 = .ok (.aload_n 0, 1) := by decide +kernel
theorem dX8_look_39 : decode cX8_look 39 = .ok (.getfield 20, 3) := by decide +kernel
theorem dX8_look_42 : decode cX8_look 42 = .ok (.iload_n 3, 1) := by decide +kernel
theorem dX8_look_43 : decode cX8_look 43 = .ok (.iaload, 1) := by decide +kernel
theorem dX8_look_44 : decode cX8_look 44 = .ok (.if_icmp .lt 5, 3) := by decide +kernel
theorem dX8_look_47 : decode cX8_look 47 = .ok (.iconst (-1), 1) := by decide +kernel
theorem dX8_look_48 : decode cX8_look 48 = .ok (.ireturn, 1) := by decide +kernel
theorem dX8_look_49 : decode cX8_look 49 = .ok (.aload_n 0, 1) := by decide +kernel
theorem dX8_look_50 : decode cX8_look 50 = .ok (.getfield 17, 3) := by decide +kernel
theorem dX8_look_53 : decode cX8_look 53 = .ok (.iload_n 3, 1) := by decide +kernel
theorem dX8_look_54 : decode cX8_look 54 = .ok (.aaload, 1) := by decide +kernel
theorem dX8_look_55 : decode cX8_look 55 = .ok (.iload_n 2, 1) := by decide +kernel
theorem dX8_look_56 : decode cX8_look 56 = .ok (.iaload, 1) := by decide +kernel
theorem dX8_look_57 : decode cX8_look 57 = .ok (.ireturn, 1) := by decide +kernel
theorem dX8_sendShort_0 : decode cX8_sendShort 0 = .ok (.aload_n 0, 1) := by decide +kernel
theorem dX8_sendShort_1 : decode cX8_sendShort 1 = .ok (.iconst 5, 1) := by decide +kernel
theorem dX8_sendShort_2 : decode cX8_sendShort 2 = .ok (.invokevirtual 30, 3) := by decide +kernel
theorem dX8_sendShort_5 : decode cX8_sendShort 5 = .ok (.astore 4, 2) := by decide +kernel
theorem dX8_sendShort_7 : decode cX8_sendShort 7 = .ok (.aload 4, 2) := by decide +kernel
theorem dX8_sendShort_9 : decode cX8_sendShort 9 = .ok (.iconst 0, 1) := by decide +kernel
theorem dX8_sendShort_10 : decode cX8_sendShort 10 = .ok (.iload_n 1, 1) := by decide +kernel
theorem dX8_sendShort_11 : decode cX8_sendShort 11 = .ok (.iastore, 1) := by decide +kernel
theorem dX8_sendShort_12 : decode cX8_sendShort 12 = .ok (.aload 4, 2) := by decide +kernel
theorem dX8_sendShort_14 : decode cX8_sendShort 14 = .ok (.iconst 1, 1) := by decide +kernel
theorem dX8_sendShort_15 : decode cX8_sendShort 15 = .ok (.iconst 1, 1) := by decide +kernel
theorem dX8_sendShort_16 : decode cX8_sendShort 16 = .ok (.iastore, 1) := by decide +kernel
theorem dX8_sendShort_17 : decode cX8_sendShort 17 = .ok (.aload 4, 2) := by decide +kernel
theorem dX8_sendShort_19 : decode cX8_sendShort 19 = .ok (.iconst 2, 1) := by decide +kernel
theorem dX8_sendShort_20 : decode cX8_sendShort 20 = .ok (.iload_n 2, 1) := by decide +kernel
theorem dX8_sendShort_21 : decode cX8_sendShort 21 = .ok (.iastore, 1) := by decide +kernel
theorem dX8_sendShort_22 : decode cX8_sendShort 22 = .ok (.aload 4, 2) := by decide +kernel
theorem dX8_sendShort_24 : decode cX8_sendShort 24 = .ok (.iconst 3, 1) := by decide +kernel
theorem dX8_sendShort_25 : decode cX8_sendShort 25 = .ok (.iconst 1, 1) := by decide +kernel
theorem dX8_sendShort_26 : decode cX8_sendShort 26 = .ok (.iastore, 1) := by decide +kernel
theorem dX8_sendShort_27 : decode cX8_sendShort 27 = .ok (.aload 4, 2) := by decide +kernel
theorem dX8_sendShort_29 : decode cX8_sendShort 29 = .ok (.iconst 4, 1) := by decide +kernel
theorem dX8_sendShort_30 : decode cX8_sendShort 30 = .ok (.iload_n 3, 1) := by decide +kernel
theorem dX8_sendShort_31 : decode cX8_sendShort 31 = .ok (.iastore, 1) := by decide +kernel
theorem dX8_sendShort_32 : decode cX8_sendShort 32 = .ok (.return_, 1) := by decide +kernel
theorem dX8_sendPayload_0 : decode cX8_sendPayload 0 = .ok (.aload_n 0, 1) := by decide +kernel
theorem dX8_sendPayload_1 : decode cX8_sendPayload 1 = .ok (.getfield 9, 3) := by decide +kernel
theorem dX8_sendPayload_4 : decode cX8_sendPayload 4 = .ok (.iload_n 1, 1) := by decide +kernel
theorem dX8_sendPayload_5 : decode cX8_sendPayload 5 = .ok (.iaload, 1) := by decide +kernel
theorem dX8_sendPayload_6 : decode cX8_sendPayload 6 = .ok (.iconst (-1), 1) := by decide +kernel
theorem dX8_sendPayload_7 : decode cX8_sendPayload 7 = .ok (.if_icmp .ne 12, 3) := by decide +kernel
theorem dX8_sendPayload_10 : decode cX8_sendPayload 10 = .ok (.aload_n 0, 1) := by decide +kernel
theorem dX8_sendPayload_11 : decode cX8_sendPayload 11 = .ok (.bipush 15, 2) := by decide +kernel
theorem dX8_sendPayload_13 : decode cX8_sendPayload 13 = .ok (.iconst 1, 1) := by decide +kernel
theorem dX8_sendPayload_14 : decode cX8_sendPayload 14 = .ok (.iload_n 1, 1) := by decide +kernel
theorem dX8_sendPayload_15 : decode cX8_sendPayload 15 = .ok (.invokevirtual 34, 3) := by decide +kernel
theorem dX8_sendPayload_18 : decode cX8_sendPayload 18 = .ok (.return_, 1) := by decide +kernel
theorem dX8_sendPayload_19 : decode cX8_sendPayload 19 = .ok (.iload 4, 2) := by decide +kernel
theorem dX8_sendPayload_21 : decode cX8_sendPayload 21 = .ok (.bipush 16, 2) := by decide +kernel
theorem dX8_sendPayload_23 : decode cX8_sendPayload 23 = .ok (.if_icmp .le 31, 3) := by decide +kernel
theorem dX8_sendPayload_26 : decode cX8_sendPayload 26 = .ok (.aload_n 0, 1) := by decide +kernel
theorem dX8_sendPayload_27 : decode cX8_sendPayload 27 = .ok (.iload_n 1, 1) := by decide +kernel
theorem dX8_sendPayload_28 : decode cX8_sendPayload 28 = .ok (.iload_n 2, 1) := by decide +kernel
theorem dX8_sendPayload_29 : decode cX8_sendPayload 29 = .ok (.aload_n 3, 1) := by decide +kernel
theorem dX8_sendPayload_30 : decode cX8_sendPayload 30 = .ok (.iconst 0, 1) := by decide +kernel
theorem dX8_sendPayload_31 : decode cX8_sendPayload 31 = .ok (.bipush 16, 2) := by decide +kernel
theorem dX8_sendPayload_33 : decode cX8_sendPayload 33 = .ok (.sipush 128, 3) := by decide +kernel
theorem dX8_sendPayload_36 : decode cX8_sendPayload 36 = .ok (.invokevirtual 38, 3) := by decide +kernel
theorem dX8_sendPayload_39 : decode cX8_sendPayload 39 = .ok (.aload_n 0, 1) := by decide +kernel
theorem dX8_sendPayload_40 : decode cX8_sendPayload 40 = .ok (.iload_n 1, 1) := by decide +kernel
theorem dX8_sendPayload_41 : decode cX8_sendPayload 41 = .ok (.iload_n 2, 1) := by decide +kernel
theorem dX8_sendPayload_42 : decode cX8_sendPayload 42 = .ok (.aload_n 3, 1) := by decide +kernel
theorem dX8_sendPayload_43 : decode cX8_sendPayload 43 = .ok (.bipush 16, 2) := by decide +kernel
theorem dX8_sendPayload_45 : decode cX8_sendPayload 45 = .ok (.iload 4, 2) := by decide +kernel
theorem dX8_sendPayload_47 : decode cX8_sendPayload 47 = .ok (.iconst 4, 1) := by decide +kernel
theorem dX8_sendPayload_48 : decode cX8_sendPayload 48 = .ok (.invokevirtual 38, 3) := by decide +kernel
theorem dX8_sendPayload_51 : decode cX8_sendPayload 51 = .ok (.goto 14, 3) := by decide +kernel
theorem dX8_sendPayload_54 : decode cX8_sendPayload 54 = .ok (.aload_n 0, 1) := by decide +kernel
theorem dX8_sendPayload_55 : decode cX8_sendPayload 55 = .ok (.iload_n 1, 1) := by decide +kernel
theorem dX8_sendPayload_56 : decode cX8_sendPayload 56 = .ok (.iload_n 2, 1) := by decide +kernel
theorem dX8_sendPayload_57 : decode cX8_sendPayload 57 = .ok (.aload_n 3, 1) := by decide +kernel
theorem dX8_sendPayload_58 : decode cX8_sendPayload 58 = .ok (.iconst 0, 1) := by decide +kernel
theorem dX8_sendPayload_59 : decode cX8_sendPayload 59 = .ok (.iload 4, 2) := by decide +kernel
theorem dX8_sendPayload_61 : decode cX8_sendPayload 61 = .ok (.iconst 0, 1) := by decide +kernel
theorem dX8_sendPayload_62 : decode cX8_sendPayload 62 = .ok (.invokevirtual 38, 3) := by decide +kernel
theorem dX8_sendPayload_65 : decode cX8_sendPayload 65 = .ok (.aload_n 0, 1) := by decide +kernel
theorem dX8_sendPayload_66 : decode cX8_sendPayload 66 = .ok (.dup, 1) := by decide +kernel
theorem dX8_sendPayload_67 : decode cX8_sendPayload 67 = .ok (.getfield 42, 3) := by decide +kernel
theorem dX8_sendPayload_70 : decode cX8_sendPayload 70 = .ok (.iconst 1, 1) := by decide +kernel
theorem dX8_sendPayload_71 : decode cX8_sendPayload 71 = .ok (.iadd, 1) := by decide +kernel
theorem dX8_sendPayload_72 : decode cX8_sendPayload 72 = .ok (.putfield 42, 3) := by decide +kernel
theorem dX8_sendPayload_75 : decode cX8_sendPayload 75 = .ok (.return_, 1) := by decide +kernel
theorem dX8_sendPiece_0 : decode cX8_sendPiece 0 = .ok (.aload_n 0, 1) := by decide +kernel
theorem dX8_sendPiece_1 : decode cX8_sendPiece 1 = .ok (.bipush 9, 2) := by decide +kernel
theorem dX8_sendPiece_3 : decode cX8_sendPiece 3 = .ok (.iload 5, 2) := by decide +kernel
theorem dX8_sendPiece_5 : decode cX8_sendPiece 5 = .ok (.iadd, 1) := by decide +kernel
theorem dX8_sendPiece_6 : decode cX8_sendPiece 6 = .ok (.iload 4, 2) := by decide +kernel
theorem dX8_sendPiece_8 : decode cX8_sendPiece 8 = .ok (.isub, 1) := by decide +kernel
theorem dX8_sendPiece_9 : decode cX8_sendPiece 9 = .ok (.invokevirtual 30, 3) := by decide +kernel
theorem dX8_sendPiece_12 : decode cX8_sendPiece 12 = .ok (.astore 7, 2) := by decide +kernel
theorem dX8_sendPiece_14 : decode cX8_sendPiece 14 = .ok (.aload 7, 2) := by decide +kernel
theorem dX8_sendPiece_16 : decode cX8_sendPiece 16 = .ok (.iconst 0, 1) := by decide +kernel
theorem dX8_sendPiece_17 : decode cX8_sendPiece 17 = .ok (.aload_n 0, 1) := by decide +kernel
theorem dX8_sendPiece_18 : decode cX8_sendPiece 18 = .ok (.getfield 9, 3) := by decide +kernel
theorem dX8_sendPiece_21 : decode cX8_sendPiece 21 = .ok (.iload_n 1, 1) := by decide +kernel
theorem dX8_sendPiece_22 : decode cX8_sendPiece 22 = .ok (.iaload, 1) := by decide +kernel
theorem dX8_sendPiece_23 : decode cX8_sendPiece 23 = .ok (.iastore, 1) := by decide +kernel
theorem dX8_sendPiece_24 : decode cX8_sendPiece 24 = .ok (.aload 7, 2) := by decide +kernel
theorem dX8_sendPiece_26 : decode cX8_sendPiece 26 = .ok (.iconst 1, 1) := by decide +kernel
theorem dX8_sendPiece_27 : decode cX8_sendPiece 27 = .ok (.iconst 1, 1) := by decide +kernel
theorem dX8_sendPiece_28 : decode cX8_sendPiece 28 = .ok (.iastore, 1) := by decide +kernel
theorem dX8_sendPiece_29 : decode cX8_sendPiece 29 = .ok (.aload 7, 2) := by decide +kernel
theorem dX8_sendPiece_31 : decode cX8_sendPiece 31 = .ok (.iconst 2, 1) := by decide +kernel
theorem dX8_sendPiece_32 : decode cX8_sendPiece 32 = .ok (.iconst 3, 1) := by decide +kernel
theorem dX8_sendPiece_33 : decode cX8_sendPiece 33 = .ok (.iastore, 1) := by decide +kernel
theorem dX8_sendPiece_34 : decode cX8_sendPiece 34 = .ok (.aload 7, 2) := by decide +kernel
theorem dX8_sendPiece_36 : decode cX8_sendPiece 36 = .ok (.iconst 3, 1) := by decide +kernel
theorem dX8_sendPiece_37 : decode cX8_sendPiece 37 = .ok (.iconst 1, 1) := by decide +kernel
theorem dX8_sendPiece_38 : decode cX8_sendPiece 38 = .ok (.iastore, 1) := by decide +kernel
theorem dX8_sendPiece_39 : decode cX8_sendPiece 39 = .ok (.aload 7, 2) := by decide +kernel
theorem dX8_sendPiece_41 : decode cX8_sendPiece 41 = .ok (.iconst 4, 1) := by decide +kernel
theorem dX8_sendPiece_42 : decode cX8_sendPiece 42 = .ok (.iload_n 1, 1) := by decide +kernel
theorem dX8_sendPiece_43 : decode cX8_sendPiece 43 = .ok (.iastore, 1) := by decide +kernel
theorem dX8_sendPiece_44 : decode cX8_sendPiece 44 = .ok (.aload 7, 2) := by decide +kernel
theorem dX8_sendPiece_46 : decode cX8_sendPiece 46 = .ok (.iconst 5, 1) := by decide +kernel
theorem dX8_sendPiece_47 : decode cX8_sendPiece 47 = .ok (.aload_n 0, 1) := by decide +kernel
theorem dX8_sendPiece_48 : decode cX8_sendPiece 48 = .ok (.getfield 42, 3) := by decide +kernel
theorem dX8_sendPiece_51 : decode cX8_sendPiece 51 = .ok (.sipush 255, 3) := by decide +kernel
theorem dX8_sendPiece_54 : decode cX8_sendPiece 54 = .ok (.iand, 1) := by decide +kernel
theorem dX8_sendPiece_55 : decode cX8_sendPiece 55 = .ok (.iastore, 1) := by decide +kernel
theorem dX8_sendPiece_56 : decode cX8_sendPiece 56 = .ok (.aload 7, 2) := by decide +kernel
theorem dX8_sendPiece_58 : decode cX8_sendPiece 58 = .ok (.bipush 6, 2) := by decide +kernel
theorem dX8_sendPiece_60 : decode cX8_sendPiece 60 = .ok (.iload 6, 2) := by decide +kernel
theorem dX8_sendPiece_62 : decode cX8_sendPiece 62 = .ok (.iastore, 1) := by decide +kernel
theorem dX8_sendPiece_63 : decode cX8_sendPiece 63 = .ok (.aload 7, 2) := by decide +kernel
theorem dX8_sendPiece_65 : decode cX8_sendPiece 65 = .ok (.bipush 7, 2) := by decide +kernel
theorem dX8_sendPiece_67 : decode cX8_sendPiece 67 = .ok (.iload_n 2, 1) := by decide +kernel
theorem dX8_sendPiece_68 : decode cX8_sendPiece 68 = .ok (.iastore, 1) := by decide +kernel
theorem dX8_sendPiece_69 : decode cX8_sendPiece 69 = .ok (.iconst 1, 1) := by decide +kernel
theorem dX8_sendPiece_70 : decode cX8_sendPiece 70 = .ok (.iload_n 1, 1) := by decide +kernel
theorem dX8_sendPiece_71 : decode cX8_sendPiece 71 = .ok (.iadd, 1) := by decide +kernel
theorem dX8_sendPiece_72 : decode cX8_sendPiece 72 = .ok (.aload 7, 2) := by decide +kernel
theorem dX8_sendPiece_74 : decode cX8_sendPiece 74 = .ok (.iconst 5, 1) := by decide +kernel
theorem dX8_sendPiece_75 : decode cX8_sendPiece 75 = .ok (.iaload, 1) := by decide +kernel
theorem dX8_sendPiece_76 : decode cX8_sendPiece 76 = .ok (.iadd, 1) := by decide +kernel
theorem dX8_sendPiece_77 : decode cX8_sendPiece 77 = .ok (.iload 6, 2) := by decide +kernel
theorem dX8_sendPiece_79 : decode cX8_sendPiece 79 = .ok (.iadd, 1) := by decide +kernel
theorem dX8_sendPiece_80 : decode cX8_sendPiece 80 = .ok (.iload_n 2, 1) := by decide +kernel
theorem dX8_sendPiece_81 : decode cX8_sendPiece 81 = .ok (.iadd, 1) := by decide +kernel
theorem dX8_sendPiece_82 : decode cX8_sendPiece 82 = .ok (.istore 8, 2) := by decide +kernel
theorem dX8_sendPiece_84 : decode cX8_sendPiece 84 = .ok (.iload 4, 2) := by decide +kernel
theorem dX8_sendPiece_86 : decode cX8_sendPiece 86 = .ok (.istore 9, 2) := by decide +kernel
theorem dX8_sendPiece_88 : decode cX8_sendPiece 88 = .ok (.iload 9, 2) := by decide +kernel
theorem dX8_sendPiece_90 : decode cX8_sendPiece 90 = .ok (.iload 5, 2) := by decide +kernel
theorem dX8_sendPiece_92 : decode cX8_sendPiece 92 = .ok (.if_icmp .ge 33, 3) := by decide +kernel
theorem dX8_sendPiece_95 : decode cX8_sendPiece 95 = .ok (.aload 7, 2) := by decide +kernel
theorem dX8_sendPiece_97 : decode cX8_sendPiece 97 = .ok (.bipush 9, 2) := by decide +kernel
theorem dX8_sendPiece_99 : decode cX8_sendPiece 99 = .ok (.iload 9, 2) := by decide +kernel
theorem dX8_sendPiece_101 : decode cX8_sendPiece 101 = .ok (.iadd, 1) := by decide +kernel
theorem dX8_sendPiece_102 : decode cX8_sendPiece 102 = .ok (.iload 4, 2) := by decide +kernel
theorem dX8_sendPiece_104 : decode cX8_sendPiece 104 = .ok (.isub, 1) := by decide +kernel
theorem dX8_sendPiece_105 : decode cX8_sendPiece 105 = .ok (.aload_n 3, 1) := by decide +kernel
theorem dX8_sendPiece_106 : decode cX8_sendPiece 106 = .ok (.iload 9, 2) := by decide +kernel
theorem dX8_sendPiece_108 : decode cX8_sendPiece 108 = .ok (.iaload, 1) := by decide +kernel
theorem dX8_sendPiece_109 : decode cX8_sendPiece 109 = .ok (.iastore, 1) := by decide +kernel
theorem dX8_sendPiece_110 : decode cX8_sendPiece 110 = .ok (.iload 8, 2) := by decide +kernel
theorem dX8_sendPiece_112 : decode cX8_sendPiece 112 = .ok (.aload_n 3, 1) := by decide +kernel
theorem dX8_sendPiece_113 : decode cX8_sendPiece 113 = .ok (.iload 9, 2) := by decide +kernel
theorem dX8_sendPiece_115 : decode cX8_sendPiece 115 = .ok (.iaload, 1) := by decide +kernel
theorem dX8_sendPiece_116 : decode cX8_sendPiece 116 = .ok (.iadd, 1) := by decide +kernel
theorem dX8_sendPiece_117 : decode cX8_sendPiece 117 = .ok (.istore 8, 2) := by decide +kernel
theorem dX8_sendPiece_119 : decode cX8_sendPiece 119 = .ok (.iinc 9 1, 3) := by decide +kernel
theorem dX8_sendPiece_122 : decode cX8_sendPiece 122 = .ok (.goto (-34), 3) := by decide +kernel
theorem dX8_sendPiece_125 : decode cX8_sendPiece 125 = .ok (.aload 7, 2) := by decide +kernel
theorem dX8_sendPiece_127 : decode cX8_sendPiece 127 = .ok (.bipush 8, 2) := by decide +kernel
theorem dX8_sendPiece_129 : decode cX8_sendPiece 129 = .ok (.iload 8, 2) := by decide +kernel
theorem dX8_sendPiece_131 : decode cX8_sendPiece 131 = .ok (.ineg, 1) := by decide +kernel
theorem dX8_sendPiece_132 : decode cX8_sendPiece 132 = .ok (.sipush 255, 3) := by decide +kernel
theorem dX8_sendPiece_135 : decode cX8_sendPiece 135 = .ok (.iand, 1) := by decide +kernel
theorem dX8_sendPiece_136 : decode cX8_sendPiece 136 = .ok (.iastore, 1) := by decide +kernel
theorem dX8_sendPiece_137 : decode cX8_sendPiece 137 = .ok (.return_, 1) := by decide +kernel
theorem dX8_nextFrame_0 : decode cX8_nextFrame 0 = .ok (.aload_n 0, 1) := by decide +kernel
theorem dX8_nextFrame_1 : decode cX8_nextFrame 1 = .ok (.aload_n 0, 1) := by decide +kernel
theorem dX8_nextFrame_2 : decode cX8_nextFrame 2 = .ok (.getfield 27, 3) := by decide +kernel
theorem dX8_nextFrame_5 : decode cX8_nextFrame 5 = .ok (.iconst 1, 1) := by decide +kernel
theorem dX8_nextFrame_6 : decode cX8_nextFrame 6 = .ok (.iadd, 1) := by decide +kernel
theorem dX8_nextFrame_7 : decode cX8_nextFrame 7 = .ok (.bipush 12, 2) := by decide +kernel
theorem dX8_nextFrame_9 : decode cX8_nextFrame 9 = .ok (.irem, 1) := by decide +kernel
theorem dX8_nextFrame_10 : decode cX8_nextFrame 10 = .ok (.putfield 27, 3) := by decide +kernel
theorem dX8_nextFrame_13 : decode cX8_nextFrame 13 = .ok (.aload_n 0, 1) := by decide +kernel
theorem dX8_nextFrame_14 : decode cX8_nextFrame 14 = .ok (.getfield 20, 3) := by decide +kernel
theorem dX8_nextFrame_17 : decode cX8_nextFrame 17 = .ok (.aload_n 0, 1) := by decide +kernel
theorem dX8_nextFrame_18 : decode cX8_nextFrame 18 = .ok (.getfield 27, 3) := by decide +kernel
theorem dX8_nextFrame_21 : decode cX8_nextFrame 21 = .ok (.iload_n 1, 1) := by decide +kernel
theorem dX8_nextFrame_22 : decode cX8_nextFrame 22 = .ok (.iastore, 1) := by decide +kernel
theorem dX8_nextFrame_23 : decode cX8_nextFrame 23 = .ok (.aload_n 0, 1) := by decide +kernel
theorem dX8_nextFrame_24 : decode cX8_nextFrame 24 = .ok (.dup, 1) := by decide +kernel
theorem dX8_nextFrame_25 : decode cX8_nextFrame 25 = .ok (.getfield 23, 3) := by decide +kernel
theorem dX8_nextFrame_28 : decode cX8_nextFrame 28 = .ok (.iconst 1, 1) := by decide +kernel
theorem dX8_nextFrame_29 : decode cX8_nextFrame 29 = .ok (.iadd, 1) := by decide +kernel
theorem dX8_nextFrame_30 : decode cX8_nextFrame 30 = .ok (.putfield 23, 3) := by decide +kernel
theorem dX8_nextFrame_33 : decode cX8_nextFrame 33 = .ok (.aload_n 0, 1) := by decide +kernel
theorem dX8_nextFrame_34 : decode cX8_nextFrame 34 = .ok (.getfield 17, 3) := by decide +kernel
theorem dX8_nextFrame_37 : decode cX8_nextFrame 37 = .ok (.aload_n 0, 1) := by decide +kernel
theorem dX8_nextFrame_38 : decode cX8_nextFrame 38 = .ok (.getfield 27, 3) := by decide +kernel
theorem dX8_nextFrame_41 : decode cX8_nextFrame 41 = .ok (.aaload, 1) := by decide +kernel
theorem dX8_nextFrame_42 : decode cX8_nextFrame 42 = .ok (.areturn, 1) := by decide +kernel
theorem dX9_init_0 : decode cX9_init 0 = .ok (.aload_n 0, 1) := by decide +kernel
theorem dX9_init_1 : decode cX9_init 1 = .ok (.invokespecial 1, 3) := by decide +kernel
theorem dX9_init_4 : decode cX9_init 4 = .ok (.aload_n 0, 1) := by decide +kernel
theorem dX9_init_5 : decode cX9_init 5 = .ok (.new 7, 3) := by decide +kernel
theorem dX9_init_8 : decode cX9_init 8 = .ok (.dup, 1) := by decide +kernel
theorem dX9_init_9 : decode cX9_init 9 = .ok (.invokespecial 9, 3) := by decide +kernel
theorem dX9_init_12 : decode cX9_init 12 = .ok (.putfield 10, 3) := by decide +kernel
theorem dX9_init_15 : decode cX9_init 15 = .ok (.aload_n 0, 1) := by decide +kernel
theorem dX9_init_16 : decode cX9_init 16 = .ok (.new 16, 3) := by decide +kernel
theorem dX9_init_19 : decode cX9_init 19 = .ok (.dup, 1) := by decide +kernel
theorem dX9_init_20 : decode cX9_init 20 = .ok (.invokespecial 18, 3) := by decide +kernel
theorem dX9_init_23 : decode cX9_init 23 = .ok (.putfield 19, 3) := by decide +kernel
theorem dX9_init_26 : decode cX9_init 26 = .ok (.aload_n 0, 1) := by decide +kernel
theorem dX9_init_27 : decode cX9_init 27 = .ok (.new 23, 3) := by decide +kernel
theorem dX9_init_30 : decode cX9_init 30 = .ok (.dup, 1) := by decide +kernel
theorem dX9_init_31 : decode cX9_init 31 = .ok (.invokespecial 25, 3) := by decide +kernel
theorem dX9_init_34 : decode cX9_init 34 = .ok (.putfield 26, 3) := by decide +kernel
theorem dX9_init_37 : decode cX9_init 37 = .ok (.aload_n 0, 1) := by decide +kernel
theorem dX9_init_38 : decode cX9_init 38 = .ok (.new 30, 3) := by decide +kernel
theorem dX9_init_41 : decode cX9_init 41 = .ok (.dup, 1) := by decide +kernel
theorem dX9_init_42 : decode cX9_init 42 = .ok (.invokespecial 32, 3) := by decide +kernel
theorem dX9_init_45 : decode cX9_init 45 = .ok (.putfield 33, 3) := by decide +kernel
theorem dX9_init_48 : decode cX9_init 48 = .ok (.return_, 1) := by decide +kernel
theorem dX9_octet_0 : decode cX9_octet 0 = .ok (.iload_n 1, 1) := by decide +kernel
theorem dX9_octet_1 : decode cX9_octet 1 = .ok (.invokestatic 37, 3) := by decide +kernel
theorem dX9_octet_4 : decode cX9_octet 4 = .ok (.ifCond .ne 5, 3) := by decide +kernel
theorem dX9_octet_7 : decode cX9_octet 7 = .ok (.iconst (-1), 1) := by decide +kernel
theorem dX9_octet_8 : decode cX9_octet 8 = .ok (.ireturn, 1) := by decide +kernel
theorem dX9_octet_9 : decode cX9_octet 9 = .ok (.aload_n 0, 1) := by decide +kernel
theorem dX9_octet_10 : decode cX9_octet 10 = .ok (.getfield 10, 3) := by decide +kernel
theorem dX9_octet_13 : decode cX9_octet 13 = .ok (.getfield 41, 3) := by decide +kernel
theorem dX9_octet_16 : decode cX9_octet 16 = .ok (.bipush 44, 2) := by decide +kernel
theorem dX9_octet_18 : decode cX9_octet 18 = .ok (.if_icmp .lt 6, 3) := by decide +kernel
theorem dX9_octet_21 : decode cX9_octet 21 = .ok (.bipush (-2), 2) := by decide +kernel
theorem dX9_octet_23 : decode cX9_octet 23 = .ok (.ireturn, 1) := by decide +kernel
theorem dX9_octet_24 : decode cX9_octet 24 = .ok (.aload_n 0, 1) := by decide +kernel
theorem dX9_octet_25 : decode cX9_octet 25 = .ok (.getfield 10, 3) := by decide +kernel
theorem dX9_octet_28 : decode cX9_octet 28 = .ok (.getfield 45, 3) := by decide +kernel
theorem dX9_octet_31 : decode cX9_octet 31 = .ok (.aload_n 0, 1) := by decide +kernel
theorem dX9_octet_32 : decode cX9_octet 32 = .ok (.getfield 10, 3) := by decide +kernel
theorem dX9_octet_35 : decode cX9_octet 35 = .ok (.getfield 41, 3) := by decide +kernel
theorem dX9_octet_38 : decode cX9_octet 38 = .ok (.iload_n 1, 1) := by decide +kernel
theorem dX9_octet_39 : decode cX9_octet 39 = .ok (.iastore, 1) := by decide +kernel
theorem dX9_octet_40 : decode cX9_octet 40 = .ok (.aload_n 0, 1) := by decide +kernel
theorem dX9_octet_41 : decode cX9_octet 41 = .ok (.getfield 10, 3) := by decide +kernel
theorem dX9_octet_44 : decode cX9_octet 44 = .ok (.dup, 1) := by decide +kernel
theorem dX9_octet_45 : decode cX9_octet 45 = .ok (.getfield 41, 3) := by decide +kernel
theorem dX9_octet_48 : decode cX9_octet 48 = .ok (.iconst 1, 1) := by decide +kernel
theorem dX9_octet_49 : decode cX9_octet 49 = .ok (.iadd, 1) := by decide +kernel
theorem dX9_octet_50 : decode cX9_octet 50 = .ok (.putfield 41, 3) := by decide +kernel
theorem dX9_octet_53 : decode cX9_octet 53 = .ok (.aload_n 0, 1) := by decide +kernel
theorem dX9_octet_54 : decode cX9_octet 54 = .ok (.getfield 10, 3) := by decide +kernel
theorem dX9_octet_57 : decode cX9_octet 57 = .ok (.getfield 41, 3) := by decide +kernel
theorem dX9_octet_60 : decode cX9_octet 60 = .ok (.ireturn, 1) := by decide +kernel
theorem dX9_arrive_0 : decode cX9_arrive 0 = .ok (.aload_n 0, 1) := by decide +kernel
theorem dX9_arrive_1 : decode cX9_arrive 1 = .ok (.getfield 33, 3) := by decide +kernel
theorem dX9_arrive_4 : decode cX9_arrive 4 = .ok (.getfield 49, 3) := by decide +kernel
theorem dX9_arrive_7 : decode cX9_arrive 7 = .ok (.getfield 53, 3) := by decide +kernel
theorem dX9_arrive_10 : decode cX9_arrive 10 = .ok (.istore_n 1, 1) := by decide +kernel
theorem dX9_arrive_11 : decode cX9_arrive 11 = .ok (.aload_n 0, 1) := by decide +kernel
theorem dX9_arrive_12 : decode cX9_arrive 12 = .ok (.getfield 10, 3) := by decide +kernel
theorem dX9_arrive_15 : decode cX9_arrive 15 = .ok (.invokevirtual 58, 3) := by decide +kernel
theorem dX9_arrive_18 : decode cX9_arrive 18 = .ok (.istore_n 2, 1) := by decide +kernel
theorem dX9_arrive_19 : decode cX9_arrive 19 = .ok (.aload_n 0, 1) := by decide +kernel
theorem dX9_arrive_20 : decode cX9_arrive 20 = .ok (.dup, 1) := by decide +kernel
theorem dX9_arrive_21 : decode cX9_arrive 21 = .ok (.getfield 62, 3) := by decide +kernel
theorem dX9_arrive_24 : decode cX9_arrive 24 = .ok (.iconst 1, 1) := by decide +kernel
theorem dX9_arrive_25 : decode cX9_arrive 25 = .ok (.iadd, 1) := by decide +kernel
theorem dX9_arrive_26 : decode cX9_arrive 26 = .ok (.putfield 62, 3) := by decide +kernel
theorem dX9_arrive_29 : decode cX9_arrive 29 = .ok (.iload_n 2, 1) := by decide +kernel
theorem dX9_arrive_30 : decode cX9_arrive 30 = .ok (.ifCond .ne 16, 3) := by decide +kernel
theorem dX9_arrive_33 : decode cX9_arrive 33 = .ok (.aload_n 0, 1) := by decide +kernel
theorem dX9_arrive_34 : decode cX9_arrive 34 = .ok (.dup, 1) := by decide +kernel
theorem dX9_arrive_35 : decode cX9_arrive 35 = .ok (.getfield 65, 3) := by decide +kernel
theorem dX9_arrive_38 : decode cX9_arrive 38 = .ok (.iconst 1, 1) := by decide +kernel
theorem dX9_arrive_39 : decode cX9_arrive 39 = .ok (.iadd, 1) := by decide +kernel
theorem dX9_arrive_40 : decode cX9_arrive 40 = .ok (.putfield 65, 3) := by decide +kernel
theorem dX9_arrive_43 : decode cX9_arrive 43 = .ok (.goto 121, 3) := by decide +kernel
theorem dX9_arrive_46 : decode cX9_arrive 46 = .ok (.aload_n 0, 1) := by decide +kernel
theorem dX9_arrive_47 : decode cX9_arrive 47 = .ok (.getfield 10, 3) := by decide +kernel
theorem dX9_arrive_50 : decode cX9_arrive 50 = .ok (.getfield 45, 3) := by decide +kernel
theorem dX9_arrive_53 : decode cX9_arrive 53 = .ok (.iconst 2, 1) := by decide +kernel
theorem dX9_arrive_54 : decode cX9_arrive 54 = .ok (.iaload, 1) := by decide +kernel
theorem dX9_arrive_55 : decode cX9_arrive 55 = .ok (.iconst 3, 1) := by decide +kernel
theorem dX9_arrive_56 : decode cX9_arrive 56 = .ok (.if_icmp .eq 10, 3) := by decide +kernel
theorem dX9_arrive_59 : decode cX9_arrive 59 = .ok (.aload_n 0, 1) := by decide +kernel
theorem dX9_arrive_60 : decode cX9_arrive 60 = .ok (.invokevirtual 68, 3) := by decide +kernel
theorem dX9_arrive_63 : decode cX9_arrive 63 = .ok (.goto 101, 3) := by decide +kernel
theorem dX9_arrive_66 : decode cX9_arrive 66 = .ok (.aload_n 0, 1) := by decide +kernel
theorem dX9_arrive_67 : decode cX9_arrive 67 = .ok (.getfield 19, 3) := by decide +kernel
theorem dX9_arrive_70 : decode cX9_arrive 70 = .ok (.aload_n 0, 1) := by decide +kernel
theorem dX9_arrive_71 : decode cX9_arrive 71 = .ok (.getfield 10, 3) := by decide +kernel
theorem dX9_arrive_74 : decode cX9_arrive 74 = .ok (.aload_n 0, 1) := by decide +kernel
theorem dX9_arrive_75 : decode cX9_arrive 75 = .ok (.getfield 26, 3) := by decide +kernel
theorem dX9_arrive_78 : decode cX9_arrive 78 = .ok (.invokevirtual 71, 3) := by decide +kernel
theorem dX9_arrive_81 : decode cX9_arrive 81 = .ok (.ifCond .eq 83, 3) := by decide +kernel
theorem dX9_arrive_84 : decode cX9_arrive 84 = .ok (.aload_n 0, 1) := by decide +kernel
theorem dX9_arrive_85 : decode cX9_arrive 85 = .ok (.getfield 26, 3) := by decide +kernel
theorem dX9_arrive_88 : decode cX9_arrive 88 = .ok (.invokevirtual 75, 3) := by decide +kernel
theorem dX9_arrive_91 : decode cX9_arrive 91 = .ok (.ifCond .eq 48, 3) := by decide +kernel
theorem dX9_arrive_94 : decode cX9_arrive 94 = .ok (.aload_n 0, 1) := by decide +kernel
theorem dX9_arrive_95 : decode cX9_arrive 95 = .ok (.getfield 26, 3) := by decide +kernel
theorem dX9_arrive_98 : decode cX9_arrive 98 = .ok (.getfield 78, 3) := by decide +kernel
theorem dX9_arrive_101 : decode cX9_arrive 101 = .ok (.iconst 0, 1) := by decide +kernel
theorem dX9_arrive_102 : decode cX9_arrive 102 = .ok (.iconst 0, 1) := by decide +kernel
theorem dX9_arrive_103 : decode cX9_arrive 103 = .ok (.iastore, 1) := by decide +kernel
theorem dX9_arrive_104 : decode cX9_arrive 104 = .ok (.aload_n 0, 1) := by decide +kernel
theorem dX9_arrive_105 : decode cX9_arrive 105 = .ok (.getfield 33, 3) := by decide +kernel
theorem dX9_arrive_108 : decode cX9_arrive 108 = .ok (.getfield 49, 3) := by decide +kernel
theorem dX9_arrive_111 : decode cX9_arrive 111 = .ok (.aload_n 0, 1) := by decide +kernel
theorem dX9_arrive_112 : decode cX9_arrive 112 = .ok (.getfield 26, 3) := by decide +kernel
theorem dX9_arrive_115 : decode cX9_arrive 115 = .ok (.getfield 81, 3) := by decide +kernel
theorem dX9_arrive_118 : decode cX9_arrive 118 = .ok (.iconst 1, 1) := by decide +kernel
theorem dX9_arrive_119 : decode cX9_arrive 119 = .ok (.aload_n 0, 1) := by decide +kernel
theorem dX9_arrive_120 : decode cX9_arrive 120 = .ok (.getfield 26, 3) := by decide +kernel
theorem dX9_arrive_123 : decode cX9_arrive 123 = .ok (.getfield 78, 3) := by decide +kernel
theorem dX9_arrive_126 : decode cX9_arrive 126 = .ok (.aload_n 0, 1) := by decide +kernel
theorem dX9_arrive_127 : decode cX9_arrive 127 = .ok (.getfield 26, 3) := by decide +kernel
theorem dX9_arrive_130 : decode cX9_arrive 130 = .ok (.getfield 84, 3) := by decide +kernel
theorem dX9_arrive_133 : decode cX9_arrive 133 = .ok (.invokevirtual 85, 3) := by decide +kernel
theorem dX9_arrive_136 : decode cX9_arrive 136 = .ok (.goto 28, 3) := by decide +kernel
theorem dX9_arrive_139 : decode cX9_arrive 139 = .ok (.aload_n 0, 1) := by decide +kernel
theorem dX9_arrive_140 : decode cX9_arrive 140 = .ok (.getfield 26, 3) := by decide +kernel
theorem dX9_arrive_143 : decode cX9_arrive 143 = .ok (.invokevirtual 89, 3) := by decide +kernel
theorem dX9_arrive_146 : decode cX9_arrive 146 = .ok (.ifCond .eq 18, 3) := by decide +kernel
theorem dX9_arrive_149 : decode cX9_arrive 149 = .ok (.aload_n 0, 1) := by decide +kernel
theorem dX9_arrive_150 : decode cX9_arrive 150 = .ok (.getfield 33, 3) := by decide +kernel
theorem dX9_arrive_153 : decode cX9_arrive 153 = .ok (.aload_n 0, 1) := by decide +kernel
theorem dX9_arrive_154 : decode cX9_arrive 154 = .ok (.getfield 26, 3) := by decide +kernel
theorem dX9_arrive_157 : decode cX9_arrive 157 = .ok (.aload_n 0, 1) := by decide +kernel
theorem dX9_arrive_158 : decode cX9_arrive 158 = .ok (.getfield 92, 3) := by decide +kernel
theorem dX9_arrive_161 : decode cX9_arrive 161 = .ok (.invokevirtual 95, 3) := by decide +kernel
theorem dX9_arrive_164 : decode cX9_arrive 164 = .ok (.aload_n 0, 1) := by decide +kernel
theorem dX9_arrive_165 : decode cX9_arrive 165 = .ok (.getfield 10, 3) := by decide +kernel
theorem dX9_arrive_168 : decode cX9_arrive 168 = .ok (.iconst 0, 1) := by decide +kernel
theorem dX9_arrive_169 : decode cX9_arrive 169 = .ok (.putfield 41, 3) := by decide +kernel
theorem dX9_arrive_172 : decode cX9_arrive 172 = .ok (.iload_n 2, 1) := by decide +kernel
theorem dX9_arrive_173 : decode cX9_arrive 173 = .ok (.ifCond .eq 18, 3) := by decide +kernel
theorem dX9_arrive_176 : decode cX9_arrive 176 = .ok (.aload_n 0, 1) := by decide +kernel
theorem dX9_arrive_177 : decode cX9_arrive 177 = .ok (.getfield 33, 3) := by decide +kernel
theorem dX9_arrive_180 : decode cX9_arrive 180 = .ok (.getfield 49, 3) := by decide +kernel
theorem dX9_arrive_183 : decode cX9_arrive 183 = .ok (.getfield 53, 3) := by decide +kernel
theorem dX9_arrive_186 : decode cX9_arrive 186 = .ok (.iload_n 1, 1) := by decide +kernel
theorem dX9_arrive_187 : decode cX9_arrive 187 = .ok (.isub, 1) := by decide +kernel
theorem dX9_arrive_188 : decode cX9_arrive 188 = .ok (.goto 4, 3) := by decide +kernel
theorem dX9_arrive_191 : decode cX9_arrive 191 = .ok (.iconst (-1), 1) := by decide +kernel
theorem dX9_arrive_192 : decode cX9_arrive 192 = .ok (.ireturn, 1) := by decide +kernel
theorem dX9_tick_0 : decode cX9_tick 0 = .ok (.iload_n 1, 1) := by decide +kernel
theorem dX9_tick_1 : decode cX9_tick 1 = .ok (.iconst 1, 1) := by decide +kernel
theorem dX9_tick_2 : decode cX9_tick 2 = .ok (.if_icmp .lt 9, 3) := by decide +kernel
theorem dX9_tick_5 : decode cX9_tick 5 = .ok (.iload_n 1, 1) := by decide +kernel
theorem dX9_tick_6 : decode cX9_tick 6 = .ok (.bipush 40, 2) := by decide +kernel
theorem dX9_tick_8 : decode cX9_tick 8 = .ok (.if_icmp .le 5, 3) := by decide +kernel
theorem dX9_tick_11 : decode cX9_tick 11 = .ok (.iconst (-1), 1) := by decide +kernel
theorem dX9_tick_12 : decode cX9_tick 12 = .ok (.ireturn, 1) := by decide +kernel
theorem dX9_tick_13 : decode cX9_tick 13 = .ok (.aload_n 0, 1) := by decide +kernel
theorem dX9_tick_14 : decode cX9_tick 14 = .ok (.getfield 33, 3) := by decide +kernel
theorem dX9_tick_17 : decode cX9_tick 17 = .ok (.getfield 49, 3) := by decide +kernel
theorem dX9_tick_20 : decode cX9_tick 20 = .ok (.getfield 53, 3) := by decide +kernel
theorem dX9_tick_23 : decode cX9_tick 23 = .ok (.istore_n 2, 1) := by decide +kernel
theorem dX9_tick_24 : decode cX9_tick 24 = .ok (.iconst 0, 1) := by decide +kernel
theorem dX9_tick_25 : decode cX9_tick 25 = .ok (.istore_n 3, 1) := by decide +kernel
theorem dX9_tick_26 : decode cX9_tick 26 = .ok (.iload_n 3, 1) := by decide +kernel
theorem dX9_tick_27 : decode cX9_tick 27 = .ok (.iload_n 1, 1) := by decide +kernel
theorem dX9_tick_28 : decode cX9_tick 28 = .ok (.if_icmp .ge 58, 3) := by decide +kernel
theorem dX9_tick_31 : decode cX9_tick 31 = .ok (.aload_n 0, 1) := by decide +kernel
theorem dX9_tick_32 : decode cX9_tick 32 = .ok (.dup, 1) := by decide +kernel
theorem dX9_tick_33 : decode cX9_tick 33 = .ok (.getfield 92, 3) := by decide +kernel
theorem dX9_tick_36 : decode cX9_tick 36 = .ok (.iconst 1, 1) := by decide +kernel
theorem dX9_tick_37 : decode cX9_tick 37 = .ok (.iadd, 1) := by decide +kernel
theorem dX9_tick_38 : decode cX9_tick 38 = .ok (.putfield 92, 3) := by decide +kernel
theorem dX9_tick_41 : decode cX9_tick 41 = .ok (.aload_n 0, 1) := by decide +kernel
theorem dX9_tick_42 : decode cX9_tick 42 = .ok (.getfield 19, 3) := by decide +kernel
theorem dX9_tick_45 : decode cX9_tick 45 = .ok (.invokevirtual 99, 3) := by decide +kernel
theorem dX9_tick_48 : decode cX9_tick 48 = .ok (.iconst 0, 1) := by decide +kernel
theorem dX9_tick_49 : decode cX9_tick 49 = .ok (.istore 4, 2) := by decide +kernel
theorem dX9_tick_51 : decode cX9_tick 51 = .ok (.iload 4, 2) := by decide +kernel
theorem dX9_tick_53 : decode cX9_tick 53 = .ok (.iconst 3, 1) := by decide +kernel
theorem dX9_tick_54 : decode cX9_tick 54 = .ok (.if_icmp .ge 26, 3) := by decide +kernel
theorem dX9_tick_57 : decode cX9_tick 57 = .ok (.aload_n 0, 1) := by decide +kernel
theorem dX9_tick_58 : decode cX9_tick 58 = .ok (.getfield 33, 3) := by decide +kernel
theorem dX9_tick_61 : decode cX9_tick 61 = .ok (.aload_n 0, 1) := by decide +kernel
theorem dX9_tick_62 : decode cX9_tick 62 = .ok (.getfield 33, 3) := by decide +kernel
theorem dX9_tick_65 : decode cX9_tick 65 = .ok (.getfield 102, 3) := by decide +kernel
theorem dX9_tick_68 : decode cX9_tick 68 = .ok (.iload 4, 2) := by decide +kernel
theorem dX9_tick_70 : decode cX9_tick 70 = .ok (.aaload, 1) := by decide +kernel
theorem dX9_tick_71 : decode cX9_tick 71 = .ok (.invokevirtual 106, 3) := by decide +kernel
theorem dX9_tick_74 : decode cX9_tick 74 = .ok (.iinc 4 1, 3) := by decide +kernel
theorem dX9_tick_77 : decode cX9_tick 77 = .ok (.goto (-26), 3) := by decide +kernel
theorem dX9_tick_80 : decode cX9_tick 80 = .ok (.iinc 3 1, 3) := by decide +kernel
theorem dX9_tick_83 : decode cX9_tick 83 = .ok (.goto (-57), 3) := by decide +kernel
theorem dX9_tick_86 : decode cX9_tick 86 = .ok (.aload_n 0, 1) := by decide +kernel
theorem dX9_tick_87 : decode cX9_tick 87 = .ok (.getfield 33, 3) := by decide +kernel
theorem dX9_tick_90 : decode cX9_tick 90 = .ok (.getfield 49, 3) := by decide +kernel
theorem dX9_tick_93 : decode cX9_tick 93 = .ok (.getfield 53, 3) := by decide +kernel
theorem dX9_tick_96 : decode cX9_tick 96 = .ok (.iload_n 2, 1) := by decide +kernel
theorem dX9_tick_97 : decode cX9_tick 97 = .ok (.isub, 1) := by decide +kernel
theorem dX9_tick_98 : decode cX9_tick 98 = .ok (.ireturn, 1) := by decide +kernel
theorem dX9_sent_0 : decode cX9_sent 0 = .ok (.aload_n 0, 1) := by decide +kernel
theorem dX9_sent_1 : decode cX9_sent 1 = .ok (.getfield 33, 3) := by decide +kernel
theorem dX9_sent_4 : decode cX9_sent 4 = .ok (.getfield 49, 3) := by decide +kernel
theorem dX9_sent_7 : decode cX9_sent 7 = .ok (.iload_n 1, 1) := by decide +kernel
theorem dX9_sent_8 : decode cX9_sent 8 = .ok (.iload_n 2, 1) := by decide +kernel
theorem dX9_sent_9 : decode cX9_sent 9 = .ok (.invokevirtual 110, 3) := by decide +kernel
theorem dX9_sent_12 : decode cX9_sent 12 = .ok (.ireturn, 1) := by decide +kernel
theorem dX9_name_0 : decode cX9_name 0 = .ok (.iload_n 1, 1) := by decide +kernel
theorem dX9_name_1 : decode cX9_name 1 = .ok (.invokestatic 114, 3) := by decide +kernel
theorem dX9_name_4 : decode cX9_name 4 = .ok (.ifCond .eq 10, 3) := by decide +kernel
theorem dX9_name_7 : decode cX9_name 7 = .ok (.iload_n 2, 1) := by decide +kernel
theorem dX9_name_8 : decode cX9_name 8 = .ok (.invokestatic 117, 3) := by decide +kernel
theorem dX9_name_11 : decode cX9_name 11 = .ok (.ifCond .ne 5, 3) := by decide +kernel
theorem dX9_name_14 : decode cX9_name 14 = .ok (.iconst (-1), 1) := by decide +kernel
theorem dX9_name_15 : decode cX9_name 15 = .ok (.ireturn, 1) := by decide +kernel
theorem dX9_name_16 : decode cX9_name 16 = .ok (.aload_n 0, 1) := by decide +kernel
theorem dX9_name_17 : decode cX9_name 17 = .ok (.getfield 33, 3) := by decide +kernel
theorem dX9_name_20 : decode cX9_name 20 = .ok (.getfield 120, 3) := by decide +kernel
theorem dX9_name_23 : decode cX9_name 23 = .ok (.getfield 124, 3) := by decide +kernel
theorem dX9_name_26 : decode cX9_name 26 = .ok (.iload_n 1, 1) := by decide +kernel
theorem dX9_name_27 : decode cX9_name 27 = .ok (.aaload, 1) := by decide +kernel
theorem dX9_name_28 : decode cX9_name 28 = .ok (.iload_n 2, 1) := by decide +kernel
theorem dX9_name_29 : decode cX9_name 29 = .ok (.invokevirtual 130, 3) := by decide +kernel
theorem dX9_name_32 : decode cX9_name 32 = .ok (.ireturn, 1) := by decide +kernel
theorem dX9_body_0 : decode cX9_body 0 = .ok (.iload_n 1, 1) := by decide +kernel
theorem dX9_body_1 : decode cX9_body 1 = .ok (.invokestatic 114, 3) := by decide +kernel
theorem dX9_body_4 : decode cX9_body 4 = .ok (.ifCond .eq 10, 3) := by decide +kernel
theorem dX9_body_7 : decode cX9_body 7 = .ok (.iload_n 2, 1) := by decide +kernel
theorem dX9_body_8 : decode cX9_body 8 = .ok (.invokestatic 37, 3) := by decide +kernel
theorem dX9_body_11 : decode cX9_body 11 = .ok (.ifCond .ne 5, 3) := by decide +kernel
theorem dX9_body_14 : decode cX9_body 14 = .ok (.iconst (-1), 1) := by decide +kernel
theorem dX9_body_15 : decode cX9_body 15 = .ok (.ireturn, 1) := by decide +kernel
theorem dX9_body_16 : decode cX9_body 16 = .ok (.aload_n 0, 1) := by decide +kernel
theorem dX9_body_17 : decode cX9_body 17 = .ok (.getfield 33, 3) := by decide +kernel
theorem dX9_body_20 : decode cX9_body 20 = .ok (.getfield 120, 3) := by decide +kernel
theorem dX9_body_23 : decode cX9_body 23 = .ok (.getfield 124, 3) := by decide +kernel
theorem dX9_body_26 : decode cX9_body 26 = .ok (.iload_n 1, 1) := by decide +kernel
theorem dX9_body_27 : decode cX9_body 27 = .ok (.aaload, 1) := by decide +kernel
theorem dX9_body_28 : decode cX9_body 28 = .ok (.iload_n 2, 1) := by decide +kernel
theorem dX9_body_29 : decode cX9_body 29 = .ok (.invokevirtual 136, 3) := by decide +kernel
theorem dX9_body_32 : decode cX9_body 32 = .ok (.ireturn, 1) := by decide +kernel
theorem dX9_spoil_0 : decode cX9_spoil 0 = .ok (.iload_n 1, 1) := by decide +kernel
theorem dX9_spoil_1 : decode cX9_spoil 1 = .ok (.invokestatic 114, 3) := by decide +kernel
theorem dX9_spoil_4 : decode cX9_spoil 4 = .ok (.ifCond .eq 10, 3) := by decide +kernel
theorem dX9_spoil_7 : decode cX9_spoil 7 = .ok (.iload_n 3, 1) := by decide +kernel
theorem dX9_spoil_8 : decode cX9_spoil 8 = .ok (.invokestatic 37, 3) := by decide +kernel
theorem dX9_spoil_11 : decode cX9_spoil 11 = .ok (.ifCond .ne 5, 3) := by decide +kernel
theorem dX9_spoil_14 : decode cX9_spoil 14 = .ok (.iconst (-1), 1) := by decide +kernel
theorem dX9_spoil_15 : decode cX9_spoil 15 = .ok (.ireturn, 1) := by decide +kernel
theorem dX9_spoil_16 : decode cX9_spoil 16 = .ok (.aload_n 0, 1) := by decide +kernel
theorem dX9_spoil_17 : decode cX9_spoil 17 = .ok (.getfield 33, 3) := by decide +kernel
theorem dX9_spoil_20 : decode cX9_spoil 20 = .ok (.getfield 120, 3) := by decide +kernel
theorem dX9_spoil_23 : decode cX9_spoil 23 = .ok (.getfield 124, 3) := by decide +kernel
theorem dX9_spoil_26 : decode cX9_spoil 26 = .ok (.iload_n 1, 1) := by decide +kernel
theorem dX9_spoil_27 : decode cX9_spoil 27 = .ok (.aaload, 1) := by decide +kernel
theorem dX9_spoil_28 : decode cX9_spoil 28 = .ok (.iload_n 2, 1) := by decide +kernel
theorem dX9_spoil_29 : decode cX9_spoil 29 = .ok (.iload_n 3, 1) := by decide +kernel
theorem dX9_spoil_30 : decode cX9_spoil 30 = .ok (.invokevirtual 139, 3) := by decide +kernel
theorem dX9_spoil_33 : decode cX9_spoil 33 = .ok (.ireturn, 1) := by decide +kernel
theorem dX9_erase_0 : decode cX9_erase 0 = .ok (.iload_n 1, 1) := by decide +kernel
theorem dX9_erase_1 : decode cX9_erase 1 = .ok (.invokestatic 114, 3) := by decide +kernel
theorem dX9_erase_4 : decode cX9_erase 4 = .ok (.ifCond .ne 5, 3) := by decide +kernel
theorem dX9_erase_7 : decode cX9_erase 7 = .ok (.iconst (-1), 1) := by decide +kernel
theorem dX9_erase_8 : decode cX9_erase 8 = .ok (.ireturn, 1) := by decide +kernel
theorem dX9_erase_9 : decode cX9_erase 9 = .ok (.aload_n 0, 1) := by decide +kernel
theorem dX9_erase_10 : decode cX9_erase 10 = .ok (.getfield 33, 3) := by decide +kernel
theorem dX9_erase_13 : decode cX9_erase 13 = .ok (.getfield 120, 3) := by decide +kernel
theorem dX9_erase_16 : decode cX9_erase 16 = .ok (.getfield 124, 3) := by decide +kernel
theorem dX9_erase_19 : decode cX9_erase 19 = .ok (.iload_n 1, 1) := by decide +kernel
theorem dX9_erase_20 : decode cX9_erase 20 = .ok (.aaload, 1) := by decide +kernel
theorem dX9_erase_21 : decode cX9_erase 21 = .ok (.invokevirtual 142, 3) := by decide +kernel
theorem dX9_erase_24 : decode cX9_erase 24 = .ok (.ireturn, 1) := by decide +kernel
theorem dX9_known_0 : decode cX9_known 0 = .ok (.iload_n 1, 1) := by decide +kernel
theorem dX9_known_1 : decode cX9_known 1 = .ok (.ifCond .lt 9, 3) := by decide +kernel
theorem dX9_known_4 : decode cX9_known 4 = .ok (.iload_n 1, 1) := by decide +kernel
theorem dX9_known_5 : decode cX9_known 5 = .ok (.bipush 16, 2) := by decide +kernel
theorem dX9_known_7 : decode cX9_known 7 = .ok (.if_icmp .lt 5, 3) := by decide +kernel
theorem dX9_known_10 : decode cX9_known 10 = .ok (.iconst (-1), 1) := by decide +kernel
theorem dX9_known_11 : decode cX9_known 11 = .ok (.ireturn, 1) := by decide +kernel
theorem dX9_known_12 : decode cX9_known 12 = .ok (.aload_n 0, 1) := by decide +kernel
theorem dX9_known_13 : decode cX9_known 13 = .ok (.getfield 33, 3) := by decide +kernel
theorem dX9_known_16 : decode cX9_known 16 = .ok (.getfield 49, 3) := by decide +kernel
theorem dX9_known_19 : decode cX9_known 19 = .ok (.getfield 146, 3) := by decide +kernel
theorem dX9_known_22 : decode cX9_known 22 = .ok (.iload_n 1, 1) := by decide +kernel
theorem dX9_known_23 : decode cX9_known 23 = .ok (.iaload, 1) := by decide +kernel
theorem dX9_known_24 : decode cX9_known 24 = .ok (.ireturn, 1) := by decide +kernel
theorem dX9_stream_0 : decode cX9_stream 0 = .ok (.iload_n 1, 1) := by decide +kernel
theorem dX9_stream_1 : decode cX9_stream 1 = .ok (.ifCond .lt 8, 3) := by decide +kernel
theorem dX9_stream_4 : decode cX9_stream 4 = .ok (.iload_n 1, 1) := by decide +kernel
theorem dX9_stream_5 : decode cX9_stream 5 = .ok (.iconst 3, 1) := by decide +kernel
theorem dX9_stream_6 : decode cX9_stream 6 = .ok (.if_icmp .lt 5, 3) := by decide +kernel
theorem dX9_stream_9 : decode cX9_stream 9 = .ok (.iconst (-1), 1) := by decide +kernel
theorem dX9_stream_10 : decode cX9_stream 10 = .ok (.ireturn, 1) := by decide +kernel
theorem dX9_stream_11 : decode cX9_stream 11 = .ok (.aload_n 0, 1) := by decide +kernel
theorem dX9_stream_12 : decode cX9_stream 12 = .ok (.getfield 33, 3) := by decide +kernel
theorem dX9_stream_15 : decode cX9_stream 15 = .ok (.getfield 102, 3) := by decide +kernel
theorem dX9_stream_18 : decode cX9_stream 18 = .ok (.iload_n 1, 1) := by decide +kernel
theorem dX9_stream_19 : decode cX9_stream 19 = .ok (.aaload, 1) := by decide +kernel
theorem dX9_stream_20 : decode cX9_stream 20 = .ok (.iload_n 2, 1) := by decide +kernel
theorem dX9_stream_21 : decode cX9_stream 21 = .ok (.invokevirtual 149, 3) := by decide +kernel
theorem dX9_stream_24 : decode cX9_stream 24 = .ok (.ireturn, 1) := by decide +kernel
theorem dX9_assembly_0 : decode cX9_assembly 0 = .ok (.iload_n 1, 1) := by decide +kernel
theorem dX9_assembly_1 : decode cX9_assembly 1 = .ok (.ifCond .lt 8, 3) := by decide +kernel
theorem dX9_assembly_4 : decode cX9_assembly 4 = .ok (.iload_n 1, 1) := by decide +kernel
theorem dX9_assembly_5 : decode cX9_assembly 5 = .ok (.iconst 2, 1) := by decide +kernel
theorem dX9_assembly_6 : decode cX9_assembly 6 = .ok (.if_icmp .lt 5, 3) := by decide +kernel
theorem dX9_assembly_9 : decode cX9_assembly 9 = .ok (.iconst (-1), 1) := by decide +kernel
theorem dX9_assembly_10 : decode cX9_assembly 10 = .ok (.ireturn, 1) := by decide +kernel
theorem dX9_assembly_11 : decode cX9_assembly 11 = .ok (.aload_n 0, 1) := by decide +kernel
theorem dX9_assembly_12 : decode cX9_assembly 12 = .ok (.getfield 19, 3) := by decide +kernel
theorem dX9_assembly_15 : decode cX9_assembly 15 = .ok (.getfield 154, 3) := by decide +kernel
theorem dX9_assembly_18 : decode cX9_assembly 18 = .ok (.iload_n 1, 1) := by decide +kernel
theorem dX9_assembly_19 : decode cX9_assembly 19 = .ok (.aaload, 1) := by decide +kernel
theorem dX9_assembly_20 : decode cX9_assembly 20 = .ok (.iload_n 2, 1) := by decide +kernel
theorem dX9_assembly_21 : decode cX9_assembly 21 = .ok (.invokevirtual 157, 3) := by decide +kernel
theorem dX9_assembly_24 : decode cX9_assembly 24 = .ok (.ireturn, 1) := by decide +kernel
theorem dX9_count_0 : decode cX9_count 0 = .ok (.iload_n 1, 1) := by decide +kernel
theorem dX9_count_1 : decode cX9_count 1 = .ok (.tableswitch 120 0 8 #[51, 56, 61, 66, 77, 88, 96, 104, 112], 51) := by decide +kernel
theorem dX9_count_52 : decode cX9_count 52 = .ok (.aload_n 0, 1) := by decide +kernel
theorem dX9_count_53 : decode cX9_count 53 = .ok (.getfield 92, 3) := by decide +kernel
theorem dX9_count_56 : decode cX9_count 56 = .ok (.ireturn, 1) := by decide +kernel
theorem dX9_count_57 : decode cX9_count 57 = .ok (.aload_n 0, 1) := by decide +kernel
theorem dX9_count_58 : decode cX9_count 58 = .ok (.getfield 62, 3) := by decide +kernel
theorem dX9_count_61 : decode cX9_count 61 = .ok (.ireturn, 1) := by decide +kernel
theorem dX9_count_62 : decode cX9_count 62 = .ok (.aload_n 0, 1) := by decide +kernel
theorem dX9_count_63 : decode cX9_count 63 = .ok (.getfield 65, 3) := by decide +kernel
theorem dX9_count_66 : decode cX9_count 66 = .ok (.ireturn, 1) := by decide +kernel
theorem dX9_count_67 : decode cX9_count 67 = .ok (.aload_n 0, 1) := by decide +kernel
theorem dX9_count_68 : decode cX9_count 68 = .ok (.getfield 33, 3) := by decide +kernel
theorem dX9_count_71 : decode cX9_count 71 = .ok (.getfield 49, 3) := by decide +kernel
theorem dX9_count_74 : decode cX9_count 74 = .ok (.getfield 53, 3) := by decide +kernel
theorem dX9_count_77 : decode cX9_count 77 = .ok (.ireturn, 1) := by decide +kernel
theorem dX9_count_78 : decode cX9_count 78 = .ok (.aload_n 0, 1) := by decide +kernel
theorem dX9_count_79 : decode cX9_count 79 = .ok (.getfield 33, 3) := by decide +kernel
theorem dX9_count_82 : decode cX9_count 82 = .ok (.getfield 49, 3) := by decide +kernel
theorem dX9_count_85 : decode cX9_count 85 = .ok (.getfield 160, 3) := by decide +kernel
theorem dX9_count_88 : decode cX9_count 88 = .ok (.ireturn, 1) := by decide +kernel
theorem dX9_count_89 : decode cX9_count 89 = .ok (.aload_n 0, 1) := by decide +kernel
theorem dX9_count_90 : decode cX9_count 90 = .ok (.getfield 33, 3) := by decide +kernel
theorem dX9_count_93 : decode cX9_count 93 = .ok (.getfield 163, 3) := by decide +kernel
theorem dX9_count_96 : decode cX9_count 96 = .ok (.ireturn, 1) := by decide +kernel
theorem dX9_count_97 : decode cX9_count 97 = .ok (.aload_n 0, 1) := by decide +kernel
theorem dX9_count_98 : decode cX9_count 98 = .ok (.getfield 33, 3) := by decide +kernel
theorem dX9_count_101 : decode cX9_count 101 = .ok (.getfield 166, 3) := by decide +kernel
theorem dX9_count_104 : decode cX9_count 104 = .ok (.ireturn, 1) := by decide +kernel
theorem dX9_count_105 : decode cX9_count 105 = .ok (.aload_n 0, 1) := by decide +kernel
theorem dX9_count_106 : decode cX9_count 106 = .ok (.getfield 10, 3) := by decide +kernel
theorem dX9_count_109 : decode cX9_count 109 = .ok (.getfield 41, 3) := by decide +kernel
theorem dX9_count_112 : decode cX9_count 112 = .ok (.ireturn, 1) := by decide +kernel
theorem dX9_count_113 : decode cX9_count 113 = .ok (.aload_n 0, 1) := by decide +kernel
theorem dX9_count_114 : decode cX9_count 114 = .ok (.getfield 33, 3) := by decide +kernel
theorem dX9_count_117 : decode cX9_count 117 = .ok (.getfield 169, 3) := by decide +kernel
theorem dX9_count_120 : decode cX9_count 120 = .ok (.ireturn, 1) := by decide +kernel
theorem dX9_count_121 : decode cX9_count 121 = .ok (.iconst (-1), 1) := by decide +kernel
theorem dX9_count_122 : decode cX9_count 122 = .ok (.ireturn, 1) := by decide +kernel
theorem dX9_meetNeighbour_0 : decode cX9_meetNeighbour 0 = .ok (.aload_n 0, 1) := by decide +kernel
theorem dX9_meetNeighbour_1 : decode cX9_meetNeighbour 1 = .ok (.getfield 10, 3) := by decide +kernel
theorem dX9_meetNeighbour_4 : decode cX9_meetNeighbour 4 = .ok (.getfield 45, 3) := by decide +kernel
theorem dX9_meetNeighbour_7 : decode cX9_meetNeighbour 7 = .ok (.astore_n 1, 1) := by decide +kernel
theorem dX9_meetNeighbour_8 : decode cX9_meetNeighbour 8 = .ok (.aload_n 1, 1) := by decide +kernel
theorem dX9_meetNeighbour_9 : decode cX9_meetNeighbour 9 = .ok (.iconst 4, 1) := by decide +kernel
theorem dX9_meetNeighbour_10 : decode cX9_meetNeighbour 10 = .ok (.iaload, 1) := by decide +kernel
theorem dX9_meetNeighbour_11 : decode cX9_meetNeighbour 11 = .ok (.iconst 1, 1) := by decide +kernel
theorem dX9_meetNeighbour_12 : decode cX9_meetNeighbour 12 = .ok (.if_icmp .eq 4, 3) := by decide +kernel
theorem dX9_meetNeighbour_15 : decode cX9_meetNeighbour 15 = .ok (.return_, 1) := by decide +kernel
theorem dX9_meetNeighbour_16 : decode cX9_meetNeighbour 16 = .ok (.aload_n 0, 1) := by decide +kernel
theorem dX9_meetNeighbour_17 : decode cX9_meetNeighbour 17 = .ok (.getfield 33, 3) := by decide +kernel
theorem dX9_meetNeighbour_20 : decode cX9_meetNeighbour 20 = .ok (.getfield 49, 3) := by decide +kernel
theorem dX9_meetNeighbour_23 : decode cX9_meetNeighbour 23 = .ok (.getfield 146, 3) := by decide +kernel
theorem dX9_meetNeighbour_26 : decode cX9_meetNeighbour 26 = .ok (.aload_n 1, 1) := by decide +kernel
theorem dX9_meetNeighbour_27 : decode cX9_meetNeighbour 27 = .ok (.iconst 3, 1) := by decide +kernel
theorem dX9_meetNeighbour_28 : decode cX9_meetNeighbour 28 = .ok (.iaload, 1) := by decide +kernel
theorem dX9_meetNeighbour_29 : decode cX9_meetNeighbour 29 = .ok (.aload_n 1, 1) := by decide +kernel
theorem dX9_meetNeighbour_30 : decode cX9_meetNeighbour 30 = .ok (.iconst 1, 1) := by decide +kernel
theorem dX9_meetNeighbour_31 : decode cX9_meetNeighbour 31 = .ok (.iaload, 1) := by decide +kernel
theorem dX9_meetNeighbour_32 : decode cX9_meetNeighbour 32 = .ok (.iastore, 1) := by decide +kernel
theorem dX9_meetNeighbour_33 : decode cX9_meetNeighbour 33 = .ok (.aload_n 1, 1) := by decide +kernel
theorem dX9_meetNeighbour_34 : decode cX9_meetNeighbour 34 = .ok (.iconst 2, 1) := by decide +kernel
theorem dX9_meetNeighbour_35 : decode cX9_meetNeighbour 35 = .ok (.iaload, 1) := by decide +kernel
theorem dX9_meetNeighbour_36 : decode cX9_meetNeighbour 36 = .ok (.iconst 1, 1) := by decide +kernel
theorem dX9_meetNeighbour_37 : decode cX9_meetNeighbour 37 = .ok (.if_icmp .ne 20, 3) := by decide +kernel
theorem dX9_meetNeighbour_40 : decode cX9_meetNeighbour 40 = .ok (.aload_n 0, 1) := by decide +kernel
theorem dX9_meetNeighbour_41 : decode cX9_meetNeighbour 41 = .ok (.getfield 33, 3) := by decide +kernel
theorem dX9_meetNeighbour_44 : decode cX9_meetNeighbour 44 = .ok (.getfield 49, 3) := by decide +kernel
theorem dX9_meetNeighbour_47 : decode cX9_meetNeighbour 47 = .ok (.aload_n 1, 1) := by decide +kernel
theorem dX9_meetNeighbour_48 : decode cX9_meetNeighbour 48 = .ok (.iconst 1, 1) := by decide +kernel
theorem dX9_meetNeighbour_49 : decode cX9_meetNeighbour 49 = .ok (.iaload, 1) := by decide +kernel
theorem dX9_meetNeighbour_50 : decode cX9_meetNeighbour 50 = .ok (.iconst 2, 1) := by decide +kernel
theorem dX9_meetNeighbour_51 : decode cX9_meetNeighbour 51 = .ok (.aload_n 1, 1) := by decide +kernel
theorem dX9_meetNeighbour_52 : decode cX9_meetNeighbour 52 = .ok (.iconst 3, 1) := by decide +kernel
theorem dX9_meetNeighbour_53 : decode cX9_meetNeighbour 53 = .ok (.iaload, 1) := by decide +kernel
theorem dX9_meetNeighbour_54 : decode cX9_meetNeighbour 54 = .ok (.invokevirtual 172, 3) := by decide +kernel
theorem dX9_meetNeighbour_57 : decode cX9_meetNeighbour 57 = .ok (.return_, 1) := by decide +kernel
theorem dX9_isOctet_0 : decode cX9_isOctet 0 = .ok (.iload_n 0, 1) := by decide +kernel
theorem dX9_isOctet_1 : decode cX9_isOctet 1 = .ok (.ifCond .lt 14, 3) := by decide +kernel
theorem dX9_isOctet_4 : decode cX9_isOctet 4 = .ok (.iload_n 0, 1) := by decide +kernel
theorem dX9_isOctet_5 : decode cX9_isOctet 5 = .ok (.sipush 255, 3) := by decide +kernel
theorem dX9_isOctet_8 : decode cX9_isOctet 8 = .ok (.if_icmp .gt 7, 3) := by decide +kernel
theorem dX9_isOctet_11 : decode cX9_isOctet 11 = .ok (.iconst 1, 1) := by decide +kernel
theorem dX9_isOctet_12 : decode cX9_isOctet 12 = .ok (.goto 4, 3) := by decide +kernel
theorem dX9_isOctet_15 : decode cX9_isOctet 15 = .ok (.iconst 0, 1) := by decide +kernel
theorem dX9_isOctet_16 : decode cX9_isOctet 16 = .ok (.ireturn, 1) := by decide +kernel
theorem dX9_isLetter_0 : decode cX9_isLetter 0 = .ok (.iload_n 0, 1) := by decide +kernel
theorem dX9_isLetter_1 : decode cX9_isLetter 1 = .ok (.bipush 97, 2) := by decide +kernel
theorem dX9_isLetter_3 : decode cX9_isLetter 3 = .ok (.if_icmp .lt 13, 3) := by decide +kernel
theorem dX9_isLetter_6 : decode cX9_isLetter 6 = .ok (.iload_n 0, 1) := by decide +kernel
theorem dX9_isLetter_7 : decode cX9_isLetter 7 = .ok (.bipush 122, 2) := by decide +kernel
theorem dX9_isLetter_9 : decode cX9_isLetter 9 = .ok (.if_icmp .gt 7, 3) := by decide +kernel
theorem dX9_isLetter_12 : decode cX9_isLetter 12 = .ok (.iconst 1, 1) := by decide +kernel
theorem dX9_isLetter_13 : decode cX9_isLetter 13 = .ok (.goto 4, 3) := by decide +kernel
theorem dX9_isLetter_16 : decode cX9_isLetter 16 = .ok (.iconst 0, 1) := by decide +kernel
theorem dX9_isLetter_17 : decode cX9_isLetter 17 = .ok (.ireturn, 1) := by decide +kernel
theorem dX9_isText_0 : decode cX9_isText 0 = .ok (.iload_n 0, 1) := by decide +kernel
theorem dX9_isText_1 : decode cX9_isText 1 = .ok (.ifCond .lt 13, 3) := by decide +kernel
theorem dX9_isText_4 : decode cX9_isText 4 = .ok (.iload_n 0, 1) := by decide +kernel
theorem dX9_isText_5 : decode cX9_isText 5 = .ok (.bipush 6, 2) := by decide +kernel
theorem dX9_isText_7 : decode cX9_isText 7 = .ok (.if_icmp .ge 7, 3) := by decide +kernel
theorem dX9_isText_10 : decode cX9_isText 10 = .ok (.iconst 1, 1) := by decide +kernel
theorem dX9_isText_11 : decode cX9_isText 11 = .ok (.goto 4, 3) := by decide +kernel
theorem dX9_isText_14 : decode cX9_isText 14 = .ok (.iconst 0, 1) := by decide +kernel
theorem dX9_isText_15 : decode cX9_isText 15 = .ok (.ireturn, 1) := by decide +kernel
theorem dX9_unitsUpTo_0 : decode cX9_unitsUpTo 0 = .ok (.iload_n 0, 1) := by decide +kernel
theorem dX9_unitsUpTo_1 : decode cX9_unitsUpTo 1 = .ok (.iconst 4, 1) := by decide +kernel
theorem dX9_unitsUpTo_2 : decode cX9_unitsUpTo 2 = .ok (.iadd, 1) := by decide +kernel
theorem dX9_unitsUpTo_3 : decode cX9_unitsUpTo 3 = .ok (.iconst 1, 1) := by decide +kernel
theorem dX9_unitsUpTo_4 : decode cX9_unitsUpTo 4 = .ok (.isub, 1) := by decide +kernel
theorem dX9_unitsUpTo_5 : decode cX9_unitsUpTo 5 = .ok (.iconst 4, 1) := by decide +kernel
theorem dX9_unitsUpTo_6 : decode cX9_unitsUpTo 6 = .ok (.idiv, 1) := by decide +kernel
theorem dX9_unitsUpTo_7 : decode cX9_unitsUpTo 7 = .ok (.istore_n 1, 1) := by decide +kernel
theorem dX9_unitsUpTo_8 : decode cX9_unitsUpTo 8 = .ok (.iconst 1, 1) := by decide +kernel
theorem dX9_unitsUpTo_9 : decode cX9_unitsUpTo 9 = .ok (.iload_n 1, 1) := by decide +kernel
theorem dX9_unitsUpTo_10 : decode cX9_unitsUpTo 10 = .ok (.ishl, 1) := by decide +kernel
theorem dX9_unitsUpTo_11 : decode cX9_unitsUpTo 11 = .ok (.iconst 1, 1) := by decide +kernel
theorem dX9_unitsUpTo_12 : decode cX9_unitsUpTo 12 = .ok (.isub, 1) := by decide +kernel
theorem dX9_unitsUpTo_13 : decode cX9_unitsUpTo 13 = .ok (.ireturn, 1) := by decide +kernel
