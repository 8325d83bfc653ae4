theorem dX9_init_0 : decode cX9_init 0 = .ok (.aload_n 0, 1) := by decide +kernel
theorem dX9_init_1 : decode cX9_init 1 = .ok (.invokespecial 1, 3) := by decide +kernel
theorem dX9_init_4 : decode cX9_init 4 = .ok (.aload_n 0, 1) := by decide +kernel
theorem dX9_init_5 : decode cX9_init 5 = .ok (.new 7, 3) := by decide +kernel
theorem dX9_init_8 : decode cX9_init 8 = .ok (.dup, 1) := by decide +kernel
theorem dX9_init_9 : decode cX9_init 9 = .ok (.invokespecial 9, 3) := by decide +kernel
theorem dX9_init_12 : decode cX9_init 12 = .ok (.putfield 10, 3) := by decide +kernel
theorem dX9_init_15 : decode cX9_init 15 = .ok (.aload_n 0, 1) := by decide +kernel
theorem dX9_init_16 : decode cX9_init 16 = .ok (.new 16, 3) := by decide +kernel
theorem dX9_init_19 : decode cX9_init 19 = .ok (.dup, 1) := by decide +kernel
theorem dX9_init_20 : decode cX9_init 20 = .ok (.invokespecial 18, 3) := by decide +kernel
theorem dX9_init_23 : decode cX9_init 23 = .ok (.putfield 19, 3) := by decide +kernel
theorem dX9_init_26 : decode cX9_init 26 = .ok (.aload_n 0, 1) := by decide +kernel
theorem dX9_init_27 : decode cX9_init 27 = .ok (.new 23, 3) := by decide +kernel
theorem dX9_init_30 : decode cX9_init 30 = .ok (.dup, 1) := by decide +kernel
theorem dX9_init_31 : decode cX9_init 31 = .ok (.invokespecial 25, 3) := by decide +kernel
theorem dX9_init_34 : decode cX9_init 34 = .ok (.putfield 26, 3) := by decide +kernel
theorem dX9_init_37 : decode cX9_init 37 = .ok (.aload_n 0, 1) := by decide +kernel
theorem dX9_init_38 : decode cX9_init 38 = .ok (.new 30, 3) := by decide +kernel
theorem dX9_init_41 : decode cX9_init 41 = .ok (.dup, 1) := by decide +kernel
theorem dX9_init_42 : decode cX9_init 42 = .ok (.invokespecial 32, 3) := by decide +kernel
theorem dX9_init_45 : decode cX9_init 45 = .ok (.putfield 33, 3) := by decide +kernel
theorem dX9_init_48 : decode cX9_init 48 = .ok (.return_, 1) := by decide +kernel
theorem dX9_octet_0 : decode cX9_octet 0 = .ok (.iload_n 1, 1) := by decide +kernel
theorem dX9_octet_1 : decode cX9_octet 1 = .ok (.invokestatic 37, 3) := by decide +kernel
theorem dX9_octet_4 : decode cX9_octet 4 = .ok (.if_ .ne 5, 3) := by decide +kernel
theorem dX9_octet_7 : decode cX9_octet 7 = .ok (.iconst (-1), 1) := by decide +kernel
theorem dX9_octet_8 : decode cX9_octet 8 = .ok (.ireturn, 1) := by decide +kernel
theorem dX9_octet_9 : decode cX9_octet 9 = .ok (.aload_n 0, 1) := by decide +kernel
theorem dX9_octet_10 : decode cX9_octet 10 = .ok (.getfield 10, 3) := by decide +kernel
theorem dX9_octet_13 : decode cX9_octet 13 = .ok (.getfield 41, 3) := by decide +kernel
theorem dX9_octet_16 : decode cX9_octet 16 = .ok (.bipush 44, 2) := by decide +kernel
theorem dX9_octet_18 : decode cX9_octet 18 = .ok (.if_icmp .lt 6, 3) := by decide +kernel
theorem dX9_octet_21 : decode cX9_octet 21 = .ok (.bipush (-2), 2) := by decide +kernel
theorem dX9_octet_23 : decode cX9_octet 23 = .ok (.ireturn, 1) := by decide +kernel
theorem dX9_octet_24 : decode cX9_octet 24 = .ok (.aload_n 0, 1) := by decide +kernel
theorem dX9_octet_25 : decode cX9_octet 25 = .ok (.getfield 10, 3) := by decide +kernel
theorem dX9_octet_28 : decode cX9_octet 28 = .ok (.getfield 45, 3) := by decide +kernel
theorem dX9_octet_31 : decode cX9_octet 31 = .ok (.aload_n 0, 1) := by decide +kernel
theorem dX9_octet_32 : decode cX9_octet 32 = .ok (.getfield 10, 3) := by decide +kernel
theorem dX9_octet_35 : decode cX9_octet 35 = .ok (.getfield 41, 3) := by decide +kernel
theorem dX9_octet_38 : decode cX9_octet 38 = .ok (.iload_n 1, 1) := by decide +kernel
theorem dX9_octet_39 : decode cX9_octet 39 = .ok (.iastore, 1) := by decide +kernel
theorem dX9_octet_40 : decode cX9_octet 40 = .ok (.aload_n 0, 1) := by decide +kernel
theorem dX9_octet_41 : decode cX9_octet 41 = .ok (.getfield 10, 3) := by decide +kernel
theorem dX9_octet_44 : decode cX9_octet 44 = .ok (.dup, 1) := by decide +kernel
theorem dX9_octet_45 : decode cX9_octet 45 = .ok (.getfield 41, 3) := by decide +kernel
theorem dX9_octet_48 : decode cX9_octet 48 = .ok (.iconst 1, 1) := by decide +kernel
theorem dX9_octet_49 : decode cX9_octet 49 = .ok (.iadd, 1) := by decide +kernel
theorem dX9_octet_50 : decode cX9_octet 50 = .ok (.putfield 41, 3) := by decide +kernel
theorem dX9_octet_53 : decode cX9_octet 53 = .ok (.aload_n 0, 1) := by decide +kernel
theorem dX9_octet_54 : decode cX9_octet 54 = .ok (.getfield 10, 3) := by decide +kernel
theorem dX9_octet_57 : decode cX9_octet 57 = .ok (.getfield 41, 3) := by decide +kernel
theorem dX9_octet_60 : decode cX9_octet 60 = .ok (.ireturn, 1) := by decide +kernel
theorem dX9_arrive_0 : decode cX9_arrive 0 = .ok (.aload_n 0, 1) := by decide +kernel
theorem dX9_arrive_1 : decode cX9_arrive 1 = .ok (.getfield 33, 3) := by decide +kernel
theorem dX9_arrive_4 : decode cX9_arrive 4 = .ok (.getfield 49, 3) := by decide +kernel
theorem dX9_arrive_7 : decode cX9_arrive 7 = .ok (.getfield 53, 3) := by decide +kernel
theorem dX9_arrive_10 : decode cX9_arrive 10 = .ok (.istore_n 1, 1) := by decide +kernel
theorem dX9_arrive_11 : decode cX9_arrive 11 = .ok (.aload_n 0, 1) := by decide +kernel
theorem dX9_arrive_12 : decode cX9_arrive 12 = .ok (.getfield 10, 3) := by decide +kernel
theorem dX9_arrive_15 : decode cX9_arrive 15 = .ok (.invokevirtual 58, 3) := by decide +kernel
theorem dX9_arrive_18 : decode cX9_arrive 18 = .ok (.istore_n 2, 1) := by decide +kernel
theorem dX9_arrive_19 : decode cX9_arrive 19 = .ok (.aload_n 0, 1) := by decide +kernel
theorem dX9_arrive_20 : decode cX9_arrive 20 = .ok (.dup, 1) := by decide +kernel
theorem dX9_arrive_21 : decode cX9_arrive 21 = .ok (.getfield 62, 3) := by decide +kernel
theorem dX9_arrive_24 : decode cX9_arrive 24 = .ok (.iconst 1, 1) := by decide +kernel
theorem dX9_arrive_25 : decode cX9_arrive 25 = .ok (.iadd, 1) := by decide +kernel
theorem dX9_arrive_26 : decode cX9_arrive 26 = .ok (.putfield 62, 3) := by decide +kernel
theorem dX9_arrive_29 : decode cX9_arrive 29 = .ok (.iload_n 2, 1) := by decide +kernel
theorem dX9_arrive_30 : decode cX9_arrive 30 = .ok (.if_ .ne 16, 3) := by decide +kernel
theorem dX9_arrive_33 : decode cX9_arrive 33 = .ok (.aload_n 0, 1) := by decide +kernel
theorem dX9_arrive_34 : decode cX9_arrive 34 = .ok (.dup, 1) := by decide +kernel
theorem dX9_arrive_35 : decode cX9_arrive 35 = .ok (.getfield 65, 3) := by decide +kernel
theorem dX9_arrive_38 : decode cX9_arrive 38 = .ok (.iconst 1, 1) := by decide +kernel
theorem dX9_arrive_39 : decode cX9_arrive 39 = .ok (.iadd, 1) := by decide +kernel
theorem dX9_arrive_40 : decode cX9_arrive 40 = .ok (.putfield 65, 3) := by decide +kernel
theorem dX9_arrive_43 : decode cX9_arrive 43 = .ok (.goto 121, 3) := by decide +kernel
theorem dX9_arrive_46 : decode cX9_arrive 46 = .ok (.aload_n 0, 1) := by decide +kernel
theorem dX9_arrive_47 : decode cX9_arrive 47 = .ok (.getfield 10, 3) := by decide +kernel
theorem dX9_arrive_50 : decode cX9_arrive 50 = .ok (.getfield 45, 3) := by decide +kernel
theorem dX9_arrive_53 : decode cX9_arrive 53 = .ok (.iconst 2, 1) := by decide +kernel
theorem dX9_arrive_54 : decode cX9_arrive 54 = .ok (.iaload, 1) := by decide +kernel
theorem dX9_arrive_55 : decode cX9_arrive 55 = .ok (.iconst 3, 1) := by decide +kernel
theorem dX9_arrive_56 : decode cX9_arrive 56 = .ok (.if_icmp .eq 10, 3) := by decide +kernel
theorem dX9_arrive_59 : decode cX9_arrive 59 = .ok (.aload_n 0, 1) := by decide +kernel
theorem dX9_arrive_60 : decode cX9_arrive 60 = .ok (.invokevirtual 68, 3) := by decide +kernel
theorem dX9_arrive_63 : decode cX9_arrive 63 = .ok (.goto 101, 3) := by decide +kernel
theorem dX9_arrive_66 : decode cX9_arrive 66 = .ok (.aload_n 0, 1) := by decide +kernel
theorem dX9_arrive_67 : decode cX9_arrive 67 = .ok (.getfield 19, 3) := by decide +kernel
theorem dX9_arrive_70 : decode cX9_arrive 70 = .ok (.aload_n 0, 1) := by decide +kernel
theorem dX9_arrive_71 : decode cX9_arrive 71 = .ok (.getfield 10, 3) := by decide +kernel
theorem dX9_arrive_74 : decode cX9_arrive 74 = .ok (.aload_n 0, 1) := by decide +kernel
theorem dX9_arrive_75 : decode cX9_arrive 75 = .ok (.getfield 26, 3) := by decide +kernel
theorem dX9_arrive_78 : decode cX9_arrive 78 = .ok (.invokevirtual 71, 3) := by decide +kernel
theorem dX9_arrive_81 : decode cX9_arrive 81 = .ok (.if_ .eq 83, 3) := by decide +kernel
theorem dX9_arrive_84 : decode cX9_arrive 84 = .ok (.aload_n 0, 1) := by decide +kernel
theorem dX9_arrive_85 : decode cX9_arrive 85 = .ok (.getfield 26, 3) := by decide +kernel
theorem dX9_arrive_88 : decode cX9_arrive 88 = .ok (.invokevirtual 75, 3) := by decide +kernel
theorem dX9_arrive_91 : decode cX9_arrive 91 = .ok (.if_ .eq 48, 3) := by decide +kernel
theorem dX9_arrive_94 : decode cX9_arrive 94 = .ok (.aload_n 0, 1) := by decide +kernel
theorem dX9_arrive_95 : decode cX9_arrive 95 = .ok (.getfield 26, 3) := by decide +kernel
theorem dX9_arrive_98 : decode cX9_arrive 98 = .ok (.getfield 78, 3) := by decide +kernel
theorem dX9_arrive_101 : decode cX9_arrive 101 = .ok (.iconst 0, 1) := by decide +kernel
theorem dX9_arrive_102 : decode cX9_arrive 102 = .ok (.iconst 0, 1) := by decide +kernel
theorem dX9_arrive_103 : decode cX9_arrive 103 = .ok (.iastore, 1) := by decide +kernel
theorem dX9_arrive_104 : decode cX9_arrive 104 = .ok (.aload_n 0, 1) := by decide +kernel
theorem dX9_arrive_105 : decode cX9_arrive 105 = .ok (.getfield 33, 3) := by decide +kernel
theorem dX9_arrive_108 : decode cX9_arrive 108 = .ok (.getfield 49, 3) := by decide +kernel
theorem dX9_arrive_111 : decode cX9_arrive 111 = .ok (.aload_n 0, 1) := by decide +kernel
theorem dX9_arrive_112 : decode cX9_arrive 112 = .ok (.getfield 26, 3) := by decide +kernel
theorem dX9_arrive_115 : decode cX9_arrive 115 = .ok (.getfield 81, 3) := by decide +kernel
theorem dX9_arrive_118 : decode cX9_arrive 118 = .ok (.iconst 1, 1) := by decide +kernel
theorem dX9_arrive_119 : decode cX9_arrive 119 = .ok (.aload_n 0, 1) := by decide +kernel
theorem dX9_arrive_120 : decode cX9_arrive 120 = .ok (.getfield 26, 3) := by decide +kernel
theorem dX9_arrive_123 : decode cX9_arrive 123 = .ok (.getfield 78, 3) := by decide +kernel
theorem dX9_arrive_126 : decode cX9_arrive 126 = .ok (.aload_n 0, 1) := by decide +kernel
theorem dX9_arrive_127 : decode cX9_arrive 127 = .ok (.getfield 26, 3) := by decide +kernel
theorem dX9_arrive_130 : decode cX9_arrive 130 = .ok (.getfield 84, 3) := by decide +kernel
theorem dX9_arrive_133 : decode cX9_arrive 133 = .ok (.invokevirtual 85, 3) := by decide +kernel
theorem dX9_arrive_136 : decode cX9_arrive 136 = .ok (.goto 28, 3) := by decide +kernel
theorem dX9_arrive_139 : decode cX9_arrive 139 = .ok (.aload_n 0, 1) := by decide +kernel
theorem dX9_arrive_140 : decode cX9_arrive 140 = .ok (.getfield 26, 3) := by decide +kernel
theorem dX9_arrive_143 : decode cX9_arrive 143 = .ok (.invokevirtual 89, 3) := by decide +kernel
theorem dX9_arrive_146 : decode cX9_arrive 146 = .ok (.if_ .eq 18, 3) := by decide +kernel
theorem dX9_arrive_149 : decode cX9_arrive 149 = .ok (.aload_n 0, 1) := by decide +kernel
theorem dX9_arrive_150 : decode cX9_arrive 150 = .ok (.getfield 33, 3) := by decide +kernel
theorem dX9_arrive_153 : decode cX9_arrive 153 = .ok (.aload_n 0, 1) := by decide +kernel
theorem dX9_arrive_154 : decode cX9_arrive 154 = .ok (.getfield 26, 3) := by decide +kernel
theorem dX9_arrive_157 : decode cX9_arrive 157 = .ok (.aload_n 0, 1) := by decide +kernel
theorem dX9_arrive_158 : decode cX9_arrive 158 = .ok (.getfield 92, 3) := by decide +kernel
theorem dX9_arrive_161 : decode cX9_arrive 161 = .ok (.invokevirtual 95, 3) := by decide +kernel
theorem dX9_arrive_164 : decode cX9_arrive 164 = .ok (.aload_n 0, 1) := by decide +kernel
theorem dX9_arrive_165 : decode cX9_arrive 165 = .ok (.getfield 10, 3) := by decide +kernel
theorem dX9_arrive_168 : decode cX9_arrive 168 = .ok (.iconst 0, 1) := by decide +kernel
theorem dX9_arrive_169 : decode cX9_arrive 169 = .ok (.putfield 41, 3) := by decide +kernel
theorem dX9_arrive_172 : decode cX9_arrive 172 = .ok (.iload_n 2, 1) := by decide +kernel
theorem dX9_arrive_173 : decode cX9_arrive 173 = .ok (.if_ .eq 18, 3) := by decide +kernel
theorem dX9_arrive_176 : decode cX9_arrive 176 = .ok (.aload_n 0, 1) := by decide +kernel
theorem dX9_arrive_177 : decode cX9_arrive 177 = .ok (.getfield 33, 3) := by decide +kernel
theorem dX9_arrive_180 : decode cX9_arrive 180 = .ok (.getfield 49, 3) := by decide +kernel
theorem dX9_arrive_183 : decode cX9_arrive 183 = .ok (.getfield 53, 3) := by decide +kernel
theorem dX9_arrive_186 : decode cX9_arrive 186 = .ok (.iload_n 1, 1) := by decide +kernel
theorem dX9_arrive_187 : decode cX9_arrive 187 = .ok (.isub, 1) := by decide +kernel
theorem dX9_arrive_188 : decode cX9_arrive 188 = .ok (.goto 4, 3) := by decide +kernel
theorem dX9_arrive_191 : decode cX9_arrive 191 = .ok (.iconst (-1), 1) := by decide +kernel
theorem dX9_arrive_192 : decode cX9_arrive 192 = .ok (.ireturn, 1) := by decide +kernel
theorem dX9_tick_0 : decode cX9_tick 0 = .ok (.iload_n 1, 1) := by decide +kernel
theorem dX9_tick_1 : decode cX9_tick 1 = .ok (.iconst 1, 1) := by decide +kernel
theorem dX9_tick_2 : decode cX9_tick 2 = .ok (.if_icmp .lt 9, 3) := by decide +kernel
theorem dX9_tick_5 : decode cX9_tick 5 = .ok (.iload_n 1, 1) := by decide +kernel
theorem dX9_tick_6 : decode cX9_tick 6 = .ok (.bipush 40, 2) := by decide +kernel
theorem dX9_tick_8 : decode cX9_tick 8 = .ok (.if_icmp .le 5, 3) := by decide +kernel
theorem dX9_tick_11 : decode cX9_tick 11 = .ok (.iconst (-1), 1) := by decide +kernel
theorem dX9_tick_12 : decode cX9_tick 12 = .ok (.ireturn, 1) := by decide +kernel
theorem dX9_tick_13 : decode cX9_tick 13 = .ok (.aload_n 0, 1) := by decide +kernel
theorem dX9_tick_14 : decode cX9_tick 14 = .ok (.getfield 33, 3) := by decide +kernel
theorem dX9_tick_17 : decode cX9_tick 17 = .ok (.getfield 49, 3) := by decide +kernel
theorem dX9_tick_20 : decode cX9_tick 20 = .ok (.getfield 53, 3) := by decide +kernel
theorem dX9_tick_23 : decode cX9_tick 23 = .ok (.istore_n 2, 1) := by decide +kernel
theorem dX9_tick_24 : decode cX9_tick 24 = .ok (.iconst 0, 1) := by decide +kernel
theorem dX9_tick_25 : decode cX9_tick 25 = .ok (.istore_n 3, 1) := by decide +kernel
theorem dX9_tick_26 : decode cX9_tick 26 = .ok (.iload_n 3, 1) := by decide +kernel
theorem dX9_tick_27 : decode cX9_tick 27 = .ok (.iload_n 1, 1) := by decide +kernel
theorem dX9_tick_28 : decode cX9_tick 28 = .ok (.if_icmp .ge 58, 3) := by decide +kernel
theorem dX9_tick_31 : decode cX9_tick 31 = .ok (.aload_n 0, 1) := by decide +kernel
theorem dX9_tick_32 : decode cX9_tick 32 = .ok (.dup, 1) := by decide +kernel
theorem dX9_tick_33 : decode cX9_tick 33 = .ok (.getfield 92, 3) := by decide +kernel
theorem dX9_tick_36 : decode cX9_tick 36 = .ok (.iconst 1, 1) := by decide +kernel
theorem dX9_tick_37 : decode cX9_tick 37 = .ok (.iadd, 1) := by decide +kernel
theorem dX9_tick_38 : decode cX9_tick 38 = .ok (.putfield 92, 3) := by decide +kernel
theorem dX9_tick_41 : decode cX9_tick 41 = .ok (.aload_n 0, 1) := by decide +kernel
theorem dX9_tick_42 : decode cX9_tick 42 = .ok (.getfield 19, 3) := by decide +kernel
theorem dX9_tick_45 : decode cX9_tick 45 = .ok (.invokevirtual 99, 3) := by decide +kernel
theorem dX9_tick_48 : decode cX9_tick 48 = .ok (.iconst 0, 1) := by decide +kernel
theorem dX9_tick_49 : decode cX9_tick 49 = .ok (.istore 4, 2) := by decide +kernel
theorem dX9_tick_51 : decode cX9_tick 51 = .ok (.iload 4, 2) := by decide +kernel
theorem dX9_tick_53 : decode cX9_tick 53 = .ok (.iconst 3, 1) := by decide +kernel
theorem dX9_tick_54 : decode cX9_tick 54 = .ok (.if_icmp .ge 26, 3) := by decide +kernel
theorem dX9_tick_57 : decode cX9_tick 57 = .ok (.aload_n 0, 1) := by decide +kernel
theorem dX9_tick_58 : decode cX9_tick 58 = .ok (.getfield 33, 3) := by decide +kernel
theorem dX9_tick_61 : decode cX9_tick 61 = .ok (.aload_n 0, 1) := by decide +kernel
theorem dX9_tick_62 : decode cX9_tick 62 = .ok (.getfield 33, 3) := by decide +kernel
theorem dX9_tick_65 : decode cX9_tick 65 = .ok (.getfield 102, 3) := by decide +kernel
theorem dX9_tick_68 : decode cX9_tick 68 = .ok (.iload 4, 2) := by decide +kernel
theorem dX9_tick_70 : decode cX9_tick 70 = .ok (.aaload, 1) := by decide +kernel
theorem dX9_tick_71 : decode cX9_tick 71 = .ok (.invokevirtual 106, 3) := by decide +kernel
theorem dX9_tick_74 : decode cX9_tick 74 = .ok (.iinc 4 1, 3) := by decide +kernel
theorem dX9_tick_77 : decode cX9_tick 77 = .ok (.goto (-26), 3) := by decide +kernel
theorem dX9_tick_80 : decode cX9_tick 80 = .ok (.iinc 3 1, 3) := by decide +kernel
theorem dX9_tick_83 : decode cX9_tick 83 = .ok (.goto (-57), 3) := by decide +kernel
theorem dX9_tick_86 : decode cX9_tick 86 = .ok (.aload_n 0, 1) := by decide +kernel
theorem dX9_tick_87 : decode cX9_tick 87 = .ok (.getfield 33, 3) := by decide +kernel
theorem dX9_tick_90 : decode cX9_tick 90 = .ok (.getfield 49, 3) := by decide +kernel
theorem dX9_tick_93 : decode cX9_tick 93 = .ok (.getfield 53, 3) := by decide +kernel
theorem dX9_tick_96 : decode cX9_tick 96 = .ok (.iload_n 2, 1) := by decide +kernel
theorem dX9_tick_97 : decode cX9_tick 97 = .ok (.isub, 1) := by decide +kernel
theorem dX9_tick_98 : decode cX9_tick 98 = .ok (.ireturn, 1) := by decide +kernel
theorem dX9_sent_0 : decode cX9_sent 0 = .ok (.aload_n 0, 1) := by decide +kernel
theorem dX9_sent_1 : decode cX9_sent 1 = .ok (.getfield 33, 3) := by decide +kernel
theorem dX9_sent_4 : decode cX9_sent 4 = .ok (.getfield 49, 3) := by decide +kernel
theorem dX9_sent_7 : decode cX9_sent 7 = .ok (.iload_n 1, 1) := by decide +kernel
theorem dX9_sent_8 : decode cX9_sent 8 = .ok (.iload_n 2, 1) := by decide +kernel
theorem dX9_sent_9 : decode cX9_sent 9 = .ok (.invokevirtual 110, 3) := by decide +kernel
theorem dX9_sent_12 : decode cX9_sent 12 = .ok (.ireturn, 1) := by decide +kernel
theorem dX9_name_0 : decode cX9_name 0 = .ok (.iload_n 1, 1) := by decide +kernel
theorem dX9_name_1 : decode cX9_name 1 = .ok (.invokestatic 114, 3) := by decide +kernel
theorem dX9_name_4 : decode cX9_name 4 = .ok (.if_ .eq 10, 3) := by decide +kernel
theorem dX9_name_7 : decode cX9_name 7 = .ok (.iload_n 2, 1) := by decide +kernel
theorem dX9_name_8 : decode cX9_name 8 = .ok (.invokestatic 117, 3) := by decide +kernel
theorem dX9_name_11 : decode cX9_name 11 = .ok (.if_ .ne 5, 3) := by decide +kernel
theorem dX9_name_14 : decode cX9_name 14 = .ok (.iconst (-1), 1) := by decide +kernel
theorem dX9_name_15 : decode cX9_name 15 = .ok (.ireturn, 1) := by decide +kernel
theorem dX9_name_16 : decode cX9_name 16 = .ok (.aload_n 0, 1) := by decide +kernel
theorem dX9_name_17 : decode cX9_name 17 = .ok (.getfield 33, 3) := by decide +kernel
theorem dX9_name_20 : decode cX9_name 20 = .ok (.getfield 120, 3) := by decide +kernel
theorem dX9_name_23 : decode cX9_name 23 = .ok (.getfield 124, 3) := by decide +kernel
theorem dX9_name_26 : decode cX9_name 26 = .ok (.iload_n 1, 1) := by decide +kernel
theorem dX9_name_27 : decode cX9_name 27 = .ok (.aaload, 1) := by decide +kernel
theorem dX9_name_28 : decode cX9_name 28 = .ok (.iload_n 2, 1) := by decide +kernel
theorem dX9_name_29 : decode cX9_name 29 = .ok (.invokevirtual 130, 3) := by decide +kernel
theorem dX9_name_32 : decode cX9_name 32 = .ok (.ireturn, 1) := by decide +kernel
theorem dX9_body_0 : decode cX9_body 0 = .ok (.iload_n 1, 1) := by decide +kernel
theorem dX9_body_1 : decode cX9_body 1 = .ok (.invokestatic 114, 3) := by decide +kernel
theorem dX9_body_4 : decode cX9_body 4 = .ok (.if_ .eq 10, 3) := by decide +kernel
theorem dX9_body_7 : decode cX9_body 7 = .ok (.iload_n 2, 1) := by decide +kernel
theorem dX9_body_8 : decode cX9_body 8 = .ok (.invokestatic 37, 3) := by decide +kernel
theorem dX9_body_11 : decode cX9_body 11 = .ok (.if_ .ne 5, 3) := by decide +kernel
theorem dX9_body_14 : decode cX9_body 14 = .ok (.iconst (-1), 1) := by decide +kernel
theorem dX9_body_15 : decode cX9_body 15 = .ok (.ireturn, 1) := by decide +kernel
theorem dX9_body_16 : decode cX9_body 16 = .ok (.aload_n 0, 1) := by decide +kernel
theorem dX9_body_17 : decode cX9_body 17 = .ok (.getfield 33, 3) := by decide +kernel
theorem dX9_body_20 : decode cX9_body 20 = .ok (.getfield 120, 3) := by decide +kernel
theorem dX9_body_23 : decode cX9_body 23 = .ok (.getfield 124, 3) := by decide +kernel
theorem dX9_body_26 : decode cX9_body 26 = .ok (.iload_n 1, 1) := by decide +kernel
theorem dX9_body_27 : decode cX9_body 27 = .ok (.aaload, 1) := by decide +kernel
theorem dX9_body_28 : decode cX9_body 28 = .ok (.iload_n 2, 1) := by decide +kernel
theorem dX9_body_29 : decode cX9_body 29 = .ok (.invokevirtual 136, 3) := by decide +kernel
theorem dX9_body_32 : decode cX9_body 32 = .ok (.ireturn, 1) := by decide +kernel
theorem dX9_spoil_0 : decode cX9_spoil 0 = .ok (.iload_n 1, 1) := by decide +kernel
theorem dX9_spoil_1 : decode cX9_spoil 1 = .ok (.invokestatic 114, 3) := by decide +kernel
theorem dX9_spoil_4 : decode cX9_spoil 4 = .ok (.if_ .eq 10, 3) := by decide +kernel
theorem dX9_spoil_7 : decode cX9_spoil 7 = .ok (.iload_n 3, 1) := by decide +kernel
theorem dX9_spoil_8 : decode cX9_spoil 8 = .ok (.invokestatic 37, 3) := by decide +kernel
theorem dX9_spoil_11 : decode cX9_spoil 11 = .ok (.if_ .ne 5, 3) := by decide +kernel
theorem dX9_spoil_14 : decode cX9_spoil 14 = .ok (.iconst (-1), 1) := by decide +kernel
theorem dX9_spoil_15 : decode cX9_spoil 15 = .ok (.ireturn, 1) := by decide +kernel
theorem dX9_spoil_16 : decode cX9_spoil 16 = .ok (.aload_n 0, 1) := by decide +kernel
theorem dX9_spoil_17 : decode cX9_spoil 17 = .ok (.getfield 33, 3) := by decide +kernel
theorem dX9_spoil_20 : decode cX9_spoil 20 = .ok (.getfield 120, 3) := by decide +kernel
theorem dX9_spoil_23 : decode cX9_spoil 23 = .ok (.getfield 124, 3) := by decide +kernel
theorem dX9_spoil_26 : decode cX9_spoil 26 = .ok (.iload_n 1, 1) := by decide +kernel
theorem dX9_spoil_27 : decode cX9_spoil 27 = .ok (.aaload, 1) := by decide +kernel
theorem dX9_spoil_28 : decode cX9_spoil 28 = .ok (.iload_n 2, 1) := by decide +kernel
theorem dX9_spoil_29 : decode cX9_spoil 29 = .ok (.iload_n 3, 1) := by decide +kernel
theorem dX9_spoil_30 : decode cX9_spoil 30 = .ok (.invokevirtual 139, 3) := by decide +kernel
theorem dX9_spoil_33 : decode cX9_spoil 33 = .ok (.ireturn, 1) := by decide +kernel
theorem dX9_erase_0 : decode cX9_erase 0 = .ok (.iload_n 1, 1) := by decide +kernel
theorem dX9_erase_1 : decode cX9_erase 1 = .ok (.invokestatic 114, 3) := by decide +kernel
theorem dX9_erase_4 : decode cX9_erase 4 = .ok (.if_ .ne 5, 3) := by decide +kernel
theorem dX9_erase_7 : decode cX9_erase 7 = .ok (.iconst (-1), 1) := by decide +kernel
theorem dX9_erase_8 : decode cX9_erase 8 = .ok (.ireturn, 1) := by decide +kernel
theorem dX9_erase_9 : decode cX9_erase 9 = .ok (.aload_n 0, 1) := by decide +kernel
theorem dX9_erase_10 : decode cX9_erase 10 = .ok (.getfield 33, 3) := by decide +kernel
theorem dX9_erase_13 : decode cX9_erase 13 = .ok (.getfield 120, 3) := by decide +kernel
theorem dX9_erase_16 : decode cX9_erase 16 = .ok (.getfield 124, 3) := by decide +kernel
theorem dX9_erase_19 : decode cX9_erase 19 = .ok (.iload_n 1, 1) := by decide +kernel
theorem dX9_erase_20 : decode cX9_erase 20 = .ok (.aaload, 1) := by decide +kernel
theorem dX9_erase_21 : decode cX9_erase 21 = .ok (.invokevirtual 142, 3) := by decide +kernel
theorem dX9_erase_24 : decode cX9_erase 24 = .ok (.ireturn, 1) := by decide +kernel
theorem dX9_known_0 : decode cX9_known 0 = .ok (.iload_n 1, 1) := by decide +kernel
theorem dX9_known_1 : decode cX9_known 1 = .ok (.if_ .lt 9, 3) := by decide +kernel
theorem dX9_known_4 : decode cX9_known 4 = .ok (.iload_n 1, 1) := by decide +kernel
theorem dX9_known_5 : decode cX9_known 5 = .ok (.bipush 16, 2) := by decide +kernel
theorem dX9_known_7 : decode cX9_known 7 = .ok (.if_icmp .lt 5, 3) := by decide +kernel
theorem dX9_known_10 : decode cX9_known 10 = .ok (.iconst (-1), 1) := by decide +kernel
theorem dX9_known_11 : decode cX9_known 11 = .ok (.ireturn, 1) := by decide +kernel
theorem dX9_known_12 : decode cX9_known 12 = .ok (.aload_n 0, 1) := by decide +kernel
theorem dX9_known_13 : decode cX9_known 13 = .ok (.getfield 33, 3) := by decide +kernel
theorem dX9_known_16 : decode cX9_known 16 = .ok (.getfield 49, 3) := by decide +kernel
theorem dX9_known_19 : decode cX9_known 19 = .ok (.getfield 146, 3) := by decide +kernel
theorem dX9_known_22 : decode cX9_known 22 = .ok (.iload_n 1, 1) := by decide +kernel
theorem dX9_known_23 : decode cX9_known 23 = .ok (.iaload, 1) := by decide +kernel
theorem dX9_known_24 : decode cX9_known 24 = .ok (.ireturn, 1) := by decide +kernel
theorem dX9_stream_0 : decode cX9_stream 0 = .ok (.iload_n 1, 1) := by decide +kernel
theorem dX9_stream_1 : decode cX9_stream 1 = .ok (.if_ .lt 8, 3) := by decide +kernel
theorem dX9_stream_4 : decode cX9_stream 4 = .ok (.iload_n 1, 1) := by decide +kernel
theorem dX9_stream_5 : decode cX9_stream 5 = .ok (.iconst 3, 1) := by decide +kernel
theorem dX9_stream_6 : decode cX9_stream 6 = .ok (.if_icmp .lt 5, 3) := by decide +kernel
theorem dX9_stream_9 : decode cX9_stream 9 = .ok (.iconst (-1), 1) := by decide +kernel
theorem dX9_stream_10 : decode cX9_stream 10 = .ok (.ireturn, 1) := by decide +kernel
theorem dX9_stream_11 : decode cX9_stream 11 = .ok (.aload_n 0, 1) := by decide +kernel
theorem dX9_stream_12 : decode cX9_stream 12 = .ok (.getfield 33, 3) := by decide +kernel
theorem dX9_stream_15 : decode cX9_stream 15 = .ok (.getfield 102, 3) := by decide +kernel
theorem dX9_stream_18 : decode cX9_stream 18 = .ok (.iload_n 1, 1) := by decide +kernel
theorem dX9_stream_19 : decode cX9_stream 19 = .ok (.aaload, 1) := by decide +kernel
theorem dX9_stream_20 : decode cX9_stream 20 = .ok (.iload_n 2, 1) := by decide +kernel
theorem dX9_stream_21 : decode cX9_stream 21 = .ok (.invokevirtual 149, 3) := by decide +kernel
theorem dX9_stream_24 : decode cX9_stream 24 = .ok (.ireturn, 1) := by decide +kernel
theorem dX9_assembly_0 : decode cX9_assembly 0 = .ok (.iload_n 1, 1) := by decide +kernel
theorem dX9_assembly_1 : decode cX9_assembly 1 = .ok (.if_ .lt 8, 3) := by decide +kernel
theorem dX9_assembly_4 : decode cX9_assembly 4 = .ok (.iload_n 1, 1) := by decide +kernel
theorem dX9_assembly_5 : decode cX9_assembly 5 = .ok (.iconst 2, 1) := by decide +kernel
theorem dX9_assembly_6 : decode cX9_assembly 6 = .ok (.if_icmp .lt 5, 3) := by decide +kernel
theorem dX9_assembly_9 : decode cX9_assembly 9 = .ok (.iconst (-1), 1) := by decide +kernel
theorem dX9_assembly_10 : decode cX9_assembly 10 = .ok (.ireturn, 1) := by decide +kernel
theorem dX9_assembly_11 : decode cX9_assembly 11 = .ok (.aload_n 0, 1) := by decide +kernel
theorem dX9_assembly_12 : decode cX9_assembly 12 = .ok (.getfield 19, 3) := by decide +kernel
theorem dX9_assembly_15 : decode cX9_assembly 15 = .ok (.getfield 154, 3) := by decide +kernel
theorem dX9_assembly_18 : decode cX9_assembly 18 = .ok (.iload_n 1, 1) := by decide +kernel
theorem dX9_assembly_19 : decode cX9_assembly 19 = .ok (.aaload, 1) := by decide +kernel
theorem dX9_assembly_20 : decode cX9_assembly 20 = .ok (.iload_n 2, 1) := by decide +kernel
theorem dX9_assembly_21 : decode cX9_assembly 21 = .ok (.invokevirtual 157, 3) := by decide +kernel
theorem dX9_assembly_24 : decode cX9_assembly 24 = .ok (.ireturn, 1) := by decide +kernel
theorem dX9_count_0 : decode cX9_count 0 = .ok (.iload_n 1, 1) := by decide +kernel
theorem dX9_count_1 : decode cX9_count 1 = .ok (.tableswitch 120 0 8 #[51, 56, 61, 66, 77, 88, 96, 104, 112], 51) := by decide +kernel
theorem dX9_count_52 : decode cX9_count 52 = .ok (.aload_n 0, 1) := by decide +kernel
theorem dX9_count_53 : decode cX9_count 53 = .ok (.getfield 92, 3) := by decide +kernel
theorem dX9_count_56 : decode cX9_count 56 = .ok (.ireturn, 1) := by decide +kernel
theorem dX9_count_57 : decode cX9_count 57 = .ok (.aload_n 0, 1) := by decide +kernel
theorem dX9_count_58 : decode cX9_count 58 = .ok (.getfield 62, 3) := by decide +kernel
theorem dX9_count_61 : decode cX9_count 61 = .ok (.ireturn, 1) := by decide +kernel
theorem dX9_count_62 : decode cX9_count 62 = .ok (.aload_n 0, 1) := by decide +kernel
theorem dX9_count_63 : decode cX9_count 63 = .ok (.getfield 65, 3) := by decide +kernel
theorem dX9_count_66 : decode cX9_count 66 = .ok (.ireturn, 1) := by decide +kernel
theorem dX9_count_67 : decode cX9_count 67 = .ok (.aload_n 0, 1) := by decide +kernel
theorem dX9_count_68 : decode cX9_count 68 = .ok (.getfield 33, 3) := by decide +kernel
theorem dX9_count_71 : decode cX9_count 71 = .ok (.getfield 49, 3) := by decide +kernel
theorem dX9_count_74 : decode cX9_count 74 = .ok (.getfield 53, 3) := by decide +kernel
theorem dX9_count_77 : decode cX9_count 77 = .ok (.ireturn, 1) := by decide +kernel
theorem dX9_count_78 : decode cX9_count 78 = .ok (.aload_n 0, 1) := by decide +kernel
theorem dX9_count_79 : decode cX9_count 79 = .ok (.getfield 33, 3) := by decide +kernel
theorem dX9_count_82 : decode cX9_count 82 = .ok (.getfield 49, 3) := by decide +kernel
theorem dX9_count_85 : decode cX9_count 85 = .ok (.getfield 160, 3) := by decide +kernel
theorem dX9_count_88 : decode cX9_count 88 = .ok (.ireturn, 1) := by decide +kernel
theorem dX9_count_89 : decode cX9_count 89 = .ok (.aload_n 0, 1) := by decide +kernel
theorem dX9_count_90 : decode cX9_count 90 = .ok (.getfield 33, 3) := by decide +kernel
theorem dX9_count_93 : decode cX9_count 93 = .ok (.getfield 163, 3) := by decide +kernel
theorem dX9_count_96 : decode cX9_count 96 = .ok (.ireturn, 1) := by decide +kernel
theorem dX9_count_97 : decode cX9_count 97 = .ok (.aload_n 0, 1) := by decide +kernel
theorem dX9_count_98 : decode cX9_count 98 = .ok (.getfield 33, 3) := by decide +kernel
theorem dX9_count_101 : decode cX9_count 101 = .ok (.getfield 166, 3) := by decide +kernel
theorem dX9_count_104 : decode cX9_count 104 = .ok (.ireturn, 1) := by decide +kernel
theorem dX9_count_105 : decode cX9_count 105 = .ok (.aload_n 0, 1) := by decide +kernel
theorem dX9_count_106 : decode cX9_count 106 = .ok (.getfield 10, 3) := by decide +kernel
theorem dX9_count_109 : decode cX9_count 109 = .ok (.getfield 41, 3) := by decide +kernel
theorem dX9_count_112 : decode cX9_count 112 = .ok (.ireturn, 1) := by decide +kernel
theorem dX9_count_113 : decode cX9_count 113 = .ok (.aload_n 0, 1) := by decide +kernel
theorem dX9_count_114 : decode cX9_count 114 = .ok (.getfield 33, 3) := by decide +kernel
theorem dX9_count_117 : decode cX9_count 117 = .ok (.getfield 169, 3) := by decide +kernel
theorem dX9_count_120 : decode cX9_count 120 = .ok (.ireturn, 1) := by decide +kernel
theorem dX9_count_121 : decode cX9_count 121 = .ok (.iconst (-1), 1) := by decide +kernel
theorem dX9_count_122 : decode cX9_count 122 = .ok (.ireturn, 1) := by decide +kernel
theorem dX9_meetNeighbour_0 : decode cX9_meetNeighbour 0 = .ok (.aload_n 0, 1) := by decide +kernel
theorem dX9_meetNeighbour_1 : decode cX9_meetNeighbour 1 = .ok (.getfield 10, 3) := by decide +kernel
theorem dX9_meetNeighbour_4 : decode cX9_meetNeighbour 4 = .ok (.getfield 45, 3) := by decide +kernel
theorem dX9_meetNeighbour_7 : decode cX9_meetNeighbour 7 = .ok (.astore_n 1, 1) := by decide +kernel
theorem dX9_meetNeighbour_8 : decode cX9_meetNeighbour 8 = .ok (.aload_n 1, 1) := by decide +kernel
theorem dX9_meetNeighbour_9 : decode cX9_meetNeighbour 9 = .ok (.iconst 4, 1) := by decide +kernel
theorem dX9_meetNeighbour_10 : decode cX9_meetNeighbour 10 = .ok (.iaload, 1) := by decide +kernel
theorem dX9_meetNeighbour_11 : decode cX9_meetNeighbour 11 = .ok (.iconst 1, 1) := by decide +kernel
theorem dX9_meetNeighbour_12 : decode cX9_meetNeighbour 12 = .ok (.if_icmp .eq 4, 3) := by decide +kernel
theorem dX9_meetNeighbour_15 : decode cX9_meetNeighbour 15 = .ok (.return_, 1) := by decide +kernel
theorem dX9_meetNeighbour_16 : decode cX9_meetNeighbour 16 = .ok (.aload_n 0, 1) := by decide +kernel
theorem dX9_meetNeighbour_17 : decode cX9_meetNeighbour 17 = .ok (.getfield 33, 3) := by decide +kernel
theorem dX9_meetNeighbour_20 : decode cX9_meetNeighbour 20 = .ok (.getfield 49, 3) := by decide +kernel
theorem dX9_meetNeighbour_23 : decode cX9_meetNeighbour 23 = .ok (.getfield 146, 3) := by decide +kernel
theorem dX9_meetNeighbour_26 : decode cX9_meetNeighbour 26 = .ok (.aload_n 1, 1) := by decide +kernel
theorem dX9_meetNeighbour_27 : decode cX9_meetNeighbour 27 = .ok (.iconst 3, 1) := by decide +kernel
theorem dX9_meetNeighbour_28 : decode cX9_meetNeighbour 28 = .ok (.iaload, 1) := by decide +kernel
theorem dX9_meetNeighbour_29 : decode cX9_meetNeighbour 29 = .ok (.aload_n 1, 1) := by decide +kernel
theorem dX9_meetNeighbour_30 : decode cX9_meetNeighbour 30 = .ok (.iconst 1, 1) := by decide +kernel
theorem dX9_meetNeighbour_31 : decode cX9_meetNeighbour 31 = .ok (.iaload, 1) := by decide +kernel
theorem dX9_meetNeighbour_32 : decode cX9_meetNeighbour 32 = .ok (.iastore, 1) := by decide +kernel
theorem dX9_meetNeighbour_33 : decode cX9_meetNeighbour 33 = .ok (.aload_n 1, 1) := by decide +kernel
theorem dX9_meetNeighbour_34 : decode cX9_meetNeighbour 34 = .ok (.iconst 2, 1) := by decide +kernel
theorem dX9_meetNeighbour_35 : decode cX9_meetNeighbour 35 = .ok (.iaload, 1) := by decide +kernel
theorem dX9_meetNeighbour_36 : decode cX9_meetNeighbour 36 = .ok (.iconst 1, 1) := by decide +kernel
theorem dX9_meetNeighbour_37 : decode cX9_meetNeighbour 37 = .ok (.if_icmp .ne 20, 3) := by decide +kernel
theorem dX9_meetNeighbour_40 : decode cX9_meetNeighbour 40 = .ok (.aload_n 0, 1) := by decide +kernel
theorem dX9_meetNeighbour_41 : decode cX9_meetNeighbour 41 = .ok (.getfield 33, 3) := by decide +kernel
theorem dX9_meetNeighbour_44 : decode cX9_meetNeighbour 44 = .ok (.getfield 49, 3) := by decide +kernel
theorem dX9_meetNeighbour_47 : decode cX9_meetNeighbour 47 = .ok (.aload_n 1, 1) := by decide +kernel
theorem dX9_meetNeighbour_48 : decode cX9_meetNeighbour 48 = .ok (.iconst 1, 1) := by decide +kernel
theorem dX9_meetNeighbour_49 : decode cX9_meetNeighbour 49 = .ok (.iaload, 1) := by decide +kernel
theorem dX9_meetNeighbour_50 : decode cX9_meetNeighbour 50 = .ok (.iconst 2, 1) := by decide +kernel
theorem dX9_meetNeighbour_51 : decode cX9_meetNeighbour 51 = .ok (.aload_n 1, 1) := by decide +kernel
theorem dX9_meetNeighbour_52 : decode cX9_meetNeighbour 52 = .ok (.iconst 3, 1) := by decide +kernel
theorem dX9_meetNeighbour_53 : decode cX9_meetNeighbour 53 = .ok (.iaload, 1) := by decide +kernel
theorem dX9_meetNeighbour_54 : decode cX9_meetNeighbour 54 = .ok (.invokevirtual 172, 3) := by decide +kernel
theorem dX9_meetNeighbour_57 : decode cX9_meetNeighbour 57 = .ok (.return_, 1) := by decide +kernel
theorem dX9_isOctet_0 : decode cX9_isOctet 0 = .ok (.iload_n 0, 1) := by decide +kernel
theorem dX9_isOctet_1 : decode cX9_isOctet 1 = .ok (.if_ .lt 14, 3) := by decide +kernel
theorem dX9_isOctet_4 : decode cX9_isOctet 4 = .ok (.iload_n 0, 1) := by decide +kernel
theorem dX9_isOctet_5 : decode cX9_isOctet 5 = .ok (.sipush 255, 3) := by decide +kernel
theorem dX9_isOctet_8 : decode cX9_isOctet 8 = .ok (.if_icmp .gt 7, 3) := by decide +kernel
theorem dX9_isOctet_11 : decode cX9_isOctet 11 = .ok (.iconst 1, 1) := by decide +kernel
theorem dX9_isOctet_12 : decode cX9_isOctet 12 = .ok (.goto 4, 3) := by decide +kernel
theorem dX9_isOctet_15 : decode cX9_isOctet 15 = .ok (.iconst 0, 1) := by decide +kernel
theorem dX9_isOctet_16 : decode cX9_isOctet 16 = .ok (.ireturn, 1) := by decide +kernel
theorem dX9_isLetter_0 : decode cX9_isLetter 0 = .ok (.iload_n 0, 1) := by decide +kernel
theorem dX9_isLetter_1 : decode cX9_isLetter 1 = .ok (.bipush 97, 2) := by decide +kernel
theorem dX9_isLetter_3 : decode cX9_isLetter 3 = .ok (.if_icmp .lt 13, 3) := by decide +kernel
theorem dX9_isLetter_6 : decode cX9_isLetter 6 = .ok (.iload_n 0, 1) := by decide +kernel
theorem dX9_isLetter_7 : decode cX9_isLetter 7 = .ok (.bipush 122, 2) := by decide +kernel
theorem dX9_isLetter_9 : decode cX9_isLetter 9 = .ok (.if_icmp .gt 7, 3) := by decide +kernel
theorem dX9_isLetter_12 : decode cX9_isLetter 12 = .ok (.iconst 1, 1) := by decide +kernel
theorem dX9_isLetter_13 : decode cX9_isLetter 13 = .ok (.goto 4, 3) := by decide +kernel
theorem dX9_isLetter_16 : decode cX9_isLetter 16 = .ok (.iconst 0, 1) := by decide +kernel
theorem dX9_isLetter_17 : decode cX9_isLetter 17 = .ok (.ireturn, 1) := by decide +kernel
theorem dX9_isText_0 : decode cX9_isText 0 = .ok (.iload_n 0, 1) := by decide +kernel
theorem dX9_isText_1 : decode cX9_isText 1 = .ok (.if_ .lt 13, 3) := by decide +kernel
theorem dX9_isText_4 : decode cX9_isText 4 = .ok (.iload_n 0, 1) := by decide +kernel
theorem dX9_isText_5 : decode cX9_isText 5 = .ok (.bipush 6, 2) := by decide +kernel
theorem dX9_isText_7 : decode cX9_isText 7 = .ok (.if_icmp .ge 7, 3) := by decide +kernel
theorem dX9_isText_10 : decode cX9_isText 10 = .ok (.iconst 1, 1) := by decide +kernel
theorem dX9_isText_11 : decode cX9_isText 11 = .ok (.goto 4, 3) := by decide +kernel
theorem dX9_isText_14 : decode cX9_isText 14 = .ok (.iconst 0, 1) := by decide +kernel
theorem dX9_isText_15 : decode cX9_isText 15 = .ok (.ireturn, 1) := by decide +kernel
theorem dX9_unitsUpTo_0 : decode cX9_unitsUpTo 0 = .ok (.iload_n 0, 1) := by decide +kernel
theorem dX9_unitsUpTo_1 : decode cX9_unitsUpTo 1 = .ok (.iconst 4, 1) := by decide +kernel
theorem dX9_unitsUpTo_2 : decode cX9_unitsUpTo 2 = .ok (.iadd, 1) := by decide +kernel
theorem dX9_unitsUpTo_3 : decode cX9_unitsUpTo 3 = .ok (.iconst 1, 1) := by decide +kernel
theorem dX9_unitsUpTo_4 : decode cX9_unitsUpTo 4 = .ok (.isub, 1) := by decide +kernel
theorem dX9_unitsUpTo_5 : decode cX9_unitsUpTo 5 = .ok (.iconst 4, 1) := by decide +kernel
theorem dX9_unitsUpTo_6 : decode cX9_unitsUpTo 6 = .ok (.idiv, 1) := by decide +kernel
theorem dX9_unitsUpTo_7 : decode cX9_unitsUpTo 7 = .ok (.istore_n 1, 1) := by decide +kernel
theorem dX9_unitsUpTo_8 : decode cX9_unitsUpTo 8 = .ok (.iconst 1, 1) := by decide +kernel
theorem dX9_unitsUpTo_9 : decode cX9_unitsUpTo 9 = .ok (.iload_n 1, 1) := by decide +kernel
theorem dX9_unitsUpTo_10 : decode cX9_unitsUpTo 10 = .ok (.ishl, 1) := by decide +kernel
theorem dX9_unitsUpTo_11 : decode cX9_unitsUpTo 11 = .ok (.iconst 1, 1) := by decide +kernel
theorem dX9_unitsUpTo_12 : decode cX9_unitsUpTo 12 = .ok (.isub, 1) := by decide +kernel
theorem dX9_unitsUpTo_13 : decode cX9_unitsUpTo 13 = .ok (.ireturn, 1) := by decide +kernel
