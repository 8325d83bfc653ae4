theorem dX8_init_0 : decode cX8_init 0 = .ok (.aload_n 0, 1) := by decide +kernel
theorem dX8_init_1 : decode cX8_init 1 = .ok (.invokespecial 3, 3) := by decide +kernel
theorem dX8_init_4 : decode cX8_init 4 = .ok (.aload_n 0, 1) := by decide +kernel
theorem dX8_init_5 : decode cX8_init 5 = .ok (.bipush 16, 2) := by decide +kernel
theorem dX8_init_7 : decode cX8_init 7 = .ok (.newarray .int, 2) := by decide +kernel
theorem dX8_init_9 : decode cX8_init 9 = .ok (.putfield 9, 3) := by decide +kernel
theorem dX8_init_12 : decode cX8_init 12 = .ok (.aload_n 0, 1) := by decide +kernel
theorem dX8_init_13 : decode cX8_init 13 = .ok (.bipush 12, 2) := by decide +kernel
theorem dX8_init_15 : decode cX8_init 15 = .ok (.bipush 41, 2) := by decide +kernel
theorem dX8_init_17 : decode cX8_init 17 = .ok (.multianewarray 15 2, 4) := by decide +kernel
theorem dX8_init_21 : decode cX8_init 21 = .ok (.putfield 17, 3) := by decide +kernel
theorem dX8_init_24 : decode cX8_init 24 = .ok (.aload_n 0, 1) := by decide +kernel
theorem dX8_init_25 : decode cX8_init 25 = .ok (.bipush 12, 2) := by decide +kernel
theorem dX8_init_27 : decode cX8_init 27 = .ok (.newarray .int, 2) := by decide +kernel
theorem dX8_init_29 : decode cX8_init 29 = .ok (.putfield 20, 3) := by decide +kernel
theorem dX8_init_32 : decode cX8_init 32 = .ok (.iconst 0, 1) := by decide +kernel
theorem dX8_init_33 : decode cX8_init 33 = .ok (.istore_n 1, 1) := by decide +kernel
theorem dX8_init_34 : decode cX8_init 34 = .ok (.iload_n 1, 1) := by decide +kernel
theorem dX8_init_35 : decode cX8_init 35 = .ok (.bipush 16, 2) := by decide +kernel
theorem dX8_init_37 : decode cX8_init 37 = .ok (.if_icmp .ge 16, 3) := by decide +kernel
theorem dX8_init_40 : decode cX8_init 40 = .ok (.aload_n 0, 1) := by decide +kernel
theorem dX8_init_41 : decode cX8_init 41 = .ok (.getfield 9, 3) := by decide +kernel
theorem dX8_init_44 : decode cX8_init 44 = .ok (.iload_n 1, 1) := by decide +kernel
theorem dX8_init_45 : decode cX8_init 45 = .ok (.iconst (-1), 1) := by decide +kernel
theorem dX8_init_46 : decode cX8_init 46 = .ok (.iastore, 1) := by decide +kernel
theorem dX8_init_47 : decode cX8_init 47 = .ok (.iinc 1 1, 3) := by decide +kernel
theorem dX8_init_50 : decode cX8_init 50 = .ok (.goto (-16), 3) := by decide +kernel
theorem dX8_init_53 : decode cX8_init 53 = .ok (.return_, 1) := by decide +kernel
theorem dX8_look_0 : decode cX8_look 0 = .ok (.iload_n 1, 1) := by decide +kernel
theorem dX8_look_1 : decode cX8_look 1 = .ok (.if_ .lt 17, 3) := by decide +kernel
theorem dX8_look_4 : decode cX8_look 4 = .ok (.iload_n 1, 1) := by decide +kernel
theorem dX8_look_5 : decode cX8_look 5 = .ok (.bipush 12, 2) := by decide +kernel
theorem dX8_look_7 : decode cX8_look 7 = .ok (.if_icmp .ge 11, 3) := by decide +kernel
theorem dX8_look_10 : decode cX8_look 10 = .ok (.iload_n 1, 1) := by decide +kernel
theorem dX8_look_11 : decode cX8_look 11 = .ok (.aload_n 0, 1) := by decide +kernel
theorem dX8_look_12 : decode cX8_look 12 = .ok (.getfield 23, 3) := by decide +kernel
theorem dX8_look_15 : decode cX8_look 15 = .ok (.if_icmp .lt 5, 3) := by decide +kernel
theorem dX8_look_18 : decode cX8_look 18 = .ok (.iconst (-1), 1) := by decide +kernel
theorem dX8_look_19 : decode cX8_look 19 = .ok (.ireturn, 1) := by decide +kernel
theorem dX8_look_20 : decode cX8_look 20 = .ok (.aload_n 0, 1) := by decide +kernel
theorem dX8_look_21 : decode cX8_look 21 = .ok (.getfield 27, 3) := by decide +kernel
theorem dX8_look_24 : decode cX8_look 24 = .ok (.bipush 12, 2) := by decide +kernel
theorem dX8_look_26 : decode cX8_look 26 = .ok (.iadd, 1) := by decide +kernel
theorem dX8_look_27 : decode cX8_look 27 = .ok (.iload_n 1, 1) := by decide +kernel
theorem dX8_look_28 : decode cX8_look 28 = .ok (.isub, 1) := by decide +kernel
theorem dX8_look_29 : decode cX8_look 29 = .ok (.bipush 12, 2) := by decide +kernel
theorem dX8_look_31 : decode cX8_look 31 = .ok (.irem, 1) := by decide +kernel
theorem dX8_look_32 : decode cX8_look 32 = .ok (.istore_n 3, 1) := by decide +kernel
theorem dX8_look_33 : decode cX8_look 33 = .ok (.iload_n 2, 1) := by decide +kernel
theorem dX8_look_34 : decode cX8_look 34 = .ok (.if_ .lt 13, 3) := by decide +kernel
theorem dX8_look_37 : decode cX8_look 37 = .ok (.iload_n 2, 1) := by decide +kernel
theorem dX8_look_38 : decode cX8_look 38 = .ok (.aload_n 0, 1) := by decide +kernel
theorem dX8_look_39 : decode cX8_look 39 = .ok (.getfield 20, 3) := by decide +kernel
theorem dX8_look_42 : decode cX8_look 42 = .ok (.iload_n 3, 1) := by decide +kernel
theorem dX8_look_43 : decode cX8_look 43 = .ok (.iaload, 1) := by decide +kernel
theorem dX8_look_44 : decode cX8_look 44 = .ok (.if_icmp .lt 5, 3) := by decide +kernel
theorem dX8_look_47 : decode cX8_look 47 = .ok (.iconst (-1), 1) := by decide +kernel
theorem dX8_look_48 : decode cX8_look 48 = .ok (.ireturn, 1) := by decide +kernel
theorem dX8_look_49 : decode cX8_look 49 = .ok (.aload_n 0, 1) := by decide +kernel
theorem dX8_look_50 : decode cX8_look 50 = .ok (.getfield 17, 3) := by decide +kernel
theorem dX8_look_53 : decode cX8_look 53 = .ok (.iload_n 3, 1) := by decide +kernel
theorem dX8_look_54 : decode cX8_look 54 = .ok (.aaload, 1) := by decide +kernel
theorem dX8_look_55 : decode cX8_look 55 = .ok (.iload_n 2, 1) := by decide +kernel
theorem dX8_look_56 : decode cX8_look 56 = .ok (.iaload, 1) := by decide +kernel
theorem dX8_look_57 : decode cX8_look 57 = .ok (.ireturn, 1) := by decide +kernel
theorem dX8_sendShort_0 : decode cX8_sendShort 0 = .ok (.aload_n 0, 1) := by decide +kernel
theorem dX8_sendShort_1 : decode cX8_sendShort 1 = .ok (.iconst 5, 1) := by decide +kernel
theorem dX8_sendShort_2 : decode cX8_sendShort 2 = .ok (.invokevirtual 30, 3) := by decide +kernel
theorem dX8_sendShort_5 : decode cX8_sendShort 5 = .ok (.astore 4, 2) := by decide +kernel
theorem dX8_sendShort_7 : decode cX8_sendShort 7 = .ok (.aload 4, 2) := by decide +kernel
theorem dX8_sendShort_9 : decode cX8_sendShort 9 = .ok (.iconst 0, 1) := by decide +kernel
theorem dX8_sendShort_10 : decode cX8_sendShort 10 = .ok (.iload_n 1, 1) := by decide +kernel
theorem dX8_sendShort_11 : decode cX8_sendShort 11 = .ok (.iastore, 1) := by decide +kernel
theorem dX8_sendShort_12 : decode cX8_sendShort 12 = .ok (.aload 4, 2) := by decide +kernel
theorem dX8_sendShort_14 : decode cX8_sendShort 14 = .ok (.iconst 1, 1) := by decide +kernel
theorem dX8_sendShort_15 : decode cX8_sendShort 15 = .ok (.iconst 1, 1) := by decide +kernel
theorem dX8_sendShort_16 : decode cX8_sendShort 16 = .ok (.iastore, 1) := by decide +kernel
theorem dX8_sendShort_17 : decode cX8_sendShort 17 = .ok (.aload 4, 2) := by decide +kernel
theorem dX8_sendShort_19 : decode cX8_sendShort 19 = .ok (.iconst 2, 1) := by decide +kernel
theorem dX8_sendShort_20 : decode cX8_sendShort 20 = .ok (.iload_n 2, 1) := by decide +kernel
theorem dX8_sendShort_21 : decode cX8_sendShort 21 = .ok (.iastore, 1) := by decide +kernel
theorem dX8_sendShort_22 : decode cX8_sendShort 22 = .ok (.aload 4, 2) := by decide +kernel
theorem dX8_sendShort_24 : decode cX8_sendShort 24 = .ok (.iconst 3, 1) := by decide +kernel
theorem dX8_sendShort_25 : decode cX8_sendShort 25 = .ok (.iconst 1, 1) := by decide +kernel
theorem dX8_sendShort_26 : decode cX8_sendShort 26 = .ok (.iastore, 1) := by decide +kernel
theorem dX8_sendShort_27 : decode cX8_sendShort 27 = .ok (.aload 4, 2) := by decide +kernel
theorem dX8_sendShort_29 : decode cX8_sendShort 29 = .ok (.iconst 4, 1) := by decide +kernel
theorem dX8_sendShort_30 : decode cX8_sendShort 30 = .ok (.iload_n 3, 1) := by decide +kernel
theorem dX8_sendShort_31 : decode cX8_sendShort 31 = .ok (.iastore, 1) := by decide +kernel
theorem dX8_sendShort_32 : decode cX8_sendShort 32 = .ok (.return_, 1) := by decide +kernel
theorem dX8_sendPayload_0 : decode cX8_sendPayload 0 = .ok (.aload_n 0, 1) := by decide +kernel
theorem dX8_sendPayload_1 : decode cX8_sendPayload 1 = .ok (.getfield 9, 3) := by decide +kernel
theorem dX8_sendPayload_4 : decode cX8_sendPayload 4 = .ok (.iload_n 1, 1) := by decide +kernel
theorem dX8_sendPayload_5 : decode cX8_sendPayload 5 = .ok (.iaload, 1) := by decide +kernel
theorem dX8_sendPayload_6 : decode cX8_sendPayload 6 = .ok (.iconst (-1), 1) := by decide +kernel
theorem dX8_sendPayload_7 : decode cX8_sendPayload 7 = .ok (.if_icmp .ne 12, 3) := by decide +kernel
theorem dX8_sendPayload_10 : decode cX8_sendPayload 10 = .ok (.aload_n 0, 1) := by decide +kernel
theorem dX8_sendPayload_11 : decode cX8_sendPayload 11 = .ok (.bipush 15, 2) := by decide +kernel
theorem dX8_sendPayload_13 : decode cX8_sendPayload 13 = .ok (.iconst 1, 1) := by decide +kernel
theorem dX8_sendPayload_14 : decode cX8_sendPayload 14 = .ok (.iload_n 1, 1) := by decide +kernel
theorem dX8_sendPayload_15 : decode cX8_sendPayload 15 = .ok (.invokevirtual 34, 3) := by decide +kernel
theorem dX8_sendPayload_18 : decode cX8_sendPayload 18 = .ok (.return_, 1) := by decide +kernel
theorem dX8_sendPayload_19 : decode cX8_sendPayload 19 = .ok (.iload 4, 2) := by decide +kernel
theorem dX8_sendPayload_21 : decode cX8_sendPayload 21 = .ok (.bipush 16, 2) := by decide +kernel
theorem dX8_sendPayload_23 : decode cX8_sendPayload 23 = .ok (.if_icmp .le 31, 3) := by decide +kernel
theorem dX8_sendPayload_26 : decode cX8_sendPayload 26 = .ok (.aload_n 0, 1) := by decide +kernel
theorem dX8_sendPayload_27 : decode cX8_sendPayload 27 = .ok (.iload_n 1, 1) := by decide +kernel
theorem dX8_sendPayload_28 : decode cX8_sendPayload 28 = .ok (.iload_n 2, 1) := by decide +kernel
theorem dX8_sendPayload_29 : decode cX8_sendPayload 29 = .ok (.aload_n 3, 1) := by decide +kernel
theorem dX8_sendPayload_30 : decode cX8_sendPayload 30 = .ok (.iconst 0, 1) := by decide +kernel
theorem dX8_sendPayload_31 : decode cX8_sendPayload 31 = .ok (.bipush 16, 2) := by decide +kernel
theorem dX8_sendPayload_33 : decode cX8_sendPayload 33 = .ok (.sipush 128, 3) := by decide +kernel
theorem dX8_sendPayload_36 : decode cX8_sendPayload 36 = .ok (.invokevirtual 38, 3) := by decide +kernel
theorem dX8_sendPayload_39 : decode cX8_sendPayload 39 = .ok (.aload_n 0, 1) := by decide +kernel
theorem dX8_sendPayload_40 : decode cX8_sendPayload 40 = .ok (.iload_n 1, 1) := by decide +kernel
theorem dX8_sendPayload_41 : decode cX8_sendPayload 41 = .ok (.iload_n 2, 1) := by decide +kernel
theorem dX8_sendPayload_42 : decode cX8_sendPayload 42 = .ok (.aload_n 3, 1) := by decide +kernel
theorem dX8_sendPayload_43 : decode cX8_sendPayload 43 = .ok (.bipush 16, 2) := by decide +kernel
theorem dX8_sendPayload_45 : decode cX8_sendPayload 45 = .ok (.iload 4, 2) := by decide +kernel
theorem dX8_sendPayload_47 : decode cX8_sendPayload 47 = .ok (.iconst 4, 1) := by decide +kernel
theorem dX8_sendPayload_48 : decode cX8_sendPayload 48 = .ok (.invokevirtual 38, 3) := by decide +kernel
theorem dX8_sendPayload_51 : decode cX8_sendPayload 51 = .ok (.goto 14, 3) := by decide +kernel
theorem dX8_sendPayload_54 : decode cX8_sendPayload 54 = .ok (.aload_n 0, 1) := by decide +kernel
theorem dX8_sendPayload_55 : decode cX8_sendPayload 55 = .ok (.iload_n 1, 1) := by decide +kernel
theorem dX8_sendPayload_56 : decode cX8_sendPayload 56 = .ok (.iload_n 2, 1) := by decide +kernel
theorem dX8_sendPayload_57 : decode cX8_sendPayload 57 = .ok (.aload_n 3, 1) := by decide +kernel
theorem dX8_sendPayload_58 : decode cX8_sendPayload 58 = .ok (.iconst 0, 1) := by decide +kernel
theorem dX8_sendPayload_59 : decode cX8_sendPayload 59 = .ok (.iload 4, 2) := by decide +kernel
theorem dX8_sendPayload_61 : decode cX8_sendPayload 61 = .ok (.iconst 0, 1) := by decide +kernel
theorem dX8_sendPayload_62 : decode cX8_sendPayload 62 = .ok (.invokevirtual 38, 3) := by decide +kernel
theorem dX8_sendPayload_65 : decode cX8_sendPayload 65 = .ok (.aload_n 0, 1) := by decide +kernel
theorem dX8_sendPayload_66 : decode cX8_sendPayload 66 = .ok (.dup, 1) := by decide +kernel
theorem dX8_sendPayload_67 : decode cX8_sendPayload 67 = .ok (.getfield 42, 3) := by decide +kernel
theorem dX8_sendPayload_70 : decode cX8_sendPayload 70 = .ok (.iconst 1, 1) := by decide +kernel
theorem dX8_sendPayload_71 : decode cX8_sendPayload 71 = .ok (.iadd, 1) := by decide +kernel
theorem dX8_sendPayload_72 : decode cX8_sendPayload 72 = .ok (.putfield 42, 3) := by decide +kernel
theorem dX8_sendPayload_75 : decode cX8_sendPayload 75 = .ok (.return_, 1) := by decide +kernel
theorem dX8_sendPiece_0 : decode cX8_sendPiece 0 = .ok (.aload_n 0, 1) := by decide +kernel
theorem dX8_sendPiece_1 : decode cX8_sendPiece 1 = .ok (.bipush 9, 2) := by decide +kernel
theorem dX8_sendPiece_3 : decode cX8_sendPiece 3 = .ok (.iload 5, 2) := by decide +kernel
theorem dX8_sendPiece_5 : decode cX8_sendPiece 5 = .ok (.iadd, 1) := by decide +kernel
theorem dX8_sendPiece_6 : decode cX8_sendPiece 6 = .ok (.iload 4, 2) := by decide +kernel
theorem dX8_sendPiece_8 : decode cX8_sendPiece 8 = .ok (.isub, 1) := by decide +kernel
theorem dX8_sendPiece_9 : decode cX8_sendPiece 9 = .ok (.invokevirtual 30, 3) := by decide +kernel
theorem dX8_sendPiece_12 : decode cX8_sendPiece 12 = .ok (.astore 7, 2) := by decide +kernel
theorem dX8_sendPiece_14 : decode cX8_sendPiece 14 = .ok (.aload 7, 2) := by decide +kernel
theorem dX8_sendPiece_16 : decode cX8_sendPiece 16 = .ok (.iconst 0, 1) := by decide +kernel
theorem dX8_sendPiece_17 : decode cX8_sendPiece 17 = .ok (.aload_n 0, 1) := by decide +kernel
theorem dX8_sendPiece_18 : decode cX8_sendPiece 18 = .ok (.getfield 9, 3) := by decide +kernel
theorem dX8_sendPiece_21 : decode cX8_sendPiece 21 = .ok (.iload_n 1, 1) := by decide +kernel
theorem dX8_sendPiece_22 : decode cX8_sendPiece 22 = .ok (.iaload, 1) := by decide +kernel
theorem dX8_sendPiece_23 : decode cX8_sendPiece 23 = .ok (.iastore, 1) := by decide +kernel
theorem dX8_sendPiece_24 : decode cX8_sendPiece 24 = .ok (.aload 7, 2) := by decide +kernel
theorem dX8_sendPiece_26 : decode cX8_sendPiece 26 = .ok (.iconst 1, 1) := by decide +kernel
theorem dX8_sendPiece_27 : decode cX8_sendPiece 27 = .ok (.iconst 1, 1) := by decide +kernel
theorem dX8_sendPiece_28 : decode cX8_sendPiece 28 = .ok (.iastore, 1) := by decide +kernel
theorem dX8_sendPiece_29 : decode cX8_sendPiece 29 = .ok (.aload 7, 2) := by decide +kernel
theorem dX8_sendPiece_31 : decode cX8_sendPiece 31 = .ok (.iconst 2, 1) := by decide +kernel
theorem dX8_sendPiece_32 : decode cX8_sendPiece 32 = .ok (.iconst 3, 1) := by decide +kernel
theorem dX8_sendPiece_33 : decode cX8_sendPiece 33 = .ok (.iastore, 1) := by decide +kernel
theorem dX8_sendPiece_34 : decode cX8_sendPiece 34 = .ok (.aload 7, 2) := by decide +kernel
theorem dX8_sendPiece_36 : decode cX8_sendPiece 36 = .ok (.iconst 3, 1) := by decide +kernel
theorem dX8_sendPiece_37 : decode cX8_sendPiece 37 = .ok (.iconst 1, 1) := by decide +kernel
theorem dX8_sendPiece_38 : decode cX8_sendPiece 38 = .ok (.iastore, 1) := by decide +kernel
theorem dX8_sendPiece_39 : decode cX8_sendPiece 39 = .ok (.aload 7, 2) := by decide +kernel
theorem dX8_sendPiece_41 : decode cX8_sendPiece 41 = .ok (.iconst 4, 1) := by decide +kernel
theorem dX8_sendPiece_42 : decode cX8_sendPiece 42 = .ok (.iload_n 1, 1) := by decide +kernel
theorem dX8_sendPiece_43 : decode cX8_sendPiece 43 = .ok (.iastore, 1) := by decide +kernel
theorem dX8_sendPiece_44 : decode cX8_sendPiece 44 = .ok (.aload 7, 2) := by decide +kernel
theorem dX8_sendPiece_46 : decode cX8_sendPiece 46 = .ok (.iconst 5, 1) := by decide +kernel
theorem dX8_sendPiece_47 : decode cX8_sendPiece 47 = .ok (.aload_n 0, 1) := by decide +kernel
theorem dX8_sendPiece_48 : decode cX8_sendPiece 48 = .ok (.getfield 42, 3) := by decide +kernel
theorem dX8_sendPiece_51 : decode cX8_sendPiece 51 = .ok (.sipush 255, 3) := by decide +kernel
theorem dX8_sendPiece_54 : decode cX8_sendPiece 54 = .ok (.iand, 1) := by decide +kernel
theorem dX8_sendPiece_55 : decode cX8_sendPiece 55 = .ok (.iastore, 1) := by decide +kernel
theorem dX8_sendPiece_56 : decode cX8_sendPiece 56 = .ok (.aload 7, 2) := by decide +kernel
theorem dX8_sendPiece_58 : decode cX8_sendPiece 58 = .ok (.bipush 6, 2) := by decide +kernel
theorem dX8_sendPiece_60 : decode cX8_sendPiece 60 = .ok (.iload 6, 2) := by decide +kernel
theorem dX8_sendPiece_62 : decode cX8_sendPiece 62 = .ok (.iastore, 1) := by decide +kernel
theorem dX8_sendPiece_63 : decode cX8_sendPiece 63 = .ok (.aload 7, 2) := by decide +kernel
theorem dX8_sendPiece_65 : decode cX8_sendPiece 65 = .ok (.bipush 7, 2) := by decide +kernel
theorem dX8_sendPiece_67 : decode cX8_sendPiece 67 = .ok (.iload_n 2, 1) := by decide +kernel
theorem dX8_sendPiece_68 : decode cX8_sendPiece 68 = .ok (.iastore, 1) := by decide +kernel
theorem dX8_sendPiece_69 : decode cX8_sendPiece 69 = .ok (.iconst 1, 1) := by decide +kernel
theorem dX8_sendPiece_70 : decode cX8_sendPiece 70 = .ok (.iload_n 1, 1) := by decide +kernel
theorem dX8_sendPiece_71 : decode cX8_sendPiece 71 = .ok (.iadd, 1) := by decide +kernel
theorem dX8_sendPiece_72 : decode cX8_sendPiece 72 = .ok (.aload 7, 2) := by decide +kernel
theorem dX8_sendPiece_74 : decode cX8_sendPiece 74 = .ok (.iconst 5, 1) := by decide +kernel
theorem dX8_sendPiece_75 : decode cX8_sendPiece 75 = .ok (.iaload, 1) := by decide +kernel
theorem dX8_sendPiece_76 : decode cX8_sendPiece 76 = .ok (.iadd, 1) := by decide +kernel
theorem dX8_sendPiece_77 : decode cX8_sendPiece 77 = .ok (.iload 6, 2) := by decide +kernel
theorem dX8_sendPiece_79 : decode cX8_sendPiece 79 = .ok (.iadd, 1) := by decide +kernel
theorem dX8_sendPiece_80 : decode cX8_sendPiece 80 = .ok (.iload_n 2, 1) := by decide +kernel
theorem dX8_sendPiece_81 : decode cX8_sendPiece 81 = .ok (.iadd, 1) := by decide +kernel
theorem dX8_sendPiece_82 : decode cX8_sendPiece 82 = .ok (.istore 8, 2) := by decide +kernel
theorem dX8_sendPiece_84 : decode cX8_sendPiece 84 = .ok (.iload 4, 2) := by decide +kernel
theorem dX8_sendPiece_86 : decode cX8_sendPiece 86 = .ok (.istore 9, 2) := by decide +kernel
theorem dX8_sendPiece_88 : decode cX8_sendPiece 88 = .ok (.iload 9, 2) := by decide +kernel
theorem dX8_sendPiece_90 : decode cX8_sendPiece 90 = .ok (.iload 5, 2) := by decide +kernel
theorem dX8_sendPiece_92 : decode cX8_sendPiece 92 = .ok (.if_icmp .ge 33, 3) := by decide +kernel
theorem dX8_sendPiece_95 : decode cX8_sendPiece 95 = .ok (.aload 7, 2) := by decide +kernel
theorem dX8_sendPiece_97 : decode cX8_sendPiece 97 = .ok (.bipush 9, 2) := by decide +kernel
theorem dX8_sendPiece_99 : decode cX8_sendPiece 99 = .ok (.iload 9, 2) := by decide +kernel
theorem dX8_sendPiece_101 : decode cX8_sendPiece 101 = .ok (.iadd, 1) := by decide +kernel
theorem dX8_sendPiece_102 : decode cX8_sendPiece 102 = .ok (.iload 4, 2) := by decide +kernel
theorem dX8_sendPiece_104 : decode cX8_sendPiece 104 = .ok (.isub, 1) := by decide +kernel
theorem dX8_sendPiece_105 : decode cX8_sendPiece 105 = .ok (.aload_n 3, 1) := by decide +kernel
theorem dX8_sendPiece_106 : decode cX8_sendPiece 106 = .ok (.iload 9, 2) := by decide +kernel
theorem dX8_sendPiece_108 : decode cX8_sendPiece 108 = .ok (.iaload, 1) := by decide +kernel
theorem dX8_sendPiece_109 : decode cX8_sendPiece 109 = .ok (.iastore, 1) := by decide +kernel
theorem dX8_sendPiece_110 : decode cX8_sendPiece 110 = .ok (.iload 8, 2) := by decide +kernel
theorem dX8_sendPiece_112 : decode cX8_sendPiece 112 = .ok (.aload_n 3, 1) := by decide +kernel
theorem dX8_sendPiece_113 : decode cX8_sendPiece 113 = .ok (.iload 9, 2) := by decide +kernel
theorem dX8_sendPiece_115 : decode cX8_sendPiece 115 = .ok (.iaload, 1) := by decide +kernel
theorem dX8_sendPiece_116 : decode cX8_sendPiece 116 = .ok (.iadd, 1) := by decide +kernel
theorem dX8_sendPiece_117 : decode cX8_sendPiece 117 = .ok (.istore 8, 2) := by decide +kernel
theorem dX8_sendPiece_119 : decode cX8_sendPiece 119 = .ok (.iinc 9 1, 3) := by decide +kernel
theorem dX8_sendPiece_122 : decode cX8_sendPiece 122 = .ok (.goto (-34), 3) := by decide +kernel
theorem dX8_sendPiece_125 : decode cX8_sendPiece 125 = .ok (.aload 7, 2) := by decide +kernel
theorem dX8_sendPiece_127 : decode cX8_sendPiece 127 = .ok (.bipush 8, 2) := by decide +kernel
theorem dX8_sendPiece_129 : decode cX8_sendPiece 129 = .ok (.iload 8, 2) := by decide +kernel
theorem dX8_sendPiece_131 : decode cX8_sendPiece 131 = .ok (.ineg, 1) := by decide +kernel
theorem dX8_sendPiece_132 : decode cX8_sendPiece 132 = .ok (.sipush 255, 3) := by decide +kernel
theorem dX8_sendPiece_135 : decode cX8_sendPiece 135 = .ok (.iand, 1) := by decide +kernel
theorem dX8_sendPiece_136 : decode cX8_sendPiece 136 = .ok (.iastore, 1) := by decide +kernel
theorem dX8_sendPiece_137 : decode cX8_sendPiece 137 = .ok (.return_, 1) := by decide +kernel
theorem dX8_nextFrame_0 : decode cX8_nextFrame 0 = .ok (.aload_n 0, 1) := by decide +kernel
theorem dX8_nextFrame_1 : decode cX8_nextFrame 1 = .ok (.aload_n 0, 1) := by decide +kernel
theorem dX8_nextFrame_2 : decode cX8_nextFrame 2 = .ok (.getfield 27, 3) := by decide +kernel
theorem dX8_nextFrame_5 : decode cX8_nextFrame 5 = .ok (.iconst 1, 1) := by decide +kernel
theorem dX8_nextFrame_6 : decode cX8_nextFrame 6 = .ok (.iadd, 1) := by decide +kernel
theorem dX8_nextFrame_7 : decode cX8_nextFrame 7 = .ok (.bipush 12, 2) := by decide +kernel
theorem dX8_nextFrame_9 : decode cX8_nextFrame 9 = .ok (.irem, 1) := by decide +kernel
theorem dX8_nextFrame_10 : decode cX8_nextFrame 10 = .ok (.putfield 27, 3) := by decide +kernel
theorem dX8_nextFrame_13 : decode cX8_nextFrame 13 = .ok (.aload_n 0, 1) := by decide +kernel
theorem dX8_nextFrame_14 : decode cX8_nextFrame 14 = .ok (.getfield 20, 3) := by decide +kernel
theorem dX8_nextFrame_17 : decode cX8_nextFrame 17 = .ok (.aload_n 0, 1) := by decide +kernel
theorem dX8_nextFrame_18 : decode cX8_nextFrame 18 = .ok (.getfield 27, 3) := by decide +kernel
theorem dX8_nextFrame_21 : decode cX8_nextFrame 21 = .ok (.iload_n 1, 1) := by decide +kernel
theorem dX8_nextFrame_22 : decode cX8_nextFrame 22 = .ok (.iastore, 1) := by decide +kernel
theorem dX8_nextFrame_23 : decode cX8_nextFrame 23 = .ok (.aload_n 0, 1) := by decide +kernel
theorem dX8_nextFrame_24 : decode cX8_nextFrame 24 = .ok (.dup, 1) := by decide +kernel
theorem dX8_nextFrame_25 : decode cX8_nextFrame 25 = .ok (.getfield 23, 3) := by decide +kernel
theorem dX8_nextFrame_28 : decode cX8_nextFrame 28 = .ok (.iconst 1, 1) := by decide +kernel
theorem dX8_nextFrame_29 : decode cX8_nextFrame 29 = .ok (.iadd, 1) := by decide +kernel
theorem dX8_nextFrame_30 : decode cX8_nextFrame 30 = .ok (.putfield 23, 3) := by decide +kernel
theorem dX8_nextFrame_33 : decode cX8_nextFrame 33 = .ok (.aload_n 0, 1) := by decide +kernel
theorem dX8_nextFrame_34 : decode cX8_nextFrame 34 = .ok (.getfield 17, 3) := by decide +kernel
theorem dX8_nextFrame_37 : decode cX8_nextFrame 37 = .ok (.aload_n 0, 1) := by decide +kernel
theorem dX8_nextFrame_38 : decode cX8_nextFrame 38 = .ok (.getfield 27, 3) := by decide +kernel
theorem dX8_nextFrame_41 : decode cX8_nextFrame 41 = .ok (.aaload, 1) := by decide +kernel
theorem dX8_nextFrame_42 : decode cX8_nextFrame 42 = .ok (.areturn, 1) := by decide +kernel
