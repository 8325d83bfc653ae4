theorem dX5_init_0 : decode cX5_init 0 = .ok (.aload_n 0, 1) := by decide +kernel
theorem dX5_init_1 : decode cX5_init 1 = .ok (.invokespecial 3, 3) := by decide +kernel
theorem dX5_init_4 : decode cX5_init 4 = .ok (.aload_n 0, 1) := by decide +kernel
theorem dX5_init_5 : decode cX5_init 5 = .ok (.bipush 64, 2) := by decide +kernel
theorem dX5_init_7 : decode cX5_init 7 = .ok (.newarray .int, 2) := by decide +kernel
theorem dX5_init_9 : decode cX5_init 9 = .ok (.putfield 9, 3) := by decide +kernel
theorem dX5_init_12 : decode cX5_init 12 = .ok (.aload_n 0, 1) := by decide +kernel
theorem dX5_init_13 : decode cX5_init 13 = .ok (.bipush 16, 2) := by decide +kernel
theorem dX5_init_15 : decode cX5_init 15 = .ok (.newarray .int, 2) := by decide +kernel
theorem dX5_init_17 : decode cX5_init 17 = .ok (.putfield 15, 3) := by decide +kernel
theorem dX5_init_20 : decode cX5_init 20 = .ok (.return_, 1) := by decide +kernel
theorem dX5_begin_0 : decode cX5_begin 0 = .ok (.aload_n 0, 1) := by decide +kernel
theorem dX5_begin_1 : decode cX5_begin 1 = .ok (.iconst 1, 1) := by decide +kernel
theorem dX5_begin_2 : decode cX5_begin 2 = .ok (.putfield 18, 3) := by decide +kernel
theorem dX5_begin_5 : decode cX5_begin 5 = .ok (.aload_n 0, 1) := by decide +kernel
theorem dX5_begin_6 : decode cX5_begin 6 = .ok (.aload_n 1, 1) := by decide +kernel
theorem dX5_begin_7 : decode cX5_begin 7 = .ok (.getfield 22, 3) := by decide +kernel
theorem dX5_begin_10 : decode cX5_begin 10 = .ok (.putfield 27, 3) := by decide +kernel
theorem dX5_begin_13 : decode cX5_begin 13 = .ok (.aload_n 0, 1) := by decide +kernel
theorem dX5_begin_14 : decode cX5_begin 14 = .ok (.aload_n 1, 1) := by decide +kernel
theorem dX5_begin_15 : decode cX5_begin 15 = .ok (.getfield 30, 3) := by decide +kernel
theorem dX5_begin_18 : decode cX5_begin 18 = .ok (.iconst 0, 1) := by decide +kernel
theorem dX5_begin_19 : decode cX5_begin 19 = .ok (.iaload, 1) := by decide +kernel
theorem dX5_begin_20 : decode cX5_begin 20 = .ok (.putfield 33, 3) := by decide +kernel
theorem dX5_begin_23 : decode cX5_begin 23 = .ok (.aload_n 0, 1) := by decide +kernel
theorem dX5_begin_24 : decode cX5_begin 24 = .ok (.aload_n 1, 1) := by decide +kernel
theorem dX5_begin_25 : decode cX5_begin 25 = .ok (.getfield 30, 3) := by decide +kernel
theorem dX5_begin_28 : decode cX5_begin 28 = .ok (.iconst 1, 1) := by decide +kernel
theorem dX5_begin_29 : decode cX5_begin 29 = .ok (.iaload, 1) := by decide +kernel
theorem dX5_begin_30 : decode cX5_begin 30 = .ok (.iconst 1, 1) := by decide +kernel
theorem dX5_begin_31 : decode cX5_begin 31 = .ok (.iadd, 1) := by decide +kernel
theorem dX5_begin_32 : decode cX5_begin 32 = .ok (.sipush 255, 3) := by decide +kernel
theorem dX5_begin_35 : decode cX5_begin 35 = .ok (.iand, 1) := by decide +kernel
theorem dX5_begin_36 : decode cX5_begin 36 = .ok (.putfield 36, 3) := by decide +kernel
theorem dX5_begin_39 : decode cX5_begin 39 = .ok (.aload_n 0, 1) := by decide +kernel
theorem dX5_begin_40 : decode cX5_begin 40 = .ok (.iload_n 2, 1) := by decide +kernel
theorem dX5_begin_41 : decode cX5_begin 41 = .ok (.putfield 39, 3) := by decide +kernel
theorem dX5_begin_44 : decode cX5_begin 44 = .ok (.aload_n 0, 1) := by decide +kernel
theorem dX5_begin_45 : decode cX5_begin 45 = .ok (.iload_n 2, 1) := by decide +kernel
theorem dX5_begin_46 : decode cX5_begin 46 = .ok (.putfield 42, 3) := by decide +kernel
theorem dX5_begin_49 : decode cX5_begin 49 = .ok (.aload_n 0, 1) := by decide +kernel
theorem dX5_begin_50 : decode cX5_begin 50 = .ok (.iconst 0, 1) := by decide +kernel
theorem dX5_begin_51 : decode cX5_begin 51 = .ok (.putfield 45, 3) := by decide +kernel
theorem dX5_begin_54 : decode cX5_begin 54 = .ok (.aload_n 0, 1) := by decide +kernel
theorem dX5_begin_55 : decode cX5_begin 55 = .ok (.iconst 0, 1) := by decide +kernel
theorem dX5_begin_56 : decode cX5_begin 56 = .ok (.putfield 48, 3) := by decide +kernel
theorem dX5_begin_59 : decode cX5_begin 59 = .ok (.aload_n 0, 1) := by decide +kernel
theorem dX5_begin_60 : decode cX5_begin 60 = .ok (.aload_n 1, 1) := by decide +kernel
theorem dX5_begin_61 : decode cX5_begin 61 = .ok (.getfield 30, 3) := by decide +kernel
theorem dX5_begin_64 : decode cX5_begin 64 = .ok (.iconst 4, 1) := by decide +kernel
theorem dX5_begin_65 : decode cX5_begin 65 = .ok (.iaload, 1) := by decide +kernel
theorem dX5_begin_66 : decode cX5_begin 66 = .ok (.putfield 51, 3) := by decide +kernel
theorem dX5_begin_69 : decode cX5_begin 69 = .ok (.aload_n 0, 1) := by decide +kernel
theorem dX5_begin_70 : decode cX5_begin 70 = .ok (.iconst 1, 1) := by decide +kernel
theorem dX5_begin_71 : decode cX5_begin 71 = .ok (.putfield 54, 3) := by decide +kernel
theorem dX5_begin_74 : decode cX5_begin 74 = .ok (.aload_n 0, 1) := by decide +kernel
theorem dX5_begin_75 : decode cX5_begin 75 = .ok (.iconst 0, 1) := by decide +kernel
theorem dX5_begin_76 : decode cX5_begin 76 = .ok (.putfield 57, 3) := by decide +kernel
theorem dX5_begin_79 : decode cX5_begin 79 = .ok (.aload_n 0, 1) := by decide +kernel
theorem dX5_begin_80 : decode cX5_begin 80 = .ok (.iconst 0, 1) := by decide +kernel
theorem dX5_begin_81 : decode cX5_begin 81 = .ok (.putfield 60, 3) := by decide +kernel
theorem dX5_begin_84 : decode cX5_begin 84 = .ok (.return_, 1) := by decide +kernel
theorem dX5_onTheWay_0 : decode cX5_onTheWay 0 = .ok (.aload_n 0, 1) := by decide +kernel
theorem dX5_onTheWay_1 : decode cX5_onTheWay 1 = .ok (.getfield 42, 3) := by decide +kernel
theorem dX5_onTheWay_4 : decode cX5_onTheWay 4 = .ok (.aload_n 0, 1) := by decide +kernel
theorem dX5_onTheWay_5 : decode cX5_onTheWay 5 = .ok (.getfield 39, 3) := by decide +kernel
theorem dX5_onTheWay_8 : decode cX5_onTheWay 8 = .ok (.isub, 1) := by decide +kernel
theorem dX5_onTheWay_9 : decode cX5_onTheWay 9 = .ok (.sipush 255, 3) := by decide +kernel
theorem dX5_onTheWay_12 : decode cX5_onTheWay 12 = .ok (.iand, 1) := by decide +kernel
theorem dX5_onTheWay_13 : decode cX5_onTheWay 13 = .ok (.ireturn, 1) := by decide +kernel
theorem dX5_goOn_0 : decode cX5_goOn 0 = .ok (.aload_n 0, 1) := by decide +kernel
theorem dX5_goOn_1 : decode cX5_goOn 1 = .ok (.getfield 39, 3) := by decide +kernel
theorem dX5_goOn_4 : decode cX5_goOn 4 = .ok (.aload_n 0, 1) := by decide +kernel
theorem dX5_goOn_5 : decode cX5_goOn 5 = .ok (.getfield 42, 3) := by decide +kernel
theorem dX5_goOn_8 : decode cX5_goOn 8 = .ok (.if_icmp .ne 8, 3) := by decide +kernel
theorem dX5_goOn_11 : decode cX5_goOn 11 = .ok (.aload_n 0, 1) := by decide +kernel
theorem dX5_goOn_12 : decode cX5_goOn 12 = .ok (.iconst 0, 1) := by decide +kernel
theorem dX5_goOn_13 : decode cX5_goOn 13 = .ok (.putfield 60, 3) := by decide +kernel
theorem dX5_goOn_16 : decode cX5_goOn 16 = .ok (.aload_n 0, 1) := by decide +kernel
theorem dX5_goOn_17 : decode cX5_goOn 17 = .ok (.aload_n 0, 1) := by decide +kernel
theorem dX5_goOn_18 : decode cX5_goOn 18 = .ok (.getfield 42, 3) := by decide +kernel
theorem dX5_goOn_21 : decode cX5_goOn 21 = .ok (.iload_n 1, 1) := by decide +kernel
theorem dX5_goOn_22 : decode cX5_goOn 22 = .ok (.iadd, 1) := by decide +kernel
theorem dX5_goOn_23 : decode cX5_goOn 23 = .ok (.sipush 255, 3) := by decide +kernel
theorem dX5_goOn_26 : decode cX5_goOn 26 = .ok (.iand, 1) := by decide +kernel
theorem dX5_goOn_27 : decode cX5_goOn 27 = .ok (.putfield 42, 3) := by decide +kernel
theorem dX5_goOn_30 : decode cX5_goOn 30 = .ok (.return_, 1) := by decide +kernel
theorem dX5_tickEndsTimer_0 : decode cX5_tickEndsTimer 0 = .ok (.aload_n 0, 1) := by decide +kernel
theorem dX5_tickEndsTimer_1 : decode cX5_tickEndsTimer 1 = .ok (.getfield 18, 3) := by decide +kernel
theorem dX5_tickEndsTimer_4 : decode cX5_tickEndsTimer 4 = .ok (.if_ .eq 14, 3) := by decide +kernel
theorem dX5_tickEndsTimer_7 : decode cX5_tickEndsTimer 7 = .ok (.aload_n 0, 1) := by decide +kernel
theorem dX5_tickEndsTimer_8 : decode cX5_tickEndsTimer 8 = .ok (.getfield 39, 3) := by decide +kernel
theorem dX5_tickEndsTimer_11 : decode cX5_tickEndsTimer 11 = .ok (.aload_n 0, 1) := by decide +kernel
theorem dX5_tickEndsTimer_12 : decode cX5_tickEndsTimer 12 = .ok (.getfield 42, 3) := by decide +kernel
theorem dX5_tickEndsTimer_15 : decode cX5_tickEndsTimer 15 = .ok (.if_icmp .ne 5, 3) := by decide +kernel
theorem dX5_tickEndsTimer_18 : decode cX5_tickEndsTimer 18 = .ok (.iconst 0, 1) := by decide +kernel
theorem dX5_tickEndsTimer_19 : decode cX5_tickEndsTimer 19 = .ok (.ireturn, 1) := by decide +kernel
theorem dX5_tickEndsTimer_20 : decode cX5_tickEndsTimer 20 = .ok (.aload_n 0, 1) := by decide +kernel
theorem dX5_tickEndsTimer_21 : decode cX5_tickEndsTimer 21 = .ok (.dup, 1) := by decide +kernel
theorem dX5_tickEndsTimer_22 : decode cX5_tickEndsTimer 22 = .ok (.getfield 60, 3) := by decide +kernel
theorem dX5_tickEndsTimer_25 : decode cX5_tickEndsTimer 25 = .ok (.iconst 1, 1) := by decide +kernel
theorem dX5_tickEndsTimer_26 : decode cX5_tickEndsTimer 26 = .ok (.iadd, 1) := by decide +kernel
theorem dX5_tickEndsTimer_27 : decode cX5_tickEndsTimer 27 = .ok (.putfield 60, 3) := by decide +kernel
theorem dX5_tickEndsTimer_30 : decode cX5_tickEndsTimer 30 = .ok (.aload_n 0, 1) := by decide +kernel
theorem dX5_tickEndsTimer_31 : decode cX5_tickEndsTimer 31 = .ok (.getfield 60, 3) := by decide +kernel
theorem dX5_tickEndsTimer_34 : decode cX5_tickEndsTimer 34 = .ok (.iconst 4, 1) := by decide +kernel
theorem dX5_tickEndsTimer_35 : decode cX5_tickEndsTimer 35 = .ok (.aload_n 0, 1) := by decide +kernel
theorem dX5_tickEndsTimer_36 : decode cX5_tickEndsTimer 36 = .ok (.getfield 57, 3) := by decide +kernel
theorem dX5_tickEndsTimer_39 : decode cX5_tickEndsTimer 39 = .ok (.ishl, 1) := by decide +kernel
theorem dX5_tickEndsTimer_40 : decode cX5_tickEndsTimer 40 = .ok (.if_icmp .lt 7, 3) := by decide +kernel
theorem dX5_tickEndsTimer_43 : decode cX5_tickEndsTimer 43 = .ok (.iconst 1, 1) := by decide +kernel
theorem dX5_tickEndsTimer_44 : decode cX5_tickEndsTimer 44 = .ok (.goto 4, 3) := by decide +kernel
theorem dX5_tickEndsTimer_47 : decode cX5_tickEndsTimer 47 = .ok (.iconst 0, 1) := by decide +kernel
theorem dX5_tickEndsTimer_48 : decode cX5_tickEndsTimer 48 = .ok (.ireturn, 1) := by decide +kernel
theorem dX5_goBack_0 : decode cX5_goBack 0 = .ok (.aload_n 0, 1) := by decide +kernel
theorem dX5_goBack_1 : decode cX5_goBack 1 = .ok (.dup, 1) := by decide +kernel
theorem dX5_goBack_2 : decode cX5_goBack 2 = .ok (.getfield 57, 3) := by decide +kernel
theorem dX5_goBack_5 : decode cX5_goBack 5 = .ok (.iconst 1, 1) := by decide +kernel
theorem dX5_goBack_6 : decode cX5_goBack 6 = .ok (.iadd, 1) := by decide +kernel
theorem dX5_goBack_7 : decode cX5_goBack 7 = .ok (.putfield 57, 3) := by decide +kernel
theorem dX5_goBack_10 : decode cX5_goBack 10 = .ok (.aload_n 0, 1) := by decide +kernel
theorem dX5_goBack_11 : decode cX5_goBack 11 = .ok (.iconst 1, 1) := by decide +kernel
theorem dX5_goBack_12 : decode cX5_goBack 12 = .ok (.putfield 54, 3) := by decide +kernel
theorem dX5_goBack_15 : decode cX5_goBack 15 = .ok (.aload_n 0, 1) := by decide +kernel
theorem dX5_goBack_16 : decode cX5_goBack 16 = .ok (.iconst 0, 1) := by decide +kernel
theorem dX5_goBack_17 : decode cX5_goBack 17 = .ok (.putfield 60, 3) := by decide +kernel
theorem dX5_goBack_20 : decode cX5_goBack 20 = .ok (.aload_n 0, 1) := by decide +kernel
theorem dX5_goBack_21 : decode cX5_goBack 21 = .ok (.aload_n 0, 1) := by decide +kernel
theorem dX5_goBack_22 : decode cX5_goBack 22 = .ok (.getfield 39, 3) := by decide +kernel
theorem dX5_goBack_25 : decode cX5_goBack 25 = .ok (.putfield 42, 3) := by decide +kernel
theorem dX5_goBack_28 : decode cX5_goBack 28 = .ok (.aload_n 0, 1) := by decide +kernel
theorem dX5_goBack_29 : decode cX5_goBack 29 = .ok (.getfield 18, 3) := by decide +kernel
theorem dX5_goBack_32 : decode cX5_goBack 32 = .ok (.iconst 4, 1) := by decide +kernel
theorem dX5_goBack_33 : decode cX5_goBack 33 = .ok (.if_icmp .ne 8, 3) := by decide +kernel
theorem dX5_goBack_36 : decode cX5_goBack 36 = .ok (.aload_n 0, 1) := by decide +kernel
theorem dX5_goBack_37 : decode cX5_goBack 37 = .ok (.iconst 3, 1) := by decide +kernel
theorem dX5_goBack_38 : decode cX5_goBack 38 = .ok (.putfield 18, 3) := by decide +kernel
theorem dX5_goBack_41 : decode cX5_goBack 41 = .ok (.return_, 1) := by decide +kernel
theorem dX5_acknowledge_0 : decode cX5_acknowledge 0 = .ok (.iload_n 1, 1) := by decide +kernel
theorem dX5_acknowledge_1 : decode cX5_acknowledge 1 = .ok (.aload_n 0, 1) := by decide +kernel
theorem dX5_acknowledge_2 : decode cX5_acknowledge 2 = .ok (.getfield 39, 3) := by decide +kernel
theorem dX5_acknowledge_5 : decode cX5_acknowledge 5 = .ok (.isub, 1) := by decide +kernel
theorem dX5_acknowledge_6 : decode cX5_acknowledge 6 = .ok (.sipush 255, 3) := by decide +kernel
theorem dX5_acknowledge_9 : decode cX5_acknowledge 9 = .ok (.iand, 1) := by decide +kernel
theorem dX5_acknowledge_10 : decode cX5_acknowledge 10 = .ok (.istore_n 2, 1) := by decide +kernel
theorem dX5_acknowledge_11 : decode cX5_acknowledge 11 = .ok (.iload_n 2, 1) := by decide +kernel
theorem dX5_acknowledge_12 : decode cX5_acknowledge 12 = .ok (.iconst 1, 1) := by decide +kernel
theorem dX5_acknowledge_13 : decode cX5_acknowledge 13 = .ok (.if_icmp .lt 11, 3) := by decide +kernel
theorem dX5_acknowledge_16 : decode cX5_acknowledge 16 = .ok (.iload_n 2, 1) := by decide +kernel
theorem dX5_acknowledge_17 : decode cX5_acknowledge 17 = .ok (.aload_n 0, 1) := by decide +kernel
theorem dX5_acknowledge_18 : decode cX5_acknowledge 18 = .ok (.invokevirtual 63, 3) := by decide +kernel
theorem dX5_acknowledge_21 : decode cX5_acknowledge 21 = .ok (.if_icmp .le 4, 3) := by decide +kernel
theorem dX5_acknowledge_24 : decode cX5_acknowledge 24 = .ok (.return_, 1) := by decide +kernel
theorem dX5_acknowledge_25 : decode cX5_acknowledge 25 = .ok (.aload_n 0, 1) := by decide +kernel
theorem dX5_acknowledge_26 : decode cX5_acknowledge 26 = .ok (.iload_n 1, 1) := by decide +kernel
theorem dX5_acknowledge_27 : decode cX5_acknowledge 27 = .ok (.putfield 39, 3) := by decide +kernel
theorem dX5_acknowledge_30 : decode cX5_acknowledge 30 = .ok (.aload_n 0, 1) := by decide +kernel
theorem dX5_acknowledge_31 : decode cX5_acknowledge 31 = .ok (.aload_n 0, 1) := by decide +kernel
theorem dX5_acknowledge_32 : decode cX5_acknowledge 32 = .ok (.getfield 54, 3) := by decide +kernel
theorem dX5_acknowledge_35 : decode cX5_acknowledge 35 = .ok (.iconst 1, 1) := by decide +kernel
theorem dX5_acknowledge_36 : decode cX5_acknowledge 36 = .ok (.iadd, 1) := by decide +kernel
theorem dX5_acknowledge_37 : decode cX5_acknowledge 37 = .ok (.iconst 4, 1) := by decide +kernel
theorem dX5_acknowledge_38 : decode cX5_acknowledge 38 = .ok (.invokestatic 67, 3) := by decide +kernel
theorem dX5_acknowledge_41 : decode cX5_acknowledge 41 = .ok (.putfield 54, 3) := by decide +kernel
theorem dX5_acknowledge_44 : decode cX5_acknowledge 44 = .ok (.aload_n 0, 1) := by decide +kernel
theorem dX5_acknowledge_45 : decode cX5_acknowledge 45 = .ok (.iconst 0, 1) := by decide +kernel
theorem dX5_acknowledge_46 : decode cX5_acknowledge 46 = .ok (.putfield 57, 3) := by decide +kernel
theorem dX5_acknowledge_49 : decode cX5_acknowledge 49 = .ok (.aload_n 0, 1) := by decide +kernel
theorem dX5_acknowledge_50 : decode cX5_acknowledge 50 = .ok (.iconst 0, 1) := by decide +kernel
theorem dX5_acknowledge_51 : decode cX5_acknowledge 51 = .ok (.putfield 60, 3) := by decide +kernel
theorem dX5_acknowledge_54 : decode cX5_acknowledge 54 = .ok (.aload_n 0, 1) := by decide +kernel
theorem dX5_acknowledge_55 : decode cX5_acknowledge 55 = .ok (.getfield 18, 3) := by decide +kernel
theorem dX5_acknowledge_58 : decode cX5_acknowledge 58 = .ok (.iconst 1, 1) := by decide +kernel
theorem dX5_acknowledge_59 : decode cX5_acknowledge 59 = .ok (.if_icmp .ne 9, 3) := by decide +kernel
theorem dX5_acknowledge_62 : decode cX5_acknowledge 62 = .ok (.aload_n 0, 1) := by decide +kernel
theorem dX5_acknowledge_63 : decode cX5_acknowledge 63 = .ok (.iconst 2, 1) := by decide +kernel
theorem dX5_acknowledge_64 : decode cX5_acknowledge 64 = .ok (.putfield 18, 3) := by decide +kernel
theorem dX5_acknowledge_67 : decode cX5_acknowledge 67 = .ok (.return_, 1) := by decide +kernel
theorem dX5_acknowledge_68 : decode cX5_acknowledge 68 = .ok (.aload_n 0, 1) := by decide +kernel
theorem dX5_acknowledge_69 : decode cX5_acknowledge 69 = .ok (.aload_n 0, 1) := by decide +kernel
theorem dX5_acknowledge_70 : decode cX5_acknowledge 70 = .ok (.getfield 9, 3) := by decide +kernel
theorem dX5_acknowledge_73 : decode cX5_acknowledge 73 = .ok (.aload_n 0, 1) := by decide +kernel
theorem dX5_acknowledge_74 : decode cX5_acknowledge 74 = .ok (.getfield 45, 3) := by decide +kernel
theorem dX5_acknowledge_77 : decode cX5_acknowledge 77 = .ok (.iload_n 2, 1) := by decide +kernel
theorem dX5_acknowledge_78 : decode cX5_acknowledge 78 = .ok (.aload_n 0, 1) := by decide +kernel
theorem dX5_acknowledge_79 : decode cX5_acknowledge 79 = .ok (.getfield 45, 3) := by decide +kernel
theorem dX5_acknowledge_82 : decode cX5_acknowledge 82 = .ok (.invokestatic 67, 3) := by decide +kernel
theorem dX5_acknowledge_85 : decode cX5_acknowledge 85 = .ok (.invokestatic 73, 3) := by decide +kernel
theorem dX5_acknowledge_88 : decode cX5_acknowledge 88 = .ok (.putfield 45, 3) := by decide +kernel
theorem dX5_acknowledge_91 : decode cX5_acknowledge 91 = .ok (.aload_n 0, 1) := by decide +kernel
theorem dX5_acknowledge_92 : decode cX5_acknowledge 92 = .ok (.getfield 18, 3) := by decide +kernel
theorem dX5_acknowledge_95 : decode cX5_acknowledge 95 = .ok (.iconst 4, 1) := by decide +kernel
theorem dX5_acknowledge_96 : decode cX5_acknowledge 96 = .ok (.if_icmp .ne 19, 3) := by decide +kernel
theorem dX5_acknowledge_99 : decode cX5_acknowledge 99 = .ok (.aload_n 0, 1) := by decide +kernel
theorem dX5_acknowledge_100 : decode cX5_acknowledge 100 = .ok (.getfield 39, 3) := by decide +kernel
theorem dX5_acknowledge_103 : decode cX5_acknowledge 103 = .ok (.aload_n 0, 1) := by decide +kernel
theorem dX5_acknowledge_104 : decode cX5_acknowledge 104 = .ok (.getfield 42, 3) := by decide +kernel
theorem dX5_acknowledge_107 : decode cX5_acknowledge 107 = .ok (.if_icmp .ne 8, 3) := by decide +kernel
theorem dX5_acknowledge_110 : decode cX5_acknowledge 110 = .ok (.aload_n 0, 1) := by decide +kernel
theorem dX5_acknowledge_111 : decode cX5_acknowledge 111 = .ok (.iconst 0, 1) := by decide +kernel
theorem dX5_acknowledge_112 : decode cX5_acknowledge 112 = .ok (.putfield 18, 3) := by decide +kernel
theorem dX5_acknowledge_115 : decode cX5_acknowledge 115 = .ok (.return_, 1) := by decide +kernel
theorem dX5_follow_0 : decode cX5_follow 0 = .ok (.aload_n 0, 1) := by decide +kernel
theorem dX5_follow_1 : decode cX5_follow 1 = .ok (.aload_n 1, 1) := by decide +kernel
theorem dX5_follow_2 : decode cX5_follow 2 = .ok (.getfield 30, 3) := by decide +kernel
theorem dX5_follow_5 : decode cX5_follow 5 = .ok (.iconst 2, 1) := by decide +kernel
theorem dX5_follow_6 : decode cX5_follow 6 = .ok (.iaload, 1) := by decide +kernel
theorem dX5_follow_7 : decode cX5_follow 7 = .ok (.invokevirtual 77, 3) := by decide +kernel
theorem dX5_follow_10 : decode cX5_follow 10 = .ok (.aload_n 0, 1) := by decide +kernel
theorem dX5_follow_11 : decode cX5_follow 11 = .ok (.getfield 18, 3) := by decide +kernel
theorem dX5_follow_14 : decode cX5_follow 14 = .ok (.if_ .ne 5, 3) := by decide +kernel
theorem dX5_follow_17 : decode cX5_follow 17 = .ok (.iconst 0, 1) := by decide +kernel
theorem dX5_follow_18 : decode cX5_follow 18 = .ok (.ireturn, 1) := by decide +kernel
theorem dX5_follow_19 : decode cX5_follow 19 = .ok (.aload_n 0, 1) := by decide +kernel
theorem dX5_follow_20 : decode cX5_follow 20 = .ok (.aload_n 1, 1) := by decide +kernel
theorem dX5_follow_21 : decode cX5_follow 21 = .ok (.getfield 30, 3) := by decide +kernel
theorem dX5_follow_24 : decode cX5_follow 24 = .ok (.iconst 4, 1) := by decide +kernel
theorem dX5_follow_25 : decode cX5_follow 25 = .ok (.iaload, 1) := by decide +kernel
theorem dX5_follow_26 : decode cX5_follow 26 = .ok (.putfield 51, 3) := by decide +kernel
theorem dX5_follow_29 : decode cX5_follow 29 = .ok (.aload_n 0, 1) := by decide +kernel
theorem dX5_follow_30 : decode cX5_follow 30 = .ok (.getfield 18, 3) := by decide +kernel
theorem dX5_follow_33 : decode cX5_follow 33 = .ok (.iconst 1, 1) := by decide +kernel
theorem dX5_follow_34 : decode cX5_follow 34 = .ok (.if_icmp .ne 5, 3) := by decide +kernel
theorem dX5_follow_37 : decode cX5_follow 37 = .ok (.iconst 0, 1) := by decide +kernel
theorem dX5_follow_38 : decode cX5_follow 38 = .ok (.ireturn, 1) := by decide +kernel
theorem dX5_follow_39 : decode cX5_follow 39 = .ok (.aload_n 0, 1) := by decide +kernel
theorem dX5_follow_40 : decode cX5_follow 40 = .ok (.aload_n 1, 1) := by decide +kernel
theorem dX5_follow_41 : decode cX5_follow 41 = .ok (.invokevirtual 81, 3) := by decide +kernel
theorem dX5_follow_44 : decode cX5_follow 44 = .ok (.iconst 1, 1) := by decide +kernel
theorem dX5_follow_45 : decode cX5_follow 45 = .ok (.ireturn, 1) := by decide +kernel
theorem dX5_takeIn_0 : decode cX5_takeIn 0 = .ok (.aload_n 0, 1) := by decide +kernel
theorem dX5_takeIn_1 : decode cX5_takeIn 1 = .ok (.getfield 18, 3) := by decide +kernel
theorem dX5_takeIn_4 : decode cX5_takeIn 4 = .ok (.iconst 2, 1) := by decide +kernel
theorem dX5_takeIn_5 : decode cX5_takeIn 5 = .ok (.if_icmp .ne 16, 3) := by decide +kernel
theorem dX5_takeIn_8 : decode cX5_takeIn 8 = .ok (.aload_n 1, 1) := by decide +kernel
theorem dX5_takeIn_9 : decode cX5_takeIn 9 = .ok (.getfield 30, 3) := by decide +kernel
theorem dX5_takeIn_12 : decode cX5_takeIn 12 = .ok (.iconst 1, 1) := by decide +kernel
theorem dX5_takeIn_13 : decode cX5_takeIn 13 = .ok (.iaload, 1) := by decide +kernel
theorem dX5_takeIn_14 : decode cX5_takeIn 14 = .ok (.aload_n 0, 1) := by decide +kernel
theorem dX5_takeIn_15 : decode cX5_takeIn 15 = .ok (.getfield 36, 3) := by decide +kernel
theorem dX5_takeIn_18 : decode cX5_takeIn 18 = .ok (.if_icmp .eq 4, 3) := by decide +kernel
theorem dX5_takeIn_21 : decode cX5_takeIn 21 = .ok (.return_, 1) := by decide +kernel
theorem dX5_takeIn_22 : decode cX5_takeIn 22 = .ok (.aload_n 1, 1) := by decide +kernel
theorem dX5_takeIn_23 : decode cX5_takeIn 23 = .ok (.getfield 85, 3) := by decide +kernel
theorem dX5_takeIn_26 : decode cX5_takeIn 26 = .ok (.iconst 5, 1) := by decide +kernel
theorem dX5_takeIn_27 : decode cX5_takeIn 27 = .ok (.isub, 1) := by decide +kernel
theorem dX5_takeIn_28 : decode cX5_takeIn 28 = .ok (.istore_n 2, 1) := by decide +kernel
theorem dX5_takeIn_29 : decode cX5_takeIn 29 = .ok (.iload_n 2, 1) := by decide +kernel
theorem dX5_takeIn_30 : decode cX5_takeIn 30 = .ok (.bipush 16, 2) := by decide +kernel
theorem dX5_takeIn_32 : decode cX5_takeIn 32 = .ok (.aload_n 0, 1) := by decide +kernel
theorem dX5_takeIn_33 : decode cX5_takeIn 33 = .ok (.getfield 48, 3) := by decide +kernel
theorem dX5_takeIn_36 : decode cX5_takeIn 36 = .ok (.isub, 1) := by decide +kernel
theorem dX5_takeIn_37 : decode cX5_takeIn 37 = .ok (.invokestatic 67, 3) := by decide +kernel
theorem dX5_takeIn_40 : decode cX5_takeIn 40 = .ok (.istore_n 3, 1) := by decide +kernel
theorem dX5_takeIn_41 : decode cX5_takeIn 41 = .ok (.iconst 0, 1) := by decide +kernel
theorem dX5_takeIn_42 : decode cX5_takeIn 42 = .ok (.istore 4, 2) := by decide +kernel
theorem dX5_takeIn_44 : decode cX5_takeIn 44 = .ok (.iload 4, 2) := by decide +kernel
theorem dX5_takeIn_46 : decode cX5_takeIn 46 = .ok (.iload_n 3, 1) := by decide +kernel
theorem dX5_takeIn_47 : decode cX5_takeIn 47 = .ok (.if_icmp .ge 30, 3) := by decide +kernel
theorem dX5_takeIn_50 : decode cX5_takeIn 50 = .ok (.aload_n 0, 1) := by decide +kernel
theorem dX5_takeIn_51 : decode cX5_takeIn 51 = .ok (.getfield 15, 3) := by decide +kernel
theorem dX5_takeIn_54 : decode cX5_takeIn 54 = .ok (.aload_n 0, 1) := by decide +kernel
theorem dX5_takeIn_55 : decode cX5_takeIn 55 = .ok (.getfield 48, 3) := by decide +kernel
theorem dX5_takeIn_58 : decode cX5_takeIn 58 = .ok (.iload 4, 2) := by decide +kernel
theorem dX5_takeIn_60 : decode cX5_takeIn 60 = .ok (.iadd, 1) := by decide +kernel
theorem dX5_takeIn_61 : decode cX5_takeIn 61 = .ok (.aload_n 1, 1) := by decide +kernel
theorem dX5_takeIn_62 : decode cX5_takeIn 62 = .ok (.getfield 30, 3) := by decide +kernel
theorem dX5_takeIn_65 : decode cX5_takeIn 65 = .ok (.iconst 5, 1) := by decide +kernel
theorem dX5_takeIn_66 : decode cX5_takeIn 66 = .ok (.iload 4, 2) := by decide +kernel
theorem dX5_takeIn_68 : decode cX5_takeIn 68 = .ok (.iadd, 1) := by decide +kernel
theorem dX5_takeIn_69 : decode cX5_takeIn 69 = .ok (.iaload, 1) := by decide +kernel
theorem dX5_takeIn_70 : decode cX5_takeIn 70 = .ok (.iastore, 1) := by decide +kernel
theorem dX5_takeIn_71 : decode cX5_takeIn 71 = .ok (.iinc 4 1, 3) := by decide +kernel
theorem dX5_takeIn_74 : decode cX5_takeIn 74 = .ok (.goto (-30), 3) := by decide +kernel
theorem dX5_takeIn_77 : decode cX5_takeIn 77 = .ok (.aload_n 0, 1) := by decide +kernel
theorem dX5_takeIn_78 : decode cX5_takeIn 78 = .ok (.dup, 1) := by decide +kernel
theorem dX5_takeIn_79 : decode cX5_takeIn 79 = .ok (.getfield 48, 3) := by decide +kernel
theorem dX5_takeIn_82 : decode cX5_takeIn 82 = .ok (.iload_n 3, 1) := by decide +kernel
theorem dX5_takeIn_83 : decode cX5_takeIn 83 = .ok (.iadd, 1) := by decide +kernel
theorem dX5_takeIn_84 : decode cX5_takeIn 84 = .ok (.putfield 48, 3) := by decide +kernel
theorem dX5_takeIn_87 : decode cX5_takeIn 87 = .ok (.aload_n 0, 1) := by decide +kernel
theorem dX5_takeIn_88 : decode cX5_takeIn 88 = .ok (.aload_n 0, 1) := by decide +kernel
theorem dX5_takeIn_89 : decode cX5_takeIn 89 = .ok (.getfield 36, 3) := by decide +kernel
theorem dX5_takeIn_92 : decode cX5_takeIn 92 = .ok (.iload_n 3, 1) := by decide +kernel
theorem dX5_takeIn_93 : decode cX5_takeIn 93 = .ok (.iadd, 1) := by decide +kernel
theorem dX5_takeIn_94 : decode cX5_takeIn 94 = .ok (.sipush 255, 3) := by decide +kernel
theorem dX5_takeIn_97 : decode cX5_takeIn 97 = .ok (.iand, 1) := by decide +kernel
theorem dX5_takeIn_98 : decode cX5_takeIn 98 = .ok (.putfield 36, 3) := by decide +kernel
theorem dX5_takeIn_101 : decode cX5_takeIn 101 = .ok (.iload_n 3, 1) := by decide +kernel
theorem dX5_takeIn_102 : decode cX5_takeIn 102 = .ok (.iload_n 2, 1) := by decide +kernel
theorem dX5_takeIn_103 : decode cX5_takeIn 103 = .ok (.if_icmp .ne 30, 3) := by decide +kernel
theorem dX5_takeIn_106 : decode cX5_takeIn 106 = .ok (.aload_n 1, 1) := by decide +kernel
theorem dX5_takeIn_107 : decode cX5_takeIn 107 = .ok (.iconst 1, 1) := by decide +kernel
theorem dX5_takeIn_108 : decode cX5_takeIn 108 = .ok (.invokevirtual 88, 3) := by decide +kernel
theorem dX5_takeIn_111 : decode cX5_takeIn 111 = .ok (.if_ .eq 22, 3) := by decide +kernel
theorem dX5_takeIn_114 : decode cX5_takeIn 114 = .ok (.aload_n 0, 1) := by decide +kernel
theorem dX5_takeIn_115 : decode cX5_takeIn 115 = .ok (.aload_n 0, 1) := by decide +kernel
theorem dX5_takeIn_116 : decode cX5_takeIn 116 = .ok (.getfield 36, 3) := by decide +kernel
theorem dX5_takeIn_119 : decode cX5_takeIn 119 = .ok (.iconst 1, 1) := by decide +kernel
theorem dX5_takeIn_120 : decode cX5_takeIn 120 = .ok (.iadd, 1) := by decide +kernel
theorem dX5_takeIn_121 : decode cX5_takeIn 121 = .ok (.sipush 255, 3) := by decide +kernel
theorem dX5_takeIn_124 : decode cX5_takeIn 124 = .ok (.iand, 1) := by decide +kernel
theorem dX5_takeIn_125 : decode cX5_takeIn 125 = .ok (.putfield 36, 3) := by decide +kernel
theorem dX5_takeIn_128 : decode cX5_takeIn 128 = .ok (.aload_n 0, 1) := by decide +kernel
theorem dX5_takeIn_129 : decode cX5_takeIn 129 = .ok (.iconst 3, 1) := by decide +kernel
theorem dX5_takeIn_130 : decode cX5_takeIn 130 = .ok (.putfield 18, 3) := by decide +kernel
theorem dX5_takeIn_133 : decode cX5_takeIn 133 = .ok (.return_, 1) := by decide +kernel
theorem dX5_lineLength_0 : decode cX5_lineLength 0 = .ok (.aload_n 0, 1) := by decide +kernel
theorem dX5_lineLength_1 : decode cX5_lineLength 1 = .ok (.getfield 48, 3) := by decide +kernel
theorem dX5_lineLength_4 : decode cX5_lineLength 4 = .ok (.bipush 7, 2) := by decide +kernel
theorem dX5_lineLength_6 : decode cX5_lineLength 6 = .ok (.invokestatic 67, 3) := by decide +kernel
theorem dX5_lineLength_9 : decode cX5_lineLength 9 = .ok (.istore_n 1, 1) := by decide +kernel
theorem dX5_lineLength_10 : decode cX5_lineLength 10 = .ok (.iconst 0, 1) := by decide +kernel
theorem dX5_lineLength_11 : decode cX5_lineLength 11 = .ok (.istore_n 2, 1) := by decide +kernel
theorem dX5_lineLength_12 : decode cX5_lineLength 12 = .ok (.iload_n 2, 1) := by decide +kernel
theorem dX5_lineLength_13 : decode cX5_lineLength 13 = .ok (.iload_n 1, 1) := by decide +kernel
theorem dX5_lineLength_14 : decode cX5_lineLength 14 = .ok (.if_icmp .ge 24, 3) := by decide +kernel
theorem dX5_lineLength_17 : decode cX5_lineLength 17 = .ok (.aload_n 0, 1) := by decide +kernel
theorem dX5_lineLength_18 : decode cX5_lineLength 18 = .ok (.getfield 15, 3) := by decide +kernel
theorem dX5_lineLength_21 : decode cX5_lineLength 21 = .ok (.iload_n 2, 1) := by decide +kernel
theorem dX5_lineLength_22 : decode cX5_lineLength 22 = .ok (.iaload, 1) := by decide +kernel
theorem dX5_lineLength_23 : decode cX5_lineLength 23 = .ok (.bipush 10, 2) := by decide +kernel
theorem dX5_lineLength_25 : decode cX5_lineLength 25 = .ok (.if_icmp .ne 7, 3) := by decide +kernel
theorem dX5_lineLength_28 : decode cX5_lineLength 28 = .ok (.iload_n 2, 1) := by decide +kernel
theorem dX5_lineLength_29 : decode cX5_lineLength 29 = .ok (.iconst 1, 1) := by decide +kernel
theorem dX5_lineLength_30 : decode cX5_lineLength 30 = .ok (.iadd, 1) := by decide +kernel
theorem dX5_lineLength_31 : decode cX5_lineLength 31 = .ok (.ireturn, 1) := by decide +kernel
theorem dX5_lineLength_32 : decode cX5_lineLength 32 = .ok (.iinc 2 1, 3) := by decide +kernel
theorem dX5_lineLength_35 : decode cX5_lineLength 35 = .ok (.goto (-23), 3) := by decide +kernel
theorem dX5_lineLength_38 : decode cX5_lineLength 38 = .ok (.iload_n 1, 1) := by decide +kernel
theorem dX5_lineLength_39 : decode cX5_lineLength 39 = .ok (.bipush 7, 2) := by decide +kernel
theorem dX5_lineLength_41 : decode cX5_lineLength 41 = .ok (.if_icmp .ne 8, 3) := by decide +kernel
theorem dX5_lineLength_44 : decode cX5_lineLength 44 = .ok (.bipush 7, 2) := by decide +kernel
theorem dX5_lineLength_46 : decode cX5_lineLength 46 = .ok (.goto 4, 3) := by decide +kernel
theorem dX5_lineLength_49 : decode cX5_lineLength 49 = .ok (.iconst 0, 1) := by decide +kernel
theorem dX5_lineLength_50 : decode cX5_lineLength 50 = .ok (.ireturn, 1) := by decide +kernel
theorem dX5_replaceLine_0 : decode cX5_replaceLine 0 = .ok (.aload_n 0, 1) := by decide +kernel
theorem dX5_replaceLine_1 : decode cX5_replaceLine 1 = .ok (.aload_n 0, 1) := by decide +kernel
theorem dX5_replaceLine_2 : decode cX5_replaceLine 2 = .ok (.getfield 15, 3) := by decide +kernel
theorem dX5_replaceLine_5 : decode cX5_replaceLine 5 = .ok (.aload_n 0, 1) := by decide +kernel
theorem dX5_replaceLine_6 : decode cX5_replaceLine 6 = .ok (.getfield 48, 3) := by decide +kernel
theorem dX5_replaceLine_9 : decode cX5_replaceLine 9 = .ok (.iload_n 1, 1) := by decide +kernel
theorem dX5_replaceLine_10 : decode cX5_replaceLine 10 = .ok (.invokestatic 73, 3) := by decide +kernel
theorem dX5_replaceLine_13 : decode cX5_replaceLine 13 = .ok (.putfield 48, 3) := by decide +kernel
theorem dX5_replaceLine_16 : decode cX5_replaceLine 16 = .ok (.iconst 0, 1) := by decide +kernel
theorem dX5_replaceLine_17 : decode cX5_replaceLine 17 = .ok (.istore 4, 2) := by decide +kernel
theorem dX5_replaceLine_19 : decode cX5_replaceLine 19 = .ok (.iload 4, 2) := by decide +kernel
theorem dX5_replaceLine_21 : decode cX5_replaceLine 21 = .ok (.iload_n 3, 1) := by decide +kernel
theorem dX5_replaceLine_22 : decode cX5_replaceLine 22 = .ok (.if_icmp .ge 25, 3) := by decide +kernel
theorem dX5_replaceLine_25 : decode cX5_replaceLine 25 = .ok (.aload_n 0, 1) := by decide +kernel
theorem dX5_replaceLine_26 : decode cX5_replaceLine 26 = .ok (.getfield 9, 3) := by decide +kernel
theorem dX5_replaceLine_29 : decode cX5_replaceLine 29 = .ok (.aload_n 0, 1) := by decide +kernel
theorem dX5_replaceLine_30 : decode cX5_replaceLine 30 = .ok (.getfield 45, 3) := by decide +kernel
theorem dX5_replaceLine_33 : decode cX5_replaceLine 33 = .ok (.iload 4, 2) := by decide +kernel
theorem dX5_replaceLine_35 : decode cX5_replaceLine 35 = .ok (.iadd, 1) := by decide +kernel
theorem dX5_replaceLine_36 : decode cX5_replaceLine 36 = .ok (.aload_n 2, 1) := by decide +kernel
theorem dX5_replaceLine_37 : decode cX5_replaceLine 37 = .ok (.iload 4, 2) := by decide +kernel
theorem dX5_replaceLine_39 : decode cX5_replaceLine 39 = .ok (.iaload, 1) := by decide +kernel
theorem dX5_replaceLine_40 : decode cX5_replaceLine 40 = .ok (.iastore, 1) := by decide +kernel
theorem dX5_replaceLine_41 : decode cX5_replaceLine 41 = .ok (.iinc 4 1, 3) := by decide +kernel
theorem dX5_replaceLine_44 : decode cX5_replaceLine 44 = .ok (.goto (-25), 3) := by decide +kernel
theorem dX5_replaceLine_47 : decode cX5_replaceLine 47 = .ok (.aload_n 0, 1) := by decide +kernel
theorem dX5_replaceLine_48 : decode cX5_replaceLine 48 = .ok (.dup, 1) := by decide +kernel
theorem dX5_replaceLine_49 : decode cX5_replaceLine 49 = .ok (.getfield 45, 3) := by decide +kernel
theorem dX5_replaceLine_52 : decode cX5_replaceLine 52 = .ok (.iload_n 3, 1) := by decide +kernel
theorem dX5_replaceLine_53 : decode cX5_replaceLine 53 = .ok (.iadd, 1) := by decide +kernel
theorem dX5_replaceLine_54 : decode cX5_replaceLine 54 = .ok (.putfield 45, 3) := by decide +kernel
theorem dX5_replaceLine_57 : decode cX5_replaceLine 57 = .ok (.return_, 1) := by decide +kernel
theorem dX5_nextSegmentSize_0 : decode cX5_nextSegmentSize 0 = .ok (.aload_n 0, 1) := by decide +kernel
theorem dX5_nextSegmentSize_1 : decode cX5_nextSegmentSize 1 = .ok (.getfield 51, 3) := by decide +kernel
theorem dX5_nextSegmentSize_4 : decode cX5_nextSegmentSize 4 = .ok (.bipush 8, 2) := by decide +kernel
theorem dX5_nextSegmentSize_6 : decode cX5_nextSegmentSize 6 = .ok (.aload_n 0, 1) := by decide +kernel
theorem dX5_nextSegmentSize_7 : decode cX5_nextSegmentSize 7 = .ok (.getfield 54, 3) := by decide +kernel
theorem dX5_nextSegmentSize_10 : decode cX5_nextSegmentSize 10 = .ok (.imul, 1) := by decide +kernel
theorem dX5_nextSegmentSize_11 : decode cX5_nextSegmentSize 11 = .ok (.invokestatic 67, 3) := by decide +kernel
theorem dX5_nextSegmentSize_14 : decode cX5_nextSegmentSize 14 = .ok (.aload_n 0, 1) := by decide +kernel
theorem dX5_nextSegmentSize_15 : decode cX5_nextSegmentSize 15 = .ok (.invokevirtual 63, 3) := by decide +kernel
theorem dX5_nextSegmentSize_18 : decode cX5_nextSegmentSize 18 = .ok (.isub, 1) := by decide +kernel
theorem dX5_nextSegmentSize_19 : decode cX5_nextSegmentSize 19 = .ok (.istore_n 1, 1) := by decide +kernel
theorem dX5_nextSegmentSize_20 : decode cX5_nextSegmentSize 20 = .ok (.aload_n 0, 1) := by decide +kernel
theorem dX5_nextSegmentSize_21 : decode cX5_nextSegmentSize 21 = .ok (.getfield 45, 3) := by decide +kernel
theorem dX5_nextSegmentSize_24 : decode cX5_nextSegmentSize 24 = .ok (.aload_n 0, 1) := by decide +kernel
theorem dX5_nextSegmentSize_25 : decode cX5_nextSegmentSize 25 = .ok (.invokevirtual 63, 3) := by decide +kernel
theorem dX5_nextSegmentSize_28 : decode cX5_nextSegmentSize 28 = .ok (.isub, 1) := by decide +kernel
theorem dX5_nextSegmentSize_29 : decode cX5_nextSegmentSize 29 = .ok (.istore_n 2, 1) := by decide +kernel
theorem dX5_nextSegmentSize_30 : decode cX5_nextSegmentSize 30 = .ok (.iconst 0, 1) := by decide +kernel
theorem dX5_nextSegmentSize_31 : decode cX5_nextSegmentSize 31 = .ok (.bipush 8, 2) := by decide +kernel
theorem dX5_nextSegmentSize_33 : decode cX5_nextSegmentSize 33 = .ok (.iload_n 1, 1) := by decide +kernel
theorem dX5_nextSegmentSize_34 : decode cX5_nextSegmentSize 34 = .ok (.iload_n 2, 1) := by decide +kernel
theorem dX5_nextSegmentSize_35 : decode cX5_nextSegmentSize 35 = .ok (.invokestatic 67, 3) := by decide +kernel
theorem dX5_nextSegmentSize_38 : decode cX5_nextSegmentSize 38 = .ok (.invokestatic 67, 3) := by decide +kernel
theorem dX5_nextSegmentSize_41 : decode cX5_nextSegmentSize 41 = .ok (.invokestatic 92, 3) := by decide +kernel
theorem dX5_nextSegmentSize_44 : decode cX5_nextSegmentSize 44 = .ok (.ireturn, 1) := by decide +kernel
theorem dX5_canEnd_0 : decode cX5_canEnd 0 = .ok (.aload_n 0, 1) := by decide +kernel
theorem dX5_canEnd_1 : decode cX5_canEnd 1 = .ok (.getfield 18, 3) := by decide +kernel
theorem dX5_canEnd_4 : decode cX5_canEnd 4 = .ok (.iconst 3, 1) := by decide +kernel
theorem dX5_canEnd_5 : decode cX5_canEnd 5 = .ok (.if_icmp .ne 25, 3) := by decide +kernel
theorem dX5_canEnd_8 : decode cX5_canEnd 8 = .ok (.aload_n 0, 1) := by decide +kernel
theorem dX5_canEnd_9 : decode cX5_canEnd 9 = .ok (.invokevirtual 63, 3) := by decide +kernel
theorem dX5_canEnd_12 : decode cX5_canEnd 12 = .ok (.aload_n 0, 1) := by decide +kernel
theorem dX5_canEnd_13 : decode cX5_canEnd 13 = .ok (.getfield 45, 3) := by decide +kernel
theorem dX5_canEnd_16 : decode cX5_canEnd 16 = .ok (.if_icmp .ne 14, 3) := by decide +kernel
theorem dX5_canEnd_19 : decode cX5_canEnd 19 = .ok (.aload_n 0, 1) := by decide +kernel
theorem dX5_canEnd_20 : decode cX5_canEnd 20 = .ok (.invokevirtual 95, 3) := by decide +kernel
theorem dX5_canEnd_23 : decode cX5_canEnd 23 = .ok (.if_ .ne 7, 3) := by decide +kernel
theorem dX5_canEnd_26 : decode cX5_canEnd 26 = .ok (.iconst 1, 1) := by decide +kernel
theorem dX5_canEnd_27 : decode cX5_canEnd 27 = .ok (.goto 4, 3) := by decide +kernel
theorem dX5_canEnd_30 : decode cX5_canEnd 30 = .ok (.iconst 0, 1) := by decide +kernel
theorem dX5_canEnd_31 : decode cX5_canEnd 31 = .ok (.ireturn, 1) := by decide +kernel
theorem dX5_tell_0 : decode cX5_tell 0 = .ok (.iload_n 1, 1) := by decide +kernel
theorem dX5_tell_1 : decode cX5_tell 1 = .ok (.tableswitch 159 0 11 #[63, 71, 79, 87, 95, 103, 111, 119, 127, 135, 143, 151], 63) := by decide +kernel
theorem dX5_tell_64 : decode cX5_tell 64 = .ok (.aload_n 0, 1) := by decide +kernel
theorem dX5_tell_65 : decode cX5_tell 65 = .ok (.getfield 18, 3) := by decide +kernel
theorem dX5_tell_68 : decode cX5_tell 68 = .ok (.istore_n 2, 1) := by decide +kernel
theorem dX5_tell_69 : decode cX5_tell 69 = .ok (.goto 93, 3) := by decide +kernel
theorem dX5_tell_72 : decode cX5_tell 72 = .ok (.aload_n 0, 1) := by decide +kernel
theorem dX5_tell_73 : decode cX5_tell 73 = .ok (.getfield 27, 3) := by decide +kernel
theorem dX5_tell_76 : decode cX5_tell 76 = .ok (.istore_n 2, 1) := by decide +kernel
theorem dX5_tell_77 : decode cX5_tell 77 = .ok (.goto 85, 3) := by decide +kernel
theorem dX5_tell_80 : decode cX5_tell 80 = .ok (.aload_n 0, 1) := by decide +kernel
theorem dX5_tell_81 : decode cX5_tell 81 = .ok (.getfield 33, 3) := by decide +kernel
theorem dX5_tell_84 : decode cX5_tell 84 = .ok (.istore_n 2, 1) := by decide +kernel
theorem dX5_tell_85 : decode cX5_tell 85 = .ok (.goto 77, 3) := by decide +kernel
theorem dX5_tell_88 : decode cX5_tell 88 = .ok (.aload_n 0, 1) := by decide +kernel
theorem dX5_tell_89 : decode cX5_tell 89 = .ok (.getfield 36, 3) := by decide +kernel
theorem dX5_tell_92 : decode cX5_tell 92 = .ok (.istore_n 2, 1) := by decide +kernel
theorem dX5_tell_93 : decode cX5_tell 93 = .ok (.goto 69, 3) := by decide +kernel
theorem dX5_tell_96 : decode cX5_tell 96 = .ok (.aload_n 0, 1) := by decide +kernel
theorem dX5_tell_97 : decode cX5_tell 97 = .ok (.getfield 39, 3) := by decide +kernel
theorem dX5_tell_100 : decode cX5_tell 100 = .ok (.istore_n 2, 1) := by decide +kernel
theorem dX5_tell_101 : decode cX5_tell 101 = .ok (.goto 61, 3) := by decide +kernel
theorem dX5_tell_104 : decode cX5_tell 104 = .ok (.aload_n 0, 1) := by decide +kernel
theorem dX5_tell_105 : decode cX5_tell 105 = .ok (.getfield 42, 3) := by decide +kernel
theorem dX5_tell_108 : decode cX5_tell 108 = .ok (.istore_n 2, 1) := by decide +kernel
theorem dX5_tell_109 : decode cX5_tell 109 = .ok (.goto 53, 3) := by decide +kernel
theorem dX5_tell_112 : decode cX5_tell 112 = .ok (.aload_n 0, 1) := by decide +kernel
theorem dX5_tell_113 : decode cX5_tell 113 = .ok (.getfield 45, 3) := by decide +kernel
theorem dX5_tell_116 : decode cX5_tell 116 = .ok (.istore_n 2, 1) := by decide +kernel
theorem dX5_tell_117 : decode cX5_tell 117 = .ok (.goto 45, 3) := by decide +kernel
theorem dX5_tell_120 : decode cX5_tell 120 = .ok (.aload_n 0, 1) := by decide +kernel
theorem dX5_tell_121 : decode cX5_tell 121 = .ok (.getfield 48, 3) := by decide +kernel
theorem dX5_tell_124 : decode cX5_tell 124 = .ok (.istore_n 2, 1) := by decide +kernel
theorem dX5_tell_125 : decode cX5_tell 125 = .ok (.goto 37, 3) := by decide +kernel
theorem dX5_tell_128 : decode cX5_tell 128 = .ok (.aload_n 0, 1) := by decide +kernel
theorem dX5_tell_129 : decode cX5_tell 129 = .ok (.getfield 51, 3) := by decide +kernel
theorem dX5_tell_132 : decode cX5_tell 132 = .ok (.istore_n 2, 1) := by decide +kernel
theorem dX5_tell_133 : decode cX5_tell 133 = .ok (.goto 29, 3) := by decide +kernel
theorem dX5_tell_136 : decode cX5_tell 136 = .ok (.aload_n 0, 1) := by decide +kernel
theorem dX5_tell_137 : decode cX5_tell 137 = .ok (.getfield 54, 3) := by decide +kernel
theorem dX5_tell_140 : decode cX5_tell 140 = .ok (.istore_n 2, 1) := by decide +kernel
theorem dX5_tell_141 : decode cX5_tell 141 = .ok (.goto 21, 3) := by decide +kernel
theorem dX5_tell_144 : decode cX5_tell 144 = .ok (.aload_n 0, 1) := by decide +kernel
theorem dX5_tell_145 : decode cX5_tell 145 = .ok (.getfield 57, 3) := by decide +kernel
theorem dX5_tell_148 : decode cX5_tell 148 = .ok (.istore_n 2, 1) := by decide +kernel
theorem dX5_tell_149 : decode cX5_tell 149 = .ok (.goto 13, 3) := by decide +kernel
theorem dX5_tell_152 : decode cX5_tell 152 = .ok (.aload_n 0, 1) := by decide +kernel
theorem dX5_tell_153 : decode cX5_tell 153 = .ok (.getfield 60, 3) := by decide +kernel
theorem dX5_tell_156 : decode cX5_tell 156 = .ok (.istore_n 2, 1) := by decide +kernel
theorem dX5_tell_157 : decode cX5_tell 157 = .ok (.goto 5, 3) := by decide +kernel
theorem dX5_tell_160 : decode cX5_tell 160 = .ok (.iconst (-1), 1) := by decide +kernel
theorem dX5_tell_161 : decode cX5_tell 161 = .ok (.ireturn, 1) := by decide +kernel
theorem dX5_tell_162 : decode cX5_tell 162 = .ok (.aload_n 0, 1) := by decide +kernel
theorem dX5_tell_163 : decode cX5_tell 163 = .ok (.getfield 18, 3) := by decide +kernel
theorem dX5_tell_166 : decode cX5_tell 166 = .ok (.if_ .ne 7, 3) := by decide +kernel
theorem dX5_tell_169 : decode cX5_tell 169 = .ok (.iconst 0, 1) := by decide +kernel
theorem dX5_tell_170 : decode cX5_tell 170 = .ok (.goto 4, 3) := by decide +kernel
theorem dX5_tell_173 : decode cX5_tell 173 = .ok (.iload_n 2, 1) := by decide +kernel
theorem dX5_tell_174 : decode cX5_tell 174 = .ok (.ireturn, 1) := by decide +kernel
theorem dX5_removeFirst_0 : decode cX5_removeFirst 0 = .ok (.iload_n 1, 1) := by decide +kernel
theorem dX5_removeFirst_1 : decode cX5_removeFirst 1 = .ok (.iload_n 2, 1) := by decide +kernel
theorem dX5_removeFirst_2 : decode cX5_removeFirst 2 = .ok (.isub, 1) := by decide +kernel
theorem dX5_removeFirst_3 : decode cX5_removeFirst 3 = .ok (.istore_n 3, 1) := by decide +kernel
theorem dX5_removeFirst_4 : decode cX5_removeFirst 4 = .ok (.iconst 0, 1) := by decide +kernel
theorem dX5_removeFirst_5 : decode cX5_removeFirst 5 = .ok (.istore 4, 2) := by decide +kernel
theorem dX5_removeFirst_7 : decode cX5_removeFirst 7 = .ok (.iload 4, 2) := by decide +kernel
theorem dX5_removeFirst_9 : decode cX5_removeFirst 9 = .ok (.iload_n 3, 1) := by decide +kernel
theorem dX5_removeFirst_10 : decode cX5_removeFirst 10 = .ok (.if_icmp .ge 19, 3) := by decide +kernel
theorem dX5_removeFirst_13 : decode cX5_removeFirst 13 = .ok (.aload_n 0, 1) := by decide +kernel
theorem dX5_removeFirst_14 : decode cX5_removeFirst 14 = .ok (.iload 4, 2) := by decide +kernel
theorem dX5_removeFirst_16 : decode cX5_removeFirst 16 = .ok (.aload_n 0, 1) := by decide +kernel
theorem dX5_removeFirst_17 : decode cX5_removeFirst 17 = .ok (.iload_n 2, 1) := by decide +kernel
theorem dX5_removeFirst_18 : decode cX5_removeFirst 18 = .ok (.iload 4, 2) := by decide +kernel
theorem dX5_removeFirst_20 : decode cX5_removeFirst 20 = .ok (.iadd, 1) := by decide +kernel
theorem dX5_removeFirst_21 : decode cX5_removeFirst 21 = .ok (.iaload, 1) := by decide +kernel
theorem dX5_removeFirst_22 : decode cX5_removeFirst 22 = .ok (.iastore, 1) := by decide +kernel
theorem dX5_removeFirst_23 : decode cX5_removeFirst 23 = .ok (.iinc 4 1, 3) := by decide +kernel
theorem dX5_removeFirst_26 : decode cX5_removeFirst 26 = .ok (.goto (-19), 3) := by decide +kernel
theorem dX5_removeFirst_29 : decode cX5_removeFirst 29 = .ok (.iload_n 3, 1) := by decide +kernel
theorem dX5_removeFirst_30 : decode cX5_removeFirst 30 = .ok (.ireturn, 1) := by decide +kernel
