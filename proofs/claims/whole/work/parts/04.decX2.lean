theorem dX2_init_0 : decode cX2_init 0 = .ok (.aload_n 0, 1) := by decide +kernel
theorem dX2_init_1 : decode cX2_init 1 = .ok (.invokespecial 3, 3) := by decide +kernel
theorem dX2_init_4 : decode cX2_init 4 = .ok (.aload_n 0, 1) := by decide +kernel
theorem dX2_init_5 : decode cX2_init 5 = .ok (.bipush 32, 2) := by decide +kernel
theorem dX2_init_7 : decode cX2_init 7 = .ok (.newarray .int, 2) := by decide +kernel
theorem dX2_init_9 : decode cX2_init 9 = .ok (.putfield 9, 3) := by decide +kernel
theorem dX2_init_12 : decode cX2_init 12 = .ok (.return_, 1) := by decide +kernel
theorem dX2_fill_0 : decode cX2_fill 0 = .ok (.aload_n 0, 1) := by decide +kernel
theorem dX2_fill_1 : decode cX2_fill 1 = .ok (.iload_n 1, 1) := by decide +kernel
theorem dX2_fill_2 : decode cX2_fill 2 = .ok (.putfield 15, 3) := by decide +kernel
theorem dX2_fill_5 : decode cX2_fill 5 = .ok (.aload_n 0, 1) := by decide +kernel
theorem dX2_fill_6 : decode cX2_fill 6 = .ok (.iload_n 2, 1) := by decide +kernel
theorem dX2_fill_7 : decode cX2_fill 7 = .ok (.putfield 19, 3) := by decide +kernel
theorem dX2_fill_10 : decode cX2_fill 10 = .ok (.aload_n 0, 1) := by decide +kernel
theorem dX2_fill_11 : decode cX2_fill 11 = .ok (.iload 5, 2) := by decide +kernel
theorem dX2_fill_13 : decode cX2_fill 13 = .ok (.putfield 22, 3) := by decide +kernel
theorem dX2_fill_16 : decode cX2_fill 16 = .ok (.iconst 0, 1) := by decide +kernel
theorem dX2_fill_17 : decode cX2_fill 17 = .ok (.istore 6, 2) := by decide +kernel
theorem dX2_fill_19 : decode cX2_fill 19 = .ok (.iload 6, 2) := by decide +kernel
theorem dX2_fill_21 : decode cX2_fill 21 = .ok (.iload 5, 2) := by decide +kernel
theorem dX2_fill_23 : decode cX2_fill 23 = .ok (.if_icmp .ge 23, 3) := by decide +kernel
theorem dX2_fill_26 : decode cX2_fill 26 = .ok (.aload_n 0, 1) := by decide +kernel
theorem dX2_fill_27 : decode cX2_fill 27 = .ok (.getfield 9, 3) := by decide +kernel
theorem dX2_fill_30 : decode cX2_fill 30 = .ok (.iload 6, 2) := by decide +kernel
theorem dX2_fill_32 : decode cX2_fill 32 = .ok (.aload_n 3, 1) := by decide +kernel
theorem dX2_fill_33 : decode cX2_fill 33 = .ok (.iload 4, 2) := by decide +kernel
theorem dX2_fill_35 : decode cX2_fill 35 = .ok (.iload 6, 2) := by decide +kernel
theorem dX2_fill_37 : decode cX2_fill 37 = .ok (.iadd, 1) := by decide +kernel
theorem dX2_fill_38 : decode cX2_fill 38 = .ok (.iaload, 1) := by decide +kernel
theorem dX2_fill_39 : decode cX2_fill 39 = .ok (.iastore, 1) := by decide +kernel
theorem dX2_fill_40 : decode cX2_fill 40 = .ok (.iinc 6 1, 3) := by decide +kernel
theorem dX2_fill_43 : decode cX2_fill 43 = .ok (.goto (-24), 3) := by decide +kernel
theorem dX2_fill_46 : decode cX2_fill 46 = .ok (.return_, 1) := by decide +kernel
theorem dX2_isEchoAsked_0 : decode cX2_isEchoAsked 0 = .ok (.aload_n 0, 1) := by decide +kernel
theorem dX2_isEchoAsked_1 : decode cX2_isEchoAsked 1 = .ok (.getfield 19, 3) := by decide +kernel
theorem dX2_isEchoAsked_4 : decode cX2_isEchoAsked 4 = .ok (.iconst 1, 1) := by decide +kernel
theorem dX2_isEchoAsked_5 : decode cX2_isEchoAsked 5 = .ok (.if_icmp .ne 25, 3) := by decide +kernel
theorem dX2_isEchoAsked_8 : decode cX2_isEchoAsked 8 = .ok (.aload_n 0, 1) := by decide +kernel
theorem dX2_isEchoAsked_9 : decode cX2_isEchoAsked 9 = .ok (.getfield 22, 3) := by decide +kernel
theorem dX2_isEchoAsked_12 : decode cX2_isEchoAsked 12 = .ok (.if_ .le 18, 3) := by decide +kernel
theorem dX2_isEchoAsked_15 : decode cX2_isEchoAsked 15 = .ok (.aload_n 0, 1) := by decide +kernel
theorem dX2_isEchoAsked_16 : decode cX2_isEchoAsked 16 = .ok (.getfield 9, 3) := by decide +kernel
theorem dX2_isEchoAsked_19 : decode cX2_isEchoAsked 19 = .ok (.iconst 0, 1) := by decide +kernel
theorem dX2_isEchoAsked_20 : decode cX2_isEchoAsked 20 = .ok (.iaload, 1) := by decide +kernel
theorem dX2_isEchoAsked_21 : decode cX2_isEchoAsked 21 = .ok (.bipush 8, 2) := by decide +kernel
theorem dX2_isEchoAsked_23 : decode cX2_isEchoAsked 23 = .ok (.if_icmp .ne 7, 3) := by decide +kernel
theorem dX2_isEchoAsked_26 : decode cX2_isEchoAsked 26 = .ok (.iconst 1, 1) := by decide +kernel
theorem dX2_isEchoAsked_27 : decode cX2_isEchoAsked 27 = .ok (.goto 4, 3) := by decide +kernel
theorem dX2_isEchoAsked_30 : decode cX2_isEchoAsked 30 = .ok (.iconst 0, 1) := by decide +kernel
theorem dX2_isEchoAsked_31 : decode cX2_isEchoAsked 31 = .ok (.ireturn, 1) := by decide +kernel
theorem dX2_isSegment_0 : decode cX2_isSegment 0 = .ok (.aload_n 0, 1) := by decide +kernel
theorem dX2_isSegment_1 : decode cX2_isSegment 1 = .ok (.getfield 19, 3) := by decide +kernel
theorem dX2_isSegment_4 : decode cX2_isSegment 4 = .ok (.bipush 6, 2) := by decide +kernel
theorem dX2_isSegment_6 : decode cX2_isSegment 6 = .ok (.if_icmp .ne 15, 3) := by decide +kernel
theorem dX2_isSegment_9 : decode cX2_isSegment 9 = .ok (.aload_n 0, 1) := by decide +kernel
theorem dX2_isSegment_10 : decode cX2_isSegment 10 = .ok (.getfield 22, 3) := by decide +kernel
theorem dX2_isSegment_13 : decode cX2_isSegment 13 = .ok (.iconst 5, 1) := by decide +kernel
theorem dX2_isSegment_14 : decode cX2_isSegment 14 = .ok (.if_icmp .lt 7, 3) := by decide +kernel
theorem dX2_isSegment_17 : decode cX2_isSegment 17 = .ok (.iconst 1, 1) := by decide +kernel
theorem dX2_isSegment_18 : decode cX2_isSegment 18 = .ok (.goto 4, 3) := by decide +kernel
theorem dX2_isSegment_21 : decode cX2_isSegment 21 = .ok (.iconst 0, 1) := by decide +kernel
theorem dX2_isSegment_22 : decode cX2_isSegment 22 = .ok (.ireturn, 1) := by decide +kernel
theorem dX2_hasFlag_0 : decode cX2_hasFlag 0 = .ok (.aload_n 0, 1) := by decide +kernel
theorem dX2_hasFlag_1 : decode cX2_hasFlag 1 = .ok (.getfield 9, 3) := by decide +kernel
theorem dX2_hasFlag_4 : decode cX2_hasFlag 4 = .ok (.iconst 3, 1) := by decide +kernel
theorem dX2_hasFlag_5 : decode cX2_hasFlag 5 = .ok (.iaload, 1) := by decide +kernel
theorem dX2_hasFlag_6 : decode cX2_hasFlag 6 = .ok (.iload_n 1, 1) := by decide +kernel
theorem dX2_hasFlag_7 : decode cX2_hasFlag 7 = .ok (.iand, 1) := by decide +kernel
theorem dX2_hasFlag_8 : decode cX2_hasFlag 8 = .ok (.if_ .eq 7, 3) := by decide +kernel
theorem dX2_hasFlag_11 : decode cX2_hasFlag 11 = .ok (.iconst 1, 1) := by decide +kernel
theorem dX2_hasFlag_12 : decode cX2_hasFlag 12 = .ok (.goto 4, 3) := by decide +kernel
theorem dX2_hasFlag_15 : decode cX2_hasFlag 15 = .ok (.iconst 0, 1) := by decide +kernel
theorem dX2_hasFlag_16 : decode cX2_hasFlag 16 = .ok (.ireturn, 1) := by decide +kernel
theorem dX2_wantsAck_0 : decode cX2_wantsAck 0 = .ok (.aload_n 0, 1) := by decide +kernel
theorem dX2_wantsAck_1 : decode cX2_wantsAck 1 = .ok (.getfield 22, 3) := by decide +kernel
theorem dX2_wantsAck_4 : decode cX2_wantsAck 4 = .ok (.iconst 5, 1) := by decide +kernel
theorem dX2_wantsAck_5 : decode cX2_wantsAck 5 = .ok (.if_icmp .gt 11, 3) := by decide +kernel
theorem dX2_wantsAck_8 : decode cX2_wantsAck 8 = .ok (.aload_n 0, 1) := by decide +kernel
theorem dX2_wantsAck_9 : decode cX2_wantsAck 9 = .ok (.iconst 1, 1) := by decide +kernel
theorem dX2_wantsAck_10 : decode cX2_wantsAck 10 = .ok (.invokevirtual 25, 3) := by decide +kernel
theorem dX2_wantsAck_13 : decode cX2_wantsAck 13 = .ok (.if_ .eq 7, 3) := by decide +kernel
theorem dX2_wantsAck_16 : decode cX2_wantsAck 16 = .ok (.iconst 1, 1) := by decide +kernel
theorem dX2_wantsAck_17 : decode cX2_wantsAck 17 = .ok (.goto 4, 3) := by decide +kernel
theorem dX2_wantsAck_20 : decode cX2_wantsAck 20 = .ok (.iconst 0, 1) := by decide +kernel
theorem dX2_wantsAck_21 : decode cX2_wantsAck 21 = .ok (.ireturn, 1) := by decide +kernel
