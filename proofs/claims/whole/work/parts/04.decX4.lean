theorem dX4_init_0 : decode cX4_init 0 = .ok (.aload_n 0, 1) := by decide +kernel
theorem dX4_init_1 : decode cX4_init 1 = .ok (.invokespecial 3, 3) := by decide +kernel
theorem dX4_init_4 : decode cX4_init 4 = .ok (.aload_n 0, 1) := by decide +kernel
theorem dX4_init_5 : decode cX4_init 5 = .ok (.bipush 6, 2) := by decide +kernel
theorem dX4_init_7 : decode cX4_init 7 = .ok (.anewarray 9, 3) := by decide +kernel
theorem dX4_init_10 : decode cX4_init 10 = .ok (.putfield 11, 3) := by decide +kernel
theorem dX4_init_13 : decode cX4_init 13 = .ok (.aload_n 0, 1) := by decide +kernel
theorem dX4_init_14 : decode cX4_init 14 = .ok (.bipush 18, 2) := by decide +kernel
theorem dX4_init_16 : decode cX4_init 16 = .ok (.newarray .int, 2) := by decide +kernel
theorem dX4_init_18 : decode cX4_init 18 = .ok (.putfield 17, 3) := by decide +kernel
theorem dX4_init_21 : decode cX4_init 21 = .ok (.iconst 0, 1) := by decide +kernel
theorem dX4_init_22 : decode cX4_init 22 = .ok (.istore_n 1, 1) := by decide +kernel
theorem dX4_init_23 : decode cX4_init 23 = .ok (.iload_n 1, 1) := by decide +kernel
theorem dX4_init_24 : decode cX4_init 24 = .ok (.bipush 6, 2) := by decide +kernel
theorem dX4_init_26 : decode cX4_init 26 = .ok (.if_icmp .ge 22, 3) := by decide +kernel
theorem dX4_init_29 : decode cX4_init 29 = .ok (.aload_n 0, 1) := by decide +kernel
theorem dX4_init_30 : decode cX4_init 30 = .ok (.getfield 11, 3) := by decide +kernel
theorem dX4_init_33 : decode cX4_init 33 = .ok (.iload_n 1, 1) := by decide +kernel
theorem dX4_init_34 : decode cX4_init 34 = .ok (.new 9, 3) := by decide +kernel
theorem dX4_init_37 : decode cX4_init 37 = .ok (.dup, 1) := by decide +kernel
theorem dX4_init_38 : decode cX4_init 38 = .ok (.invokespecial 21, 3) := by decide +kernel
theorem dX4_init_41 : decode cX4_init 41 = .ok (.aastore, 1) := by decide +kernel
theorem dX4_init_42 : decode cX4_init 42 = .ok (.iinc 1 1, 3) := by decide +kernel
theorem dX4_init_45 : decode cX4_init 45 = .ok (.goto (-22), 3) := by decide +kernel
theorem dX4_init_48 : decode cX4_init 48 = .ok (.return_, 1) := by decide +kernel
theorem dX4_answerTo_0 : decode cX4_answerTo 0 = .ok (.aload_n 0, 1) := by decide +kernel
theorem dX4_answerTo_1 : decode cX4_answerTo 1 = .ok (.iconst 0, 1) := by decide +kernel
theorem dX4_answerTo_2 : decode cX4_answerTo 2 = .ok (.putfield 22, 3) := by decide +kernel
theorem dX4_answerTo_5 : decode cX4_answerTo 5 = .ok (.aload_n 1, 1) := by decide +kernel
theorem dX4_answerTo_6 : decode cX4_answerTo 6 = .ok (.iload_n 2, 1) := by decide +kernel
theorem dX4_answerTo_7 : decode cX4_answerTo 7 = .ok (.invokestatic 26, 3) := by decide +kernel
theorem dX4_answerTo_10 : decode cX4_answerTo 10 = .ok (.if_ .ne 12, 3) := by decide +kernel
theorem dX4_answerTo_13 : decode cX4_answerTo 13 = .ok (.aload_n 0, 1) := by decide +kernel
theorem dX4_answerTo_14 : decode cX4_answerTo 14 = .ok (.bipush 48, 2) := by decide +kernel
theorem dX4_answerTo_16 : decode cX4_answerTo 16 = .ok (.invokevirtual 30, 3) := by decide +kernel
theorem dX4_answerTo_19 : decode cX4_answerTo 19 = .ok (.goto 13, 3) := by decide +kernel
theorem dX4_answerTo_22 : decode cX4_answerTo 22 = .ok (.aload_n 0, 1) := by decide +kernel
theorem dX4_answerTo_23 : decode cX4_answerTo 23 = .ok (.aload_n 0, 1) := by decide +kernel
theorem dX4_answerTo_24 : decode cX4_answerTo 24 = .ok (.aload_n 1, 1) := by decide +kernel
theorem dX4_answerTo_25 : decode cX4_answerTo 25 = .ok (.iload_n 2, 1) := by decide +kernel
theorem dX4_answerTo_26 : decode cX4_answerTo 26 = .ok (.invokevirtual 34, 3) := by decide +kernel
theorem dX4_answerTo_29 : decode cX4_answerTo 29 = .ok (.invokevirtual 38, 3) := by decide +kernel
theorem dX4_answerTo_32 : decode cX4_answerTo 32 = .ok (.aload_n 0, 1) := by decide +kernel
theorem dX4_answerTo_33 : decode cX4_answerTo 33 = .ok (.bipush 10, 2) := by decide +kernel
theorem dX4_answerTo_35 : decode cX4_answerTo 35 = .ok (.invokevirtual 30, 3) := by decide +kernel
theorem dX4_answerTo_38 : decode cX4_answerTo 38 = .ok (.return_, 1) := by decide +kernel
theorem dX4_isRequest_0 : decode cX4_isRequest 0 = .ok (.iload_n 1, 1) := by decide +kernel
theorem dX4_isRequest_1 : decode cX4_isRequest 1 = .ok (.iconst 3, 1) := by decide +kernel
theorem dX4_isRequest_2 : decode cX4_isRequest 2 = .ok (.if_icmp .lt 9, 3) := by decide +kernel
theorem dX4_isRequest_5 : decode cX4_isRequest 5 = .ok (.iload_n 1, 1) := by decide +kernel
theorem dX4_isRequest_6 : decode cX4_isRequest 6 = .ok (.bipush 6, 2) := by decide +kernel
theorem dX4_isRequest_8 : decode cX4_isRequest 8 = .ok (.if_icmp .le 5, 3) := by decide +kernel
theorem dX4_isRequest_11 : decode cX4_isRequest 11 = .ok (.iconst 0, 1) := by decide +kernel
theorem dX4_isRequest_12 : decode cX4_isRequest 12 = .ok (.ireturn, 1) := by decide +kernel
theorem dX4_isRequest_13 : decode cX4_isRequest 13 = .ok (.iconst 1, 1) := by decide +kernel
theorem dX4_isRequest_14 : decode cX4_isRequest 14 = .ok (.istore_n 2, 1) := by decide +kernel
theorem dX4_isRequest_15 : decode cX4_isRequest 15 = .ok (.iload_n 2, 1) := by decide +kernel
theorem dX4_isRequest_16 : decode cX4_isRequest 16 = .ok (.iload_n 1, 1) := by decide +kernel
theorem dX4_isRequest_17 : decode cX4_isRequest 17 = .ok (.iconst 1, 1) := by decide +kernel
theorem dX4_isRequest_18 : decode cX4_isRequest 18 = .ok (.isub, 1) := by decide +kernel
theorem dX4_isRequest_19 : decode cX4_isRequest 19 = .ok (.if_icmp .ge 20, 3) := by decide +kernel
theorem dX4_isRequest_22 : decode cX4_isRequest 22 = .ok (.aload_n 0, 1) := by decide +kernel
theorem dX4_isRequest_23 : decode cX4_isRequest 23 = .ok (.iload_n 2, 1) := by decide +kernel
theorem dX4_isRequest_24 : decode cX4_isRequest 24 = .ok (.iaload, 1) := by decide +kernel
theorem dX4_isRequest_25 : decode cX4_isRequest 25 = .ok (.invokestatic 42, 3) := by decide +kernel
theorem dX4_isRequest_28 : decode cX4_isRequest 28 = .ok (.if_ .ne 5, 3) := by decide +kernel
theorem dX4_isRequest_31 : decode cX4_isRequest 31 = .ok (.iconst 0, 1) := by decide +kernel
theorem dX4_isRequest_32 : decode cX4_isRequest 32 = .ok (.ireturn, 1) := by decide +kernel
theorem dX4_isRequest_33 : decode cX4_isRequest 33 = .ok (.iinc 2 1, 3) := by decide +kernel
theorem dX4_isRequest_36 : decode cX4_isRequest 36 = .ok (.goto (-21), 3) := by decide +kernel
theorem dX4_isRequest_39 : decode cX4_isRequest 39 = .ok (.aload_n 0, 1) := by decide +kernel
theorem dX4_isRequest_40 : decode cX4_isRequest 40 = .ok (.iconst 0, 1) := by decide +kernel
theorem dX4_isRequest_41 : decode cX4_isRequest 41 = .ok (.iaload, 1) := by decide +kernel
theorem dX4_isRequest_42 : decode cX4_isRequest 42 = .ok (.bipush 71, 2) := by decide +kernel
theorem dX4_isRequest_44 : decode cX4_isRequest 44 = .ok (.if_icmp .ne 17, 3) := by decide +kernel
theorem dX4_isRequest_47 : decode cX4_isRequest 47 = .ok (.aload_n 0, 1) := by decide +kernel
theorem dX4_isRequest_48 : decode cX4_isRequest 48 = .ok (.iload_n 1, 1) := by decide +kernel
theorem dX4_isRequest_49 : decode cX4_isRequest 49 = .ok (.iconst 1, 1) := by decide +kernel
theorem dX4_isRequest_50 : decode cX4_isRequest 50 = .ok (.isub, 1) := by decide +kernel
theorem dX4_isRequest_51 : decode cX4_isRequest 51 = .ok (.iaload, 1) := by decide +kernel
theorem dX4_isRequest_52 : decode cX4_isRequest 52 = .ok (.bipush 10, 2) := by decide +kernel
theorem dX4_isRequest_54 : decode cX4_isRequest 54 = .ok (.if_icmp .ne 7, 3) := by decide +kernel
theorem dX4_isRequest_57 : decode cX4_isRequest 57 = .ok (.iconst 1, 1) := by decide +kernel
theorem dX4_isRequest_58 : decode cX4_isRequest 58 = .ok (.goto 4, 3) := by decide +kernel
theorem dX4_isRequest_61 : decode cX4_isRequest 61 = .ok (.iconst 0, 1) := by decide +kernel
theorem dX4_isRequest_62 : decode cX4_isRequest 62 = .ok (.ireturn, 1) := by decide +kernel
theorem dX4_find_0 : decode cX4_find 0 = .ok (.iconst 0, 1) := by decide +kernel
theorem dX4_find_1 : decode cX4_find 1 = .ok (.istore_n 3, 1) := by decide +kernel
theorem dX4_find_2 : decode cX4_find 2 = .ok (.iload_n 3, 1) := by decide +kernel
theorem dX4_find_3 : decode cX4_find 3 = .ok (.bipush 6, 2) := by decide +kernel
theorem dX4_find_5 : decode cX4_find 5 = .ok (.if_icmp .ge 30, 3) := by decide +kernel
theorem dX4_find_8 : decode cX4_find 8 = .ok (.aload_n 0, 1) := by decide +kernel
theorem dX4_find_9 : decode cX4_find 9 = .ok (.getfield 11, 3) := by decide +kernel
theorem dX4_find_12 : decode cX4_find 12 = .ok (.iload_n 3, 1) := by decide +kernel
theorem dX4_find_13 : decode cX4_find 13 = .ok (.aaload, 1) := by decide +kernel
theorem dX4_find_14 : decode cX4_find 14 = .ok (.aload_n 1, 1) := by decide +kernel
theorem dX4_find_15 : decode cX4_find 15 = .ok (.iload_n 2, 1) := by decide +kernel
theorem dX4_find_16 : decode cX4_find 16 = .ok (.invokevirtual 46, 3) := by decide +kernel
theorem dX4_find_19 : decode cX4_find 19 = .ok (.if_ .eq 10, 3) := by decide +kernel
theorem dX4_find_22 : decode cX4_find 22 = .ok (.aload_n 0, 1) := by decide +kernel
theorem dX4_find_23 : decode cX4_find 23 = .ok (.getfield 11, 3) := by decide +kernel
theorem dX4_find_26 : decode cX4_find 26 = .ok (.iload_n 3, 1) := by decide +kernel
theorem dX4_find_27 : decode cX4_find 27 = .ok (.aaload, 1) := by decide +kernel
theorem dX4_find_28 : decode cX4_find 28 = .ok (.areturn, 1) := by decide +kernel
theorem dX4_find_29 : decode cX4_find 29 = .ok (.iinc 3 1, 3) := by decide +kernel
theorem dX4_find_32 : decode cX4_find 32 = .ok (.goto (-30), 3) := by decide +kernel
theorem dX4_find_35 : decode cX4_find 35 = .ok (.aconst_null, 1) := by decide +kernel
theorem dX4_find_36 : decode cX4_find 36 = .ok (.areturn, 1) := by decide +kernel
theorem dX4_putText_0 : decode cX4_putText 0 = .ok (.aload_n 1, 1) := by decide +kernel
theorem dX4_putText_1 : decode cX4_putText 1 = .ok (.ifnonnull 12, 3) := by decide +kernel
theorem dX4_putText_4 : decode cX4_putText 4 = .ok (.aload_n 0, 1) := by decide +kernel
theorem dX4_putText_5 : decode cX4_putText 5 = .ok (.bipush 52, 2) := by decide +kernel
theorem dX4_putText_7 : decode cX4_putText 7 = .ok (.invokevirtual 30, 3) := by decide +kernel
theorem dX4_putText_10 : decode cX4_putText 10 = .ok (.goto 51, 3) := by decide +kernel
theorem dX4_putText_13 : decode cX4_putText 13 = .ok (.aload_n 1, 1) := by decide +kernel
theorem dX4_putText_14 : decode cX4_putText 14 = .ok (.invokevirtual 49, 3) := by decide +kernel
theorem dX4_putText_17 : decode cX4_putText 17 = .ok (.if_ .ne 12, 3) := by decide +kernel
theorem dX4_putText_20 : decode cX4_putText 20 = .ok (.aload_n 0, 1) := by decide +kernel
theorem dX4_putText_21 : decode cX4_putText 21 = .ok (.bipush 53, 2) := by decide +kernel
theorem dX4_putText_23 : decode cX4_putText 23 = .ok (.invokevirtual 30, 3) := by decide +kernel
theorem dX4_putText_26 : decode cX4_putText 26 = .ok (.goto 35, 3) := by decide +kernel
theorem dX4_putText_29 : decode cX4_putText 29 = .ok (.aload_n 0, 1) := by decide +kernel
theorem dX4_putText_30 : decode cX4_putText 30 = .ok (.bipush 50, 2) := by decide +kernel
theorem dX4_putText_32 : decode cX4_putText 32 = .ok (.invokevirtual 30, 3) := by decide +kernel
theorem dX4_putText_35 : decode cX4_putText 35 = .ok (.iconst 0, 1) := by decide +kernel
theorem dX4_putText_36 : decode cX4_putText 36 = .ok (.istore_n 2, 1) := by decide +kernel
theorem dX4_putText_37 : decode cX4_putText 37 = .ok (.iload_n 2, 1) := by decide +kernel
theorem dX4_putText_38 : decode cX4_putText 38 = .ok (.aload_n 1, 1) := by decide +kernel
theorem dX4_putText_39 : decode cX4_putText 39 = .ok (.getfield 53, 3) := by decide +kernel
theorem dX4_putText_42 : decode cX4_putText 42 = .ok (.if_icmp .ge 19, 3) := by decide +kernel
theorem dX4_putText_45 : decode cX4_putText 45 = .ok (.aload_n 0, 1) := by decide +kernel
theorem dX4_putText_46 : decode cX4_putText 46 = .ok (.aload_n 1, 1) := by decide +kernel
theorem dX4_putText_47 : decode cX4_putText 47 = .ok (.getfield 56, 3) := by decide +kernel
theorem dX4_putText_50 : decode cX4_putText 50 = .ok (.iload_n 2, 1) := by decide +kernel
theorem dX4_putText_51 : decode cX4_putText 51 = .ok (.iaload, 1) := by decide +kernel
theorem dX4_putText_52 : decode cX4_putText 52 = .ok (.invokevirtual 30, 3) := by decide +kernel
theorem dX4_putText_55 : decode cX4_putText 55 = .ok (.iinc 2 1, 3) := by decide +kernel
theorem dX4_putText_58 : decode cX4_putText 58 = .ok (.goto (-21), 3) := by decide +kernel
theorem dX4_putText_61 : decode cX4_putText 61 = .ok (.return_, 1) := by decide +kernel
theorem dX4_put_0 : decode cX4_put 0 = .ok (.aload_n 0, 1) := by decide +kernel
theorem dX4_put_1 : decode cX4_put 1 = .ok (.getfield 17, 3) := by decide +kernel
theorem dX4_put_4 : decode cX4_put 4 = .ok (.aload_n 0, 1) := by decide +kernel
theorem dX4_put_5 : decode cX4_put 5 = .ok (.getfield 22, 3) := by decide +kernel
theorem dX4_put_8 : decode cX4_put 8 = .ok (.iload_n 1, 1) := by decide +kernel
theorem dX4_put_9 : decode cX4_put 9 = .ok (.iastore, 1) := by decide +kernel
theorem dX4_put_10 : decode cX4_put 10 = .ok (.aload_n 0, 1) := by decide +kernel
theorem dX4_put_11 : decode cX4_put 11 = .ok (.dup, 1) := by decide +kernel
theorem dX4_put_12 : decode cX4_put 12 = .ok (.getfield 22, 3) := by decide +kernel
theorem dX4_put_15 : decode cX4_put 15 = .ok (.iconst 1, 1) := by decide +kernel
theorem dX4_put_16 : decode cX4_put 16 = .ok (.iadd, 1) := by decide +kernel
theorem dX4_put_17 : decode cX4_put 17 = .ok (.putfield 22, 3) := by decide +kernel
theorem dX4_put_20 : decode cX4_put 20 = .ok (.return_, 1) := by decide +kernel
