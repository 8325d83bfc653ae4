theorem dX7_init_0 : decode cX7_init 0 = .ok (.aload_n 0, 1) := by decide +kernel
theorem dX7_init_1 : decode cX7_init 1 = .ok (.invokespecial 3, 3) := by decide +kernel
theorem dX7_init_4 : decode cX7_init 4 = .ok (.aload_n 0, 1) := by decide +kernel
theorem dX7_init_5 : decode cX7_init 5 = .ok (.iconst 4, 1) := by decide +kernel
theorem dX7_init_6 : decode cX7_init 6 = .ok (.newarray .int, 2) := by decide +kernel
theorem dX7_init_8 : decode cX7_init 8 = .ok (.putfield 9, 3) := by decide +kernel
theorem dX7_init_11 : decode cX7_init 11 = .ok (.aload_n 0, 1) := by decide +kernel
theorem dX7_init_12 : decode cX7_init 12 = .ok (.bipush 16, 2) := by decide +kernel
theorem dX7_init_14 : decode cX7_init 14 = .ok (.newarray .int, 2) := by decide +kernel
theorem dX7_init_16 : decode cX7_init 16 = .ok (.putfield 15, 3) := by decide +kernel
theorem dX7_init_19 : decode cX7_init 19 = .ok (.return_, 1) := by decide +kernel
theorem dX7_addLetter_0 : decode cX7_addLetter 0 = .ok (.aload_n 0, 1) := by decide +kernel
theorem dX7_addLetter_1 : decode cX7_addLetter 1 = .ok (.getfield 18, 3) := by decide +kernel
theorem dX7_addLetter_4 : decode cX7_addLetter 4 = .ok (.iconst 4, 1) := by decide +kernel
theorem dX7_addLetter_5 : decode cX7_addLetter 5 = .ok (.if_icmp .lt 6, 3) := by decide +kernel
theorem dX7_addLetter_8 : decode cX7_addLetter 8 = .ok (.bipush (-2), 2) := by decide +kernel
theorem dX7_addLetter_10 : decode cX7_addLetter 10 = .ok (.ireturn, 1) := by decide +kernel
theorem dX7_addLetter_11 : decode cX7_addLetter 11 = .ok (.aload_n 0, 1) := by decide +kernel
theorem dX7_addLetter_12 : decode cX7_addLetter 12 = .ok (.getfield 9, 3) := by decide +kernel
theorem dX7_addLetter_15 : decode cX7_addLetter 15 = .ok (.aload_n 0, 1) := by decide +kernel
theorem dX7_addLetter_16 : decode cX7_addLetter 16 = .ok (.getfield 18, 3) := by decide +kernel
theorem dX7_addLetter_19 : decode cX7_addLetter 19 = .ok (.iload_n 1, 1) := by decide +kernel
theorem dX7_addLetter_20 : decode cX7_addLetter 20 = .ok (.iastore, 1) := by decide +kernel
theorem dX7_addLetter_21 : decode cX7_addLetter 21 = .ok (.aload_n 0, 1) := by decide +kernel
theorem dX7_addLetter_22 : decode cX7_addLetter 22 = .ok (.dup, 1) := by decide +kernel
theorem dX7_addLetter_23 : decode cX7_addLetter 23 = .ok (.getfield 18, 3) := by decide +kernel
theorem dX7_addLetter_26 : decode cX7_addLetter 26 = .ok (.iconst 1, 1) := by decide +kernel
theorem dX7_addLetter_27 : decode cX7_addLetter 27 = .ok (.iadd, 1) := by decide +kernel
theorem dX7_addLetter_28 : decode cX7_addLetter 28 = .ok (.putfield 18, 3) := by decide +kernel
theorem dX7_addLetter_31 : decode cX7_addLetter 31 = .ok (.aload_n 0, 1) := by decide +kernel
theorem dX7_addLetter_32 : decode cX7_addLetter 32 = .ok (.getfield 18, 3) := by decide +kernel
theorem dX7_addLetter_35 : decode cX7_addLetter 35 = .ok (.ireturn, 1) := by decide +kernel
theorem dX7_addOctet_0 : decode cX7_addOctet 0 = .ok (.aload_n 0, 1) := by decide +kernel
theorem dX7_addOctet_1 : decode cX7_addOctet 1 = .ok (.getfield 22, 3) := by decide +kernel
theorem dX7_addOctet_4 : decode cX7_addOctet 4 = .ok (.bipush 16, 2) := by decide +kernel
theorem dX7_addOctet_6 : decode cX7_addOctet 6 = .ok (.if_icmp .lt 6, 3) := by decide +kernel
theorem dX7_addOctet_9 : decode cX7_addOctet 9 = .ok (.bipush (-2), 2) := by decide +kernel
theorem dX7_addOctet_11 : decode cX7_addOctet 11 = .ok (.ireturn, 1) := by decide +kernel
theorem dX7_addOctet_12 : decode cX7_addOctet 12 = .ok (.aload_n 0, 1) := by decide +kernel
theorem dX7_addOctet_13 : decode cX7_addOctet 13 = .ok (.getfield 15, 3) := by decide +kernel
theorem dX7_addOctet_16 : decode cX7_addOctet 16 = .ok (.aload_n 0, 1) := by decide +kernel
theorem dX7_addOctet_17 : decode cX7_addOctet 17 = .ok (.getfield 22, 3) := by decide +kernel
theorem dX7_addOctet_20 : decode cX7_addOctet 20 = .ok (.iload_n 1, 1) := by decide +kernel
theorem dX7_addOctet_21 : decode cX7_addOctet 21 = .ok (.iastore, 1) := by decide +kernel
theorem dX7_addOctet_22 : decode cX7_addOctet 22 = .ok (.aload_n 0, 1) := by decide +kernel
theorem dX7_addOctet_23 : decode cX7_addOctet 23 = .ok (.dup, 1) := by decide +kernel
theorem dX7_addOctet_24 : decode cX7_addOctet 24 = .ok (.getfield 22, 3) := by decide +kernel
theorem dX7_addOctet_27 : decode cX7_addOctet 27 = .ok (.iconst 1, 1) := by decide +kernel
theorem dX7_addOctet_28 : decode cX7_addOctet 28 = .ok (.iadd, 1) := by decide +kernel
theorem dX7_addOctet_29 : decode cX7_addOctet 29 = .ok (.putfield 22, 3) := by decide +kernel
theorem dX7_addOctet_32 : decode cX7_addOctet 32 = .ok (.aload_n 0, 1) := by decide +kernel
theorem dX7_addOctet_33 : decode cX7_addOctet 33 = .ok (.aload_n 0, 1) := by decide +kernel
theorem dX7_addOctet_34 : decode cX7_addOctet 34 = .ok (.getfield 25, 3) := by decide +kernel
theorem dX7_addOctet_37 : decode cX7_addOctet 37 = .ok (.iload_n 1, 1) := by decide +kernel
theorem dX7_addOctet_38 : decode cX7_addOctet 38 = .ok (.iadd, 1) := by decide +kernel
theorem dX7_addOctet_39 : decode cX7_addOctet 39 = .ok (.sipush 255, 3) := by decide +kernel
theorem dX7_addOctet_42 : decode cX7_addOctet 42 = .ok (.iand, 1) := by decide +kernel
theorem dX7_addOctet_43 : decode cX7_addOctet 43 = .ok (.putfield 25, 3) := by decide +kernel
theorem dX7_addOctet_46 : decode cX7_addOctet 46 = .ok (.aload_n 0, 1) := by decide +kernel
theorem dX7_addOctet_47 : decode cX7_addOctet 47 = .ok (.getfield 22, 3) := by decide +kernel
theorem dX7_addOctet_50 : decode cX7_addOctet 50 = .ok (.ireturn, 1) := by decide +kernel
theorem dX7_replace_0 : decode cX7_replace 0 = .ok (.iload_n 1, 1) := by decide +kernel
theorem dX7_replace_1 : decode cX7_replace 1 = .ok (.if_ .lt 11, 3) := by decide +kernel
theorem dX7_replace_4 : decode cX7_replace 4 = .ok (.iload_n 1, 1) := by decide +kernel
theorem dX7_replace_5 : decode cX7_replace 5 = .ok (.aload_n 0, 1) := by decide +kernel
theorem dX7_replace_6 : decode cX7_replace 6 = .ok (.getfield 22, 3) := by decide +kernel
theorem dX7_replace_9 : decode cX7_replace 9 = .ok (.if_icmp .lt 5, 3) := by decide +kernel
theorem dX7_replace_12 : decode cX7_replace 12 = .ok (.iconst (-1), 1) := by decide +kernel
theorem dX7_replace_13 : decode cX7_replace 13 = .ok (.ireturn, 1) := by decide +kernel
theorem dX7_replace_14 : decode cX7_replace 14 = .ok (.aload_n 0, 1) := by decide +kernel
theorem dX7_replace_15 : decode cX7_replace 15 = .ok (.getfield 15, 3) := by decide +kernel
theorem dX7_replace_18 : decode cX7_replace 18 = .ok (.iload_n 1, 1) := by decide +kernel
theorem dX7_replace_19 : decode cX7_replace 19 = .ok (.iaload, 1) := by decide +kernel
theorem dX7_replace_20 : decode cX7_replace 20 = .ok (.istore_n 3, 1) := by decide +kernel
theorem dX7_replace_21 : decode cX7_replace 21 = .ok (.aload_n 0, 1) := by decide +kernel
theorem dX7_replace_22 : decode cX7_replace 22 = .ok (.getfield 15, 3) := by decide +kernel
theorem dX7_replace_25 : decode cX7_replace 25 = .ok (.iload_n 1, 1) := by decide +kernel
theorem dX7_replace_26 : decode cX7_replace 26 = .ok (.iload_n 2, 1) := by decide +kernel
theorem dX7_replace_27 : decode cX7_replace 27 = .ok (.iastore, 1) := by decide +kernel
theorem dX7_replace_28 : decode cX7_replace 28 = .ok (.iload_n 3, 1) := by decide +kernel
theorem dX7_replace_29 : decode cX7_replace 29 = .ok (.ireturn, 1) := by decide +kernel
theorem dX7_empty_0 : decode cX7_empty 0 = .ok (.aload_n 0, 1) := by decide +kernel
theorem dX7_empty_1 : decode cX7_empty 1 = .ok (.getfield 22, 3) := by decide +kernel
theorem dX7_empty_4 : decode cX7_empty 4 = .ok (.istore_n 1, 1) := by decide +kernel
theorem dX7_empty_5 : decode cX7_empty 5 = .ok (.aload_n 0, 1) := by decide +kernel
theorem dX7_empty_6 : decode cX7_empty 6 = .ok (.iconst 0, 1) := by decide +kernel
theorem dX7_empty_7 : decode cX7_empty 7 = .ok (.putfield 18, 3) := by decide +kernel
theorem dX7_empty_10 : decode cX7_empty 10 = .ok (.aload_n 0, 1) := by decide +kernel
theorem dX7_empty_11 : decode cX7_empty 11 = .ok (.iconst 0, 1) := by decide +kernel
theorem dX7_empty_12 : decode cX7_empty 12 = .ok (.putfield 22, 3) := by decide +kernel
theorem dX7_empty_15 : decode cX7_empty 15 = .ok (.aload_n 0, 1) := by decide +kernel
theorem dX7_empty_16 : decode cX7_empty 16 = .ok (.iconst 0, 1) := by decide +kernel
theorem dX7_empty_17 : decode cX7_empty 17 = .ok (.putfield 25, 3) := by decide +kernel
theorem dX7_empty_20 : decode cX7_empty 20 = .ok (.iload_n 1, 1) := by decide +kernel
theorem dX7_empty_21 : decode cX7_empty 21 = .ok (.ireturn, 1) := by decide +kernel
theorem dX7_isAskedBy_0 : decode cX7_isAskedBy 0 = .ok (.aload_n 0, 1) := by decide +kernel
theorem dX7_isAskedBy_1 : decode cX7_isAskedBy 1 = .ok (.getfield 18, 3) := by decide +kernel
theorem dX7_isAskedBy_4 : decode cX7_isAskedBy 4 = .ok (.iload_n 2, 1) := by decide +kernel
theorem dX7_isAskedBy_5 : decode cX7_isAskedBy 5 = .ok (.iconst 2, 1) := by decide +kernel
theorem dX7_isAskedBy_6 : decode cX7_isAskedBy 6 = .ok (.isub, 1) := by decide +kernel
theorem dX7_isAskedBy_7 : decode cX7_isAskedBy 7 = .ok (.if_icmp .eq 5, 3) := by decide +kernel
theorem dX7_isAskedBy_10 : decode cX7_isAskedBy 10 = .ok (.iconst 0, 1) := by decide +kernel
theorem dX7_isAskedBy_11 : decode cX7_isAskedBy 11 = .ok (.ireturn, 1) := by decide +kernel
theorem dX7_isAskedBy_12 : decode cX7_isAskedBy 12 = .ok (.iconst 0, 1) := by decide +kernel
theorem dX7_isAskedBy_13 : decode cX7_isAskedBy 13 = .ok (.istore_n 3, 1) := by decide +kernel
theorem dX7_isAskedBy_14 : decode cX7_isAskedBy 14 = .ok (.iload_n 3, 1) := by decide +kernel
theorem dX7_isAskedBy_15 : decode cX7_isAskedBy 15 = .ok (.aload_n 0, 1) := by decide +kernel
theorem dX7_isAskedBy_16 : decode cX7_isAskedBy 16 = .ok (.getfield 18, 3) := by decide +kernel
theorem dX7_isAskedBy_19 : decode cX7_isAskedBy 19 = .ok (.if_icmp .ge 25, 3) := by decide +kernel
theorem dX7_isAskedBy_22 : decode cX7_isAskedBy 22 = .ok (.aload_n 0, 1) := by decide +kernel
theorem dX7_isAskedBy_23 : decode cX7_isAskedBy 23 = .ok (.getfield 9, 3) := by decide +kernel
theorem dX7_isAskedBy_26 : decode cX7_isAskedBy 26 = .ok (.iload_n 3, 1) := by decide +kernel
theorem dX7_isAskedBy_27 : decode cX7_isAskedBy 27 = .ok (.iaload, 1) := by decide +kernel
theorem dX7_isAskedBy_28 : decode cX7_isAskedBy 28 = .ok (.aload_n 1, 1) := by decide +kernel
theorem dX7_isAskedBy_29 : decode cX7_isAskedBy 29 = .ok (.iconst 1, 1) := by decide +kernel
theorem dX7_isAskedBy_30 : decode cX7_isAskedBy 30 = .ok (.iload_n 3, 1) := by decide +kernel
theorem dX7_isAskedBy_31 : decode cX7_isAskedBy 31 = .ok (.iadd, 1) := by decide +kernel
theorem dX7_isAskedBy_32 : decode cX7_isAskedBy 32 = .ok (.iaload, 1) := by decide +kernel
theorem dX7_isAskedBy_33 : decode cX7_isAskedBy 33 = .ok (.if_icmp .eq 5, 3) := by decide +kernel
theorem dX7_isAskedBy_36 : decode cX7_isAskedBy 36 = .ok (.iconst 0, 1) := by decide +kernel
theorem dX7_isAskedBy_37 : decode cX7_isAskedBy 37 = .ok (.ireturn, 1) := by decide +kernel
theorem dX7_isAskedBy_38 : decode cX7_isAskedBy 38 = .ok (.iinc 3 1, 3) := by decide +kernel
theorem dX7_isAskedBy_41 : decode cX7_isAskedBy 41 = .ok (.goto (-27), 3) := by decide +kernel
theorem dX7_isAskedBy_44 : decode cX7_isAskedBy 44 = .ok (.iconst 1, 1) := by decide +kernel
theorem dX7_isAskedBy_45 : decode cX7_isAskedBy 45 = .ok (.ireturn, 1) := by decide +kernel
theorem dX7_isSound_0 : decode cX7_isSound 0 = .ok (.iconst 0, 1) := by decide +kernel
theorem dX7_isSound_1 : decode cX7_isSound 1 = .ok (.istore_n 1, 1) := by decide +kernel
theorem dX7_isSound_2 : decode cX7_isSound 2 = .ok (.iconst 0, 1) := by decide +kernel
theorem dX7_isSound_3 : decode cX7_isSound 3 = .ok (.istore_n 2, 1) := by decide +kernel
theorem dX7_isSound_4 : decode cX7_isSound 4 = .ok (.iload_n 2, 1) := by decide +kernel
theorem dX7_isSound_5 : decode cX7_isSound 5 = .ok (.aload_n 0, 1) := by decide +kernel
theorem dX7_isSound_6 : decode cX7_isSound 6 = .ok (.getfield 22, 3) := by decide +kernel
theorem dX7_isSound_9 : decode cX7_isSound 9 = .ok (.if_icmp .ge 18, 3) := by decide +kernel
theorem dX7_isSound_12 : decode cX7_isSound 12 = .ok (.iload_n 1, 1) := by decide +kernel
theorem dX7_isSound_13 : decode cX7_isSound 13 = .ok (.aload_n 0, 1) := by decide +kernel
theorem dX7_isSound_14 : decode cX7_isSound 14 = .ok (.getfield 15, 3) := by decide +kernel
theorem dX7_isSound_17 : decode cX7_isSound 17 = .ok (.iload_n 2, 1) := by decide +kernel
theorem dX7_isSound_18 : decode cX7_isSound 18 = .ok (.iaload, 1) := by decide +kernel
theorem dX7_isSound_19 : decode cX7_isSound 19 = .ok (.iadd, 1) := by decide +kernel
theorem dX7_isSound_20 : decode cX7_isSound 20 = .ok (.istore_n 1, 1) := by decide +kernel
theorem dX7_isSound_21 : decode cX7_isSound 21 = .ok (.iinc 2 1, 3) := by decide +kernel
theorem dX7_isSound_24 : decode cX7_isSound 24 = .ok (.goto (-20), 3) := by decide +kernel
theorem dX7_isSound_27 : decode cX7_isSound 27 = .ok (.iload_n 1, 1) := by decide +kernel
theorem dX7_isSound_28 : decode cX7_isSound 28 = .ok (.sipush 255, 3) := by decide +kernel
theorem dX7_isSound_31 : decode cX7_isSound 31 = .ok (.iand, 1) := by decide +kernel
theorem dX7_isSound_32 : decode cX7_isSound 32 = .ok (.aload_n 0, 1) := by decide +kernel
theorem dX7_isSound_33 : decode cX7_isSound 33 = .ok (.getfield 25, 3) := by decide +kernel
theorem dX7_isSound_36 : decode cX7_isSound 36 = .ok (.if_icmp .ne 7, 3) := by decide +kernel
theorem dX7_isSound_39 : decode cX7_isSound 39 = .ok (.iconst 1, 1) := by decide +kernel
theorem dX7_isSound_40 : decode cX7_isSound 40 = .ok (.goto 4, 3) := by decide +kernel
theorem dX7_isSound_43 : decode cX7_isSound 43 = .ok (.iconst 0, 1) := by decide +kernel
theorem dX7_isSound_44 : decode cX7_isSound 44 = .ok (.ireturn, 1) := by decide +kernel
