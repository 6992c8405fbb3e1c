theorem dX0_init_0 : decode cX0_init 0 = .ok (.aload_n 0, 1) := by decide +kernel
theorem dX0_init_1 : decode cX0_init 1 = .ok (.invokespecial 3, 3) := by decide +kernel
theorem dX0_init_4 : decode cX0_init 4 = .ok (.aload_n 0, 1) := by decide +kernel
theorem dX0_init_5 : decode cX0_init 5 = .ok (.bipush 6, 2) := by decide +kernel
theorem dX0_init_7 : decode cX0_init 7 = .ok (.anewarray 9, 3) := by decide +kernel
theorem dX0_init_10 : decode cX0_init 10 = .ok (.putfield 11, 3) := by decide +kernel
theorem dX0_init_13 : decode cX0_init 13 = .ok (.aload_n 0, 1) := by decide +kernel
theorem dX0_init_14 : decode cX0_init 14 = .ok (.iconst (-1), 1) := by decide +kernel
theorem dX0_init_15 : decode cX0_init 15 = .ok (.putfield 17, 3) := by decide +kernel
theorem dX0_init_18 : decode cX0_init 18 = .ok (.aload_n 0, 1) := by decide +kernel
theorem dX0_init_19 : decode cX0_init 19 = .ok (.iload_n 1, 1) := by decide +kernel
theorem dX0_init_20 : decode cX0_init 20 = .ok (.putfield 21, 3) := by decide +kernel
theorem dX0_init_23 : decode cX0_init 23 = .ok (.return_, 1) := by decide +kernel
theorem dX0_isFull_0 : decode cX0_isFull 0 = .ok (.aload_n 0, 1) := by decide +kernel
theorem dX0_isFull_1 : decode cX0_isFull 1 = .ok (.getfield 24, 3) := by decide +kernel
theorem dX0_isFull_4 : decode cX0_isFull 4 = .ok (.aload_n 0, 1) := by decide +kernel
theorem dX0_isFull_5 : decode cX0_isFull 5 = .ok (.getfield 11, 3) := by decide +kernel
theorem dX0_isFull_8 : decode cX0_isFull 8 = .ok (.arraylength, 1) := by decide +kernel
theorem dX0_isFull_9 : decode cX0_isFull 9 = .ok (.if_icmp .lt 7, 3) := by decide +kernel
theorem dX0_isFull_12 : decode cX0_isFull 12 = .ok (.iconst 1, 1) := by decide +kernel
theorem dX0_isFull_13 : decode cX0_isFull 13 = .ok (.goto 4, 3) := by decide +kernel
theorem dX0_isFull_16 : decode cX0_isFull 16 = .ok (.iconst 0, 1) := by decide +kernel
theorem dX0_isFull_17 : decode cX0_isFull 17 = .ok (.ireturn, 1) := by decide +kernel
theorem dX0_build_0 : decode cX0_build 0 = .ok (.aload_n 0, 1) := by decide +kernel
theorem dX0_build_1 : decode cX0_build 1 = .ok (.getfield 24, 3) := by decide +kernel
theorem dX0_build_4 : decode cX0_build 4 = .ok (.istore_n 2, 1) := by decide +kernel
theorem dX0_build_5 : decode cX0_build 5 = .ok (.iload_n 2, 1) := by decide +kernel
theorem dX0_build_6 : decode cX0_build 6 = .ok (.ifCond .lt 29, 3) := by decide +kernel
theorem dX0_build_9 : decode cX0_build 9 = .ok (.iload_n 2, 1) := by decide +kernel
theorem dX0_build_10 : decode cX0_build 10 = .ok (.aload_n 0, 1) := by decide +kernel
theorem dX0_build_11 : decode cX0_build 11 = .ok (.getfield 11, 3) := by decide +kernel
theorem dX0_build_14 : decode cX0_build 14 = .ok (.arraylength, 1) := by decide +kernel
theorem dX0_build_15 : decode cX0_build 15 = .ok (.if_icmp .ge 20, 3) := by decide +kernel
theorem dX0_build_18 : decode cX0_build 18 = .ok (.aload_n 0, 1) := by decide +kernel
theorem dX0_build_19 : decode cX0_build 19 = .ok (.getfield 11, 3) := by decide +kernel
theorem dX0_build_22 : decode cX0_build 22 = .ok (.iload_n 2, 1) := by decide +kernel
theorem dX0_build_23 : decode cX0_build 23 = .ok (.aload_n 1, 1) := by decide +kernel
theorem dX0_build_24 : decode cX0_build 24 = .ok (.aastore, 1) := by decide +kernel
theorem dX0_build_25 : decode cX0_build 25 = .ok (.aload_n 0, 1) := by decide +kernel
theorem dX0_build_26 : decode cX0_build 26 = .ok (.dup, 1) := by decide +kernel
theorem dX0_build_27 : decode cX0_build 27 = .ok (.getfield 24, 3) := by decide +kernel
theorem dX0_build_30 : decode cX0_build 30 = .ok (.iconst 1, 1) := by decide +kernel
theorem dX0_build_31 : decode cX0_build 31 = .ok (.iadd, 1) := by decide +kernel
theorem dX0_build_32 : decode cX0_build 32 = .ok (.putfield 24, 3) := by decide +kernel
theorem dX0_build_35 : decode cX0_build 35 = .ok (.iload_n 2, 1) := by decide +kernel
theorem dX0_build_36 : decode cX0_build 36 = .ok (.ireturn, 1) := by decide +kernel
theorem dX0_hasCertificate_0 : decode cX0_hasCertificate 0 = .ok (.aload_n 0, 1) := by decide +kernel
theorem dX0_hasCertificate_1 : decode cX0_hasCertificate 1 = .ok (.getfield 17, 3) := by decide +kernel
theorem dX0_hasCertificate_4 : decode cX0_hasCertificate 4 = .ok (.iconst (-1), 1) := by decide +kernel
theorem dX0_hasCertificate_5 : decode cX0_hasCertificate 5 = .ok (.if_icmp .eq 7, 3) := by decide +kernel
theorem dX0_hasCertificate_8 : decode cX0_hasCertificate 8 = .ok (.iconst 1, 1) := by decide +kernel
theorem dX0_hasCertificate_9 : decode cX0_hasCertificate 9 = .ok (.goto 4, 3) := by decide +kernel
theorem dX0_hasCertificate_12 : decode cX0_hasCertificate 12 = .ok (.iconst 0, 1) := by decide +kernel
theorem dX0_hasCertificate_13 : decode cX0_hasCertificate 13 = .ok (.ireturn, 1) := by decide +kernel
theorem dX0_takeCertificate_0 : decode cX0_takeCertificate 0 = .ok (.aload_n 0, 1) := by decide +kernel
theorem dX0_takeCertificate_1 : decode cX0_takeCertificate 1 = .ok (.iload_n 1, 1) := by decide +kernel
theorem dX0_takeCertificate_2 : decode cX0_takeCertificate 2 = .ok (.putfield 17, 3) := by decide +kernel
theorem dX0_takeCertificate_5 : decode cX0_takeCertificate 5 = .ok (.aload_n 0, 1) := by decide +kernel
theorem dX0_takeCertificate_6 : decode cX0_takeCertificate 6 = .ok (.iload_n 2, 1) := by decide +kernel
theorem dX0_takeCertificate_7 : decode cX0_takeCertificate 7 = .ok (.putfield 27, 3) := by decide +kernel
theorem dX0_takeCertificate_10 : decode cX0_takeCertificate 10 = .ok (.return_, 1) := by decide +kernel
theorem dX0_loseCertificate_0 : decode cX0_loseCertificate 0 = .ok (.aload_n 0, 1) := by decide +kernel
theorem dX0_loseCertificate_1 : decode cX0_loseCertificate 1 = .ok (.iconst (-1), 1) := by decide +kernel
theorem dX0_loseCertificate_2 : decode cX0_loseCertificate 2 = .ok (.putfield 17, 3) := by decide +kernel
theorem dX0_loseCertificate_5 : decode cX0_loseCertificate 5 = .ok (.aload_n 0, 1) := by decide +kernel
theorem dX0_loseCertificate_6 : decode cX0_loseCertificate 6 = .ok (.iconst 0, 1) := by decide +kernel
theorem dX0_loseCertificate_7 : decode cX0_loseCertificate 7 = .ok (.putfield 27, 3) := by decide +kernel
theorem dX0_loseCertificate_10 : decode cX0_loseCertificate 10 = .ok (.return_, 1) := by decide +kernel
theorem dX0_dustBehind_0 : decode cX0_dustBehind 0 = .ok (.bipush 100, 2) := by decide +kernel
theorem dX0_dustBehind_2 : decode cX0_dustBehind 2 = .ok (.aload_n 0, 1) := by decide +kernel
theorem dX0_dustBehind_3 : decode cX0_dustBehind 3 = .ok (.getfield 30, 3) := by decide +kernel
theorem dX0_dustBehind_6 : decode cX0_dustBehind 6 = .ok (.iload_n 1, 1) := by decide +kernel
theorem dX0_dustBehind_7 : decode cX0_dustBehind 7 = .ok (.iadd, 1) := by decide +kernel
theorem dX0_dustBehind_8 : decode cX0_dustBehind 8 = .ok (.invokestatic 33, 3) := by decide +kernel
theorem dX0_dustBehind_11 : decode cX0_dustBehind 11 = .ok (.ireturn, 1) := by decide +kernel
theorem dX0_growOlder_0 : decode cX0_growOlder 0 = .ok (.aload_n 0, 1) := by decide +kernel
theorem dX0_growOlder_1 : decode cX0_growOlder 1 = .ok (.aload_n 0, 1) := by decide +kernel
theorem dX0_growOlder_2 : decode cX0_growOlder 2 = .ok (.iload_n 1, 1) := by decide +kernel
theorem dX0_growOlder_3 : decode cX0_growOlder 3 = .ok (.invokevirtual 39, 3) := by decide +kernel
theorem dX0_growOlder_6 : decode cX0_growOlder 6 = .ok (.putfield 30, 3) := by decide +kernel
theorem dX0_growOlder_9 : decode cX0_growOlder 9 = .ok (.aload_n 0, 1) := by decide +kernel
theorem dX0_growOlder_10 : decode cX0_growOlder 10 = .ok (.getfield 27, 3) := by decide +kernel
theorem dX0_growOlder_13 : decode cX0_growOlder 13 = .ok (.iload_n 1, 1) := by decide +kernel
theorem dX0_growOlder_14 : decode cX0_growOlder 14 = .ok (.if_icmp .le 16, 3) := by decide +kernel
theorem dX0_growOlder_17 : decode cX0_growOlder 17 = .ok (.aload_n 0, 1) := by decide +kernel
theorem dX0_growOlder_18 : decode cX0_growOlder 18 = .ok (.dup, 1) := by decide +kernel
theorem dX0_growOlder_19 : decode cX0_growOlder 19 = .ok (.getfield 27, 3) := by decide +kernel
theorem dX0_growOlder_22 : decode cX0_growOlder 22 = .ok (.iload_n 1, 1) := by decide +kernel
theorem dX0_growOlder_23 : decode cX0_growOlder 23 = .ok (.isub, 1) := by decide +kernel
theorem dX0_growOlder_24 : decode cX0_growOlder 24 = .ok (.putfield 27, 3) := by decide +kernel
theorem dX0_growOlder_27 : decode cX0_growOlder 27 = .ok (.goto 7, 3) := by decide +kernel
theorem dX0_growOlder_30 : decode cX0_growOlder 30 = .ok (.aload_n 0, 1) := by decide +kernel
theorem dX0_growOlder_31 : decode cX0_growOlder 31 = .ok (.invokevirtual 43, 3) := by decide +kernel
theorem dX0_growOlder_34 : decode cX0_growOlder 34 = .ok (.return_, 1) := by decide +kernel
theorem dX0_throwBack_0 : decode cX0_throwBack 0 = .ok (.aload_n 0, 1) := by decide +kernel
theorem dX0_throwBack_1 : decode cX0_throwBack 1 = .ok (.getfield 11, 3) := by decide +kernel
theorem dX0_throwBack_4 : decode cX0_throwBack 4 = .ok (.astore 5, 2) := by decide +kernel
theorem dX0_throwBack_6 : decode cX0_throwBack 6 = .ok (.aload 5, 2) := by decide +kernel
theorem dX0_throwBack_8 : decode cX0_throwBack 8 = .ok (.arraylength, 1) := by decide +kernel
theorem dX0_throwBack_9 : decode cX0_throwBack 9 = .ok (.istore 6, 2) := by decide +kernel
theorem dX0_throwBack_11 : decode cX0_throwBack 11 = .ok (.iconst 0, 1) := by decide +kernel
theorem dX0_throwBack_12 : decode cX0_throwBack 12 = .ok (.istore 7, 2) := by decide +kernel
theorem dX0_throwBack_14 : decode cX0_throwBack 14 = .ok (.iload 7, 2) := by decide +kernel
theorem dX0_throwBack_16 : decode cX0_throwBack 16 = .ok (.iload 6, 2) := by decide +kernel
theorem dX0_throwBack_18 : decode cX0_throwBack 18 = .ok (.if_icmp .ge 31, 3) := by decide +kernel
theorem dX0_throwBack_21 : decode cX0_throwBack 21 = .ok (.aload 5, 2) := by decide +kernel
theorem dX0_throwBack_23 : decode cX0_throwBack 23 = .ok (.iload 7, 2) := by decide +kernel
theorem dX0_throwBack_25 : decode cX0_throwBack 25 = .ok (.aaload, 1) := by decide +kernel
theorem dX0_throwBack_26 : decode cX0_throwBack 26 = .ok (.astore 8, 2) := by decide +kernel
theorem dX0_throwBack_28 : decode cX0_throwBack 28 = .ok (.aload 8, 2) := by decide +kernel
theorem dX0_throwBack_30 : decode cX0_throwBack 30 = .ok (.ifnull 13, 3) := by decide +kernel
theorem dX0_throwBack_33 : decode cX0_throwBack 33 = .ok (.aload 8, 2) := by decide +kernel
theorem dX0_throwBack_35 : decode cX0_throwBack 35 = .ok (.iload_n 1, 1) := by decide +kernel
theorem dX0_throwBack_36 : decode cX0_throwBack 36 = .ok (.iload_n 2, 1) := by decide +kernel
theorem dX0_throwBack_37 : decode cX0_throwBack 37 = .ok (.iload_n 3, 1) := by decide +kernel
theorem dX0_throwBack_38 : decode cX0_throwBack 38 = .ok (.aload 4, 2) := by decide +kernel
theorem dX0_throwBack_40 : decode cX0_throwBack 40 = .ok (.invokevirtual 46, 3) := by decide +kernel
theorem dX0_throwBack_43 : decode cX0_throwBack 43 = .ok (.iinc 7 1, 3) := by decide +kernel
theorem dX0_throwBack_46 : decode cX0_throwBack 46 = .ok (.goto (-32), 3) := by decide +kernel
theorem dX0_throwBack_49 : decode cX0_throwBack 49 = .ok (.return_, 1) := by decide +kernel
theorem dX2_init_0 : decode cX2_init 0 = .ok (.aload_n 0, 1) := by decide +kernel
theorem dX2_init_1 : decode cX2_init 1 = .ok (.invokespecial 3, 3) := by decide +kernel
theorem dX2_init_4 : decode cX2_init 4 = .ok (.aload_n 0, 1) := by decide +kernel
theorem dX2_init_5 : decode cX2_init 5 = .ok (.sipush 501, 3) := by decide +kernel
theorem dX2_init_8 : decode cX2_init 8 = .ok (.newarray .int, 2) := by decide +kernel
theorem dX2_init_10 : decode cX2_init 10 = .ok (.putfield 9, 3) := by decide +kernel
theorem dX2_init_13 : decode cX2_init 13 = .ok (.return_, 1) := by decide +kernel
theorem dX2_begin_0 : decode cX2_begin 0 = .ok (.aload_n 0, 1) := by decide +kernel
theorem dX2_begin_1 : decode cX2_begin 1 = .ok (.getfield 9, 3) := by decide +kernel
theorem dX2_begin_4 : decode cX2_begin 4 = .ok (.iconst 0, 1) := by decide +kernel
theorem dX2_begin_5 : decode cX2_begin 5 = .ok (.invokestatic 15, 3) := by decide +kernel
theorem dX2_begin_8 : decode cX2_begin 8 = .ok (.return_, 1) := by decide +kernel
theorem dX2_hear_0 : decode cX2_hear 0 = .ok (.iload_n 1, 1) := by decide +kernel
theorem dX2_hear_1 : decode cX2_hear 1 = .ok (.bipush 6, 2) := by decide +kernel
theorem dX2_hear_3 : decode cX2_hear 3 = .ok (.idiv, 1) := by decide +kernel
theorem dX2_hear_4 : decode cX2_hear 4 = .ok (.istore_n 3, 1) := by decide +kernel
theorem dX2_hear_5 : decode cX2_hear 5 = .ok (.iload_n 3, 1) := by decide +kernel
theorem dX2_hear_6 : decode cX2_hear 6 = .ok (.ifCond .lt 22, 3) := by decide +kernel
theorem dX2_hear_9 : decode cX2_hear 9 = .ok (.iload_n 3, 1) := by decide +kernel
theorem dX2_hear_10 : decode cX2_hear 10 = .ok (.aload_n 0, 1) := by decide +kernel
theorem dX2_hear_11 : decode cX2_hear 11 = .ok (.getfield 9, 3) := by decide +kernel
theorem dX2_hear_14 : decode cX2_hear 14 = .ok (.arraylength, 1) := by decide +kernel
theorem dX2_hear_15 : decode cX2_hear 15 = .ok (.if_icmp .ge 13, 3) := by decide +kernel
theorem dX2_hear_18 : decode cX2_hear 18 = .ok (.aload_n 0, 1) := by decide +kernel
theorem dX2_hear_19 : decode cX2_hear 19 = .ok (.getfield 9, 3) := by decide +kernel
theorem dX2_hear_22 : decode cX2_hear 22 = .ok (.iload_n 3, 1) := by decide +kernel
theorem dX2_hear_23 : decode cX2_hear 23 = .ok (.dup2, 1) := by decide +kernel
theorem dX2_hear_24 : decode cX2_hear 24 = .ok (.iaload, 1) := by decide +kernel
theorem dX2_hear_25 : decode cX2_hear 25 = .ok (.iload_n 2, 1) := by decide +kernel
theorem dX2_hear_26 : decode cX2_hear 26 = .ok (.iadd, 1) := by decide +kernel
theorem dX2_hear_27 : decode cX2_hear 27 = .ok (.iastore, 1) := by decide +kernel
theorem dX2_hear_28 : decode cX2_hear 28 = .ok (.return_, 1) := by decide +kernel
theorem dX2_addedAt_0 : decode cX2_addedAt 0 = .ok (.iload_n 1, 1) := by decide +kernel
theorem dX2_addedAt_1 : decode cX2_addedAt 1 = .ok (.bipush 6, 2) := by decide +kernel
theorem dX2_addedAt_3 : decode cX2_addedAt 3 = .ok (.idiv, 1) := by decide +kernel
theorem dX2_addedAt_4 : decode cX2_addedAt 4 = .ok (.istore_n 2, 1) := by decide +kernel
theorem dX2_addedAt_5 : decode cX2_addedAt 5 = .ok (.iload_n 1, 1) := by decide +kernel
theorem dX2_addedAt_6 : decode cX2_addedAt 6 = .ok (.bipush 6, 2) := by decide +kernel
theorem dX2_addedAt_8 : decode cX2_addedAt 8 = .ok (.irem, 1) := by decide +kernel
theorem dX2_addedAt_9 : decode cX2_addedAt 9 = .ok (.ifCond .ne 20, 3) := by decide +kernel
theorem dX2_addedAt_12 : decode cX2_addedAt 12 = .ok (.iload_n 2, 1) := by decide +kernel
theorem dX2_addedAt_13 : decode cX2_addedAt 13 = .ok (.ifCond .lt 16, 3) := by decide +kernel
theorem dX2_addedAt_16 : decode cX2_addedAt 16 = .ok (.iload_n 2, 1) := by decide +kernel
theorem dX2_addedAt_17 : decode cX2_addedAt 17 = .ok (.aload_n 0, 1) := by decide +kernel
theorem dX2_addedAt_18 : decode cX2_addedAt 18 = .ok (.getfield 9, 3) := by decide +kernel
theorem dX2_addedAt_21 : decode cX2_addedAt 21 = .ok (.arraylength, 1) := by decide +kernel
theorem dX2_addedAt_22 : decode cX2_addedAt 22 = .ok (.if_icmp .ge 7, 3) := by decide +kernel
theorem dX2_addedAt_25 : decode cX2_addedAt 25 = .ok (.iconst 1, 1) := by decide +kernel
theorem dX2_addedAt_26 : decode cX2_addedAt 26 = .ok (.goto 4, 3) := by decide +kernel
theorem dX2_addedAt_29 : decode cX2_addedAt 29 = .ok (.iconst 0, 1) := by decide +kernel
theorem dX2_addedAt_30 : decode cX2_addedAt 30 = .ok (.istore_n 3, 1) := by decide +kernel
theorem dX2_addedAt_31 : decode cX2_addedAt 31 = .ok (.iload_n 3, 1) := by decide +kernel
theorem dX2_addedAt_32 : decode cX2_addedAt 32 = .ok (.ifCond .eq 12, 3) := by decide +kernel
theorem dX2_addedAt_35 : decode cX2_addedAt 35 = .ok (.aload_n 0, 1) := by decide +kernel
theorem dX2_addedAt_36 : decode cX2_addedAt 36 = .ok (.getfield 9, 3) := by decide +kernel
theorem dX2_addedAt_39 : decode cX2_addedAt 39 = .ok (.iload_n 2, 1) := by decide +kernel
theorem dX2_addedAt_40 : decode cX2_addedAt 40 = .ok (.iaload, 1) := by decide +kernel
theorem dX2_addedAt_41 : decode cX2_addedAt 41 = .ok (.goto 4, 3) := by decide +kernel
theorem dX2_addedAt_44 : decode cX2_addedAt 44 = .ok (.iconst 0, 1) := by decide +kernel
theorem dX2_addedAt_45 : decode cX2_addedAt 45 = .ok (.ireturn, 1) := by decide +kernel
theorem dX3_init_0 : decode cX3_init 0 = .ok (.aload_n 0, 1) := by decide +kernel
theorem dX3_init_1 : decode cX3_init 1 = .ok (.invokespecial 1, 3) := by decide +kernel
theorem dX3_init_4 : decode cX3_init 4 = .ok (.aload_n 0, 1) := by decide +kernel
theorem dX3_init_5 : decode cX3_init 5 = .ok (.iload_n 1, 1) := by decide +kernel
theorem dX3_init_6 : decode cX3_init 6 = .ok (.putfield 7, 3) := by decide +kernel
theorem dX3_init_9 : decode cX3_init 9 = .ok (.aload_n 0, 1) := by decide +kernel
theorem dX3_init_10 : decode cX3_init 10 = .ok (.iload_n 2, 1) := by decide +kernel
theorem dX3_init_11 : decode cX3_init 11 = .ok (.putfield 13, 3) := by decide +kernel
theorem dX3_init_14 : decode cX3_init 14 = .ok (.aload_n 0, 1) := by decide +kernel
theorem dX3_init_15 : decode cX3_init 15 = .ok (.iload_n 3, 1) := by decide +kernel
theorem dX3_init_16 : decode cX3_init 16 = .ok (.putfield 16, 3) := by decide +kernel
theorem dX3_init_19 : decode cX3_init 19 = .ok (.aload_n 0, 1) := by decide +kernel
theorem dX3_init_20 : decode cX3_init 20 = .ok (.iload 4, 2) := by decide +kernel
theorem dX3_init_22 : decode cX3_init 22 = .ok (.putfield 19, 3) := by decide +kernel
theorem dX3_init_25 : decode cX3_init 25 = .ok (.aload_n 0, 1) := by decide +kernel
theorem dX3_init_26 : decode cX3_init 26 = .ok (.iload 5, 2) := by decide +kernel
theorem dX3_init_28 : decode cX3_init 28 = .ok (.putfield 22, 3) := by decide +kernel
theorem dX3_init_31 : decode cX3_init 31 = .ok (.return_, 1) := by decide +kernel
theorem dX3_allows_0 : decode cX3_allows 0 = .ok (.aload_n 1, 1) := by decide +kernel
theorem dX3_allows_1 : decode cX3_allows 1 = .ok (.getfield 25, 3) := by decide +kernel
theorem dX3_allows_4 : decode cX3_allows 4 = .ok (.ifCond .ne 5, 3) := by decide +kernel
theorem dX3_allows_7 : decode cX3_allows 7 = .ok (.iconst 1, 1) := by decide +kernel
theorem dX3_allows_8 : decode cX3_allows 8 = .ok (.ireturn, 1) := by decide +kernel
theorem dX3_allows_9 : decode cX3_allows 9 = .ok (.aload_n 1, 1) := by decide +kernel
theorem dX3_allows_10 : decode cX3_allows 10 = .ok (.getfield 30, 3) := by decide +kernel
theorem dX3_allows_13 : decode cX3_allows 13 = .ok (.aload_n 0, 1) := by decide +kernel
theorem dX3_allows_14 : decode cX3_allows 14 = .ok (.getfield 7, 3) := by decide +kernel
theorem dX3_allows_17 : decode cX3_allows 17 = .ok (.if_icmp .lt 29, 3) := by decide +kernel
theorem dX3_allows_20 : decode cX3_allows 20 = .ok (.aload_n 1, 1) := by decide +kernel
theorem dX3_allows_21 : decode cX3_allows 21 = .ok (.getfield 33, 3) := by decide +kernel
theorem dX3_allows_24 : decode cX3_allows 24 = .ok (.aload_n 0, 1) := by decide +kernel
theorem dX3_allows_25 : decode cX3_allows 25 = .ok (.getfield 19, 3) := by decide +kernel
theorem dX3_allows_28 : decode cX3_allows 28 = .ok (.if_icmp .gt 18, 3) := by decide +kernel
theorem dX3_allows_31 : decode cX3_allows 31 = .ok (.aload_n 1, 1) := by decide +kernel
theorem dX3_allows_32 : decode cX3_allows 32 = .ok (.getfield 36, 3) := by decide +kernel
theorem dX3_allows_35 : decode cX3_allows 35 = .ok (.aload_n 0, 1) := by decide +kernel
theorem dX3_allows_36 : decode cX3_allows 36 = .ok (.getfield 16, 3) := by decide +kernel
theorem dX3_allows_39 : decode cX3_allows 39 = .ok (.if_icmp .gt 7, 3) := by decide +kernel
theorem dX3_allows_42 : decode cX3_allows 42 = .ok (.iconst 1, 1) := by decide +kernel
theorem dX3_allows_43 : decode cX3_allows 43 = .ok (.goto 4, 3) := by decide +kernel
theorem dX3_allows_46 : decode cX3_allows 46 = .ok (.iconst 0, 1) := by decide +kernel
theorem dX3_allows_47 : decode cX3_allows 47 = .ok (.ireturn, 1) := by decide +kernel
theorem dX4_init_0 : decode cX4_init 0 = .ok (.aload_n 0, 1) := by decide +kernel
theorem dX4_init_1 : decode cX4_init 1 = .ok (.invokespecial 3, 3) := by decide +kernel
theorem dX4_init_4 : decode cX4_init 4 = .ok (.aload_n 0, 1) := by decide +kernel
theorem dX4_init_5 : decode cX4_init 5 = .ok (.iload_n 1, 1) := by decide +kernel
theorem dX4_init_6 : decode cX4_init 6 = .ok (.putfield 9, 3) := by decide +kernel
theorem dX4_init_9 : decode cX4_init 9 = .ok (.aload_n 0, 1) := by decide +kernel
theorem dX4_init_10 : decode cX4_init 10 = .ok (.iload_n 2, 1) := by decide +kernel
theorem dX4_init_11 : decode cX4_init 11 = .ok (.putfield 15, 3) := by decide +kernel
theorem dX4_init_14 : decode cX4_init 14 = .ok (.return_, 1) := by decide +kernel
theorem dX4_hardnessUnder_0 : decode cX4_hardnessUnder 0 = .ok (.iconst 0, 1) := by decide +kernel
theorem dX4_hardnessUnder_1 : decode cX4_hardnessUnder 1 = .ok (.aload_n 0, 1) := by decide +kernel
theorem dX4_hardnessUnder_2 : decode cX4_hardnessUnder 2 = .ok (.getfield 15, 3) := by decide +kernel
theorem dX4_hardnessUnder_5 : decode cX4_hardnessUnder 5 = .ok (.iload_n 1, 1) := by decide +kernel
theorem dX4_hardnessUnder_6 : decode cX4_hardnessUnder 6 = .ok (.iconst 5, 1) := by decide +kernel
theorem dX4_hardnessUnder_7 : decode cX4_hardnessUnder 7 = .ok (.idiv, 1) := by decide +kernel
theorem dX4_hardnessUnder_8 : decode cX4_hardnessUnder 8 = .ok (.isub, 1) := by decide +kernel
theorem dX4_hardnessUnder_9 : decode cX4_hardnessUnder 9 = .ok (.invokestatic 18, 3) := by decide +kernel
theorem dX4_hardnessUnder_12 : decode cX4_hardnessUnder 12 = .ok (.ireturn, 1) := by decide +kernel
theorem dX4_throwRow_0 : decode cX4_throwRow 0 = .ok (.aload_n 0, 1) := by decide +kernel
theorem dX4_throwRow_1 : decode cX4_throwRow 1 = .ok (.iload_n 3, 1) := by decide +kernel
theorem dX4_throwRow_2 : decode cX4_throwRow 2 = .ok (.invokevirtual 24, 3) := by decide +kernel
theorem dX4_throwRow_5 : decode cX4_throwRow 5 = .ok (.istore 5, 2) := by decide +kernel
theorem dX4_throwRow_7 : decode cX4_throwRow 7 = .ok (.iload_n 1, 1) := by decide +kernel
theorem dX4_throwRow_8 : decode cX4_throwRow 8 = .ok (.istore 6, 2) := by decide +kernel
theorem dX4_throwRow_10 : decode cX4_throwRow 10 = .ok (.iconst 1, 1) := by decide +kernel
theorem dX4_throwRow_11 : decode cX4_throwRow 11 = .ok (.istore 7, 2) := by decide +kernel
theorem dX4_throwRow_13 : decode cX4_throwRow 13 = .ok (.iload 7, 2) := by decide +kernel
theorem dX4_throwRow_15 : decode cX4_throwRow 15 = .ok (.sipush 500, 3) := by decide +kernel
theorem dX4_throwRow_18 : decode cX4_throwRow 18 = .ok (.if_icmp .gt 64, 3) := by decide +kernel
theorem dX4_throwRow_21 : decode cX4_throwRow 21 = .ok (.iload 7, 2) := by decide +kernel
theorem dX4_throwRow_23 : decode cX4_throwRow 23 = .ok (.bipush 6, 2) := by decide +kernel
theorem dX4_throwRow_25 : decode cX4_throwRow 25 = .ok (.imul, 1) := by decide +kernel
theorem dX4_throwRow_26 : decode cX4_throwRow 26 = .ok (.aload_n 0, 1) := by decide +kernel
theorem dX4_throwRow_27 : decode cX4_throwRow 27 = .ok (.getfield 9, 3) := by decide +kernel
theorem dX4_throwRow_30 : decode cX4_throwRow 30 = .ok (.imul, 1) := by decide +kernel
theorem dX4_throwRow_31 : decode cX4_throwRow 31 = .ok (.istore 8, 2) := by decide +kernel
theorem dX4_throwRow_33 : decode cX4_throwRow 33 = .ok (.iload 6, 2) := by decide +kernel
theorem dX4_throwRow_35 : decode cX4_throwRow 35 = .ok (.iload 5, 2) := by decide +kernel
theorem dX4_throwRow_37 : decode cX4_throwRow 37 = .ok (.imul, 1) := by decide +kernel
theorem dX4_throwRow_38 : decode cX4_throwRow 38 = .ok (.bipush 100, 2) := by decide +kernel
theorem dX4_throwRow_40 : decode cX4_throwRow 40 = .ok (.idiv, 1) := by decide +kernel
theorem dX4_throwRow_41 : decode cX4_throwRow 41 = .ok (.bipush 100, 2) := by decide +kernel
theorem dX4_throwRow_43 : decode cX4_throwRow 43 = .ok (.iload_n 2, 1) := by decide +kernel
theorem dX4_throwRow_44 : decode cX4_throwRow 44 = .ok (.isub, 1) := by decide +kernel
theorem dX4_throwRow_45 : decode cX4_throwRow 45 = .ok (.imul, 1) := by decide +kernel
theorem dX4_throwRow_46 : decode cX4_throwRow 46 = .ok (.bipush 100, 2) := by decide +kernel
theorem dX4_throwRow_48 : decode cX4_throwRow 48 = .ok (.idiv, 1) := by decide +kernel
theorem dX4_throwRow_49 : decode cX4_throwRow 49 = .ok (.istore 6, 2) := by decide +kernel
theorem dX4_throwRow_51 : decode cX4_throwRow 51 = .ok (.iload 6, 2) := by decide +kernel
theorem dX4_throwRow_53 : decode cX4_throwRow 53 = .ok (.ifCond .le 11, 3) := by decide +kernel
theorem dX4_throwRow_56 : decode cX4_throwRow 56 = .ok (.iload 8, 2) := by decide +kernel
theorem dX4_throwRow_58 : decode cX4_throwRow 58 = .ok (.sipush 3000, 3) := by decide +kernel
theorem dX4_throwRow_61 : decode cX4_throwRow 61 = .ok (.if_icmp .le 4, 3) := by decide +kernel
theorem dX4_throwRow_64 : decode cX4_throwRow 64 = .ok (.return_, 1) := by decide +kernel
theorem dX4_throwRow_65 : decode cX4_throwRow 65 = .ok (.aload 4, 2) := by decide +kernel
theorem dX4_throwRow_67 : decode cX4_throwRow 67 = .ok (.iload 8, 2) := by decide +kernel
theorem dX4_throwRow_69 : decode cX4_throwRow 69 = .ok (.iload 6, 2) := by decide +kernel
theorem dX4_throwRow_71 : decode cX4_throwRow 71 = .ok (.invokeinterface 28 3, 5) := by decide +kernel
theorem dX4_throwRow_76 : decode cX4_throwRow 76 = .ok (.iinc 7 1, 3) := by decide +kernel
theorem dX4_throwRow_79 : decode cX4_throwRow 79 = .ok (.goto (-66), 3) := by decide +kernel
theorem dX4_throwRow_82 : decode cX4_throwRow 82 = .ok (.return_, 1) := by decide +kernel
theorem dX5_init_0 : decode cX5_init 0 = .ok (.aload_n 0, 1) := by decide +kernel
theorem dX5_init_1 : decode cX5_init 1 = .ok (.invokespecial 3, 3) := by decide +kernel
theorem dX5_init_4 : decode cX5_init 4 = .ok (.return_, 1) := by decide +kernel
theorem dX5_begin_0 : decode cX5_begin 0 = .ok (.aload_n 0, 1) := by decide +kernel
theorem dX5_begin_1 : decode cX5_begin 1 = .ok (.iload_n 1, 1) := by decide +kernel
theorem dX5_begin_2 : decode cX5_begin 2 = .ok (.putfield 9, 3) := by decide +kernel
theorem dX5_begin_5 : decode cX5_begin 5 = .ok (.aload_n 0, 1) := by decide +kernel
theorem dX5_begin_6 : decode cX5_begin 6 = .ok (.iconst 0, 1) := by decide +kernel
theorem dX5_begin_7 : decode cX5_begin 7 = .ok (.putfield 15, 3) := by decide +kernel
theorem dX5_begin_10 : decode cX5_begin 10 = .ok (.aload_n 0, 1) := by decide +kernel
theorem dX5_begin_11 : decode cX5_begin 11 = .ok (.iconst 0, 1) := by decide +kernel
theorem dX5_begin_12 : decode cX5_begin 12 = .ok (.putfield 18, 3) := by decide +kernel
theorem dX5_begin_15 : decode cX5_begin 15 = .ok (.aload_n 0, 1) := by decide +kernel
theorem dX5_begin_16 : decode cX5_begin 16 = .ok (.iconst (-1), 1) := by decide +kernel
theorem dX5_begin_17 : decode cX5_begin 17 = .ok (.putfield 21, 3) := by decide +kernel
theorem dX5_begin_20 : decode cX5_begin 20 = .ok (.aload_n 0, 1) := by decide +kernel
theorem dX5_begin_21 : decode cX5_begin 21 = .ok (.iconst (-1), 1) := by decide +kernel
theorem dX5_begin_22 : decode cX5_begin 22 = .ok (.putfield 24, 3) := by decide +kernel
theorem dX5_begin_25 : decode cX5_begin 25 = .ok (.return_, 1) := by decide +kernel
theorem dX5_hear_0 : decode cX5_hear 0 = .ok (.aload_n 0, 1) := by decide +kernel
theorem dX5_hear_1 : decode cX5_hear 1 = .ok (.dup, 1) := by decide +kernel
theorem dX5_hear_2 : decode cX5_hear 2 = .ok (.getfield 15, 3) := by decide +kernel
theorem dX5_hear_5 : decode cX5_hear 5 = .ok (.iconst 1, 1) := by decide +kernel
theorem dX5_hear_6 : decode cX5_hear 6 = .ok (.iadd, 1) := by decide +kernel
theorem dX5_hear_7 : decode cX5_hear 7 = .ok (.putfield 15, 3) := by decide +kernel
theorem dX5_hear_10 : decode cX5_hear 10 = .ok (.iload_n 2, 1) := by decide +kernel
theorem dX5_hear_11 : decode cX5_hear 11 = .ok (.aload_n 0, 1) := by decide +kernel
theorem dX5_hear_12 : decode cX5_hear 12 = .ok (.getfield 9, 3) := by decide +kernel
theorem dX5_hear_15 : decode cX5_hear 15 = .ok (.if_icmp .lt 13, 3) := by decide +kernel
theorem dX5_hear_18 : decode cX5_hear 18 = .ok (.aload_n 0, 1) := by decide +kernel
theorem dX5_hear_19 : decode cX5_hear 19 = .ok (.dup, 1) := by decide +kernel
theorem dX5_hear_20 : decode cX5_hear 20 = .ok (.getfield 18, 3) := by decide +kernel
theorem dX5_hear_23 : decode cX5_hear 23 = .ok (.iconst 1, 1) := by decide +kernel
theorem dX5_hear_24 : decode cX5_hear 24 = .ok (.iadd, 1) := by decide +kernel
theorem dX5_hear_25 : decode cX5_hear 25 = .ok (.putfield 18, 3) := by decide +kernel
theorem dX5_hear_28 : decode cX5_hear 28 = .ok (.aload_n 0, 1) := by decide +kernel
theorem dX5_hear_29 : decode cX5_hear 29 = .ok (.getfield 21, 3) := by decide +kernel
theorem dX5_hear_32 : decode cX5_hear 32 = .ok (.iconst (-1), 1) := by decide +kernel
theorem dX5_hear_33 : decode cX5_hear 33 = .ok (.if_icmp .eq 11, 3) := by decide +kernel
theorem dX5_hear_36 : decode cX5_hear 36 = .ok (.iload_n 1, 1) := by decide +kernel
theorem dX5_hear_37 : decode cX5_hear 37 = .ok (.aload_n 0, 1) := by decide +kernel
theorem dX5_hear_38 : decode cX5_hear 38 = .ok (.getfield 21, 3) := by decide +kernel
theorem dX5_hear_41 : decode cX5_hear 41 = .ok (.if_icmp .ge 8, 3) := by decide +kernel
theorem dX5_hear_44 : decode cX5_hear 44 = .ok (.aload_n 0, 1) := by decide +kernel
theorem dX5_hear_45 : decode cX5_hear 45 = .ok (.iload_n 1, 1) := by decide +kernel
theorem dX5_hear_46 : decode cX5_hear 46 = .ok (.putfield 21, 3) := by decide +kernel
theorem dX5_hear_49 : decode cX5_hear 49 = .ok (.iload_n 1, 1) := by decide +kernel
theorem dX5_hear_50 : decode cX5_hear 50 = .ok (.aload_n 0, 1) := by decide +kernel
theorem dX5_hear_51 : decode cX5_hear 51 = .ok (.getfield 24, 3) := by decide +kernel
theorem dX5_hear_54 : decode cX5_hear 54 = .ok (.if_icmp .le 8, 3) := by decide +kernel
theorem dX5_hear_57 : decode cX5_hear 57 = .ok (.aload_n 0, 1) := by decide +kernel
theorem dX5_hear_58 : decode cX5_hear 58 = .ok (.iload_n 1, 1) := by decide +kernel
theorem dX5_hear_59 : decode cX5_hear 59 = .ok (.putfield 24, 3) := by decide +kernel
theorem dX5_hear_62 : decode cX5_hear 62 = .ok (.return_, 1) := by decide +kernel
theorem dX6_init_0 : decode cX6_init 0 = .ok (.aload_n 0, 1) := by decide +kernel
theorem dX6_init_1 : decode cX6_init 1 = .ok (.invokespecial 3, 3) := by decide +kernel
theorem dX6_init_4 : decode cX6_init 4 = .ok (.aload_n 0, 1) := by decide +kernel
theorem dX6_init_5 : decode cX6_init 5 = .ok (.bipush 8, 2) := by decide +kernel
theorem dX6_init_7 : decode cX6_init 7 = .ok (.anewarray 9, 3) := by decide +kernel
theorem dX6_init_10 : decode cX6_init 10 = .ok (.putfield 11, 3) := by decide +kernel
theorem dX6_init_13 : decode cX6_init 13 = .ok (.aload_n 0, 1) := by decide +kernel
theorem dX6_init_14 : decode cX6_init 14 = .ok (.iconst 5, 1) := by decide +kernel
theorem dX6_init_15 : decode cX6_init 15 = .ok (.anewarray 15, 3) := by decide +kernel
theorem dX6_init_18 : decode cX6_init 18 = .ok (.putfield 17, 3) := by decide +kernel
theorem dX6_init_21 : decode cX6_init 21 = .ok (.aload_n 0, 1) := by decide +kernel
theorem dX6_init_22 : decode cX6_init 22 = .ok (.new 21, 3) := by decide +kernel
theorem dX6_init_25 : decode cX6_init 25 = .ok (.dup, 1) := by decide +kernel
theorem dX6_init_26 : decode cX6_init 26 = .ok (.invokespecial 23, 3) := by decide +kernel
theorem dX6_init_29 : decode cX6_init 29 = .ok (.putfield 24, 3) := by decide +kernel
theorem dX6_init_32 : decode cX6_init 32 = .ok (.aload_n 0, 1) := by decide +kernel
theorem dX6_init_33 : decode cX6_init 33 = .ok (.new 28, 3) := by decide +kernel
theorem dX6_init_36 : decode cX6_init 36 = .ok (.dup, 1) := by decide +kernel
theorem dX6_init_37 : decode cX6_init 37 = .ok (.invokespecial 30, 3) := by decide +kernel
theorem dX6_init_40 : decode cX6_init 40 = .ok (.putfield 31, 3) := by decide +kernel
theorem dX6_init_43 : decode cX6_init 43 = .ok (.return_, 1) := by decide +kernel
theorem dX6_addHall_0 : decode cX6_addHall 0 = .ok (.iload_n 1, 1) := by decide +kernel
theorem dX6_addHall_1 : decode cX6_addHall 1 = .ok (.invokestatic 35, 3) := by decide +kernel
theorem dX6_addHall_4 : decode cX6_addHall 4 = .ok (.aload_n 0, 1) := by decide +kernel
theorem dX6_addHall_5 : decode cX6_addHall 5 = .ok (.getfield 39, 3) := by decide +kernel
theorem dX6_addHall_8 : decode cX6_addHall 8 = .ok (.aload_n 0, 1) := by decide +kernel
theorem dX6_addHall_9 : decode cX6_addHall 9 = .ok (.getfield 11, 3) := by decide +kernel
theorem dX6_addHall_12 : decode cX6_addHall 12 = .ok (.arraylength, 1) := by decide +kernel
theorem dX6_addHall_13 : decode cX6_addHall 13 = .ok (.if_icmp .lt 13, 3) := by decide +kernel
theorem dX6_addHall_16 : decode cX6_addHall 16 = .ok (.new 43, 3) := by decide +kernel
theorem dX6_addHall_19 : decode cX6_addHall 19 = .ok (.dup, 1) := by decide +kernel
theorem dX6_addHall_20 : decode cX6_addHall 20 = .ok (.ldc 45, 2) := by decide +kernel
theorem dX6_addHall_22 : decode cX6_addHall 22 = .ok (.invokespecial 47, 3) := by decide +kernel
theorem dX6_addHall_25 : decode cX6_addHall 25 = .ok (.athrow, 1) := by decide +kernel
theorem dX6_addHall_26 : decode cX6_addHall 26 = .ok (.aload_n 0, 1) := by decide +kernel
theorem dX6_addHall_27 : decode cX6_addHall 27 = .ok (.getfield 39, 3) := by decide +kernel
theorem dX6_addHall_30 : decode cX6_addHall 30 = .ok (.istore_n 2, 1) := by decide +kernel
theorem dX6_addHall_31 : decode cX6_addHall 31 = .ok (.aload_n 0, 1) := by decide +kernel
theorem dX6_addHall_32 : decode cX6_addHall 32 = .ok (.getfield 11, 3) := by decide +kernel
theorem dX6_addHall_35 : decode cX6_addHall 35 = .ok (.iload_n 2, 1) := by decide +kernel
theorem dX6_addHall_36 : decode cX6_addHall 36 = .ok (.new 9, 3) := by decide +kernel
theorem dX6_addHall_39 : decode cX6_addHall 39 = .ok (.dup, 1) := by decide +kernel
theorem dX6_addHall_40 : decode cX6_addHall 40 = .ok (.iload_n 1, 1) := by decide +kernel
theorem dX6_addHall_41 : decode cX6_addHall 41 = .ok (.invokespecial 50, 3) := by decide +kernel
theorem dX6_addHall_44 : decode cX6_addHall 44 = .ok (.aastore, 1) := by decide +kernel
theorem dX6_addHall_45 : decode cX6_addHall 45 = .ok (.aload_n 0, 1) := by decide +kernel
theorem dX6_addHall_46 : decode cX6_addHall 46 = .ok (.dup, 1) := by decide +kernel
theorem dX6_addHall_47 : decode cX6_addHall 47 = .ok (.getfield 39, 3) := by decide +kernel
theorem dX6_addHall_50 : decode cX6_addHall 50 = .ok (.iconst 1, 1) := by decide +kernel
theorem dX6_addHall_51 : decode cX6_addHall 51 = .ok (.iadd, 1) := by decide +kernel
theorem dX6_addHall_52 : decode cX6_addHall 52 = .ok (.putfield 39, 3) := by decide +kernel
theorem dX6_addHall_55 : decode cX6_addHall 55 = .ok (.iload_n 2, 1) := by decide +kernel
theorem dX6_addHall_56 : decode cX6_addHall 56 = .ok (.ireturn, 1) := by decide +kernel
theorem dX6_addSurface_0 : decode cX6_addSurface 0 = .ok (.aload_n 0, 1) := by decide +kernel
theorem dX6_addSurface_1 : decode cX6_addSurface 1 = .ok (.iload_n 1, 1) := by decide +kernel
theorem dX6_addSurface_2 : decode cX6_addSurface 2 = .ok (.invokevirtual 52, 3) := by decide +kernel
theorem dX6_addSurface_5 : decode cX6_addSurface 5 = .ok (.astore 4, 2) := by decide +kernel
theorem dX6_addSurface_7 : decode cX6_addSurface 7 = .ok (.iload_n 2, 1) := by decide +kernel
theorem dX6_addSurface_8 : decode cX6_addSurface 8 = .ok (.invokestatic 56, 3) := by decide +kernel
theorem dX6_addSurface_11 : decode cX6_addSurface 11 = .ok (.iload_n 3, 1) := by decide +kernel
theorem dX6_addSurface_12 : decode cX6_addSurface 12 = .ok (.iconst 0, 1) := by decide +kernel
theorem dX6_addSurface_13 : decode cX6_addSurface 13 = .ok (.bipush 99, 2) := by decide +kernel
theorem dX6_addSurface_15 : decode cX6_addSurface 15 = .ok (.invokestatic 59, 3) := by decide +kernel
theorem dX6_addSurface_18 : decode cX6_addSurface 18 = .ok (.ifCond .ne 13, 3) := by decide +kernel
theorem dX6_addSurface_21 : decode cX6_addSurface 21 = .ok (.new 63, 3) := by decide +kernel
theorem dX6_addSurface_24 : decode cX6_addSurface 24 = .ok (.dup, 1) := by decide +kernel
theorem dX6_addSurface_25 : decode cX6_addSurface 25 = .ok (.ldc 65, 2) := by decide +kernel
theorem dX6_addSurface_27 : decode cX6_addSurface 27 = .ok (.invokespecial 67, 3) := by decide +kernel
theorem dX6_addSurface_30 : decode cX6_addSurface 30 = .ok (.athrow, 1) := by decide +kernel
theorem dX6_addSurface_31 : decode cX6_addSurface 31 = .ok (.aload 4, 2) := by decide +kernel
theorem dX6_addSurface_33 : decode cX6_addSurface 33 = .ok (.invokevirtual 68, 3) := by decide +kernel
theorem dX6_addSurface_36 : decode cX6_addSurface 36 = .ok (.ifCond .eq 13, 3) := by decide +kernel
theorem dX6_addSurface_39 : decode cX6_addSurface 39 = .ok (.new 43, 3) := by decide +kernel
theorem dX6_addSurface_42 : decode cX6_addSurface 42 = .ok (.dup, 1) := by decide +kernel
theorem dX6_addSurface_43 : decode cX6_addSurface 43 = .ok (.ldc 72, 2) := by decide +kernel
theorem dX6_addSurface_45 : decode cX6_addSurface 45 = .ok (.invokespecial 47, 3) := by decide +kernel
theorem dX6_addSurface_48 : decode cX6_addSurface 48 = .ok (.athrow, 1) := by decide +kernel
theorem dX6_addSurface_49 : decode cX6_addSurface 49 = .ok (.aload 4, 2) := by decide +kernel
theorem dX6_addSurface_51 : decode cX6_addSurface 51 = .ok (.invokevirtual 74, 3) := by decide +kernel
theorem dX6_addSurface_54 : decode cX6_addSurface 54 = .ok (.aload 4, 2) := by decide +kernel
theorem dX6_addSurface_56 : decode cX6_addSurface 56 = .ok (.new 77, 3) := by decide +kernel
theorem dX6_addSurface_59 : decode cX6_addSurface 59 = .ok (.dup, 1) := by decide +kernel
theorem dX6_addSurface_60 : decode cX6_addSurface 60 = .ok (.iload_n 2, 1) := by decide +kernel
theorem dX6_addSurface_61 : decode cX6_addSurface 61 = .ok (.iload_n 3, 1) := by decide +kernel
theorem dX6_addSurface_62 : decode cX6_addSurface 62 = .ok (.invokespecial 79, 3) := by decide +kernel
theorem dX6_addSurface_65 : decode cX6_addSurface 65 = .ok (.invokevirtual 82, 3) := by decide +kernel
theorem dX6_addSurface_68 : decode cX6_addSurface 68 = .ok (.ireturn, 1) := by decide +kernel
theorem dX6_moveSurface_0 : decode cX6_moveSurface 0 = .ok (.aload_n 0, 1) := by decide +kernel
theorem dX6_moveSurface_1 : decode cX6_moveSurface 1 = .ok (.iload_n 1, 1) := by decide +kernel
theorem dX6_moveSurface_2 : decode cX6_moveSurface 2 = .ok (.invokevirtual 52, 3) := by decide +kernel
theorem dX6_moveSurface_5 : decode cX6_moveSurface 5 = .ok (.astore 4, 2) := by decide +kernel
theorem dX6_moveSurface_7 : decode cX6_moveSurface 7 = .ok (.aload 4, 2) := by decide +kernel
theorem dX6_moveSurface_9 : decode cX6_moveSurface 9 = .ok (.iload_n 2, 1) := by decide +kernel
theorem dX6_moveSurface_10 : decode cX6_moveSurface 10 = .ok (.invokestatic 86, 3) := by decide +kernel
theorem dX6_moveSurface_13 : decode cX6_moveSurface 13 = .ok (.astore 5, 2) := by decide +kernel
theorem dX6_moveSurface_15 : decode cX6_moveSurface 15 = .ok (.iload_n 3, 1) := by decide +kernel
theorem dX6_moveSurface_16 : decode cX6_moveSurface 16 = .ok (.invokestatic 56, 3) := by decide +kernel
theorem dX6_moveSurface_19 : decode cX6_moveSurface 19 = .ok (.aload 5, 2) := by decide +kernel
theorem dX6_moveSurface_21 : decode cX6_moveSurface 21 = .ok (.getfield 90, 3) := by decide +kernel
theorem dX6_moveSurface_24 : decode cX6_moveSurface 24 = .ok (.istore 6, 2) := by decide +kernel
theorem dX6_moveSurface_26 : decode cX6_moveSurface 26 = .ok (.aload 5, 2) := by decide +kernel
theorem dX6_moveSurface_28 : decode cX6_moveSurface 28 = .ok (.iload_n 3, 1) := by decide +kernel
theorem dX6_moveSurface_29 : decode cX6_moveSurface 29 = .ok (.putfield 90, 3) := by decide +kernel
theorem dX6_moveSurface_32 : decode cX6_moveSurface 32 = .ok (.aload 4, 2) := by decide +kernel
theorem dX6_moveSurface_34 : decode cX6_moveSurface 34 = .ok (.invokevirtual 74, 3) := by decide +kernel
theorem dX6_moveSurface_37 : decode cX6_moveSurface 37 = .ok (.iload 6, 2) := by decide +kernel
theorem dX6_moveSurface_39 : decode cX6_moveSurface 39 = .ok (.ireturn, 1) := by decide +kernel
theorem dX6_setDamping_0 : decode cX6_setDamping 0 = .ok (.aload_n 0, 1) := by decide +kernel
theorem dX6_setDamping_1 : decode cX6_setDamping 1 = .ok (.iload_n 1, 1) := by decide +kernel
theorem dX6_setDamping_2 : decode cX6_setDamping 2 = .ok (.invokevirtual 52, 3) := by decide +kernel
theorem dX6_setDamping_5 : decode cX6_setDamping 5 = .ok (.astore_n 3, 1) := by decide +kernel
theorem dX6_setDamping_6 : decode cX6_setDamping 6 = .ok (.iload_n 2, 1) := by decide +kernel
theorem dX6_setDamping_7 : decode cX6_setDamping 7 = .ok (.invokestatic 35, 3) := by decide +kernel
theorem dX6_setDamping_10 : decode cX6_setDamping 10 = .ok (.aload_n 3, 1) := by decide +kernel
theorem dX6_setDamping_11 : decode cX6_setDamping 11 = .ok (.getfield 93, 3) := by decide +kernel
theorem dX6_setDamping_14 : decode cX6_setDamping 14 = .ok (.istore 4, 2) := by decide +kernel
theorem dX6_setDamping_16 : decode cX6_setDamping 16 = .ok (.aload_n 3, 1) := by decide +kernel
theorem dX6_setDamping_17 : decode cX6_setDamping 17 = .ok (.iload_n 2, 1) := by decide +kernel
theorem dX6_setDamping_18 : decode cX6_setDamping 18 = .ok (.putfield 93, 3) := by decide +kernel
theorem dX6_setDamping_21 : decode cX6_setDamping 21 = .ok (.aload_n 3, 1) := by decide +kernel
theorem dX6_setDamping_22 : decode cX6_setDamping 22 = .ok (.invokevirtual 74, 3) := by decide +kernel
theorem dX6_setDamping_25 : decode cX6_setDamping 25 = .ok (.iload 4, 2) := by decide +kernel
theorem dX6_setDamping_27 : decode cX6_setDamping 27 = .ok (.ireturn, 1) := by decide +kernel
theorem dX6_clean_0 : decode cX6_clean 0 = .ok (.aload_n 0, 1) := by decide +kernel
theorem dX6_clean_1 : decode cX6_clean 1 = .ok (.iload_n 1, 1) := by decide +kernel
theorem dX6_clean_2 : decode cX6_clean 2 = .ok (.invokevirtual 52, 3) := by decide +kernel
theorem dX6_clean_5 : decode cX6_clean 5 = .ok (.astore_n 2, 1) := by decide +kernel
theorem dX6_clean_6 : decode cX6_clean 6 = .ok (.aload_n 2, 1) := by decide +kernel
theorem dX6_clean_7 : decode cX6_clean 7 = .ok (.getfield 96, 3) := by decide +kernel
theorem dX6_clean_10 : decode cX6_clean 10 = .ok (.istore_n 3, 1) := by decide +kernel
theorem dX6_clean_11 : decode cX6_clean 11 = .ok (.aload_n 2, 1) := by decide +kernel
theorem dX6_clean_12 : decode cX6_clean 12 = .ok (.iconst 0, 1) := by decide +kernel
theorem dX6_clean_13 : decode cX6_clean 13 = .ok (.putfield 96, 3) := by decide +kernel
theorem dX6_clean_16 : decode cX6_clean 16 = .ok (.iload_n 3, 1) := by decide +kernel
theorem dX6_clean_17 : decode cX6_clean 17 = .ok (.ireturn, 1) := by decide +kernel
theorem dX6_addStandard_0 : decode cX6_addStandard 0 = .ok (.iload_n 1, 1) := by decide +kernel
theorem dX6_addStandard_1 : decode cX6_addStandard 1 = .ok (.iconst 0, 1) := by decide +kernel
theorem dX6_addStandard_2 : decode cX6_addStandard 2 = .ok (.sipush 500, 3) := by decide +kernel
theorem dX6_addStandard_5 : decode cX6_addStandard 5 = .ok (.invokestatic 59, 3) := by decide +kernel
theorem dX6_addStandard_8 : decode cX6_addStandard 8 = .ok (.ifCond .eq 51, 3) := by decide +kernel
theorem dX6_addStandard_11 : decode cX6_addStandard 11 = .ok (.iload_n 2, 1) := by decide +kernel
theorem dX6_addStandard_12 : decode cX6_addStandard 12 = .ok (.iconst 1, 1) := by decide +kernel
theorem dX6_addStandard_13 : decode cX6_addStandard 13 = .ok (.sipush 1000, 3) := by decide +kernel
theorem dX6_addStandard_16 : decode cX6_addStandard 16 = .ok (.invokestatic 59, 3) := by decide +kernel
theorem dX6_addStandard_19 : decode cX6_addStandard 19 = .ok (.ifCond .eq 40, 3) := by decide +kernel
theorem dX6_addStandard_22 : decode cX6_addStandard 22 = .ok (.iload_n 3, 1) := by decide +kernel
theorem dX6_addStandard_23 : decode cX6_addStandard 23 = .ok (.iconst 0, 1) := by decide +kernel
theorem dX6_addStandard_24 : decode cX6_addStandard 24 = .ok (.bipush 99, 2) := by decide +kernel
theorem dX6_addStandard_26 : decode cX6_addStandard 26 = .ok (.invokestatic 59, 3) := by decide +kernel
theorem dX6_addStandard_29 : decode cX6_addStandard 29 = .ok (.ifCond .eq 30, 3) := by decide +kernel
theorem dX6_addStandard_32 : decode cX6_addStandard 32 = .ok (.iload 4, 2) := by decide +kernel
theorem dX6_addStandard_34 : decode cX6_addStandard 34 = .ok (.iconst 0, 1) := by decide +kernel
theorem dX6_addStandard_35 : decode cX6_addStandard 35 = .ok (.sipush 3000, 3) := by decide +kernel
theorem dX6_addStandard_38 : decode cX6_addStandard 38 = .ok (.invokestatic 59, 3) := by decide +kernel
theorem dX6_addStandard_41 : decode cX6_addStandard 41 = .ok (.ifCond .eq 18, 3) := by decide +kernel
theorem dX6_addStandard_44 : decode cX6_addStandard 44 = .ok (.iload 5, 2) := by decide +kernel
theorem dX6_addStandard_46 : decode cX6_addStandard 46 = .ok (.iconst 1, 1) := by decide +kernel
theorem dX6_addStandard_47 : decode cX6_addStandard 47 = .ok (.bipush 100, 2) := by decide +kernel
theorem dX6_addStandard_49 : decode cX6_addStandard 49 = .ok (.invokestatic 59, 3) := by decide +kernel
theorem dX6_addStandard_52 : decode cX6_addStandard 52 = .ok (.ifCond .eq 7, 3) := by decide +kernel
theorem dX6_addStandard_55 : decode cX6_addStandard 55 = .ok (.iconst 1, 1) := by decide +kernel
theorem dX6_addStandard_56 : decode cX6_addStandard 56 = .ok (.goto 4, 3) := by decide +kernel
theorem dX6_addStandard_59 : decode cX6_addStandard 59 = .ok (.iconst 0, 1) := by decide +kernel
theorem dX6_addStandard_60 : decode cX6_addStandard 60 = .ok (.istore 6, 2) := by decide +kernel
theorem dX6_addStandard_62 : decode cX6_addStandard 62 = .ok (.iload 6, 2) := by decide +kernel
theorem dX6_addStandard_64 : decode cX6_addStandard 64 = .ok (.ifCond .ne 13, 3) := by decide +kernel
theorem dX6_addStandard_67 : decode cX6_addStandard 67 = .ok (.new 63, 3) := by decide +kernel
theorem dX6_addStandard_70 : decode cX6_addStandard 70 = .ok (.dup, 1) := by decide +kernel
theorem dX6_addStandard_71 : decode cX6_addStandard 71 = .ok (.ldc 99, 2) := by decide +kernel
theorem dX6_addStandard_73 : decode cX6_addStandard 73 = .ok (.invokespecial 67, 3) := by decide +kernel
theorem dX6_addStandard_76 : decode cX6_addStandard 76 = .ok (.athrow, 1) := by decide +kernel
theorem dX6_addStandard_77 : decode cX6_addStandard 77 = .ok (.aload_n 0, 1) := by decide +kernel
theorem dX6_addStandard_78 : decode cX6_addStandard 78 = .ok (.getfield 101, 3) := by decide +kernel
theorem dX6_addStandard_81 : decode cX6_addStandard 81 = .ok (.aload_n 0, 1) := by decide +kernel
theorem dX6_addStandard_82 : decode cX6_addStandard 82 = .ok (.getfield 17, 3) := by decide +kernel
theorem dX6_addStandard_85 : decode cX6_addStandard 85 = .ok (.arraylength, 1) := by decide +kernel
theorem dX6_addStandard_86 : decode cX6_addStandard 86 = .ok (.if_icmp .lt 13, 3) := by decide +kernel
theorem dX6_addStandard_89 : decode cX6_addStandard 89 = .ok (.new 43, 3) := by decide +kernel
theorem dX6_addStandard_92 : decode cX6_addStandard 92 = .ok (.dup, 1) := by decide +kernel
theorem dX6_addStandard_93 : decode cX6_addStandard 93 = .ok (.ldc 104, 2) := by decide +kernel
theorem dX6_addStandard_95 : decode cX6_addStandard 95 = .ok (.invokespecial 47, 3) := by decide +kernel
theorem dX6_addStandard_98 : decode cX6_addStandard 98 = .ok (.athrow, 1) := by decide +kernel
theorem dX6_addStandard_99 : decode cX6_addStandard 99 = .ok (.aload_n 0, 1) := by decide +kernel
theorem dX6_addStandard_100 : decode cX6_addStandard 100 = .ok (.getfield 101, 3) := by decide +kernel
theorem dX6_addStandard_103 : decode cX6_addStandard 103 = .ok (.istore 7, 2) := by decide +kernel
theorem dX6_addStandard_105 : decode cX6_addStandard 105 = .ok (.aload_n 0, 1) := by decide +kernel
theorem dX6_addStandard_106 : decode cX6_addStandard 106 = .ok (.getfield 17, 3) := by decide +kernel
theorem dX6_addStandard_109 : decode cX6_addStandard 109 = .ok (.iload 7, 2) := by decide +kernel
theorem dX6_addStandard_111 : decode cX6_addStandard 111 = .ok (.new 15, 3) := by decide +kernel
theorem dX6_addStandard_114 : decode cX6_addStandard 114 = .ok (.dup, 1) := by decide +kernel
theorem dX6_addStandard_115 : decode cX6_addStandard 115 = .ok (.iload_n 1, 1) := by decide +kernel
theorem dX6_addStandard_116 : decode cX6_addStandard 116 = .ok (.iload_n 2, 1) := by decide +kernel
theorem dX6_addStandard_117 : decode cX6_addStandard 117 = .ok (.iload_n 3, 1) := by decide +kernel
theorem dX6_addStandard_118 : decode cX6_addStandard 118 = .ok (.iload 4, 2) := by decide +kernel
theorem dX6_addStandard_120 : decode cX6_addStandard 120 = .ok (.iload 5, 2) := by decide +kernel
theorem dX6_addStandard_122 : decode cX6_addStandard 122 = .ok (.invokespecial 106, 3) := by decide +kernel
theorem dX6_addStandard_125 : decode cX6_addStandard 125 = .ok (.aastore, 1) := by decide +kernel
theorem dX6_addStandard_126 : decode cX6_addStandard 126 = .ok (.aload_n 0, 1) := by decide +kernel
theorem dX6_addStandard_127 : decode cX6_addStandard 127 = .ok (.dup, 1) := by decide +kernel
theorem dX6_addStandard_128 : decode cX6_addStandard 128 = .ok (.getfield 101, 3) := by decide +kernel
theorem dX6_addStandard_131 : decode cX6_addStandard 131 = .ok (.iconst 1, 1) := by decide +kernel
theorem dX6_addStandard_132 : decode cX6_addStandard 132 = .ok (.iadd, 1) := by decide +kernel
theorem dX6_addStandard_133 : decode cX6_addStandard 133 = .ok (.putfield 101, 3) := by decide +kernel
theorem dX6_addStandard_136 : decode cX6_addStandard 136 = .ok (.iload 7, 2) := by decide +kernel
theorem dX6_addStandard_138 : decode cX6_addStandard 138 = .ok (.ireturn, 1) := by decide +kernel
theorem dX6_inspect_0 : decode cX6_inspect 0 = .ok (.aload_n 0, 1) := by decide +kernel
theorem dX6_inspect_1 : decode cX6_inspect 1 = .ok (.iload_n 1, 1) := by decide +kernel
theorem dX6_inspect_2 : decode cX6_inspect 2 = .ok (.invokevirtual 52, 3) := by decide +kernel
theorem dX6_inspect_5 : decode cX6_inspect 5 = .ok (.astore_n 3, 1) := by decide +kernel
theorem dX6_inspect_6 : decode cX6_inspect 6 = .ok (.aload_n 0, 1) := by decide +kernel
theorem dX6_inspect_7 : decode cX6_inspect 7 = .ok (.iload_n 2, 1) := by decide +kernel
theorem dX6_inspect_8 : decode cX6_inspect 8 = .ok (.invokevirtual 109, 3) := by decide +kernel
theorem dX6_inspect_11 : decode cX6_inspect 11 = .ok (.astore 4, 2) := by decide +kernel
theorem dX6_inspect_13 : decode cX6_inspect 13 = .ok (.aload_n 0, 1) := by decide +kernel
theorem dX6_inspect_14 : decode cX6_inspect 14 = .ok (.dup, 1) := by decide +kernel
theorem dX6_inspect_15 : decode cX6_inspect 15 = .ok (.getfield 113, 3) := by decide +kernel
theorem dX6_inspect_18 : decode cX6_inspect 18 = .ok (.iconst 1, 1) := by decide +kernel
theorem dX6_inspect_19 : decode cX6_inspect 19 = .ok (.iadd, 1) := by decide +kernel
theorem dX6_inspect_20 : decode cX6_inspect 20 = .ok (.putfield 113, 3) := by decide +kernel
theorem dX6_inspect_23 : decode cX6_inspect 23 = .ok (.aload_n 0, 1) := by decide +kernel
theorem dX6_inspect_24 : decode cX6_inspect 24 = .ok (.aload_n 3, 1) := by decide +kernel
theorem dX6_inspect_25 : decode cX6_inspect 25 = .ok (.aload 4, 2) := by decide +kernel
theorem dX6_inspect_27 : decode cX6_inspect 27 = .ok (.invokevirtual 116, 3) := by decide +kernel
theorem dX6_inspect_30 : decode cX6_inspect 30 = .ok (.istore 5, 2) := by decide +kernel
theorem dX6_inspect_32 : decode cX6_inspect 32 = .ok (.iload 5, 2) := by decide +kernel
theorem dX6_inspect_34 : decode cX6_inspect 34 = .ok (.ifCond .eq 16, 3) := by decide +kernel
theorem dX6_inspect_37 : decode cX6_inspect 37 = .ok (.aload_n 3, 1) := by decide +kernel
theorem dX6_inspect_38 : decode cX6_inspect 38 = .ok (.iload_n 2, 1) := by decide +kernel
theorem dX6_inspect_39 : decode cX6_inspect 39 = .ok (.aload 4, 2) := by decide +kernel
theorem dX6_inspect_41 : decode cX6_inspect 41 = .ok (.getfield 120, 3) := by decide +kernel
theorem dX6_inspect_44 : decode cX6_inspect 44 = .ok (.invokevirtual 123, 3) := by decide +kernel
theorem dX6_inspect_47 : decode cX6_inspect 47 = .ok (.goto 15, 3) := by decide +kernel
theorem dX6_inspect_50 : decode cX6_inspect 50 = .ok (.aload_n 3, 1) := by decide +kernel
theorem dX6_inspect_51 : decode cX6_inspect 51 = .ok (.getfield 126, 3) := by decide +kernel
theorem dX6_inspect_54 : decode cX6_inspect 54 = .ok (.iload_n 2, 1) := by decide +kernel
theorem dX6_inspect_55 : decode cX6_inspect 55 = .ok (.if_icmp .ne 7, 3) := by decide +kernel
theorem dX6_inspect_58 : decode cX6_inspect 58 = .ok (.aload_n 3, 1) := by decide +kernel
theorem dX6_inspect_59 : decode cX6_inspect 59 = .ok (.invokevirtual 74, 3) := by decide +kernel
theorem dX6_inspect_62 : decode cX6_inspect 62 = .ok (.iload 5, 2) := by decide +kernel
theorem dX6_inspect_64 : decode cX6_inspect 64 = .ok (.ireturn, 1) := by decide +kernel
theorem dX6_revoke_0 : decode cX6_revoke 0 = .ok (.aload_n 0, 1) := by decide +kernel
theorem dX6_revoke_1 : decode cX6_revoke 1 = .ok (.iload_n 1, 1) := by decide +kernel
theorem dX6_revoke_2 : decode cX6_revoke 2 = .ok (.invokevirtual 52, 3) := by decide +kernel
theorem dX6_revoke_5 : decode cX6_revoke 5 = .ok (.astore_n 2, 1) := by decide +kernel
theorem dX6_revoke_6 : decode cX6_revoke 6 = .ok (.aload_n 2, 1) := by decide +kernel
theorem dX6_revoke_7 : decode cX6_revoke 7 = .ok (.invokestatic 129, 3) := by decide +kernel
theorem dX6_revoke_10 : decode cX6_revoke 10 = .ok (.aload_n 2, 1) := by decide +kernel
theorem dX6_revoke_11 : decode cX6_revoke 11 = .ok (.getfield 133, 3) := by decide +kernel
theorem dX6_revoke_14 : decode cX6_revoke 14 = .ok (.istore_n 3, 1) := by decide +kernel
theorem dX6_revoke_15 : decode cX6_revoke 15 = .ok (.aload_n 2, 1) := by decide +kernel
theorem dX6_revoke_16 : decode cX6_revoke 16 = .ok (.invokevirtual 74, 3) := by decide +kernel
theorem dX6_revoke_19 : decode cX6_revoke 19 = .ok (.iload_n 3, 1) := by decide +kernel
theorem dX6_revoke_20 : decode cX6_revoke 20 = .ok (.ireturn, 1) := by decide +kernel
theorem dX6_passDays_0 : decode cX6_passDays 0 = .ok (.iload_n 1, 1) := by decide +kernel
theorem dX6_passDays_1 : decode cX6_passDays 1 = .ok (.iconst 1, 1) := by decide +kernel
theorem dX6_passDays_2 : decode cX6_passDays 2 = .ok (.bipush 100, 2) := by decide +kernel
theorem dX6_passDays_4 : decode cX6_passDays 4 = .ok (.invokestatic 59, 3) := by decide +kernel
theorem dX6_passDays_7 : decode cX6_passDays 7 = .ok (.ifCond .ne 13, 3) := by decide +kernel
theorem dX6_passDays_10 : decode cX6_passDays 10 = .ok (.new 63, 3) := by decide +kernel
theorem dX6_passDays_13 : decode cX6_passDays 13 = .ok (.dup, 1) := by decide +kernel
theorem dX6_passDays_14 : decode cX6_passDays 14 = .ok (.ldc 136, 2) := by decide +kernel
theorem dX6_passDays_16 : decode cX6_passDays 16 = .ok (.invokespecial 67, 3) := by decide +kernel
theorem dX6_passDays_19 : decode cX6_passDays 19 = .ok (.athrow, 1) := by decide +kernel
theorem dX6_passDays_20 : decode cX6_passDays 20 = .ok (.aload_n 0, 1) := by decide +kernel
theorem dX6_passDays_21 : decode cX6_passDays 21 = .ok (.getfield 11, 3) := by decide +kernel
theorem dX6_passDays_24 : decode cX6_passDays 24 = .ok (.astore_n 2, 1) := by decide +kernel
theorem dX6_passDays_25 : decode cX6_passDays 25 = .ok (.aload_n 2, 1) := by decide +kernel
theorem dX6_passDays_26 : decode cX6_passDays 26 = .ok (.arraylength, 1) := by decide +kernel
theorem dX6_passDays_27 : decode cX6_passDays 27 = .ok (.istore_n 3, 1) := by decide +kernel
theorem dX6_passDays_28 : decode cX6_passDays 28 = .ok (.iconst 0, 1) := by decide +kernel
theorem dX6_passDays_29 : decode cX6_passDays 29 = .ok (.istore 4, 2) := by decide +kernel
theorem dX6_passDays_31 : decode cX6_passDays 31 = .ok (.iload 4, 2) := by decide +kernel
theorem dX6_passDays_33 : decode cX6_passDays 33 = .ok (.iload_n 3, 1) := by decide +kernel
theorem dX6_passDays_34 : decode cX6_passDays 34 = .ok (.if_icmp .ge 26, 3) := by decide +kernel
theorem dX6_passDays_37 : decode cX6_passDays 37 = .ok (.aload_n 2, 1) := by decide +kernel
theorem dX6_passDays_38 : decode cX6_passDays 38 = .ok (.iload 4, 2) := by decide +kernel
theorem dX6_passDays_40 : decode cX6_passDays 40 = .ok (.aaload, 1) := by decide +kernel
theorem dX6_passDays_41 : decode cX6_passDays 41 = .ok (.astore 5, 2) := by decide +kernel
theorem dX6_passDays_43 : decode cX6_passDays 43 = .ok (.aload 5, 2) := by decide +kernel
theorem dX6_passDays_45 : decode cX6_passDays 45 = .ok (.ifnull 9, 3) := by decide +kernel
theorem dX6_passDays_48 : decode cX6_passDays 48 = .ok (.aload 5, 2) := by decide +kernel
theorem dX6_passDays_50 : decode cX6_passDays 50 = .ok (.iload_n 1, 1) := by decide +kernel
theorem dX6_passDays_51 : decode cX6_passDays 51 = .ok (.invokevirtual 138, 3) := by decide +kernel
theorem dX6_passDays_54 : decode cX6_passDays 54 = .ok (.iinc 4 1, 3) := by decide +kernel
theorem dX6_passDays_57 : decode cX6_passDays 57 = .ok (.goto (-26), 3) := by decide +kernel
theorem dX6_passDays_60 : decode cX6_passDays 60 = .ok (.aload_n 0, 1) := by decide +kernel
theorem dX6_passDays_61 : decode cX6_passDays 61 = .ok (.dup, 1) := by decide +kernel
theorem dX6_passDays_62 : decode cX6_passDays 62 = .ok (.getfield 141, 3) := by decide +kernel
theorem dX6_passDays_65 : decode cX6_passDays 65 = .ok (.iload_n 1, 1) := by decide +kernel
theorem dX6_passDays_66 : decode cX6_passDays 66 = .ok (.iadd, 1) := by decide +kernel
theorem dX6_passDays_67 : decode cX6_passDays 67 = .ok (.putfield 141, 3) := by decide +kernel
theorem dX6_passDays_70 : decode cX6_passDays 70 = .ok (.aload_n 0, 1) := by decide +kernel
theorem dX6_passDays_71 : decode cX6_passDays 71 = .ok (.invokevirtual 144, 3) := by decide +kernel
theorem dX6_passDays_74 : decode cX6_passDays 74 = .ok (.ireturn, 1) := by decide +kernel
theorem dX6_surfacesOf_0 : decode cX6_surfacesOf 0 = .ok (.aload_n 0, 1) := by decide +kernel
theorem dX6_surfacesOf_1 : decode cX6_surfacesOf 1 = .ok (.iload_n 1, 1) := by decide +kernel
theorem dX6_surfacesOf_2 : decode cX6_surfacesOf 2 = .ok (.invokevirtual 52, 3) := by decide +kernel
theorem dX6_surfacesOf_5 : decode cX6_surfacesOf 5 = .ok (.getfield 148, 3) := by decide +kernel
theorem dX6_surfacesOf_8 : decode cX6_surfacesOf 8 = .ok (.ireturn, 1) := by decide +kernel
theorem dX6_distanceOf_0 : decode cX6_distanceOf 0 = .ok (.aload_n 0, 1) := by decide +kernel
theorem dX6_distanceOf_1 : decode cX6_distanceOf 1 = .ok (.iload_n 1, 1) := by decide +kernel
theorem dX6_distanceOf_2 : decode cX6_distanceOf 2 = .ok (.invokevirtual 52, 3) := by decide +kernel
theorem dX6_distanceOf_5 : decode cX6_distanceOf 5 = .ok (.iload_n 2, 1) := by decide +kernel
theorem dX6_distanceOf_6 : decode cX6_distanceOf 6 = .ok (.invokestatic 86, 3) := by decide +kernel
theorem dX6_distanceOf_9 : decode cX6_distanceOf 9 = .ok (.getfield 90, 3) := by decide +kernel
theorem dX6_distanceOf_12 : decode cX6_distanceOf 12 = .ok (.ireturn, 1) := by decide +kernel
theorem dX6_hardnessOf_0 : decode cX6_hardnessOf 0 = .ok (.aload_n 0, 1) := by decide +kernel
theorem dX6_hardnessOf_1 : decode cX6_hardnessOf 1 = .ok (.iload_n 1, 1) := by decide +kernel
theorem dX6_hardnessOf_2 : decode cX6_hardnessOf 2 = .ok (.invokevirtual 52, 3) := by decide +kernel
theorem dX6_hardnessOf_5 : decode cX6_hardnessOf 5 = .ok (.astore_n 3, 1) := by decide +kernel
theorem dX6_hardnessOf_6 : decode cX6_hardnessOf 6 = .ok (.aload_n 3, 1) := by decide +kernel
theorem dX6_hardnessOf_7 : decode cX6_hardnessOf 7 = .ok (.iload_n 2, 1) := by decide +kernel
theorem dX6_hardnessOf_8 : decode cX6_hardnessOf 8 = .ok (.invokestatic 86, 3) := by decide +kernel
theorem dX6_hardnessOf_11 : decode cX6_hardnessOf 11 = .ok (.aload_n 3, 1) := by decide +kernel
theorem dX6_hardnessOf_12 : decode cX6_hardnessOf 12 = .ok (.getfield 96, 3) := by decide +kernel
theorem dX6_hardnessOf_15 : decode cX6_hardnessOf 15 = .ok (.invokevirtual 151, 3) := by decide +kernel
theorem dX6_hardnessOf_18 : decode cX6_hardnessOf 18 = .ok (.ireturn, 1) := by decide +kernel
theorem dX6_dampingOf_0 : decode cX6_dampingOf 0 = .ok (.aload_n 0, 1) := by decide +kernel
theorem dX6_dampingOf_1 : decode cX6_dampingOf 1 = .ok (.iload_n 1, 1) := by decide +kernel
theorem dX6_dampingOf_2 : decode cX6_dampingOf 2 = .ok (.invokevirtual 52, 3) := by decide +kernel
theorem dX6_dampingOf_5 : decode cX6_dampingOf 5 = .ok (.getfield 93, 3) := by decide +kernel
theorem dX6_dampingOf_8 : decode cX6_dampingOf 8 = .ok (.ireturn, 1) := by decide +kernel
theorem dX6_dustOf_0 : decode cX6_dustOf 0 = .ok (.aload_n 0, 1) := by decide +kernel
theorem dX6_dustOf_1 : decode cX6_dustOf 1 = .ok (.iload_n 1, 1) := by decide +kernel
theorem dX6_dustOf_2 : decode cX6_dustOf 2 = .ok (.invokevirtual 52, 3) := by decide +kernel
theorem dX6_dustOf_5 : decode cX6_dustOf 5 = .ok (.getfield 96, 3) := by decide +kernel
theorem dX6_dustOf_8 : decode cX6_dustOf 8 = .ok (.ireturn, 1) := by decide +kernel
theorem dX6_echoes_0 : decode cX6_echoes 0 = .ok (.aload_n 0, 1) := by decide +kernel
theorem dX6_echoes_1 : decode cX6_echoes 1 = .ok (.iload_n 1, 1) := by decide +kernel
theorem dX6_echoes_2 : decode cX6_echoes 2 = .ok (.iload_n 2, 1) := by decide +kernel
theorem dX6_echoes_3 : decode cX6_echoes 3 = .ok (.invokevirtual 155, 3) := by decide +kernel
theorem dX6_echoes_6 : decode cX6_echoes 6 = .ok (.getfield 159, 3) := by decide +kernel
theorem dX6_echoes_9 : decode cX6_echoes 9 = .ok (.ireturn, 1) := by decide +kernel
theorem dX6_loudEchoes_0 : decode cX6_loudEchoes 0 = .ok (.aload_n 0, 1) := by decide +kernel
theorem dX6_loudEchoes_1 : decode cX6_loudEchoes 1 = .ok (.iload_n 1, 1) := by decide +kernel
theorem dX6_loudEchoes_2 : decode cX6_loudEchoes 2 = .ok (.invokevirtual 52, 3) := by decide +kernel
theorem dX6_loudEchoes_5 : decode cX6_loudEchoes 5 = .ok (.astore 4, 2) := by decide +kernel
theorem dX6_loudEchoes_7 : decode cX6_loudEchoes 7 = .ok (.iload_n 2, 1) := by decide +kernel
theorem dX6_loudEchoes_8 : decode cX6_loudEchoes 8 = .ok (.invokestatic 162, 3) := by decide +kernel
theorem dX6_loudEchoes_11 : decode cX6_loudEchoes 11 = .ok (.iload_n 3, 1) := by decide +kernel
theorem dX6_loudEchoes_12 : decode cX6_loudEchoes 12 = .ok (.invokestatic 162, 3) := by decide +kernel
theorem dX6_loudEchoes_15 : decode cX6_loudEchoes 15 = .ok (.aload_n 0, 1) := by decide +kernel
theorem dX6_loudEchoes_16 : decode cX6_loudEchoes 16 = .ok (.aload 4, 2) := by decide +kernel
theorem dX6_loudEchoes_18 : decode cX6_loudEchoes 18 = .ok (.iload_n 2, 1) := by decide +kernel
theorem dX6_loudEchoes_19 : decode cX6_loudEchoes 19 = .ok (.iload_n 3, 1) := by decide +kernel
theorem dX6_loudEchoes_20 : decode cX6_loudEchoes 20 = .ok (.invokevirtual 165, 3) := by decide +kernel
theorem dX6_loudEchoes_23 : decode cX6_loudEchoes 23 = .ok (.getfield 169, 3) := by decide +kernel
theorem dX6_loudEchoes_26 : decode cX6_loudEchoes 26 = .ok (.ireturn, 1) := by decide +kernel
theorem dX6_firstEcho_0 : decode cX6_firstEcho 0 = .ok (.aload_n 0, 1) := by decide +kernel
theorem dX6_firstEcho_1 : decode cX6_firstEcho 1 = .ok (.iload_n 1, 1) := by decide +kernel
theorem dX6_firstEcho_2 : decode cX6_firstEcho 2 = .ok (.iload_n 2, 1) := by decide +kernel
theorem dX6_firstEcho_3 : decode cX6_firstEcho 3 = .ok (.invokevirtual 155, 3) := by decide +kernel
theorem dX6_firstEcho_6 : decode cX6_firstEcho 6 = .ok (.getfield 172, 3) := by decide +kernel
theorem dX6_firstEcho_9 : decode cX6_firstEcho 9 = .ok (.ireturn, 1) := by decide +kernel
theorem dX6_lastEcho_0 : decode cX6_lastEcho 0 = .ok (.aload_n 0, 1) := by decide +kernel
theorem dX6_lastEcho_1 : decode cX6_lastEcho 1 = .ok (.iload_n 1, 1) := by decide +kernel
theorem dX6_lastEcho_2 : decode cX6_lastEcho 2 = .ok (.iload_n 2, 1) := by decide +kernel
theorem dX6_lastEcho_3 : decode cX6_lastEcho 3 = .ok (.invokevirtual 155, 3) := by decide +kernel
theorem dX6_lastEcho_6 : decode cX6_lastEcho 6 = .ok (.getfield 175, 3) := by decide +kernel
theorem dX6_lastEcho_9 : decode cX6_lastEcho 9 = .ok (.ireturn, 1) := by decide +kernel
theorem dX6_loudnessAt_0 : decode cX6_loudnessAt 0 = .ok (.aload_n 0, 1) := by decide +kernel
theorem dX6_loudnessAt_1 : decode cX6_loudnessAt 1 = .ok (.iload_n 1, 1) := by decide +kernel
theorem dX6_loudnessAt_2 : decode cX6_loudnessAt 2 = .ok (.invokevirtual 52, 3) := by decide +kernel
theorem dX6_loudnessAt_5 : decode cX6_loudnessAt 5 = .ok (.astore 4, 2) := by decide +kernel
theorem dX6_loudnessAt_7 : decode cX6_loudnessAt 7 = .ok (.iload_n 2, 1) := by decide +kernel
theorem dX6_loudnessAt_8 : decode cX6_loudnessAt 8 = .ok (.invokestatic 162, 3) := by decide +kernel
theorem dX6_loudnessAt_11 : decode cX6_loudnessAt 11 = .ok (.iload_n 3, 1) := by decide +kernel
theorem dX6_loudnessAt_12 : decode cX6_loudnessAt 12 = .ok (.iconst 0, 1) := by decide +kernel
theorem dX6_loudnessAt_13 : decode cX6_loudnessAt 13 = .ok (.sipush 3000, 3) := by decide +kernel
theorem dX6_loudnessAt_16 : decode cX6_loudnessAt 16 = .ok (.invokestatic 59, 3) := by decide +kernel
theorem dX6_loudnessAt_19 : decode cX6_loudnessAt 19 = .ok (.ifCond .ne 13, 3) := by decide +kernel
theorem dX6_loudnessAt_22 : decode cX6_loudnessAt 22 = .ok (.new 63, 3) := by decide +kernel
theorem dX6_loudnessAt_25 : decode cX6_loudnessAt 25 = .ok (.dup, 1) := by decide +kernel
theorem dX6_loudnessAt_26 : decode cX6_loudnessAt 26 = .ok (.ldc 178, 2) := by decide +kernel
theorem dX6_loudnessAt_28 : decode cX6_loudnessAt 28 = .ok (.invokespecial 67, 3) := by decide +kernel
theorem dX6_loudnessAt_31 : decode cX6_loudnessAt 31 = .ok (.athrow, 1) := by decide +kernel
theorem dX6_loudnessAt_32 : decode cX6_loudnessAt 32 = .ok (.aload_n 0, 1) := by decide +kernel
theorem dX6_loudnessAt_33 : decode cX6_loudnessAt 33 = .ok (.aload 4, 2) := by decide +kernel
theorem dX6_loudnessAt_35 : decode cX6_loudnessAt 35 = .ok (.iload_n 2, 1) := by decide +kernel
theorem dX6_loudnessAt_36 : decode cX6_loudnessAt 36 = .ok (.invokevirtual 180, 3) := by decide +kernel
theorem dX6_loudnessAt_39 : decode cX6_loudnessAt 39 = .ok (.iload_n 3, 1) := by decide +kernel
theorem dX6_loudnessAt_40 : decode cX6_loudnessAt 40 = .ok (.invokevirtual 184, 3) := by decide +kernel
theorem dX6_loudnessAt_43 : decode cX6_loudnessAt 43 = .ok (.ireturn, 1) := by decide +kernel
theorem dX6_meets_0 : decode cX6_meets 0 = .ok (.aload_n 0, 1) := by decide +kernel
theorem dX6_meets_1 : decode cX6_meets 1 = .ok (.iload_n 1, 1) := by decide +kernel
theorem dX6_meets_2 : decode cX6_meets 2 = .ok (.invokevirtual 52, 3) := by decide +kernel
theorem dX6_meets_5 : decode cX6_meets 5 = .ok (.astore_n 3, 1) := by decide +kernel
theorem dX6_meets_6 : decode cX6_meets 6 = .ok (.aload_n 0, 1) := by decide +kernel
theorem dX6_meets_7 : decode cX6_meets 7 = .ok (.aload_n 3, 1) := by decide +kernel
theorem dX6_meets_8 : decode cX6_meets 8 = .ok (.aload_n 0, 1) := by decide +kernel
theorem dX6_meets_9 : decode cX6_meets 9 = .ok (.iload_n 2, 1) := by decide +kernel
theorem dX6_meets_10 : decode cX6_meets 10 = .ok (.invokevirtual 109, 3) := by decide +kernel
theorem dX6_meets_13 : decode cX6_meets 13 = .ok (.invokevirtual 116, 3) := by decide +kernel
theorem dX6_meets_16 : decode cX6_meets 16 = .ok (.ireturn, 1) := by decide +kernel
theorem dX6_hallsMeeting_0 : decode cX6_hallsMeeting 0 = .ok (.aload_n 0, 1) := by decide +kernel
theorem dX6_hallsMeeting_1 : decode cX6_hallsMeeting 1 = .ok (.iload_n 1, 1) := by decide +kernel
theorem dX6_hallsMeeting_2 : decode cX6_hallsMeeting 2 = .ok (.invokevirtual 109, 3) := by decide +kernel
theorem dX6_hallsMeeting_5 : decode cX6_hallsMeeting 5 = .ok (.astore_n 2, 1) := by decide +kernel
theorem dX6_hallsMeeting_6 : decode cX6_hallsMeeting 6 = .ok (.iconst 0, 1) := by decide +kernel
theorem dX6_hallsMeeting_7 : decode cX6_hallsMeeting 7 = .ok (.istore_n 3, 1) := by decide +kernel
theorem dX6_hallsMeeting_8 : decode cX6_hallsMeeting 8 = .ok (.aload_n 0, 1) := by decide +kernel
theorem dX6_hallsMeeting_9 : decode cX6_hallsMeeting 9 = .ok (.getfield 11, 3) := by decide +kernel
theorem dX6_hallsMeeting_12 : decode cX6_hallsMeeting 12 = .ok (.astore 4, 2) := by decide +kernel
theorem dX6_hallsMeeting_14 : decode cX6_hallsMeeting 14 = .ok (.aload 4, 2) := by decide +kernel
theorem dX6_hallsMeeting_16 : decode cX6_hallsMeeting 16 = .ok (.arraylength, 1) := by decide +kernel
theorem dX6_hallsMeeting_17 : decode cX6_hallsMeeting 17 = .ok (.istore 5, 2) := by decide +kernel
theorem dX6_hallsMeeting_19 : decode cX6_hallsMeeting 19 = .ok (.iconst 0, 1) := by decide +kernel
theorem dX6_hallsMeeting_20 : decode cX6_hallsMeeting 20 = .ok (.istore 6, 2) := by decide +kernel
theorem dX6_hallsMeeting_22 : decode cX6_hallsMeeting 22 = .ok (.iload 6, 2) := by decide +kernel
theorem dX6_hallsMeeting_24 : decode cX6_hallsMeeting 24 = .ok (.iload 5, 2) := by decide +kernel
theorem dX6_hallsMeeting_26 : decode cX6_hallsMeeting 26 = .ok (.if_icmp .ge 34, 3) := by decide +kernel
theorem dX6_hallsMeeting_29 : decode cX6_hallsMeeting 29 = .ok (.aload 4, 2) := by decide +kernel
theorem dX6_hallsMeeting_31 : decode cX6_hallsMeeting 31 = .ok (.iload 6, 2) := by decide +kernel
theorem dX6_hallsMeeting_33 : decode cX6_hallsMeeting 33 = .ok (.aaload, 1) := by decide +kernel
theorem dX6_hallsMeeting_34 : decode cX6_hallsMeeting 34 = .ok (.astore 7, 2) := by decide +kernel
theorem dX6_hallsMeeting_36 : decode cX6_hallsMeeting 36 = .ok (.aload 7, 2) := by decide +kernel
theorem dX6_hallsMeeting_38 : decode cX6_hallsMeeting 38 = .ok (.ifnull 16, 3) := by decide +kernel
theorem dX6_hallsMeeting_41 : decode cX6_hallsMeeting 41 = .ok (.aload_n 0, 1) := by decide +kernel
theorem dX6_hallsMeeting_42 : decode cX6_hallsMeeting 42 = .ok (.aload 7, 2) := by decide +kernel
theorem dX6_hallsMeeting_44 : decode cX6_hallsMeeting 44 = .ok (.aload_n 2, 1) := by decide +kernel
theorem dX6_hallsMeeting_45 : decode cX6_hallsMeeting 45 = .ok (.invokevirtual 116, 3) := by decide +kernel
theorem dX6_hallsMeeting_48 : decode cX6_hallsMeeting 48 = .ok (.ifCond .eq 6, 3) := by decide +kernel
theorem dX6_hallsMeeting_51 : decode cX6_hallsMeeting 51 = .ok (.iinc 3 1, 3) := by decide +kernel
theorem dX6_hallsMeeting_54 : decode cX6_hallsMeeting 54 = .ok (.iinc 6 1, 3) := by decide +kernel
theorem dX6_hallsMeeting_57 : decode cX6_hallsMeeting 57 = .ok (.goto (-35), 3) := by decide +kernel
theorem dX6_hallsMeeting_60 : decode cX6_hallsMeeting 60 = .ok (.iload_n 3, 1) := by decide +kernel
theorem dX6_hallsMeeting_61 : decode cX6_hallsMeeting 61 = .ok (.ireturn, 1) := by decide +kernel
theorem dX6_isCertified_0 : decode cX6_isCertified 0 = .ok (.aload_n 0, 1) := by decide +kernel
theorem dX6_isCertified_1 : decode cX6_isCertified 1 = .ok (.iload_n 1, 1) := by decide +kernel
theorem dX6_isCertified_2 : decode cX6_isCertified 2 = .ok (.invokevirtual 52, 3) := by decide +kernel
theorem dX6_isCertified_5 : decode cX6_isCertified 5 = .ok (.invokevirtual 190, 3) := by decide +kernel
theorem dX6_isCertified_8 : decode cX6_isCertified 8 = .ok (.ireturn, 1) := by decide +kernel
theorem dX6_certifiedBy_0 : decode cX6_certifiedBy 0 = .ok (.aload_n 0, 1) := by decide +kernel
theorem dX6_certifiedBy_1 : decode cX6_certifiedBy 1 = .ok (.iload_n 1, 1) := by decide +kernel
theorem dX6_certifiedBy_2 : decode cX6_certifiedBy 2 = .ok (.invokevirtual 52, 3) := by decide +kernel
theorem dX6_certifiedBy_5 : decode cX6_certifiedBy 5 = .ok (.astore_n 2, 1) := by decide +kernel
theorem dX6_certifiedBy_6 : decode cX6_certifiedBy 6 = .ok (.aload_n 2, 1) := by decide +kernel
theorem dX6_certifiedBy_7 : decode cX6_certifiedBy 7 = .ok (.invokestatic 129, 3) := by decide +kernel
theorem dX6_certifiedBy_10 : decode cX6_certifiedBy 10 = .ok (.aload_n 2, 1) := by decide +kernel
theorem dX6_certifiedBy_11 : decode cX6_certifiedBy 11 = .ok (.getfield 126, 3) := by decide +kernel
theorem dX6_certifiedBy_14 : decode cX6_certifiedBy 14 = .ok (.ireturn, 1) := by decide +kernel
theorem dX6_daysLeft_0 : decode cX6_daysLeft 0 = .ok (.aload_n 0, 1) := by decide +kernel
theorem dX6_daysLeft_1 : decode cX6_daysLeft 1 = .ok (.iload_n 1, 1) := by decide +kernel
theorem dX6_daysLeft_2 : decode cX6_daysLeft 2 = .ok (.invokevirtual 52, 3) := by decide +kernel
theorem dX6_daysLeft_5 : decode cX6_daysLeft 5 = .ok (.getfield 133, 3) := by decide +kernel
theorem dX6_daysLeft_8 : decode cX6_daysLeft 8 = .ok (.ireturn, 1) := by decide +kernel
theorem dX6_halls_0 : decode cX6_halls 0 = .ok (.aload_n 0, 1) := by decide +kernel
theorem dX6_halls_1 : decode cX6_halls 1 = .ok (.getfield 39, 3) := by decide +kernel
theorem dX6_halls_4 : decode cX6_halls 4 = .ok (.ireturn, 1) := by decide +kernel
theorem dX6_standards_0 : decode cX6_standards 0 = .ok (.aload_n 0, 1) := by decide +kernel
theorem dX6_standards_1 : decode cX6_standards 1 = .ok (.getfield 101, 3) := by decide +kernel
theorem dX6_standards_4 : decode cX6_standards 4 = .ok (.ireturn, 1) := by decide +kernel
theorem dX6_day_0 : decode cX6_day 0 = .ok (.aload_n 0, 1) := by decide +kernel
theorem dX6_day_1 : decode cX6_day 1 = .ok (.getfield 141, 3) := by decide +kernel
theorem dX6_day_4 : decode cX6_day 4 = .ok (.ireturn, 1) := by decide +kernel
theorem dX6_inspections_0 : decode cX6_inspections 0 = .ok (.aload_n 0, 1) := by decide +kernel
theorem dX6_inspections_1 : decode cX6_inspections 1 = .ok (.getfield 113, 3) := by decide +kernel
theorem dX6_inspections_4 : decode cX6_inspections 4 = .ok (.ireturn, 1) := by decide +kernel
theorem dX6_certifiedHalls_0 : decode cX6_certifiedHalls 0 = .ok (.aload_n 0, 1) := by decide +kernel
theorem dX6_certifiedHalls_1 : decode cX6_certifiedHalls 1 = .ok (.invokevirtual 144, 3) := by decide +kernel
theorem dX6_certifiedHalls_4 : decode cX6_certifiedHalls 4 = .ok (.ireturn, 1) := by decide +kernel
theorem dX6_meetsWithDamping_0 : decode cX6_meetsWithDamping 0 = .ok (.aload_n 0, 1) := by decide +kernel
theorem dX6_meetsWithDamping_1 : decode cX6_meetsWithDamping 1 = .ok (.iload_n 1, 1) := by decide +kernel
theorem dX6_meetsWithDamping_2 : decode cX6_meetsWithDamping 2 = .ok (.invokevirtual 52, 3) := by decide +kernel
theorem dX6_meetsWithDamping_5 : decode cX6_meetsWithDamping 5 = .ok (.astore 4, 2) := by decide +kernel
theorem dX6_meetsWithDamping_7 : decode cX6_meetsWithDamping 7 = .ok (.aload_n 0, 1) := by decide +kernel
theorem dX6_meetsWithDamping_8 : decode cX6_meetsWithDamping 8 = .ok (.iload_n 2, 1) := by decide +kernel
theorem dX6_meetsWithDamping_9 : decode cX6_meetsWithDamping 9 = .ok (.invokevirtual 109, 3) := by decide +kernel
theorem dX6_meetsWithDamping_12 : decode cX6_meetsWithDamping 12 = .ok (.astore 5, 2) := by decide +kernel
theorem dX6_meetsWithDamping_14 : decode cX6_meetsWithDamping 14 = .ok (.iload_n 3, 1) := by decide +kernel
theorem dX6_meetsWithDamping_15 : decode cX6_meetsWithDamping 15 = .ok (.invokestatic 35, 3) := by decide +kernel
theorem dX6_meetsWithDamping_18 : decode cX6_meetsWithDamping 18 = .ok (.aload_n 0, 1) := by decide +kernel
theorem dX6_meetsWithDamping_19 : decode cX6_meetsWithDamping 19 = .ok (.aload 4, 2) := by decide +kernel
theorem dX6_meetsWithDamping_21 : decode cX6_meetsWithDamping 21 = .ok (.aload 5, 2) := by decide +kernel
theorem dX6_meetsWithDamping_23 : decode cX6_meetsWithDamping 23 = .ok (.iload_n 3, 1) := by decide +kernel
theorem dX6_meetsWithDamping_24 : decode cX6_meetsWithDamping 24 = .ok (.aload 4, 2) := by decide +kernel
theorem dX6_meetsWithDamping_26 : decode cX6_meetsWithDamping 26 = .ok (.getfield 96, 3) := by decide +kernel
theorem dX6_meetsWithDamping_29 : decode cX6_meetsWithDamping 29 = .ok (.invokevirtual 193, 3) := by decide +kernel
theorem dX6_meetsWithDamping_32 : decode cX6_meetsWithDamping 32 = .ok (.ireturn, 1) := by decide +kernel
theorem dX6_meanDamping_0 : decode cX6_meanDamping 0 = .ok (.aload_n 0, 1) := by decide +kernel
theorem dX6_meanDamping_1 : decode cX6_meanDamping 1 = .ok (.getfield 39, 3) := by decide +kernel
theorem dX6_meanDamping_4 : decode cX6_meanDamping 4 = .ok (.ifCond .gt 5, 3) := by decide +kernel
theorem dX6_meanDamping_7 : decode cX6_meanDamping 7 = .ok (.dconst 0, 1) := by decide +kernel
theorem dX6_meanDamping_8 : decode cX6_meanDamping 8 = .ok (.dreturn, 1) := by decide +kernel
theorem dX6_meanDamping_9 : decode cX6_meanDamping 9 = .ok (.iconst 0, 1) := by decide +kernel
theorem dX6_meanDamping_10 : decode cX6_meanDamping 10 = .ok (.istore_n 1, 1) := by decide +kernel
theorem dX6_meanDamping_11 : decode cX6_meanDamping 11 = .ok (.aload_n 0, 1) := by decide +kernel
theorem dX6_meanDamping_12 : decode cX6_meanDamping 12 = .ok (.getfield 11, 3) := by decide +kernel
theorem dX6_meanDamping_15 : decode cX6_meanDamping 15 = .ok (.astore_n 2, 1) := by decide +kernel
theorem dX6_meanDamping_16 : decode cX6_meanDamping 16 = .ok (.aload_n 2, 1) := by decide +kernel
theorem dX6_meanDamping_17 : decode cX6_meanDamping 17 = .ok (.arraylength, 1) := by decide +kernel
theorem dX6_meanDamping_18 : decode cX6_meanDamping 18 = .ok (.istore_n 3, 1) := by decide +kernel
theorem dX6_meanDamping_19 : decode cX6_meanDamping 19 = .ok (.iconst 0, 1) := by decide +kernel
theorem dX6_meanDamping_20 : decode cX6_meanDamping 20 = .ok (.istore 4, 2) := by decide +kernel
theorem dX6_meanDamping_22 : decode cX6_meanDamping 22 = .ok (.iload 4, 2) := by decide +kernel
theorem dX6_meanDamping_24 : decode cX6_meanDamping 24 = .ok (.iload_n 3, 1) := by decide +kernel
theorem dX6_meanDamping_25 : decode cX6_meanDamping 25 = .ok (.if_icmp .ge 28, 3) := by decide +kernel
theorem dX6_meanDamping_28 : decode cX6_meanDamping 28 = .ok (.aload_n 2, 1) := by decide +kernel
theorem dX6_meanDamping_29 : decode cX6_meanDamping 29 = .ok (.iload 4, 2) := by decide +kernel
theorem dX6_meanDamping_31 : decode cX6_meanDamping 31 = .ok (.aaload, 1) := by decide +kernel
theorem dX6_meanDamping_32 : decode cX6_meanDamping 32 = .ok (.astore 5, 2) := by decide +kernel
theorem dX6_meanDamping_34 : decode cX6_meanDamping 34 = .ok (.aload 5, 2) := by decide +kernel
theorem dX6_meanDamping_36 : decode cX6_meanDamping 36 = .ok (.ifnull 11, 3) := by decide +kernel
theorem dX6_meanDamping_39 : decode cX6_meanDamping 39 = .ok (.iload_n 1, 1) := by decide +kernel
theorem dX6_meanDamping_40 : decode cX6_meanDamping 40 = .ok (.aload 5, 2) := by decide +kernel
theorem dX6_meanDamping_42 : decode cX6_meanDamping 42 = .ok (.getfield 93, 3) := by decide +kernel
theorem dX6_meanDamping_45 : decode cX6_meanDamping 45 = .ok (.iadd, 1) := by decide +kernel
theorem dX6_meanDamping_46 : decode cX6_meanDamping 46 = .ok (.istore_n 1, 1) := by decide +kernel
theorem dX6_meanDamping_47 : decode cX6_meanDamping 47 = .ok (.iinc 4 1, 3) := by decide +kernel
theorem dX6_meanDamping_50 : decode cX6_meanDamping 50 = .ok (.goto (-28), 3) := by decide +kernel
theorem dX6_meanDamping_53 : decode cX6_meanDamping 53 = .ok (.iload_n 1, 1) := by decide +kernel
theorem dX6_meanDamping_54 : decode cX6_meanDamping 54 = .ok (.i2d, 1) := by decide +kernel
theorem dX6_meanDamping_55 : decode cX6_meanDamping 55 = .ok (.aload_n 0, 1) := by decide +kernel
theorem dX6_meanDamping_56 : decode cX6_meanDamping 56 = .ok (.getfield 39, 3) := by decide +kernel
theorem dX6_meanDamping_59 : decode cX6_meanDamping 59 = .ok (.i2d, 1) := by decide +kernel
theorem dX6_meanDamping_60 : decode cX6_meanDamping 60 = .ok (.ddiv, 1) := by decide +kernel
theorem dX6_meanDamping_61 : decode cX6_meanDamping 61 = .ok (.dreturn, 1) := by decide +kernel
theorem dX6_isWithin_0 : decode cX6_isWithin 0 = .ok (.iload_n 0, 1) := by decide +kernel
theorem dX6_isWithin_1 : decode cX6_isWithin 1 = .ok (.iload_n 1, 1) := by decide +kernel
theorem dX6_isWithin_2 : decode cX6_isWithin 2 = .ok (.if_icmp .lt 12, 3) := by decide +kernel
theorem dX6_isWithin_5 : decode cX6_isWithin 5 = .ok (.iload_n 0, 1) := by decide +kernel
theorem dX6_isWithin_6 : decode cX6_isWithin 6 = .ok (.iload_n 2, 1) := by decide +kernel
theorem dX6_isWithin_7 : decode cX6_isWithin 7 = .ok (.if_icmp .gt 7, 3) := by decide +kernel
theorem dX6_isWithin_10 : decode cX6_isWithin 10 = .ok (.iconst 1, 1) := by decide +kernel
theorem dX6_isWithin_11 : decode cX6_isWithin 11 = .ok (.goto 4, 3) := by decide +kernel
theorem dX6_isWithin_14 : decode cX6_isWithin 14 = .ok (.iconst 0, 1) := by decide +kernel
theorem dX6_isWithin_15 : decode cX6_isWithin 15 = .ok (.ireturn, 1) := by decide +kernel
theorem dX6_checkDamping_0 : decode cX6_checkDamping 0 = .ok (.iload_n 0, 1) := by decide +kernel
theorem dX6_checkDamping_1 : decode cX6_checkDamping 1 = .ok (.iconst 0, 1) := by decide +kernel
theorem dX6_checkDamping_2 : decode cX6_checkDamping 2 = .ok (.bipush 90, 2) := by decide +kernel
theorem dX6_checkDamping_4 : decode cX6_checkDamping 4 = .ok (.invokestatic 59, 3) := by decide +kernel
theorem dX6_checkDamping_7 : decode cX6_checkDamping 7 = .ok (.ifCond .ne 13, 3) := by decide +kernel
theorem dX6_checkDamping_10 : decode cX6_checkDamping 10 = .ok (.new 63, 3) := by decide +kernel
theorem dX6_checkDamping_13 : decode cX6_checkDamping 13 = .ok (.dup, 1) := by decide +kernel
theorem dX6_checkDamping_14 : decode cX6_checkDamping 14 = .ok (.ldc 219, 2) := by decide +kernel
theorem dX6_checkDamping_16 : decode cX6_checkDamping 16 = .ok (.invokespecial 67, 3) := by decide +kernel
theorem dX6_checkDamping_19 : decode cX6_checkDamping 19 = .ok (.athrow, 1) := by decide +kernel
theorem dX6_checkDamping_20 : decode cX6_checkDamping 20 = .ok (.return_, 1) := by decide +kernel
theorem dX6_checkDistance_0 : decode cX6_checkDistance 0 = .ok (.iload_n 0, 1) := by decide +kernel
theorem dX6_checkDistance_1 : decode cX6_checkDistance 1 = .ok (.iconst 1, 1) := by decide +kernel
theorem dX6_checkDistance_2 : decode cX6_checkDistance 2 = .ok (.bipush 60, 2) := by decide +kernel
theorem dX6_checkDistance_4 : decode cX6_checkDistance 4 = .ok (.invokestatic 59, 3) := by decide +kernel
theorem dX6_checkDistance_7 : decode cX6_checkDistance 7 = .ok (.ifCond .ne 13, 3) := by decide +kernel
theorem dX6_checkDistance_10 : decode cX6_checkDistance 10 = .ok (.new 63, 3) := by decide +kernel
theorem dX6_checkDistance_13 : decode cX6_checkDistance 13 = .ok (.dup, 1) := by decide +kernel
theorem dX6_checkDistance_14 : decode cX6_checkDistance 14 = .ok (.ldc 221, 2) := by decide +kernel
theorem dX6_checkDistance_16 : decode cX6_checkDistance 16 = .ok (.invokespecial 67, 3) := by decide +kernel
theorem dX6_checkDistance_19 : decode cX6_checkDistance 19 = .ok (.athrow, 1) := by decide +kernel
theorem dX6_checkDistance_20 : decode cX6_checkDistance 20 = .ok (.return_, 1) := by decide +kernel
theorem dX6_checkLoudness_0 : decode cX6_checkLoudness 0 = .ok (.iload_n 0, 1) := by decide +kernel
theorem dX6_checkLoudness_1 : decode cX6_checkLoudness 1 = .ok (.iconst 1, 1) := by decide +kernel
theorem dX6_checkLoudness_2 : decode cX6_checkLoudness 2 = .ok (.sipush 1000, 3) := by decide +kernel
theorem dX6_checkLoudness_5 : decode cX6_checkLoudness 5 = .ok (.invokestatic 59, 3) := by decide +kernel
theorem dX6_checkLoudness_8 : decode cX6_checkLoudness 8 = .ok (.ifCond .ne 13, 3) := by decide +kernel
theorem dX6_checkLoudness_11 : decode cX6_checkLoudness 11 = .ok (.new 63, 3) := by decide +kernel
theorem dX6_checkLoudness_14 : decode cX6_checkLoudness 14 = .ok (.dup, 1) := by decide +kernel
theorem dX6_checkLoudness_15 : decode cX6_checkLoudness 15 = .ok (.ldc 223, 2) := by decide +kernel
theorem dX6_checkLoudness_17 : decode cX6_checkLoudness 17 = .ok (.invokespecial 67, 3) := by decide +kernel
theorem dX6_checkLoudness_20 : decode cX6_checkLoudness 20 = .ok (.athrow, 1) := by decide +kernel
theorem dX6_checkLoudness_21 : decode cX6_checkLoudness 21 = .ok (.return_, 1) := by decide +kernel
theorem dX6_checkCertificate_0 : decode cX6_checkCertificate 0 = .ok (.aload_n 0, 1) := by decide +kernel
theorem dX6_checkCertificate_1 : decode cX6_checkCertificate 1 = .ok (.invokevirtual 190, 3) := by decide +kernel
theorem dX6_checkCertificate_4 : decode cX6_checkCertificate 4 = .ok (.ifCond .ne 13, 3) := by decide +kernel
theorem dX6_checkCertificate_7 : decode cX6_checkCertificate 7 = .ok (.new 43, 3) := by decide +kernel
theorem dX6_checkCertificate_10 : decode cX6_checkCertificate 10 = .ok (.dup, 1) := by decide +kernel
theorem dX6_checkCertificate_11 : decode cX6_checkCertificate 11 = .ok (.ldc 225, 2) := by decide +kernel
theorem dX6_checkCertificate_13 : decode cX6_checkCertificate 13 = .ok (.invokespecial 47, 3) := by decide +kernel
theorem dX6_checkCertificate_16 : decode cX6_checkCertificate 16 = .ok (.athrow, 1) := by decide +kernel
theorem dX6_checkCertificate_17 : decode cX6_checkCertificate 17 = .ok (.return_, 1) := by decide +kernel
theorem dX6_findHall_0 : decode cX6_findHall 0 = .ok (.iload_n 1, 1) := by decide +kernel
theorem dX6_findHall_1 : decode cX6_findHall 1 = .ok (.ifCond .lt 12, 3) := by decide +kernel
theorem dX6_findHall_4 : decode cX6_findHall 4 = .ok (.iload_n 1, 1) := by decide +kernel
theorem dX6_findHall_5 : decode cX6_findHall 5 = .ok (.aload_n 0, 1) := by decide +kernel
theorem dX6_findHall_6 : decode cX6_findHall 6 = .ok (.getfield 11, 3) := by decide +kernel
theorem dX6_findHall_9 : decode cX6_findHall 9 = .ok (.arraylength, 1) := by decide +kernel
theorem dX6_findHall_10 : decode cX6_findHall 10 = .ok (.if_icmp .lt 13, 3) := by decide +kernel
theorem dX6_findHall_13 : decode cX6_findHall 13 = .ok (.new 227, 3) := by decide +kernel
theorem dX6_findHall_16 : decode cX6_findHall 16 = .ok (.dup, 1) := by decide +kernel
theorem dX6_findHall_17 : decode cX6_findHall 17 = .ok (.ldc 229, 2) := by decide +kernel
theorem dX6_findHall_19 : decode cX6_findHall 19 = .ok (.invokespecial 231, 3) := by decide +kernel
theorem dX6_findHall_22 : decode cX6_findHall 22 = .ok (.athrow, 1) := by decide +kernel
theorem dX6_findHall_23 : decode cX6_findHall 23 = .ok (.aload_n 0, 1) := by decide +kernel
theorem dX6_findHall_24 : decode cX6_findHall 24 = .ok (.getfield 11, 3) := by decide +kernel
theorem dX6_findHall_27 : decode cX6_findHall 27 = .ok (.iload_n 1, 1) := by decide +kernel
theorem dX6_findHall_28 : decode cX6_findHall 28 = .ok (.aaload, 1) := by decide +kernel
theorem dX6_findHall_29 : decode cX6_findHall 29 = .ok (.astore_n 2, 1) := by decide +kernel
theorem dX6_findHall_30 : decode cX6_findHall 30 = .ok (.aload_n 2, 1) := by decide +kernel
theorem dX6_findHall_31 : decode cX6_findHall 31 = .ok (.ifnonnull 13, 3) := by decide +kernel
theorem dX6_findHall_34 : decode cX6_findHall 34 = .ok (.new 227, 3) := by decide +kernel
theorem dX6_findHall_37 : decode cX6_findHall 37 = .ok (.dup, 1) := by decide +kernel
theorem dX6_findHall_38 : decode cX6_findHall 38 = .ok (.ldc 232, 2) := by decide +kernel
theorem dX6_findHall_40 : decode cX6_findHall 40 = .ok (.invokespecial 231, 3) := by decide +kernel
theorem dX6_findHall_43 : decode cX6_findHall 43 = .ok (.athrow, 1) := by decide +kernel
theorem dX6_findHall_44 : decode cX6_findHall 44 = .ok (.aload_n 2, 1) := by decide +kernel
theorem dX6_findHall_45 : decode cX6_findHall 45 = .ok (.areturn, 1) := by decide +kernel
theorem dX6_findStandard_0 : decode cX6_findStandard 0 = .ok (.iload_n 1, 1) := by decide +kernel
theorem dX6_findStandard_1 : decode cX6_findStandard 1 = .ok (.ifCond .lt 12, 3) := by decide +kernel
theorem dX6_findStandard_4 : decode cX6_findStandard 4 = .ok (.iload_n 1, 1) := by decide +kernel
theorem dX6_findStandard_5 : decode cX6_findStandard 5 = .ok (.aload_n 0, 1) := by decide +kernel
theorem dX6_findStandard_6 : decode cX6_findStandard 6 = .ok (.getfield 17, 3) := by decide +kernel
theorem dX6_findStandard_9 : decode cX6_findStandard 9 = .ok (.arraylength, 1) := by decide +kernel
theorem dX6_findStandard_10 : decode cX6_findStandard 10 = .ok (.if_icmp .lt 13, 3) := by decide +kernel
theorem dX6_findStandard_13 : decode cX6_findStandard 13 = .ok (.new 227, 3) := by decide +kernel
theorem dX6_findStandard_16 : decode cX6_findStandard 16 = .ok (.dup, 1) := by decide +kernel
theorem dX6_findStandard_17 : decode cX6_findStandard 17 = .ok (.ldc 234, 2) := by decide +kernel
theorem dX6_findStandard_19 : decode cX6_findStandard 19 = .ok (.invokespecial 231, 3) := by decide +kernel
theorem dX6_findStandard_22 : decode cX6_findStandard 22 = .ok (.athrow, 1) := by decide +kernel
theorem dX6_findStandard_23 : decode cX6_findStandard 23 = .ok (.aload_n 0, 1) := by decide +kernel
theorem dX6_findStandard_24 : decode cX6_findStandard 24 = .ok (.getfield 17, 3) := by decide +kernel
theorem dX6_findStandard_27 : decode cX6_findStandard 27 = .ok (.iload_n 1, 1) := by decide +kernel
theorem dX6_findStandard_28 : decode cX6_findStandard 28 = .ok (.aaload, 1) := by decide +kernel
theorem dX6_findStandard_29 : decode cX6_findStandard 29 = .ok (.astore_n 2, 1) := by decide +kernel
theorem dX6_findStandard_30 : decode cX6_findStandard 30 = .ok (.aload_n 2, 1) := by decide +kernel
theorem dX6_findStandard_31 : decode cX6_findStandard 31 = .ok (.ifnonnull 13, 3) := by decide +kernel
theorem dX6_findStandard_34 : decode cX6_findStandard 34 = .ok (.new 227, 3) := by decide +kernel
theorem dX6_findStandard_37 : decode cX6_findStandard 37 = .ok (.dup, 1) := by decide +kernel
theorem dX6_findStandard_38 : decode cX6_findStandard 38 = .ok (.ldc 236, 2) := by decide +kernel
theorem dX6_findStandard_40 : decode cX6_findStandard 40 = .ok (.invokespecial 231, 3) := by decide +kernel
theorem dX6_findStandard_43 : decode cX6_findStandard 43 = .ok (.athrow, 1) := by decide +kernel
theorem dX6_findStandard_44 : decode cX6_findStandard 44 = .ok (.aload_n 2, 1) := by decide +kernel
theorem dX6_findStandard_45 : decode cX6_findStandard 45 = .ok (.areturn, 1) := by decide +kernel
theorem dX6_findSurface_0 : decode cX6_findSurface 0 = .ok (.iload_n 1, 1) := by decide +kernel
theorem dX6_findSurface_1 : decode cX6_findSurface 1 = .ok (.ifCond .lt 12, 3) := by decide +kernel
theorem dX6_findSurface_4 : decode cX6_findSurface 4 = .ok (.iload_n 1, 1) := by decide +kernel
theorem dX6_findSurface_5 : decode cX6_findSurface 5 = .ok (.aload_n 0, 1) := by decide +kernel
theorem dX6_findSurface_6 : decode cX6_findSurface 6 = .ok (.getfield 215, 3) := by decide +kernel
theorem dX6_findSurface_9 : decode cX6_findSurface 9 = .ok (.arraylength, 1) := by decide +kernel
theorem dX6_findSurface_10 : decode cX6_findSurface 10 = .ok (.if_icmp .lt 13, 3) := by decide +kernel
theorem dX6_findSurface_13 : decode cX6_findSurface 13 = .ok (.new 227, 3) := by decide +kernel
theorem dX6_findSurface_16 : decode cX6_findSurface 16 = .ok (.dup, 1) := by decide +kernel
theorem dX6_findSurface_17 : decode cX6_findSurface 17 = .ok (.ldc 238, 2) := by decide +kernel
theorem dX6_findSurface_19 : decode cX6_findSurface 19 = .ok (.invokespecial 231, 3) := by decide +kernel
theorem dX6_findSurface_22 : decode cX6_findSurface 22 = .ok (.athrow, 1) := by decide +kernel
theorem dX6_findSurface_23 : decode cX6_findSurface 23 = .ok (.aload_n 0, 1) := by decide +kernel
theorem dX6_findSurface_24 : decode cX6_findSurface 24 = .ok (.getfield 215, 3) := by decide +kernel
theorem dX6_findSurface_27 : decode cX6_findSurface 27 = .ok (.iload_n 1, 1) := by decide +kernel
theorem dX6_findSurface_28 : decode cX6_findSurface 28 = .ok (.aaload, 1) := by decide +kernel
theorem dX6_findSurface_29 : decode cX6_findSurface 29 = .ok (.astore_n 2, 1) := by decide +kernel
theorem dX6_findSurface_30 : decode cX6_findSurface 30 = .ok (.aload_n 2, 1) := by decide +kernel
theorem dX6_findSurface_31 : decode cX6_findSurface 31 = .ok (.ifnonnull 13, 3) := by decide +kernel
theorem dX6_findSurface_34 : decode cX6_findSurface 34 = .ok (.new 227, 3) := by decide +kernel
theorem dX6_findSurface_37 : decode cX6_findSurface 37 = .ok (.dup, 1) := by decide +kernel
theorem dX6_findSurface_38 : decode cX6_findSurface 38 = .ok (.ldc 240, 2) := by decide +kernel
theorem dX6_findSurface_40 : decode cX6_findSurface 40 = .ok (.invokespecial 231, 3) := by decide +kernel
theorem dX6_findSurface_43 : decode cX6_findSurface 43 = .ok (.athrow, 1) := by decide +kernel
theorem dX6_findSurface_44 : decode cX6_findSurface 44 = .ok (.aload_n 2, 1) := by decide +kernel
theorem dX6_findSurface_45 : decode cX6_findSurface 45 = .ok (.areturn, 1) := by decide +kernel
theorem dX6_countCertified_0 : decode cX6_countCertified 0 = .ok (.iconst 0, 1) := by decide +kernel
theorem dX6_countCertified_1 : decode cX6_countCertified 1 = .ok (.istore_n 1, 1) := by decide +kernel
theorem dX6_countCertified_2 : decode cX6_countCertified 2 = .ok (.aload_n 0, 1) := by decide +kernel
theorem dX6_countCertified_3 : decode cX6_countCertified 3 = .ok (.getfield 11, 3) := by decide +kernel
theorem dX6_countCertified_6 : decode cX6_countCertified 6 = .ok (.astore_n 2, 1) := by decide +kernel
theorem dX6_countCertified_7 : decode cX6_countCertified 7 = .ok (.aload_n 2, 1) := by decide +kernel
theorem dX6_countCertified_8 : decode cX6_countCertified 8 = .ok (.arraylength, 1) := by decide +kernel
theorem dX6_countCertified_9 : decode cX6_countCertified 9 = .ok (.istore_n 3, 1) := by decide +kernel
theorem dX6_countCertified_10 : decode cX6_countCertified 10 = .ok (.iconst 0, 1) := by decide +kernel
theorem dX6_countCertified_11 : decode cX6_countCertified 11 = .ok (.istore 4, 2) := by decide +kernel
theorem dX6_countCertified_13 : decode cX6_countCertified 13 = .ok (.iload 4, 2) := by decide +kernel
theorem dX6_countCertified_15 : decode cX6_countCertified 15 = .ok (.iload_n 3, 1) := by decide +kernel
theorem dX6_countCertified_16 : decode cX6_countCertified 16 = .ok (.if_icmp .ge 31, 3) := by decide +kernel
theorem dX6_countCertified_19 : decode cX6_countCertified 19 = .ok (.aload_n 2, 1) := by decide +kernel
theorem dX6_countCertified_20 : decode cX6_countCertified 20 = .ok (.iload 4, 2) := by decide +kernel
theorem dX6_countCertified_22 : decode cX6_countCertified 22 = .ok (.aaload, 1) := by decide +kernel
theorem dX6_countCertified_23 : decode cX6_countCertified 23 = .ok (.astore 5, 2) := by decide +kernel
theorem dX6_countCertified_25 : decode cX6_countCertified 25 = .ok (.aload 5, 2) := by decide +kernel
theorem dX6_countCertified_27 : decode cX6_countCertified 27 = .ok (.ifnull 14, 3) := by decide +kernel
theorem dX6_countCertified_30 : decode cX6_countCertified 30 = .ok (.aload 5, 2) := by decide +kernel
theorem dX6_countCertified_32 : decode cX6_countCertified 32 = .ok (.invokevirtual 190, 3) := by decide +kernel
theorem dX6_countCertified_35 : decode cX6_countCertified 35 = .ok (.ifCond .eq 6, 3) := by decide +kernel
theorem dX6_countCertified_38 : decode cX6_countCertified 38 = .ok (.iinc 1 1, 3) := by decide +kernel
theorem dX6_countCertified_41 : decode cX6_countCertified 41 = .ok (.iinc 4 1, 3) := by decide +kernel
theorem dX6_countCertified_44 : decode cX6_countCertified 44 = .ok (.goto (-31), 3) := by decide +kernel
theorem dX6_countCertified_47 : decode cX6_countCertified 47 = .ok (.iload_n 1, 1) := by decide +kernel
theorem dX6_countCertified_48 : decode cX6_countCertified 48 = .ok (.ireturn, 1) := by decide +kernel
theorem dX6_tallyOfClick_0 : decode cX6_tallyOfClick 0 = .ok (.aload_n 0, 1) := by decide +kernel
theorem dX6_tallyOfClick_1 : decode cX6_tallyOfClick 1 = .ok (.iload_n 1, 1) := by decide +kernel
theorem dX6_tallyOfClick_2 : decode cX6_tallyOfClick 2 = .ok (.invokevirtual 52, 3) := by decide +kernel
theorem dX6_tallyOfClick_5 : decode cX6_tallyOfClick 5 = .ok (.astore_n 3, 1) := by decide +kernel
theorem dX6_tallyOfClick_6 : decode cX6_tallyOfClick 6 = .ok (.iload_n 2, 1) := by decide +kernel
theorem dX6_tallyOfClick_7 : decode cX6_tallyOfClick 7 = .ok (.invokestatic 162, 3) := by decide +kernel
theorem dX6_tallyOfClick_10 : decode cX6_tallyOfClick 10 = .ok (.aload_n 0, 1) := by decide +kernel
theorem dX6_tallyOfClick_11 : decode cX6_tallyOfClick 11 = .ok (.aload_n 3, 1) := by decide +kernel
theorem dX6_tallyOfClick_12 : decode cX6_tallyOfClick 12 = .ok (.iload_n 2, 1) := by decide +kernel
theorem dX6_tallyOfClick_13 : decode cX6_tallyOfClick 13 = .ok (.iconst 1, 1) := by decide +kernel
theorem dX6_tallyOfClick_14 : decode cX6_tallyOfClick 14 = .ok (.invokevirtual 165, 3) := by decide +kernel
theorem dX6_tallyOfClick_17 : decode cX6_tallyOfClick 17 = .ok (.areturn, 1) := by decide +kernel
theorem dX6_tallyOf_0 : decode cX6_tallyOf 0 = .ok (.aload_n 0, 1) := by decide +kernel
theorem dX6_tallyOf_1 : decode cX6_tallyOf 1 = .ok (.getfield 24, 3) := by decide +kernel
theorem dX6_tallyOf_4 : decode cX6_tallyOf 4 = .ok (.iload_n 3, 1) := by decide +kernel
theorem dX6_tallyOf_5 : decode cX6_tallyOf 5 = .ok (.invokevirtual 242, 3) := by decide +kernel
theorem dX6_tallyOf_8 : decode cX6_tallyOf 8 = .ok (.aload_n 1, 1) := by decide +kernel
theorem dX6_tallyOf_9 : decode cX6_tallyOf 9 = .ok (.iload_n 2, 1) := by decide +kernel
theorem dX6_tallyOf_10 : decode cX6_tallyOf 10 = .ok (.aload_n 1, 1) := by decide +kernel
theorem dX6_tallyOf_11 : decode cX6_tallyOf 11 = .ok (.getfield 93, 3) := by decide +kernel
theorem dX6_tallyOf_14 : decode cX6_tallyOf 14 = .ok (.aload_n 1, 1) := by decide +kernel
theorem dX6_tallyOf_15 : decode cX6_tallyOf 15 = .ok (.getfield 96, 3) := by decide +kernel
theorem dX6_tallyOf_18 : decode cX6_tallyOf 18 = .ok (.aload_n 0, 1) := by decide +kernel
theorem dX6_tallyOf_19 : decode cX6_tallyOf 19 = .ok (.getfield 24, 3) := by decide +kernel
theorem dX6_tallyOf_22 : decode cX6_tallyOf 22 = .ok (.invokevirtual 245, 3) := by decide +kernel
theorem dX6_tallyOf_25 : decode cX6_tallyOf 25 = .ok (.aload_n 0, 1) := by decide +kernel
theorem dX6_tallyOf_26 : decode cX6_tallyOf 26 = .ok (.getfield 24, 3) := by decide +kernel
theorem dX6_tallyOf_29 : decode cX6_tallyOf 29 = .ok (.areturn, 1) := by decide +kernel
theorem dX6_loudnessesOf_0 : decode cX6_loudnessesOf 0 = .ok (.aload_n 0, 1) := by decide +kernel
theorem dX6_loudnessesOf_1 : decode cX6_loudnessesOf 1 = .ok (.getfield 31, 3) := by decide +kernel
theorem dX6_loudnessesOf_4 : decode cX6_loudnessesOf 4 = .ok (.invokevirtual 249, 3) := by decide +kernel
theorem dX6_loudnessesOf_7 : decode cX6_loudnessesOf 7 = .ok (.aload_n 1, 1) := by decide +kernel
theorem dX6_loudnessesOf_8 : decode cX6_loudnessesOf 8 = .ok (.iload_n 2, 1) := by decide +kernel
theorem dX6_loudnessesOf_9 : decode cX6_loudnessesOf 9 = .ok (.aload_n 1, 1) := by decide +kernel
theorem dX6_loudnessesOf_10 : decode cX6_loudnessesOf 10 = .ok (.getfield 93, 3) := by decide +kernel
theorem dX6_loudnessesOf_13 : decode cX6_loudnessesOf 13 = .ok (.aload_n 1, 1) := by decide +kernel
theorem dX6_loudnessesOf_14 : decode cX6_loudnessesOf 14 = .ok (.getfield 96, 3) := by decide +kernel
theorem dX6_loudnessesOf_17 : decode cX6_loudnessesOf 17 = .ok (.aload_n 0, 1) := by decide +kernel
theorem dX6_loudnessesOf_18 : decode cX6_loudnessesOf 18 = .ok (.getfield 31, 3) := by decide +kernel
theorem dX6_loudnessesOf_21 : decode cX6_loudnessesOf 21 = .ok (.invokevirtual 245, 3) := by decide +kernel
theorem dX6_loudnessesOf_24 : decode cX6_loudnessesOf 24 = .ok (.aload_n 0, 1) := by decide +kernel
theorem dX6_loudnessesOf_25 : decode cX6_loudnessesOf 25 = .ok (.getfield 31, 3) := by decide +kernel
theorem dX6_loudnessesOf_28 : decode cX6_loudnessesOf 28 = .ok (.areturn, 1) := by decide +kernel
theorem dX6_meetsNow_0 : decode cX6_meetsNow 0 = .ok (.aload_n 0, 1) := by decide +kernel
theorem dX6_meetsNow_1 : decode cX6_meetsNow 1 = .ok (.aload_n 1, 1) := by decide +kernel
theorem dX6_meetsNow_2 : decode cX6_meetsNow 2 = .ok (.aload_n 2, 1) := by decide +kernel
theorem dX6_meetsNow_3 : decode cX6_meetsNow 3 = .ok (.aload_n 1, 1) := by decide +kernel
theorem dX6_meetsNow_4 : decode cX6_meetsNow 4 = .ok (.getfield 93, 3) := by decide +kernel
theorem dX6_meetsNow_7 : decode cX6_meetsNow 7 = .ok (.aload_n 1, 1) := by decide +kernel
theorem dX6_meetsNow_8 : decode cX6_meetsNow 8 = .ok (.getfield 96, 3) := by decide +kernel
theorem dX6_meetsNow_11 : decode cX6_meetsNow 11 = .ok (.invokevirtual 193, 3) := by decide +kernel
theorem dX6_meetsNow_14 : decode cX6_meetsNow 14 = .ok (.ireturn, 1) := by decide +kernel
theorem dX6_wouldMeet_0 : decode cX6_wouldMeet 0 = .ok (.aload_n 0, 1) := by decide +kernel
theorem dX6_wouldMeet_1 : decode cX6_wouldMeet 1 = .ok (.getfield 24, 3) := by decide +kernel
theorem dX6_wouldMeet_4 : decode cX6_wouldMeet 4 = .ok (.aload_n 2, 1) := by decide +kernel
theorem dX6_wouldMeet_5 : decode cX6_wouldMeet 5 = .ok (.getfield 251, 3) := by decide +kernel
theorem dX6_wouldMeet_8 : decode cX6_wouldMeet 8 = .ok (.invokevirtual 242, 3) := by decide +kernel
theorem dX6_wouldMeet_11 : decode cX6_wouldMeet 11 = .ok (.aload_n 1, 1) := by decide +kernel
theorem dX6_wouldMeet_12 : decode cX6_wouldMeet 12 = .ok (.sipush 1000, 3) := by decide +kernel
theorem dX6_wouldMeet_15 : decode cX6_wouldMeet 15 = .ok (.iload_n 3, 1) := by decide +kernel
theorem dX6_wouldMeet_16 : decode cX6_wouldMeet 16 = .ok (.iload 4, 2) := by decide +kernel
theorem dX6_wouldMeet_18 : decode cX6_wouldMeet 18 = .ok (.aload_n 0, 1) := by decide +kernel
theorem dX6_wouldMeet_19 : decode cX6_wouldMeet 19 = .ok (.getfield 24, 3) := by decide +kernel
theorem dX6_wouldMeet_22 : decode cX6_wouldMeet 22 = .ok (.invokevirtual 245, 3) := by decide +kernel
theorem dX6_wouldMeet_25 : decode cX6_wouldMeet 25 = .ok (.aload_n 2, 1) := by decide +kernel
theorem dX6_wouldMeet_26 : decode cX6_wouldMeet 26 = .ok (.aload_n 0, 1) := by decide +kernel
theorem dX6_wouldMeet_27 : decode cX6_wouldMeet 27 = .ok (.getfield 24, 3) := by decide +kernel
theorem dX6_wouldMeet_30 : decode cX6_wouldMeet 30 = .ok (.invokevirtual 254, 3) := by decide +kernel
theorem dX6_wouldMeet_33 : decode cX6_wouldMeet 33 = .ok (.ireturn, 1) := by decide +kernel
theorem dX8_init_0 : decode cX8_init 0 = .ok (.aload_n 0, 1) := by decide +kernel
theorem dX8_init_1 : decode cX8_init 1 = .ok (.invokespecial 1, 3) := by decide +kernel
theorem dX8_init_4 : decode cX8_init 4 = .ok (.aload_n 0, 1) := by decide +kernel
theorem dX8_init_5 : decode cX8_init 5 = .ok (.iconst 0, 1) := by decide +kernel
theorem dX8_init_6 : decode cX8_init 6 = .ok (.anewarray 7, 3) := by decide +kernel
theorem dX8_init_9 : decode cX8_init 9 = .ok (.putfield 9, 3) := by decide +kernel
theorem dX8_init_12 : decode cX8_init 12 = .ok (.aload_n 0, 1) := by decide +kernel
theorem dX8_init_13 : decode cX8_init 13 = .ok (.iconst 0, 1) := by decide +kernel
theorem dX8_init_14 : decode cX8_init 14 = .ok (.anewarray 15, 3) := by decide +kernel
theorem dX8_init_17 : decode cX8_init 17 = .ok (.putfield 17, 3) := by decide +kernel
theorem dX8_init_20 : decode cX8_init 20 = .ok (.return_, 1) := by decide +kernel
theorem dX8_with_0 : decode cX8_with 0 = .ok (.aload_n 0, 1) := by decide +kernel
theorem dX8_with_1 : decode cX8_with 1 = .ok (.arraylength, 1) := by decide +kernel
theorem dX8_with_2 : decode cX8_with 2 = .ok (.iconst 1, 1) := by decide +kernel
theorem dX8_with_3 : decode cX8_with 3 = .ok (.iadd, 1) := by decide +kernel
theorem dX8_with_4 : decode cX8_with 4 = .ok (.anewarray 15, 3) := by decide +kernel
theorem dX8_with_7 : decode cX8_with 7 = .ok (.astore_n 2, 1) := by decide +kernel
theorem dX8_with_8 : decode cX8_with 8 = .ok (.iconst 0, 1) := by decide +kernel
theorem dX8_with_9 : decode cX8_with 9 = .ok (.istore_n 3, 1) := by decide +kernel
theorem dX8_with_10 : decode cX8_with 10 = .ok (.iload_n 3, 1) := by decide +kernel
theorem dX8_with_11 : decode cX8_with 11 = .ok (.aload_n 0, 1) := by decide +kernel
theorem dX8_with_12 : decode cX8_with 12 = .ok (.arraylength, 1) := by decide +kernel
theorem dX8_with_13 : decode cX8_with 13 = .ok (.if_icmp .ge 15, 3) := by decide +kernel
theorem dX8_with_16 : decode cX8_with 16 = .ok (.aload_n 2, 1) := by decide +kernel
theorem dX8_with_17 : decode cX8_with 17 = .ok (.iload_n 3, 1) := by decide +kernel
theorem dX8_with_18 : decode cX8_with 18 = .ok (.aload_n 0, 1) := by decide +kernel
theorem dX8_with_19 : decode cX8_with 19 = .ok (.iload_n 3, 1) := by decide +kernel
theorem dX8_with_20 : decode cX8_with 20 = .ok (.aaload, 1) := by decide +kernel
theorem dX8_with_21 : decode cX8_with 21 = .ok (.aastore, 1) := by decide +kernel
theorem dX8_with_22 : decode cX8_with 22 = .ok (.iinc 3 1, 3) := by decide +kernel
theorem dX8_with_25 : decode cX8_with 25 = .ok (.goto (-15), 3) := by decide +kernel
theorem dX8_with_28 : decode cX8_with 28 = .ok (.aload_n 2, 1) := by decide +kernel
theorem dX8_with_29 : decode cX8_with 29 = .ok (.aload_n 0, 1) := by decide +kernel
theorem dX8_with_30 : decode cX8_with 30 = .ok (.arraylength, 1) := by decide +kernel
theorem dX8_with_31 : decode cX8_with 31 = .ok (.aload_n 1, 1) := by decide +kernel
theorem dX8_with_32 : decode cX8_with 32 = .ok (.aastore, 1) := by decide +kernel
theorem dX8_with_33 : decode cX8_with 33 = .ok (.aload_n 2, 1) := by decide +kernel
theorem dX8_with_34 : decode cX8_with 34 = .ok (.areturn, 1) := by decide +kernel
theorem dX8_certified_0 : decode cX8_certified 0 = .ok (.iconst 0, 1) := by decide +kernel
theorem dX8_certified_1 : decode cX8_certified 1 = .ok (.istore_n 1, 1) := by decide +kernel
theorem dX8_certified_2 : decode cX8_certified 2 = .ok (.aload_n 0, 1) := by decide +kernel
theorem dX8_certified_3 : decode cX8_certified 3 = .ok (.getfield 9, 3) := by decide +kernel
theorem dX8_certified_6 : decode cX8_certified 6 = .ok (.astore_n 2, 1) := by decide +kernel
theorem dX8_certified_7 : decode cX8_certified 7 = .ok (.aload_n 2, 1) := by decide +kernel
theorem dX8_certified_8 : decode cX8_certified 8 = .ok (.arraylength, 1) := by decide +kernel
theorem dX8_certified_9 : decode cX8_certified 9 = .ok (.istore_n 3, 1) := by decide +kernel
theorem dX8_certified_10 : decode cX8_certified 10 = .ok (.iconst 0, 1) := by decide +kernel
theorem dX8_certified_11 : decode cX8_certified 11 = .ok (.istore 4, 2) := by decide +kernel
theorem dX8_certified_13 : decode cX8_certified 13 = .ok (.iload 4, 2) := by decide +kernel
theorem dX8_certified_15 : decode cX8_certified 15 = .ok (.iload_n 3, 1) := by decide +kernel
theorem dX8_certified_16 : decode cX8_certified 16 = .ok (.if_icmp .ge 31, 3) := by decide +kernel
theorem dX8_certified_19 : decode cX8_certified 19 = .ok (.aload_n 2, 1) := by decide +kernel
theorem dX8_certified_20 : decode cX8_certified 20 = .ok (.iload 4, 2) := by decide +kernel
theorem dX8_certified_22 : decode cX8_certified 22 = .ok (.aaload, 1) := by decide +kernel
theorem dX8_certified_23 : decode cX8_certified 23 = .ok (.astore 5, 2) := by decide +kernel
theorem dX8_certified_25 : decode cX8_certified 25 = .ok (.iload_n 1, 1) := by decide +kernel
theorem dX8_certified_26 : decode cX8_certified 26 = .ok (.aload 5, 2) := by decide +kernel
theorem dX8_certified_28 : decode cX8_certified 28 = .ok (.getfield 21, 3) := by decide +kernel
theorem dX8_certified_31 : decode cX8_certified 31 = .ok (.ifCond .lt 7, 3) := by decide +kernel
theorem dX8_certified_34 : decode cX8_certified 34 = .ok (.iconst 1, 1) := by decide +kernel
theorem dX8_certified_35 : decode cX8_certified 35 = .ok (.goto 4, 3) := by decide +kernel
theorem dX8_certified_38 : decode cX8_certified 38 = .ok (.iconst 0, 1) := by decide +kernel
theorem dX8_certified_39 : decode cX8_certified 39 = .ok (.iadd, 1) := by decide +kernel
theorem dX8_certified_40 : decode cX8_certified 40 = .ok (.istore_n 1, 1) := by decide +kernel
theorem dX8_certified_41 : decode cX8_certified 41 = .ok (.iinc 4 1, 3) := by decide +kernel
theorem dX8_certified_44 : decode cX8_certified 44 = .ok (.goto (-31), 3) := by decide +kernel
theorem dX8_certified_47 : decode cX8_certified 47 = .ok (.iload_n 1, 1) := by decide +kernel
theorem dX8_certified_48 : decode cX8_certified 48 = .ok (.ireturn, 1) := by decide +kernel
theorem dX8_pass_0 : decode cX8_pass 0 = .ok (.aload_n 0, 1) := by decide +kernel
theorem dX8_pass_1 : decode cX8_pass 1 = .ok (.getfield 9, 3) := by decide +kernel
theorem dX8_pass_4 : decode cX8_pass 4 = .ok (.astore_n 1, 1) := by decide +kernel
theorem dX8_pass_5 : decode cX8_pass 5 = .ok (.aload_n 1, 1) := by decide +kernel
theorem dX8_pass_6 : decode cX8_pass 6 = .ok (.arraylength, 1) := by decide +kernel
theorem dX8_pass_7 : decode cX8_pass 7 = .ok (.istore_n 2, 1) := by decide +kernel
theorem dX8_pass_8 : decode cX8_pass 8 = .ok (.iconst 0, 1) := by decide +kernel
theorem dX8_pass_9 : decode cX8_pass 9 = .ok (.istore_n 3, 1) := by decide +kernel
theorem dX8_pass_10 : decode cX8_pass 10 = .ok (.iload_n 3, 1) := by decide +kernel
theorem dX8_pass_11 : decode cX8_pass 11 = .ok (.iload_n 2, 1) := by decide +kernel
theorem dX8_pass_12 : decode cX8_pass 12 = .ok (.if_icmp .ge 70, 3) := by decide +kernel
theorem dX8_pass_15 : decode cX8_pass 15 = .ok (.aload_n 1, 1) := by decide +kernel
theorem dX8_pass_16 : decode cX8_pass 16 = .ok (.iload_n 3, 1) := by decide +kernel
theorem dX8_pass_17 : decode cX8_pass 17 = .ok (.aaload, 1) := by decide +kernel
theorem dX8_pass_18 : decode cX8_pass 18 = .ok (.astore 4, 2) := by decide +kernel
theorem dX8_pass_20 : decode cX8_pass 20 = .ok (.aload 4, 2) := by decide +kernel
theorem dX8_pass_22 : decode cX8_pass 22 = .ok (.getfield 25, 3) := by decide +kernel
theorem dX8_pass_25 : decode cX8_pass 25 = .ok (.bipush 100, 2) := by decide +kernel
theorem dX8_pass_27 : decode cX8_pass 27 = .ok (.if_icmp .ge 14, 3) := by decide +kernel
theorem dX8_pass_30 : decode cX8_pass 30 = .ok (.aload 4, 2) := by decide +kernel
theorem dX8_pass_32 : decode cX8_pass 32 = .ok (.dup, 1) := by decide +kernel
theorem dX8_pass_33 : decode cX8_pass 33 = .ok (.getfield 25, 3) := by decide +kernel
theorem dX8_pass_36 : decode cX8_pass 36 = .ok (.iconst 1, 1) := by decide +kernel
theorem dX8_pass_37 : decode cX8_pass 37 = .ok (.iadd, 1) := by decide +kernel
theorem dX8_pass_38 : decode cX8_pass 38 = .ok (.putfield 25, 3) := by decide +kernel
theorem dX8_pass_41 : decode cX8_pass 41 = .ok (.aload 4, 2) := by decide +kernel
theorem dX8_pass_43 : decode cX8_pass 43 = .ok (.getfield 21, 3) := by decide +kernel
theorem dX8_pass_46 : decode cX8_pass 46 = .ok (.ifCond .ge 6, 3) := by decide +kernel
theorem dX8_pass_49 : decode cX8_pass 49 = .ok (.goto 27, 3) := by decide +kernel
theorem dX8_pass_52 : decode cX8_pass 52 = .ok (.aload 4, 2) := by decide +kernel
theorem dX8_pass_54 : decode cX8_pass 54 = .ok (.dup, 1) := by decide +kernel
theorem dX8_pass_55 : decode cX8_pass 55 = .ok (.getfield 28, 3) := by decide +kernel
theorem dX8_pass_58 : decode cX8_pass 58 = .ok (.iconst 1, 1) := by decide +kernel
theorem dX8_pass_59 : decode cX8_pass 59 = .ok (.isub, 1) := by decide +kernel
theorem dX8_pass_60 : decode cX8_pass 60 = .ok (.putfield 28, 3) := by decide +kernel
theorem dX8_pass_63 : decode cX8_pass 63 = .ok (.aload 4, 2) := by decide +kernel
theorem dX8_pass_65 : decode cX8_pass 65 = .ok (.getfield 28, 3) := by decide +kernel
theorem dX8_pass_68 : decode cX8_pass 68 = .ok (.ifCond .ne 8, 3) := by decide +kernel
theorem dX8_pass_71 : decode cX8_pass 71 = .ok (.aload 4, 2) := by decide +kernel
theorem dX8_pass_73 : decode cX8_pass 73 = .ok (.invokevirtual 31, 3) := by decide +kernel
theorem dX8_pass_76 : decode cX8_pass 76 = .ok (.iinc 3 1, 3) := by decide +kernel
theorem dX8_pass_79 : decode cX8_pass 79 = .ok (.goto (-69), 3) := by decide +kernel
theorem dX8_pass_82 : decode cX8_pass 82 = .ok (.aload_n 0, 1) := by decide +kernel
theorem dX8_pass_83 : decode cX8_pass 83 = .ok (.dup, 1) := by decide +kernel
theorem dX8_pass_84 : decode cX8_pass 84 = .ok (.getfield 34, 3) := by decide +kernel
theorem dX8_pass_87 : decode cX8_pass 87 = .ok (.iconst 1, 1) := by decide +kernel
theorem dX8_pass_88 : decode cX8_pass 88 = .ok (.iadd, 1) := by decide +kernel
theorem dX8_pass_89 : decode cX8_pass 89 = .ok (.putfield 34, 3) := by decide +kernel
theorem dX8_pass_92 : decode cX8_pass 92 = .ok (.return_, 1) := by decide +kernel
theorem dX8_isSame_0 : decode cX8_isSame 0 = .ok (.aload_n 1, 1) := by decide +kernel
theorem dX8_isSame_1 : decode cX8_isSame 1 = .ok (.invokevirtual 37, 3) := by decide +kernel
theorem dX8_isSame_4 : decode cX8_isSame 4 = .ok (.aload_n 0, 1) := by decide +kernel
theorem dX8_isSame_5 : decode cX8_isSame 5 = .ok (.getfield 9, 3) := by decide +kernel
theorem dX8_isSame_8 : decode cX8_isSame 8 = .ok (.arraylength, 1) := by decide +kernel
theorem dX8_isSame_9 : decode cX8_isSame 9 = .ok (.if_icmp .ne 48, 3) := by decide +kernel
theorem dX8_isSame_12 : decode cX8_isSame 12 = .ok (.aload_n 1, 1) := by decide +kernel
theorem dX8_isSame_13 : decode cX8_isSame 13 = .ok (.invokevirtual 42, 3) := by decide +kernel
theorem dX8_isSame_16 : decode cX8_isSame 16 = .ok (.aload_n 0, 1) := by decide +kernel
theorem dX8_isSame_17 : decode cX8_isSame 17 = .ok (.getfield 17, 3) := by decide +kernel
theorem dX8_isSame_20 : decode cX8_isSame 20 = .ok (.arraylength, 1) := by decide +kernel
theorem dX8_isSame_21 : decode cX8_isSame 21 = .ok (.if_icmp .ne 36, 3) := by decide +kernel
theorem dX8_isSame_24 : decode cX8_isSame 24 = .ok (.aload_n 1, 1) := by decide +kernel
theorem dX8_isSame_25 : decode cX8_isSame 25 = .ok (.invokevirtual 45, 3) := by decide +kernel
theorem dX8_isSame_28 : decode cX8_isSame 28 = .ok (.aload_n 0, 1) := by decide +kernel
theorem dX8_isSame_29 : decode cX8_isSame 29 = .ok (.getfield 34, 3) := by decide +kernel
theorem dX8_isSame_32 : decode cX8_isSame 32 = .ok (.if_icmp .ne 25, 3) := by decide +kernel
theorem dX8_isSame_35 : decode cX8_isSame 35 = .ok (.aload_n 1, 1) := by decide +kernel
theorem dX8_isSame_36 : decode cX8_isSame 36 = .ok (.invokevirtual 47, 3) := by decide +kernel
theorem dX8_isSame_39 : decode cX8_isSame 39 = .ok (.aload_n 0, 1) := by decide +kernel
theorem dX8_isSame_40 : decode cX8_isSame 40 = .ok (.getfield 50, 3) := by decide +kernel
theorem dX8_isSame_43 : decode cX8_isSame 43 = .ok (.if_icmp .ne 14, 3) := by decide +kernel
theorem dX8_isSame_46 : decode cX8_isSame 46 = .ok (.aload_n 1, 1) := by decide +kernel
theorem dX8_isSame_47 : decode cX8_isSame 47 = .ok (.invokevirtual 52, 3) := by decide +kernel
theorem dX8_isSame_50 : decode cX8_isSame 50 = .ok (.aload_n 0, 1) := by decide +kernel
theorem dX8_isSame_51 : decode cX8_isSame 51 = .ok (.invokevirtual 55, 3) := by decide +kernel
theorem dX8_isSame_54 : decode cX8_isSame 54 = .ok (.if_icmp .eq 5, 3) := by decide +kernel
theorem dX8_isSame_57 : decode cX8_isSame 57 = .ok (.iconst 0, 1) := by decide +kernel
theorem dX8_isSame_58 : decode cX8_isSame 58 = .ok (.ireturn, 1) := by decide +kernel
theorem dX8_isSame_59 : decode cX8_isSame 59 = .ok (.iconst 0, 1) := by decide +kernel
theorem dX8_isSame_60 : decode cX8_isSame 60 = .ok (.istore_n 3, 1) := by decide +kernel
theorem dX8_isSame_61 : decode cX8_isSame 61 = .ok (.iconst 0, 1) := by decide +kernel
theorem dX8_isSame_62 : decode cX8_isSame 62 = .ok (.istore 4, 2) := by decide +kernel
theorem dX8_isSame_64 : decode cX8_isSame 64 = .ok (.iload 4, 2) := by decide +kernel
theorem dX8_isSame_66 : decode cX8_isSame 66 = .ok (.aload_n 0, 1) := by decide +kernel
theorem dX8_isSame_67 : decode cX8_isSame 67 = .ok (.getfield 9, 3) := by decide +kernel
theorem dX8_isSame_70 : decode cX8_isSame 70 = .ok (.arraylength, 1) := by decide +kernel
theorem dX8_isSame_71 : decode cX8_isSame 71 = .ok (.if_icmp .ge 335, 3) := by decide +kernel
theorem dX8_isSame_74 : decode cX8_isSame 74 = .ok (.aload_n 0, 1) := by decide +kernel
theorem dX8_isSame_75 : decode cX8_isSame 75 = .ok (.getfield 9, 3) := by decide +kernel
theorem dX8_isSame_78 : decode cX8_isSame 78 = .ok (.iload 4, 2) := by decide +kernel
theorem dX8_isSame_80 : decode cX8_isSame 80 = .ok (.aaload, 1) := by decide +kernel
theorem dX8_isSame_81 : decode cX8_isSame 81 = .ok (.astore 5, 2) := by decide +kernel
theorem dX8_isSame_83 : decode cX8_isSame 83 = .ok (.aload_n 1, 1) := by decide +kernel
theorem dX8_isSame_84 : decode cX8_isSame 84 = .ok (.iload 4, 2) := by decide +kernel
theorem dX8_isSame_86 : decode cX8_isSame 86 = .ok (.invokevirtual 58, 3) := by decide +kernel
theorem dX8_isSame_89 : decode cX8_isSame 89 = .ok (.aload 5, 2) := by decide +kernel
theorem dX8_isSame_91 : decode cX8_isSame 91 = .ok (.getfield 62, 3) := by decide +kernel
theorem dX8_isSame_94 : decode cX8_isSame 94 = .ok (.arraylength, 1) := by decide +kernel
theorem dX8_isSame_95 : decode cX8_isSame 95 = .ok (.if_icmp .ne 89, 3) := by decide +kernel
theorem dX8_isSame_98 : decode cX8_isSame 98 = .ok (.aload_n 1, 1) := by decide +kernel
theorem dX8_isSame_99 : decode cX8_isSame 99 = .ok (.iload 4, 2) := by decide +kernel
theorem dX8_isSame_101 : decode cX8_isSame 101 = .ok (.invokevirtual 65, 3) := by decide +kernel
theorem dX8_isSame_104 : decode cX8_isSame 104 = .ok (.aload 5, 2) := by decide +kernel
theorem dX8_isSame_106 : decode cX8_isSame 106 = .ok (.getfield 68, 3) := by decide +kernel
theorem dX8_isSame_109 : decode cX8_isSame 109 = .ok (.if_icmp .ne 75, 3) := by decide +kernel
theorem dX8_isSame_112 : decode cX8_isSame 112 = .ok (.aload_n 1, 1) := by decide +kernel
theorem dX8_isSame_113 : decode cX8_isSame 113 = .ok (.iload 4, 2) := by decide +kernel
theorem dX8_isSame_115 : decode cX8_isSame 115 = .ok (.invokevirtual 71, 3) := by decide +kernel
theorem dX8_isSame_118 : decode cX8_isSame 118 = .ok (.aload 5, 2) := by decide +kernel
theorem dX8_isSame_120 : decode cX8_isSame 120 = .ok (.getfield 25, 3) := by decide +kernel
theorem dX8_isSame_123 : decode cX8_isSame 123 = .ok (.if_icmp .ne 61, 3) := by decide +kernel
theorem dX8_isSame_126 : decode cX8_isSame 126 = .ok (.aload_n 1, 1) := by decide +kernel
theorem dX8_isSame_127 : decode cX8_isSame 127 = .ok (.iload 4, 2) := by decide +kernel
theorem dX8_isSame_129 : decode cX8_isSame 129 = .ok (.invokevirtual 74, 3) := by decide +kernel
theorem dX8_isSame_132 : decode cX8_isSame 132 = .ok (.aload 5, 2) := by decide +kernel
theorem dX8_isSame_134 : decode cX8_isSame 134 = .ok (.getfield 21, 3) := by decide +kernel
theorem dX8_isSame_137 : decode cX8_isSame 137 = .ok (.ifCond .lt 7, 3) := by decide +kernel
theorem dX8_isSame_140 : decode cX8_isSame 140 = .ok (.iconst 1, 1) := by decide +kernel
theorem dX8_isSame_141 : decode cX8_isSame 141 = .ok (.goto 4, 3) := by decide +kernel
theorem dX8_isSame_144 : decode cX8_isSame 144 = .ok (.iconst 0, 1) := by decide +kernel
theorem dX8_isSame_145 : decode cX8_isSame 145 = .ok (.if_icmp .ne 39, 3) := by decide +kernel
theorem dX8_isSame_148 : decode cX8_isSame 148 = .ok (.aload 5, 2) := by decide +kernel
theorem dX8_isSame_150 : decode cX8_isSame 150 = .ok (.getfield 21, 3) := by decide +kernel
theorem dX8_isSame_153 : decode cX8_isSame 153 = .ok (.ifCond .lt 17, 3) := by decide +kernel
theorem dX8_isSame_156 : decode cX8_isSame 156 = .ok (.aload_n 1, 1) := by decide +kernel
theorem dX8_isSame_157 : decode cX8_isSame 157 = .ok (.iload 4, 2) := by decide +kernel
theorem dX8_isSame_159 : decode cX8_isSame 159 = .ok (.invokevirtual 78, 3) := by decide +kernel
theorem dX8_isSame_162 : decode cX8_isSame 162 = .ok (.aload 5, 2) := by decide +kernel
theorem dX8_isSame_164 : decode cX8_isSame 164 = .ok (.getfield 21, 3) := by decide +kernel
theorem dX8_isSame_167 : decode cX8_isSame 167 = .ok (.if_icmp .ne 17, 3) := by decide +kernel
theorem dX8_isSame_170 : decode cX8_isSame 170 = .ok (.aload_n 1, 1) := by decide +kernel
theorem dX8_isSame_171 : decode cX8_isSame 171 = .ok (.iload 4, 2) := by decide +kernel
theorem dX8_isSame_173 : decode cX8_isSame 173 = .ok (.invokevirtual 81, 3) := by decide +kernel
theorem dX8_isSame_176 : decode cX8_isSame 176 = .ok (.aload 5, 2) := by decide +kernel
theorem dX8_isSame_178 : decode cX8_isSame 178 = .ok (.getfield 28, 3) := by decide +kernel
theorem dX8_isSame_181 : decode cX8_isSame 181 = .ok (.if_icmp .eq 5, 3) := by decide +kernel
theorem dX8_isSame_184 : decode cX8_isSame 184 = .ok (.iconst 0, 1) := by decide +kernel
theorem dX8_isSame_185 : decode cX8_isSame 185 = .ok (.ireturn, 1) := by decide +kernel
theorem dX8_isSame_186 : decode cX8_isSame 186 = .ok (.iconst 0, 1) := by decide +kernel
theorem dX8_isSame_187 : decode cX8_isSame 187 = .ok (.istore 6, 2) := by decide +kernel
theorem dX8_isSame_189 : decode cX8_isSame 189 = .ok (.iload 6, 2) := by decide +kernel
theorem dX8_isSame_191 : decode cX8_isSame 191 = .ok (.aload 5, 2) := by decide +kernel
theorem dX8_isSame_193 : decode cX8_isSame 193 = .ok (.getfield 62, 3) := by decide +kernel
theorem dX8_isSame_196 : decode cX8_isSame 196 = .ok (.arraylength, 1) := by decide +kernel
theorem dX8_isSame_197 : decode cX8_isSame 197 = .ok (.if_icmp .ge 55, 3) := by decide +kernel
theorem dX8_isSame_200 : decode cX8_isSame 200 = .ok (.aload_n 1, 1) := by decide +kernel
theorem dX8_isSame_201 : decode cX8_isSame 201 = .ok (.iload 4, 2) := by decide +kernel
theorem dX8_isSame_203 : decode cX8_isSame 203 = .ok (.iload 6, 2) := by decide +kernel
theorem dX8_isSame_205 : decode cX8_isSame 205 = .ok (.invokevirtual 84, 3) := by decide +kernel
theorem dX8_isSame_208 : decode cX8_isSame 208 = .ok (.aload 5, 2) := by decide +kernel
theorem dX8_isSame_210 : decode cX8_isSame 210 = .ok (.getfield 62, 3) := by decide +kernel
theorem dX8_isSame_213 : decode cX8_isSame 213 = .ok (.iload 6, 2) := by decide +kernel
theorem dX8_isSame_215 : decode cX8_isSame 215 = .ok (.aaload, 1) := by decide +kernel
theorem dX8_isSame_216 : decode cX8_isSame 216 = .ok (.iconst 0, 1) := by decide +kernel
theorem dX8_isSame_217 : decode cX8_isSame 217 = .ok (.iaload, 1) := by decide +kernel
theorem dX8_isSame_218 : decode cX8_isSame 218 = .ok (.if_icmp .ne 26, 3) := by decide +kernel
theorem dX8_isSame_221 : decode cX8_isSame 221 = .ok (.aload_n 1, 1) := by decide +kernel
theorem dX8_isSame_222 : decode cX8_isSame 222 = .ok (.iload 4, 2) := by decide +kernel
theorem dX8_isSame_224 : decode cX8_isSame 224 = .ok (.iload 6, 2) := by decide +kernel
theorem dX8_isSame_226 : decode cX8_isSame 226 = .ok (.invokevirtual 88, 3) := by decide +kernel
theorem dX8_isSame_229 : decode cX8_isSame 229 = .ok (.aload 5, 2) := by decide +kernel
theorem dX8_isSame_231 : decode cX8_isSame 231 = .ok (.iload 6, 2) := by decide +kernel
theorem dX8_isSame_233 : decode cX8_isSame 233 = .ok (.aload 5, 2) := by decide +kernel
theorem dX8_isSame_235 : decode cX8_isSame 235 = .ok (.getfield 25, 3) := by decide +kernel
theorem dX8_isSame_238 : decode cX8_isSame 238 = .ok (.invokevirtual 91, 3) := by decide +kernel
theorem dX8_isSame_241 : decode cX8_isSame 241 = .ok (.if_icmp .eq 5, 3) := by decide +kernel
theorem dX8_isSame_244 : decode cX8_isSame 244 = .ok (.iconst 0, 1) := by decide +kernel
theorem dX8_isSame_245 : decode cX8_isSame 245 = .ok (.ireturn, 1) := by decide +kernel
theorem dX8_isSame_246 : decode cX8_isSame 246 = .ok (.iinc 6 1, 3) := by decide +kernel
theorem dX8_isSame_249 : decode cX8_isSame 249 = .ok (.goto (-60), 3) := by decide +kernel
theorem dX8_isSame_252 : decode cX8_isSame 252 = .ok (.aload 5, 2) := by decide +kernel
theorem dX8_isSame_254 : decode cX8_isSame 254 = .ok (.iload_n 2, 1) := by decide +kernel
theorem dX8_isSame_255 : decode cX8_isSame 255 = .ok (.iload_n 2, 1) := by decide +kernel
theorem dX8_isSame_256 : decode cX8_isSame 256 = .ok (.iconst 3, 1) := by decide +kernel
theorem dX8_isSame_257 : decode cX8_isSame 257 = .ok (.idiv, 1) := by decide +kernel
theorem dX8_isSame_258 : decode cX8_isSame 258 = .ok (.iconst 1, 1) := by decide +kernel
theorem dX8_isSame_259 : decode cX8_isSame 259 = .ok (.iadd, 1) := by decide +kernel
theorem dX8_isSame_260 : decode cX8_isSame 260 = .ok (.aload 5, 2) := by decide +kernel
theorem dX8_isSame_262 : decode cX8_isSame 262 = .ok (.getfield 68, 3) := by decide +kernel
theorem dX8_isSame_265 : decode cX8_isSame 265 = .ok (.aload 5, 2) := by decide +kernel
theorem dX8_isSame_267 : decode cX8_isSame 267 = .ok (.getfield 25, 3) := by decide +kernel
theorem dX8_isSame_270 : decode cX8_isSame 270 = .ok (.invokevirtual 94, 3) := by decide +kernel
theorem dX8_isSame_273 : decode cX8_isSame 273 = .ok (.astore 6, 2) := by decide +kernel
theorem dX8_isSame_275 : decode cX8_isSame 275 = .ok (.aload_n 1, 1) := by decide +kernel
theorem dX8_isSame_276 : decode cX8_isSame 276 = .ok (.iload 4, 2) := by decide +kernel
theorem dX8_isSame_278 : decode cX8_isSame 278 = .ok (.iload_n 2, 1) := by decide +kernel
theorem dX8_isSame_279 : decode cX8_isSame 279 = .ok (.invokevirtual 98, 3) := by decide +kernel
theorem dX8_isSame_282 : decode cX8_isSame 282 = .ok (.aload 6, 2) := by decide +kernel
theorem dX8_isSame_284 : decode cX8_isSame 284 = .ok (.iconst 0, 1) := by decide +kernel
theorem dX8_isSame_285 : decode cX8_isSame 285 = .ok (.iaload, 1) := by decide +kernel
theorem dX8_isSame_286 : decode cX8_isSame 286 = .ok (.if_icmp .ne 50, 3) := by decide +kernel
theorem dX8_isSame_289 : decode cX8_isSame 289 = .ok (.aload_n 1, 1) := by decide +kernel
theorem dX8_isSame_290 : decode cX8_isSame 290 = .ok (.iload 4, 2) := by decide +kernel
theorem dX8_isSame_292 : decode cX8_isSame 292 = .ok (.iload_n 2, 1) := by decide +kernel
theorem dX8_isSame_293 : decode cX8_isSame 293 = .ok (.iload_n 2, 1) := by decide +kernel
theorem dX8_isSame_294 : decode cX8_isSame 294 = .ok (.iconst 3, 1) := by decide +kernel
theorem dX8_isSame_295 : decode cX8_isSame 295 = .ok (.idiv, 1) := by decide +kernel
theorem dX8_isSame_296 : decode cX8_isSame 296 = .ok (.iconst 1, 1) := by decide +kernel
theorem dX8_isSame_297 : decode cX8_isSame 297 = .ok (.iadd, 1) := by decide +kernel
theorem dX8_isSame_298 : decode cX8_isSame 298 = .ok (.invokevirtual 100, 3) := by decide +kernel
theorem dX8_isSame_301 : decode cX8_isSame 301 = .ok (.aload 6, 2) := by decide +kernel
theorem dX8_isSame_303 : decode cX8_isSame 303 = .ok (.iconst 1, 1) := by decide +kernel
theorem dX8_isSame_304 : decode cX8_isSame 304 = .ok (.iaload, 1) := by decide +kernel
theorem dX8_isSame_305 : decode cX8_isSame 305 = .ok (.if_icmp .ne 31, 3) := by decide +kernel
theorem dX8_isSame_308 : decode cX8_isSame 308 = .ok (.aload_n 1, 1) := by decide +kernel
theorem dX8_isSame_309 : decode cX8_isSame 309 = .ok (.iload 4, 2) := by decide +kernel
theorem dX8_isSame_311 : decode cX8_isSame 311 = .ok (.iload_n 2, 1) := by decide +kernel
theorem dX8_isSame_312 : decode cX8_isSame 312 = .ok (.invokevirtual 104, 3) := by decide +kernel
theorem dX8_isSame_315 : decode cX8_isSame 315 = .ok (.aload 6, 2) := by decide +kernel
theorem dX8_isSame_317 : decode cX8_isSame 317 = .ok (.iconst 2, 1) := by decide +kernel
theorem dX8_isSame_318 : decode cX8_isSame 318 = .ok (.iaload, 1) := by decide +kernel
theorem dX8_isSame_319 : decode cX8_isSame 319 = .ok (.if_icmp .ne 17, 3) := by decide +kernel
theorem dX8_isSame_322 : decode cX8_isSame 322 = .ok (.aload_n 1, 1) := by decide +kernel
theorem dX8_isSame_323 : decode cX8_isSame 323 = .ok (.iload 4, 2) := by decide +kernel
theorem dX8_isSame_325 : decode cX8_isSame 325 = .ok (.iload_n 2, 1) := by decide +kernel
theorem dX8_isSame_326 : decode cX8_isSame 326 = .ok (.invokevirtual 107, 3) := by decide +kernel
theorem dX8_isSame_329 : decode cX8_isSame 329 = .ok (.aload 6, 2) := by decide +kernel
theorem dX8_isSame_331 : decode cX8_isSame 331 = .ok (.iconst 3, 1) := by decide +kernel
theorem dX8_isSame_332 : decode cX8_isSame 332 = .ok (.iaload, 1) := by decide +kernel
theorem dX8_isSame_333 : decode cX8_isSame 333 = .ok (.if_icmp .eq 5, 3) := by decide +kernel
theorem dX8_isSame_336 : decode cX8_isSame 336 = .ok (.iconst 0, 1) := by decide +kernel
theorem dX8_isSame_337 : decode cX8_isSame 337 = .ok (.ireturn, 1) := by decide +kernel
theorem dX8_isSame_338 : decode cX8_isSame 338 = .ok (.iconst 0, 1) := by decide +kernel
theorem dX8_isSame_339 : decode cX8_isSame 339 = .ok (.istore 7, 2) := by decide +kernel
theorem dX8_isSame_341 : decode cX8_isSame 341 = .ok (.iload 7, 2) := by decide +kernel
theorem dX8_isSame_343 : decode cX8_isSame 343 = .ok (.aload_n 0, 1) := by decide +kernel
theorem dX8_isSame_344 : decode cX8_isSame 344 = .ok (.getfield 17, 3) := by decide +kernel
theorem dX8_isSame_347 : decode cX8_isSame 347 = .ok (.arraylength, 1) := by decide +kernel
theorem dX8_isSame_348 : decode cX8_isSame 348 = .ok (.if_icmp .ge 44, 3) := by decide +kernel
theorem dX8_isSame_351 : decode cX8_isSame 351 = .ok (.aload_n 1, 1) := by decide +kernel
theorem dX8_isSame_352 : decode cX8_isSame 352 = .ok (.iload 4, 2) := by decide +kernel
theorem dX8_isSame_354 : decode cX8_isSame 354 = .ok (.iload 7, 2) := by decide +kernel
theorem dX8_isSame_356 : decode cX8_isSame 356 = .ok (.invokevirtual 110, 3) := by decide +kernel
theorem dX8_isSame_359 : decode cX8_isSame 359 = .ok (.aload 5, 2) := by decide +kernel
theorem dX8_isSame_361 : decode cX8_isSame 361 = .ok (.aload_n 0, 1) := by decide +kernel
theorem dX8_isSame_362 : decode cX8_isSame 362 = .ok (.getfield 17, 3) := by decide +kernel
theorem dX8_isSame_365 : decode cX8_isSame 365 = .ok (.iload 7, 2) := by decide +kernel
theorem dX8_isSame_367 : decode cX8_isSame 367 = .ok (.aaload, 1) := by decide +kernel
theorem dX8_isSame_368 : decode cX8_isSame 368 = .ok (.aload 5, 2) := by decide +kernel
theorem dX8_isSame_370 : decode cX8_isSame 370 = .ok (.getfield 68, 3) := by decide +kernel
theorem dX8_isSame_373 : decode cX8_isSame 373 = .ok (.aload 5, 2) := by decide +kernel
theorem dX8_isSame_375 : decode cX8_isSame 375 = .ok (.getfield 25, 3) := by decide +kernel
theorem dX8_isSame_378 : decode cX8_isSame 378 = .ok (.invokevirtual 114, 3) := by decide +kernel
theorem dX8_isSame_381 : decode cX8_isSame 381 = .ok (.if_icmp .eq 5, 3) := by decide +kernel
theorem dX8_isSame_384 : decode cX8_isSame 384 = .ok (.iconst 0, 1) := by decide +kernel
theorem dX8_isSame_385 : decode cX8_isSame 385 = .ok (.ireturn, 1) := by decide +kernel
theorem dX8_isSame_386 : decode cX8_isSame 386 = .ok (.iinc 7 1, 3) := by decide +kernel
theorem dX8_isSame_389 : decode cX8_isSame 389 = .ok (.goto (-48), 3) := by decide +kernel
theorem dX8_isSame_392 : decode cX8_isSame 392 = .ok (.iload_n 3, 1) := by decide +kernel
theorem dX8_isSame_393 : decode cX8_isSame 393 = .ok (.aload 5, 2) := by decide +kernel
theorem dX8_isSame_395 : decode cX8_isSame 395 = .ok (.getfield 68, 3) := by decide +kernel
theorem dX8_isSame_398 : decode cX8_isSame 398 = .ok (.iadd, 1) := by decide +kernel
theorem dX8_isSame_399 : decode cX8_isSame 399 = .ok (.istore_n 3, 1) := by decide +kernel
theorem dX8_isSame_400 : decode cX8_isSame 400 = .ok (.iinc 4 1, 3) := by decide +kernel
theorem dX8_isSame_403 : decode cX8_isSame 403 = .ok (.goto (-339), 3) := by decide +kernel
theorem dX8_isSame_406 : decode cX8_isSame 406 = .ok (.aload_n 1, 1) := by decide +kernel
theorem dX8_isSame_407 : decode cX8_isSame 407 = .ok (.invokevirtual 117, 3) := by decide +kernel
theorem dX8_isSame_410 : decode cX8_isSame 410 = .ok (.aload_n 0, 1) := by decide +kernel
theorem dX8_isSame_411 : decode cX8_isSame 411 = .ok (.getfield 9, 3) := by decide +kernel
theorem dX8_isSame_414 : decode cX8_isSame 414 = .ok (.arraylength, 1) := by decide +kernel
theorem dX8_isSame_415 : decode cX8_isSame 415 = .ok (.ifCond .ne 7, 3) := by decide +kernel
theorem dX8_isSame_418 : decode cX8_isSame 418 = .ok (.dconst 0, 1) := by decide +kernel
theorem dX8_isSame_419 : decode cX8_isSame 419 = .ok (.goto 12, 3) := by decide +kernel
theorem dX8_isSame_422 : decode cX8_isSame 422 = .ok (.iload_n 3, 1) := by decide +kernel
theorem dX8_isSame_423 : decode cX8_isSame 423 = .ok (.i2d, 1) := by decide +kernel
theorem dX8_isSame_424 : decode cX8_isSame 424 = .ok (.aload_n 0, 1) := by decide +kernel
theorem dX8_isSame_425 : decode cX8_isSame 425 = .ok (.getfield 9, 3) := by decide +kernel
theorem dX8_isSame_428 : decode cX8_isSame 428 = .ok (.arraylength, 1) := by decide +kernel
theorem dX8_isSame_429 : decode cX8_isSame 429 = .ok (.i2d, 1) := by decide +kernel
theorem dX8_isSame_430 : decode cX8_isSame 430 = .ok (.ddiv, 1) := by decide +kernel
theorem dX8_isSame_431 : decode cX8_isSame 431 = .ok (.dcmp .l, 1) := by decide +kernel
theorem dX8_isSame_432 : decode cX8_isSame 432 = .ok (.ifCond .ne 7, 3) := by decide +kernel
theorem dX8_isSame_435 : decode cX8_isSame 435 = .ok (.iconst 1, 1) := by decide +kernel
theorem dX8_isSame_436 : decode cX8_isSame 436 = .ok (.goto 4, 3) := by decide +kernel
theorem dX8_isSame_439 : decode cX8_isSame 439 = .ok (.iconst 0, 1) := by decide +kernel
theorem dX8_isSame_440 : decode cX8_isSame 440 = .ok (.ireturn, 1) := by decide +kernel
theorem dJ9_max_7cf53_0 : decode cJ9_max_7cf53 0 = .ok (.iload_n 0, 1) := by decide +kernel
theorem dJ9_max_7cf53_1 : decode cJ9_max_7cf53 1 = .ok (.iload_n 1, 1) := by decide +kernel
theorem dJ9_max_7cf53_2 : decode cJ9_max_7cf53 2 = .ok (.if_icmp .lt 7, 3) := by decide +kernel
theorem dJ9_max_7cf53_5 : decode cJ9_max_7cf53 5 = .ok (.iload_n 0, 1) := by decide +kernel
theorem dJ9_max_7cf53_6 : decode cJ9_max_7cf53 6 = .ok (.goto 4, 3) := by decide +kernel
theorem dJ9_max_7cf53_9 : decode cJ9_max_7cf53 9 = .ok (.iload_n 1, 1) := by decide +kernel
theorem dJ9_max_7cf53_10 : decode cJ9_max_7cf53 10 = .ok (.ireturn, 1) := by decide +kernel
theorem dJ9_min_7cf53_0 : decode cJ9_min_7cf53 0 = .ok (.iload_n 0, 1) := by decide +kernel
theorem dJ9_min_7cf53_1 : decode cJ9_min_7cf53 1 = .ok (.iload_n 1, 1) := by decide +kernel
theorem dJ9_min_7cf53_2 : decode cJ9_min_7cf53 2 = .ok (.if_icmp .gt 7, 3) := by decide +kernel
theorem dJ9_min_7cf53_5 : decode cJ9_min_7cf53 5 = .ok (.iload_n 0, 1) := by decide +kernel
theorem dJ9_min_7cf53_6 : decode cJ9_min_7cf53 6 = .ok (.goto 4, 3) := by decide +kernel
theorem dJ9_min_7cf53_9 : decode cJ9_min_7cf53 9 = .ok (.iload_n 1, 1) := by decide +kernel
theorem dJ9_min_7cf53_10 : decode cJ9_min_7cf53 10 = .ok (.ireturn, 1) := by decide +kernel
theorem dJ7_fill_53178_0 : decode cJ7_fill_53178 0 = .ok (.iconst 0, 1) := by decide +kernel
theorem dJ7_fill_53178_1 : decode cJ7_fill_53178 1 = .ok (.istore_n 2, 1) := by decide +kernel
theorem dJ7_fill_53178_2 : decode cJ7_fill_53178 2 = .ok (.aload_n 0, 1) := by decide +kernel
theorem dJ7_fill_53178_3 : decode cJ7_fill_53178 3 = .ok (.arraylength, 1) := by decide +kernel
theorem dJ7_fill_53178_4 : decode cJ7_fill_53178 4 = .ok (.istore_n 3, 1) := by decide +kernel
theorem dJ7_fill_53178_5 : decode cJ7_fill_53178 5 = .ok (.iload_n 2, 1) := by decide +kernel
theorem dJ7_fill_53178_6 : decode cJ7_fill_53178 6 = .ok (.iload_n 3, 1) := by decide +kernel
theorem dJ7_fill_53178_7 : decode cJ7_fill_53178 7 = .ok (.if_icmp .ge 13, 3) := by decide +kernel
theorem dJ7_fill_53178_10 : decode cJ7_fill_53178 10 = .ok (.aload_n 0, 1) := by decide +kernel
theorem dJ7_fill_53178_11 : decode cJ7_fill_53178 11 = .ok (.iload_n 2, 1) := by decide +kernel
theorem dJ7_fill_53178_12 : decode cJ7_fill_53178 12 = .ok (.iload_n 1, 1) := by decide +kernel
theorem dJ7_fill_53178_13 : decode cJ7_fill_53178 13 = .ok (.iastore, 1) := by decide +kernel
theorem dJ7_fill_53178_14 : decode cJ7_fill_53178 14 = .ok (.iinc 2 1, 3) := by decide +kernel
theorem dJ7_fill_53178_17 : decode cJ7_fill_53178 17 = .ok (.goto (-12), 3) := by decide +kernel
theorem dJ7_fill_53178_20 : decode cJ7_fill_53178 20 = .ok (.return_, 1) := by decide +kernel
