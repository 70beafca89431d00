theorem dX0_init_0 : decode cX0_init 0 = .ok (.aload_n 0, 1) := by decide +kernel
theorem dX0_init_1 : decode cX0_init 1 = .ok (.invokespecial 3, 3) := by decide +kernel
theorem dX0_init_4 : decode cX0_init 4 = .ok (.aload_n 0, 1) := by decide +kernel
theorem dX0_init_5 : decode cX0_init 5 = .ok (.iconst 0, 1) := by decide +kernel
theorem dX0_init_6 : decode cX0_init 6 = .ok (.putfield 9, 3) := by decide +kernel
theorem dX0_init_9 : decode cX0_init 9 = .ok (.aload_n 0, 1) := by decide +kernel
theorem dX0_init_10 : decode cX0_init 10 = .ok (.iconst 3, 1) := by decide +kernel
theorem dX0_init_11 : decode cX0_init 11 = .ok (.newarray .int, 2) := by decide +kernel
theorem dX0_init_13 : decode cX0_init 13 = .ok (.putfield 15, 3) := by decide +kernel
theorem dX0_init_16 : decode cX0_init 16 = .ok (.aload_n 0, 1) := by decide +kernel
theorem dX0_init_17 : decode cX0_init 17 = .ok (.lconst 0, 1) := by decide +kernel
theorem dX0_init_18 : decode cX0_init 18 = .ok (.putfield 19, 3) := by decide +kernel
theorem dX0_init_21 : decode cX0_init 21 = .ok (.aload_n 0, 1) := by decide +kernel
theorem dX0_init_22 : decode cX0_init 22 = .ok (.iconst 0, 1) := by decide +kernel
theorem dX0_init_23 : decode cX0_init 23 = .ok (.putfield 23, 3) := by decide +kernel
theorem dX0_init_26 : decode cX0_init 26 = .ok (.return_, 1) := by decide +kernel
theorem dX1_init_0 : decode cX1_init 0 = .ok (.aload_n 0, 1) := by decide +kernel
theorem dX1_init_1 : decode cX1_init 1 = .ok (.invokespecial 3, 3) := by decide +kernel
theorem dX1_init_4 : decode cX1_init 4 = .ok (.aload_n 0, 1) := by decide +kernel
theorem dX1_init_5 : decode cX1_init 5 = .ok (.iconst 3, 1) := by decide +kernel
theorem dX1_init_6 : decode cX1_init 6 = .ok (.newarray .int, 2) := by decide +kernel
theorem dX1_init_8 : decode cX1_init 8 = .ok (.dup, 1) := by decide +kernel
theorem dX1_init_9 : decode cX1_init 9 = .ok (.iconst 0, 1) := by decide +kernel
theorem dX1_init_10 : decode cX1_init 10 = .ok (.iconst 0, 1) := by decide +kernel
theorem dX1_init_11 : decode cX1_init 11 = .ok (.iastore, 1) := by decide +kernel
theorem dX1_init_12 : decode cX1_init 12 = .ok (.dup, 1) := by decide +kernel
theorem dX1_init_13 : decode cX1_init 13 = .ok (.iconst 1, 1) := by decide +kernel
theorem dX1_init_14 : decode cX1_init 14 = .ok (.iconst 0, 1) := by decide +kernel
theorem dX1_init_15 : decode cX1_init 15 = .ok (.iastore, 1) := by decide +kernel
theorem dX1_init_16 : decode cX1_init 16 = .ok (.dup, 1) := by decide +kernel
theorem dX1_init_17 : decode cX1_init 17 = .ok (.iconst 2, 1) := by decide +kernel
theorem dX1_init_18 : decode cX1_init 18 = .ok (.iconst 0, 1) := by decide +kernel
theorem dX1_init_19 : decode cX1_init 19 = .ok (.iastore, 1) := by decide +kernel
theorem dX1_init_20 : decode cX1_init 20 = .ok (.putfield 9, 3) := by decide +kernel
theorem dX1_init_23 : decode cX1_init 23 = .ok (.aload_n 0, 1) := by decide +kernel
theorem dX1_init_24 : decode cX1_init 24 = .ok (.iconst 3, 1) := by decide +kernel
theorem dX1_init_25 : decode cX1_init 25 = .ok (.newarray .int, 2) := by decide +kernel
theorem dX1_init_27 : decode cX1_init 27 = .ok (.dup, 1) := by decide +kernel
theorem dX1_init_28 : decode cX1_init 28 = .ok (.iconst 0, 1) := by decide +kernel
theorem dX1_init_29 : decode cX1_init 29 = .ok (.bipush 32, 2) := by decide +kernel
theorem dX1_init_31 : decode cX1_init 31 = .ok (.iastore, 1) := by decide +kernel
theorem dX1_init_32 : decode cX1_init 32 = .ok (.dup, 1) := by decide +kernel
theorem dX1_init_33 : decode cX1_init 33 = .ok (.iconst 1, 1) := by decide +kernel
theorem dX1_init_34 : decode cX1_init 34 = .ok (.bipush 32, 2) := by decide +kernel
theorem dX1_init_36 : decode cX1_init 36 = .ok (.iastore, 1) := by decide +kernel
theorem dX1_init_37 : decode cX1_init 37 = .ok (.dup, 1) := by decide +kernel
theorem dX1_init_38 : decode cX1_init 38 = .ok (.iconst 2, 1) := by decide +kernel
theorem dX1_init_39 : decode cX1_init 39 = .ok (.bipush 32, 2) := by decide +kernel
theorem dX1_init_41 : decode cX1_init 41 = .ok (.iastore, 1) := by decide +kernel
theorem dX1_init_42 : decode cX1_init 42 = .ok (.putfield 15, 3) := by decide +kernel
theorem dX1_init_45 : decode cX1_init 45 = .ok (.aload_n 0, 1) := by decide +kernel
theorem dX1_init_46 : decode cX1_init 46 = .ok (.iconst 3, 1) := by decide +kernel
theorem dX1_init_47 : decode cX1_init 47 = .ok (.newarray .int, 2) := by decide +kernel
theorem dX1_init_49 : decode cX1_init 49 = .ok (.dup, 1) := by decide +kernel
theorem dX1_init_50 : decode cX1_init 50 = .ok (.iconst 0, 1) := by decide +kernel
theorem dX1_init_51 : decode cX1_init 51 = .ok (.iconst 3, 1) := by decide +kernel
theorem dX1_init_52 : decode cX1_init 52 = .ok (.iastore, 1) := by decide +kernel
theorem dX1_init_53 : decode cX1_init 53 = .ok (.dup, 1) := by decide +kernel
theorem dX1_init_54 : decode cX1_init 54 = .ok (.iconst 1, 1) := by decide +kernel
theorem dX1_init_55 : decode cX1_init 55 = .ok (.iconst 3, 1) := by decide +kernel
theorem dX1_init_56 : decode cX1_init 56 = .ok (.iastore, 1) := by decide +kernel
theorem dX1_init_57 : decode cX1_init 57 = .ok (.dup, 1) := by decide +kernel
theorem dX1_init_58 : decode cX1_init 58 = .ok (.iconst 2, 1) := by decide +kernel
theorem dX1_init_59 : decode cX1_init 59 = .ok (.iconst 3, 1) := by decide +kernel
theorem dX1_init_60 : decode cX1_init 60 = .ok (.iastore, 1) := by decide +kernel
theorem dX1_init_61 : decode cX1_init 61 = .ok (.putfield 18, 3) := by decide +kernel
theorem dX1_init_64 : decode cX1_init 64 = .ok (.return_, 1) := by decide +kernel
theorem dX1_triples_0 : decode cX1_triples 0 = .ok (.aload_n 0, 1) := by decide +kernel
theorem dX1_triples_1 : decode cX1_triples 1 = .ok (.getfield 18, 3) := by decide +kernel
theorem dX1_triples_4 : decode cX1_triples 4 = .ok (.iconst 0, 1) := by decide +kernel
theorem dX1_triples_5 : decode cX1_triples 5 = .ok (.iaload, 1) := by decide +kernel
theorem dX1_triples_6 : decode cX1_triples 6 = .ok (.aload_n 0, 1) := by decide +kernel
theorem dX1_triples_7 : decode cX1_triples 7 = .ok (.getfield 18, 3) := by decide +kernel
theorem dX1_triples_10 : decode cX1_triples 10 = .ok (.iconst 1, 1) := by decide +kernel
theorem dX1_triples_11 : decode cX1_triples 11 = .ok (.iaload, 1) := by decide +kernel
theorem dX1_triples_12 : decode cX1_triples 12 = .ok (.imul, 1) := by decide +kernel
theorem dX1_triples_13 : decode cX1_triples 13 = .ok (.aload_n 0, 1) := by decide +kernel
theorem dX1_triples_14 : decode cX1_triples 14 = .ok (.getfield 18, 3) := by decide +kernel
theorem dX1_triples_17 : decode cX1_triples 17 = .ok (.iconst 2, 1) := by decide +kernel
theorem dX1_triples_18 : decode cX1_triples 18 = .ok (.iaload, 1) := by decide +kernel
theorem dX1_triples_19 : decode cX1_triples 19 = .ok (.imul, 1) := by decide +kernel
theorem dX1_triples_20 : decode cX1_triples 20 = .ok (.ireturn, 1) := by decide +kernel
theorem dX1_gainAt_0 : decode cX1_gainAt 0 = .ok (.iload_n 1, 1) := by decide +kernel
theorem dX1_gainAt_1 : decode cX1_gainAt 1 = .ok (.iconst 0, 1) := by decide +kernel
theorem dX1_gainAt_2 : decode cX1_gainAt 2 = .ok (.iconst 2, 1) := by decide +kernel
theorem dX1_gainAt_3 : decode cX1_gainAt 3 = .ok (.invokestatic 21, 3) := by decide +kernel
theorem dX1_gainAt_6 : decode cX1_gainAt 6 = .ok (.ifCond .eq 21, 3) := by decide +kernel
theorem dX1_gainAt_9 : decode cX1_gainAt 9 = .ok (.aload_n 0, 1) := by decide +kernel
theorem dX1_gainAt_10 : decode cX1_gainAt 10 = .ok (.getfield 9, 3) := by decide +kernel
theorem dX1_gainAt_13 : decode cX1_gainAt 13 = .ok (.iload_n 1, 1) := by decide +kernel
theorem dX1_gainAt_14 : decode cX1_gainAt 14 = .ok (.iaload, 1) := by decide +kernel
theorem dX1_gainAt_15 : decode cX1_gainAt 15 = .ok (.aload_n 0, 1) := by decide +kernel
theorem dX1_gainAt_16 : decode cX1_gainAt 16 = .ok (.getfield 15, 3) := by decide +kernel
theorem dX1_gainAt_19 : decode cX1_gainAt 19 = .ok (.iload_n 1, 1) := by decide +kernel
theorem dX1_gainAt_20 : decode cX1_gainAt 20 = .ok (.iaload, 1) := by decide +kernel
theorem dX1_gainAt_21 : decode cX1_gainAt 21 = .ok (.iload_n 2, 1) := by decide +kernel
theorem dX1_gainAt_22 : decode cX1_gainAt 22 = .ok (.imul, 1) := by decide +kernel
theorem dX1_gainAt_23 : decode cX1_gainAt 23 = .ok (.iadd, 1) := by decide +kernel
theorem dX1_gainAt_24 : decode cX1_gainAt 24 = .ok (.goto 4, 3) := by decide +kernel
theorem dX1_gainAt_27 : decode cX1_gainAt 27 = .ok (.iconst 0, 1) := by decide +kernel
theorem dX1_gainAt_28 : decode cX1_gainAt 28 = .ok (.ireturn, 1) := by decide +kernel
theorem dX1_takeOver_0 : decode cX1_takeOver 0 = .ok (.aload_n 1, 1) := by decide +kernel
theorem dX1_takeOver_1 : decode cX1_takeOver 1 = .ok (.getfield 9, 3) := by decide +kernel
theorem dX1_takeOver_4 : decode cX1_takeOver 4 = .ok (.aload_n 0, 1) := by decide +kernel
theorem dX1_takeOver_5 : decode cX1_takeOver 5 = .ok (.getfield 9, 3) := by decide +kernel
theorem dX1_takeOver_8 : decode cX1_takeOver 8 = .ok (.invokestatic 25, 3) := by decide +kernel
theorem dX1_takeOver_11 : decode cX1_takeOver 11 = .ok (.aload_n 1, 1) := by decide +kernel
theorem dX1_takeOver_12 : decode cX1_takeOver 12 = .ok (.getfield 15, 3) := by decide +kernel
theorem dX1_takeOver_15 : decode cX1_takeOver 15 = .ok (.aload_n 0, 1) := by decide +kernel
theorem dX1_takeOver_16 : decode cX1_takeOver 16 = .ok (.getfield 15, 3) := by decide +kernel
theorem dX1_takeOver_19 : decode cX1_takeOver 19 = .ok (.invokestatic 25, 3) := by decide +kernel
theorem dX1_takeOver_22 : decode cX1_takeOver 22 = .ok (.aload_n 1, 1) := by decide +kernel
theorem dX1_takeOver_23 : decode cX1_takeOver 23 = .ok (.getfield 18, 3) := by decide +kernel
theorem dX1_takeOver_26 : decode cX1_takeOver 26 = .ok (.aload_n 0, 1) := by decide +kernel
theorem dX1_takeOver_27 : decode cX1_takeOver 27 = .ok (.getfield 18, 3) := by decide +kernel
theorem dX1_takeOver_30 : decode cX1_takeOver 30 = .ok (.invokestatic 25, 3) := by decide +kernel
theorem dX1_takeOver_33 : decode cX1_takeOver 33 = .ok (.return_, 1) := by decide +kernel
theorem dX2_init_0 : decode cX2_init 0 = .ok (.aload_n 0, 1) := by decide +kernel
theorem dX2_init_1 : decode cX2_init 1 = .ok (.invokespecial 3, 3) := by decide +kernel
theorem dX2_init_4 : decode cX2_init 4 = .ok (.aload_n 0, 1) := by decide +kernel
theorem dX2_init_5 : decode cX2_init 5 = .ok (.bipush 6, 2) := by decide +kernel
theorem dX2_init_7 : decode cX2_init 7 = .ok (.anewarray 9, 3) := by decide +kernel
theorem dX2_init_10 : decode cX2_init 10 = .ok (.putfield 11, 3) := by decide +kernel
theorem dX2_init_13 : decode cX2_init 13 = .ok (.aload_n 0, 1) := by decide +kernel
theorem dX2_init_14 : decode cX2_init 14 = .ok (.iconst 0, 1) := by decide +kernel
theorem dX2_init_15 : decode cX2_init 15 = .ok (.putfield 17, 3) := by decide +kernel
theorem dX2_init_18 : decode cX2_init 18 = .ok (.aload_n 0, 1) := by decide +kernel
theorem dX2_init_19 : decode cX2_init 19 = .ok (.iconst 0, 1) := by decide +kernel
theorem dX2_init_20 : decode cX2_init 20 = .ok (.putfield 21, 3) := by decide +kernel
theorem dX2_init_23 : decode cX2_init 23 = .ok (.iconst 0, 1) := by decide +kernel
theorem dX2_init_24 : decode cX2_init 24 = .ok (.istore_n 1, 1) := by decide +kernel
theorem dX2_init_25 : decode cX2_init 25 = .ok (.iload_n 1, 1) := by decide +kernel
theorem dX2_init_26 : decode cX2_init 26 = .ok (.bipush 6, 2) := by decide +kernel
theorem dX2_init_28 : decode cX2_init 28 = .ok (.if_icmp .ge 22, 3) := by decide +kernel
theorem dX2_init_31 : decode cX2_init 31 = .ok (.aload_n 0, 1) := by decide +kernel
theorem dX2_init_32 : decode cX2_init 32 = .ok (.getfield 11, 3) := by decide +kernel
theorem dX2_init_35 : decode cX2_init 35 = .ok (.iload_n 1, 1) := by decide +kernel
theorem dX2_init_36 : decode cX2_init 36 = .ok (.new 9, 3) := by decide +kernel
theorem dX2_init_39 : decode cX2_init 39 = .ok (.dup, 1) := by decide +kernel
theorem dX2_init_40 : decode cX2_init 40 = .ok (.invokespecial 24, 3) := by decide +kernel
theorem dX2_init_43 : decode cX2_init 43 = .ok (.aastore, 1) := by decide +kernel
theorem dX2_init_44 : decode cX2_init 44 = .ok (.iinc 1 1, 3) := by decide +kernel
theorem dX2_init_47 : decode cX2_init 47 = .ok (.goto (-22), 3) := by decide +kernel
theorem dX2_init_50 : decode cX2_init 50 = .ok (.return_, 1) := by decide +kernel
theorem dX2_remember_0 : decode cX2_remember 0 = .ok (.aload_n 0, 1) := by decide +kernel
theorem dX2_remember_1 : decode cX2_remember 1 = .ok (.aload_n 0, 1) := by decide +kernel
theorem dX2_remember_2 : decode cX2_remember 2 = .ok (.getfield 17, 3) := by decide +kernel
theorem dX2_remember_5 : decode cX2_remember 5 = .ok (.invokevirtual 25, 3) := by decide +kernel
theorem dX2_remember_8 : decode cX2_remember 8 = .ok (.astore_n 2, 1) := by decide +kernel
theorem dX2_remember_9 : decode cX2_remember 9 = .ok (.aload_n 2, 1) := by decide +kernel
theorem dX2_remember_10 : decode cX2_remember 10 = .ok (.ifnull 36, 3) := by decide +kernel
theorem dX2_remember_13 : decode cX2_remember 13 = .ok (.aload_n 2, 1) := by decide +kernel
theorem dX2_remember_14 : decode cX2_remember 14 = .ok (.aload_n 1, 1) := by decide +kernel
theorem dX2_remember_15 : decode cX2_remember 15 = .ok (.invokevirtual 29, 3) := by decide +kernel
theorem dX2_remember_18 : decode cX2_remember 18 = .ok (.aload_n 0, 1) := by decide +kernel
theorem dX2_remember_19 : decode cX2_remember 19 = .ok (.aload_n 0, 1) := by decide +kernel
theorem dX2_remember_20 : decode cX2_remember 20 = .ok (.getfield 17, 3) := by decide +kernel
theorem dX2_remember_23 : decode cX2_remember 23 = .ok (.iconst 1, 1) := by decide +kernel
theorem dX2_remember_24 : decode cX2_remember 24 = .ok (.iadd, 1) := by decide +kernel
theorem dX2_remember_25 : decode cX2_remember 25 = .ok (.bipush 6, 2) := by decide +kernel
theorem dX2_remember_27 : decode cX2_remember 27 = .ok (.irem, 1) := by decide +kernel
theorem dX2_remember_28 : decode cX2_remember 28 = .ok (.putfield 17, 3) := by decide +kernel
theorem dX2_remember_31 : decode cX2_remember 31 = .ok (.aload_n 0, 1) := by decide +kernel
theorem dX2_remember_32 : decode cX2_remember 32 = .ok (.aload_n 0, 1) := by decide +kernel
theorem dX2_remember_33 : decode cX2_remember 33 = .ok (.getfield 21, 3) := by decide +kernel
theorem dX2_remember_36 : decode cX2_remember 36 = .ok (.iconst 1, 1) := by decide +kernel
theorem dX2_remember_37 : decode cX2_remember 37 = .ok (.iadd, 1) := by decide +kernel
theorem dX2_remember_38 : decode cX2_remember 38 = .ok (.bipush 6, 2) := by decide +kernel
theorem dX2_remember_40 : decode cX2_remember 40 = .ok (.invokestatic 33, 3) := by decide +kernel
theorem dX2_remember_43 : decode cX2_remember 43 = .ok (.putfield 21, 3) := by decide +kernel
theorem dX2_remember_46 : decode cX2_remember 46 = .ok (.return_, 1) := by decide +kernel
theorem dX2_takeBack_0 : decode cX2_takeBack 0 = .ok (.aload_n 0, 1) := by decide +kernel
theorem dX2_takeBack_1 : decode cX2_takeBack 1 = .ok (.getfield 17, 3) := by decide +kernel
theorem dX2_takeBack_4 : decode cX2_takeBack 4 = .ok (.bipush 6, 2) := by decide +kernel
theorem dX2_takeBack_6 : decode cX2_takeBack 6 = .ok (.iadd, 1) := by decide +kernel
theorem dX2_takeBack_7 : decode cX2_takeBack 7 = .ok (.iconst 1, 1) := by decide +kernel
theorem dX2_takeBack_8 : decode cX2_takeBack 8 = .ok (.isub, 1) := by decide +kernel
theorem dX2_takeBack_9 : decode cX2_takeBack 9 = .ok (.bipush 6, 2) := by decide +kernel
theorem dX2_takeBack_11 : decode cX2_takeBack 11 = .ok (.irem, 1) := by decide +kernel
theorem dX2_takeBack_12 : decode cX2_takeBack 12 = .ok (.istore_n 2, 1) := by decide +kernel
theorem dX2_takeBack_13 : decode cX2_takeBack 13 = .ok (.aload_n 0, 1) := by decide +kernel
theorem dX2_takeBack_14 : decode cX2_takeBack 14 = .ok (.iload_n 2, 1) := by decide +kernel
theorem dX2_takeBack_15 : decode cX2_takeBack 15 = .ok (.invokevirtual 25, 3) := by decide +kernel
theorem dX2_takeBack_18 : decode cX2_takeBack 18 = .ok (.astore_n 3, 1) := by decide +kernel
theorem dX2_takeBack_19 : decode cX2_takeBack 19 = .ok (.aload_n 0, 1) := by decide +kernel
theorem dX2_takeBack_20 : decode cX2_takeBack 20 = .ok (.getfield 21, 3) := by decide +kernel
theorem dX2_takeBack_23 : decode cX2_takeBack 23 = .ok (.ifCond .le 27, 3) := by decide +kernel
theorem dX2_takeBack_26 : decode cX2_takeBack 26 = .ok (.aload_n 3, 1) := by decide +kernel
theorem dX2_takeBack_27 : decode cX2_takeBack 27 = .ok (.ifnull 23, 3) := by decide +kernel
theorem dX2_takeBack_30 : decode cX2_takeBack 30 = .ok (.aload_n 1, 1) := by decide +kernel
theorem dX2_takeBack_31 : decode cX2_takeBack 31 = .ok (.aload_n 3, 1) := by decide +kernel
theorem dX2_takeBack_32 : decode cX2_takeBack 32 = .ok (.invokevirtual 29, 3) := by decide +kernel
theorem dX2_takeBack_35 : decode cX2_takeBack 35 = .ok (.aload_n 0, 1) := by decide +kernel
theorem dX2_takeBack_36 : decode cX2_takeBack 36 = .ok (.iload_n 2, 1) := by decide +kernel
theorem dX2_takeBack_37 : decode cX2_takeBack 37 = .ok (.putfield 17, 3) := by decide +kernel
theorem dX2_takeBack_40 : decode cX2_takeBack 40 = .ok (.aload_n 0, 1) := by decide +kernel
theorem dX2_takeBack_41 : decode cX2_takeBack 41 = .ok (.dup, 1) := by decide +kernel
theorem dX2_takeBack_42 : decode cX2_takeBack 42 = .ok (.getfield 21, 3) := by decide +kernel
theorem dX2_takeBack_45 : decode cX2_takeBack 45 = .ok (.iconst 1, 1) := by decide +kernel
theorem dX2_takeBack_46 : decode cX2_takeBack 46 = .ok (.isub, 1) := by decide +kernel
theorem dX2_takeBack_47 : decode cX2_takeBack 47 = .ok (.putfield 21, 3) := by decide +kernel
theorem dX2_takeBack_50 : decode cX2_takeBack 50 = .ok (.return_, 1) := by decide +kernel
theorem dX2_setupAt_0 : decode cX2_setupAt 0 = .ok (.iload_n 1, 1) := by decide +kernel
theorem dX2_setupAt_1 : decode cX2_setupAt 1 = .ok (.iconst 0, 1) := by decide +kernel
theorem dX2_setupAt_2 : decode cX2_setupAt 2 = .ok (.iconst 5, 1) := by decide +kernel
theorem dX2_setupAt_3 : decode cX2_setupAt 3 = .ok (.invokestatic 39, 3) := by decide +kernel
theorem dX2_setupAt_6 : decode cX2_setupAt 6 = .ok (.ifCond .eq 12, 3) := by decide +kernel
theorem dX2_setupAt_9 : decode cX2_setupAt 9 = .ok (.aload_n 0, 1) := by decide +kernel
theorem dX2_setupAt_10 : decode cX2_setupAt 10 = .ok (.getfield 11, 3) := by decide +kernel
theorem dX2_setupAt_13 : decode cX2_setupAt 13 = .ok (.iload_n 1, 1) := by decide +kernel
theorem dX2_setupAt_14 : decode cX2_setupAt 14 = .ok (.aaload, 1) := by decide +kernel
theorem dX2_setupAt_15 : decode cX2_setupAt 15 = .ok (.goto 4, 3) := by decide +kernel
theorem dX2_setupAt_18 : decode cX2_setupAt 18 = .ok (.aconst_null, 1) := by decide +kernel
theorem dX2_setupAt_19 : decode cX2_setupAt 19 = .ok (.areturn, 1) := by decide +kernel
theorem dX3_init_0 : decode cX3_init 0 = .ok (.aload_n 0, 1) := by decide +kernel
theorem dX3_init_1 : decode cX3_init 1 = .ok (.invokespecial 1, 3) := by decide +kernel
theorem dX3_init_4 : decode cX3_init 4 = .ok (.aload_n 0, 1) := by decide +kernel
theorem dX3_init_5 : decode cX3_init 5 = .ok (.getstatic 7, 3) := by decide +kernel
theorem dX3_init_8 : decode cX3_init 8 = .ok (.invokevirtual 13, 3) := by decide +kernel
theorem dX3_init_11 : decode cX3_init 11 = .ok (.checkcast 14, 3) := by decide +kernel
theorem dX3_init_14 : decode cX3_init 14 = .ok (.putfield 18, 3) := by decide +kernel
theorem dX3_init_17 : decode cX3_init 17 = .ok (.aload_n 0, 1) := by decide +kernel
theorem dX3_init_18 : decode cX3_init 18 = .ok (.iconst 5, 1) := by decide +kernel
theorem dX3_init_19 : decode cX3_init 19 = .ok (.newarray .int, 2) := by decide +kernel
theorem dX3_init_21 : decode cX3_init 21 = .ok (.dup, 1) := by decide +kernel
theorem dX3_init_22 : decode cX3_init 22 = .ok (.iconst 0, 1) := by decide +kernel
theorem dX3_init_23 : decode cX3_init 23 = .ok (.iconst 1, 1) := by decide +kernel
theorem dX3_init_24 : decode cX3_init 24 = .ok (.iastore, 1) := by decide +kernel
theorem dX3_init_25 : decode cX3_init 25 = .ok (.dup, 1) := by decide +kernel
theorem dX3_init_26 : decode cX3_init 26 = .ok (.iconst 1, 1) := by decide +kernel
theorem dX3_init_27 : decode cX3_init 27 = .ok (.iconst 1, 1) := by decide +kernel
theorem dX3_init_28 : decode cX3_init 28 = .ok (.iastore, 1) := by decide +kernel
theorem dX3_init_29 : decode cX3_init 29 = .ok (.dup, 1) := by decide +kernel
theorem dX3_init_30 : decode cX3_init 30 = .ok (.iconst 2, 1) := by decide +kernel
theorem dX3_init_31 : decode cX3_init 31 = .ok (.iconst 0, 1) := by decide +kernel
theorem dX3_init_32 : decode cX3_init 32 = .ok (.iastore, 1) := by decide +kernel
theorem dX3_init_33 : decode cX3_init 33 = .ok (.dup, 1) := by decide +kernel
theorem dX3_init_34 : decode cX3_init 34 = .ok (.iconst 3, 1) := by decide +kernel
theorem dX3_init_35 : decode cX3_init 35 = .ok (.iconst 0, 1) := by decide +kernel
theorem dX3_init_36 : decode cX3_init 36 = .ok (.iastore, 1) := by decide +kernel
theorem dX3_init_37 : decode cX3_init 37 = .ok (.dup, 1) := by decide +kernel
theorem dX3_init_38 : decode cX3_init 38 = .ok (.iconst 4, 1) := by decide +kernel
theorem dX3_init_39 : decode cX3_init 39 = .ok (.iconst 0, 1) := by decide +kernel
theorem dX3_init_40 : decode cX3_init 40 = .ok (.iastore, 1) := by decide +kernel
theorem dX3_init_41 : decode cX3_init 41 = .ok (.putfield 23, 3) := by decide +kernel
theorem dX3_init_44 : decode cX3_init 44 = .ok (.aload_n 0, 1) := by decide +kernel
theorem dX3_init_45 : decode cX3_init 45 = .ok (.new 26, 3) := by decide +kernel
theorem dX3_init_48 : decode cX3_init 48 = .ok (.dup, 1) := by decide +kernel
theorem dX3_init_49 : decode cX3_init 49 = .ok (.invokespecial 28, 3) := by decide +kernel
theorem dX3_init_52 : decode cX3_init 52 = .ok (.putfield 29, 3) := by decide +kernel
theorem dX3_init_55 : decode cX3_init 55 = .ok (.aload_n 0, 1) := by decide +kernel
theorem dX3_init_56 : decode cX3_init 56 = .ok (.new 33, 3) := by decide +kernel
theorem dX3_init_59 : decode cX3_init 59 = .ok (.dup, 1) := by decide +kernel
theorem dX3_init_60 : decode cX3_init 60 = .ok (.invokespecial 35, 3) := by decide +kernel
theorem dX3_init_63 : decode cX3_init 63 = .ok (.putfield 36, 3) := by decide +kernel
theorem dX3_init_66 : decode cX3_init 66 = .ok (.aload_n 0, 1) := by decide +kernel
theorem dX3_init_67 : decode cX3_init 67 = .ok (.new 40, 3) := by decide +kernel
theorem dX3_init_70 : decode cX3_init 70 = .ok (.dup, 1) := by decide +kernel
theorem dX3_init_71 : decode cX3_init 71 = .ok (.invokespecial 42, 3) := by decide +kernel
theorem dX3_init_74 : decode cX3_init 74 = .ok (.putfield 43, 3) := by decide +kernel
theorem dX3_init_77 : decode cX3_init 77 = .ok (.return_, 1) := by decide +kernel
theorem dX3_takeOver_0 : decode cX3_takeOver 0 = .ok (.aload_n 1, 1) := by decide +kernel
theorem dX3_takeOver_1 : decode cX3_takeOver 1 = .ok (.getfield 18, 3) := by decide +kernel
theorem dX3_takeOver_4 : decode cX3_takeOver 4 = .ok (.aload_n 0, 1) := by decide +kernel
theorem dX3_takeOver_5 : decode cX3_takeOver 5 = .ok (.getfield 18, 3) := by decide +kernel
theorem dX3_takeOver_8 : decode cX3_takeOver 8 = .ok (.invokestatic 47, 3) := by decide +kernel
theorem dX3_takeOver_11 : decode cX3_takeOver 11 = .ok (.aload_n 1, 1) := by decide +kernel
theorem dX3_takeOver_12 : decode cX3_takeOver 12 = .ok (.getfield 23, 3) := by decide +kernel
theorem dX3_takeOver_15 : decode cX3_takeOver 15 = .ok (.aload_n 0, 1) := by decide +kernel
theorem dX3_takeOver_16 : decode cX3_takeOver 16 = .ok (.getfield 23, 3) := by decide +kernel
theorem dX3_takeOver_19 : decode cX3_takeOver 19 = .ok (.invokestatic 47, 3) := by decide +kernel
theorem dX3_takeOver_22 : decode cX3_takeOver 22 = .ok (.aload_n 0, 1) := by decide +kernel
theorem dX3_takeOver_23 : decode cX3_takeOver 23 = .ok (.getfield 29, 3) := by decide +kernel
theorem dX3_takeOver_26 : decode cX3_takeOver 26 = .ok (.aload_n 1, 1) := by decide +kernel
theorem dX3_takeOver_27 : decode cX3_takeOver 27 = .ok (.getfield 29, 3) := by decide +kernel
theorem dX3_takeOver_30 : decode cX3_takeOver 30 = .ok (.invokevirtual 51, 3) := by decide +kernel
theorem dX3_takeOver_33 : decode cX3_takeOver 33 = .ok (.aload_n 0, 1) := by decide +kernel
theorem dX3_takeOver_34 : decode cX3_takeOver 34 = .ok (.getfield 36, 3) := by decide +kernel
theorem dX3_takeOver_37 : decode cX3_takeOver 37 = .ok (.aload_n 1, 1) := by decide +kernel
theorem dX3_takeOver_38 : decode cX3_takeOver 38 = .ok (.getfield 36, 3) := by decide +kernel
theorem dX3_takeOver_41 : decode cX3_takeOver 41 = .ok (.invokevirtual 55, 3) := by decide +kernel
theorem dX3_takeOver_44 : decode cX3_takeOver 44 = .ok (.aload_n 0, 1) := by decide +kernel
theorem dX3_takeOver_45 : decode cX3_takeOver 45 = .ok (.getfield 43, 3) := by decide +kernel
theorem dX3_takeOver_48 : decode cX3_takeOver 48 = .ok (.aload_n 1, 1) := by decide +kernel
theorem dX3_takeOver_49 : decode cX3_takeOver 49 = .ok (.getfield 43, 3) := by decide +kernel
theorem dX3_takeOver_52 : decode cX3_takeOver 52 = .ok (.invokevirtual 58, 3) := by decide +kernel
theorem dX3_takeOver_55 : decode cX3_takeOver 55 = .ok (.return_, 1) := by decide +kernel
theorem dX4_init_0 : decode cX4_init 0 = .ok (.aload_n 0, 1) := by decide +kernel
theorem dX4_init_1 : decode cX4_init 1 = .ok (.invokespecial 3, 3) := by decide +kernel
theorem dX4_init_4 : decode cX4_init 4 = .ok (.aload_n 0, 1) := by decide +kernel
theorem dX4_init_5 : decode cX4_init 5 = .ok (.getstatic 9, 3) := by decide +kernel
theorem dX4_init_8 : decode cX4_init 8 = .ok (.invokevirtual 13, 3) := by decide +kernel
theorem dX4_init_11 : decode cX4_init 11 = .ok (.checkcast 14, 3) := by decide +kernel
theorem dX4_init_14 : decode cX4_init 14 = .ok (.putfield 18, 3) := by decide +kernel
theorem dX4_init_17 : decode cX4_init 17 = .ok (.aload_n 0, 1) := by decide +kernel
theorem dX4_init_18 : decode cX4_init 18 = .ok (.new 23, 3) := by decide +kernel
theorem dX4_init_21 : decode cX4_init 21 = .ok (.dup, 1) := by decide +kernel
theorem dX4_init_22 : decode cX4_init 22 = .ok (.invokespecial 25, 3) := by decide +kernel
theorem dX4_init_25 : decode cX4_init 25 = .ok (.putfield 26, 3) := by decide +kernel
theorem dX4_init_28 : decode cX4_init 28 = .ok (.aload_n 0, 1) := by decide +kernel
theorem dX4_init_29 : decode cX4_init 29 = .ok (.sipush 200, 3) := by decide +kernel
theorem dX4_init_32 : decode cX4_init 32 = .ok (.newarray .int, 2) := by decide +kernel
theorem dX4_init_34 : decode cX4_init 34 = .ok (.putfield 30, 3) := by decide +kernel
theorem dX4_init_37 : decode cX4_init 37 = .ok (.aload_n 0, 1) := by decide +kernel
theorem dX4_init_38 : decode cX4_init 38 = .ok (.sipush 200, 3) := by decide +kernel
theorem dX4_init_41 : decode cX4_init 41 = .ok (.newarray .int, 2) := by decide +kernel
theorem dX4_init_43 : decode cX4_init 43 = .ok (.putfield 33, 3) := by decide +kernel
theorem dX4_init_46 : decode cX4_init 46 = .ok (.aload_n 0, 1) := by decide +kernel
theorem dX4_init_47 : decode cX4_init 47 = .ok (.sipush 200, 3) := by decide +kernel
theorem dX4_init_50 : decode cX4_init 50 = .ok (.newarray .int, 2) := by decide +kernel
theorem dX4_init_52 : decode cX4_init 52 = .ok (.putfield 36, 3) := by decide +kernel
theorem dX4_init_55 : decode cX4_init 55 = .ok (.aload_n 0, 1) := by decide +kernel
theorem dX4_init_56 : decode cX4_init 56 = .ok (.iconst 0, 1) := by decide +kernel
theorem dX4_init_57 : decode cX4_init 57 = .ok (.putfield 39, 3) := by decide +kernel
theorem dX4_init_60 : decode cX4_init 60 = .ok (.aload_n 0, 1) := by decide +kernel
theorem dX4_init_61 : decode cX4_init 61 = .ok (.iconst 0, 1) := by decide +kernel
theorem dX4_init_62 : decode cX4_init 62 = .ok (.putfield 43, 3) := by decide +kernel
theorem dX4_init_65 : decode cX4_init 65 = .ok (.aload_n 0, 1) := by decide +kernel
theorem dX4_init_66 : decode cX4_init 66 = .ok (.iconst 0, 1) := by decide +kernel
theorem dX4_init_67 : decode cX4_init 67 = .ok (.putfield 46, 3) := by decide +kernel
theorem dX4_init_70 : decode cX4_init 70 = .ok (.aload_n 0, 1) := by decide +kernel
theorem dX4_init_71 : decode cX4_init 71 = .ok (.iconst 0, 1) := by decide +kernel
theorem dX4_init_72 : decode cX4_init 72 = .ok (.putfield 49, 3) := by decide +kernel
theorem dX4_init_75 : decode cX4_init 75 = .ok (.aload_n 0, 1) := by decide +kernel
theorem dX4_init_76 : decode cX4_init 76 = .ok (.iconst 0, 1) := by decide +kernel
theorem dX4_init_77 : decode cX4_init 77 = .ok (.putfield 52, 3) := by decide +kernel
theorem dX4_init_80 : decode cX4_init 80 = .ok (.aload_n 0, 1) := by decide +kernel
theorem dX4_init_81 : decode cX4_init 81 = .ok (.iconst 0, 1) := by decide +kernel
theorem dX4_init_82 : decode cX4_init 82 = .ok (.putfield 55, 3) := by decide +kernel
theorem dX4_init_85 : decode cX4_init 85 = .ok (.return_, 1) := by decide +kernel
theorem dX4_prepare_0 : decode cX4_prepare 0 = .ok (.aload_n 1, 1) := by decide +kernel
theorem dX4_prepare_1 : decode cX4_prepare 1 = .ok (.getfield 59, 3) := by decide +kernel
theorem dX4_prepare_4 : decode cX4_prepare 4 = .ok (.aload_n 0, 1) := by decide +kernel
theorem dX4_prepare_5 : decode cX4_prepare 5 = .ok (.getfield 18, 3) := by decide +kernel
theorem dX4_prepare_8 : decode cX4_prepare 8 = .ok (.invokestatic 62, 3) := by decide +kernel
theorem dX4_prepare_11 : decode cX4_prepare 11 = .ok (.aload_n 0, 1) := by decide +kernel
theorem dX4_prepare_12 : decode cX4_prepare 12 = .ok (.getfield 26, 3) := by decide +kernel
theorem dX4_prepare_15 : decode cX4_prepare 15 = .ok (.aload_n 1, 1) := by decide +kernel
theorem dX4_prepare_16 : decode cX4_prepare 16 = .ok (.getfield 66, 3) := by decide +kernel
theorem dX4_prepare_19 : decode cX4_prepare 19 = .ok (.invokevirtual 67, 3) := by decide +kernel
theorem dX4_prepare_22 : decode cX4_prepare 22 = .ok (.iconst 0, 1) := by decide +kernel
theorem dX4_prepare_23 : decode cX4_prepare 23 = .ok (.istore_n 2, 1) := by decide +kernel
theorem dX4_prepare_24 : decode cX4_prepare 24 = .ok (.iload_n 2, 1) := by decide +kernel
theorem dX4_prepare_25 : decode cX4_prepare 25 = .ok (.aload_n 0, 1) := by decide +kernel
theorem dX4_prepare_26 : decode cX4_prepare 26 = .ok (.getfield 18, 3) := by decide +kernel
theorem dX4_prepare_29 : decode cX4_prepare 29 = .ok (.bipush 13, 2) := by decide +kernel
theorem dX4_prepare_31 : decode cX4_prepare 31 = .ok (.iaload, 1) := by decide +kernel
theorem dX4_prepare_32 : decode cX4_prepare 32 = .ok (.if_icmp .ge 44, 3) := by decide +kernel
theorem dX4_prepare_35 : decode cX4_prepare 35 = .ok (.iload_n 2, 1) := by decide +kernel
theorem dX4_prepare_36 : decode cX4_prepare 36 = .ok (.sipush 200, 3) := by decide +kernel
theorem dX4_prepare_39 : decode cX4_prepare 39 = .ok (.if_icmp .ge 37, 3) := by decide +kernel
theorem dX4_prepare_42 : decode cX4_prepare 42 = .ok (.aload_n 0, 1) := by decide +kernel
theorem dX4_prepare_43 : decode cX4_prepare 43 = .ok (.getfield 30, 3) := by decide +kernel
theorem dX4_prepare_46 : decode cX4_prepare 46 = .ok (.iload_n 2, 1) := by decide +kernel
theorem dX4_prepare_47 : decode cX4_prepare 47 = .ok (.aload_n 1, 1) := by decide +kernel
theorem dX4_prepare_48 : decode cX4_prepare 48 = .ok (.getfield 71, 3) := by decide +kernel
theorem dX4_prepare_51 : decode cX4_prepare 51 = .ok (.iload_n 2, 1) := by decide +kernel
theorem dX4_prepare_52 : decode cX4_prepare 52 = .ok (.invokevirtual 75, 3) := by decide +kernel
theorem dX4_prepare_55 : decode cX4_prepare 55 = .ok (.iastore, 1) := by decide +kernel
theorem dX4_prepare_56 : decode cX4_prepare 56 = .ok (.aload_n 0, 1) := by decide +kernel
theorem dX4_prepare_57 : decode cX4_prepare 57 = .ok (.getfield 33, 3) := by decide +kernel
theorem dX4_prepare_60 : decode cX4_prepare 60 = .ok (.iload_n 2, 1) := by decide +kernel
theorem dX4_prepare_61 : decode cX4_prepare 61 = .ok (.aload_n 1, 1) := by decide +kernel
theorem dX4_prepare_62 : decode cX4_prepare 62 = .ok (.getfield 71, 3) := by decide +kernel
theorem dX4_prepare_65 : decode cX4_prepare 65 = .ok (.iload_n 2, 1) := by decide +kernel
theorem dX4_prepare_66 : decode cX4_prepare 66 = .ok (.invokevirtual 81, 3) := by decide +kernel
theorem dX4_prepare_69 : decode cX4_prepare 69 = .ok (.iastore, 1) := by decide +kernel
theorem dX4_prepare_70 : decode cX4_prepare 70 = .ok (.iinc 2 1, 3) := by decide +kernel
theorem dX4_prepare_73 : decode cX4_prepare 73 = .ok (.goto (-49), 3) := by decide +kernel
theorem dX4_prepare_76 : decode cX4_prepare 76 = .ok (.return_, 1) := by decide +kernel
theorem dX4_makeRun_0 : decode cX4_makeRun 0 = .ok (.aload_n 0, 1) := by decide +kernel
theorem dX4_makeRun_1 : decode cX4_makeRun 1 = .ok (.invokevirtual 84, 3) := by decide +kernel
theorem dX4_makeRun_4 : decode cX4_makeRun 4 = .ok (.aload_n 1, 1) := by decide +kernel
theorem dX4_makeRun_5 : decode cX4_makeRun 5 = .ok (.aload_n 0, 1) := by decide +kernel
theorem dX4_makeRun_6 : decode cX4_makeRun 6 = .ok (.getfield 18, 3) := by decide +kernel
theorem dX4_makeRun_9 : decode cX4_makeRun 9 = .ok (.bipush 13, 2) := by decide +kernel
theorem dX4_makeRun_11 : decode cX4_makeRun 11 = .ok (.iaload, 1) := by decide +kernel
theorem dX4_makeRun_12 : decode cX4_makeRun 12 = .ok (.sipush 200, 3) := by decide +kernel
theorem dX4_makeRun_15 : decode cX4_makeRun 15 = .ok (.invokestatic 87, 3) := by decide +kernel
theorem dX4_makeRun_18 : decode cX4_makeRun 18 = .ok (.putfield 93, 3) := by decide +kernel
theorem dX4_makeRun_21 : decode cX4_makeRun 21 = .ok (.iconst 0, 1) := by decide +kernel
theorem dX4_makeRun_22 : decode cX4_makeRun 22 = .ok (.istore_n 2, 1) := by decide +kernel
theorem dX4_makeRun_23 : decode cX4_makeRun 23 = .ok (.iload_n 2, 1) := by decide +kernel
theorem dX4_makeRun_24 : decode cX4_makeRun 24 = .ok (.aload_n 1, 1) := by decide +kernel
theorem dX4_makeRun_25 : decode cX4_makeRun 25 = .ok (.getfield 93, 3) := by decide +kernel
theorem dX4_makeRun_28 : decode cX4_makeRun 28 = .ok (.if_icmp .ge 147, 3) := by decide +kernel
theorem dX4_makeRun_31 : decode cX4_makeRun 31 = .ok (.iload_n 2, 1) := by decide +kernel
theorem dX4_makeRun_32 : decode cX4_makeRun 32 = .ok (.sipush 200, 3) := by decide +kernel
theorem dX4_makeRun_35 : decode cX4_makeRun 35 = .ok (.if_icmp .ge 140, 3) := by decide +kernel
theorem dX4_makeRun_38 : decode cX4_makeRun 38 = .ok (.aload_n 1, 1) := by decide +kernel
theorem dX4_makeRun_39 : decode cX4_makeRun 39 = .ok (.getfield 98, 3) := by decide +kernel
theorem dX4_makeRun_42 : decode cX4_makeRun 42 = .ok (.iload_n 2, 1) := by decide +kernel
theorem dX4_makeRun_43 : decode cX4_makeRun 43 = .ok (.aload_n 0, 1) := by decide +kernel
theorem dX4_makeRun_44 : decode cX4_makeRun 44 = .ok (.getfield 39, 3) := by decide +kernel
theorem dX4_makeRun_47 : decode cX4_makeRun 47 = .ok (.iastore, 1) := by decide +kernel
theorem dX4_makeRun_48 : decode cX4_makeRun 48 = .ok (.aload_n 0, 1) := by decide +kernel
theorem dX4_makeRun_49 : decode cX4_makeRun 49 = .ok (.getfield 36, 3) := by decide +kernel
theorem dX4_makeRun_52 : decode cX4_makeRun 52 = .ok (.iload_n 2, 1) := by decide +kernel
theorem dX4_makeRun_53 : decode cX4_makeRun 53 = .ok (.aload_n 0, 1) := by decide +kernel
theorem dX4_makeRun_54 : decode cX4_makeRun 54 = .ok (.invokevirtual 101, 3) := by decide +kernel
theorem dX4_makeRun_57 : decode cX4_makeRun 57 = .ok (.iastore, 1) := by decide +kernel
theorem dX4_makeRun_58 : decode cX4_makeRun 58 = .ok (.aload_n 1, 1) := by decide +kernel
theorem dX4_makeRun_59 : decode cX4_makeRun 59 = .ok (.getfield 105, 3) := by decide +kernel
theorem dX4_makeRun_62 : decode cX4_makeRun 62 = .ok (.iload_n 2, 1) := by decide +kernel
theorem dX4_makeRun_63 : decode cX4_makeRun 63 = .ok (.aload_n 0, 1) := by decide +kernel
theorem dX4_makeRun_64 : decode cX4_makeRun 64 = .ok (.getfield 36, 3) := by decide +kernel
theorem dX4_makeRun_67 : decode cX4_makeRun 67 = .ok (.aload_n 0, 1) := by decide +kernel
theorem dX4_makeRun_68 : decode cX4_makeRun 68 = .ok (.iload_n 2, 1) := by decide +kernel
theorem dX4_makeRun_69 : decode cX4_makeRun 69 = .ok (.invokevirtual 108, 3) := by decide +kernel
theorem dX4_makeRun_72 : decode cX4_makeRun 72 = .ok (.iaload, 1) := by decide +kernel
theorem dX4_makeRun_73 : decode cX4_makeRun 73 = .ok (.iastore, 1) := by decide +kernel
theorem dX4_makeRun_74 : decode cX4_makeRun 74 = .ok (.aload_n 0, 1) := by decide +kernel
theorem dX4_makeRun_75 : decode cX4_makeRun 75 = .ok (.aload_n 1, 1) := by decide +kernel
theorem dX4_makeRun_76 : decode cX4_makeRun 76 = .ok (.getfield 105, 3) := by decide +kernel
theorem dX4_makeRun_79 : decode cX4_makeRun 79 = .ok (.iload_n 2, 1) := by decide +kernel
theorem dX4_makeRun_80 : decode cX4_makeRun 80 = .ok (.iaload, 1) := by decide +kernel
theorem dX4_makeRun_81 : decode cX4_makeRun 81 = .ok (.aload_n 1, 1) := by decide +kernel
theorem dX4_makeRun_82 : decode cX4_makeRun 82 = .ok (.iload_n 2, 1) := by decide +kernel
theorem dX4_makeRun_83 : decode cX4_makeRun 83 = .ok (.invokevirtual 111, 3) := by decide +kernel
theorem dX4_makeRun_86 : decode cX4_makeRun 86 = .ok (.invokevirtual 114, 3) := by decide +kernel
theorem dX4_makeRun_89 : decode cX4_makeRun 89 = .ok (.aload_n 0, 1) := by decide +kernel
theorem dX4_makeRun_90 : decode cX4_makeRun 90 = .ok (.invokevirtual 118, 3) := by decide +kernel
theorem dX4_makeRun_93 : decode cX4_makeRun 93 = .ok (.aload_n 0, 1) := by decide +kernel
theorem dX4_makeRun_94 : decode cX4_makeRun 94 = .ok (.aload_n 0, 1) := by decide +kernel
theorem dX4_makeRun_95 : decode cX4_makeRun 95 = .ok (.getfield 30, 3) := by decide +kernel
theorem dX4_makeRun_98 : decode cX4_makeRun 98 = .ok (.iload_n 2, 1) := by decide +kernel
theorem dX4_makeRun_99 : decode cX4_makeRun 99 = .ok (.iaload, 1) := by decide +kernel
theorem dX4_makeRun_100 : decode cX4_makeRun 100 = .ok (.aload_n 0, 1) := by decide +kernel
theorem dX4_makeRun_101 : decode cX4_makeRun 101 = .ok (.getfield 33, 3) := by decide +kernel
theorem dX4_makeRun_104 : decode cX4_makeRun 104 = .ok (.iload_n 2, 1) := by decide +kernel
theorem dX4_makeRun_105 : decode cX4_makeRun 105 = .ok (.iaload, 1) := by decide +kernel
theorem dX4_makeRun_106 : decode cX4_makeRun 106 = .ok (.invokevirtual 121, 3) := by decide +kernel
theorem dX4_makeRun_109 : decode cX4_makeRun 109 = .ok (.aload_n 1, 1) := by decide +kernel
theorem dX4_makeRun_110 : decode cX4_makeRun 110 = .ok (.getfield 124, 3) := by decide +kernel
theorem dX4_makeRun_113 : decode cX4_makeRun 113 = .ok (.iload_n 2, 1) := by decide +kernel
theorem dX4_makeRun_114 : decode cX4_makeRun 114 = .ok (.aload_n 0, 1) := by decide +kernel
theorem dX4_makeRun_115 : decode cX4_makeRun 115 = .ok (.getfield 52, 3) := by decide +kernel
theorem dX4_makeRun_118 : decode cX4_makeRun 118 = .ok (.iastore, 1) := by decide +kernel
theorem dX4_makeRun_119 : decode cX4_makeRun 119 = .ok (.aload_n 1, 1) := by decide +kernel
theorem dX4_makeRun_120 : decode cX4_makeRun 120 = .ok (.getfield 127, 3) := by decide +kernel
theorem dX4_makeRun_123 : decode cX4_makeRun 123 = .ok (.iload_n 2, 1) := by decide +kernel
theorem dX4_makeRun_124 : decode cX4_makeRun 124 = .ok (.aload_n 0, 1) := by decide +kernel
theorem dX4_makeRun_125 : decode cX4_makeRun 125 = .ok (.getfield 46, 3) := by decide +kernel
theorem dX4_makeRun_128 : decode cX4_makeRun 128 = .ok (.iastore, 1) := by decide +kernel
theorem dX4_makeRun_129 : decode cX4_makeRun 129 = .ok (.aload_n 1, 1) := by decide +kernel
theorem dX4_makeRun_130 : decode cX4_makeRun 130 = .ok (.getfield 130, 3) := by decide +kernel
theorem dX4_makeRun_133 : decode cX4_makeRun 133 = .ok (.iload_n 2, 1) := by decide +kernel
theorem dX4_makeRun_134 : decode cX4_makeRun 134 = .ok (.aload_n 0, 1) := by decide +kernel
theorem dX4_makeRun_135 : decode cX4_makeRun 135 = .ok (.getfield 49, 3) := by decide +kernel
theorem dX4_makeRun_138 : decode cX4_makeRun 138 = .ok (.iastore, 1) := by decide +kernel
theorem dX4_makeRun_139 : decode cX4_makeRun 139 = .ok (.aload_n 1, 1) := by decide +kernel
theorem dX4_makeRun_140 : decode cX4_makeRun 140 = .ok (.getfield 133, 3) := by decide +kernel
theorem dX4_makeRun_143 : decode cX4_makeRun 143 = .ok (.iload_n 2, 1) := by decide +kernel
theorem dX4_makeRun_144 : decode cX4_makeRun 144 = .ok (.aload_n 0, 1) := by decide +kernel
theorem dX4_makeRun_145 : decode cX4_makeRun 145 = .ok (.getfield 55, 3) := by decide +kernel
theorem dX4_makeRun_148 : decode cX4_makeRun 148 = .ok (.ifCond .eq 7, 3) := by decide +kernel
theorem dX4_makeRun_151 : decode cX4_makeRun 151 = .ok (.iconst 1, 1) := by decide +kernel
theorem dX4_makeRun_152 : decode cX4_makeRun 152 = .ok (.goto 4, 3) := by decide +kernel
theorem dX4_makeRun_155 : decode cX4_makeRun 155 = .ok (.iconst 0, 1) := by decide +kernel
theorem dX4_makeRun_156 : decode cX4_makeRun 156 = .ok (.iastore, 1) := by decide +kernel
theorem dX4_makeRun_157 : decode cX4_makeRun 157 = .ok (.aload_n 1, 1) := by decide +kernel
theorem dX4_makeRun_158 : decode cX4_makeRun 158 = .ok (.getfield 98, 3) := by decide +kernel
theorem dX4_makeRun_161 : decode cX4_makeRun 161 = .ok (.iload_n 2, 1) := by decide +kernel
theorem dX4_makeRun_162 : decode cX4_makeRun 162 = .ok (.iconst 1, 1) := by decide +kernel
theorem dX4_makeRun_163 : decode cX4_makeRun 163 = .ok (.iadd, 1) := by decide +kernel
theorem dX4_makeRun_164 : decode cX4_makeRun 164 = .ok (.aload_n 0, 1) := by decide +kernel
theorem dX4_makeRun_165 : decode cX4_makeRun 165 = .ok (.getfield 39, 3) := by decide +kernel
theorem dX4_makeRun_168 : decode cX4_makeRun 168 = .ok (.iastore, 1) := by decide +kernel
theorem dX4_makeRun_169 : decode cX4_makeRun 169 = .ok (.iinc 2 1, 3) := by decide +kernel
theorem dX4_makeRun_172 : decode cX4_makeRun 172 = .ok (.goto (-149), 3) := by decide +kernel
theorem dX4_makeRun_175 : decode cX4_makeRun 175 = .ok (.return_, 1) := by decide +kernel
theorem dX4_begin_0 : decode cX4_begin 0 = .ok (.aload_n 0, 1) := by decide +kernel
theorem dX4_begin_1 : decode cX4_begin 1 = .ok (.aload_n 0, 1) := by decide +kernel
theorem dX4_begin_2 : decode cX4_begin 2 = .ok (.getfield 18, 3) := by decide +kernel
theorem dX4_begin_5 : decode cX4_begin 5 = .ok (.bipush 12, 2) := by decide +kernel
theorem dX4_begin_7 : decode cX4_begin 7 = .ok (.iaload, 1) := by decide +kernel
theorem dX4_begin_8 : decode cX4_begin 8 = .ok (.putfield 39, 3) := by decide +kernel
theorem dX4_begin_11 : decode cX4_begin 11 = .ok (.aload_n 0, 1) := by decide +kernel
theorem dX4_begin_12 : decode cX4_begin 12 = .ok (.iconst 0, 1) := by decide +kernel
theorem dX4_begin_13 : decode cX4_begin 13 = .ok (.putfield 43, 3) := by decide +kernel
theorem dX4_begin_16 : decode cX4_begin 16 = .ok (.aload_n 0, 1) := by decide +kernel
theorem dX4_begin_17 : decode cX4_begin 17 = .ok (.iconst 0, 1) := by decide +kernel
theorem dX4_begin_18 : decode cX4_begin 18 = .ok (.putfield 46, 3) := by decide +kernel
theorem dX4_begin_21 : decode cX4_begin 21 = .ok (.aload_n 0, 1) := by decide +kernel
theorem dX4_begin_22 : decode cX4_begin 22 = .ok (.iconst 0, 1) := by decide +kernel
theorem dX4_begin_23 : decode cX4_begin 23 = .ok (.putfield 49, 3) := by decide +kernel
theorem dX4_begin_26 : decode cX4_begin 26 = .ok (.aload_n 0, 1) := by decide +kernel
theorem dX4_begin_27 : decode cX4_begin 27 = .ok (.iconst 0, 1) := by decide +kernel
theorem dX4_begin_28 : decode cX4_begin 28 = .ok (.putfield 52, 3) := by decide +kernel
theorem dX4_begin_31 : decode cX4_begin 31 = .ok (.aload_n 0, 1) := by decide +kernel
theorem dX4_begin_32 : decode cX4_begin 32 = .ok (.iconst 0, 1) := by decide +kernel
theorem dX4_begin_33 : decode cX4_begin 33 = .ok (.putfield 55, 3) := by decide +kernel
theorem dX4_begin_36 : decode cX4_begin 36 = .ok (.return_, 1) := by decide +kernel
theorem dX4_measuredError_0 : decode cX4_measuredError 0 = .ok (.aload_n 0, 1) := by decide +kernel
theorem dX4_measuredError_1 : decode cX4_measuredError 1 = .ok (.getfield 18, 3) := by decide +kernel
theorem dX4_measuredError_4 : decode cX4_measuredError 4 = .ok (.iconst 5, 1) := by decide +kernel
theorem dX4_measuredError_5 : decode cX4_measuredError 5 = .ok (.iaload, 1) := by decide +kernel
theorem dX4_measuredError_6 : decode cX4_measuredError 6 = .ok (.istore_n 1, 1) := by decide +kernel
theorem dX4_measuredError_7 : decode cX4_measuredError 7 = .ok (.iload_n 1, 1) := by decide +kernel
theorem dX4_measuredError_8 : decode cX4_measuredError 8 = .ok (.ifCond .le 14, 3) := by decide +kernel
theorem dX4_measuredError_11 : decode cX4_measuredError 11 = .ok (.aload_n 0, 1) := by decide +kernel
theorem dX4_measuredError_12 : decode cX4_measuredError 12 = .ok (.getfield 39, 3) := by decide +kernel
theorem dX4_measuredError_15 : decode cX4_measuredError 15 = .ok (.iload_n 1, 1) := by decide +kernel
theorem dX4_measuredError_16 : decode cX4_measuredError 16 = .ok (.idiv, 1) := by decide +kernel
theorem dX4_measuredError_17 : decode cX4_measuredError 17 = .ok (.iload_n 1, 1) := by decide +kernel
theorem dX4_measuredError_18 : decode cX4_measuredError 18 = .ok (.imul, 1) := by decide +kernel
theorem dX4_measuredError_19 : decode cX4_measuredError 19 = .ok (.goto 7, 3) := by decide +kernel
theorem dX4_measuredError_22 : decode cX4_measuredError 22 = .ok (.aload_n 0, 1) := by decide +kernel
theorem dX4_measuredError_23 : decode cX4_measuredError 23 = .ok (.getfield 39, 3) := by decide +kernel
theorem dX4_measuredError_26 : decode cX4_measuredError 26 = .ok (.ireturn, 1) := by decide +kernel
theorem dX4_seenStep_0 : decode cX4_seenStep 0 = .ok (.iload_n 1, 1) := by decide +kernel
theorem dX4_seenStep_1 : decode cX4_seenStep 1 = .ok (.aload_n 0, 1) := by decide +kernel
theorem dX4_seenStep_2 : decode cX4_seenStep 2 = .ok (.getfield 18, 3) := by decide +kernel
theorem dX4_seenStep_5 : decode cX4_seenStep 5 = .ok (.bipush 6, 2) := by decide +kernel
theorem dX4_seenStep_7 : decode cX4_seenStep 7 = .ok (.iaload, 1) := by decide +kernel
theorem dX4_seenStep_8 : decode cX4_seenStep 8 = .ok (.iconst 0, 1) := by decide +kernel
theorem dX4_seenStep_9 : decode cX4_seenStep 9 = .ok (.invokestatic 136, 3) := by decide +kernel
theorem dX4_seenStep_12 : decode cX4_seenStep 12 = .ok (.isub, 1) := by decide +kernel
theorem dX4_seenStep_13 : decode cX4_seenStep 13 = .ok (.iconst 0, 1) := by decide +kernel
theorem dX4_seenStep_14 : decode cX4_seenStep 14 = .ok (.invokestatic 136, 3) := by decide +kernel
theorem dX4_seenStep_17 : decode cX4_seenStep 17 = .ok (.ireturn, 1) := by decide +kernel
theorem dX4_control_0 : decode cX4_control 0 = .ok (.aload_n 0, 1) := by decide +kernel
theorem dX4_control_1 : decode cX4_control 1 = .ok (.getfield 18, 3) := by decide +kernel
theorem dX4_control_4 : decode cX4_control 4 = .ok (.bipush 10, 2) := by decide +kernel
theorem dX4_control_6 : decode cX4_control 6 = .ok (.iaload, 1) := by decide +kernel
theorem dX4_control_7 : decode cX4_control 7 = .ok (.ifCond .ne 7, 3) := by decide +kernel
theorem dX4_control_10 : decode cX4_control 10 = .ok (.iconst 1, 1) := by decide +kernel
theorem dX4_control_11 : decode cX4_control 11 = .ok (.goto 4, 3) := by decide +kernel
theorem dX4_control_14 : decode cX4_control 14 = .ok (.iconst 0, 1) := by decide +kernel
theorem dX4_control_15 : decode cX4_control 15 = .ok (.istore_n 3, 1) := by decide +kernel
theorem dX4_control_16 : decode cX4_control 16 = .ok (.iload_n 3, 1) := by decide +kernel
theorem dX4_control_17 : decode cX4_control 17 = .ok (.ifCond .eq 11, 3) := by decide +kernel
theorem dX4_control_20 : decode cX4_control 20 = .ok (.aload_n 0, 1) := by decide +kernel
theorem dX4_control_21 : decode cX4_control 21 = .ok (.iload_n 1, 1) := by decide +kernel
theorem dX4_control_22 : decode cX4_control 22 = .ok (.invokevirtual 139, 3) := by decide +kernel
theorem dX4_control_25 : decode cX4_control 25 = .ok (.goto 7, 3) := by decide +kernel
theorem dX4_control_28 : decode cX4_control 28 = .ok (.aload_n 0, 1) := by decide +kernel
theorem dX4_control_29 : decode cX4_control 29 = .ok (.getfield 49, 3) := by decide +kernel
theorem dX4_control_32 : decode cX4_control 32 = .ok (.istore 4, 2) := by decide +kernel
theorem dX4_control_34 : decode cX4_control 34 = .ok (.iload_n 3, 1) := by decide +kernel
theorem dX4_control_35 : decode cX4_control 35 = .ok (.ifCond .eq 38, 3) := by decide +kernel
theorem dX4_control_38 : decode cX4_control 38 = .ok (.aload_n 0, 1) := by decide +kernel
theorem dX4_control_39 : decode cX4_control 39 = .ok (.getfield 18, 3) := by decide +kernel
theorem dX4_control_42 : decode cX4_control 42 = .ok (.iconst 0, 1) := by decide +kernel
theorem dX4_control_43 : decode cX4_control 43 = .ok (.iaload, 1) := by decide +kernel
theorem dX4_control_44 : decode cX4_control 44 = .ok (.iload_n 1, 1) := by decide +kernel
theorem dX4_control_45 : decode cX4_control 45 = .ok (.imul, 1) := by decide +kernel
theorem dX4_control_46 : decode cX4_control 46 = .ok (.aload_n 0, 1) := by decide +kernel
theorem dX4_control_47 : decode cX4_control 47 = .ok (.getfield 18, 3) := by decide +kernel
theorem dX4_control_50 : decode cX4_control 50 = .ok (.iconst 1, 1) := by decide +kernel
theorem dX4_control_51 : decode cX4_control 51 = .ok (.iaload, 1) := by decide +kernel
theorem dX4_control_52 : decode cX4_control 52 = .ok (.iload 4, 2) := by decide +kernel
theorem dX4_control_54 : decode cX4_control 54 = .ok (.imul, 1) := by decide +kernel
theorem dX4_control_55 : decode cX4_control 55 = .ok (.iadd, 1) := by decide +kernel
theorem dX4_control_56 : decode cX4_control 56 = .ok (.aload_n 0, 1) := by decide +kernel
theorem dX4_control_57 : decode cX4_control 57 = .ok (.getfield 18, 3) := by decide +kernel
theorem dX4_control_60 : decode cX4_control 60 = .ok (.iconst 2, 1) := by decide +kernel
theorem dX4_control_61 : decode cX4_control 61 = .ok (.iaload, 1) := by decide +kernel
theorem dX4_control_62 : decode cX4_control 62 = .ok (.iload_n 2, 1) := by decide +kernel
theorem dX4_control_63 : decode cX4_control 63 = .ok (.imul, 1) := by decide +kernel
theorem dX4_control_64 : decode cX4_control 64 = .ok (.iadd, 1) := by decide +kernel
theorem dX4_control_65 : decode cX4_control 65 = .ok (.bipush 64, 2) := by decide +kernel
theorem dX4_control_67 : decode cX4_control 67 = .ok (.idiv, 1) := by decide +kernel
theorem dX4_control_68 : decode cX4_control 68 = .ok (.istore 5, 2) := by decide +kernel
theorem dX4_control_70 : decode cX4_control 70 = .ok (.goto 32, 3) := by decide +kernel
theorem dX4_control_73 : decode cX4_control 73 = .ok (.aload_n 0, 1) := by decide +kernel
theorem dX4_control_74 : decode cX4_control 74 = .ok (.getfield 18, 3) := by decide +kernel
theorem dX4_control_77 : decode cX4_control 77 = .ok (.bipush 10, 2) := by decide +kernel
theorem dX4_control_79 : decode cX4_control 79 = .ok (.iaload, 1) := by decide +kernel
theorem dX4_control_80 : decode cX4_control 80 = .ok (.iconst 1, 1) := by decide +kernel
theorem dX4_control_81 : decode cX4_control 81 = .ok (.if_icmp .ne 11, 3) := by decide +kernel
theorem dX4_control_84 : decode cX4_control 84 = .ok (.aload_n 0, 1) := by decide +kernel
theorem dX4_control_85 : decode cX4_control 85 = .ok (.iload_n 1, 1) := by decide +kernel
theorem dX4_control_86 : decode cX4_control 86 = .ok (.invokevirtual 142, 3) := by decide +kernel
theorem dX4_control_89 : decode cX4_control 89 = .ok (.goto 11, 3) := by decide +kernel
theorem dX4_control_92 : decode cX4_control 92 = .ok (.aload_n 0, 1) := by decide +kernel
theorem dX4_control_93 : decode cX4_control 93 = .ok (.getfield 26, 3) := by decide +kernel
theorem dX4_control_96 : decode cX4_control 96 = .ok (.iload_n 1, 1) := by decide +kernel
theorem dX4_control_97 : decode cX4_control 97 = .ok (.invokevirtual 145, 3) := by decide +kernel
theorem dX4_control_100 : decode cX4_control 100 = .ok (.istore 5, 2) := by decide +kernel
theorem dX4_control_102 : decode cX4_control 102 = .ok (.aload_n 0, 1) := by decide +kernel
theorem dX4_control_103 : decode cX4_control 103 = .ok (.iload 5, 2) := by decide +kernel
theorem dX4_control_105 : decode cX4_control 105 = .ok (.aload_n 0, 1) := by decide +kernel
theorem dX4_control_106 : decode cX4_control 106 = .ok (.getfield 18, 3) := by decide +kernel
theorem dX4_control_109 : decode cX4_control 109 = .ok (.iconst 3, 1) := by decide +kernel
theorem dX4_control_110 : decode cX4_control 110 = .ok (.iaload, 1) := by decide +kernel
theorem dX4_control_111 : decode cX4_control 111 = .ok (.invokestatic 148, 3) := by decide +kernel
theorem dX4_control_114 : decode cX4_control 114 = .ok (.putfield 52, 3) := by decide +kernel
theorem dX4_control_117 : decode cX4_control 117 = .ok (.aload_n 0, 1) := by decide +kernel
theorem dX4_control_118 : decode cX4_control 118 = .ok (.iload 5, 2) := by decide +kernel
theorem dX4_control_120 : decode cX4_control 120 = .ok (.aload_n 0, 1) := by decide +kernel
theorem dX4_control_121 : decode cX4_control 121 = .ok (.getfield 52, 3) := by decide +kernel
theorem dX4_control_124 : decode cX4_control 124 = .ok (.if_icmp .eq 7, 3) := by decide +kernel
theorem dX4_control_127 : decode cX4_control 127 = .ok (.iconst 1, 1) := by decide +kernel
theorem dX4_control_128 : decode cX4_control 128 = .ok (.goto 4, 3) := by decide +kernel
theorem dX4_control_131 : decode cX4_control 131 = .ok (.iconst 0, 1) := by decide +kernel
theorem dX4_control_132 : decode cX4_control 132 = .ok (.putfield 55, 3) := by decide +kernel
theorem dX4_control_135 : decode cX4_control 135 = .ok (.iload_n 3, 1) := by decide +kernel
theorem dX4_control_136 : decode cX4_control 136 = .ok (.ifCond .eq 16, 3) := by decide +kernel
theorem dX4_control_139 : decode cX4_control 139 = .ok (.aload_n 0, 1) := by decide +kernel
theorem dX4_control_140 : decode cX4_control 140 = .ok (.aload_n 0, 1) := by decide +kernel
theorem dX4_control_141 : decode cX4_control 141 = .ok (.iload 4, 2) := by decide +kernel
theorem dX4_control_143 : decode cX4_control 143 = .ok (.iload_n 1, 1) := by decide +kernel
theorem dX4_control_144 : decode cX4_control 144 = .ok (.iload 5, 2) := by decide +kernel
theorem dX4_control_146 : decode cX4_control 146 = .ok (.invokevirtual 151, 3) := by decide +kernel
theorem dX4_control_149 : decode cX4_control 149 = .ok (.putfield 49, 3) := by decide +kernel
theorem dX4_control_152 : decode cX4_control 152 = .ok (.return_, 1) := by decide +kernel
theorem dX4_summedIntegral_0 : decode cX4_summedIntegral 0 = .ok (.aload_n 0, 1) := by decide +kernel
theorem dX4_summedIntegral_1 : decode cX4_summedIntegral 1 = .ok (.getfield 49, 3) := by decide +kernel
theorem dX4_summedIntegral_4 : decode cX4_summedIntegral 4 = .ok (.iload_n 1, 1) := by decide +kernel
theorem dX4_summedIntegral_5 : decode cX4_summedIntegral 5 = .ok (.iadd, 1) := by decide +kernel
theorem dX4_summedIntegral_6 : decode cX4_summedIntegral 6 = .ok (.ldc 155, 2) := by decide +kernel
theorem dX4_summedIntegral_8 : decode cX4_summedIntegral 8 = .ok (.invokestatic 148, 3) := by decide +kernel
theorem dX4_summedIntegral_11 : decode cX4_summedIntegral 11 = .ok (.istore_n 2, 1) := by decide +kernel
theorem dX4_summedIntegral_12 : decode cX4_summedIntegral 12 = .ok (.aload_n 0, 1) := by decide +kernel
theorem dX4_summedIntegral_13 : decode cX4_summedIntegral 13 = .ok (.getfield 18, 3) := by decide +kernel
theorem dX4_summedIntegral_16 : decode cX4_summedIntegral 16 = .ok (.bipush 7, 2) := by decide +kernel
theorem dX4_summedIntegral_18 : decode cX4_summedIntegral 18 = .ok (.iaload, 1) := by decide +kernel
theorem dX4_summedIntegral_19 : decode cX4_summedIntegral 19 = .ok (.iconst 1, 1) := by decide +kernel
theorem dX4_summedIntegral_20 : decode cX4_summedIntegral 20 = .ok (.if_icmp .ne 17, 3) := by decide +kernel
theorem dX4_summedIntegral_23 : decode cX4_summedIntegral 23 = .ok (.iload_n 2, 1) := by decide +kernel
theorem dX4_summedIntegral_24 : decode cX4_summedIntegral 24 = .ok (.aload_n 0, 1) := by decide +kernel
theorem dX4_summedIntegral_25 : decode cX4_summedIntegral 25 = .ok (.getfield 18, 3) := by decide +kernel
theorem dX4_summedIntegral_28 : decode cX4_summedIntegral 28 = .ok (.bipush 8, 2) := by decide +kernel
theorem dX4_summedIntegral_30 : decode cX4_summedIntegral 30 = .ok (.iaload, 1) := by decide +kernel
theorem dX4_summedIntegral_31 : decode cX4_summedIntegral 31 = .ok (.invokestatic 148, 3) := by decide +kernel
theorem dX4_summedIntegral_34 : decode cX4_summedIntegral 34 = .ok (.goto 4, 3) := by decide +kernel
theorem dX4_summedIntegral_37 : decode cX4_summedIntegral 37 = .ok (.iload_n 2, 1) := by decide +kernel
theorem dX4_summedIntegral_38 : decode cX4_summedIntegral 38 = .ok (.ireturn, 1) := by decide +kernel
theorem dX4_ofTwoOutputs_0 : decode cX4_ofTwoOutputs 0 = .ok (.iload_n 1, 1) := by decide +kernel
theorem dX4_ofTwoOutputs_1 : decode cX4_ofTwoOutputs 1 = .ok (.aload_n 0, 1) := by decide +kernel
theorem dX4_ofTwoOutputs_2 : decode cX4_ofTwoOutputs 2 = .ok (.getfield 18, 3) := by decide +kernel
theorem dX4_ofTwoOutputs_5 : decode cX4_ofTwoOutputs 5 = .ok (.bipush 11, 2) := by decide +kernel
theorem dX4_ofTwoOutputs_7 : decode cX4_ofTwoOutputs 7 = .ok (.iaload, 1) := by decide +kernel
theorem dX4_ofTwoOutputs_8 : decode cX4_ofTwoOutputs 8 = .ok (.if_icmp .le 10, 3) := by decide +kernel
theorem dX4_ofTwoOutputs_11 : decode cX4_ofTwoOutputs 11 = .ok (.aload_n 0, 1) := by decide +kernel
theorem dX4_ofTwoOutputs_12 : decode cX4_ofTwoOutputs 12 = .ok (.getfield 18, 3) := by decide +kernel
theorem dX4_ofTwoOutputs_15 : decode cX4_ofTwoOutputs 15 = .ok (.iconst 3, 1) := by decide +kernel
theorem dX4_ofTwoOutputs_16 : decode cX4_ofTwoOutputs 16 = .ok (.iaload, 1) := by decide +kernel
theorem dX4_ofTwoOutputs_17 : decode cX4_ofTwoOutputs 17 = .ok (.ireturn, 1) := by decide +kernel
theorem dX4_ofTwoOutputs_18 : decode cX4_ofTwoOutputs 18 = .ok (.iload_n 1, 1) := by decide +kernel
theorem dX4_ofTwoOutputs_19 : decode cX4_ofTwoOutputs 19 = .ok (.aload_n 0, 1) := by decide +kernel
theorem dX4_ofTwoOutputs_20 : decode cX4_ofTwoOutputs 20 = .ok (.getfield 18, 3) := by decide +kernel
theorem dX4_ofTwoOutputs_23 : decode cX4_ofTwoOutputs 23 = .ok (.bipush 11, 2) := by decide +kernel
theorem dX4_ofTwoOutputs_25 : decode cX4_ofTwoOutputs 25 = .ok (.iaload, 1) := by decide +kernel
theorem dX4_ofTwoOutputs_26 : decode cX4_ofTwoOutputs 26 = .ok (.ineg, 1) := by decide +kernel
theorem dX4_ofTwoOutputs_27 : decode cX4_ofTwoOutputs 27 = .ok (.if_icmp .ge 13, 3) := by decide +kernel
theorem dX4_ofTwoOutputs_30 : decode cX4_ofTwoOutputs 30 = .ok (.aload_n 0, 1) := by decide +kernel
theorem dX4_ofTwoOutputs_31 : decode cX4_ofTwoOutputs 31 = .ok (.getfield 18, 3) := by decide +kernel
theorem dX4_ofTwoOutputs_34 : decode cX4_ofTwoOutputs 34 = .ok (.iconst 3, 1) := by decide +kernel
theorem dX4_ofTwoOutputs_35 : decode cX4_ofTwoOutputs 35 = .ok (.iaload, 1) := by decide +kernel
theorem dX4_ofTwoOutputs_36 : decode cX4_ofTwoOutputs 36 = .ok (.ineg, 1) := by decide +kernel
theorem dX4_ofTwoOutputs_37 : decode cX4_ofTwoOutputs 37 = .ok (.goto 7, 3) := by decide +kernel
theorem dX4_ofTwoOutputs_40 : decode cX4_ofTwoOutputs 40 = .ok (.aload_n 0, 1) := by decide +kernel
theorem dX4_ofTwoOutputs_41 : decode cX4_ofTwoOutputs 41 = .ok (.getfield 52, 3) := by decide +kernel
theorem dX4_ofTwoOutputs_44 : decode cX4_ofTwoOutputs 44 = .ok (.ireturn, 1) := by decide +kernel
theorem dX4_keptIntegral_0 : decode cX4_keptIntegral 0 = .ok (.aload_n 0, 1) := by decide +kernel
theorem dX4_keptIntegral_1 : decode cX4_keptIntegral 1 = .ok (.getfield 18, 3) := by decide +kernel
theorem dX4_keptIntegral_4 : decode cX4_keptIntegral 4 = .ok (.bipush 7, 2) := by decide +kernel
theorem dX4_keptIntegral_6 : decode cX4_keptIntegral 6 = .ok (.iaload, 1) := by decide +kernel
theorem dX4_keptIntegral_7 : decode cX4_keptIntegral 7 = .ok (.iconst 2, 1) := by decide +kernel
theorem dX4_keptIntegral_8 : decode cX4_keptIntegral 8 = .ok (.if_icmp .ne 47, 3) := by decide +kernel
theorem dX4_keptIntegral_11 : decode cX4_keptIntegral 11 = .ok (.aload_n 0, 1) := by decide +kernel
theorem dX4_keptIntegral_12 : decode cX4_keptIntegral 12 = .ok (.getfield 55, 3) := by decide +kernel
theorem dX4_keptIntegral_15 : decode cX4_keptIntegral 15 = .ok (.ifCond .eq 40, 3) := by decide +kernel
theorem dX4_keptIntegral_18 : decode cX4_keptIntegral 18 = .ok (.iload_n 3, 1) := by decide +kernel
theorem dX4_keptIntegral_19 : decode cX4_keptIntegral 19 = .ok (.ifCond .le 7, 3) := by decide +kernel
theorem dX4_keptIntegral_22 : decode cX4_keptIntegral 22 = .ok (.iload_n 2, 1) := by decide +kernel
theorem dX4_keptIntegral_23 : decode cX4_keptIntegral 23 = .ok (.ifCond .gt 11, 3) := by decide +kernel
theorem dX4_keptIntegral_26 : decode cX4_keptIntegral 26 = .ok (.iload_n 3, 1) := by decide +kernel
theorem dX4_keptIntegral_27 : decode cX4_keptIntegral 27 = .ok (.ifCond .ge 11, 3) := by decide +kernel
theorem dX4_keptIntegral_30 : decode cX4_keptIntegral 30 = .ok (.iload_n 2, 1) := by decide +kernel
theorem dX4_keptIntegral_31 : decode cX4_keptIntegral 31 = .ok (.ifCond .ge 7, 3) := by decide +kernel
theorem dX4_keptIntegral_34 : decode cX4_keptIntegral 34 = .ok (.iconst 1, 1) := by decide +kernel
theorem dX4_keptIntegral_35 : decode cX4_keptIntegral 35 = .ok (.goto 4, 3) := by decide +kernel
theorem dX4_keptIntegral_38 : decode cX4_keptIntegral 38 = .ok (.iconst 0, 1) := by decide +kernel
theorem dX4_keptIntegral_39 : decode cX4_keptIntegral 39 = .ok (.istore 4, 2) := by decide +kernel
theorem dX4_keptIntegral_41 : decode cX4_keptIntegral 41 = .ok (.iload 4, 2) := by decide +kernel
theorem dX4_keptIntegral_43 : decode cX4_keptIntegral 43 = .ok (.ifCond .eq 10, 3) := by decide +kernel
theorem dX4_keptIntegral_46 : decode cX4_keptIntegral 46 = .ok (.aload_n 0, 1) := by decide +kernel
theorem dX4_keptIntegral_47 : decode cX4_keptIntegral 47 = .ok (.getfield 49, 3) := by decide +kernel
theorem dX4_keptIntegral_50 : decode cX4_keptIntegral 50 = .ok (.goto 4, 3) := by decide +kernel
theorem dX4_keptIntegral_53 : decode cX4_keptIntegral 53 = .ok (.iload_n 1, 1) := by decide +kernel
theorem dX4_keptIntegral_54 : decode cX4_keptIntegral 54 = .ok (.ireturn, 1) := by decide +kernel
theorem dX4_keptIntegral_55 : decode cX4_keptIntegral 55 = .ok (.aload_n 0, 1) := by decide +kernel
theorem dX4_keptIntegral_56 : decode cX4_keptIntegral 56 = .ok (.getfield 18, 3) := by decide +kernel
theorem dX4_keptIntegral_59 : decode cX4_keptIntegral 59 = .ok (.bipush 7, 2) := by decide +kernel
theorem dX4_keptIntegral_61 : decode cX4_keptIntegral 61 = .ok (.iaload, 1) := by decide +kernel
theorem dX4_keptIntegral_62 : decode cX4_keptIntegral 62 = .ok (.iconst 3, 1) := by decide +kernel
theorem dX4_keptIntegral_63 : decode cX4_keptIntegral 63 = .ok (.if_icmp .ne 28, 3) := by decide +kernel
theorem dX4_keptIntegral_66 : decode cX4_keptIntegral 66 = .ok (.iload_n 1, 1) := by decide +kernel
theorem dX4_keptIntegral_67 : decode cX4_keptIntegral 67 = .ok (.iload_n 3, 1) := by decide +kernel
theorem dX4_keptIntegral_68 : decode cX4_keptIntegral 68 = .ok (.aload_n 0, 1) := by decide +kernel
theorem dX4_keptIntegral_69 : decode cX4_keptIntegral 69 = .ok (.getfield 52, 3) := by decide +kernel
theorem dX4_keptIntegral_72 : decode cX4_keptIntegral 72 = .ok (.isub, 1) := by decide +kernel
theorem dX4_keptIntegral_73 : decode cX4_keptIntegral 73 = .ok (.aload_n 0, 1) := by decide +kernel
theorem dX4_keptIntegral_74 : decode cX4_keptIntegral 74 = .ok (.getfield 18, 3) := by decide +kernel
theorem dX4_keptIntegral_77 : decode cX4_keptIntegral 77 = .ok (.bipush 9, 2) := by decide +kernel
theorem dX4_keptIntegral_79 : decode cX4_keptIntegral 79 = .ok (.iaload, 1) := by decide +kernel
theorem dX4_keptIntegral_80 : decode cX4_keptIntegral 80 = .ok (.imul, 1) := by decide +kernel
theorem dX4_keptIntegral_81 : decode cX4_keptIntegral 81 = .ok (.bipush 16, 2) := by decide +kernel
theorem dX4_keptIntegral_83 : decode cX4_keptIntegral 83 = .ok (.idiv, 1) := by decide +kernel
theorem dX4_keptIntegral_84 : decode cX4_keptIntegral 84 = .ok (.isub, 1) := by decide +kernel
theorem dX4_keptIntegral_85 : decode cX4_keptIntegral 85 = .ok (.ldc 155, 2) := by decide +kernel
theorem dX4_keptIntegral_87 : decode cX4_keptIntegral 87 = .ok (.invokestatic 148, 3) := by decide +kernel
theorem dX4_keptIntegral_90 : decode cX4_keptIntegral 90 = .ok (.ireturn, 1) := by decide +kernel
theorem dX4_keptIntegral_91 : decode cX4_keptIntegral 91 = .ok (.iload_n 1, 1) := by decide +kernel
theorem dX4_keptIntegral_92 : decode cX4_keptIntegral 92 = .ok (.ireturn, 1) := by decide +kernel
theorem dX4_moveActuator_0 : decode cX4_moveActuator 0 = .ok (.aload_n 0, 1) := by decide +kernel
theorem dX4_moveActuator_1 : decode cX4_moveActuator 1 = .ok (.dup, 1) := by decide +kernel
theorem dX4_moveActuator_2 : decode cX4_moveActuator 2 = .ok (.getfield 46, 3) := by decide +kernel
theorem dX4_moveActuator_5 : decode cX4_moveActuator 5 = .ok (.aload_n 0, 1) := by decide +kernel
theorem dX4_moveActuator_6 : decode cX4_moveActuator 6 = .ok (.getfield 52, 3) := by decide +kernel
theorem dX4_moveActuator_9 : decode cX4_moveActuator 9 = .ok (.aload_n 0, 1) := by decide +kernel
theorem dX4_moveActuator_10 : decode cX4_moveActuator 10 = .ok (.getfield 46, 3) := by decide +kernel
theorem dX4_moveActuator_13 : decode cX4_moveActuator 13 = .ok (.isub, 1) := by decide +kernel
theorem dX4_moveActuator_14 : decode cX4_moveActuator 14 = .ok (.aload_n 0, 1) := by decide +kernel
theorem dX4_moveActuator_15 : decode cX4_moveActuator 15 = .ok (.getfield 18, 3) := by decide +kernel
theorem dX4_moveActuator_18 : decode cX4_moveActuator 18 = .ok (.iconst 4, 1) := by decide +kernel
theorem dX4_moveActuator_19 : decode cX4_moveActuator 19 = .ok (.iaload, 1) := by decide +kernel
theorem dX4_moveActuator_20 : decode cX4_moveActuator 20 = .ok (.invokestatic 148, 3) := by decide +kernel
theorem dX4_moveActuator_23 : decode cX4_moveActuator 23 = .ok (.iadd, 1) := by decide +kernel
theorem dX4_moveActuator_24 : decode cX4_moveActuator 24 = .ok (.putfield 46, 3) := by decide +kernel
theorem dX4_moveActuator_27 : decode cX4_moveActuator 27 = .ok (.return_, 1) := by decide +kernel
theorem dX4_moveRobot_0 : decode cX4_moveRobot 0 = .ok (.aload_n 0, 1) := by decide +kernel
theorem dX4_moveRobot_1 : decode cX4_moveRobot 1 = .ok (.aload_n 0, 1) := by decide +kernel
theorem dX4_moveRobot_2 : decode cX4_moveRobot 2 = .ok (.getfield 43, 3) := by decide +kernel
theorem dX4_moveRobot_5 : decode cX4_moveRobot 5 = .ok (.iload_n 1, 1) := by decide +kernel
theorem dX4_moveRobot_6 : decode cX4_moveRobot 6 = .ok (.iadd, 1) := by decide +kernel
theorem dX4_moveRobot_7 : decode cX4_moveRobot 7 = .ok (.aload_n 0, 1) := by decide +kernel
theorem dX4_moveRobot_8 : decode cX4_moveRobot 8 = .ok (.getfield 46, 3) := by decide +kernel
theorem dX4_moveRobot_11 : decode cX4_moveRobot 11 = .ok (.bipush 8, 2) := by decide +kernel
theorem dX4_moveRobot_13 : decode cX4_moveRobot 13 = .ok (.idiv, 1) := by decide +kernel
theorem dX4_moveRobot_14 : decode cX4_moveRobot 14 = .ok (.isub, 1) := by decide +kernel
theorem dX4_moveRobot_15 : decode cX4_moveRobot 15 = .ok (.sipush 10000, 3) := by decide +kernel
theorem dX4_moveRobot_18 : decode cX4_moveRobot 18 = .ok (.invokestatic 148, 3) := by decide +kernel
theorem dX4_moveRobot_21 : decode cX4_moveRobot 21 = .ok (.putfield 43, 3) := by decide +kernel
theorem dX4_moveRobot_24 : decode cX4_moveRobot 24 = .ok (.aload_n 0, 1) := by decide +kernel
theorem dX4_moveRobot_25 : decode cX4_moveRobot 25 = .ok (.aload_n 0, 1) := by decide +kernel
theorem dX4_moveRobot_26 : decode cX4_moveRobot 26 = .ok (.getfield 39, 3) := by decide +kernel
theorem dX4_moveRobot_29 : decode cX4_moveRobot 29 = .ok (.aload_n 0, 1) := by decide +kernel
theorem dX4_moveRobot_30 : decode cX4_moveRobot 30 = .ok (.getfield 43, 3) := by decide +kernel
theorem dX4_moveRobot_33 : decode cX4_moveRobot 33 = .ok (.bipush 8, 2) := by decide +kernel
theorem dX4_moveRobot_35 : decode cX4_moveRobot 35 = .ok (.idiv, 1) := by decide +kernel
theorem dX4_moveRobot_36 : decode cX4_moveRobot 36 = .ok (.iadd, 1) := by decide +kernel
theorem dX4_moveRobot_37 : decode cX4_moveRobot 37 = .ok (.iload_n 2, 1) := by decide +kernel
theorem dX4_moveRobot_38 : decode cX4_moveRobot 38 = .ok (.iadd, 1) := by decide +kernel
theorem dX4_moveRobot_39 : decode cX4_moveRobot 39 = .ok (.sipush 10000, 3) := by decide +kernel
theorem dX4_moveRobot_42 : decode cX4_moveRobot 42 = .ok (.invokestatic 148, 3) := by decide +kernel
theorem dX4_moveRobot_45 : decode cX4_moveRobot 45 = .ok (.putfield 39, 3) := by decide +kernel
theorem dX4_moveRobot_48 : decode cX4_moveRobot 48 = .ok (.return_, 1) := by decide +kernel
theorem dX5_init_0 : decode cX5_init 0 = .ok (.aload_n 0, 1) := by decide +kernel
theorem dX5_init_1 : decode cX5_init 1 = .ok (.invokespecial 3, 3) := by decide +kernel
theorem dX5_init_4 : decode cX5_init 4 = .ok (.aload_n 0, 1) := by decide +kernel
theorem dX5_init_5 : decode cX5_init 5 = .ok (.iconst 5, 1) := by decide +kernel
theorem dX5_init_6 : decode cX5_init 6 = .ok (.newarray .int, 2) := by decide +kernel
theorem dX5_init_8 : decode cX5_init 8 = .ok (.putfield 9, 3) := by decide +kernel
theorem dX5_init_11 : decode cX5_init 11 = .ok (.aload_n 0, 1) := by decide +kernel
theorem dX5_init_12 : decode cX5_init 12 = .ok (.iconst 5, 1) := by decide +kernel
theorem dX5_init_13 : decode cX5_init 13 = .ok (.newarray .int, 2) := by decide +kernel
theorem dX5_init_15 : decode cX5_init 15 = .ok (.putfield 15, 3) := by decide +kernel
theorem dX5_init_18 : decode cX5_init 18 = .ok (.aload_n 0, 1) := by decide +kernel
theorem dX5_init_19 : decode cX5_init 19 = .ok (.iconst 0, 1) := by decide +kernel
theorem dX5_init_20 : decode cX5_init 20 = .ok (.putfield 18, 3) := by decide +kernel
theorem dX5_init_23 : decode cX5_init 23 = .ok (.return_, 1) := by decide +kernel
theorem dX5_has_0 : decode cX5_has 0 = .ok (.iload_n 1, 1) := by decide +kernel
theorem dX5_has_1 : decode cX5_has 1 = .ok (.ifCond .lt 20, 3) := by decide +kernel
theorem dX5_has_4 : decode cX5_has 4 = .ok (.iload_n 1, 1) := by decide +kernel
theorem dX5_has_5 : decode cX5_has 5 = .ok (.aload_n 0, 1) := by decide +kernel
theorem dX5_has_6 : decode cX5_has 6 = .ok (.getfield 18, 3) := by decide +kernel
theorem dX5_has_9 : decode cX5_has 9 = .ok (.if_icmp .ge 12, 3) := by decide +kernel
theorem dX5_has_12 : decode cX5_has 12 = .ok (.iload_n 1, 1) := by decide +kernel
theorem dX5_has_13 : decode cX5_has 13 = .ok (.iconst 5, 1) := by decide +kernel
theorem dX5_has_14 : decode cX5_has 14 = .ok (.if_icmp .ge 7, 3) := by decide +kernel
theorem dX5_has_17 : decode cX5_has 17 = .ok (.iconst 1, 1) := by decide +kernel
theorem dX5_has_18 : decode cX5_has 18 = .ok (.goto 4, 3) := by decide +kernel
theorem dX5_has_21 : decode cX5_has 21 = .ok (.iconst 0, 1) := by decide +kernel
theorem dX5_has_22 : decode cX5_has 22 = .ok (.ireturn, 1) := by decide +kernel
theorem dX5_indexOf_0 : decode cX5_indexOf 0 = .ok (.iconst 0, 1) := by decide +kernel
theorem dX5_indexOf_1 : decode cX5_indexOf 1 = .ok (.istore_n 2, 1) := by decide +kernel
theorem dX5_indexOf_2 : decode cX5_indexOf 2 = .ok (.iload_n 2, 1) := by decide +kernel
theorem dX5_indexOf_3 : decode cX5_indexOf 3 = .ok (.aload_n 0, 1) := by decide +kernel
theorem dX5_indexOf_4 : decode cX5_indexOf 4 = .ok (.getfield 18, 3) := by decide +kernel
theorem dX5_indexOf_7 : decode cX5_indexOf 7 = .ok (.if_icmp .ge 26, 3) := by decide +kernel
theorem dX5_indexOf_10 : decode cX5_indexOf 10 = .ok (.iload_n 2, 1) := by decide +kernel
theorem dX5_indexOf_11 : decode cX5_indexOf 11 = .ok (.iconst 5, 1) := by decide +kernel
theorem dX5_indexOf_12 : decode cX5_indexOf 12 = .ok (.if_icmp .ge 21, 3) := by decide +kernel
theorem dX5_indexOf_15 : decode cX5_indexOf 15 = .ok (.aload_n 0, 1) := by decide +kernel
theorem dX5_indexOf_16 : decode cX5_indexOf 16 = .ok (.getfield 9, 3) := by decide +kernel
theorem dX5_indexOf_19 : decode cX5_indexOf 19 = .ok (.iload_n 2, 1) := by decide +kernel
theorem dX5_indexOf_20 : decode cX5_indexOf 20 = .ok (.iaload, 1) := by decide +kernel
theorem dX5_indexOf_21 : decode cX5_indexOf 21 = .ok (.iload_n 1, 1) := by decide +kernel
theorem dX5_indexOf_22 : decode cX5_indexOf 22 = .ok (.if_icmp .ne 5, 3) := by decide +kernel
theorem dX5_indexOf_25 : decode cX5_indexOf 25 = .ok (.iload_n 2, 1) := by decide +kernel
theorem dX5_indexOf_26 : decode cX5_indexOf 26 = .ok (.ireturn, 1) := by decide +kernel
theorem dX5_indexOf_27 : decode cX5_indexOf 27 = .ok (.iinc 2 1, 3) := by decide +kernel
theorem dX5_indexOf_30 : decode cX5_indexOf 30 = .ok (.goto (-28), 3) := by decide +kernel
theorem dX5_indexOf_33 : decode cX5_indexOf 33 = .ok (.iconst (-1), 1) := by decide +kernel
theorem dX5_indexOf_34 : decode cX5_indexOf 34 = .ok (.ireturn, 1) := by decide +kernel
theorem dX5_hasRoomAt_0 : decode cX5_hasRoomAt 0 = .ok (.aload_n 0, 1) := by decide +kernel
theorem dX5_hasRoomAt_1 : decode cX5_hasRoomAt 1 = .ok (.getfield 18, 3) := by decide +kernel
theorem dX5_hasRoomAt_4 : decode cX5_hasRoomAt 4 = .ok (.iconst 5, 1) := by decide +kernel
theorem dX5_hasRoomAt_5 : decode cX5_hasRoomAt 5 = .ok (.if_icmp .lt 15, 3) := by decide +kernel
theorem dX5_hasRoomAt_8 : decode cX5_hasRoomAt 8 = .ok (.aload_n 0, 1) := by decide +kernel
theorem dX5_hasRoomAt_9 : decode cX5_hasRoomAt 9 = .ok (.aload_n 0, 1) := by decide +kernel
theorem dX5_hasRoomAt_10 : decode cX5_hasRoomAt 10 = .ok (.iload_n 1, 1) := by decide +kernel
theorem dX5_hasRoomAt_11 : decode cX5_hasRoomAt 11 = .ok (.invokevirtual 22, 3) := by decide +kernel
theorem dX5_hasRoomAt_14 : decode cX5_hasRoomAt 14 = .ok (.invokevirtual 26, 3) := by decide +kernel
theorem dX5_hasRoomAt_17 : decode cX5_hasRoomAt 17 = .ok (.ifCond .eq 7, 3) := by decide +kernel
theorem dX5_hasRoomAt_20 : decode cX5_hasRoomAt 20 = .ok (.iconst 1, 1) := by decide +kernel
theorem dX5_hasRoomAt_21 : decode cX5_hasRoomAt 21 = .ok (.goto 4, 3) := by decide +kernel
theorem dX5_hasRoomAt_24 : decode cX5_hasRoomAt 24 = .ok (.iconst 0, 1) := by decide +kernel
theorem dX5_hasRoomAt_25 : decode cX5_hasRoomAt 25 = .ok (.ireturn, 1) := by decide +kernel
theorem dX5_put_0 : decode cX5_put 0 = .ok (.aload_n 0, 1) := by decide +kernel
theorem dX5_put_1 : decode cX5_put 1 = .ok (.iload_n 1, 1) := by decide +kernel
theorem dX5_put_2 : decode cX5_put 2 = .ok (.invokevirtual 22, 3) := by decide +kernel
theorem dX5_put_5 : decode cX5_put 5 = .ok (.istore_n 3, 1) := by decide +kernel
theorem dX5_put_6 : decode cX5_put 6 = .ok (.aload_n 0, 1) := by decide +kernel
theorem dX5_put_7 : decode cX5_put 7 = .ok (.iload_n 3, 1) := by decide +kernel
theorem dX5_put_8 : decode cX5_put 8 = .ok (.invokevirtual 26, 3) := by decide +kernel
theorem dX5_put_11 : decode cX5_put 11 = .ok (.ifCond .eq 13, 3) := by decide +kernel
theorem dX5_put_14 : decode cX5_put 14 = .ok (.aload_n 0, 1) := by decide +kernel
theorem dX5_put_15 : decode cX5_put 15 = .ok (.getfield 15, 3) := by decide +kernel
theorem dX5_put_18 : decode cX5_put 18 = .ok (.iload_n 3, 1) := by decide +kernel
theorem dX5_put_19 : decode cX5_put 19 = .ok (.iload_n 2, 1) := by decide +kernel
theorem dX5_put_20 : decode cX5_put 20 = .ok (.iastore, 1) := by decide +kernel
theorem dX5_put_21 : decode cX5_put 21 = .ok (.goto 17, 3) := by decide +kernel
theorem dX5_put_24 : decode cX5_put 24 = .ok (.aload_n 0, 1) := by decide +kernel
theorem dX5_put_25 : decode cX5_put 25 = .ok (.getfield 18, 3) := by decide +kernel
theorem dX5_put_28 : decode cX5_put 28 = .ok (.iconst 5, 1) := by decide +kernel
theorem dX5_put_29 : decode cX5_put 29 = .ok (.if_icmp .ge 9, 3) := by decide +kernel
theorem dX5_put_32 : decode cX5_put 32 = .ok (.aload_n 0, 1) := by decide +kernel
theorem dX5_put_33 : decode cX5_put 33 = .ok (.iload_n 1, 1) := by decide +kernel
theorem dX5_put_34 : decode cX5_put 34 = .ok (.iload_n 2, 1) := by decide +kernel
theorem dX5_put_35 : decode cX5_put 35 = .ok (.invokevirtual 30, 3) := by decide +kernel
theorem dX5_put_38 : decode cX5_put 38 = .ok (.return_, 1) := by decide +kernel
theorem dX5_insert_0 : decode cX5_insert 0 = .ok (.aload_n 0, 1) := by decide +kernel
theorem dX5_insert_1 : decode cX5_insert 1 = .ok (.getfield 18, 3) := by decide +kernel
theorem dX5_insert_4 : decode cX5_insert 4 = .ok (.istore_n 3, 1) := by decide +kernel
theorem dX5_insert_5 : decode cX5_insert 5 = .ok (.aload_n 0, 1) := by decide +kernel
theorem dX5_insert_6 : decode cX5_insert 6 = .ok (.dup, 1) := by decide +kernel
theorem dX5_insert_7 : decode cX5_insert 7 = .ok (.getfield 18, 3) := by decide +kernel
theorem dX5_insert_10 : decode cX5_insert 10 = .ok (.iconst 1, 1) := by decide +kernel
theorem dX5_insert_11 : decode cX5_insert 11 = .ok (.iadd, 1) := by decide +kernel
theorem dX5_insert_12 : decode cX5_insert 12 = .ok (.putfield 18, 3) := by decide +kernel
theorem dX5_insert_15 : decode cX5_insert 15 = .ok (.iload_n 3, 1) := by decide +kernel
theorem dX5_insert_16 : decode cX5_insert 16 = .ok (.ifCond .le 49, 3) := by decide +kernel
theorem dX5_insert_19 : decode cX5_insert 19 = .ok (.aload_n 0, 1) := by decide +kernel
theorem dX5_insert_20 : decode cX5_insert 20 = .ok (.getfield 9, 3) := by decide +kernel
theorem dX5_insert_23 : decode cX5_insert 23 = .ok (.iload_n 3, 1) := by decide +kernel
theorem dX5_insert_24 : decode cX5_insert 24 = .ok (.iconst 1, 1) := by decide +kernel
theorem dX5_insert_25 : decode cX5_insert 25 = .ok (.isub, 1) := by decide +kernel
theorem dX5_insert_26 : decode cX5_insert 26 = .ok (.iaload, 1) := by decide +kernel
theorem dX5_insert_27 : decode cX5_insert 27 = .ok (.iload_n 1, 1) := by decide +kernel
theorem dX5_insert_28 : decode cX5_insert 28 = .ok (.if_icmp .le 37, 3) := by decide +kernel
theorem dX5_insert_31 : decode cX5_insert 31 = .ok (.aload_n 0, 1) := by decide +kernel
theorem dX5_insert_32 : decode cX5_insert 32 = .ok (.getfield 9, 3) := by decide +kernel
theorem dX5_insert_35 : decode cX5_insert 35 = .ok (.iload_n 3, 1) := by decide +kernel
theorem dX5_insert_36 : decode cX5_insert 36 = .ok (.aload_n 0, 1) := by decide +kernel
theorem dX5_insert_37 : decode cX5_insert 37 = .ok (.getfield 9, 3) := by decide +kernel
theorem dX5_insert_40 : decode cX5_insert 40 = .ok (.iload_n 3, 1) := by decide +kernel
theorem dX5_insert_41 : decode cX5_insert 41 = .ok (.iconst 1, 1) := by decide +kernel
theorem dX5_insert_42 : decode cX5_insert 42 = .ok (.isub, 1) := by decide +kernel
theorem dX5_insert_43 : decode cX5_insert 43 = .ok (.iaload, 1) := by decide +kernel
theorem dX5_insert_44 : decode cX5_insert 44 = .ok (.iastore, 1) := by decide +kernel
theorem dX5_insert_45 : decode cX5_insert 45 = .ok (.aload_n 0, 1) := by decide +kernel
theorem dX5_insert_46 : decode cX5_insert 46 = .ok (.getfield 15, 3) := by decide +kernel
theorem dX5_insert_49 : decode cX5_insert 49 = .ok (.iload_n 3, 1) := by decide +kernel
theorem dX5_insert_50 : decode cX5_insert 50 = .ok (.aload_n 0, 1) := by decide +kernel
theorem dX5_insert_51 : decode cX5_insert 51 = .ok (.getfield 15, 3) := by decide +kernel
theorem dX5_insert_54 : decode cX5_insert 54 = .ok (.iload_n 3, 1) := by decide +kernel
theorem dX5_insert_55 : decode cX5_insert 55 = .ok (.iconst 1, 1) := by decide +kernel
theorem dX5_insert_56 : decode cX5_insert 56 = .ok (.isub, 1) := by decide +kernel
theorem dX5_insert_57 : decode cX5_insert 57 = .ok (.iaload, 1) := by decide +kernel
theorem dX5_insert_58 : decode cX5_insert 58 = .ok (.iastore, 1) := by decide +kernel
theorem dX5_insert_59 : decode cX5_insert 59 = .ok (.iinc 3 (-1), 3) := by decide +kernel
theorem dX5_insert_62 : decode cX5_insert 62 = .ok (.goto (-47), 3) := by decide +kernel
theorem dX5_insert_65 : decode cX5_insert 65 = .ok (.aload_n 0, 1) := by decide +kernel
theorem dX5_insert_66 : decode cX5_insert 66 = .ok (.getfield 9, 3) := by decide +kernel
theorem dX5_insert_69 : decode cX5_insert 69 = .ok (.iload_n 3, 1) := by decide +kernel
theorem dX5_insert_70 : decode cX5_insert 70 = .ok (.iload_n 1, 1) := by decide +kernel
theorem dX5_insert_71 : decode cX5_insert 71 = .ok (.iastore, 1) := by decide +kernel
theorem dX5_insert_72 : decode cX5_insert 72 = .ok (.aload_n 0, 1) := by decide +kernel
theorem dX5_insert_73 : decode cX5_insert 73 = .ok (.getfield 15, 3) := by decide +kernel
theorem dX5_insert_76 : decode cX5_insert 76 = .ok (.iload_n 3, 1) := by decide +kernel
theorem dX5_insert_77 : decode cX5_insert 77 = .ok (.iload_n 2, 1) := by decide +kernel
theorem dX5_insert_78 : decode cX5_insert 78 = .ok (.iastore, 1) := by decide +kernel
theorem dX5_insert_79 : decode cX5_insert 79 = .ok (.return_, 1) := by decide +kernel
theorem dX5_removeAt_0 : decode cX5_removeAt 0 = .ok (.aload_n 0, 1) := by decide +kernel
theorem dX5_removeAt_1 : decode cX5_removeAt 1 = .ok (.iload_n 1, 1) := by decide +kernel
theorem dX5_removeAt_2 : decode cX5_removeAt 2 = .ok (.invokevirtual 26, 3) := by decide +kernel
theorem dX5_removeAt_5 : decode cX5_removeAt 5 = .ok (.ifCond .ne 4, 3) := by decide +kernel
theorem dX5_removeAt_8 : decode cX5_removeAt 8 = .ok (.return_, 1) := by decide +kernel
theorem dX5_removeAt_9 : decode cX5_removeAt 9 = .ok (.iload_n 1, 1) := by decide +kernel
theorem dX5_removeAt_10 : decode cX5_removeAt 10 = .ok (.istore_n 2, 1) := by decide +kernel
theorem dX5_removeAt_11 : decode cX5_removeAt 11 = .ok (.iload_n 2, 1) := by decide +kernel
theorem dX5_removeAt_12 : decode cX5_removeAt 12 = .ok (.iconst 1, 1) := by decide +kernel
theorem dX5_removeAt_13 : decode cX5_removeAt 13 = .ok (.iadd, 1) := by decide +kernel
theorem dX5_removeAt_14 : decode cX5_removeAt 14 = .ok (.aload_n 0, 1) := by decide +kernel
theorem dX5_removeAt_15 : decode cX5_removeAt 15 = .ok (.getfield 18, 3) := by decide +kernel
theorem dX5_removeAt_18 : decode cX5_removeAt 18 = .ok (.if_icmp .ge 44, 3) := by decide +kernel
theorem dX5_removeAt_21 : decode cX5_removeAt 21 = .ok (.iload_n 2, 1) := by decide +kernel
theorem dX5_removeAt_22 : decode cX5_removeAt 22 = .ok (.iconst 1, 1) := by decide +kernel
theorem dX5_removeAt_23 : decode cX5_removeAt 23 = .ok (.iadd, 1) := by decide +kernel
theorem dX5_removeAt_24 : decode cX5_removeAt 24 = .ok (.iconst 5, 1) := by decide +kernel
theorem dX5_removeAt_25 : decode cX5_removeAt 25 = .ok (.if_icmp .ge 37, 3) := by decide +kernel
theorem dX5_removeAt_28 : decode cX5_removeAt 28 = .ok (.aload_n 0, 1) := by decide +kernel
theorem dX5_removeAt_29 : decode cX5_removeAt 29 = .ok (.getfield 9, 3) := by decide +kernel
theorem dX5_removeAt_32 : decode cX5_removeAt 32 = .ok (.iload_n 2, 1) := by decide +kernel
theorem dX5_removeAt_33 : decode cX5_removeAt 33 = .ok (.aload_n 0, 1) := by decide +kernel
theorem dX5_removeAt_34 : decode cX5_removeAt 34 = .ok (.getfield 9, 3) := by decide +kernel
theorem dX5_removeAt_37 : decode cX5_removeAt 37 = .ok (.iload_n 2, 1) := by decide +kernel
theorem dX5_removeAt_38 : decode cX5_removeAt 38 = .ok (.iconst 1, 1) := by decide +kernel
theorem dX5_removeAt_39 : decode cX5_removeAt 39 = .ok (.iadd, 1) := by decide +kernel
theorem dX5_removeAt_40 : decode cX5_removeAt 40 = .ok (.iaload, 1) := by decide +kernel
theorem dX5_removeAt_41 : decode cX5_removeAt 41 = .ok (.iastore, 1) := by decide +kernel
theorem dX5_removeAt_42 : decode cX5_removeAt 42 = .ok (.aload_n 0, 1) := by decide +kernel
theorem dX5_removeAt_43 : decode cX5_removeAt 43 = .ok (.getfield 15, 3) := by decide +kernel
theorem dX5_removeAt_46 : decode cX5_removeAt 46 = .ok (.iload_n 2, 1) := by decide +kernel
theorem dX5_removeAt_47 : decode cX5_removeAt 47 = .ok (.aload_n 0, 1) := by decide +kernel
theorem dX5_removeAt_48 : decode cX5_removeAt 48 = .ok (.getfield 15, 3) := by decide +kernel
theorem dX5_removeAt_51 : decode cX5_removeAt 51 = .ok (.iload_n 2, 1) := by decide +kernel
theorem dX5_removeAt_52 : decode cX5_removeAt 52 = .ok (.iconst 1, 1) := by decide +kernel
theorem dX5_removeAt_53 : decode cX5_removeAt 53 = .ok (.iadd, 1) := by decide +kernel
theorem dX5_removeAt_54 : decode cX5_removeAt 54 = .ok (.iaload, 1) := by decide +kernel
theorem dX5_removeAt_55 : decode cX5_removeAt 55 = .ok (.iastore, 1) := by decide +kernel
theorem dX5_removeAt_56 : decode cX5_removeAt 56 = .ok (.iinc 2 1, 3) := by decide +kernel
theorem dX5_removeAt_59 : decode cX5_removeAt 59 = .ok (.goto (-48), 3) := by decide +kernel
theorem dX5_removeAt_62 : decode cX5_removeAt 62 = .ok (.aload_n 0, 1) := by decide +kernel
theorem dX5_removeAt_63 : decode cX5_removeAt 63 = .ok (.dup, 1) := by decide +kernel
theorem dX5_removeAt_64 : decode cX5_removeAt 64 = .ok (.getfield 18, 3) := by decide +kernel
theorem dX5_removeAt_67 : decode cX5_removeAt 67 = .ok (.iconst 1, 1) := by decide +kernel
theorem dX5_removeAt_68 : decode cX5_removeAt 68 = .ok (.isub, 1) := by decide +kernel
theorem dX5_removeAt_69 : decode cX5_removeAt 69 = .ok (.putfield 18, 3) := by decide +kernel
theorem dX5_removeAt_72 : decode cX5_removeAt 72 = .ok (.return_, 1) := by decide +kernel
theorem dX5_rawOutput_0 : decode cX5_rawOutput 0 = .ok (.aload_n 0, 1) := by decide +kernel
theorem dX5_rawOutput_1 : decode cX5_rawOutput 1 = .ok (.getfield 18, 3) := by decide +kernel
theorem dX5_rawOutput_4 : decode cX5_rawOutput 4 = .ok (.ifCond .le 11, 3) := by decide +kernel
theorem dX5_rawOutput_7 : decode cX5_rawOutput 7 = .ok (.aload_n 0, 1) := by decide +kernel
theorem dX5_rawOutput_8 : decode cX5_rawOutput 8 = .ok (.getfield 18, 3) := by decide +kernel
theorem dX5_rawOutput_11 : decode cX5_rawOutput 11 = .ok (.iconst 5, 1) := by decide +kernel
theorem dX5_rawOutput_12 : decode cX5_rawOutput 12 = .ok (.if_icmp .le 5, 3) := by decide +kernel
theorem dX5_rawOutput_15 : decode cX5_rawOutput 15 = .ok (.iconst 0, 1) := by decide +kernel
theorem dX5_rawOutput_16 : decode cX5_rawOutput 16 = .ok (.ireturn, 1) := by decide +kernel
theorem dX5_rawOutput_17 : decode cX5_rawOutput 17 = .ok (.iload_n 1, 1) := by decide +kernel
theorem dX5_rawOutput_18 : decode cX5_rawOutput 18 = .ok (.aload_n 0, 1) := by decide +kernel
theorem dX5_rawOutput_19 : decode cX5_rawOutput 19 = .ok (.getfield 9, 3) := by decide +kernel
theorem dX5_rawOutput_22 : decode cX5_rawOutput 22 = .ok (.iconst 0, 1) := by decide +kernel
theorem dX5_rawOutput_23 : decode cX5_rawOutput 23 = .ok (.iaload, 1) := by decide +kernel
theorem dX5_rawOutput_24 : decode cX5_rawOutput 24 = .ok (.if_icmp .gt 10, 3) := by decide +kernel
theorem dX5_rawOutput_27 : decode cX5_rawOutput 27 = .ok (.aload_n 0, 1) := by decide +kernel
theorem dX5_rawOutput_28 : decode cX5_rawOutput 28 = .ok (.getfield 15, 3) := by decide +kernel
theorem dX5_rawOutput_31 : decode cX5_rawOutput 31 = .ok (.iconst 0, 1) := by decide +kernel
theorem dX5_rawOutput_32 : decode cX5_rawOutput 32 = .ok (.iaload, 1) := by decide +kernel
theorem dX5_rawOutput_33 : decode cX5_rawOutput 33 = .ok (.ireturn, 1) := by decide +kernel
theorem dX5_rawOutput_34 : decode cX5_rawOutput 34 = .ok (.iconst 1, 1) := by decide +kernel
theorem dX5_rawOutput_35 : decode cX5_rawOutput 35 = .ok (.istore_n 2, 1) := by decide +kernel
theorem dX5_rawOutput_36 : decode cX5_rawOutput 36 = .ok (.iload_n 2, 1) := by decide +kernel
theorem dX5_rawOutput_37 : decode cX5_rawOutput 37 = .ok (.aload_n 0, 1) := by decide +kernel
theorem dX5_rawOutput_38 : decode cX5_rawOutput 38 = .ok (.getfield 18, 3) := by decide +kernel
theorem dX5_rawOutput_41 : decode cX5_rawOutput 41 = .ok (.if_icmp .ge 34, 3) := by decide +kernel
theorem dX5_rawOutput_44 : decode cX5_rawOutput 44 = .ok (.iload_n 2, 1) := by decide +kernel
theorem dX5_rawOutput_45 : decode cX5_rawOutput 45 = .ok (.iconst 5, 1) := by decide +kernel
theorem dX5_rawOutput_46 : decode cX5_rawOutput 46 = .ok (.if_icmp .ge 29, 3) := by decide +kernel
theorem dX5_rawOutput_49 : decode cX5_rawOutput 49 = .ok (.iload_n 1, 1) := by decide +kernel
theorem dX5_rawOutput_50 : decode cX5_rawOutput 50 = .ok (.aload_n 0, 1) := by decide +kernel
theorem dX5_rawOutput_51 : decode cX5_rawOutput 51 = .ok (.getfield 9, 3) := by decide +kernel
theorem dX5_rawOutput_54 : decode cX5_rawOutput 54 = .ok (.iload_n 2, 1) := by decide +kernel
theorem dX5_rawOutput_55 : decode cX5_rawOutput 55 = .ok (.iaload, 1) := by decide +kernel
theorem dX5_rawOutput_56 : decode cX5_rawOutput 56 = .ok (.if_icmp .gt 13, 3) := by decide +kernel
theorem dX5_rawOutput_59 : decode cX5_rawOutput 59 = .ok (.aload_n 0, 1) := by decide +kernel
theorem dX5_rawOutput_60 : decode cX5_rawOutput 60 = .ok (.iload_n 2, 1) := by decide +kernel
theorem dX5_rawOutput_61 : decode cX5_rawOutput 61 = .ok (.iconst 1, 1) := by decide +kernel
theorem dX5_rawOutput_62 : decode cX5_rawOutput 62 = .ok (.isub, 1) := by decide +kernel
theorem dX5_rawOutput_63 : decode cX5_rawOutput 63 = .ok (.iload_n 2, 1) := by decide +kernel
theorem dX5_rawOutput_64 : decode cX5_rawOutput 64 = .ok (.iload_n 1, 1) := by decide +kernel
theorem dX5_rawOutput_65 : decode cX5_rawOutput 65 = .ok (.invokevirtual 34, 3) := by decide +kernel
theorem dX5_rawOutput_68 : decode cX5_rawOutput 68 = .ok (.ireturn, 1) := by decide +kernel
theorem dX5_rawOutput_69 : decode cX5_rawOutput 69 = .ok (.iinc 2 1, 3) := by decide +kernel
theorem dX5_rawOutput_72 : decode cX5_rawOutput 72 = .ok (.goto (-36), 3) := by decide +kernel
theorem dX5_rawOutput_75 : decode cX5_rawOutput 75 = .ok (.aload_n 0, 1) := by decide +kernel
theorem dX5_rawOutput_76 : decode cX5_rawOutput 76 = .ok (.getfield 15, 3) := by decide +kernel
theorem dX5_rawOutput_79 : decode cX5_rawOutput 79 = .ok (.aload_n 0, 1) := by decide +kernel
theorem dX5_rawOutput_80 : decode cX5_rawOutput 80 = .ok (.getfield 18, 3) := by decide +kernel
theorem dX5_rawOutput_83 : decode cX5_rawOutput 83 = .ok (.iconst 1, 1) := by decide +kernel
theorem dX5_rawOutput_84 : decode cX5_rawOutput 84 = .ok (.isub, 1) := by decide +kernel
theorem dX5_rawOutput_85 : decode cX5_rawOutput 85 = .ok (.iaload, 1) := by decide +kernel
theorem dX5_rawOutput_86 : decode cX5_rawOutput 86 = .ok (.ireturn, 1) := by decide +kernel
theorem dX5_valueBetween_0 : decode cX5_valueBetween 0 = .ok (.aload_n 0, 1) := by decide +kernel
theorem dX5_valueBetween_1 : decode cX5_valueBetween 1 = .ok (.getfield 9, 3) := by decide +kernel
theorem dX5_valueBetween_4 : decode cX5_valueBetween 4 = .ok (.iload_n 2, 1) := by decide +kernel
theorem dX5_valueBetween_5 : decode cX5_valueBetween 5 = .ok (.iaload, 1) := by decide +kernel
theorem dX5_valueBetween_6 : decode cX5_valueBetween 6 = .ok (.aload_n 0, 1) := by decide +kernel
theorem dX5_valueBetween_7 : decode cX5_valueBetween 7 = .ok (.getfield 9, 3) := by decide +kernel
theorem dX5_valueBetween_10 : decode cX5_valueBetween 10 = .ok (.iload_n 1, 1) := by decide +kernel
theorem dX5_valueBetween_11 : decode cX5_valueBetween 11 = .ok (.iaload, 1) := by decide +kernel
theorem dX5_valueBetween_12 : decode cX5_valueBetween 12 = .ok (.isub, 1) := by decide +kernel
theorem dX5_valueBetween_13 : decode cX5_valueBetween 13 = .ok (.istore 4, 2) := by decide +kernel
theorem dX5_valueBetween_15 : decode cX5_valueBetween 15 = .ok (.aload_n 0, 1) := by decide +kernel
theorem dX5_valueBetween_16 : decode cX5_valueBetween 16 = .ok (.getfield 15, 3) := by decide +kernel
theorem dX5_valueBetween_19 : decode cX5_valueBetween 19 = .ok (.iload_n 2, 1) := by decide +kernel
theorem dX5_valueBetween_20 : decode cX5_valueBetween 20 = .ok (.iaload, 1) := by decide +kernel
theorem dX5_valueBetween_21 : decode cX5_valueBetween 21 = .ok (.aload_n 0, 1) := by decide +kernel
theorem dX5_valueBetween_22 : decode cX5_valueBetween 22 = .ok (.getfield 15, 3) := by decide +kernel
theorem dX5_valueBetween_25 : decode cX5_valueBetween 25 = .ok (.iload_n 1, 1) := by decide +kernel
theorem dX5_valueBetween_26 : decode cX5_valueBetween 26 = .ok (.iaload, 1) := by decide +kernel
theorem dX5_valueBetween_27 : decode cX5_valueBetween 27 = .ok (.isub, 1) := by decide +kernel
theorem dX5_valueBetween_28 : decode cX5_valueBetween 28 = .ok (.istore 5, 2) := by decide +kernel
theorem dX5_valueBetween_30 : decode cX5_valueBetween 30 = .ok (.iload 4, 2) := by decide +kernel
theorem dX5_valueBetween_32 : decode cX5_valueBetween 32 = .ok (.ifCond .le 27, 3) := by decide +kernel
theorem dX5_valueBetween_35 : decode cX5_valueBetween 35 = .ok (.aload_n 0, 1) := by decide +kernel
theorem dX5_valueBetween_36 : decode cX5_valueBetween 36 = .ok (.getfield 15, 3) := by decide +kernel
theorem dX5_valueBetween_39 : decode cX5_valueBetween 39 = .ok (.iload_n 1, 1) := by decide +kernel
theorem dX5_valueBetween_40 : decode cX5_valueBetween 40 = .ok (.iaload, 1) := by decide +kernel
theorem dX5_valueBetween_41 : decode cX5_valueBetween 41 = .ok (.iload 5, 2) := by decide +kernel
theorem dX5_valueBetween_43 : decode cX5_valueBetween 43 = .ok (.iload_n 3, 1) := by decide +kernel
theorem dX5_valueBetween_44 : decode cX5_valueBetween 44 = .ok (.aload_n 0, 1) := by decide +kernel
theorem dX5_valueBetween_45 : decode cX5_valueBetween 45 = .ok (.getfield 9, 3) := by decide +kernel
theorem dX5_valueBetween_48 : decode cX5_valueBetween 48 = .ok (.iload_n 1, 1) := by decide +kernel
theorem dX5_valueBetween_49 : decode cX5_valueBetween 49 = .ok (.iaload, 1) := by decide +kernel
theorem dX5_valueBetween_50 : decode cX5_valueBetween 50 = .ok (.isub, 1) := by decide +kernel
theorem dX5_valueBetween_51 : decode cX5_valueBetween 51 = .ok (.imul, 1) := by decide +kernel
theorem dX5_valueBetween_52 : decode cX5_valueBetween 52 = .ok (.iload 4, 2) := by decide +kernel
theorem dX5_valueBetween_54 : decode cX5_valueBetween 54 = .ok (.idiv, 1) := by decide +kernel
theorem dX5_valueBetween_55 : decode cX5_valueBetween 55 = .ok (.iadd, 1) := by decide +kernel
theorem dX5_valueBetween_56 : decode cX5_valueBetween 56 = .ok (.goto 4, 3) := by decide +kernel
theorem dX5_valueBetween_59 : decode cX5_valueBetween 59 = .ok (.iconst 0, 1) := by decide +kernel
theorem dX5_valueBetween_60 : decode cX5_valueBetween 60 = .ok (.ireturn, 1) := by decide +kernel
theorem dX5_takeOver_0 : decode cX5_takeOver 0 = .ok (.aload_n 1, 1) := by decide +kernel
theorem dX5_takeOver_1 : decode cX5_takeOver 1 = .ok (.getfield 9, 3) := by decide +kernel
theorem dX5_takeOver_4 : decode cX5_takeOver 4 = .ok (.aload_n 0, 1) := by decide +kernel
theorem dX5_takeOver_5 : decode cX5_takeOver 5 = .ok (.getfield 9, 3) := by decide +kernel
theorem dX5_takeOver_8 : decode cX5_takeOver 8 = .ok (.invokestatic 38, 3) := by decide +kernel
theorem dX5_takeOver_11 : decode cX5_takeOver 11 = .ok (.aload_n 1, 1) := by decide +kernel
theorem dX5_takeOver_12 : decode cX5_takeOver 12 = .ok (.getfield 15, 3) := by decide +kernel
theorem dX5_takeOver_15 : decode cX5_takeOver 15 = .ok (.aload_n 0, 1) := by decide +kernel
theorem dX5_takeOver_16 : decode cX5_takeOver 16 = .ok (.getfield 15, 3) := by decide +kernel
theorem dX5_takeOver_19 : decode cX5_takeOver 19 = .ok (.invokestatic 38, 3) := by decide +kernel
theorem dX5_takeOver_22 : decode cX5_takeOver 22 = .ok (.aload_n 0, 1) := by decide +kernel
theorem dX5_takeOver_23 : decode cX5_takeOver 23 = .ok (.aload_n 1, 1) := by decide +kernel
theorem dX5_takeOver_24 : decode cX5_takeOver 24 = .ok (.getfield 18, 3) := by decide +kernel
theorem dX5_takeOver_27 : decode cX5_takeOver 27 = .ok (.putfield 18, 3) := by decide +kernel
theorem dX5_takeOver_30 : decode cX5_takeOver 30 = .ok (.return_, 1) := by decide +kernel
theorem dX6_init_0 : decode cX6_init 0 = .ok (.aload_n 0, 1) := by decide +kernel
theorem dX6_init_1 : decode cX6_init 1 = .ok (.invokespecial 3, 3) := by decide +kernel
theorem dX6_init_4 : decode cX6_init 4 = .ok (.aload_n 0, 1) := by decide +kernel
theorem dX6_init_5 : decode cX6_init 5 = .ok (.sipush 201, 3) := by decide +kernel
theorem dX6_init_8 : decode cX6_init 8 = .ok (.newarray .int, 2) := by decide +kernel
theorem dX6_init_10 : decode cX6_init 10 = .ok (.putfield 9, 3) := by decide +kernel
theorem dX6_init_13 : decode cX6_init 13 = .ok (.aload_n 0, 1) := by decide +kernel
theorem dX6_init_14 : decode cX6_init 14 = .ok (.sipush 200, 3) := by decide +kernel
theorem dX6_init_17 : decode cX6_init 17 = .ok (.newarray .int, 2) := by decide +kernel
theorem dX6_init_19 : decode cX6_init 19 = .ok (.putfield 15, 3) := by decide +kernel
theorem dX6_init_22 : decode cX6_init 22 = .ok (.aload_n 0, 1) := by decide +kernel
theorem dX6_init_23 : decode cX6_init 23 = .ok (.sipush 200, 3) := by decide +kernel
theorem dX6_init_26 : decode cX6_init 26 = .ok (.newarray .int, 2) := by decide +kernel
theorem dX6_init_28 : decode cX6_init 28 = .ok (.putfield 18, 3) := by decide +kernel
theorem dX6_init_31 : decode cX6_init 31 = .ok (.aload_n 0, 1) := by decide +kernel
theorem dX6_init_32 : decode cX6_init 32 = .ok (.sipush 200, 3) := by decide +kernel
theorem dX6_init_35 : decode cX6_init 35 = .ok (.newarray .int, 2) := by decide +kernel
theorem dX6_init_37 : decode cX6_init 37 = .ok (.putfield 21, 3) := by decide +kernel
theorem dX6_init_40 : decode cX6_init 40 = .ok (.aload_n 0, 1) := by decide +kernel
theorem dX6_init_41 : decode cX6_init 41 = .ok (.sipush 200, 3) := by decide +kernel
theorem dX6_init_44 : decode cX6_init 44 = .ok (.newarray .int, 2) := by decide +kernel
theorem dX6_init_46 : decode cX6_init 46 = .ok (.putfield 24, 3) := by decide +kernel
theorem dX6_init_49 : decode cX6_init 49 = .ok (.aload_n 0, 1) := by decide +kernel
theorem dX6_init_50 : decode cX6_init 50 = .ok (.sipush 200, 3) := by decide +kernel
theorem dX6_init_53 : decode cX6_init 53 = .ok (.newarray .int, 2) := by decide +kernel
theorem dX6_init_55 : decode cX6_init 55 = .ok (.putfield 27, 3) := by decide +kernel
theorem dX6_init_58 : decode cX6_init 58 = .ok (.aload_n 0, 1) := by decide +kernel
theorem dX6_init_59 : decode cX6_init 59 = .ok (.iconst 0, 1) := by decide +kernel
theorem dX6_init_60 : decode cX6_init 60 = .ok (.putfield 30, 3) := by decide +kernel
theorem dX6_init_63 : decode cX6_init 63 = .ok (.return_, 1) := by decide +kernel
theorem dX6_isMade_0 : decode cX6_isMade 0 = .ok (.aload_n 0, 1) := by decide +kernel
theorem dX6_isMade_1 : decode cX6_isMade 1 = .ok (.getfield 30, 3) := by decide +kernel
theorem dX6_isMade_4 : decode cX6_isMade 4 = .ok (.ifCond .le 17, 3) := by decide +kernel
theorem dX6_isMade_7 : decode cX6_isMade 7 = .ok (.aload_n 0, 1) := by decide +kernel
theorem dX6_isMade_8 : decode cX6_isMade 8 = .ok (.getfield 30, 3) := by decide +kernel
theorem dX6_isMade_11 : decode cX6_isMade 11 = .ok (.sipush 200, 3) := by decide +kernel
theorem dX6_isMade_14 : decode cX6_isMade 14 = .ok (.if_icmp .gt 7, 3) := by decide +kernel
theorem dX6_isMade_17 : decode cX6_isMade 17 = .ok (.iconst 1, 1) := by decide +kernel
theorem dX6_isMade_18 : decode cX6_isMade 18 = .ok (.goto 4, 3) := by decide +kernel
theorem dX6_isMade_21 : decode cX6_isMade 21 = .ok (.iconst 0, 1) := by decide +kernel
theorem dX6_isMade_22 : decode cX6_isMade 22 = .ok (.ireturn, 1) := by decide +kernel
theorem dX6_part_0 : decode cX6_part 0 = .ok (.iload_n 2, 1) := by decide +kernel
theorem dX6_part_1 : decode cX6_part 1 = .ok (.ifCond .ne 25, 3) := by decide +kernel
theorem dX6_part_4 : decode cX6_part 4 = .ok (.iload_n 1, 1) := by decide +kernel
theorem dX6_part_5 : decode cX6_part 5 = .ok (.iconst 0, 1) := by decide +kernel
theorem dX6_part_6 : decode cX6_part 6 = .ok (.sipush 200, 3) := by decide +kernel
theorem dX6_part_9 : decode cX6_part 9 = .ok (.invokestatic 34, 3) := by decide +kernel
theorem dX6_part_12 : decode cX6_part 12 = .ok (.ifCond .eq 12, 3) := by decide +kernel
theorem dX6_part_15 : decode cX6_part 15 = .ok (.aload_n 0, 1) := by decide +kernel
theorem dX6_part_16 : decode cX6_part 16 = .ok (.getfield 9, 3) := by decide +kernel
theorem dX6_part_19 : decode cX6_part 19 = .ok (.iload_n 1, 1) := by decide +kernel
theorem dX6_part_20 : decode cX6_part 20 = .ok (.iaload, 1) := by decide +kernel
theorem dX6_part_21 : decode cX6_part 21 = .ok (.goto 4, 3) := by decide +kernel
theorem dX6_part_24 : decode cX6_part 24 = .ok (.iconst 0, 1) := by decide +kernel
theorem dX6_part_25 : decode cX6_part 25 = .ok (.ireturn, 1) := by decide +kernel
theorem dX6_part_26 : decode cX6_part 26 = .ok (.iload_n 1, 1) := by decide +kernel
theorem dX6_part_27 : decode cX6_part 27 = .ok (.iconst 0, 1) := by decide +kernel
theorem dX6_part_28 : decode cX6_part 28 = .ok (.sipush 199, 3) := by decide +kernel
theorem dX6_part_31 : decode cX6_part 31 = .ok (.invokestatic 34, 3) := by decide +kernel
theorem dX6_part_34 : decode cX6_part 34 = .ok (.ifCond .ne 5, 3) := by decide +kernel
theorem dX6_part_37 : decode cX6_part 37 = .ok (.iconst 0, 1) := by decide +kernel
theorem dX6_part_38 : decode cX6_part 38 = .ok (.ireturn, 1) := by decide +kernel
theorem dX6_part_39 : decode cX6_part 39 = .ok (.iload_n 2, 1) := by decide +kernel
theorem dX6_part_40 : decode cX6_part 40 = .ok (.tableswitch 60 1 4 #[32, 39, 46, 53], 32) := by decide +kernel
theorem dX6_part_72 : decode cX6_part 72 = .ok (.aload_n 0, 1) := by decide +kernel
theorem dX6_part_73 : decode cX6_part 73 = .ok (.getfield 15, 3) := by decide +kernel
theorem dX6_part_76 : decode cX6_part 76 = .ok (.iload_n 1, 1) := by decide +kernel
theorem dX6_part_77 : decode cX6_part 77 = .ok (.iaload, 1) := by decide +kernel
theorem dX6_part_78 : decode cX6_part 78 = .ok (.ireturn, 1) := by decide +kernel
theorem dX6_part_79 : decode cX6_part 79 = .ok (.aload_n 0, 1) := by decide +kernel
theorem dX6_part_80 : decode cX6_part 80 = .ok (.getfield 18, 3) := by decide +kernel
theorem dX6_part_83 : decode cX6_part 83 = .ok (.iload_n 1, 1) := by decide +kernel
theorem dX6_part_84 : decode cX6_part 84 = .ok (.iaload, 1) := by decide +kernel
theorem dX6_part_85 : decode cX6_part 85 = .ok (.ireturn, 1) := by decide +kernel
theorem dX6_part_86 : decode cX6_part 86 = .ok (.aload_n 0, 1) := by decide +kernel
theorem dX6_part_87 : decode cX6_part 87 = .ok (.getfield 21, 3) := by decide +kernel
theorem dX6_part_90 : decode cX6_part 90 = .ok (.iload_n 1, 1) := by decide +kernel
theorem dX6_part_91 : decode cX6_part 91 = .ok (.iaload, 1) := by decide +kernel
theorem dX6_part_92 : decode cX6_part 92 = .ok (.ireturn, 1) := by decide +kernel
theorem dX6_part_93 : decode cX6_part 93 = .ok (.aload_n 0, 1) := by decide +kernel
theorem dX6_part_94 : decode cX6_part 94 = .ok (.getfield 24, 3) := by decide +kernel
theorem dX6_part_97 : decode cX6_part 97 = .ok (.iload_n 1, 1) := by decide +kernel
theorem dX6_part_98 : decode cX6_part 98 = .ok (.iaload, 1) := by decide +kernel
theorem dX6_part_99 : decode cX6_part 99 = .ok (.ireturn, 1) := by decide +kernel
theorem dX6_part_100 : decode cX6_part 100 = .ok (.aload_n 0, 1) := by decide +kernel
theorem dX6_part_101 : decode cX6_part 101 = .ok (.getfield 27, 3) := by decide +kernel
theorem dX6_part_104 : decode cX6_part 104 = .ok (.iload_n 1, 1) := by decide +kernel
theorem dX6_part_105 : decode cX6_part 105 = .ok (.iaload, 1) := by decide +kernel
theorem dX6_part_106 : decode cX6_part 106 = .ok (.ireturn, 1) := by decide +kernel
theorem dX6_seenChange_0 : decode cX6_seenChange 0 = .ok (.iload_n 1, 1) := by decide +kernel
theorem dX6_seenChange_1 : decode cX6_seenChange 1 = .ok (.iconst 1, 1) := by decide +kernel
theorem dX6_seenChange_2 : decode cX6_seenChange 2 = .ok (.sipush 199, 3) := by decide +kernel
theorem dX6_seenChange_5 : decode cX6_seenChange 5 = .ok (.invokestatic 34, 3) := by decide +kernel
theorem dX6_seenChange_8 : decode cX6_seenChange 8 = .ok (.ifCond .eq 21, 3) := by decide +kernel
theorem dX6_seenChange_11 : decode cX6_seenChange 11 = .ok (.aload_n 0, 1) := by decide +kernel
theorem dX6_seenChange_12 : decode cX6_seenChange 12 = .ok (.getfield 15, 3) := by decide +kernel
theorem dX6_seenChange_15 : decode cX6_seenChange 15 = .ok (.iload_n 1, 1) := by decide +kernel
theorem dX6_seenChange_16 : decode cX6_seenChange 16 = .ok (.iaload, 1) := by decide +kernel
theorem dX6_seenChange_17 : decode cX6_seenChange 17 = .ok (.aload_n 0, 1) := by decide +kernel
theorem dX6_seenChange_18 : decode cX6_seenChange 18 = .ok (.getfield 15, 3) := by decide +kernel
theorem dX6_seenChange_21 : decode cX6_seenChange 21 = .ok (.iload_n 1, 1) := by decide +kernel
theorem dX6_seenChange_22 : decode cX6_seenChange 22 = .ok (.iconst 1, 1) := by decide +kernel
theorem dX6_seenChange_23 : decode cX6_seenChange 23 = .ok (.isub, 1) := by decide +kernel
theorem dX6_seenChange_24 : decode cX6_seenChange 24 = .ok (.iaload, 1) := by decide +kernel
theorem dX6_seenChange_25 : decode cX6_seenChange 25 = .ok (.isub, 1) := by decide +kernel
theorem dX6_seenChange_26 : decode cX6_seenChange 26 = .ok (.goto 4, 3) := by decide +kernel
theorem dX6_seenChange_29 : decode cX6_seenChange 29 = .ok (.iconst 0, 1) := by decide +kernel
theorem dX6_seenChange_30 : decode cX6_seenChange 30 = .ok (.ireturn, 1) := by decide +kernel
theorem dX6_measured_0 : decode cX6_measured 0 = .ok (.iload_n 1, 1) := by decide +kernel
theorem dX6_measured_1 : decode cX6_measured 1 = .ok (.tableswitch 79 0 6 #[43, 48, 53, 58, 64, 69, 74], 43) := by decide +kernel
theorem dX6_measured_44 : decode cX6_measured 44 = .ok (.aload_n 0, 1) := by decide +kernel
theorem dX6_measured_45 : decode cX6_measured 45 = .ok (.invokevirtual 38, 3) := by decide +kernel
theorem dX6_measured_48 : decode cX6_measured 48 = .ok (.ireturn, 1) := by decide +kernel
theorem dX6_measured_49 : decode cX6_measured 49 = .ok (.aload_n 0, 1) := by decide +kernel
theorem dX6_measured_50 : decode cX6_measured 50 = .ok (.invokevirtual 42, 3) := by decide +kernel
theorem dX6_measured_53 : decode cX6_measured 53 = .ok (.ireturn, 1) := by decide +kernel
theorem dX6_measured_54 : decode cX6_measured 54 = .ok (.aload_n 0, 1) := by decide +kernel
theorem dX6_measured_55 : decode cX6_measured 55 = .ok (.invokevirtual 45, 3) := by decide +kernel
theorem dX6_measured_58 : decode cX6_measured 58 = .ok (.ireturn, 1) := by decide +kernel
theorem dX6_measured_59 : decode cX6_measured 59 = .ok (.aload_n 0, 1) := by decide +kernel
theorem dX6_measured_60 : decode cX6_measured 60 = .ok (.iload_n 2, 1) := by decide +kernel
theorem dX6_measured_61 : decode cX6_measured 61 = .ok (.invokevirtual 48, 3) := by decide +kernel
theorem dX6_measured_64 : decode cX6_measured 64 = .ok (.ireturn, 1) := by decide +kernel
theorem dX6_measured_65 : decode cX6_measured 65 = .ok (.aload_n 0, 1) := by decide +kernel
theorem dX6_measured_66 : decode cX6_measured 66 = .ok (.invokevirtual 52, 3) := by decide +kernel
theorem dX6_measured_69 : decode cX6_measured 69 = .ok (.ireturn, 1) := by decide +kernel
theorem dX6_measured_70 : decode cX6_measured 70 = .ok (.aload_n 0, 1) := by decide +kernel
theorem dX6_measured_71 : decode cX6_measured 71 = .ok (.invokevirtual 55, 3) := by decide +kernel
theorem dX6_measured_74 : decode cX6_measured 74 = .ok (.ireturn, 1) := by decide +kernel
theorem dX6_measured_75 : decode cX6_measured 75 = .ok (.aload_n 0, 1) := by decide +kernel
theorem dX6_measured_76 : decode cX6_measured 76 = .ok (.invokevirtual 58, 3) := by decide +kernel
theorem dX6_measured_79 : decode cX6_measured 79 = .ok (.ireturn, 1) := by decide +kernel
theorem dX6_measured_80 : decode cX6_measured 80 = .ok (.aload_n 0, 1) := by decide +kernel
theorem dX6_measured_81 : decode cX6_measured 81 = .ok (.invokevirtual 61, 3) := by decide +kernel
theorem dX6_measured_84 : decode cX6_measured 84 = .ok (.ireturn, 1) := by decide +kernel
theorem dX6_weighted_0 : decode cX6_weighted 0 = .ok (.aload_n 1, 1) := by decide +kernel
theorem dX6_weighted_1 : decode cX6_weighted 1 = .ok (.arraylength, 1) := by decide +kernel
theorem dX6_weighted_2 : decode cX6_weighted 2 = .ok (.iconst 5, 1) := by decide +kernel
theorem dX6_weighted_3 : decode cX6_weighted 3 = .ok (.if_icmp .ge 5, 3) := by decide +kernel
theorem dX6_weighted_6 : decode cX6_weighted 6 = .ok (.lconst 0, 1) := by decide +kernel
theorem dX6_weighted_7 : decode cX6_weighted 7 = .ok (.lreturn, 1) := by decide +kernel
theorem dX6_weighted_8 : decode cX6_weighted 8 = .ok (.aload_n 0, 1) := by decide +kernel
theorem dX6_weighted_9 : decode cX6_weighted 9 = .ok (.iload_n 2, 1) := by decide +kernel
theorem dX6_weighted_10 : decode cX6_weighted 10 = .ok (.invokevirtual 48, 3) := by decide +kernel
theorem dX6_weighted_13 : decode cX6_weighted 13 = .ok (.istore_n 3, 1) := by decide +kernel
theorem dX6_weighted_14 : decode cX6_weighted 14 = .ok (.aload_n 1, 1) := by decide +kernel
theorem dX6_weighted_15 : decode cX6_weighted 15 = .ok (.iconst 0, 1) := by decide +kernel
theorem dX6_weighted_16 : decode cX6_weighted 16 = .ok (.iaload, 1) := by decide +kernel
theorem dX6_weighted_17 : decode cX6_weighted 17 = .ok (.i2l, 1) := by decide +kernel
theorem dX6_weighted_18 : decode cX6_weighted 18 = .ok (.aload_n 0, 1) := by decide +kernel
theorem dX6_weighted_19 : decode cX6_weighted 19 = .ok (.invokevirtual 38, 3) := by decide +kernel
theorem dX6_weighted_22 : decode cX6_weighted 22 = .ok (.i2l, 1) := by decide +kernel
theorem dX6_weighted_23 : decode cX6_weighted 23 = .ok (.lmul, 1) := by decide +kernel
theorem dX6_weighted_24 : decode cX6_weighted 24 = .ok (.lstore 4, 2) := by decide +kernel
theorem dX6_weighted_26 : decode cX6_weighted 26 = .ok (.lload 4, 2) := by decide +kernel
theorem dX6_weighted_28 : decode cX6_weighted 28 = .ok (.aload_n 1, 1) := by decide +kernel
theorem dX6_weighted_29 : decode cX6_weighted 29 = .ok (.iconst 1, 1) := by decide +kernel
theorem dX6_weighted_30 : decode cX6_weighted 30 = .ok (.iaload, 1) := by decide +kernel
theorem dX6_weighted_31 : decode cX6_weighted 31 = .ok (.i2l, 1) := by decide +kernel
theorem dX6_weighted_32 : decode cX6_weighted 32 = .ok (.aload_n 0, 1) := by decide +kernel
theorem dX6_weighted_33 : decode cX6_weighted 33 = .ok (.invokevirtual 45, 3) := by decide +kernel
theorem dX6_weighted_36 : decode cX6_weighted 36 = .ok (.i2l, 1) := by decide +kernel
theorem dX6_weighted_37 : decode cX6_weighted 37 = .ok (.lmul, 1) := by decide +kernel
theorem dX6_weighted_38 : decode cX6_weighted 38 = .ok (.ladd, 1) := by decide +kernel
theorem dX6_weighted_39 : decode cX6_weighted 39 = .ok (.lstore 4, 2) := by decide +kernel
theorem dX6_weighted_41 : decode cX6_weighted 41 = .ok (.lload 4, 2) := by decide +kernel
theorem dX6_weighted_43 : decode cX6_weighted 43 = .ok (.aload_n 1, 1) := by decide +kernel
theorem dX6_weighted_44 : decode cX6_weighted 44 = .ok (.iconst 2, 1) := by decide +kernel
theorem dX6_weighted_45 : decode cX6_weighted 45 = .ok (.iaload, 1) := by decide +kernel
theorem dX6_weighted_46 : decode cX6_weighted 46 = .ok (.i2l, 1) := by decide +kernel
theorem dX6_weighted_47 : decode cX6_weighted 47 = .ok (.aload_n 0, 1) := by decide +kernel
theorem dX6_weighted_48 : decode cX6_weighted 48 = .ok (.invokevirtual 55, 3) := by decide +kernel
theorem dX6_weighted_51 : decode cX6_weighted 51 = .ok (.i2l, 1) := by decide +kernel
theorem dX6_weighted_52 : decode cX6_weighted 52 = .ok (.lmul, 1) := by decide +kernel
theorem dX6_weighted_53 : decode cX6_weighted 53 = .ok (.ladd, 1) := by decide +kernel
theorem dX6_weighted_54 : decode cX6_weighted 54 = .ok (.lstore 4, 2) := by decide +kernel
theorem dX6_weighted_56 : decode cX6_weighted 56 = .ok (.lload 4, 2) := by decide +kernel
theorem dX6_weighted_58 : decode cX6_weighted 58 = .ok (.aload_n 1, 1) := by decide +kernel
theorem dX6_weighted_59 : decode cX6_weighted 59 = .ok (.iconst 3, 1) := by decide +kernel
theorem dX6_weighted_60 : decode cX6_weighted 60 = .ok (.iaload, 1) := by decide +kernel
theorem dX6_weighted_61 : decode cX6_weighted 61 = .ok (.i2l, 1) := by decide +kernel
theorem dX6_weighted_62 : decode cX6_weighted 62 = .ok (.aload_n 0, 1) := by decide +kernel
theorem dX6_weighted_63 : decode cX6_weighted 63 = .ok (.invokevirtual 58, 3) := by decide +kernel
theorem dX6_weighted_66 : decode cX6_weighted 66 = .ok (.i2l, 1) := by decide +kernel
theorem dX6_weighted_67 : decode cX6_weighted 67 = .ok (.lmul, 1) := by decide +kernel
theorem dX6_weighted_68 : decode cX6_weighted 68 = .ok (.ladd, 1) := by decide +kernel
theorem dX6_weighted_69 : decode cX6_weighted 69 = .ok (.lstore 4, 2) := by decide +kernel
theorem dX6_weighted_71 : decode cX6_weighted 71 = .ok (.lload 4, 2) := by decide +kernel
theorem dX6_weighted_73 : decode cX6_weighted 73 = .ok (.aload_n 1, 1) := by decide +kernel
theorem dX6_weighted_74 : decode cX6_weighted 74 = .ok (.iconst 4, 1) := by decide +kernel
theorem dX6_weighted_75 : decode cX6_weighted 75 = .ok (.iaload, 1) := by decide +kernel
theorem dX6_weighted_76 : decode cX6_weighted 76 = .ok (.i2l, 1) := by decide +kernel
theorem dX6_weighted_77 : decode cX6_weighted 77 = .ok (.iload_n 3, 1) := by decide +kernel
theorem dX6_weighted_78 : decode cX6_weighted 78 = .ok (.iconst (-1), 1) := by decide +kernel
theorem dX6_weighted_79 : decode cX6_weighted 79 = .ok (.if_icmp .ne 9, 3) := by decide +kernel
theorem dX6_weighted_82 : decode cX6_weighted 82 = .ok (.sipush 1000, 3) := by decide +kernel
theorem dX6_weighted_85 : decode cX6_weighted 85 = .ok (.goto 4, 3) := by decide +kernel
theorem dX6_weighted_88 : decode cX6_weighted 88 = .ok (.iload_n 3, 1) := by decide +kernel
theorem dX6_weighted_89 : decode cX6_weighted 89 = .ok (.i2l, 1) := by decide +kernel
theorem dX6_weighted_90 : decode cX6_weighted 90 = .ok (.lmul, 1) := by decide +kernel
theorem dX6_weighted_91 : decode cX6_weighted 91 = .ok (.ladd, 1) := by decide +kernel
theorem dX6_weighted_92 : decode cX6_weighted 92 = .ok (.lstore 4, 2) := by decide +kernel
theorem dX6_weighted_94 : decode cX6_weighted 94 = .ok (.lload 4, 2) := by decide +kernel
theorem dX6_weighted_96 : decode cX6_weighted 96 = .ok (.lreturn, 1) := by decide +kernel
theorem dX6_lastError_0 : decode cX6_lastError 0 = .ok (.aload_n 0, 1) := by decide +kernel
theorem dX6_lastError_1 : decode cX6_lastError 1 = .ok (.invokevirtual 64, 3) := by decide +kernel
theorem dX6_lastError_4 : decode cX6_lastError 4 = .ok (.ifCond .eq 15, 3) := by decide +kernel
theorem dX6_lastError_7 : decode cX6_lastError 7 = .ok (.aload_n 0, 1) := by decide +kernel
theorem dX6_lastError_8 : decode cX6_lastError 8 = .ok (.getfield 9, 3) := by decide +kernel
theorem dX6_lastError_11 : decode cX6_lastError 11 = .ok (.aload_n 0, 1) := by decide +kernel
theorem dX6_lastError_12 : decode cX6_lastError 12 = .ok (.getfield 30, 3) := by decide +kernel
theorem dX6_lastError_15 : decode cX6_lastError 15 = .ok (.iaload, 1) := by decide +kernel
theorem dX6_lastError_16 : decode cX6_lastError 16 = .ok (.goto 4, 3) := by decide +kernel
theorem dX6_lastError_19 : decode cX6_lastError 19 = .ok (.iconst 0, 1) := by decide +kernel
theorem dX6_lastError_20 : decode cX6_lastError 20 = .ok (.ireturn, 1) := by decide +kernel
theorem dX6_sumOfErrors_0 : decode cX6_sumOfErrors 0 = .ok (.iconst 0, 1) := by decide +kernel
theorem dX6_sumOfErrors_1 : decode cX6_sumOfErrors 1 = .ok (.istore_n 1, 1) := by decide +kernel
theorem dX6_sumOfErrors_2 : decode cX6_sumOfErrors 2 = .ok (.iconst 0, 1) := by decide +kernel
theorem dX6_sumOfErrors_3 : decode cX6_sumOfErrors 3 = .ok (.istore_n 2, 1) := by decide +kernel
theorem dX6_sumOfErrors_4 : decode cX6_sumOfErrors 4 = .ok (.iload_n 2, 1) := by decide +kernel
theorem dX6_sumOfErrors_5 : decode cX6_sumOfErrors 5 = .ok (.aload_n 0, 1) := by decide +kernel
theorem dX6_sumOfErrors_6 : decode cX6_sumOfErrors 6 = .ok (.getfield 30, 3) := by decide +kernel
theorem dX6_sumOfErrors_9 : decode cX6_sumOfErrors 9 = .ok (.if_icmp .gt 28, 3) := by decide +kernel
theorem dX6_sumOfErrors_12 : decode cX6_sumOfErrors 12 = .ok (.iload_n 2, 1) := by decide +kernel
theorem dX6_sumOfErrors_13 : decode cX6_sumOfErrors 13 = .ok (.sipush 200, 3) := by decide +kernel
theorem dX6_sumOfErrors_16 : decode cX6_sumOfErrors 16 = .ok (.if_icmp .gt 21, 3) := by decide +kernel
theorem dX6_sumOfErrors_19 : decode cX6_sumOfErrors 19 = .ok (.iload_n 1, 1) := by decide +kernel
theorem dX6_sumOfErrors_20 : decode cX6_sumOfErrors 20 = .ok (.aload_n 0, 1) := by decide +kernel
theorem dX6_sumOfErrors_21 : decode cX6_sumOfErrors 21 = .ok (.getfield 9, 3) := by decide +kernel
theorem dX6_sumOfErrors_24 : decode cX6_sumOfErrors 24 = .ok (.iload_n 2, 1) := by decide +kernel
theorem dX6_sumOfErrors_25 : decode cX6_sumOfErrors 25 = .ok (.iaload, 1) := by decide +kernel
theorem dX6_sumOfErrors_26 : decode cX6_sumOfErrors 26 = .ok (.invokestatic 68, 3) := by decide +kernel
theorem dX6_sumOfErrors_29 : decode cX6_sumOfErrors 29 = .ok (.iadd, 1) := by decide +kernel
theorem dX6_sumOfErrors_30 : decode cX6_sumOfErrors 30 = .ok (.istore_n 1, 1) := by decide +kernel
theorem dX6_sumOfErrors_31 : decode cX6_sumOfErrors 31 = .ok (.iinc 2 1, 3) := by decide +kernel
theorem dX6_sumOfErrors_34 : decode cX6_sumOfErrors 34 = .ok (.goto (-30), 3) := by decide +kernel
theorem dX6_sumOfErrors_37 : decode cX6_sumOfErrors 37 = .ok (.iload_n 1, 1) := by decide +kernel
theorem dX6_sumOfErrors_38 : decode cX6_sumOfErrors 38 = .ok (.ireturn, 1) := by decide +kernel
theorem dX6_greatestError_0 : decode cX6_greatestError 0 = .ok (.iconst 0, 1) := by decide +kernel
theorem dX6_greatestError_1 : decode cX6_greatestError 1 = .ok (.istore_n 1, 1) := by decide +kernel
theorem dX6_greatestError_2 : decode cX6_greatestError 2 = .ok (.iconst 1, 1) := by decide +kernel
theorem dX6_greatestError_3 : decode cX6_greatestError 3 = .ok (.istore_n 2, 1) := by decide +kernel
theorem dX6_greatestError_4 : decode cX6_greatestError 4 = .ok (.iload_n 2, 1) := by decide +kernel
theorem dX6_greatestError_5 : decode cX6_greatestError 5 = .ok (.aload_n 0, 1) := by decide +kernel
theorem dX6_greatestError_6 : decode cX6_greatestError 6 = .ok (.getfield 30, 3) := by decide +kernel
theorem dX6_greatestError_9 : decode cX6_greatestError 9 = .ok (.if_icmp .gt 30, 3) := by decide +kernel
theorem dX6_greatestError_12 : decode cX6_greatestError 12 = .ok (.iload_n 2, 1) := by decide +kernel
theorem dX6_greatestError_13 : decode cX6_greatestError 13 = .ok (.sipush 200, 3) := by decide +kernel
theorem dX6_greatestError_16 : decode cX6_greatestError 16 = .ok (.if_icmp .gt 23, 3) := by decide +kernel
theorem dX6_greatestError_19 : decode cX6_greatestError 19 = .ok (.iload_n 1, 1) := by decide +kernel
theorem dX6_greatestError_20 : decode cX6_greatestError 20 = .ok (.aload_n 0, 1) := by decide +kernel
theorem dX6_greatestError_21 : decode cX6_greatestError 21 = .ok (.getfield 9, 3) := by decide +kernel
theorem dX6_greatestError_24 : decode cX6_greatestError 24 = .ok (.iload_n 2, 1) := by decide +kernel
theorem dX6_greatestError_25 : decode cX6_greatestError 25 = .ok (.iaload, 1) := by decide +kernel
theorem dX6_greatestError_26 : decode cX6_greatestError 26 = .ok (.invokestatic 68, 3) := by decide +kernel
theorem dX6_greatestError_29 : decode cX6_greatestError 29 = .ok (.invokestatic 73, 3) := by decide +kernel
theorem dX6_greatestError_32 : decode cX6_greatestError 32 = .ok (.istore_n 1, 1) := by decide +kernel
theorem dX6_greatestError_33 : decode cX6_greatestError 33 = .ok (.iinc 2 1, 3) := by decide +kernel
theorem dX6_greatestError_36 : decode cX6_greatestError 36 = .ok (.goto (-32), 3) := by decide +kernel
theorem dX6_greatestError_39 : decode cX6_greatestError 39 = .ok (.iload_n 1, 1) := by decide +kernel
theorem dX6_greatestError_40 : decode cX6_greatestError 40 = .ok (.ireturn, 1) := by decide +kernel
theorem dX6_overshoot_0 : decode cX6_overshoot 0 = .ok (.iconst 0, 1) := by decide +kernel
theorem dX6_overshoot_1 : decode cX6_overshoot 1 = .ok (.istore_n 1, 1) := by decide +kernel
theorem dX6_overshoot_2 : decode cX6_overshoot 2 = .ok (.iconst 1, 1) := by decide +kernel
theorem dX6_overshoot_3 : decode cX6_overshoot 3 = .ok (.istore_n 2, 1) := by decide +kernel
theorem dX6_overshoot_4 : decode cX6_overshoot 4 = .ok (.iload_n 2, 1) := by decide +kernel
theorem dX6_overshoot_5 : decode cX6_overshoot 5 = .ok (.aload_n 0, 1) := by decide +kernel
theorem dX6_overshoot_6 : decode cX6_overshoot 6 = .ok (.getfield 30, 3) := by decide +kernel
theorem dX6_overshoot_9 : decode cX6_overshoot 9 = .ok (.if_icmp .gt 48, 3) := by decide +kernel
theorem dX6_overshoot_12 : decode cX6_overshoot 12 = .ok (.iload_n 2, 1) := by decide +kernel
theorem dX6_overshoot_13 : decode cX6_overshoot 13 = .ok (.sipush 200, 3) := by decide +kernel
theorem dX6_overshoot_16 : decode cX6_overshoot 16 = .ok (.if_icmp .gt 41, 3) := by decide +kernel
theorem dX6_overshoot_19 : decode cX6_overshoot 19 = .ok (.aload_n 0, 1) := by decide +kernel
theorem dX6_overshoot_20 : decode cX6_overshoot 20 = .ok (.getfield 9, 3) := by decide +kernel
theorem dX6_overshoot_23 : decode cX6_overshoot 23 = .ok (.iconst 0, 1) := by decide +kernel
theorem dX6_overshoot_24 : decode cX6_overshoot 24 = .ok (.iaload, 1) := by decide +kernel
theorem dX6_overshoot_25 : decode cX6_overshoot 25 = .ok (.aload_n 0, 1) := by decide +kernel
theorem dX6_overshoot_26 : decode cX6_overshoot 26 = .ok (.getfield 9, 3) := by decide +kernel
theorem dX6_overshoot_29 : decode cX6_overshoot 29 = .ok (.iload_n 2, 1) := by decide +kernel
theorem dX6_overshoot_30 : decode cX6_overshoot 30 = .ok (.iaload, 1) := by decide +kernel
theorem dX6_overshoot_31 : decode cX6_overshoot 31 = .ok (.invokestatic 77, 3) := by decide +kernel
theorem dX6_overshoot_34 : decode cX6_overshoot 34 = .ok (.ifCond .eq 17, 3) := by decide +kernel
theorem dX6_overshoot_37 : decode cX6_overshoot 37 = .ok (.iload_n 1, 1) := by decide +kernel
theorem dX6_overshoot_38 : decode cX6_overshoot 38 = .ok (.aload_n 0, 1) := by decide +kernel
theorem dX6_overshoot_39 : decode cX6_overshoot 39 = .ok (.getfield 9, 3) := by decide +kernel
theorem dX6_overshoot_42 : decode cX6_overshoot 42 = .ok (.iload_n 2, 1) := by decide +kernel
theorem dX6_overshoot_43 : decode cX6_overshoot 43 = .ok (.iaload, 1) := by decide +kernel
theorem dX6_overshoot_44 : decode cX6_overshoot 44 = .ok (.invokestatic 68, 3) := by decide +kernel
theorem dX6_overshoot_47 : decode cX6_overshoot 47 = .ok (.invokestatic 73, 3) := by decide +kernel
theorem dX6_overshoot_50 : decode cX6_overshoot 50 = .ok (.istore_n 1, 1) := by decide +kernel
theorem dX6_overshoot_51 : decode cX6_overshoot 51 = .ok (.iinc 2 1, 3) := by decide +kernel
theorem dX6_overshoot_54 : decode cX6_overshoot 54 = .ok (.goto (-50), 3) := by decide +kernel
theorem dX6_overshoot_57 : decode cX6_overshoot 57 = .ok (.iload_n 1, 1) := by decide +kernel
theorem dX6_overshoot_58 : decode cX6_overshoot 58 = .ok (.ireturn, 1) := by decide +kernel
theorem dX6_settlingStep_0 : decode cX6_settlingStep 0 = .ok (.iconst (-1), 1) := by decide +kernel
theorem dX6_settlingStep_1 : decode cX6_settlingStep 1 = .ok (.istore_n 2, 1) := by decide +kernel
theorem dX6_settlingStep_2 : decode cX6_settlingStep 2 = .ok (.aload_n 0, 1) := by decide +kernel
theorem dX6_settlingStep_3 : decode cX6_settlingStep 3 = .ok (.getfield 30, 3) := by decide +kernel
theorem dX6_settlingStep_6 : decode cX6_settlingStep 6 = .ok (.sipush 200, 3) := by decide +kernel
theorem dX6_settlingStep_9 : decode cX6_settlingStep 9 = .ok (.invokestatic 81, 3) := by decide +kernel
theorem dX6_settlingStep_12 : decode cX6_settlingStep 12 = .ok (.istore_n 3, 1) := by decide +kernel
theorem dX6_settlingStep_13 : decode cX6_settlingStep 13 = .ok (.iload_n 3, 1) := by decide +kernel
theorem dX6_settlingStep_14 : decode cX6_settlingStep 14 = .ok (.ifCond .lt 24, 3) := by decide +kernel
theorem dX6_settlingStep_17 : decode cX6_settlingStep 17 = .ok (.aload_n 0, 1) := by decide +kernel
theorem dX6_settlingStep_18 : decode cX6_settlingStep 18 = .ok (.getfield 9, 3) := by decide +kernel
theorem dX6_settlingStep_21 : decode cX6_settlingStep 21 = .ok (.iload_n 3, 1) := by decide +kernel
theorem dX6_settlingStep_22 : decode cX6_settlingStep 22 = .ok (.iaload, 1) := by decide +kernel
theorem dX6_settlingStep_23 : decode cX6_settlingStep 23 = .ok (.invokestatic 68, 3) := by decide +kernel
theorem dX6_settlingStep_26 : decode cX6_settlingStep 26 = .ok (.iload_n 1, 1) := by decide +kernel
theorem dX6_settlingStep_27 : decode cX6_settlingStep 27 = .ok (.if_icmp .gt 11, 3) := by decide +kernel
theorem dX6_settlingStep_30 : decode cX6_settlingStep 30 = .ok (.iload_n 3, 1) := by decide +kernel
theorem dX6_settlingStep_31 : decode cX6_settlingStep 31 = .ok (.istore_n 2, 1) := by decide +kernel
theorem dX6_settlingStep_32 : decode cX6_settlingStep 32 = .ok (.iinc 3 (-1), 3) := by decide +kernel
theorem dX6_settlingStep_35 : decode cX6_settlingStep 35 = .ok (.goto (-22), 3) := by decide +kernel
theorem dX6_settlingStep_38 : decode cX6_settlingStep 38 = .ok (.iload_n 2, 1) := by decide +kernel
theorem dX6_settlingStep_39 : decode cX6_settlingStep 39 = .ok (.ireturn, 1) := by decide +kernel
theorem dX6_crossings_0 : decode cX6_crossings 0 = .ok (.iconst 0, 1) := by decide +kernel
theorem dX6_crossings_1 : decode cX6_crossings 1 = .ok (.istore_n 1, 1) := by decide +kernel
theorem dX6_crossings_2 : decode cX6_crossings 2 = .ok (.iconst 0, 1) := by decide +kernel
theorem dX6_crossings_3 : decode cX6_crossings 3 = .ok (.istore_n 2, 1) := by decide +kernel
theorem dX6_crossings_4 : decode cX6_crossings 4 = .ok (.iload_n 2, 1) := by decide +kernel
theorem dX6_crossings_5 : decode cX6_crossings 5 = .ok (.aload_n 0, 1) := by decide +kernel
theorem dX6_crossings_6 : decode cX6_crossings 6 = .ok (.getfield 30, 3) := by decide +kernel
theorem dX6_crossings_9 : decode cX6_crossings 9 = .ok (.if_icmp .ge 39, 3) := by decide +kernel
theorem dX6_crossings_12 : decode cX6_crossings 12 = .ok (.iload_n 2, 1) := by decide +kernel
theorem dX6_crossings_13 : decode cX6_crossings 13 = .ok (.sipush 200, 3) := by decide +kernel
theorem dX6_crossings_16 : decode cX6_crossings 16 = .ok (.if_icmp .ge 32, 3) := by decide +kernel
theorem dX6_crossings_19 : decode cX6_crossings 19 = .ok (.aload_n 0, 1) := by decide +kernel
theorem dX6_crossings_20 : decode cX6_crossings 20 = .ok (.getfield 9, 3) := by decide +kernel
theorem dX6_crossings_23 : decode cX6_crossings 23 = .ok (.iload_n 2, 1) := by decide +kernel
theorem dX6_crossings_24 : decode cX6_crossings 24 = .ok (.iaload, 1) := by decide +kernel
theorem dX6_crossings_25 : decode cX6_crossings 25 = .ok (.aload_n 0, 1) := by decide +kernel
theorem dX6_crossings_26 : decode cX6_crossings 26 = .ok (.getfield 9, 3) := by decide +kernel
theorem dX6_crossings_29 : decode cX6_crossings 29 = .ok (.iload_n 2, 1) := by decide +kernel
theorem dX6_crossings_30 : decode cX6_crossings 30 = .ok (.iconst 1, 1) := by decide +kernel
theorem dX6_crossings_31 : decode cX6_crossings 31 = .ok (.iadd, 1) := by decide +kernel
theorem dX6_crossings_32 : decode cX6_crossings 32 = .ok (.iaload, 1) := by decide +kernel
theorem dX6_crossings_33 : decode cX6_crossings 33 = .ok (.invokestatic 77, 3) := by decide +kernel
theorem dX6_crossings_36 : decode cX6_crossings 36 = .ok (.ifCond .eq 6, 3) := by decide +kernel
theorem dX6_crossings_39 : decode cX6_crossings 39 = .ok (.iinc 1 1, 3) := by decide +kernel
theorem dX6_crossings_42 : decode cX6_crossings 42 = .ok (.iinc 2 1, 3) := by decide +kernel
theorem dX6_crossings_45 : decode cX6_crossings 45 = .ok (.goto (-41), 3) := by decide +kernel
theorem dX6_crossings_48 : decode cX6_crossings 48 = .ok (.iload_n 1, 1) := by decide +kernel
theorem dX6_crossings_49 : decode cX6_crossings 49 = .ok (.ireturn, 1) := by decide +kernel
theorem dX6_areOpposite_0 : decode cX6_areOpposite 0 = .ok (.iload_n 0, 1) := by decide +kernel
theorem dX6_areOpposite_1 : decode cX6_areOpposite 1 = .ok (.ifCond .le 7, 3) := by decide +kernel
theorem dX6_areOpposite_4 : decode cX6_areOpposite 4 = .ok (.iload_n 1, 1) := by decide +kernel
theorem dX6_areOpposite_5 : decode cX6_areOpposite 5 = .ok (.ifCond .lt 11, 3) := by decide +kernel
theorem dX6_areOpposite_8 : decode cX6_areOpposite 8 = .ok (.iload_n 0, 1) := by decide +kernel
theorem dX6_areOpposite_9 : decode cX6_areOpposite 9 = .ok (.ifCond .ge 11, 3) := by decide +kernel
theorem dX6_areOpposite_12 : decode cX6_areOpposite 12 = .ok (.iload_n 1, 1) := by decide +kernel
theorem dX6_areOpposite_13 : decode cX6_areOpposite 13 = .ok (.ifCond .le 7, 3) := by decide +kernel
theorem dX6_areOpposite_16 : decode cX6_areOpposite 16 = .ok (.iconst 1, 1) := by decide +kernel
theorem dX6_areOpposite_17 : decode cX6_areOpposite 17 = .ok (.goto 4, 3) := by decide +kernel
theorem dX6_areOpposite_20 : decode cX6_areOpposite 20 = .ok (.iconst 0, 1) := by decide +kernel
theorem dX6_areOpposite_21 : decode cX6_areOpposite 21 = .ok (.ireturn, 1) := by decide +kernel
theorem dX6_saturatedSteps_0 : decode cX6_saturatedSteps 0 = .ok (.iconst 0, 1) := by decide +kernel
theorem dX6_saturatedSteps_1 : decode cX6_saturatedSteps 1 = .ok (.istore_n 1, 1) := by decide +kernel
theorem dX6_saturatedSteps_2 : decode cX6_saturatedSteps 2 = .ok (.iconst 0, 1) := by decide +kernel
theorem dX6_saturatedSteps_3 : decode cX6_saturatedSteps 3 = .ok (.istore_n 2, 1) := by decide +kernel
theorem dX6_saturatedSteps_4 : decode cX6_saturatedSteps 4 = .ok (.iload_n 2, 1) := by decide +kernel
theorem dX6_saturatedSteps_5 : decode cX6_saturatedSteps 5 = .ok (.aload_n 0, 1) := by decide +kernel
theorem dX6_saturatedSteps_6 : decode cX6_saturatedSteps 6 = .ok (.getfield 30, 3) := by decide +kernel
theorem dX6_saturatedSteps_9 : decode cX6_saturatedSteps 9 = .ok (.if_icmp .ge 25, 3) := by decide +kernel
theorem dX6_saturatedSteps_12 : decode cX6_saturatedSteps 12 = .ok (.iload_n 2, 1) := by decide +kernel
theorem dX6_saturatedSteps_13 : decode cX6_saturatedSteps 13 = .ok (.sipush 200, 3) := by decide +kernel
theorem dX6_saturatedSteps_16 : decode cX6_saturatedSteps 16 = .ok (.if_icmp .ge 18, 3) := by decide +kernel
theorem dX6_saturatedSteps_19 : decode cX6_saturatedSteps 19 = .ok (.iload_n 1, 1) := by decide +kernel
theorem dX6_saturatedSteps_20 : decode cX6_saturatedSteps 20 = .ok (.aload_n 0, 1) := by decide +kernel
theorem dX6_saturatedSteps_21 : decode cX6_saturatedSteps 21 = .ok (.getfield 27, 3) := by decide +kernel
theorem dX6_saturatedSteps_24 : decode cX6_saturatedSteps 24 = .ok (.iload_n 2, 1) := by decide +kernel
theorem dX6_saturatedSteps_25 : decode cX6_saturatedSteps 25 = .ok (.iaload, 1) := by decide +kernel
theorem dX6_saturatedSteps_26 : decode cX6_saturatedSteps 26 = .ok (.iadd, 1) := by decide +kernel
theorem dX6_saturatedSteps_27 : decode cX6_saturatedSteps 27 = .ok (.istore_n 1, 1) := by decide +kernel
theorem dX6_saturatedSteps_28 : decode cX6_saturatedSteps 28 = .ok (.iinc 2 1, 3) := by decide +kernel
theorem dX6_saturatedSteps_31 : decode cX6_saturatedSteps 31 = .ok (.goto (-27), 3) := by decide +kernel
theorem dX6_saturatedSteps_34 : decode cX6_saturatedSteps 34 = .ok (.iload_n 1, 1) := by decide +kernel
theorem dX6_saturatedSteps_35 : decode cX6_saturatedSteps 35 = .ok (.ireturn, 1) := by decide +kernel
theorem dX6_actuatorChanges_0 : decode cX6_actuatorChanges 0 = .ok (.iconst 0, 1) := by decide +kernel
theorem dX6_actuatorChanges_1 : decode cX6_actuatorChanges 1 = .ok (.istore_n 1, 1) := by decide +kernel
theorem dX6_actuatorChanges_2 : decode cX6_actuatorChanges 2 = .ok (.iconst 0, 1) := by decide +kernel
theorem dX6_actuatorChanges_3 : decode cX6_actuatorChanges 3 = .ok (.istore_n 2, 1) := by decide +kernel
theorem dX6_actuatorChanges_4 : decode cX6_actuatorChanges 4 = .ok (.iconst 0, 1) := by decide +kernel
theorem dX6_actuatorChanges_5 : decode cX6_actuatorChanges 5 = .ok (.istore_n 3, 1) := by decide +kernel
theorem dX6_actuatorChanges_6 : decode cX6_actuatorChanges 6 = .ok (.iload_n 3, 1) := by decide +kernel
theorem dX6_actuatorChanges_7 : decode cX6_actuatorChanges 7 = .ok (.aload_n 0, 1) := by decide +kernel
theorem dX6_actuatorChanges_8 : decode cX6_actuatorChanges 8 = .ok (.getfield 30, 3) := by decide +kernel
theorem dX6_actuatorChanges_11 : decode cX6_actuatorChanges 11 = .ok (.if_icmp .ge 37, 3) := by decide +kernel
theorem dX6_actuatorChanges_14 : decode cX6_actuatorChanges 14 = .ok (.iload_n 3, 1) := by decide +kernel
theorem dX6_actuatorChanges_15 : decode cX6_actuatorChanges 15 = .ok (.sipush 200, 3) := by decide +kernel
theorem dX6_actuatorChanges_18 : decode cX6_actuatorChanges 18 = .ok (.if_icmp .ge 30, 3) := by decide +kernel
theorem dX6_actuatorChanges_21 : decode cX6_actuatorChanges 21 = .ok (.iload_n 1, 1) := by decide +kernel
theorem dX6_actuatorChanges_22 : decode cX6_actuatorChanges 22 = .ok (.aload_n 0, 1) := by decide +kernel
theorem dX6_actuatorChanges_23 : decode cX6_actuatorChanges 23 = .ok (.getfield 21, 3) := by decide +kernel
theorem dX6_actuatorChanges_26 : decode cX6_actuatorChanges 26 = .ok (.iload_n 3, 1) := by decide +kernel
theorem dX6_actuatorChanges_27 : decode cX6_actuatorChanges 27 = .ok (.iaload, 1) := by decide +kernel
theorem dX6_actuatorChanges_28 : decode cX6_actuatorChanges 28 = .ok (.iload_n 2, 1) := by decide +kernel
theorem dX6_actuatorChanges_29 : decode cX6_actuatorChanges 29 = .ok (.isub, 1) := by decide +kernel
theorem dX6_actuatorChanges_30 : decode cX6_actuatorChanges 30 = .ok (.invokestatic 68, 3) := by decide +kernel
theorem dX6_actuatorChanges_33 : decode cX6_actuatorChanges 33 = .ok (.iadd, 1) := by decide +kernel
theorem dX6_actuatorChanges_34 : decode cX6_actuatorChanges 34 = .ok (.istore_n 1, 1) := by decide +kernel
theorem dX6_actuatorChanges_35 : decode cX6_actuatorChanges 35 = .ok (.aload_n 0, 1) := by decide +kernel
theorem dX6_actuatorChanges_36 : decode cX6_actuatorChanges 36 = .ok (.getfield 21, 3) := by decide +kernel
theorem dX6_actuatorChanges_39 : decode cX6_actuatorChanges 39 = .ok (.iload_n 3, 1) := by decide +kernel
theorem dX6_actuatorChanges_40 : decode cX6_actuatorChanges 40 = .ok (.iaload, 1) := by decide +kernel
theorem dX6_actuatorChanges_41 : decode cX6_actuatorChanges 41 = .ok (.istore_n 2, 1) := by decide +kernel
theorem dX6_actuatorChanges_42 : decode cX6_actuatorChanges 42 = .ok (.iinc 3 1, 3) := by decide +kernel
theorem dX6_actuatorChanges_45 : decode cX6_actuatorChanges 45 = .ok (.goto (-39), 3) := by decide +kernel
theorem dX6_actuatorChanges_48 : decode cX6_actuatorChanges 48 = .ok (.iload_n 1, 1) := by decide +kernel
theorem dX6_actuatorChanges_49 : decode cX6_actuatorChanges 49 = .ok (.ireturn, 1) := by decide +kernel
theorem dX6_meanSquare_0 : decode cX6_meanSquare 0 = .ok (.dconst 0, 1) := by decide +kernel
theorem dX6_meanSquare_1 : decode cX6_meanSquare 1 = .ok (.dstore_n 1, 1) := by decide +kernel
theorem dX6_meanSquare_2 : decode cX6_meanSquare 2 = .ok (.iconst 0, 1) := by decide +kernel
theorem dX6_meanSquare_3 : decode cX6_meanSquare 3 = .ok (.istore_n 3, 1) := by decide +kernel
theorem dX6_meanSquare_4 : decode cX6_meanSquare 4 = .ok (.iload_n 3, 1) := by decide +kernel
theorem dX6_meanSquare_5 : decode cX6_meanSquare 5 = .ok (.aload_n 0, 1) := by decide +kernel
theorem dX6_meanSquare_6 : decode cX6_meanSquare 6 = .ok (.getfield 30, 3) := by decide +kernel
theorem dX6_meanSquare_9 : decode cX6_meanSquare 9 = .ok (.if_icmp .gt 34, 3) := by decide +kernel
theorem dX6_meanSquare_12 : decode cX6_meanSquare 12 = .ok (.iload_n 3, 1) := by decide +kernel
theorem dX6_meanSquare_13 : decode cX6_meanSquare 13 = .ok (.sipush 200, 3) := by decide +kernel
theorem dX6_meanSquare_16 : decode cX6_meanSquare 16 = .ok (.if_icmp .gt 27, 3) := by decide +kernel
theorem dX6_meanSquare_19 : decode cX6_meanSquare 19 = .ok (.dload_n 1, 1) := by decide +kernel
theorem dX6_meanSquare_20 : decode cX6_meanSquare 20 = .ok (.aload_n 0, 1) := by decide +kernel
theorem dX6_meanSquare_21 : decode cX6_meanSquare 21 = .ok (.getfield 9, 3) := by decide +kernel
theorem dX6_meanSquare_24 : decode cX6_meanSquare 24 = .ok (.iload_n 3, 1) := by decide +kernel
theorem dX6_meanSquare_25 : decode cX6_meanSquare 25 = .ok (.iaload, 1) := by decide +kernel
theorem dX6_meanSquare_26 : decode cX6_meanSquare 26 = .ok (.i2d, 1) := by decide +kernel
theorem dX6_meanSquare_27 : decode cX6_meanSquare 27 = .ok (.aload_n 0, 1) := by decide +kernel
theorem dX6_meanSquare_28 : decode cX6_meanSquare 28 = .ok (.getfield 9, 3) := by decide +kernel
theorem dX6_meanSquare_31 : decode cX6_meanSquare 31 = .ok (.iload_n 3, 1) := by decide +kernel
theorem dX6_meanSquare_32 : decode cX6_meanSquare 32 = .ok (.iaload, 1) := by decide +kernel
theorem dX6_meanSquare_33 : decode cX6_meanSquare 33 = .ok (.i2d, 1) := by decide +kernel
theorem dX6_meanSquare_34 : decode cX6_meanSquare 34 = .ok (.dmul, 1) := by decide +kernel
theorem dX6_meanSquare_35 : decode cX6_meanSquare 35 = .ok (.dadd, 1) := by decide +kernel
theorem dX6_meanSquare_36 : decode cX6_meanSquare 36 = .ok (.dstore_n 1, 1) := by decide +kernel
theorem dX6_meanSquare_37 : decode cX6_meanSquare 37 = .ok (.iinc 3 1, 3) := by decide +kernel
theorem dX6_meanSquare_40 : decode cX6_meanSquare 40 = .ok (.goto (-36), 3) := by decide +kernel
theorem dX6_meanSquare_43 : decode cX6_meanSquare 43 = .ok (.aload_n 0, 1) := by decide +kernel
theorem dX6_meanSquare_44 : decode cX6_meanSquare 44 = .ok (.invokevirtual 64, 3) := by decide +kernel
theorem dX6_meanSquare_47 : decode cX6_meanSquare 47 = .ok (.ifCond .eq 15, 3) := by decide +kernel
theorem dX6_meanSquare_50 : decode cX6_meanSquare 50 = .ok (.dload_n 1, 1) := by decide +kernel
theorem dX6_meanSquare_51 : decode cX6_meanSquare 51 = .ok (.aload_n 0, 1) := by decide +kernel
theorem dX6_meanSquare_52 : decode cX6_meanSquare 52 = .ok (.getfield 30, 3) := by decide +kernel
theorem dX6_meanSquare_55 : decode cX6_meanSquare 55 = .ok (.iconst 1, 1) := by decide +kernel
theorem dX6_meanSquare_56 : decode cX6_meanSquare 56 = .ok (.iadd, 1) := by decide +kernel
theorem dX6_meanSquare_57 : decode cX6_meanSquare 57 = .ok (.i2d, 1) := by decide +kernel
theorem dX6_meanSquare_58 : decode cX6_meanSquare 58 = .ok (.ddiv, 1) := by decide +kernel
theorem dX6_meanSquare_59 : decode cX6_meanSquare 59 = .ok (.goto 4, 3) := by decide +kernel
theorem dX6_meanSquare_62 : decode cX6_meanSquare 62 = .ok (.dconst 0, 1) := by decide +kernel
theorem dX6_meanSquare_63 : decode cX6_meanSquare 63 = .ok (.dreturn, 1) := by decide +kernel
theorem dX6_saturatedShare_0 : decode cX6_saturatedShare 0 = .ok (.aload_n 0, 1) := by decide +kernel
theorem dX6_saturatedShare_1 : decode cX6_saturatedShare 1 = .ok (.invokevirtual 64, 3) := by decide +kernel
theorem dX6_saturatedShare_4 : decode cX6_saturatedShare 4 = .ok (.ifCond .eq 17, 3) := by decide +kernel
theorem dX6_saturatedShare_7 : decode cX6_saturatedShare 7 = .ok (.aload_n 0, 1) := by decide +kernel
theorem dX6_saturatedShare_8 : decode cX6_saturatedShare 8 = .ok (.invokevirtual 55, 3) := by decide +kernel
theorem dX6_saturatedShare_11 : decode cX6_saturatedShare 11 = .ok (.i2f, 1) := by decide +kernel
theorem dX6_saturatedShare_12 : decode cX6_saturatedShare 12 = .ok (.aload_n 0, 1) := by decide +kernel
theorem dX6_saturatedShare_13 : decode cX6_saturatedShare 13 = .ok (.getfield 30, 3) := by decide +kernel
theorem dX6_saturatedShare_16 : decode cX6_saturatedShare 16 = .ok (.i2f, 1) := by decide +kernel
theorem dX6_saturatedShare_17 : decode cX6_saturatedShare 17 = .ok (.fdiv, 1) := by decide +kernel
theorem dX6_saturatedShare_18 : decode cX6_saturatedShare 18 = .ok (.goto 4, 3) := by decide +kernel
theorem dX6_saturatedShare_21 : decode cX6_saturatedShare 21 = .ok (.fconst 0, 1) := by decide +kernel
theorem dX6_saturatedShare_22 : decode cX6_saturatedShare 22 = .ok (.freturn, 1) := by decide +kernel
theorem dX6_takeErrors_0 : decode cX6_takeErrors 0 = .ok (.aload_n 1, 1) := by decide +kernel
theorem dX6_takeErrors_1 : decode cX6_takeErrors 1 = .ok (.getfield 9, 3) := by decide +kernel
theorem dX6_takeErrors_4 : decode cX6_takeErrors 4 = .ok (.aload_n 0, 1) := by decide +kernel
theorem dX6_takeErrors_5 : decode cX6_takeErrors 5 = .ok (.getfield 9, 3) := by decide +kernel
theorem dX6_takeErrors_8 : decode cX6_takeErrors 8 = .ok (.invokestatic 84, 3) := by decide +kernel
theorem dX6_takeErrors_11 : decode cX6_takeErrors 11 = .ok (.aload_n 0, 1) := by decide +kernel
theorem dX6_takeErrors_12 : decode cX6_takeErrors 12 = .ok (.aload_n 1, 1) := by decide +kernel
theorem dX6_takeErrors_13 : decode cX6_takeErrors 13 = .ok (.getfield 30, 3) := by decide +kernel
theorem dX6_takeErrors_16 : decode cX6_takeErrors 16 = .ok (.putfield 30, 3) := by decide +kernel
theorem dX6_takeErrors_19 : decode cX6_takeErrors 19 = .ok (.return_, 1) := by decide +kernel
theorem dX6_greatestDifference_0 : decode cX6_greatestDifference 0 = .ok (.iconst 0, 1) := by decide +kernel
theorem dX6_greatestDifference_1 : decode cX6_greatestDifference 1 = .ok (.istore_n 2, 1) := by decide +kernel
theorem dX6_greatestDifference_2 : decode cX6_greatestDifference 2 = .ok (.iconst 0, 1) := by decide +kernel
theorem dX6_greatestDifference_3 : decode cX6_greatestDifference 3 = .ok (.istore_n 3, 1) := by decide +kernel
theorem dX6_greatestDifference_4 : decode cX6_greatestDifference 4 = .ok (.iload_n 3, 1) := by decide +kernel
theorem dX6_greatestDifference_5 : decode cX6_greatestDifference 5 = .ok (.aload_n 0, 1) := by decide +kernel
theorem dX6_greatestDifference_6 : decode cX6_greatestDifference 6 = .ok (.getfield 30, 3) := by decide +kernel
theorem dX6_greatestDifference_9 : decode cX6_greatestDifference 9 = .ok (.if_icmp .gt 45, 3) := by decide +kernel
theorem dX6_greatestDifference_12 : decode cX6_greatestDifference 12 = .ok (.iload_n 3, 1) := by decide +kernel
theorem dX6_greatestDifference_13 : decode cX6_greatestDifference 13 = .ok (.aload_n 1, 1) := by decide +kernel
theorem dX6_greatestDifference_14 : decode cX6_greatestDifference 14 = .ok (.getfield 30, 3) := by decide +kernel
theorem dX6_greatestDifference_17 : decode cX6_greatestDifference 17 = .ok (.if_icmp .gt 37, 3) := by decide +kernel
theorem dX6_greatestDifference_20 : decode cX6_greatestDifference 20 = .ok (.iload_n 3, 1) := by decide +kernel
theorem dX6_greatestDifference_21 : decode cX6_greatestDifference 21 = .ok (.sipush 200, 3) := by decide +kernel
theorem dX6_greatestDifference_24 : decode cX6_greatestDifference 24 = .ok (.if_icmp .gt 30, 3) := by decide +kernel
theorem dX6_greatestDifference_27 : decode cX6_greatestDifference 27 = .ok (.iload_n 2, 1) := by decide +kernel
theorem dX6_greatestDifference_28 : decode cX6_greatestDifference 28 = .ok (.aload_n 0, 1) := by decide +kernel
theorem dX6_greatestDifference_29 : decode cX6_greatestDifference 29 = .ok (.getfield 9, 3) := by decide +kernel
theorem dX6_greatestDifference_32 : decode cX6_greatestDifference 32 = .ok (.iload_n 3, 1) := by decide +kernel
theorem dX6_greatestDifference_33 : decode cX6_greatestDifference 33 = .ok (.iaload, 1) := by decide +kernel
theorem dX6_greatestDifference_34 : decode cX6_greatestDifference 34 = .ok (.aload_n 1, 1) := by decide +kernel
theorem dX6_greatestDifference_35 : decode cX6_greatestDifference 35 = .ok (.getfield 9, 3) := by decide +kernel
theorem dX6_greatestDifference_38 : decode cX6_greatestDifference 38 = .ok (.iload_n 3, 1) := by decide +kernel
theorem dX6_greatestDifference_39 : decode cX6_greatestDifference 39 = .ok (.iaload, 1) := by decide +kernel
theorem dX6_greatestDifference_40 : decode cX6_greatestDifference 40 = .ok (.isub, 1) := by decide +kernel
theorem dX6_greatestDifference_41 : decode cX6_greatestDifference 41 = .ok (.invokestatic 68, 3) := by decide +kernel
theorem dX6_greatestDifference_44 : decode cX6_greatestDifference 44 = .ok (.invokestatic 73, 3) := by decide +kernel
theorem dX6_greatestDifference_47 : decode cX6_greatestDifference 47 = .ok (.istore_n 2, 1) := by decide +kernel
theorem dX6_greatestDifference_48 : decode cX6_greatestDifference 48 = .ok (.iinc 3 1, 3) := by decide +kernel
theorem dX6_greatestDifference_51 : decode cX6_greatestDifference 51 = .ok (.goto (-47), 3) := by decide +kernel
theorem dX6_greatestDifference_54 : decode cX6_greatestDifference 54 = .ok (.iload_n 2, 1) := by decide +kernel
theorem dX6_greatestDifference_55 : decode cX6_greatestDifference 55 = .ok (.ireturn, 1) := by decide +kernel
theorem dX6_firstDifference_0 : decode cX6_firstDifference 0 = .ok (.iconst 0, 1) := by decide +kernel
theorem dX6_firstDifference_1 : decode cX6_firstDifference 1 = .ok (.istore_n 2, 1) := by decide +kernel
theorem dX6_firstDifference_2 : decode cX6_firstDifference 2 = .ok (.iload_n 2, 1) := by decide +kernel
theorem dX6_firstDifference_3 : decode cX6_firstDifference 3 = .ok (.aload_n 0, 1) := by decide +kernel
theorem dX6_firstDifference_4 : decode cX6_firstDifference 4 = .ok (.getfield 30, 3) := by decide +kernel
theorem dX6_firstDifference_7 : decode cX6_firstDifference 7 = .ok (.if_icmp .gt 41, 3) := by decide +kernel
theorem dX6_firstDifference_10 : decode cX6_firstDifference 10 = .ok (.iload_n 2, 1) := by decide +kernel
theorem dX6_firstDifference_11 : decode cX6_firstDifference 11 = .ok (.aload_n 1, 1) := by decide +kernel
theorem dX6_firstDifference_12 : decode cX6_firstDifference 12 = .ok (.getfield 30, 3) := by decide +kernel
theorem dX6_firstDifference_15 : decode cX6_firstDifference 15 = .ok (.if_icmp .gt 33, 3) := by decide +kernel
theorem dX6_firstDifference_18 : decode cX6_firstDifference 18 = .ok (.iload_n 2, 1) := by decide +kernel
theorem dX6_firstDifference_19 : decode cX6_firstDifference 19 = .ok (.sipush 200, 3) := by decide +kernel
theorem dX6_firstDifference_22 : decode cX6_firstDifference 22 = .ok (.if_icmp .gt 26, 3) := by decide +kernel
theorem dX6_firstDifference_25 : decode cX6_firstDifference 25 = .ok (.aload_n 0, 1) := by decide +kernel
theorem dX6_firstDifference_26 : decode cX6_firstDifference 26 = .ok (.getfield 9, 3) := by decide +kernel
theorem dX6_firstDifference_29 : decode cX6_firstDifference 29 = .ok (.iload_n 2, 1) := by decide +kernel
theorem dX6_firstDifference_30 : decode cX6_firstDifference 30 = .ok (.iaload, 1) := by decide +kernel
theorem dX6_firstDifference_31 : decode cX6_firstDifference 31 = .ok (.aload_n 1, 1) := by decide +kernel
theorem dX6_firstDifference_32 : decode cX6_firstDifference 32 = .ok (.getfield 9, 3) := by decide +kernel
theorem dX6_firstDifference_35 : decode cX6_firstDifference 35 = .ok (.iload_n 2, 1) := by decide +kernel
theorem dX6_firstDifference_36 : decode cX6_firstDifference 36 = .ok (.iaload, 1) := by decide +kernel
theorem dX6_firstDifference_37 : decode cX6_firstDifference 37 = .ok (.if_icmp .eq 5, 3) := by decide +kernel
theorem dX6_firstDifference_40 : decode cX6_firstDifference 40 = .ok (.iload_n 2, 1) := by decide +kernel
theorem dX6_firstDifference_41 : decode cX6_firstDifference 41 = .ok (.ireturn, 1) := by decide +kernel
theorem dX6_firstDifference_42 : decode cX6_firstDifference 42 = .ok (.iinc 2 1, 3) := by decide +kernel
theorem dX6_firstDifference_45 : decode cX6_firstDifference 45 = .ok (.goto (-43), 3) := by decide +kernel
theorem dX6_firstDifference_48 : decode cX6_firstDifference 48 = .ok (.iconst (-1), 1) := by decide +kernel
theorem dX6_firstDifference_49 : decode cX6_firstDifference 49 = .ok (.ireturn, 1) := by decide +kernel
theorem dX6_lesserErrors_0 : decode cX6_lesserErrors 0 = .ok (.iconst 0, 1) := by decide +kernel
theorem dX6_lesserErrors_1 : decode cX6_lesserErrors 1 = .ok (.istore_n 2, 1) := by decide +kernel
theorem dX6_lesserErrors_2 : decode cX6_lesserErrors 2 = .ok (.iconst 0, 1) := by decide +kernel
theorem dX6_lesserErrors_3 : decode cX6_lesserErrors 3 = .ok (.istore_n 3, 1) := by decide +kernel
theorem dX6_lesserErrors_4 : decode cX6_lesserErrors 4 = .ok (.iload_n 3, 1) := by decide +kernel
theorem dX6_lesserErrors_5 : decode cX6_lesserErrors 5 = .ok (.aload_n 0, 1) := by decide +kernel
theorem dX6_lesserErrors_6 : decode cX6_lesserErrors 6 = .ok (.getfield 30, 3) := by decide +kernel
theorem dX6_lesserErrors_9 : decode cX6_lesserErrors 9 = .ok (.if_icmp .gt 48, 3) := by decide +kernel
theorem dX6_lesserErrors_12 : decode cX6_lesserErrors 12 = .ok (.iload_n 3, 1) := by decide +kernel
theorem dX6_lesserErrors_13 : decode cX6_lesserErrors 13 = .ok (.aload_n 1, 1) := by decide +kernel
theorem dX6_lesserErrors_14 : decode cX6_lesserErrors 14 = .ok (.getfield 30, 3) := by decide +kernel
theorem dX6_lesserErrors_17 : decode cX6_lesserErrors 17 = .ok (.if_icmp .gt 40, 3) := by decide +kernel
theorem dX6_lesserErrors_20 : decode cX6_lesserErrors 20 = .ok (.iload_n 3, 1) := by decide +kernel
theorem dX6_lesserErrors_21 : decode cX6_lesserErrors 21 = .ok (.sipush 200, 3) := by decide +kernel
theorem dX6_lesserErrors_24 : decode cX6_lesserErrors 24 = .ok (.if_icmp .gt 33, 3) := by decide +kernel
theorem dX6_lesserErrors_27 : decode cX6_lesserErrors 27 = .ok (.aload_n 0, 1) := by decide +kernel
theorem dX6_lesserErrors_28 : decode cX6_lesserErrors 28 = .ok (.getfield 9, 3) := by decide +kernel
theorem dX6_lesserErrors_31 : decode cX6_lesserErrors 31 = .ok (.iload_n 3, 1) := by decide +kernel
theorem dX6_lesserErrors_32 : decode cX6_lesserErrors 32 = .ok (.iaload, 1) := by decide +kernel
theorem dX6_lesserErrors_33 : decode cX6_lesserErrors 33 = .ok (.invokestatic 68, 3) := by decide +kernel
theorem dX6_lesserErrors_36 : decode cX6_lesserErrors 36 = .ok (.aload_n 1, 1) := by decide +kernel
theorem dX6_lesserErrors_37 : decode cX6_lesserErrors 37 = .ok (.getfield 9, 3) := by decide +kernel
theorem dX6_lesserErrors_40 : decode cX6_lesserErrors 40 = .ok (.iload_n 3, 1) := by decide +kernel
theorem dX6_lesserErrors_41 : decode cX6_lesserErrors 41 = .ok (.iaload, 1) := by decide +kernel
theorem dX6_lesserErrors_42 : decode cX6_lesserErrors 42 = .ok (.invokestatic 68, 3) := by decide +kernel
theorem dX6_lesserErrors_45 : decode cX6_lesserErrors 45 = .ok (.if_icmp .ge 6, 3) := by decide +kernel
theorem dX6_lesserErrors_48 : decode cX6_lesserErrors 48 = .ok (.iinc 2 1, 3) := by decide +kernel
theorem dX6_lesserErrors_51 : decode cX6_lesserErrors 51 = .ok (.iinc 3 1, 3) := by decide +kernel
theorem dX6_lesserErrors_54 : decode cX6_lesserErrors 54 = .ok (.goto (-50), 3) := by decide +kernel
theorem dX6_lesserErrors_57 : decode cX6_lesserErrors 57 = .ok (.iload_n 2, 1) := by decide +kernel
theorem dX6_lesserErrors_58 : decode cX6_lesserErrors 58 = .ok (.ireturn, 1) := by decide +kernel
theorem dX7_init_0 : decode cX7_init 0 = .ok (.aload_n 0, 1) := by decide +kernel
theorem dX7_init_1 : decode cX7_init 1 = .ok (.invokespecial 3, 3) := by decide +kernel
theorem dX7_init_4 : decode cX7_init 4 = .ok (.aload_n 0, 1) := by decide +kernel
theorem dX7_init_5 : decode cX7_init 5 = .ok (.bipush 8, 2) := by decide +kernel
theorem dX7_init_7 : decode cX7_init 7 = .ok (.newarray .int, 2) := by decide +kernel
theorem dX7_init_9 : decode cX7_init 9 = .ok (.putfield 9, 3) := by decide +kernel
theorem dX7_init_12 : decode cX7_init 12 = .ok (.aload_n 0, 1) := by decide +kernel
theorem dX7_init_13 : decode cX7_init 13 = .ok (.bipush 8, 2) := by decide +kernel
theorem dX7_init_15 : decode cX7_init 15 = .ok (.newarray .int, 2) := by decide +kernel
theorem dX7_init_17 : decode cX7_init 17 = .ok (.putfield 15, 3) := by decide +kernel
theorem dX7_init_20 : decode cX7_init 20 = .ok (.aload_n 0, 1) := by decide +kernel
theorem dX7_init_21 : decode cX7_init 21 = .ok (.bipush 8, 2) := by decide +kernel
theorem dX7_init_23 : decode cX7_init 23 = .ok (.newarray .int, 2) := by decide +kernel
theorem dX7_init_25 : decode cX7_init 25 = .ok (.putfield 18, 3) := by decide +kernel
theorem dX7_init_28 : decode cX7_init 28 = .ok (.aload_n 0, 1) := by decide +kernel
theorem dX7_init_29 : decode cX7_init 29 = .ok (.iconst 0, 1) := by decide +kernel
theorem dX7_init_30 : decode cX7_init 30 = .ok (.putfield 21, 3) := by decide +kernel
theorem dX7_init_33 : decode cX7_init 33 = .ok (.aload_n 0, 1) := by decide +kernel
theorem dX7_init_34 : decode cX7_init 34 = .ok (.iconst 4, 1) := by decide +kernel
theorem dX7_init_35 : decode cX7_init 35 = .ok (.newarray .int, 2) := by decide +kernel
theorem dX7_init_37 : decode cX7_init 37 = .ok (.putfield 25, 3) := by decide +kernel
theorem dX7_init_40 : decode cX7_init 40 = .ok (.aload_n 0, 1) := by decide +kernel
theorem dX7_init_41 : decode cX7_init 41 = .ok (.iconst 4, 1) := by decide +kernel
theorem dX7_init_42 : decode cX7_init 42 = .ok (.newarray .int, 2) := by decide +kernel
theorem dX7_init_44 : decode cX7_init 44 = .ok (.putfield 28, 3) := by decide +kernel
theorem dX7_init_47 : decode cX7_init 47 = .ok (.aload_n 0, 1) := by decide +kernel
theorem dX7_init_48 : decode cX7_init 48 = .ok (.iconst 4, 1) := by decide +kernel
theorem dX7_init_49 : decode cX7_init 49 = .ok (.newarray .int, 2) := by decide +kernel
theorem dX7_init_51 : decode cX7_init 51 = .ok (.putfield 31, 3) := by decide +kernel
theorem dX7_init_54 : decode cX7_init 54 = .ok (.aload_n 0, 1) := by decide +kernel
theorem dX7_init_55 : decode cX7_init 55 = .ok (.iconst 0, 1) := by decide +kernel
theorem dX7_init_56 : decode cX7_init 56 = .ok (.putfield 34, 3) := by decide +kernel
theorem dX7_init_59 : decode cX7_init 59 = .ok (.return_, 1) := by decide +kernel
theorem dX7_clear_0 : decode cX7_clear 0 = .ok (.aload_n 0, 1) := by decide +kernel
theorem dX7_clear_1 : decode cX7_clear 1 = .ok (.iconst 0, 1) := by decide +kernel
theorem dX7_clear_2 : decode cX7_clear 2 = .ok (.putfield 21, 3) := by decide +kernel
theorem dX7_clear_5 : decode cX7_clear 5 = .ok (.aload_n 0, 1) := by decide +kernel
theorem dX7_clear_6 : decode cX7_clear 6 = .ok (.iconst 0, 1) := by decide +kernel
theorem dX7_clear_7 : decode cX7_clear 7 = .ok (.putfield 34, 3) := by decide +kernel
theorem dX7_clear_10 : decode cX7_clear 10 = .ok (.return_, 1) := by decide +kernel
theorem dX7_hasRoomFor_0 : decode cX7_hasRoomFor 0 = .ok (.iload_n 1, 1) := by decide +kernel
theorem dX7_hasRoomFor_1 : decode cX7_hasRoomFor 1 = .ok (.iconst 3, 1) := by decide +kernel
theorem dX7_hasRoomFor_2 : decode cX7_hasRoomFor 2 = .ok (.if_icmp .ne 19, 3) := by decide +kernel
theorem dX7_hasRoomFor_5 : decode cX7_hasRoomFor 5 = .ok (.aload_n 0, 1) := by decide +kernel
theorem dX7_hasRoomFor_6 : decode cX7_hasRoomFor 6 = .ok (.getfield 34, 3) := by decide +kernel
theorem dX7_hasRoomFor_9 : decode cX7_hasRoomFor 9 = .ok (.iconst 4, 1) := by decide +kernel
theorem dX7_hasRoomFor_10 : decode cX7_hasRoomFor 10 = .ok (.if_icmp .ge 7, 3) := by decide +kernel
theorem dX7_hasRoomFor_13 : decode cX7_hasRoomFor 13 = .ok (.iconst 1, 1) := by decide +kernel
theorem dX7_hasRoomFor_14 : decode cX7_hasRoomFor 14 = .ok (.goto 21, 3) := by decide +kernel
theorem dX7_hasRoomFor_17 : decode cX7_hasRoomFor 17 = .ok (.iconst 0, 1) := by decide +kernel
theorem dX7_hasRoomFor_18 : decode cX7_hasRoomFor 18 = .ok (.goto 17, 3) := by decide +kernel
theorem dX7_hasRoomFor_21 : decode cX7_hasRoomFor 21 = .ok (.aload_n 0, 1) := by decide +kernel
theorem dX7_hasRoomFor_22 : decode cX7_hasRoomFor 22 = .ok (.getfield 21, 3) := by decide +kernel
theorem dX7_hasRoomFor_25 : decode cX7_hasRoomFor 25 = .ok (.bipush 8, 2) := by decide +kernel
theorem dX7_hasRoomFor_27 : decode cX7_hasRoomFor 27 = .ok (.if_icmp .ge 7, 3) := by decide +kernel
theorem dX7_hasRoomFor_30 : decode cX7_hasRoomFor 30 = .ok (.iconst 1, 1) := by decide +kernel
theorem dX7_hasRoomFor_31 : decode cX7_hasRoomFor 31 = .ok (.goto 4, 3) := by decide +kernel
theorem dX7_hasRoomFor_34 : decode cX7_hasRoomFor 34 = .ok (.iconst 0, 1) := by decide +kernel
theorem dX7_hasRoomFor_35 : decode cX7_hasRoomFor 35 = .ok (.ireturn, 1) := by decide +kernel
theorem dX7_addSegment_0 : decode cX7_addSegment 0 = .ok (.aload_n 0, 1) := by decide +kernel
theorem dX7_addSegment_1 : decode cX7_addSegment 1 = .ok (.getfield 21, 3) := by decide +kernel
theorem dX7_addSegment_4 : decode cX7_addSegment 4 = .ok (.bipush 8, 2) := by decide +kernel
theorem dX7_addSegment_6 : decode cX7_addSegment 6 = .ok (.if_icmp .ge 43, 3) := by decide +kernel
theorem dX7_addSegment_9 : decode cX7_addSegment 9 = .ok (.aload_n 0, 1) := by decide +kernel
theorem dX7_addSegment_10 : decode cX7_addSegment 10 = .ok (.getfield 9, 3) := by decide +kernel
theorem dX7_addSegment_13 : decode cX7_addSegment 13 = .ok (.aload_n 0, 1) := by decide +kernel
theorem dX7_addSegment_14 : decode cX7_addSegment 14 = .ok (.getfield 21, 3) := by decide +kernel
theorem dX7_addSegment_17 : decode cX7_addSegment 17 = .ok (.iload_n 1, 1) := by decide +kernel
theorem dX7_addSegment_18 : decode cX7_addSegment 18 = .ok (.iastore, 1) := by decide +kernel
theorem dX7_addSegment_19 : decode cX7_addSegment 19 = .ok (.aload_n 0, 1) := by decide +kernel
theorem dX7_addSegment_20 : decode cX7_addSegment 20 = .ok (.getfield 15, 3) := by decide +kernel
theorem dX7_addSegment_23 : decode cX7_addSegment 23 = .ok (.aload_n 0, 1) := by decide +kernel
theorem dX7_addSegment_24 : decode cX7_addSegment 24 = .ok (.getfield 21, 3) := by decide +kernel
theorem dX7_addSegment_27 : decode cX7_addSegment 27 = .ok (.iload_n 2, 1) := by decide +kernel
theorem dX7_addSegment_28 : decode cX7_addSegment 28 = .ok (.iastore, 1) := by decide +kernel
theorem dX7_addSegment_29 : decode cX7_addSegment 29 = .ok (.aload_n 0, 1) := by decide +kernel
theorem dX7_addSegment_30 : decode cX7_addSegment 30 = .ok (.getfield 18, 3) := by decide +kernel
theorem dX7_addSegment_33 : decode cX7_addSegment 33 = .ok (.aload_n 0, 1) := by decide +kernel
theorem dX7_addSegment_34 : decode cX7_addSegment 34 = .ok (.getfield 21, 3) := by decide +kernel
theorem dX7_addSegment_37 : decode cX7_addSegment 37 = .ok (.iload_n 3, 1) := by decide +kernel
theorem dX7_addSegment_38 : decode cX7_addSegment 38 = .ok (.iastore, 1) := by decide +kernel
theorem dX7_addSegment_39 : decode cX7_addSegment 39 = .ok (.aload_n 0, 1) := by decide +kernel
theorem dX7_addSegment_40 : decode cX7_addSegment 40 = .ok (.dup, 1) := by decide +kernel
theorem dX7_addSegment_41 : decode cX7_addSegment 41 = .ok (.getfield 21, 3) := by decide +kernel
theorem dX7_addSegment_44 : decode cX7_addSegment 44 = .ok (.iconst 1, 1) := by decide +kernel
theorem dX7_addSegment_45 : decode cX7_addSegment 45 = .ok (.iadd, 1) := by decide +kernel
theorem dX7_addSegment_46 : decode cX7_addSegment 46 = .ok (.putfield 21, 3) := by decide +kernel
theorem dX7_addSegment_49 : decode cX7_addSegment 49 = .ok (.return_, 1) := by decide +kernel
theorem dX7_addDisturbance_0 : decode cX7_addDisturbance 0 = .ok (.aload_n 0, 1) := by decide +kernel
theorem dX7_addDisturbance_1 : decode cX7_addDisturbance 1 = .ok (.getfield 34, 3) := by decide +kernel
theorem dX7_addDisturbance_4 : decode cX7_addDisturbance 4 = .ok (.iconst 4, 1) := by decide +kernel
theorem dX7_addDisturbance_5 : decode cX7_addDisturbance 5 = .ok (.if_icmp .ge 43, 3) := by decide +kernel
theorem dX7_addDisturbance_8 : decode cX7_addDisturbance 8 = .ok (.aload_n 0, 1) := by decide +kernel
theorem dX7_addDisturbance_9 : decode cX7_addDisturbance 9 = .ok (.getfield 25, 3) := by decide +kernel
theorem dX7_addDisturbance_12 : decode cX7_addDisturbance 12 = .ok (.aload_n 0, 1) := by decide +kernel
theorem dX7_addDisturbance_13 : decode cX7_addDisturbance 13 = .ok (.getfield 34, 3) := by decide +kernel
theorem dX7_addDisturbance_16 : decode cX7_addDisturbance 16 = .ok (.iload_n 1, 1) := by decide +kernel
theorem dX7_addDisturbance_17 : decode cX7_addDisturbance 17 = .ok (.iastore, 1) := by decide +kernel
theorem dX7_addDisturbance_18 : decode cX7_addDisturbance 18 = .ok (.aload_n 0, 1) := by decide +kernel
theorem dX7_addDisturbance_19 : decode cX7_addDisturbance 19 = .ok (.getfield 28, 3) := by decide +kernel
theorem dX7_addDisturbance_22 : decode cX7_addDisturbance 22 = .ok (.aload_n 0, 1) := by decide +kernel
theorem dX7_addDisturbance_23 : decode cX7_addDisturbance 23 = .ok (.getfield 34, 3) := by decide +kernel
theorem dX7_addDisturbance_26 : decode cX7_addDisturbance 26 = .ok (.iload_n 2, 1) := by decide +kernel
theorem dX7_addDisturbance_27 : decode cX7_addDisturbance 27 = .ok (.iastore, 1) := by decide +kernel
theorem dX7_addDisturbance_28 : decode cX7_addDisturbance 28 = .ok (.aload_n 0, 1) := by decide +kernel
theorem dX7_addDisturbance_29 : decode cX7_addDisturbance 29 = .ok (.getfield 31, 3) := by decide +kernel
theorem dX7_addDisturbance_32 : decode cX7_addDisturbance 32 = .ok (.aload_n 0, 1) := by decide +kernel
theorem dX7_addDisturbance_33 : decode cX7_addDisturbance 33 = .ok (.getfield 34, 3) := by decide +kernel
theorem dX7_addDisturbance_36 : decode cX7_addDisturbance 36 = .ok (.iload_n 3, 1) := by decide +kernel
theorem dX7_addDisturbance_37 : decode cX7_addDisturbance 37 = .ok (.iastore, 1) := by decide +kernel
theorem dX7_addDisturbance_38 : decode cX7_addDisturbance 38 = .ok (.aload_n 0, 1) := by decide +kernel
theorem dX7_addDisturbance_39 : decode cX7_addDisturbance 39 = .ok (.dup, 1) := by decide +kernel
theorem dX7_addDisturbance_40 : decode cX7_addDisturbance 40 = .ok (.getfield 34, 3) := by decide +kernel
theorem dX7_addDisturbance_43 : decode cX7_addDisturbance 43 = .ok (.iconst 1, 1) := by decide +kernel
theorem dX7_addDisturbance_44 : decode cX7_addDisturbance 44 = .ok (.iadd, 1) := by decide +kernel
theorem dX7_addDisturbance_45 : decode cX7_addDisturbance 45 = .ok (.putfield 34, 3) := by decide +kernel
theorem dX7_addDisturbance_48 : decode cX7_addDisturbance 48 = .ok (.return_, 1) := by decide +kernel
theorem dX7_totalLength_0 : decode cX7_totalLength 0 = .ok (.iconst 0, 1) := by decide +kernel
theorem dX7_totalLength_1 : decode cX7_totalLength 1 = .ok (.istore_n 1, 1) := by decide +kernel
theorem dX7_totalLength_2 : decode cX7_totalLength 2 = .ok (.iconst 0, 1) := by decide +kernel
theorem dX7_totalLength_3 : decode cX7_totalLength 3 = .ok (.istore_n 2, 1) := by decide +kernel
theorem dX7_totalLength_4 : decode cX7_totalLength 4 = .ok (.iload_n 2, 1) := by decide +kernel
theorem dX7_totalLength_5 : decode cX7_totalLength 5 = .ok (.aload_n 0, 1) := by decide +kernel
theorem dX7_totalLength_6 : decode cX7_totalLength 6 = .ok (.getfield 21, 3) := by decide +kernel
theorem dX7_totalLength_9 : decode cX7_totalLength 9 = .ok (.if_icmp .ge 24, 3) := by decide +kernel
theorem dX7_totalLength_12 : decode cX7_totalLength 12 = .ok (.iload_n 2, 1) := by decide +kernel
theorem dX7_totalLength_13 : decode cX7_totalLength 13 = .ok (.bipush 8, 2) := by decide +kernel
theorem dX7_totalLength_15 : decode cX7_totalLength 15 = .ok (.if_icmp .ge 18, 3) := by decide +kernel
theorem dX7_totalLength_18 : decode cX7_totalLength 18 = .ok (.iload_n 1, 1) := by decide +kernel
theorem dX7_totalLength_19 : decode cX7_totalLength 19 = .ok (.aload_n 0, 1) := by decide +kernel
theorem dX7_totalLength_20 : decode cX7_totalLength 20 = .ok (.getfield 15, 3) := by decide +kernel
theorem dX7_totalLength_23 : decode cX7_totalLength 23 = .ok (.iload_n 2, 1) := by decide +kernel
theorem dX7_totalLength_24 : decode cX7_totalLength 24 = .ok (.iaload, 1) := by decide +kernel
theorem dX7_totalLength_25 : decode cX7_totalLength 25 = .ok (.iadd, 1) := by decide +kernel
theorem dX7_totalLength_26 : decode cX7_totalLength 26 = .ok (.istore_n 1, 1) := by decide +kernel
theorem dX7_totalLength_27 : decode cX7_totalLength 27 = .ok (.iinc 2 1, 3) := by decide +kernel
theorem dX7_totalLength_30 : decode cX7_totalLength 30 = .ok (.goto (-26), 3) := by decide +kernel
theorem dX7_totalLength_33 : decode cX7_totalLength 33 = .ok (.iload_n 1, 1) := by decide +kernel
theorem dX7_totalLength_34 : decode cX7_totalLength 34 = .ok (.ireturn, 1) := by decide +kernel
theorem dX7_curvatureAt_0 : decode cX7_curvatureAt 0 = .ok (.iload_n 1, 1) := by decide +kernel
theorem dX7_curvatureAt_1 : decode cX7_curvatureAt 1 = .ok (.istore_n 2, 1) := by decide +kernel
theorem dX7_curvatureAt_2 : decode cX7_curvatureAt 2 = .ok (.iconst 0, 1) := by decide +kernel
theorem dX7_curvatureAt_3 : decode cX7_curvatureAt 3 = .ok (.istore_n 3, 1) := by decide +kernel
theorem dX7_curvatureAt_4 : decode cX7_curvatureAt 4 = .ok (.iload_n 3, 1) := by decide +kernel
theorem dX7_curvatureAt_5 : decode cX7_curvatureAt 5 = .ok (.aload_n 0, 1) := by decide +kernel
theorem dX7_curvatureAt_6 : decode cX7_curvatureAt 6 = .ok (.getfield 21, 3) := by decide +kernel
theorem dX7_curvatureAt_9 : decode cX7_curvatureAt 9 = .ok (.if_icmp .ge 41, 3) := by decide +kernel
theorem dX7_curvatureAt_12 : decode cX7_curvatureAt 12 = .ok (.iload_n 3, 1) := by decide +kernel
theorem dX7_curvatureAt_13 : decode cX7_curvatureAt 13 = .ok (.bipush 8, 2) := by decide +kernel
theorem dX7_curvatureAt_15 : decode cX7_curvatureAt 15 = .ok (.if_icmp .ge 35, 3) := by decide +kernel
theorem dX7_curvatureAt_18 : decode cX7_curvatureAt 18 = .ok (.iload_n 2, 1) := by decide +kernel
theorem dX7_curvatureAt_19 : decode cX7_curvatureAt 19 = .ok (.aload_n 0, 1) := by decide +kernel
theorem dX7_curvatureAt_20 : decode cX7_curvatureAt 20 = .ok (.getfield 15, 3) := by decide +kernel
theorem dX7_curvatureAt_23 : decode cX7_curvatureAt 23 = .ok (.iload_n 3, 1) := by decide +kernel
theorem dX7_curvatureAt_24 : decode cX7_curvatureAt 24 = .ok (.iaload, 1) := by decide +kernel
theorem dX7_curvatureAt_25 : decode cX7_curvatureAt 25 = .ok (.if_icmp .ge 10, 3) := by decide +kernel
theorem dX7_curvatureAt_28 : decode cX7_curvatureAt 28 = .ok (.aload_n 0, 1) := by decide +kernel
theorem dX7_curvatureAt_29 : decode cX7_curvatureAt 29 = .ok (.iload_n 3, 1) := by decide +kernel
theorem dX7_curvatureAt_30 : decode cX7_curvatureAt 30 = .ok (.iload_n 2, 1) := by decide +kernel
theorem dX7_curvatureAt_31 : decode cX7_curvatureAt 31 = .ok (.invokevirtual 37, 3) := by decide +kernel
theorem dX7_curvatureAt_34 : decode cX7_curvatureAt 34 = .ok (.ireturn, 1) := by decide +kernel
theorem dX7_curvatureAt_35 : decode cX7_curvatureAt 35 = .ok (.iload_n 2, 1) := by decide +kernel
theorem dX7_curvatureAt_36 : decode cX7_curvatureAt 36 = .ok (.aload_n 0, 1) := by decide +kernel
theorem dX7_curvatureAt_37 : decode cX7_curvatureAt 37 = .ok (.getfield 15, 3) := by decide +kernel
theorem dX7_curvatureAt_40 : decode cX7_curvatureAt 40 = .ok (.iload_n 3, 1) := by decide +kernel
theorem dX7_curvatureAt_41 : decode cX7_curvatureAt 41 = .ok (.iaload, 1) := by decide +kernel
theorem dX7_curvatureAt_42 : decode cX7_curvatureAt 42 = .ok (.isub, 1) := by decide +kernel
theorem dX7_curvatureAt_43 : decode cX7_curvatureAt 43 = .ok (.istore_n 2, 1) := by decide +kernel
theorem dX7_curvatureAt_44 : decode cX7_curvatureAt 44 = .ok (.iinc 3 1, 3) := by decide +kernel
theorem dX7_curvatureAt_47 : decode cX7_curvatureAt 47 = .ok (.goto (-43), 3) := by decide +kernel
theorem dX7_curvatureAt_50 : decode cX7_curvatureAt 50 = .ok (.iconst 0, 1) := by decide +kernel
theorem dX7_curvatureAt_51 : decode cX7_curvatureAt 51 = .ok (.ireturn, 1) := by decide +kernel
theorem dX7_curvatureInside_0 : decode cX7_curvatureInside 0 = .ok (.aload_n 0, 1) := by decide +kernel
theorem dX7_curvatureInside_1 : decode cX7_curvatureInside 1 = .ok (.getfield 9, 3) := by decide +kernel
theorem dX7_curvatureInside_4 : decode cX7_curvatureInside 4 = .ok (.iload_n 1, 1) := by decide +kernel
theorem dX7_curvatureInside_5 : decode cX7_curvatureInside 5 = .ok (.iaload, 1) := by decide +kernel
theorem dX7_curvatureInside_6 : decode cX7_curvatureInside 6 = .ok (.iconst 2, 1) := by decide +kernel
theorem dX7_curvatureInside_7 : decode cX7_curvatureInside 7 = .ok (.if_icmp .ne 28, 3) := by decide +kernel
theorem dX7_curvatureInside_10 : decode cX7_curvatureInside 10 = .ok (.aload_n 0, 1) := by decide +kernel
theorem dX7_curvatureInside_11 : decode cX7_curvatureInside 11 = .ok (.getfield 15, 3) := by decide +kernel
theorem dX7_curvatureInside_14 : decode cX7_curvatureInside 14 = .ok (.iload_n 1, 1) := by decide +kernel
theorem dX7_curvatureInside_15 : decode cX7_curvatureInside 15 = .ok (.iaload, 1) := by decide +kernel
theorem dX7_curvatureInside_16 : decode cX7_curvatureInside 16 = .ok (.ifCond .le 19, 3) := by decide +kernel
theorem dX7_curvatureInside_19 : decode cX7_curvatureInside 19 = .ok (.aload_n 0, 1) := by decide +kernel
theorem dX7_curvatureInside_20 : decode cX7_curvatureInside 20 = .ok (.getfield 18, 3) := by decide +kernel
theorem dX7_curvatureInside_23 : decode cX7_curvatureInside 23 = .ok (.iload_n 1, 1) := by decide +kernel
theorem dX7_curvatureInside_24 : decode cX7_curvatureInside 24 = .ok (.iaload, 1) := by decide +kernel
theorem dX7_curvatureInside_25 : decode cX7_curvatureInside 25 = .ok (.iload_n 2, 1) := by decide +kernel
theorem dX7_curvatureInside_26 : decode cX7_curvatureInside 26 = .ok (.imul, 1) := by decide +kernel
theorem dX7_curvatureInside_27 : decode cX7_curvatureInside 27 = .ok (.aload_n 0, 1) := by decide +kernel
theorem dX7_curvatureInside_28 : decode cX7_curvatureInside 28 = .ok (.getfield 15, 3) := by decide +kernel
theorem dX7_curvatureInside_31 : decode cX7_curvatureInside 31 = .ok (.iload_n 1, 1) := by decide +kernel
theorem dX7_curvatureInside_32 : decode cX7_curvatureInside 32 = .ok (.iaload, 1) := by decide +kernel
theorem dX7_curvatureInside_33 : decode cX7_curvatureInside 33 = .ok (.idiv, 1) := by decide +kernel
theorem dX7_curvatureInside_34 : decode cX7_curvatureInside 34 = .ok (.ireturn, 1) := by decide +kernel
theorem dX7_curvatureInside_35 : decode cX7_curvatureInside 35 = .ok (.aload_n 0, 1) := by decide +kernel
theorem dX7_curvatureInside_36 : decode cX7_curvatureInside 36 = .ok (.getfield 9, 3) := by decide +kernel
theorem dX7_curvatureInside_39 : decode cX7_curvatureInside 39 = .ok (.iload_n 1, 1) := by decide +kernel
theorem dX7_curvatureInside_40 : decode cX7_curvatureInside 40 = .ok (.iaload, 1) := by decide +kernel
theorem dX7_curvatureInside_41 : decode cX7_curvatureInside 41 = .ok (.iconst 1, 1) := by decide +kernel
theorem dX7_curvatureInside_42 : decode cX7_curvatureInside 42 = .ok (.if_icmp .ne 12, 3) := by decide +kernel
theorem dX7_curvatureInside_45 : decode cX7_curvatureInside 45 = .ok (.aload_n 0, 1) := by decide +kernel
theorem dX7_curvatureInside_46 : decode cX7_curvatureInside 46 = .ok (.getfield 18, 3) := by decide +kernel
theorem dX7_curvatureInside_49 : decode cX7_curvatureInside 49 = .ok (.iload_n 1, 1) := by decide +kernel
theorem dX7_curvatureInside_50 : decode cX7_curvatureInside 50 = .ok (.iaload, 1) := by decide +kernel
theorem dX7_curvatureInside_51 : decode cX7_curvatureInside 51 = .ok (.goto 4, 3) := by decide +kernel
theorem dX7_curvatureInside_54 : decode cX7_curvatureInside 54 = .ok (.iconst 0, 1) := by decide +kernel
theorem dX7_curvatureInside_55 : decode cX7_curvatureInside 55 = .ok (.ireturn, 1) := by decide +kernel
theorem dX7_pushAt_0 : decode cX7_pushAt 0 = .ok (.iconst 0, 1) := by decide +kernel
theorem dX7_pushAt_1 : decode cX7_pushAt 1 = .ok (.istore_n 2, 1) := by decide +kernel
theorem dX7_pushAt_2 : decode cX7_pushAt 2 = .ok (.iconst 0, 1) := by decide +kernel
theorem dX7_pushAt_3 : decode cX7_pushAt 3 = .ok (.istore_n 3, 1) := by decide +kernel
theorem dX7_pushAt_4 : decode cX7_pushAt 4 = .ok (.iload_n 3, 1) := by decide +kernel
theorem dX7_pushAt_5 : decode cX7_pushAt 5 = .ok (.aload_n 0, 1) := by decide +kernel
theorem dX7_pushAt_6 : decode cX7_pushAt 6 = .ok (.getfield 34, 3) := by decide +kernel
theorem dX7_pushAt_9 : decode cX7_pushAt 9 = .ok (.if_icmp .ge 46, 3) := by decide +kernel
theorem dX7_pushAt_12 : decode cX7_pushAt 12 = .ok (.iload_n 3, 1) := by decide +kernel
theorem dX7_pushAt_13 : decode cX7_pushAt 13 = .ok (.iconst 4, 1) := by decide +kernel
theorem dX7_pushAt_14 : decode cX7_pushAt 14 = .ok (.if_icmp .ge 41, 3) := by decide +kernel
theorem dX7_pushAt_17 : decode cX7_pushAt 17 = .ok (.iload_n 1, 1) := by decide +kernel
theorem dX7_pushAt_18 : decode cX7_pushAt 18 = .ok (.aload_n 0, 1) := by decide +kernel
theorem dX7_pushAt_19 : decode cX7_pushAt 19 = .ok (.getfield 25, 3) := by decide +kernel
theorem dX7_pushAt_22 : decode cX7_pushAt 22 = .ok (.iload_n 3, 1) := by decide +kernel
theorem dX7_pushAt_23 : decode cX7_pushAt 23 = .ok (.iaload, 1) := by decide +kernel
theorem dX7_pushAt_24 : decode cX7_pushAt 24 = .ok (.isub, 1) := by decide +kernel
theorem dX7_pushAt_25 : decode cX7_pushAt 25 = .ok (.iconst 0, 1) := by decide +kernel
theorem dX7_pushAt_26 : decode cX7_pushAt 26 = .ok (.aload_n 0, 1) := by decide +kernel
theorem dX7_pushAt_27 : decode cX7_pushAt 27 = .ok (.getfield 31, 3) := by decide +kernel
theorem dX7_pushAt_30 : decode cX7_pushAt 30 = .ok (.iload_n 3, 1) := by decide +kernel
theorem dX7_pushAt_31 : decode cX7_pushAt 31 = .ok (.iaload, 1) := by decide +kernel
theorem dX7_pushAt_32 : decode cX7_pushAt 32 = .ok (.iconst 1, 1) := by decide +kernel
theorem dX7_pushAt_33 : decode cX7_pushAt 33 = .ok (.isub, 1) := by decide +kernel
theorem dX7_pushAt_34 : decode cX7_pushAt 34 = .ok (.invokestatic 41, 3) := by decide +kernel
theorem dX7_pushAt_37 : decode cX7_pushAt 37 = .ok (.ifCond .eq 12, 3) := by decide +kernel
theorem dX7_pushAt_40 : decode cX7_pushAt 40 = .ok (.iload_n 2, 1) := by decide +kernel
theorem dX7_pushAt_41 : decode cX7_pushAt 41 = .ok (.aload_n 0, 1) := by decide +kernel
theorem dX7_pushAt_42 : decode cX7_pushAt 42 = .ok (.getfield 28, 3) := by decide +kernel
theorem dX7_pushAt_45 : decode cX7_pushAt 45 = .ok (.iload_n 3, 1) := by decide +kernel
theorem dX7_pushAt_46 : decode cX7_pushAt 46 = .ok (.iaload, 1) := by decide +kernel
theorem dX7_pushAt_47 : decode cX7_pushAt 47 = .ok (.iadd, 1) := by decide +kernel
theorem dX7_pushAt_48 : decode cX7_pushAt 48 = .ok (.istore_n 2, 1) := by decide +kernel
theorem dX7_pushAt_49 : decode cX7_pushAt 49 = .ok (.iinc 3 1, 3) := by decide +kernel
theorem dX7_pushAt_52 : decode cX7_pushAt 52 = .ok (.goto (-48), 3) := by decide +kernel
theorem dX7_pushAt_55 : decode cX7_pushAt 55 = .ok (.iload_n 2, 1) := by decide +kernel
theorem dX7_pushAt_56 : decode cX7_pushAt 56 = .ok (.ireturn, 1) := by decide +kernel
theorem dX7_writeTo_0 : decode cX7_writeTo 0 = .ok (.iconst 0, 1) := by decide +kernel
theorem dX7_writeTo_1 : decode cX7_writeTo 1 = .ok (.istore_n 2, 1) := by decide +kernel
theorem dX7_writeTo_2 : decode cX7_writeTo 2 = .ok (.iload_n 2, 1) := by decide +kernel
theorem dX7_writeTo_3 : decode cX7_writeTo 3 = .ok (.aload_n 0, 1) := by decide +kernel
theorem dX7_writeTo_4 : decode cX7_writeTo 4 = .ok (.getfield 21, 3) := by decide +kernel
theorem dX7_writeTo_7 : decode cX7_writeTo 7 = .ok (.if_icmp .ge 89, 3) := by decide +kernel
theorem dX7_writeTo_10 : decode cX7_writeTo 10 = .ok (.iload_n 2, 1) := by decide +kernel
theorem dX7_writeTo_11 : decode cX7_writeTo 11 = .ok (.bipush 8, 2) := by decide +kernel
theorem dX7_writeTo_13 : decode cX7_writeTo 13 = .ok (.if_icmp .ge 83, 3) := by decide +kernel
theorem dX7_writeTo_16 : decode cX7_writeTo 16 = .ok (.aload_n 1, 1) := by decide +kernel
theorem dX7_writeTo_17 : decode cX7_writeTo 17 = .ok (.invokestatic 45, 3) := by decide +kernel
theorem dX7_writeTo_20 : decode cX7_writeTo 20 = .ok (.aload_n 1, 1) := by decide +kernel
theorem dX7_writeTo_21 : decode cX7_writeTo 21 = .ok (.aload_n 0, 1) := by decide +kernel
theorem dX7_writeTo_22 : decode cX7_writeTo 22 = .ok (.getfield 9, 3) := by decide +kernel
theorem dX7_writeTo_25 : decode cX7_writeTo 25 = .ok (.iload_n 2, 1) := by decide +kernel
theorem dX7_writeTo_26 : decode cX7_writeTo 26 = .ok (.iaload, 1) := by decide +kernel
theorem dX7_writeTo_27 : decode cX7_writeTo 27 = .ok (.ifCond .ne 8, 3) := by decide +kernel
theorem dX7_writeTo_30 : decode cX7_writeTo 30 = .ok (.bipush 115, 2) := by decide +kernel
theorem dX7_writeTo_32 : decode cX7_writeTo 32 = .ok (.goto 20, 3) := by decide +kernel
theorem dX7_writeTo_35 : decode cX7_writeTo 35 = .ok (.aload_n 0, 1) := by decide +kernel
theorem dX7_writeTo_36 : decode cX7_writeTo 36 = .ok (.getfield 9, 3) := by decide +kernel
theorem dX7_writeTo_39 : decode cX7_writeTo 39 = .ok (.iload_n 2, 1) := by decide +kernel
theorem dX7_writeTo_40 : decode cX7_writeTo 40 = .ok (.iaload, 1) := by decide +kernel
theorem dX7_writeTo_41 : decode cX7_writeTo 41 = .ok (.iconst 1, 1) := by decide +kernel
theorem dX7_writeTo_42 : decode cX7_writeTo 42 = .ok (.if_icmp .ne 8, 3) := by decide +kernel
theorem dX7_writeTo_45 : decode cX7_writeTo 45 = .ok (.bipush 98, 2) := by decide +kernel
theorem dX7_writeTo_47 : decode cX7_writeTo 47 = .ok (.goto 5, 3) := by decide +kernel
theorem dX7_writeTo_50 : decode cX7_writeTo 50 = .ok (.bipush 114, 2) := by decide +kernel
theorem dX7_writeTo_52 : decode cX7_writeTo 52 = .ok (.invokevirtual 49, 3) := by decide +kernel
theorem dX7_writeTo_55 : decode cX7_writeTo 55 = .ok (.aload_n 0, 1) := by decide +kernel
theorem dX7_writeTo_56 : decode cX7_writeTo 56 = .ok (.getfield 15, 3) := by decide +kernel
theorem dX7_writeTo_59 : decode cX7_writeTo 59 = .ok (.iload_n 2, 1) := by decide +kernel
theorem dX7_writeTo_60 : decode cX7_writeTo 60 = .ok (.iaload, 1) := by decide +kernel
theorem dX7_writeTo_61 : decode cX7_writeTo 61 = .ok (.invokevirtual 55, 3) := by decide +kernel
theorem dX7_writeTo_64 : decode cX7_writeTo 64 = .ok (.pop, 1) := by decide +kernel
theorem dX7_writeTo_65 : decode cX7_writeTo 65 = .ok (.aload_n 0, 1) := by decide +kernel
theorem dX7_writeTo_66 : decode cX7_writeTo 66 = .ok (.getfield 9, 3) := by decide +kernel
theorem dX7_writeTo_69 : decode cX7_writeTo 69 = .ok (.iload_n 2, 1) := by decide +kernel
theorem dX7_writeTo_70 : decode cX7_writeTo 70 = .ok (.iaload, 1) := by decide +kernel
theorem dX7_writeTo_71 : decode cX7_writeTo 71 = .ok (.ifCond .eq 19, 3) := by decide +kernel
theorem dX7_writeTo_74 : decode cX7_writeTo 74 = .ok (.aload_n 1, 1) := by decide +kernel
theorem dX7_writeTo_75 : decode cX7_writeTo 75 = .ok (.bipush 58, 2) := by decide +kernel
theorem dX7_writeTo_77 : decode cX7_writeTo 77 = .ok (.invokevirtual 49, 3) := by decide +kernel
theorem dX7_writeTo_80 : decode cX7_writeTo 80 = .ok (.aload_n 0, 1) := by decide +kernel
theorem dX7_writeTo_81 : decode cX7_writeTo 81 = .ok (.getfield 18, 3) := by decide +kernel
theorem dX7_writeTo_84 : decode cX7_writeTo 84 = .ok (.iload_n 2, 1) := by decide +kernel
theorem dX7_writeTo_85 : decode cX7_writeTo 85 = .ok (.iaload, 1) := by decide +kernel
theorem dX7_writeTo_86 : decode cX7_writeTo 86 = .ok (.invokevirtual 55, 3) := by decide +kernel
theorem dX7_writeTo_89 : decode cX7_writeTo 89 = .ok (.pop, 1) := by decide +kernel
theorem dX7_writeTo_90 : decode cX7_writeTo 90 = .ok (.iinc 2 1, 3) := by decide +kernel
theorem dX7_writeTo_93 : decode cX7_writeTo 93 = .ok (.goto (-91), 3) := by decide +kernel
theorem dX7_writeTo_96 : decode cX7_writeTo 96 = .ok (.iconst 0, 1) := by decide +kernel
theorem dX7_writeTo_97 : decode cX7_writeTo 97 = .ok (.istore_n 2, 1) := by decide +kernel
theorem dX7_writeTo_98 : decode cX7_writeTo 98 = .ok (.iload_n 2, 1) := by decide +kernel
theorem dX7_writeTo_99 : decode cX7_writeTo 99 = .ok (.aload_n 0, 1) := by decide +kernel
theorem dX7_writeTo_100 : decode cX7_writeTo 100 = .ok (.getfield 34, 3) := by decide +kernel
theorem dX7_writeTo_103 : decode cX7_writeTo 103 = .ok (.if_icmp .ge 64, 3) := by decide +kernel
theorem dX7_writeTo_106 : decode cX7_writeTo 106 = .ok (.iload_n 2, 1) := by decide +kernel
theorem dX7_writeTo_107 : decode cX7_writeTo 107 = .ok (.iconst 4, 1) := by decide +kernel
theorem dX7_writeTo_108 : decode cX7_writeTo 108 = .ok (.if_icmp .ge 59, 3) := by decide +kernel
theorem dX7_writeTo_111 : decode cX7_writeTo 111 = .ok (.aload_n 1, 1) := by decide +kernel
theorem dX7_writeTo_112 : decode cX7_writeTo 112 = .ok (.invokestatic 45, 3) := by decide +kernel
theorem dX7_writeTo_115 : decode cX7_writeTo 115 = .ok (.aload_n 1, 1) := by decide +kernel
theorem dX7_writeTo_116 : decode cX7_writeTo 116 = .ok (.bipush 112, 2) := by decide +kernel
theorem dX7_writeTo_118 : decode cX7_writeTo 118 = .ok (.invokevirtual 49, 3) := by decide +kernel
theorem dX7_writeTo_121 : decode cX7_writeTo 121 = .ok (.aload_n 0, 1) := by decide +kernel
theorem dX7_writeTo_122 : decode cX7_writeTo 122 = .ok (.getfield 25, 3) := by decide +kernel
theorem dX7_writeTo_125 : decode cX7_writeTo 125 = .ok (.iload_n 2, 1) := by decide +kernel
theorem dX7_writeTo_126 : decode cX7_writeTo 126 = .ok (.iaload, 1) := by decide +kernel
theorem dX7_writeTo_127 : decode cX7_writeTo 127 = .ok (.invokevirtual 55, 3) := by decide +kernel
theorem dX7_writeTo_130 : decode cX7_writeTo 130 = .ok (.bipush 58, 2) := by decide +kernel
theorem dX7_writeTo_132 : decode cX7_writeTo 132 = .ok (.invokevirtual 49, 3) := by decide +kernel
theorem dX7_writeTo_135 : decode cX7_writeTo 135 = .ok (.aload_n 0, 1) := by decide +kernel
theorem dX7_writeTo_136 : decode cX7_writeTo 136 = .ok (.getfield 28, 3) := by decide +kernel
theorem dX7_writeTo_139 : decode cX7_writeTo 139 = .ok (.iload_n 2, 1) := by decide +kernel
theorem dX7_writeTo_140 : decode cX7_writeTo 140 = .ok (.iaload, 1) := by decide +kernel
theorem dX7_writeTo_141 : decode cX7_writeTo 141 = .ok (.invokevirtual 55, 3) := by decide +kernel
theorem dX7_writeTo_144 : decode cX7_writeTo 144 = .ok (.pop, 1) := by decide +kernel
theorem dX7_writeTo_145 : decode cX7_writeTo 145 = .ok (.aload_n 1, 1) := by decide +kernel
theorem dX7_writeTo_146 : decode cX7_writeTo 146 = .ok (.bipush 42, 2) := by decide +kernel
theorem dX7_writeTo_148 : decode cX7_writeTo 148 = .ok (.invokevirtual 49, 3) := by decide +kernel
theorem dX7_writeTo_151 : decode cX7_writeTo 151 = .ok (.aload_n 0, 1) := by decide +kernel
theorem dX7_writeTo_152 : decode cX7_writeTo 152 = .ok (.getfield 31, 3) := by decide +kernel
theorem dX7_writeTo_155 : decode cX7_writeTo 155 = .ok (.iload_n 2, 1) := by decide +kernel
theorem dX7_writeTo_156 : decode cX7_writeTo 156 = .ok (.iaload, 1) := by decide +kernel
theorem dX7_writeTo_157 : decode cX7_writeTo 157 = .ok (.invokevirtual 55, 3) := by decide +kernel
theorem dX7_writeTo_160 : decode cX7_writeTo 160 = .ok (.pop, 1) := by decide +kernel
theorem dX7_writeTo_161 : decode cX7_writeTo 161 = .ok (.iinc 2 1, 3) := by decide +kernel
theorem dX7_writeTo_164 : decode cX7_writeTo 164 = .ok (.goto (-66), 3) := by decide +kernel
theorem dX7_writeTo_167 : decode cX7_writeTo 167 = .ok (.return_, 1) := by decide +kernel
theorem dX7_separate_0 : decode cX7_separate 0 = .ok (.aload_n 0, 1) := by decide +kernel
theorem dX7_separate_1 : decode cX7_separate 1 = .ok (.invokevirtual 58, 3) := by decide +kernel
theorem dX7_separate_4 : decode cX7_separate 4 = .ok (.ifCond .le 10, 3) := by decide +kernel
theorem dX7_separate_7 : decode cX7_separate 7 = .ok (.aload_n 0, 1) := by decide +kernel
theorem dX7_separate_8 : decode cX7_separate 8 = .ok (.bipush 59, 2) := by decide +kernel
theorem dX7_separate_10 : decode cX7_separate 10 = .ok (.invokevirtual 49, 3) := by decide +kernel
theorem dX7_separate_13 : decode cX7_separate 13 = .ok (.pop, 1) := by decide +kernel
theorem dX7_separate_14 : decode cX7_separate 14 = .ok (.return_, 1) := by decide +kernel
theorem dX7_takeOver_0 : decode cX7_takeOver 0 = .ok (.aload_n 1, 1) := by decide +kernel
theorem dX7_takeOver_1 : decode cX7_takeOver 1 = .ok (.getfield 9, 3) := by decide +kernel
theorem dX7_takeOver_4 : decode cX7_takeOver 4 = .ok (.aload_n 0, 1) := by decide +kernel
theorem dX7_takeOver_5 : decode cX7_takeOver 5 = .ok (.getfield 9, 3) := by decide +kernel
theorem dX7_takeOver_8 : decode cX7_takeOver 8 = .ok (.invokestatic 62, 3) := by decide +kernel
theorem dX7_takeOver_11 : decode cX7_takeOver 11 = .ok (.aload_n 1, 1) := by decide +kernel
theorem dX7_takeOver_12 : decode cX7_takeOver 12 = .ok (.getfield 15, 3) := by decide +kernel
theorem dX7_takeOver_15 : decode cX7_takeOver 15 = .ok (.aload_n 0, 1) := by decide +kernel
theorem dX7_takeOver_16 : decode cX7_takeOver 16 = .ok (.getfield 15, 3) := by decide +kernel
theorem dX7_takeOver_19 : decode cX7_takeOver 19 = .ok (.invokestatic 62, 3) := by decide +kernel
theorem dX7_takeOver_22 : decode cX7_takeOver 22 = .ok (.aload_n 1, 1) := by decide +kernel
theorem dX7_takeOver_23 : decode cX7_takeOver 23 = .ok (.getfield 18, 3) := by decide +kernel
theorem dX7_takeOver_26 : decode cX7_takeOver 26 = .ok (.aload_n 0, 1) := by decide +kernel
theorem dX7_takeOver_27 : decode cX7_takeOver 27 = .ok (.getfield 18, 3) := by decide +kernel
theorem dX7_takeOver_30 : decode cX7_takeOver 30 = .ok (.invokestatic 62, 3) := by decide +kernel
theorem dX7_takeOver_33 : decode cX7_takeOver 33 = .ok (.aload_n 0, 1) := by decide +kernel
theorem dX7_takeOver_34 : decode cX7_takeOver 34 = .ok (.aload_n 1, 1) := by decide +kernel
theorem dX7_takeOver_35 : decode cX7_takeOver 35 = .ok (.getfield 21, 3) := by decide +kernel
theorem dX7_takeOver_38 : decode cX7_takeOver 38 = .ok (.putfield 21, 3) := by decide +kernel
theorem dX7_takeOver_41 : decode cX7_takeOver 41 = .ok (.aload_n 1, 1) := by decide +kernel
theorem dX7_takeOver_42 : decode cX7_takeOver 42 = .ok (.getfield 25, 3) := by decide +kernel
theorem dX7_takeOver_45 : decode cX7_takeOver 45 = .ok (.aload_n 0, 1) := by decide +kernel
theorem dX7_takeOver_46 : decode cX7_takeOver 46 = .ok (.getfield 25, 3) := by decide +kernel
theorem dX7_takeOver_49 : decode cX7_takeOver 49 = .ok (.invokestatic 62, 3) := by decide +kernel
theorem dX7_takeOver_52 : decode cX7_takeOver 52 = .ok (.aload_n 1, 1) := by decide +kernel
theorem dX7_takeOver_53 : decode cX7_takeOver 53 = .ok (.getfield 28, 3) := by decide +kernel
theorem dX7_takeOver_56 : decode cX7_takeOver 56 = .ok (.aload_n 0, 1) := by decide +kernel
theorem dX7_takeOver_57 : decode cX7_takeOver 57 = .ok (.getfield 28, 3) := by decide +kernel
theorem dX7_takeOver_60 : decode cX7_takeOver 60 = .ok (.invokestatic 62, 3) := by decide +kernel
theorem dX7_takeOver_63 : decode cX7_takeOver 63 = .ok (.aload_n 1, 1) := by decide +kernel
theorem dX7_takeOver_64 : decode cX7_takeOver 64 = .ok (.getfield 31, 3) := by decide +kernel
theorem dX7_takeOver_67 : decode cX7_takeOver 67 = .ok (.aload_n 0, 1) := by decide +kernel
theorem dX7_takeOver_68 : decode cX7_takeOver 68 = .ok (.getfield 31, 3) := by decide +kernel
theorem dX7_takeOver_71 : decode cX7_takeOver 71 = .ok (.invokestatic 62, 3) := by decide +kernel
theorem dX7_takeOver_74 : decode cX7_takeOver 74 = .ok (.aload_n 0, 1) := by decide +kernel
theorem dX7_takeOver_75 : decode cX7_takeOver 75 = .ok (.aload_n 1, 1) := by decide +kernel
theorem dX7_takeOver_76 : decode cX7_takeOver 76 = .ok (.getfield 34, 3) := by decide +kernel
theorem dX7_takeOver_79 : decode cX7_takeOver 79 = .ok (.putfield 34, 3) := by decide +kernel
theorem dX7_takeOver_82 : decode cX7_takeOver 82 = .ok (.return_, 1) := by decide +kernel
theorem dX8_init_0 : decode cX8_init 0 = .ok (.aload_n 0, 1) := by decide +kernel
theorem dX8_init_1 : decode cX8_init 1 = .ok (.invokespecial 3, 3) := by decide +kernel
theorem dX8_init_4 : decode cX8_init 4 = .ok (.aload_n 0, 1) := by decide +kernel
theorem dX8_init_5 : decode cX8_init 5 = .ok (.bipush 50, 2) := by decide +kernel
theorem dX8_init_7 : decode cX8_init 7 = .ok (.newarray .char, 2) := by decide +kernel
theorem dX8_init_9 : decode cX8_init 9 = .ok (.putfield 9, 3) := by decide +kernel
theorem dX8_init_12 : decode cX8_init 12 = .ok (.aload_n 0, 1) := by decide +kernel
theorem dX8_init_13 : decode cX8_init 13 = .ok (.iconst 0, 1) := by decide +kernel
theorem dX8_init_14 : decode cX8_init 14 = .ok (.putfield 15, 3) := by decide +kernel
theorem dX8_init_17 : decode cX8_init 17 = .ok (.aload_n 0, 1) := by decide +kernel
theorem dX8_init_18 : decode cX8_init 18 = .ok (.iconst (-1), 1) := by decide +kernel
theorem dX8_init_19 : decode cX8_init 19 = .ok (.putfield 19, 3) := by decide +kernel
theorem dX8_init_22 : decode cX8_init 22 = .ok (.aload_n 0, 1) := by decide +kernel
theorem dX8_init_23 : decode cX8_init 23 = .ok (.new 22, 3) := by decide +kernel
theorem dX8_init_26 : decode cX8_init 26 = .ok (.dup, 1) := by decide +kernel
theorem dX8_init_27 : decode cX8_init 27 = .ok (.invokespecial 24, 3) := by decide +kernel
theorem dX8_init_30 : decode cX8_init 30 = .ok (.putfield 25, 3) := by decide +kernel
theorem dX8_init_33 : decode cX8_init 33 = .ok (.aload_n 0, 1) := by decide +kernel
theorem dX8_init_34 : decode cX8_init 34 = .ok (.iconst 0, 1) := by decide +kernel
theorem dX8_init_35 : decode cX8_init 35 = .ok (.putfield 29, 3) := by decide +kernel
theorem dX8_init_38 : decode cX8_init 38 = .ok (.aload_n 0, 1) := by decide +kernel
theorem dX8_init_39 : decode cX8_init 39 = .ok (.iconst 0, 1) := by decide +kernel
theorem dX8_init_40 : decode cX8_init 40 = .ok (.putfield 32, 3) := by decide +kernel
theorem dX8_init_43 : decode cX8_init 43 = .ok (.return_, 1) := by decide +kernel
theorem dX8_isAllowed_0 : decode cX8_isAllowed 0 = .ok (.bipush 24, 2) := by decide +kernel
theorem dX8_isAllowed_2 : decode cX8_isAllowed 2 = .ok (.istore_n 1, 1) := by decide +kernel
theorem dX8_isAllowed_3 : decode cX8_isAllowed 3 = .ok (.iload_n 1, 1) := by decide +kernel
theorem dX8_isAllowed_4 : decode cX8_isAllowed 4 = .ok (.ifCond .lt 34, 3) := by decide +kernel
theorem dX8_isAllowed_7 : decode cX8_isAllowed 7 = .ok (.iload_n 0, 1) := by decide +kernel
theorem dX8_isAllowed_8 : decode cX8_isAllowed 8 = .ok (.iload_n 1, 1) := by decide +kernel
theorem dX8_isAllowed_9 : decode cX8_isAllowed 9 = .ok (.ishr, 1) := by decide +kernel
theorem dX8_isAllowed_10 : decode cX8_isAllowed 10 = .ok (.sipush 255, 3) := by decide +kernel
theorem dX8_isAllowed_13 : decode cX8_isAllowed 13 = .ok (.iand, 1) := by decide +kernel
theorem dX8_isAllowed_14 : decode cX8_isAllowed 14 = .ok (.istore_n 2, 1) := by decide +kernel
theorem dX8_isAllowed_15 : decode cX8_isAllowed 15 = .ok (.iload_n 2, 1) := by decide +kernel
theorem dX8_isAllowed_16 : decode cX8_isAllowed 16 = .ok (.ifCond .eq 16, 3) := by decide +kernel
theorem dX8_isAllowed_19 : decode cX8_isAllowed 19 = .ok (.iload_n 2, 1) := by decide +kernel
theorem dX8_isAllowed_20 : decode cX8_isAllowed 20 = .ok (.bipush 33, 2) := by decide +kernel
theorem dX8_isAllowed_22 : decode cX8_isAllowed 22 = .ok (.bipush 126, 2) := by decide +kernel
theorem dX8_isAllowed_24 : decode cX8_isAllowed 24 = .ok (.invokestatic 35, 3) := by decide +kernel
theorem dX8_isAllowed_27 : decode cX8_isAllowed 27 = .ok (.ifCond .ne 5, 3) := by decide +kernel
theorem dX8_isAllowed_30 : decode cX8_isAllowed 30 = .ok (.iconst 0, 1) := by decide +kernel
theorem dX8_isAllowed_31 : decode cX8_isAllowed 31 = .ok (.ireturn, 1) := by decide +kernel
theorem dX8_isAllowed_32 : decode cX8_isAllowed 32 = .ok (.iinc 1 (-8), 3) := by decide +kernel
theorem dX8_isAllowed_35 : decode cX8_isAllowed 35 = .ok (.goto (-32), 3) := by decide +kernel
theorem dX8_isAllowed_38 : decode cX8_isAllowed 38 = .ok (.iconst 1, 1) := by decide +kernel
theorem dX8_isAllowed_39 : decode cX8_isAllowed 39 = .ok (.ireturn, 1) := by decide +kernel
theorem dX8_hasRoomFor_0 : decode cX8_hasRoomFor 0 = .ok (.iconst 0, 1) := by decide +kernel
theorem dX8_hasRoomFor_1 : decode cX8_hasRoomFor 1 = .ok (.istore_n 2, 1) := by decide +kernel
theorem dX8_hasRoomFor_2 : decode cX8_hasRoomFor 2 = .ok (.bipush 24, 2) := by decide +kernel
theorem dX8_hasRoomFor_4 : decode cX8_hasRoomFor 4 = .ok (.istore_n 3, 1) := by decide +kernel
theorem dX8_hasRoomFor_5 : decode cX8_hasRoomFor 5 = .ok (.iload_n 3, 1) := by decide +kernel
theorem dX8_hasRoomFor_6 : decode cX8_hasRoomFor 6 = .ok (.ifCond .lt 22, 3) := by decide +kernel
theorem dX8_hasRoomFor_9 : decode cX8_hasRoomFor 9 = .ok (.iload_n 1, 1) := by decide +kernel
theorem dX8_hasRoomFor_10 : decode cX8_hasRoomFor 10 = .ok (.iload_n 3, 1) := by decide +kernel
theorem dX8_hasRoomFor_11 : decode cX8_hasRoomFor 11 = .ok (.ishr, 1) := by decide +kernel
theorem dX8_hasRoomFor_12 : decode cX8_hasRoomFor 12 = .ok (.sipush 255, 3) := by decide +kernel
theorem dX8_hasRoomFor_15 : decode cX8_hasRoomFor 15 = .ok (.iand, 1) := by decide +kernel
theorem dX8_hasRoomFor_16 : decode cX8_hasRoomFor 16 = .ok (.ifCond .eq 6, 3) := by decide +kernel
theorem dX8_hasRoomFor_19 : decode cX8_hasRoomFor 19 = .ok (.iinc 2 1, 3) := by decide +kernel
theorem dX8_hasRoomFor_22 : decode cX8_hasRoomFor 22 = .ok (.iinc 3 (-8), 3) := by decide +kernel
theorem dX8_hasRoomFor_25 : decode cX8_hasRoomFor 25 = .ok (.goto (-20), 3) := by decide +kernel
theorem dX8_hasRoomFor_28 : decode cX8_hasRoomFor 28 = .ok (.aload_n 0, 1) := by decide +kernel
theorem dX8_hasRoomFor_29 : decode cX8_hasRoomFor 29 = .ok (.getfield 15, 3) := by decide +kernel
theorem dX8_hasRoomFor_32 : decode cX8_hasRoomFor 32 = .ok (.iload_n 2, 1) := by decide +kernel
theorem dX8_hasRoomFor_33 : decode cX8_hasRoomFor 33 = .ok (.iadd, 1) := by decide +kernel
theorem dX8_hasRoomFor_34 : decode cX8_hasRoomFor 34 = .ok (.bipush 50, 2) := by decide +kernel
theorem dX8_hasRoomFor_36 : decode cX8_hasRoomFor 36 = .ok (.if_icmp .gt 7, 3) := by decide +kernel
theorem dX8_hasRoomFor_39 : decode cX8_hasRoomFor 39 = .ok (.iconst 1, 1) := by decide +kernel
theorem dX8_hasRoomFor_40 : decode cX8_hasRoomFor 40 = .ok (.goto 4, 3) := by decide +kernel
theorem dX8_hasRoomFor_43 : decode cX8_hasRoomFor 43 = .ok (.iconst 0, 1) := by decide +kernel
theorem dX8_hasRoomFor_44 : decode cX8_hasRoomFor 44 = .ok (.ireturn, 1) := by decide +kernel
theorem dX8_takeIn_0 : decode cX8_takeIn 0 = .ok (.bipush 24, 2) := by decide +kernel
theorem dX8_takeIn_2 : decode cX8_takeIn 2 = .ok (.istore_n 2, 1) := by decide +kernel
theorem dX8_takeIn_3 : decode cX8_takeIn 3 = .ok (.iload_n 2, 1) := by decide +kernel
theorem dX8_takeIn_4 : decode cX8_takeIn 4 = .ok (.ifCond .lt 51, 3) := by decide +kernel
theorem dX8_takeIn_7 : decode cX8_takeIn 7 = .ok (.iload_n 1, 1) := by decide +kernel
theorem dX8_takeIn_8 : decode cX8_takeIn 8 = .ok (.iload_n 2, 1) := by decide +kernel
theorem dX8_takeIn_9 : decode cX8_takeIn 9 = .ok (.ishr, 1) := by decide +kernel
theorem dX8_takeIn_10 : decode cX8_takeIn 10 = .ok (.sipush 255, 3) := by decide +kernel
theorem dX8_takeIn_13 : decode cX8_takeIn 13 = .ok (.iand, 1) := by decide +kernel
theorem dX8_takeIn_14 : decode cX8_takeIn 14 = .ok (.istore_n 3, 1) := by decide +kernel
theorem dX8_takeIn_15 : decode cX8_takeIn 15 = .ok (.iload_n 3, 1) := by decide +kernel
theorem dX8_takeIn_16 : decode cX8_takeIn 16 = .ok (.ifCond .eq 33, 3) := by decide +kernel
theorem dX8_takeIn_19 : decode cX8_takeIn 19 = .ok (.aload_n 0, 1) := by decide +kernel
theorem dX8_takeIn_20 : decode cX8_takeIn 20 = .ok (.getfield 15, 3) := by decide +kernel
theorem dX8_takeIn_23 : decode cX8_takeIn 23 = .ok (.bipush 50, 2) := by decide +kernel
theorem dX8_takeIn_25 : decode cX8_takeIn 25 = .ok (.if_icmp .ge 24, 3) := by decide +kernel
theorem dX8_takeIn_28 : decode cX8_takeIn 28 = .ok (.aload_n 0, 1) := by decide +kernel
theorem dX8_takeIn_29 : decode cX8_takeIn 29 = .ok (.getfield 9, 3) := by decide +kernel
theorem dX8_takeIn_32 : decode cX8_takeIn 32 = .ok (.aload_n 0, 1) := by decide +kernel
theorem dX8_takeIn_33 : decode cX8_takeIn 33 = .ok (.getfield 15, 3) := by decide +kernel
theorem dX8_takeIn_36 : decode cX8_takeIn 36 = .ok (.iload_n 3, 1) := by decide +kernel
theorem dX8_takeIn_37 : decode cX8_takeIn 37 = .ok (.i2c, 1) := by decide +kernel
theorem dX8_takeIn_38 : decode cX8_takeIn 38 = .ok (.castore, 1) := by decide +kernel
theorem dX8_takeIn_39 : decode cX8_takeIn 39 = .ok (.aload_n 0, 1) := by decide +kernel
theorem dX8_takeIn_40 : decode cX8_takeIn 40 = .ok (.dup, 1) := by decide +kernel
theorem dX8_takeIn_41 : decode cX8_takeIn 41 = .ok (.getfield 15, 3) := by decide +kernel
theorem dX8_takeIn_44 : decode cX8_takeIn 44 = .ok (.iconst 1, 1) := by decide +kernel
theorem dX8_takeIn_45 : decode cX8_takeIn 45 = .ok (.iadd, 1) := by decide +kernel
theorem dX8_takeIn_46 : decode cX8_takeIn 46 = .ok (.putfield 15, 3) := by decide +kernel
theorem dX8_takeIn_49 : decode cX8_takeIn 49 = .ok (.iinc 2 (-8), 3) := by decide +kernel
theorem dX8_takeIn_52 : decode cX8_takeIn 52 = .ok (.goto (-49), 3) := by decide +kernel
theorem dX8_takeIn_55 : decode cX8_takeIn 55 = .ok (.return_, 1) := by decide +kernel
theorem dX8_readText_0 : decode cX8_readText 0 = .ok (.aload_n 0, 1) := by decide +kernel
theorem dX8_readText_1 : decode cX8_readText 1 = .ok (.iconst 0, 1) := by decide +kernel
theorem dX8_readText_2 : decode cX8_readText 2 = .ok (.putfield 29, 3) := by decide +kernel
theorem dX8_readText_5 : decode cX8_readText 5 = .ok (.aload_n 0, 1) := by decide +kernel
theorem dX8_readText_6 : decode cX8_readText 6 = .ok (.iconst (-1), 1) := by decide +kernel
theorem dX8_readText_7 : decode cX8_readText 7 = .ok (.putfield 19, 3) := by decide +kernel
theorem dX8_readText_10 : decode cX8_readText 10 = .ok (.aload_n 0, 1) := by decide +kernel
theorem dX8_readText_11 : decode cX8_readText 11 = .ok (.getfield 25, 3) := by decide +kernel
theorem dX8_readText_14 : decode cX8_readText 14 = .ok (.invokevirtual 39, 3) := by decide +kernel
theorem dX8_readText_17 : decode cX8_readText 17 = .ok (.iconst 0, 1) := by decide +kernel
theorem dX8_readText_18 : decode cX8_readText 18 = .ok (.istore_n 1, 1) := by decide +kernel
theorem dX8_readText_19 : decode cX8_readText 19 = .ok (.iload_n 1, 1) := by decide +kernel
theorem dX8_readText_20 : decode cX8_readText 20 = .ok (.bipush 50, 2) := by decide +kernel
theorem dX8_readText_22 : decode cX8_readText 22 = .ok (.if_icmp .ge 42, 3) := by decide +kernel
theorem dX8_readText_25 : decode cX8_readText 25 = .ok (.aload_n 0, 1) := by decide +kernel
theorem dX8_readText_26 : decode cX8_readText 26 = .ok (.invokevirtual 42, 3) := by decide +kernel
theorem dX8_readText_29 : decode cX8_readText 29 = .ok (.ifCond .ne 5, 3) := by decide +kernel
theorem dX8_readText_32 : decode cX8_readText 32 = .ok (.iconst 0, 1) := by decide +kernel
theorem dX8_readText_33 : decode cX8_readText 33 = .ok (.ireturn, 1) := by decide +kernel
theorem dX8_readText_34 : decode cX8_readText 34 = .ok (.aload_n 0, 1) := by decide +kernel
theorem dX8_readText_35 : decode cX8_readText 35 = .ok (.getfield 29, 3) := by decide +kernel
theorem dX8_readText_38 : decode cX8_readText 38 = .ok (.aload_n 0, 1) := by decide +kernel
theorem dX8_readText_39 : decode cX8_readText 39 = .ok (.getfield 15, 3) := by decide +kernel
theorem dX8_readText_42 : decode cX8_readText 42 = .ok (.if_icmp .ne 5, 3) := by decide +kernel
theorem dX8_readText_45 : decode cX8_readText 45 = .ok (.iconst 1, 1) := by decide +kernel
theorem dX8_readText_46 : decode cX8_readText 46 = .ok (.ireturn, 1) := by decide +kernel
theorem dX8_readText_47 : decode cX8_readText 47 = .ok (.aload_n 0, 1) := by decide +kernel
theorem dX8_readText_48 : decode cX8_readText 48 = .ok (.bipush 59, 2) := by decide +kernel
theorem dX8_readText_50 : decode cX8_readText 50 = .ok (.invokevirtual 46, 3) := by decide +kernel
theorem dX8_readText_53 : decode cX8_readText 53 = .ok (.ifCond .ne 5, 3) := by decide +kernel
theorem dX8_readText_56 : decode cX8_readText 56 = .ok (.iconst 0, 1) := by decide +kernel
theorem dX8_readText_57 : decode cX8_readText 57 = .ok (.ireturn, 1) := by decide +kernel
theorem dX8_readText_58 : decode cX8_readText 58 = .ok (.iinc 1 1, 3) := by decide +kernel
theorem dX8_readText_61 : decode cX8_readText 61 = .ok (.goto (-42), 3) := by decide +kernel
theorem dX8_readText_64 : decode cX8_readText 64 = .ok (.aload_n 0, 1) := by decide +kernel
theorem dX8_readText_65 : decode cX8_readText 65 = .ok (.aload_n 0, 1) := by decide +kernel
theorem dX8_readText_66 : decode cX8_readText 66 = .ok (.getfield 29, 3) := by decide +kernel
theorem dX8_readText_69 : decode cX8_readText 69 = .ok (.invokevirtual 50, 3) := by decide +kernel
theorem dX8_readText_72 : decode cX8_readText 72 = .ok (.ireturn, 1) := by decide +kernel
theorem dX8_readPart_0 : decode cX8_readPart 0 = .ok (.aload_n 0, 1) := by decide +kernel
theorem dX8_readPart_1 : decode cX8_readPart 1 = .ok (.invokevirtual 54, 3) := by decide +kernel
theorem dX8_readPart_4 : decode cX8_readPart 4 = .ok (.invokestatic 58, 3) := by decide +kernel
theorem dX8_readPart_7 : decode cX8_readPart 7 = .ok (.istore_n 1, 1) := by decide +kernel
theorem dX8_readPart_8 : decode cX8_readPart 8 = .ok (.iload_n 1, 1) := by decide +kernel
theorem dX8_readPart_9 : decode cX8_readPart 9 = .ok (.ifCond .lt 14, 3) := by decide +kernel
theorem dX8_readPart_12 : decode cX8_readPart 12 = .ok (.aload_n 0, 1) := by decide +kernel
theorem dX8_readPart_13 : decode cX8_readPart 13 = .ok (.getfield 25, 3) := by decide +kernel
theorem dX8_readPart_16 : decode cX8_readPart 16 = .ok (.iload_n 1, 1) := by decide +kernel
theorem dX8_readPart_17 : decode cX8_readPart 17 = .ok (.invokevirtual 62, 3) := by decide +kernel
theorem dX8_readPart_20 : decode cX8_readPart 20 = .ok (.ifCond .ne 12, 3) := by decide +kernel
theorem dX8_readPart_23 : decode cX8_readPart 23 = .ok (.aload_n 0, 1) := by decide +kernel
theorem dX8_readPart_24 : decode cX8_readPart 24 = .ok (.aload_n 0, 1) := by decide +kernel
theorem dX8_readPart_25 : decode cX8_readPart 25 = .ok (.getfield 29, 3) := by decide +kernel
theorem dX8_readPart_28 : decode cX8_readPart 28 = .ok (.invokevirtual 50, 3) := by decide +kernel
theorem dX8_readPart_31 : decode cX8_readPart 31 = .ok (.ireturn, 1) := by decide +kernel
theorem dX8_readPart_32 : decode cX8_readPart 32 = .ok (.aload_n 0, 1) := by decide +kernel
theorem dX8_readPart_33 : decode cX8_readPart 33 = .ok (.dup, 1) := by decide +kernel
theorem dX8_readPart_34 : decode cX8_readPart 34 = .ok (.getfield 29, 3) := by decide +kernel
theorem dX8_readPart_37 : decode cX8_readPart 37 = .ok (.iconst 1, 1) := by decide +kernel
theorem dX8_readPart_38 : decode cX8_readPart 38 = .ok (.iadd, 1) := by decide +kernel
theorem dX8_readPart_39 : decode cX8_readPart 39 = .ok (.putfield 29, 3) := by decide +kernel
theorem dX8_readPart_42 : decode cX8_readPart 42 = .ok (.iload_n 1, 1) := by decide +kernel
theorem dX8_readPart_43 : decode cX8_readPart 43 = .ok (.iconst 3, 1) := by decide +kernel
theorem dX8_readPart_44 : decode cX8_readPart 44 = .ok (.if_icmp .ne 10, 3) := by decide +kernel
theorem dX8_readPart_47 : decode cX8_readPart 47 = .ok (.aload_n 0, 1) := by decide +kernel
theorem dX8_readPart_48 : decode cX8_readPart 48 = .ok (.invokevirtual 65, 3) := by decide +kernel
theorem dX8_readPart_51 : decode cX8_readPart 51 = .ok (.goto 8, 3) := by decide +kernel
theorem dX8_readPart_54 : decode cX8_readPart 54 = .ok (.aload_n 0, 1) := by decide +kernel
theorem dX8_readPart_55 : decode cX8_readPart 55 = .ok (.iload_n 1, 1) := by decide +kernel
theorem dX8_readPart_56 : decode cX8_readPart 56 = .ok (.invokevirtual 68, 3) := by decide +kernel
theorem dX8_readPart_59 : decode cX8_readPart 59 = .ok (.ireturn, 1) := by decide +kernel
theorem dX8_kindOf_0 : decode cX8_kindOf 0 = .ok (.iload_n 0, 1) := by decide +kernel
theorem dX8_kindOf_1 : decode cX8_kindOf 1 = .ok (.lookupswitch 51 #[(98, 45), (112, 49), (114, 47), (115, 43)], 43) := by decide +kernel
theorem dX8_kindOf_44 : decode cX8_kindOf 44 = .ok (.iconst 0, 1) := by decide +kernel
theorem dX8_kindOf_45 : decode cX8_kindOf 45 = .ok (.ireturn, 1) := by decide +kernel
theorem dX8_kindOf_46 : decode cX8_kindOf 46 = .ok (.iconst 1, 1) := by decide +kernel
theorem dX8_kindOf_47 : decode cX8_kindOf 47 = .ok (.ireturn, 1) := by decide +kernel
theorem dX8_kindOf_48 : decode cX8_kindOf 48 = .ok (.iconst 2, 1) := by decide +kernel
theorem dX8_kindOf_49 : decode cX8_kindOf 49 = .ok (.ireturn, 1) := by decide +kernel
theorem dX8_kindOf_50 : decode cX8_kindOf 50 = .ok (.iconst 3, 1) := by decide +kernel
theorem dX8_kindOf_51 : decode cX8_kindOf 51 = .ok (.ireturn, 1) := by decide +kernel
theorem dX8_kindOf_52 : decode cX8_kindOf 52 = .ok (.iconst (-1), 1) := by decide +kernel
theorem dX8_kindOf_53 : decode cX8_kindOf 53 = .ok (.ireturn, 1) := by decide +kernel
theorem dX8_readSegment_0 : decode cX8_readSegment 0 = .ok (.aload_n 0, 1) := by decide +kernel
theorem dX8_readSegment_1 : decode cX8_readSegment 1 = .ok (.iconst 1, 1) := by decide +kernel
theorem dX8_readSegment_2 : decode cX8_readSegment 2 = .ok (.iconst 1, 1) := by decide +kernel
theorem dX8_readSegment_3 : decode cX8_readSegment 3 = .ok (.bipush 99, 2) := by decide +kernel
theorem dX8_readSegment_5 : decode cX8_readSegment 5 = .ok (.invokevirtual 71, 3) := by decide +kernel
theorem dX8_readSegment_8 : decode cX8_readSegment 8 = .ok (.ifCond .ne 5, 3) := by decide +kernel
theorem dX8_readSegment_11 : decode cX8_readSegment 11 = .ok (.iconst 0, 1) := by decide +kernel
theorem dX8_readSegment_12 : decode cX8_readSegment 12 = .ok (.ireturn, 1) := by decide +kernel
theorem dX8_readSegment_13 : decode cX8_readSegment 13 = .ok (.aload_n 0, 1) := by decide +kernel
theorem dX8_readSegment_14 : decode cX8_readSegment 14 = .ok (.getfield 32, 3) := by decide +kernel
theorem dX8_readSegment_17 : decode cX8_readSegment 17 = .ok (.istore_n 2, 1) := by decide +kernel
theorem dX8_readSegment_18 : decode cX8_readSegment 18 = .ok (.iconst 0, 1) := by decide +kernel
theorem dX8_readSegment_19 : decode cX8_readSegment 19 = .ok (.istore_n 3, 1) := by decide +kernel
theorem dX8_readSegment_20 : decode cX8_readSegment 20 = .ok (.iload_n 1, 1) := by decide +kernel
theorem dX8_readSegment_21 : decode cX8_readSegment 21 = .ok (.ifCond .eq 28, 3) := by decide +kernel
theorem dX8_readSegment_24 : decode cX8_readSegment 24 = .ok (.aload_n 0, 1) := by decide +kernel
theorem dX8_readSegment_25 : decode cX8_readSegment 25 = .ok (.bipush 58, 2) := by decide +kernel
theorem dX8_readSegment_27 : decode cX8_readSegment 27 = .ok (.invokevirtual 46, 3) := by decide +kernel
theorem dX8_readSegment_30 : decode cX8_readSegment 30 = .ok (.ifCond .eq 12, 3) := by decide +kernel
theorem dX8_readSegment_33 : decode cX8_readSegment 33 = .ok (.aload_n 0, 1) := by decide +kernel
theorem dX8_readSegment_34 : decode cX8_readSegment 34 = .ok (.bipush 50, 2) := by decide +kernel
theorem dX8_readSegment_36 : decode cX8_readSegment 36 = .ok (.invokevirtual 74, 3) := by decide +kernel
theorem dX8_readSegment_39 : decode cX8_readSegment 39 = .ok (.ifCond .ne 5, 3) := by decide +kernel
theorem dX8_readSegment_42 : decode cX8_readSegment 42 = .ok (.iconst 0, 1) := by decide +kernel
theorem dX8_readSegment_43 : decode cX8_readSegment 43 = .ok (.ireturn, 1) := by decide +kernel
theorem dX8_readSegment_44 : decode cX8_readSegment 44 = .ok (.aload_n 0, 1) := by decide +kernel
theorem dX8_readSegment_45 : decode cX8_readSegment 45 = .ok (.getfield 32, 3) := by decide +kernel
theorem dX8_readSegment_48 : decode cX8_readSegment 48 = .ok (.istore_n 3, 1) := by decide +kernel
theorem dX8_readSegment_49 : decode cX8_readSegment 49 = .ok (.aload_n 0, 1) := by decide +kernel
theorem dX8_readSegment_50 : decode cX8_readSegment 50 = .ok (.getfield 25, 3) := by decide +kernel
theorem dX8_readSegment_53 : decode cX8_readSegment 53 = .ok (.iload_n 1, 1) := by decide +kernel
theorem dX8_readSegment_54 : decode cX8_readSegment 54 = .ok (.iload_n 2, 1) := by decide +kernel
theorem dX8_readSegment_55 : decode cX8_readSegment 55 = .ok (.iload_n 3, 1) := by decide +kernel
theorem dX8_readSegment_56 : decode cX8_readSegment 56 = .ok (.invokevirtual 77, 3) := by decide +kernel
theorem dX8_readSegment_59 : decode cX8_readSegment 59 = .ok (.iconst 1, 1) := by decide +kernel
theorem dX8_readSegment_60 : decode cX8_readSegment 60 = .ok (.ireturn, 1) := by decide +kernel
theorem dX8_readDisturbance_0 : decode cX8_readDisturbance 0 = .ok (.aload_n 0, 1) := by decide +kernel
theorem dX8_readDisturbance_1 : decode cX8_readDisturbance 1 = .ok (.iconst 1, 1) := by decide +kernel
theorem dX8_readDisturbance_2 : decode cX8_readDisturbance 2 = .ok (.iconst 0, 1) := by decide +kernel
theorem dX8_readDisturbance_3 : decode cX8_readDisturbance 3 = .ok (.sipush 199, 3) := by decide +kernel
theorem dX8_readDisturbance_6 : decode cX8_readDisturbance 6 = .ok (.invokevirtual 71, 3) := by decide +kernel
theorem dX8_readDisturbance_9 : decode cX8_readDisturbance 9 = .ok (.ifCond .ne 5, 3) := by decide +kernel
theorem dX8_readDisturbance_12 : decode cX8_readDisturbance 12 = .ok (.iconst 0, 1) := by decide +kernel
theorem dX8_readDisturbance_13 : decode cX8_readDisturbance 13 = .ok (.ireturn, 1) := by decide +kernel
theorem dX8_readDisturbance_14 : decode cX8_readDisturbance 14 = .ok (.aload_n 0, 1) := by decide +kernel
theorem dX8_readDisturbance_15 : decode cX8_readDisturbance 15 = .ok (.getfield 32, 3) := by decide +kernel
theorem dX8_readDisturbance_18 : decode cX8_readDisturbance 18 = .ok (.istore_n 1, 1) := by decide +kernel
theorem dX8_readDisturbance_19 : decode cX8_readDisturbance 19 = .ok (.aload_n 0, 1) := by decide +kernel
theorem dX8_readDisturbance_20 : decode cX8_readDisturbance 20 = .ok (.bipush 58, 2) := by decide +kernel
theorem dX8_readDisturbance_22 : decode cX8_readDisturbance 22 = .ok (.invokevirtual 46, 3) := by decide +kernel
theorem dX8_readDisturbance_25 : decode cX8_readDisturbance 25 = .ok (.ifCond .eq 13, 3) := by decide +kernel
theorem dX8_readDisturbance_28 : decode cX8_readDisturbance 28 = .ok (.aload_n 0, 1) := by decide +kernel
theorem dX8_readDisturbance_29 : decode cX8_readDisturbance 29 = .ok (.sipush 500, 3) := by decide +kernel
theorem dX8_readDisturbance_32 : decode cX8_readDisturbance 32 = .ok (.invokevirtual 74, 3) := by decide +kernel
theorem dX8_readDisturbance_35 : decode cX8_readDisturbance 35 = .ok (.ifCond .ne 5, 3) := by decide +kernel
theorem dX8_readDisturbance_38 : decode cX8_readDisturbance 38 = .ok (.iconst 0, 1) := by decide +kernel
theorem dX8_readDisturbance_39 : decode cX8_readDisturbance 39 = .ok (.ireturn, 1) := by decide +kernel
theorem dX8_readDisturbance_40 : decode cX8_readDisturbance 40 = .ok (.aload_n 0, 1) := by decide +kernel
theorem dX8_readDisturbance_41 : decode cX8_readDisturbance 41 = .ok (.getfield 32, 3) := by decide +kernel
theorem dX8_readDisturbance_44 : decode cX8_readDisturbance 44 = .ok (.istore_n 2, 1) := by decide +kernel
theorem dX8_readDisturbance_45 : decode cX8_readDisturbance 45 = .ok (.aload_n 0, 1) := by decide +kernel
theorem dX8_readDisturbance_46 : decode cX8_readDisturbance 46 = .ok (.bipush 42, 2) := by decide +kernel
theorem dX8_readDisturbance_48 : decode cX8_readDisturbance 48 = .ok (.invokevirtual 46, 3) := by decide +kernel
theorem dX8_readDisturbance_51 : decode cX8_readDisturbance 51 = .ok (.ifCond .eq 14, 3) := by decide +kernel
theorem dX8_readDisturbance_54 : decode cX8_readDisturbance 54 = .ok (.aload_n 0, 1) := by decide +kernel
theorem dX8_readDisturbance_55 : decode cX8_readDisturbance 55 = .ok (.iconst 1, 1) := by decide +kernel
theorem dX8_readDisturbance_56 : decode cX8_readDisturbance 56 = .ok (.iconst 1, 1) := by decide +kernel
theorem dX8_readDisturbance_57 : decode cX8_readDisturbance 57 = .ok (.bipush 99, 2) := by decide +kernel
theorem dX8_readDisturbance_59 : decode cX8_readDisturbance 59 = .ok (.invokevirtual 71, 3) := by decide +kernel
theorem dX8_readDisturbance_62 : decode cX8_readDisturbance 62 = .ok (.ifCond .ne 5, 3) := by decide +kernel
theorem dX8_readDisturbance_65 : decode cX8_readDisturbance 65 = .ok (.iconst 0, 1) := by decide +kernel
theorem dX8_readDisturbance_66 : decode cX8_readDisturbance 66 = .ok (.ireturn, 1) := by decide +kernel
theorem dX8_readDisturbance_67 : decode cX8_readDisturbance 67 = .ok (.aload_n 0, 1) := by decide +kernel
theorem dX8_readDisturbance_68 : decode cX8_readDisturbance 68 = .ok (.getfield 25, 3) := by decide +kernel
theorem dX8_readDisturbance_71 : decode cX8_readDisturbance 71 = .ok (.iload_n 1, 1) := by decide +kernel
theorem dX8_readDisturbance_72 : decode cX8_readDisturbance 72 = .ok (.iload_n 2, 1) := by decide +kernel
theorem dX8_readDisturbance_73 : decode cX8_readDisturbance 73 = .ok (.aload_n 0, 1) := by decide +kernel
theorem dX8_readDisturbance_74 : decode cX8_readDisturbance 74 = .ok (.getfield 32, 3) := by decide +kernel
theorem dX8_readDisturbance_77 : decode cX8_readDisturbance 77 = .ok (.invokevirtual 81, 3) := by decide +kernel
theorem dX8_readDisturbance_80 : decode cX8_readDisturbance 80 = .ok (.iconst 1, 1) := by decide +kernel
theorem dX8_readDisturbance_81 : decode cX8_readDisturbance 81 = .ok (.ireturn, 1) := by decide +kernel
theorem dX8_readSigned_0 : decode cX8_readSigned 0 = .ok (.aload_n 0, 1) := by decide +kernel
theorem dX8_readSigned_1 : decode cX8_readSigned 1 = .ok (.invokevirtual 54, 3) := by decide +kernel
theorem dX8_readSigned_4 : decode cX8_readSigned 4 = .ok (.bipush 45, 2) := by decide +kernel
theorem dX8_readSigned_6 : decode cX8_readSigned 6 = .ok (.if_icmp .ne 22, 3) := by decide +kernel
theorem dX8_readSigned_9 : decode cX8_readSigned 9 = .ok (.aload_n 0, 1) := by decide +kernel
theorem dX8_readSigned_10 : decode cX8_readSigned 10 = .ok (.dup, 1) := by decide +kernel
theorem dX8_readSigned_11 : decode cX8_readSigned 11 = .ok (.getfield 29, 3) := by decide +kernel
theorem dX8_readSigned_14 : decode cX8_readSigned 14 = .ok (.iconst 1, 1) := by decide +kernel
theorem dX8_readSigned_15 : decode cX8_readSigned 15 = .ok (.iadd, 1) := by decide +kernel
theorem dX8_readSigned_16 : decode cX8_readSigned 16 = .ok (.putfield 29, 3) := by decide +kernel
theorem dX8_readSigned_19 : decode cX8_readSigned 19 = .ok (.aload_n 0, 1) := by decide +kernel
theorem dX8_readSigned_20 : decode cX8_readSigned 20 = .ok (.iconst (-1), 1) := by decide +kernel
theorem dX8_readSigned_21 : decode cX8_readSigned 21 = .ok (.iload_n 1, 1) := by decide +kernel
theorem dX8_readSigned_22 : decode cX8_readSigned 22 = .ok (.ineg, 1) := by decide +kernel
theorem dX8_readSigned_23 : decode cX8_readSigned 23 = .ok (.iload_n 1, 1) := by decide +kernel
theorem dX8_readSigned_24 : decode cX8_readSigned 24 = .ok (.invokevirtual 71, 3) := by decide +kernel
theorem dX8_readSigned_27 : decode cX8_readSigned 27 = .ok (.ireturn, 1) := by decide +kernel
theorem dX8_readSigned_28 : decode cX8_readSigned 28 = .ok (.aload_n 0, 1) := by decide +kernel
theorem dX8_readSigned_29 : decode cX8_readSigned 29 = .ok (.iconst 1, 1) := by decide +kernel
theorem dX8_readSigned_30 : decode cX8_readSigned 30 = .ok (.iload_n 1, 1) := by decide +kernel
theorem dX8_readSigned_31 : decode cX8_readSigned 31 = .ok (.ineg, 1) := by decide +kernel
theorem dX8_readSigned_32 : decode cX8_readSigned 32 = .ok (.iload_n 1, 1) := by decide +kernel
theorem dX8_readSigned_33 : decode cX8_readSigned 33 = .ok (.invokevirtual 71, 3) := by decide +kernel
theorem dX8_readSigned_36 : decode cX8_readSigned 36 = .ok (.ireturn, 1) := by decide +kernel
theorem dX8_readNumber_0 : decode cX8_readNumber 0 = .ok (.aload_n 0, 1) := by decide +kernel
theorem dX8_readNumber_1 : decode cX8_readNumber 1 = .ok (.getfield 29, 3) := by decide +kernel
theorem dX8_readNumber_4 : decode cX8_readNumber 4 = .ok (.istore 4, 2) := by decide +kernel
theorem dX8_readNumber_6 : decode cX8_readNumber 6 = .ok (.iconst 0, 1) := by decide +kernel
theorem dX8_readNumber_7 : decode cX8_readNumber 7 = .ok (.istore 5, 2) := by decide +kernel
theorem dX8_readNumber_9 : decode cX8_readNumber 9 = .ok (.iconst 0, 1) := by decide +kernel
theorem dX8_readNumber_10 : decode cX8_readNumber 10 = .ok (.istore 6, 2) := by decide +kernel
theorem dX8_readNumber_12 : decode cX8_readNumber 12 = .ok (.iload 6, 2) := by decide +kernel
theorem dX8_readNumber_14 : decode cX8_readNumber 14 = .ok (.iconst 3, 1) := by decide +kernel
theorem dX8_readNumber_15 : decode cX8_readNumber 15 = .ok (.if_icmp .ge 57, 3) := by decide +kernel
theorem dX8_readNumber_18 : decode cX8_readNumber 18 = .ok (.aload_n 0, 1) := by decide +kernel
theorem dX8_readNumber_19 : decode cX8_readNumber 19 = .ok (.invokevirtual 54, 3) := by decide +kernel
theorem dX8_readNumber_22 : decode cX8_readNumber 22 = .ok (.invokestatic 84, 3) := by decide +kernel
theorem dX8_readNumber_25 : decode cX8_readNumber 25 = .ok (.ifCond .eq 47, 3) := by decide +kernel
theorem dX8_readNumber_28 : decode cX8_readNumber 28 = .ok (.iload 6, 2) := by decide +kernel
theorem dX8_readNumber_30 : decode cX8_readNumber 30 = .ok (.ifCond .le 11, 3) := by decide +kernel
theorem dX8_readNumber_33 : decode cX8_readNumber 33 = .ok (.iload 5, 2) := by decide +kernel
theorem dX8_readNumber_35 : decode cX8_readNumber 35 = .ok (.ifCond .ne 6, 3) := by decide +kernel
theorem dX8_readNumber_38 : decode cX8_readNumber 38 = .ok (.goto 34, 3) := by decide +kernel
theorem dX8_readNumber_41 : decode cX8_readNumber 41 = .ok (.iload 5, 2) := by decide +kernel
theorem dX8_readNumber_43 : decode cX8_readNumber 43 = .ok (.bipush 10, 2) := by decide +kernel
theorem dX8_readNumber_45 : decode cX8_readNumber 45 = .ok (.imul, 1) := by decide +kernel
theorem dX8_readNumber_46 : decode cX8_readNumber 46 = .ok (.aload_n 0, 1) := by decide +kernel
theorem dX8_readNumber_47 : decode cX8_readNumber 47 = .ok (.invokevirtual 54, 3) := by decide +kernel
theorem dX8_readNumber_50 : decode cX8_readNumber 50 = .ok (.bipush 48, 2) := by decide +kernel
theorem dX8_readNumber_52 : decode cX8_readNumber 52 = .ok (.isub, 1) := by decide +kernel
theorem dX8_readNumber_53 : decode cX8_readNumber 53 = .ok (.iadd, 1) := by decide +kernel
theorem dX8_readNumber_54 : decode cX8_readNumber 54 = .ok (.istore 5, 2) := by decide +kernel
theorem dX8_readNumber_56 : decode cX8_readNumber 56 = .ok (.aload_n 0, 1) := by decide +kernel
theorem dX8_readNumber_57 : decode cX8_readNumber 57 = .ok (.dup, 1) := by decide +kernel
theorem dX8_readNumber_58 : decode cX8_readNumber 58 = .ok (.getfield 29, 3) := by decide +kernel
theorem dX8_readNumber_61 : decode cX8_readNumber 61 = .ok (.iconst 1, 1) := by decide +kernel
theorem dX8_readNumber_62 : decode cX8_readNumber 62 = .ok (.iadd, 1) := by decide +kernel
theorem dX8_readNumber_63 : decode cX8_readNumber 63 = .ok (.putfield 29, 3) := by decide +kernel
theorem dX8_readNumber_66 : decode cX8_readNumber 66 = .ok (.iinc 6 1, 3) := by decide +kernel
theorem dX8_readNumber_69 : decode cX8_readNumber 69 = .ok (.goto (-57), 3) := by decide +kernel
theorem dX8_readNumber_72 : decode cX8_readNumber 72 = .ok (.aload_n 0, 1) := by decide +kernel
theorem dX8_readNumber_73 : decode cX8_readNumber 73 = .ok (.iload_n 1, 1) := by decide +kernel
theorem dX8_readNumber_74 : decode cX8_readNumber 74 = .ok (.iload 5, 2) := by decide +kernel
theorem dX8_readNumber_76 : decode cX8_readNumber 76 = .ok (.imul, 1) := by decide +kernel
theorem dX8_readNumber_77 : decode cX8_readNumber 77 = .ok (.putfield 32, 3) := by decide +kernel
theorem dX8_readNumber_80 : decode cX8_readNumber 80 = .ok (.aload_n 0, 1) := by decide +kernel
theorem dX8_readNumber_81 : decode cX8_readNumber 81 = .ok (.getfield 29, 3) := by decide +kernel
theorem dX8_readNumber_84 : decode cX8_readNumber 84 = .ok (.iload 4, 2) := by decide +kernel
theorem dX8_readNumber_86 : decode cX8_readNumber 86 = .ok (.if_icmp .le 15, 3) := by decide +kernel
theorem dX8_readNumber_89 : decode cX8_readNumber 89 = .ok (.aload_n 0, 1) := by decide +kernel
theorem dX8_readNumber_90 : decode cX8_readNumber 90 = .ok (.getfield 32, 3) := by decide +kernel
theorem dX8_readNumber_93 : decode cX8_readNumber 93 = .ok (.iload_n 2, 1) := by decide +kernel
theorem dX8_readNumber_94 : decode cX8_readNumber 94 = .ok (.iload_n 3, 1) := by decide +kernel
theorem dX8_readNumber_95 : decode cX8_readNumber 95 = .ok (.invokestatic 35, 3) := by decide +kernel
theorem dX8_readNumber_98 : decode cX8_readNumber 98 = .ok (.ifCond .ne 12, 3) := by decide +kernel
theorem dX8_readNumber_101 : decode cX8_readNumber 101 = .ok (.aload_n 0, 1) := by decide +kernel
theorem dX8_readNumber_102 : decode cX8_readNumber 102 = .ok (.iload 4, 2) := by decide +kernel
theorem dX8_readNumber_104 : decode cX8_readNumber 104 = .ok (.invokevirtual 50, 3) := by decide +kernel
theorem dX8_readNumber_107 : decode cX8_readNumber 107 = .ok (.ifCond .eq 7, 3) := by decide +kernel
theorem dX8_readNumber_110 : decode cX8_readNumber 110 = .ok (.iconst 1, 1) := by decide +kernel
theorem dX8_readNumber_111 : decode cX8_readNumber 111 = .ok (.goto 4, 3) := by decide +kernel
theorem dX8_readNumber_114 : decode cX8_readNumber 114 = .ok (.iconst 0, 1) := by decide +kernel
theorem dX8_readNumber_115 : decode cX8_readNumber 115 = .ok (.ireturn, 1) := by decide +kernel
theorem dX8_readSign_0 : decode cX8_readSign 0 = .ok (.aload_n 0, 1) := by decide +kernel
theorem dX8_readSign_1 : decode cX8_readSign 1 = .ok (.invokevirtual 54, 3) := by decide +kernel
theorem dX8_readSign_4 : decode cX8_readSign 4 = .ok (.iload_n 1, 1) := by decide +kernel
theorem dX8_readSign_5 : decode cX8_readSign 5 = .ok (.if_icmp .eq 12, 3) := by decide +kernel
theorem dX8_readSign_8 : decode cX8_readSign 8 = .ok (.aload_n 0, 1) := by decide +kernel
theorem dX8_readSign_9 : decode cX8_readSign 9 = .ok (.aload_n 0, 1) := by decide +kernel
theorem dX8_readSign_10 : decode cX8_readSign 10 = .ok (.getfield 29, 3) := by decide +kernel
theorem dX8_readSign_13 : decode cX8_readSign 13 = .ok (.invokevirtual 50, 3) := by decide +kernel
theorem dX8_readSign_16 : decode cX8_readSign 16 = .ok (.ireturn, 1) := by decide +kernel
theorem dX8_readSign_17 : decode cX8_readSign 17 = .ok (.aload_n 0, 1) := by decide +kernel
theorem dX8_readSign_18 : decode cX8_readSign 18 = .ok (.dup, 1) := by decide +kernel
theorem dX8_readSign_19 : decode cX8_readSign 19 = .ok (.getfield 29, 3) := by decide +kernel
theorem dX8_readSign_22 : decode cX8_readSign 22 = .ok (.iconst 1, 1) := by decide +kernel
theorem dX8_readSign_23 : decode cX8_readSign 23 = .ok (.iadd, 1) := by decide +kernel
theorem dX8_readSign_24 : decode cX8_readSign 24 = .ok (.putfield 29, 3) := by decide +kernel
theorem dX8_readSign_27 : decode cX8_readSign 27 = .ok (.iconst 1, 1) := by decide +kernel
theorem dX8_readSign_28 : decode cX8_readSign 28 = .ok (.ireturn, 1) := by decide +kernel
theorem dX8_sign_0 : decode cX8_sign 0 = .ok (.aload_n 0, 1) := by decide +kernel
theorem dX8_sign_1 : decode cX8_sign 1 = .ok (.getfield 29, 3) := by decide +kernel
theorem dX8_sign_4 : decode cX8_sign 4 = .ok (.ifCond .lt 35, 3) := by decide +kernel
theorem dX8_sign_7 : decode cX8_sign 7 = .ok (.aload_n 0, 1) := by decide +kernel
theorem dX8_sign_8 : decode cX8_sign 8 = .ok (.getfield 29, 3) := by decide +kernel
theorem dX8_sign_11 : decode cX8_sign 11 = .ok (.aload_n 0, 1) := by decide +kernel
theorem dX8_sign_12 : decode cX8_sign 12 = .ok (.getfield 15, 3) := by decide +kernel
theorem dX8_sign_15 : decode cX8_sign 15 = .ok (.if_icmp .ge 24, 3) := by decide +kernel
theorem dX8_sign_18 : decode cX8_sign 18 = .ok (.aload_n 0, 1) := by decide +kernel
theorem dX8_sign_19 : decode cX8_sign 19 = .ok (.getfield 29, 3) := by decide +kernel
theorem dX8_sign_22 : decode cX8_sign 22 = .ok (.bipush 50, 2) := by decide +kernel
theorem dX8_sign_24 : decode cX8_sign 24 = .ok (.if_icmp .ge 15, 3) := by decide +kernel
theorem dX8_sign_27 : decode cX8_sign 27 = .ok (.aload_n 0, 1) := by decide +kernel
theorem dX8_sign_28 : decode cX8_sign 28 = .ok (.getfield 9, 3) := by decide +kernel
theorem dX8_sign_31 : decode cX8_sign 31 = .ok (.aload_n 0, 1) := by decide +kernel
theorem dX8_sign_32 : decode cX8_sign 32 = .ok (.getfield 29, 3) := by decide +kernel
theorem dX8_sign_35 : decode cX8_sign 35 = .ok (.caload, 1) := by decide +kernel
theorem dX8_sign_36 : decode cX8_sign 36 = .ok (.goto 4, 3) := by decide +kernel
theorem dX8_sign_39 : decode cX8_sign 39 = .ok (.iconst 0, 1) := by decide +kernel
theorem dX8_sign_40 : decode cX8_sign 40 = .ok (.ireturn, 1) := by decide +kernel
theorem dX8_isDigit_0 : decode cX8_isDigit 0 = .ok (.iload_n 0, 1) := by decide +kernel
theorem dX8_isDigit_1 : decode cX8_isDigit 1 = .ok (.bipush 48, 2) := by decide +kernel
theorem dX8_isDigit_3 : decode cX8_isDigit 3 = .ok (.if_icmp .lt 13, 3) := by decide +kernel
theorem dX8_isDigit_6 : decode cX8_isDigit 6 = .ok (.iload_n 0, 1) := by decide +kernel
theorem dX8_isDigit_7 : decode cX8_isDigit 7 = .ok (.bipush 57, 2) := by decide +kernel
theorem dX8_isDigit_9 : decode cX8_isDigit 9 = .ok (.if_icmp .gt 7, 3) := by decide +kernel
theorem dX8_isDigit_12 : decode cX8_isDigit 12 = .ok (.iconst 1, 1) := by decide +kernel
theorem dX8_isDigit_13 : decode cX8_isDigit 13 = .ok (.goto 4, 3) := by decide +kernel
theorem dX8_isDigit_16 : decode cX8_isDigit 16 = .ok (.iconst 0, 1) := by decide +kernel
theorem dX8_isDigit_17 : decode cX8_isDigit 17 = .ok (.ireturn, 1) := by decide +kernel
theorem dX8_failAt_0 : decode cX8_failAt 0 = .ok (.aload_n 0, 1) := by decide +kernel
theorem dX8_failAt_1 : decode cX8_failAt 1 = .ok (.iload_n 1, 1) := by decide +kernel
theorem dX8_failAt_2 : decode cX8_failAt 2 = .ok (.putfield 19, 3) := by decide +kernel
theorem dX8_failAt_5 : decode cX8_failAt 5 = .ok (.iconst 0, 1) := by decide +kernel
theorem dX8_failAt_6 : decode cX8_failAt 6 = .ok (.ireturn, 1) := by decide +kernel
theorem dX9_init_0 : decode cX9_init 0 = .ok (.aload_n 0, 1) := by decide +kernel
theorem dX9_init_1 : decode cX9_init 1 = .ok (.invokespecial 3, 3) := by decide +kernel
theorem dX9_init_4 : decode cX9_init 4 = .ok (.aload_n 0, 1) := by decide +kernel
theorem dX9_init_5 : decode cX9_init 5 = .ok (.new 9, 3) := by decide +kernel
theorem dX9_init_8 : decode cX9_init 8 = .ok (.dup, 1) := by decide +kernel
theorem dX9_init_9 : decode cX9_init 9 = .ok (.invokespecial 11, 3) := by decide +kernel
theorem dX9_init_12 : decode cX9_init 12 = .ok (.putfield 12, 3) := by decide +kernel
theorem dX9_init_15 : decode cX9_init 15 = .ok (.aload_n 0, 1) := by decide +kernel
