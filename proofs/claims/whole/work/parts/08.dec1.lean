theorem dX9_init_16 : decode cX9_init 16 = .ok (.new 18, 3) := by decide +kernel
theorem dX9_init_19 : decode cX9_init 19 = .ok (.dup, 1) := by decide +kernel
theorem dX9_init_20 : decode cX9_init 20 = .ok (.invokespecial 20, 3) := by decide +kernel
theorem dX9_init_23 : decode cX9_init 23 = .ok (.putfield 21, 3) := by decide +kernel
theorem dX9_init_26 : decode cX9_init 26 = .ok (.aload_n 0, 1) := by decide +kernel
theorem dX9_init_27 : decode cX9_init 27 = .ok (.sipush 216, 3) := by decide +kernel
theorem dX9_init_30 : decode cX9_init 30 = .ok (.newarray .long, 2) := by decide +kernel
theorem dX9_init_32 : decode cX9_init 32 = .ok (.putfield 25, 3) := by decide +kernel
theorem dX9_init_35 : decode cX9_init 35 = .ok (.aload_n 0, 1) := by decide +kernel
theorem dX9_init_36 : decode cX9_init 36 = .ok (.iconst 3, 1) := by decide +kernel
theorem dX9_init_37 : decode cX9_init 37 = .ok (.newarray .int, 2) := by decide +kernel
theorem dX9_init_39 : decode cX9_init 39 = .ok (.putfield 29, 3) := by decide +kernel
theorem dX9_init_42 : decode cX9_init 42 = .ok (.return_, 1) := by decide +kernel
theorem dX9_fillCosts_0 : decode cX9_fillCosts 0 = .ok (.aload_n 0, 1) := by decide +kernel
theorem dX9_fillCosts_1 : decode cX9_fillCosts 1 = .ok (.getfield 12, 3) := by decide +kernel
theorem dX9_fillCosts_4 : decode cX9_fillCosts 4 = .ok (.aload_n 1, 1) := by decide +kernel
theorem dX9_fillCosts_5 : decode cX9_fillCosts 5 = .ok (.invokevirtual 33, 3) := by decide +kernel
theorem dX9_fillCosts_8 : decode cX9_fillCosts 8 = .ok (.aload_n 1, 1) := by decide +kernel
theorem dX9_fillCosts_9 : decode cX9_fillCosts 9 = .ok (.getfield 37, 3) := by decide +kernel
theorem dX9_fillCosts_12 : decode cX9_fillCosts 12 = .ok (.invokevirtual 43, 3) := by decide +kernel
theorem dX9_fillCosts_15 : decode cX9_fillCosts 15 = .ok (.istore_n 2, 1) := by decide +kernel
theorem dX9_fillCosts_16 : decode cX9_fillCosts 16 = .ok (.aload_n 0, 1) := by decide +kernel
theorem dX9_fillCosts_17 : decode cX9_fillCosts 17 = .ok (.invokevirtual 49, 3) := by decide +kernel
theorem dX9_fillCosts_20 : decode cX9_fillCosts 20 = .ok (.iconst 0, 1) := by decide +kernel
theorem dX9_fillCosts_21 : decode cX9_fillCosts 21 = .ok (.istore_n 3, 1) := by decide +kernel
theorem dX9_fillCosts_22 : decode cX9_fillCosts 22 = .ok (.iload_n 3, 1) := by decide +kernel
theorem dX9_fillCosts_23 : decode cX9_fillCosts 23 = .ok (.iload_n 2, 1) := by decide +kernel
theorem dX9_fillCosts_24 : decode cX9_fillCosts 24 = .ok (.if_icmp .ge 76, 3) := by decide +kernel
theorem dX9_fillCosts_27 : decode cX9_fillCosts 27 = .ok (.iload_n 3, 1) := by decide +kernel
theorem dX9_fillCosts_28 : decode cX9_fillCosts 28 = .ok (.sipush 216, 3) := by decide +kernel
theorem dX9_fillCosts_31 : decode cX9_fillCosts 31 = .ok (.if_icmp .ge 69, 3) := by decide +kernel
theorem dX9_fillCosts_34 : decode cX9_fillCosts 34 = .ok (.iconst 0, 1) := by decide +kernel
theorem dX9_fillCosts_35 : decode cX9_fillCosts 35 = .ok (.istore 4, 2) := by decide +kernel
theorem dX9_fillCosts_37 : decode cX9_fillCosts 37 = .ok (.iload 4, 2) := by decide +kernel
theorem dX9_fillCosts_39 : decode cX9_fillCosts 39 = .ok (.iconst 3, 1) := by decide +kernel
theorem dX9_fillCosts_40 : decode cX9_fillCosts 40 = .ok (.if_icmp .ge 35, 3) := by decide +kernel
theorem dX9_fillCosts_43 : decode cX9_fillCosts 43 = .ok (.aload_n 0, 1) := by decide +kernel
theorem dX9_fillCosts_44 : decode cX9_fillCosts 44 = .ok (.getfield 12, 3) := by decide +kernel
theorem dX9_fillCosts_47 : decode cX9_fillCosts 47 = .ok (.getfield 52, 3) := by decide +kernel
theorem dX9_fillCosts_50 : decode cX9_fillCosts 50 = .ok (.iload 4, 2) := by decide +kernel
theorem dX9_fillCosts_52 : decode cX9_fillCosts 52 = .ok (.aload_n 1, 1) := by decide +kernel
theorem dX9_fillCosts_53 : decode cX9_fillCosts 53 = .ok (.getfield 37, 3) := by decide +kernel
theorem dX9_fillCosts_56 : decode cX9_fillCosts 56 = .ok (.iload 4, 2) := by decide +kernel
theorem dX9_fillCosts_58 : decode cX9_fillCosts 58 = .ok (.aload_n 0, 1) := by decide +kernel
theorem dX9_fillCosts_59 : decode cX9_fillCosts 59 = .ok (.getfield 29, 3) := by decide +kernel
theorem dX9_fillCosts_62 : decode cX9_fillCosts 62 = .ok (.iload 4, 2) := by decide +kernel
theorem dX9_fillCosts_64 : decode cX9_fillCosts 64 = .ok (.iaload, 1) := by decide +kernel
theorem dX9_fillCosts_65 : decode cX9_fillCosts 65 = .ok (.invokevirtual 55, 3) := by decide +kernel
theorem dX9_fillCosts_68 : decode cX9_fillCosts 68 = .ok (.iastore, 1) := by decide +kernel
theorem dX9_fillCosts_69 : decode cX9_fillCosts 69 = .ok (.iinc 4 1, 3) := by decide +kernel
theorem dX9_fillCosts_72 : decode cX9_fillCosts 72 = .ok (.goto (-35), 3) := by decide +kernel
theorem dX9_fillCosts_75 : decode cX9_fillCosts 75 = .ok (.aload_n 0, 1) := by decide +kernel
theorem dX9_fillCosts_76 : decode cX9_fillCosts 76 = .ok (.getfield 25, 3) := by decide +kernel
theorem dX9_fillCosts_79 : decode cX9_fillCosts 79 = .ok (.iload_n 3, 1) := by decide +kernel
theorem dX9_fillCosts_80 : decode cX9_fillCosts 80 = .ok (.aload_n 0, 1) := by decide +kernel
theorem dX9_fillCosts_81 : decode cX9_fillCosts 81 = .ok (.aload_n 1, 1) := by decide +kernel
theorem dX9_fillCosts_82 : decode cX9_fillCosts 82 = .ok (.invokevirtual 59, 3) := by decide +kernel
theorem dX9_fillCosts_85 : decode cX9_fillCosts 85 = .ok (.lastore, 1) := by decide +kernel
theorem dX9_fillCosts_86 : decode cX9_fillCosts 86 = .ok (.aload_n 0, 1) := by decide +kernel
theorem dX9_fillCosts_87 : decode cX9_fillCosts 87 = .ok (.aload_n 1, 1) := by decide +kernel
theorem dX9_fillCosts_88 : decode cX9_fillCosts 88 = .ok (.getfield 37, 3) := by decide +kernel
theorem dX9_fillCosts_91 : decode cX9_fillCosts 91 = .ok (.invokevirtual 63, 3) := by decide +kernel
theorem dX9_fillCosts_94 : decode cX9_fillCosts 94 = .ok (.iinc 3 1, 3) := by decide +kernel
theorem dX9_fillCosts_97 : decode cX9_fillCosts 97 = .ok (.goto (-75), 3) := by decide +kernel
theorem dX9_fillCosts_100 : decode cX9_fillCosts 100 = .ok (.return_, 1) := by decide +kernel
theorem dX9_startIndexes_0 : decode cX9_startIndexes 0 = .ok (.iconst 0, 1) := by decide +kernel
theorem dX9_startIndexes_1 : decode cX9_startIndexes 1 = .ok (.istore_n 1, 1) := by decide +kernel
theorem dX9_startIndexes_2 : decode cX9_startIndexes 2 = .ok (.iload_n 1, 1) := by decide +kernel
theorem dX9_startIndexes_3 : decode cX9_startIndexes 3 = .ok (.iconst 3, 1) := by decide +kernel
theorem dX9_startIndexes_4 : decode cX9_startIndexes 4 = .ok (.if_icmp .ge 16, 3) := by decide +kernel
theorem dX9_startIndexes_7 : decode cX9_startIndexes 7 = .ok (.aload_n 0, 1) := by decide +kernel
theorem dX9_startIndexes_8 : decode cX9_startIndexes 8 = .ok (.getfield 29, 3) := by decide +kernel
theorem dX9_startIndexes_11 : decode cX9_startIndexes 11 = .ok (.iload_n 1, 1) := by decide +kernel
theorem dX9_startIndexes_12 : decode cX9_startIndexes 12 = .ok (.iconst 0, 1) := by decide +kernel
theorem dX9_startIndexes_13 : decode cX9_startIndexes 13 = .ok (.iastore, 1) := by decide +kernel
theorem dX9_startIndexes_14 : decode cX9_startIndexes 14 = .ok (.iinc 1 1, 3) := by decide +kernel
theorem dX9_startIndexes_17 : decode cX9_startIndexes 17 = .ok (.goto (-15), 3) := by decide +kernel
theorem dX9_startIndexes_20 : decode cX9_startIndexes 20 = .ok (.return_, 1) := by decide +kernel
theorem dX9_moveIndexes_0 : decode cX9_moveIndexes 0 = .ok (.iconst 2, 1) := by decide +kernel
theorem dX9_moveIndexes_1 : decode cX9_moveIndexes 1 = .ok (.istore_n 2, 1) := by decide +kernel
theorem dX9_moveIndexes_2 : decode cX9_moveIndexes 2 = .ok (.iload_n 2, 1) := by decide +kernel
theorem dX9_moveIndexes_3 : decode cX9_moveIndexes 3 = .ok (.ifCond .lt 42, 3) := by decide +kernel
theorem dX9_moveIndexes_6 : decode cX9_moveIndexes 6 = .ok (.aload_n 0, 1) := by decide +kernel
theorem dX9_moveIndexes_7 : decode cX9_moveIndexes 7 = .ok (.getfield 29, 3) := by decide +kernel
theorem dX9_moveIndexes_10 : decode cX9_moveIndexes 10 = .ok (.iload_n 2, 1) := by decide +kernel
theorem dX9_moveIndexes_11 : decode cX9_moveIndexes 11 = .ok (.dup2, 1) := by decide +kernel
theorem dX9_moveIndexes_12 : decode cX9_moveIndexes 12 = .ok (.iaload, 1) := by decide +kernel
theorem dX9_moveIndexes_13 : decode cX9_moveIndexes 13 = .ok (.iconst 1, 1) := by decide +kernel
theorem dX9_moveIndexes_14 : decode cX9_moveIndexes 14 = .ok (.iadd, 1) := by decide +kernel
theorem dX9_moveIndexes_15 : decode cX9_moveIndexes 15 = .ok (.iastore, 1) := by decide +kernel
theorem dX9_moveIndexes_16 : decode cX9_moveIndexes 16 = .ok (.aload_n 0, 1) := by decide +kernel
theorem dX9_moveIndexes_17 : decode cX9_moveIndexes 17 = .ok (.getfield 29, 3) := by decide +kernel
theorem dX9_moveIndexes_20 : decode cX9_moveIndexes 20 = .ok (.iload_n 2, 1) := by decide +kernel
theorem dX9_moveIndexes_21 : decode cX9_moveIndexes 21 = .ok (.iaload, 1) := by decide +kernel
theorem dX9_moveIndexes_22 : decode cX9_moveIndexes 22 = .ok (.aload_n 1, 1) := by decide +kernel
theorem dX9_moveIndexes_23 : decode cX9_moveIndexes 23 = .ok (.getfield 67, 3) := by decide +kernel
theorem dX9_moveIndexes_26 : decode cX9_moveIndexes 26 = .ok (.iload_n 2, 1) := by decide +kernel
theorem dX9_moveIndexes_27 : decode cX9_moveIndexes 27 = .ok (.iaload, 1) := by decide +kernel
theorem dX9_moveIndexes_28 : decode cX9_moveIndexes 28 = .ok (.if_icmp .ge 4, 3) := by decide +kernel
theorem dX9_moveIndexes_31 : decode cX9_moveIndexes 31 = .ok (.return_, 1) := by decide +kernel
theorem dX9_moveIndexes_32 : decode cX9_moveIndexes 32 = .ok (.aload_n 0, 1) := by decide +kernel
theorem dX9_moveIndexes_33 : decode cX9_moveIndexes 33 = .ok (.getfield 29, 3) := by decide +kernel
theorem dX9_moveIndexes_36 : decode cX9_moveIndexes 36 = .ok (.iload_n 2, 1) := by decide +kernel
theorem dX9_moveIndexes_37 : decode cX9_moveIndexes 37 = .ok (.iconst 0, 1) := by decide +kernel
theorem dX9_moveIndexes_38 : decode cX9_moveIndexes 38 = .ok (.iastore, 1) := by decide +kernel
theorem dX9_moveIndexes_39 : decode cX9_moveIndexes 39 = .ok (.iinc 2 (-1), 3) := by decide +kernel
theorem dX9_moveIndexes_42 : decode cX9_moveIndexes 42 = .ok (.goto (-40), 3) := by decide +kernel
theorem dX9_moveIndexes_45 : decode cX9_moveIndexes 45 = .ok (.return_, 1) := by decide +kernel
theorem dX9_trialCost_0 : decode cX9_trialCost 0 = .ok (.aload_n 0, 1) := by decide +kernel
theorem dX9_trialCost_1 : decode cX9_trialCost 1 = .ok (.getfield 12, 3) := by decide +kernel
theorem dX9_trialCost_4 : decode cX9_trialCost 4 = .ok (.aload_n 0, 1) := by decide +kernel
theorem dX9_trialCost_5 : decode cX9_trialCost 5 = .ok (.getfield 21, 3) := by decide +kernel
theorem dX9_trialCost_8 : decode cX9_trialCost 8 = .ok (.invokevirtual 70, 3) := by decide +kernel
theorem dX9_trialCost_11 : decode cX9_trialCost 11 = .ok (.aload_n 0, 1) := by decide +kernel
theorem dX9_trialCost_12 : decode cX9_trialCost 12 = .ok (.getfield 21, 3) := by decide +kernel
theorem dX9_trialCost_15 : decode cX9_trialCost 15 = .ok (.aload_n 1, 1) := by decide +kernel
theorem dX9_trialCost_16 : decode cX9_trialCost 16 = .ok (.getfield 74, 3) := by decide +kernel
theorem dX9_trialCost_19 : decode cX9_trialCost 19 = .ok (.aload_n 1, 1) := by decide +kernel
theorem dX9_trialCost_20 : decode cX9_trialCost 20 = .ok (.getfield 77, 3) := by decide +kernel
theorem dX9_trialCost_23 : decode cX9_trialCost 23 = .ok (.bipush 14, 2) := by decide +kernel
theorem dX9_trialCost_25 : decode cX9_trialCost 25 = .ok (.iaload, 1) := by decide +kernel
theorem dX9_trialCost_26 : decode cX9_trialCost 26 = .ok (.invokevirtual 78, 3) := by decide +kernel
theorem dX9_trialCost_29 : decode cX9_trialCost 29 = .ok (.lreturn, 1) := by decide +kernel
theorem dX9_costAtIndexes_0 : decode cX9_costAtIndexes 0 = .ok (.aload_n 0, 1) := by decide +kernel
theorem dX9_costAtIndexes_1 : decode cX9_costAtIndexes 1 = .ok (.getfield 29, 3) := by decide +kernel
theorem dX9_costAtIndexes_4 : decode cX9_costAtIndexes 4 = .ok (.iconst 0, 1) := by decide +kernel
theorem dX9_costAtIndexes_5 : decode cX9_costAtIndexes 5 = .ok (.iaload, 1) := by decide +kernel
theorem dX9_costAtIndexes_6 : decode cX9_costAtIndexes 6 = .ok (.aload_n 1, 1) := by decide +kernel
theorem dX9_costAtIndexes_7 : decode cX9_costAtIndexes 7 = .ok (.getfield 67, 3) := by decide +kernel
theorem dX9_costAtIndexes_10 : decode cX9_costAtIndexes 10 = .ok (.iconst 1, 1) := by decide +kernel
theorem dX9_costAtIndexes_11 : decode cX9_costAtIndexes 11 = .ok (.iaload, 1) := by decide +kernel
theorem dX9_costAtIndexes_12 : decode cX9_costAtIndexes 12 = .ok (.imul, 1) := by decide +kernel
theorem dX9_costAtIndexes_13 : decode cX9_costAtIndexes 13 = .ok (.aload_n 0, 1) := by decide +kernel
theorem dX9_costAtIndexes_14 : decode cX9_costAtIndexes 14 = .ok (.getfield 29, 3) := by decide +kernel
theorem dX9_costAtIndexes_17 : decode cX9_costAtIndexes 17 = .ok (.iconst 1, 1) := by decide +kernel
theorem dX9_costAtIndexes_18 : decode cX9_costAtIndexes 18 = .ok (.iaload, 1) := by decide +kernel
theorem dX9_costAtIndexes_19 : decode cX9_costAtIndexes 19 = .ok (.iadd, 1) := by decide +kernel
theorem dX9_costAtIndexes_20 : decode cX9_costAtIndexes 20 = .ok (.aload_n 1, 1) := by decide +kernel
theorem dX9_costAtIndexes_21 : decode cX9_costAtIndexes 21 = .ok (.getfield 67, 3) := by decide +kernel
theorem dX9_costAtIndexes_24 : decode cX9_costAtIndexes 24 = .ok (.iconst 2, 1) := by decide +kernel
theorem dX9_costAtIndexes_25 : decode cX9_costAtIndexes 25 = .ok (.iaload, 1) := by decide +kernel
theorem dX9_costAtIndexes_26 : decode cX9_costAtIndexes 26 = .ok (.imul, 1) := by decide +kernel
theorem dX9_costAtIndexes_27 : decode cX9_costAtIndexes 27 = .ok (.aload_n 0, 1) := by decide +kernel
theorem dX9_costAtIndexes_28 : decode cX9_costAtIndexes 28 = .ok (.getfield 29, 3) := by decide +kernel
theorem dX9_costAtIndexes_31 : decode cX9_costAtIndexes 31 = .ok (.iconst 2, 1) := by decide +kernel
theorem dX9_costAtIndexes_32 : decode cX9_costAtIndexes 32 = .ok (.iaload, 1) := by decide +kernel
theorem dX9_costAtIndexes_33 : decode cX9_costAtIndexes 33 = .ok (.iadd, 1) := by decide +kernel
theorem dX9_costAtIndexes_34 : decode cX9_costAtIndexes 34 = .ok (.istore_n 2, 1) := by decide +kernel
theorem dX9_costAtIndexes_35 : decode cX9_costAtIndexes 35 = .ok (.iload_n 2, 1) := by decide +kernel
theorem dX9_costAtIndexes_36 : decode cX9_costAtIndexes 36 = .ok (.iconst 0, 1) := by decide +kernel
theorem dX9_costAtIndexes_37 : decode cX9_costAtIndexes 37 = .ok (.sipush 215, 3) := by decide +kernel
theorem dX9_costAtIndexes_40 : decode cX9_costAtIndexes 40 = .ok (.invokestatic 82, 3) := by decide +kernel
theorem dX9_costAtIndexes_43 : decode cX9_costAtIndexes 43 = .ok (.ifCond .eq 12, 3) := by decide +kernel
theorem dX9_costAtIndexes_46 : decode cX9_costAtIndexes 46 = .ok (.aload_n 0, 1) := by decide +kernel
theorem dX9_costAtIndexes_47 : decode cX9_costAtIndexes 47 = .ok (.getfield 25, 3) := by decide +kernel
theorem dX9_costAtIndexes_50 : decode cX9_costAtIndexes 50 = .ok (.iload_n 2, 1) := by decide +kernel
theorem dX9_costAtIndexes_51 : decode cX9_costAtIndexes 51 = .ok (.laload, 1) := by decide +kernel
theorem dX9_costAtIndexes_52 : decode cX9_costAtIndexes 52 = .ok (.goto 4, 3) := by decide +kernel
theorem dX9_costAtIndexes_55 : decode cX9_costAtIndexes 55 = .ok (.lconst 0, 1) := by decide +kernel
theorem dX9_costAtIndexes_56 : decode cX9_costAtIndexes 56 = .ok (.lreturn, 1) := by decide +kernel
theorem dX9_takeLeast_0 : decode cX9_takeLeast 0 = .ok (.aload_n 1, 1) := by decide +kernel
theorem dX9_takeLeast_1 : decode cX9_takeLeast 1 = .ok (.invokevirtual 43, 3) := by decide +kernel
theorem dX9_takeLeast_4 : decode cX9_takeLeast 4 = .ok (.istore_n 3, 1) := by decide +kernel
theorem dX9_takeLeast_5 : decode cX9_takeLeast 5 = .ok (.aload_n 0, 1) := by decide +kernel
theorem dX9_takeLeast_6 : decode cX9_takeLeast 6 = .ok (.invokevirtual 49, 3) := by decide +kernel
theorem dX9_takeLeast_9 : decode cX9_takeLeast 9 = .ok (.iconst 0, 1) := by decide +kernel
theorem dX9_takeLeast_10 : decode cX9_takeLeast 10 = .ok (.istore 4, 2) := by decide +kernel
theorem dX9_takeLeast_12 : decode cX9_takeLeast 12 = .ok (.iload 4, 2) := by decide +kernel
theorem dX9_takeLeast_14 : decode cX9_takeLeast 14 = .ok (.iload_n 3, 1) := by decide +kernel
theorem dX9_takeLeast_15 : decode cX9_takeLeast 15 = .ok (.if_icmp .ge 48, 3) := by decide +kernel
theorem dX9_takeLeast_18 : decode cX9_takeLeast 18 = .ok (.iload 4, 2) := by decide +kernel
theorem dX9_takeLeast_20 : decode cX9_takeLeast 20 = .ok (.sipush 216, 3) := by decide +kernel
theorem dX9_takeLeast_23 : decode cX9_takeLeast 23 = .ok (.if_icmp .ge 40, 3) := by decide +kernel
theorem dX9_takeLeast_26 : decode cX9_takeLeast 26 = .ok (.iload 4, 2) := by decide +kernel
theorem dX9_takeLeast_28 : decode cX9_takeLeast 28 = .ok (.ifCond .eq 18, 3) := by decide +kernel
theorem dX9_takeLeast_31 : decode cX9_takeLeast 31 = .ok (.aload_n 0, 1) := by decide +kernel
theorem dX9_takeLeast_32 : decode cX9_takeLeast 32 = .ok (.getfield 25, 3) := by decide +kernel
theorem dX9_takeLeast_35 : decode cX9_takeLeast 35 = .ok (.iload 4, 2) := by decide +kernel
theorem dX9_takeLeast_37 : decode cX9_takeLeast 37 = .ok (.laload, 1) := by decide +kernel
theorem dX9_takeLeast_38 : decode cX9_takeLeast 38 = .ok (.aload_n 2, 1) := by decide +kernel
theorem dX9_takeLeast_39 : decode cX9_takeLeast 39 = .ok (.getfield 86, 3) := by decide +kernel
theorem dX9_takeLeast_42 : decode cX9_takeLeast 42 = .ok (.lcmp, 1) := by decide +kernel
theorem dX9_takeLeast_43 : decode cX9_takeLeast 43 = .ok (.ifCond .ge 9, 3) := by decide +kernel
theorem dX9_takeLeast_46 : decode cX9_takeLeast 46 = .ok (.aload_n 0, 1) := by decide +kernel
theorem dX9_takeLeast_47 : decode cX9_takeLeast 47 = .ok (.aload_n 1, 1) := by decide +kernel
theorem dX9_takeLeast_48 : decode cX9_takeLeast 48 = .ok (.aload_n 2, 1) := by decide +kernel
theorem dX9_takeLeast_49 : decode cX9_takeLeast 49 = .ok (.invokevirtual 92, 3) := by decide +kernel
theorem dX9_takeLeast_52 : decode cX9_takeLeast 52 = .ok (.aload_n 0, 1) := by decide +kernel
theorem dX9_takeLeast_53 : decode cX9_takeLeast 53 = .ok (.aload_n 1, 1) := by decide +kernel
theorem dX9_takeLeast_54 : decode cX9_takeLeast 54 = .ok (.invokevirtual 63, 3) := by decide +kernel
theorem dX9_takeLeast_57 : decode cX9_takeLeast 57 = .ok (.iinc 4 1, 3) := by decide +kernel
theorem dX9_takeLeast_60 : decode cX9_takeLeast 60 = .ok (.goto (-48), 3) := by decide +kernel
theorem dX9_takeLeast_63 : decode cX9_takeLeast 63 = .ok (.aload_n 2, 1) := by decide +kernel
theorem dX9_takeLeast_64 : decode cX9_takeLeast 64 = .ok (.aload_n 0, 1) := by decide +kernel
theorem dX9_takeLeast_65 : decode cX9_takeLeast 65 = .ok (.aload_n 1, 1) := by decide +kernel
theorem dX9_takeLeast_66 : decode cX9_takeLeast 66 = .ok (.aload_n 2, 1) := by decide +kernel
theorem dX9_takeLeast_67 : decode cX9_takeLeast 67 = .ok (.getfield 86, 3) := by decide +kernel
theorem dX9_takeLeast_70 : decode cX9_takeLeast 70 = .ok (.invokevirtual 96, 3) := by decide +kernel
theorem dX9_takeLeast_73 : decode cX9_takeLeast 73 = .ok (.putfield 100, 3) := by decide +kernel
theorem dX9_takeLeast_76 : decode cX9_takeLeast 76 = .ok (.return_, 1) := by decide +kernel
theorem dX9_takeClimbed_0 : decode cX9_takeClimbed 0 = .ok (.aload_n 0, 1) := by decide +kernel
theorem dX9_takeClimbed_1 : decode cX9_takeClimbed 1 = .ok (.invokevirtual 49, 3) := by decide +kernel
theorem dX9_takeClimbed_4 : decode cX9_takeClimbed 4 = .ok (.aload_n 0, 1) := by decide +kernel
theorem dX9_takeClimbed_5 : decode cX9_takeClimbed 5 = .ok (.aload_n 1, 1) := by decide +kernel
theorem dX9_takeClimbed_6 : decode cX9_takeClimbed 6 = .ok (.invokevirtual 104, 3) := by decide +kernel
theorem dX9_takeClimbed_9 : decode cX9_takeClimbed 9 = .ok (.lstore_n 3, 1) := by decide +kernel
theorem dX9_takeClimbed_10 : decode cX9_takeClimbed 10 = .ok (.iconst 0, 1) := by decide +kernel
theorem dX9_takeClimbed_11 : decode cX9_takeClimbed 11 = .ok (.istore 5, 2) := by decide +kernel
theorem dX9_takeClimbed_13 : decode cX9_takeClimbed 13 = .ok (.iconst 0, 1) := by decide +kernel
theorem dX9_takeClimbed_14 : decode cX9_takeClimbed 14 = .ok (.istore 6, 2) := by decide +kernel
theorem dX9_takeClimbed_16 : decode cX9_takeClimbed 16 = .ok (.iload 6, 2) := by decide +kernel
theorem dX9_takeClimbed_18 : decode cX9_takeClimbed 18 = .ok (.iconst 3, 1) := by decide +kernel
theorem dX9_takeClimbed_19 : decode cX9_takeClimbed 19 = .ok (.if_icmp .ge 48, 3) := by decide +kernel
theorem dX9_takeClimbed_22 : decode cX9_takeClimbed 22 = .ok (.iload 5, 2) := by decide +kernel
theorem dX9_takeClimbed_24 : decode cX9_takeClimbed 24 = .ok (.sipush 651, 3) := by decide +kernel
theorem dX9_takeClimbed_27 : decode cX9_takeClimbed 27 = .ok (.if_icmp .ge 40, 3) := by decide +kernel
theorem dX9_takeClimbed_30 : decode cX9_takeClimbed 30 = .ok (.aload_n 0, 1) := by decide +kernel
theorem dX9_takeClimbed_31 : decode cX9_takeClimbed 31 = .ok (.aload_n 1, 1) := by decide +kernel
theorem dX9_takeClimbed_32 : decode cX9_takeClimbed 32 = .ok (.iload 5, 2) := by decide +kernel
theorem dX9_takeClimbed_34 : decode cX9_takeClimbed 34 = .ok (.iconst 3, 1) := by decide +kernel
theorem dX9_takeClimbed_35 : decode cX9_takeClimbed 35 = .ok (.irem, 1) := by decide +kernel
theorem dX9_takeClimbed_36 : decode cX9_takeClimbed 36 = .ok (.invokevirtual 108, 3) := by decide +kernel
theorem dX9_takeClimbed_39 : decode cX9_takeClimbed 39 = .ok (.lstore 7, 2) := by decide +kernel
theorem dX9_takeClimbed_41 : decode cX9_takeClimbed 41 = .ok (.lload 7, 2) := by decide +kernel
theorem dX9_takeClimbed_43 : decode cX9_takeClimbed 43 = .ok (.lload_n 3, 1) := by decide +kernel
theorem dX9_takeClimbed_44 : decode cX9_takeClimbed 44 = .ok (.lcmp, 1) := by decide +kernel
theorem dX9_takeClimbed_45 : decode cX9_takeClimbed 45 = .ok (.ifCond .ne 10, 3) := by decide +kernel
theorem dX9_takeClimbed_48 : decode cX9_takeClimbed 48 = .ok (.iload 6, 2) := by decide +kernel
theorem dX9_takeClimbed_50 : decode cX9_takeClimbed 50 = .ok (.iconst 1, 1) := by decide +kernel
theorem dX9_takeClimbed_51 : decode cX9_takeClimbed 51 = .ok (.iadd, 1) := by decide +kernel
theorem dX9_takeClimbed_52 : decode cX9_takeClimbed 52 = .ok (.goto 4, 3) := by decide +kernel
theorem dX9_takeClimbed_55 : decode cX9_takeClimbed 55 = .ok (.iconst 0, 1) := by decide +kernel
theorem dX9_takeClimbed_56 : decode cX9_takeClimbed 56 = .ok (.istore 6, 2) := by decide +kernel
theorem dX9_takeClimbed_58 : decode cX9_takeClimbed 58 = .ok (.lload 7, 2) := by decide +kernel
theorem dX9_takeClimbed_60 : decode cX9_takeClimbed 60 = .ok (.lstore_n 3, 1) := by decide +kernel
theorem dX9_takeClimbed_61 : decode cX9_takeClimbed 61 = .ok (.iinc 5 1, 3) := by decide +kernel
theorem dX9_takeClimbed_64 : decode cX9_takeClimbed 64 = .ok (.goto (-48), 3) := by decide +kernel
theorem dX9_takeClimbed_67 : decode cX9_takeClimbed 67 = .ok (.aload_n 0, 1) := by decide +kernel
theorem dX9_takeClimbed_68 : decode cX9_takeClimbed 68 = .ok (.aload_n 1, 1) := by decide +kernel
theorem dX9_takeClimbed_69 : decode cX9_takeClimbed 69 = .ok (.aload_n 2, 1) := by decide +kernel
theorem dX9_takeClimbed_70 : decode cX9_takeClimbed 70 = .ok (.invokevirtual 92, 3) := by decide +kernel
theorem dX9_takeClimbed_73 : decode cX9_takeClimbed 73 = .ok (.aload_n 2, 1) := by decide +kernel
theorem dX9_takeClimbed_74 : decode cX9_takeClimbed 74 = .ok (.aload_n 0, 1) := by decide +kernel
theorem dX9_takeClimbed_75 : decode cX9_takeClimbed 75 = .ok (.aload_n 1, 1) := by decide +kernel
theorem dX9_takeClimbed_76 : decode cX9_takeClimbed 76 = .ok (.aload_n 2, 1) := by decide +kernel
theorem dX9_takeClimbed_77 : decode cX9_takeClimbed 77 = .ok (.getfield 86, 3) := by decide +kernel
theorem dX9_takeClimbed_80 : decode cX9_takeClimbed 80 = .ok (.invokevirtual 96, 3) := by decide +kernel
theorem dX9_takeClimbed_83 : decode cX9_takeClimbed 83 = .ok (.putfield 100, 3) := by decide +kernel
theorem dX9_takeClimbed_86 : decode cX9_takeClimbed 86 = .ok (.iload 5, 2) := by decide +kernel
theorem dX9_takeClimbed_88 : decode cX9_takeClimbed 88 = .ok (.ireturn, 1) := by decide +kernel
theorem dX9_takeBestOfRow_0 : decode cX9_takeBestOfRow 0 = .ok (.iload_n 2, 1) := by decide +kernel
theorem dX9_takeBestOfRow_1 : decode cX9_takeBestOfRow 1 = .ok (.iconst 0, 1) := by decide +kernel
theorem dX9_takeBestOfRow_2 : decode cX9_takeBestOfRow 2 = .ok (.iconst 2, 1) := by decide +kernel
theorem dX9_takeBestOfRow_3 : decode cX9_takeBestOfRow 3 = .ok (.invokestatic 82, 3) := by decide +kernel
theorem dX9_takeBestOfRow_6 : decode cX9_takeBestOfRow 6 = .ok (.ifCond .ne 9, 3) := by decide +kernel
theorem dX9_takeBestOfRow_9 : decode cX9_takeBestOfRow 9 = .ok (.aload_n 0, 1) := by decide +kernel
theorem dX9_takeBestOfRow_10 : decode cX9_takeBestOfRow 10 = .ok (.aload_n 1, 1) := by decide +kernel
theorem dX9_takeBestOfRow_11 : decode cX9_takeBestOfRow 11 = .ok (.invokevirtual 104, 3) := by decide +kernel
theorem dX9_takeBestOfRow_14 : decode cX9_takeBestOfRow 14 = .ok (.lreturn, 1) := by decide +kernel
theorem dX9_takeBestOfRow_15 : decode cX9_takeBestOfRow 15 = .ok (.iconst 0, 1) := by decide +kernel
theorem dX9_takeBestOfRow_16 : decode cX9_takeBestOfRow 16 = .ok (.istore_n 3, 1) := by decide +kernel
theorem dX9_takeBestOfRow_17 : decode cX9_takeBestOfRow 17 = .ok (.lconst 0, 1) := by decide +kernel
theorem dX9_takeBestOfRow_18 : decode cX9_takeBestOfRow 18 = .ok (.lstore 4, 2) := by decide +kernel
theorem dX9_takeBestOfRow_20 : decode cX9_takeBestOfRow 20 = .ok (.iconst 0, 1) := by decide +kernel
theorem dX9_takeBestOfRow_21 : decode cX9_takeBestOfRow 21 = .ok (.istore 6, 2) := by decide +kernel
theorem dX9_takeBestOfRow_23 : decode cX9_takeBestOfRow 23 = .ok (.iload 6, 2) := by decide +kernel
theorem dX9_takeBestOfRow_25 : decode cX9_takeBestOfRow 25 = .ok (.aload_n 1, 1) := by decide +kernel
theorem dX9_takeBestOfRow_26 : decode cX9_takeBestOfRow 26 = .ok (.getfield 67, 3) := by decide +kernel
theorem dX9_takeBestOfRow_29 : decode cX9_takeBestOfRow 29 = .ok (.iload_n 2, 1) := by decide +kernel
theorem dX9_takeBestOfRow_30 : decode cX9_takeBestOfRow 30 = .ok (.iaload, 1) := by decide +kernel
theorem dX9_takeBestOfRow_31 : decode cX9_takeBestOfRow 31 = .ok (.if_icmp .ge 44, 3) := by decide +kernel
theorem dX9_takeBestOfRow_34 : decode cX9_takeBestOfRow 34 = .ok (.aload_n 0, 1) := by decide +kernel
theorem dX9_takeBestOfRow_35 : decode cX9_takeBestOfRow 35 = .ok (.getfield 29, 3) := by decide +kernel
theorem dX9_takeBestOfRow_38 : decode cX9_takeBestOfRow 38 = .ok (.iload_n 2, 1) := by decide +kernel
theorem dX9_takeBestOfRow_39 : decode cX9_takeBestOfRow 39 = .ok (.iload 6, 2) := by decide +kernel
theorem dX9_takeBestOfRow_41 : decode cX9_takeBestOfRow 41 = .ok (.iastore, 1) := by decide +kernel
theorem dX9_takeBestOfRow_42 : decode cX9_takeBestOfRow 42 = .ok (.aload_n 0, 1) := by decide +kernel
theorem dX9_takeBestOfRow_43 : decode cX9_takeBestOfRow 43 = .ok (.aload_n 1, 1) := by decide +kernel
theorem dX9_takeBestOfRow_44 : decode cX9_takeBestOfRow 44 = .ok (.invokevirtual 104, 3) := by decide +kernel
theorem dX9_takeBestOfRow_47 : decode cX9_takeBestOfRow 47 = .ok (.lstore 7, 2) := by decide +kernel
theorem dX9_takeBestOfRow_49 : decode cX9_takeBestOfRow 49 = .ok (.iload 6, 2) := by decide +kernel
theorem dX9_takeBestOfRow_51 : decode cX9_takeBestOfRow 51 = .ok (.ifCond .eq 11, 3) := by decide +kernel
theorem dX9_takeBestOfRow_54 : decode cX9_takeBestOfRow 54 = .ok (.lload 7, 2) := by decide +kernel
theorem dX9_takeBestOfRow_56 : decode cX9_takeBestOfRow 56 = .ok (.lload 4, 2) := by decide +kernel
theorem dX9_takeBestOfRow_58 : decode cX9_takeBestOfRow 58 = .ok (.lcmp, 1) := by decide +kernel
theorem dX9_takeBestOfRow_59 : decode cX9_takeBestOfRow 59 = .ok (.ifCond .ge 10, 3) := by decide +kernel
theorem dX9_takeBestOfRow_62 : decode cX9_takeBestOfRow 62 = .ok (.lload 7, 2) := by decide +kernel
theorem dX9_takeBestOfRow_64 : decode cX9_takeBestOfRow 64 = .ok (.lstore 4, 2) := by decide +kernel
theorem dX9_takeBestOfRow_66 : decode cX9_takeBestOfRow 66 = .ok (.iload 6, 2) := by decide +kernel
theorem dX9_takeBestOfRow_68 : decode cX9_takeBestOfRow 68 = .ok (.istore_n 3, 1) := by decide +kernel
theorem dX9_takeBestOfRow_69 : decode cX9_takeBestOfRow 69 = .ok (.iinc 6 1, 3) := by decide +kernel
theorem dX9_takeBestOfRow_72 : decode cX9_takeBestOfRow 72 = .ok (.goto (-49), 3) := by decide +kernel
theorem dX9_takeBestOfRow_75 : decode cX9_takeBestOfRow 75 = .ok (.aload_n 0, 1) := by decide +kernel
theorem dX9_takeBestOfRow_76 : decode cX9_takeBestOfRow 76 = .ok (.getfield 29, 3) := by decide +kernel
theorem dX9_takeBestOfRow_79 : decode cX9_takeBestOfRow 79 = .ok (.iload_n 2, 1) := by decide +kernel
theorem dX9_takeBestOfRow_80 : decode cX9_takeBestOfRow 80 = .ok (.iload_n 3, 1) := by decide +kernel
theorem dX9_takeBestOfRow_81 : decode cX9_takeBestOfRow 81 = .ok (.iastore, 1) := by decide +kernel
theorem dX9_takeBestOfRow_82 : decode cX9_takeBestOfRow 82 = .ok (.lload 4, 2) := by decide +kernel
theorem dX9_takeBestOfRow_84 : decode cX9_takeBestOfRow 84 = .ok (.lreturn, 1) := by decide +kernel
theorem dX9_takeIndexes_0 : decode cX9_takeIndexes 0 = .ok (.iconst 0, 1) := by decide +kernel
theorem dX9_takeIndexes_1 : decode cX9_takeIndexes 1 = .ok (.istore_n 3, 1) := by decide +kernel
theorem dX9_takeIndexes_2 : decode cX9_takeIndexes 2 = .ok (.iload_n 3, 1) := by decide +kernel
theorem dX9_takeIndexes_3 : decode cX9_takeIndexes 3 = .ok (.iconst 3, 1) := by decide +kernel
theorem dX9_takeIndexes_4 : decode cX9_takeIndexes 4 = .ok (.if_icmp .ge 26, 3) := by decide +kernel
theorem dX9_takeIndexes_7 : decode cX9_takeIndexes 7 = .ok (.aload_n 2, 1) := by decide +kernel
theorem dX9_takeIndexes_8 : decode cX9_takeIndexes 8 = .ok (.getfield 112, 3) := by decide +kernel
theorem dX9_takeIndexes_11 : decode cX9_takeIndexes 11 = .ok (.iload_n 3, 1) := by decide +kernel
theorem dX9_takeIndexes_12 : decode cX9_takeIndexes 12 = .ok (.aload_n 1, 1) := by decide +kernel
theorem dX9_takeIndexes_13 : decode cX9_takeIndexes 13 = .ok (.iload_n 3, 1) := by decide +kernel
theorem dX9_takeIndexes_14 : decode cX9_takeIndexes 14 = .ok (.aload_n 0, 1) := by decide +kernel
theorem dX9_takeIndexes_15 : decode cX9_takeIndexes 15 = .ok (.getfield 29, 3) := by decide +kernel
theorem dX9_takeIndexes_18 : decode cX9_takeIndexes 18 = .ok (.iload_n 3, 1) := by decide +kernel
theorem dX9_takeIndexes_19 : decode cX9_takeIndexes 19 = .ok (.iaload, 1) := by decide +kernel
theorem dX9_takeIndexes_20 : decode cX9_takeIndexes 20 = .ok (.invokevirtual 55, 3) := by decide +kernel
theorem dX9_takeIndexes_23 : decode cX9_takeIndexes 23 = .ok (.iastore, 1) := by decide +kernel
theorem dX9_takeIndexes_24 : decode cX9_takeIndexes 24 = .ok (.iinc 3 1, 3) := by decide +kernel
theorem dX9_takeIndexes_27 : decode cX9_takeIndexes 27 = .ok (.goto (-25), 3) := by decide +kernel
theorem dX9_takeIndexes_30 : decode cX9_takeIndexes 30 = .ok (.aload_n 2, 1) := by decide +kernel
theorem dX9_takeIndexes_31 : decode cX9_takeIndexes 31 = .ok (.aload_n 0, 1) := by decide +kernel
theorem dX9_takeIndexes_32 : decode cX9_takeIndexes 32 = .ok (.aload_n 1, 1) := by decide +kernel
theorem dX9_takeIndexes_33 : decode cX9_takeIndexes 33 = .ok (.invokevirtual 104, 3) := by decide +kernel
theorem dX9_takeIndexes_36 : decode cX9_takeIndexes 36 = .ok (.putfield 86, 3) := by decide +kernel
theorem dX9_takeIndexes_39 : decode cX9_takeIndexes 39 = .ok (.aload_n 2, 1) := by decide +kernel
theorem dX9_takeIndexes_40 : decode cX9_takeIndexes 40 = .ok (.iconst 1, 1) := by decide +kernel
theorem dX9_takeIndexes_41 : decode cX9_takeIndexes 41 = .ok (.putfield 115, 3) := by decide +kernel
theorem dX9_takeIndexes_44 : decode cX9_takeIndexes 44 = .ok (.return_, 1) := by decide +kernel
theorem dX9_greaterCosts_0 : decode cX9_greaterCosts 0 = .ok (.aload_n 1, 1) := by decide +kernel
theorem dX9_greaterCosts_1 : decode cX9_greaterCosts 1 = .ok (.invokevirtual 43, 3) := by decide +kernel
theorem dX9_greaterCosts_4 : decode cX9_greaterCosts 4 = .ok (.istore 4, 2) := by decide +kernel
theorem dX9_greaterCosts_6 : decode cX9_greaterCosts 6 = .ok (.iconst 0, 1) := by decide +kernel
theorem dX9_greaterCosts_7 : decode cX9_greaterCosts 7 = .ok (.istore 5, 2) := by decide +kernel
theorem dX9_greaterCosts_9 : decode cX9_greaterCosts 9 = .ok (.iconst 0, 1) := by decide +kernel
theorem dX9_greaterCosts_10 : decode cX9_greaterCosts 10 = .ok (.istore 6, 2) := by decide +kernel
theorem dX9_greaterCosts_12 : decode cX9_greaterCosts 12 = .ok (.iload 6, 2) := by decide +kernel
theorem dX9_greaterCosts_14 : decode cX9_greaterCosts 14 = .ok (.iload 4, 2) := by decide +kernel
theorem dX9_greaterCosts_16 : decode cX9_greaterCosts 16 = .ok (.if_icmp .ge 32, 3) := by decide +kernel
theorem dX9_greaterCosts_19 : decode cX9_greaterCosts 19 = .ok (.iload 6, 2) := by decide +kernel
theorem dX9_greaterCosts_21 : decode cX9_greaterCosts 21 = .ok (.sipush 216, 3) := by decide +kernel
theorem dX9_greaterCosts_24 : decode cX9_greaterCosts 24 = .ok (.if_icmp .ge 24, 3) := by decide +kernel
theorem dX9_greaterCosts_27 : decode cX9_greaterCosts 27 = .ok (.aload_n 0, 1) := by decide +kernel
theorem dX9_greaterCosts_28 : decode cX9_greaterCosts 28 = .ok (.getfield 25, 3) := by decide +kernel
theorem dX9_greaterCosts_31 : decode cX9_greaterCosts 31 = .ok (.iload 6, 2) := by decide +kernel
theorem dX9_greaterCosts_33 : decode cX9_greaterCosts 33 = .ok (.laload, 1) := by decide +kernel
theorem dX9_greaterCosts_34 : decode cX9_greaterCosts 34 = .ok (.lload_n 2, 1) := by decide +kernel
theorem dX9_greaterCosts_35 : decode cX9_greaterCosts 35 = .ok (.lcmp, 1) := by decide +kernel
theorem dX9_greaterCosts_36 : decode cX9_greaterCosts 36 = .ok (.ifCond .le 6, 3) := by decide +kernel
theorem dX9_greaterCosts_39 : decode cX9_greaterCosts 39 = .ok (.iinc 5 1, 3) := by decide +kernel
theorem dX9_greaterCosts_42 : decode cX9_greaterCosts 42 = .ok (.iinc 6 1, 3) := by decide +kernel
theorem dX9_greaterCosts_45 : decode cX9_greaterCosts 45 = .ok (.goto (-33), 3) := by decide +kernel
theorem dX9_greaterCosts_48 : decode cX9_greaterCosts 48 = .ok (.iload 5, 2) := by decide +kernel
theorem dX9_greaterCosts_50 : decode cX9_greaterCosts 50 = .ok (.ireturn, 1) := by decide +kernel
theorem dX9_lowered_0 : decode cX9_lowered 0 = .ok (.iload_n 2, 1) := by decide +kernel
theorem dX9_lowered_1 : decode cX9_lowered 1 = .ok (.iconst 0, 1) := by decide +kernel
theorem dX9_lowered_2 : decode cX9_lowered 2 = .ok (.bipush 14, 2) := by decide +kernel
theorem dX9_lowered_4 : decode cX9_lowered 4 = .ok (.invokestatic 82, 3) := by decide +kernel
theorem dX9_lowered_7 : decode cX9_lowered 7 = .ok (.ifCond .ne 5, 3) := by decide +kernel
theorem dX9_lowered_10 : decode cX9_lowered 10 = .ok (.iconst (-1), 1) := by decide +kernel
theorem dX9_lowered_11 : decode cX9_lowered 11 = .ok (.ireturn, 1) := by decide +kernel
theorem dX9_lowered_12 : decode cX9_lowered 12 = .ok (.aload_n 0, 1) := by decide +kernel
theorem dX9_lowered_13 : decode cX9_lowered 13 = .ok (.getfield 12, 3) := by decide +kernel
theorem dX9_lowered_16 : decode cX9_lowered 16 = .ok (.aload_n 1, 1) := by decide +kernel
theorem dX9_lowered_17 : decode cX9_lowered 17 = .ok (.invokevirtual 33, 3) := by decide +kernel
theorem dX9_lowered_20 : decode cX9_lowered 20 = .ok (.iconst (-1), 1) := by decide +kernel
theorem dX9_lowered_21 : decode cX9_lowered 21 = .ok (.istore 5, 2) := by decide +kernel
theorem dX9_lowered_23 : decode cX9_lowered 23 = .ok (.aload_n 1, 1) := by decide +kernel
theorem dX9_lowered_24 : decode cX9_lowered 24 = .ok (.getfield 77, 3) := by decide +kernel
theorem dX9_lowered_27 : decode cX9_lowered 27 = .ok (.iload_n 2, 1) := by decide +kernel
theorem dX9_lowered_28 : decode cX9_lowered 28 = .ok (.iaload, 1) := by decide +kernel
theorem dX9_lowered_29 : decode cX9_lowered 29 = .ok (.istore 6, 2) := by decide +kernel
theorem dX9_lowered_31 : decode cX9_lowered 31 = .ok (.iload 6, 2) := by decide +kernel
theorem dX9_lowered_33 : decode cX9_lowered 33 = .ok (.getstatic 119, 3) := by decide +kernel
theorem dX9_lowered_36 : decode cX9_lowered 36 = .ok (.iload_n 2, 1) := by decide +kernel
theorem dX9_lowered_37 : decode cX9_lowered 37 = .ok (.iaload, 1) := by decide +kernel
theorem dX9_lowered_38 : decode cX9_lowered 38 = .ok (.if_icmp .lt 37, 3) := by decide +kernel
theorem dX9_lowered_41 : decode cX9_lowered 41 = .ok (.aload_n 0, 1) := by decide +kernel
theorem dX9_lowered_42 : decode cX9_lowered 42 = .ok (.getfield 12, 3) := by decide +kernel
theorem dX9_lowered_45 : decode cX9_lowered 45 = .ok (.getfield 52, 3) := by decide +kernel
theorem dX9_lowered_48 : decode cX9_lowered 48 = .ok (.iload_n 2, 1) := by decide +kernel
theorem dX9_lowered_49 : decode cX9_lowered 49 = .ok (.iload 6, 2) := by decide +kernel
theorem dX9_lowered_51 : decode cX9_lowered 51 = .ok (.iastore, 1) := by decide +kernel
theorem dX9_lowered_52 : decode cX9_lowered 52 = .ok (.aload_n 0, 1) := by decide +kernel
theorem dX9_lowered_53 : decode cX9_lowered 53 = .ok (.aload_n 1, 1) := by decide +kernel
theorem dX9_lowered_54 : decode cX9_lowered 54 = .ok (.invokevirtual 59, 3) := by decide +kernel
theorem dX9_lowered_57 : decode cX9_lowered 57 = .ok (.lload_n 3, 1) := by decide +kernel
theorem dX9_lowered_58 : decode cX9_lowered 58 = .ok (.lcmp, 1) := by decide +kernel
theorem dX9_lowered_59 : decode cX9_lowered 59 = .ok (.ifCond .le 6, 3) := by decide +kernel
theorem dX9_lowered_62 : decode cX9_lowered 62 = .ok (.goto 13, 3) := by decide +kernel
theorem dX9_lowered_65 : decode cX9_lowered 65 = .ok (.iload 6, 2) := by decide +kernel
theorem dX9_lowered_67 : decode cX9_lowered 67 = .ok (.istore 5, 2) := by decide +kernel
theorem dX9_lowered_69 : decode cX9_lowered 69 = .ok (.iinc 6 (-1), 3) := by decide +kernel
theorem dX9_lowered_72 : decode cX9_lowered 72 = .ok (.goto (-41), 3) := by decide +kernel
theorem dX9_lowered_75 : decode cX9_lowered 75 = .ok (.iload 5, 2) := by decide +kernel
theorem dX9_lowered_77 : decode cX9_lowered 77 = .ok (.ireturn, 1) := by decide +kernel
theorem dX10_init_0 : decode cX10_init 0 = .ok (.aload_n 0, 1) := by decide +kernel
theorem dX10_init_1 : decode cX10_init 1 = .ok (.invokespecial 3, 3) := by decide +kernel
theorem dX10_init_4 : decode cX10_init 4 = .ok (.aload_n 0, 1) := by decide +kernel
theorem dX10_init_5 : decode cX10_init 5 = .ok (.new 9, 3) := by decide +kernel
theorem dX10_init_8 : decode cX10_init 8 = .ok (.dup, 1) := by decide +kernel
theorem dX10_init_9 : decode cX10_init 9 = .ok (.invokespecial 11, 3) := by decide +kernel
theorem dX10_init_12 : decode cX10_init 12 = .ok (.putfield 12, 3) := by decide +kernel
theorem dX10_init_15 : decode cX10_init 15 = .ok (.aload_n 0, 1) := by decide +kernel
theorem dX10_init_16 : decode cX10_init 16 = .ok (.new 9, 3) := by decide +kernel
theorem dX10_init_19 : decode cX10_init 19 = .ok (.dup, 1) := by decide +kernel
theorem dX10_init_20 : decode cX10_init 20 = .ok (.invokespecial 11, 3) := by decide +kernel
theorem dX10_init_23 : decode cX10_init 23 = .ok (.putfield 16, 3) := by decide +kernel
theorem dX10_init_26 : decode cX10_init 26 = .ok (.aload_n 0, 1) := by decide +kernel
theorem dX10_init_27 : decode cX10_init 27 = .ok (.iconst 0, 1) := by decide +kernel
theorem dX10_init_28 : decode cX10_init 28 = .ok (.putfield 19, 3) := by decide +kernel
theorem dX10_init_31 : decode cX10_init 31 = .ok (.aload_n 0, 1) := by decide +kernel
theorem dX10_init_32 : decode cX10_init 32 = .ok (.new 23, 3) := by decide +kernel
theorem dX10_init_35 : decode cX10_init 35 = .ok (.dup, 1) := by decide +kernel
theorem dX10_init_36 : decode cX10_init 36 = .ok (.invokespecial 25, 3) := by decide +kernel
theorem dX10_init_39 : decode cX10_init 39 = .ok (.putfield 26, 3) := by decide +kernel
theorem dX10_init_42 : decode cX10_init 42 = .ok (.aload_n 0, 1) := by decide +kernel
theorem dX10_init_43 : decode cX10_init 43 = .ok (.new 30, 3) := by decide +kernel
theorem dX10_init_46 : decode cX10_init 46 = .ok (.dup, 1) := by decide +kernel
theorem dX10_init_47 : decode cX10_init 47 = .ok (.invokespecial 32, 3) := by decide +kernel
theorem dX10_init_50 : decode cX10_init 50 = .ok (.putfield 33, 3) := by decide +kernel
theorem dX10_init_53 : decode cX10_init 53 = .ok (.aload_n 0, 1) := by decide +kernel
theorem dX10_init_54 : decode cX10_init 54 = .ok (.new 37, 3) := by decide +kernel
theorem dX10_init_57 : decode cX10_init 57 = .ok (.dup, 1) := by decide +kernel
theorem dX10_init_58 : decode cX10_init 58 = .ok (.invokespecial 39, 3) := by decide +kernel
theorem dX10_init_61 : decode cX10_init 61 = .ok (.putfield 40, 3) := by decide +kernel
theorem dX10_init_64 : decode cX10_init 64 = .ok (.aload_n 0, 1) := by decide +kernel
theorem dX10_init_65 : decode cX10_init 65 = .ok (.new 44, 3) := by decide +kernel
theorem dX10_init_68 : decode cX10_init 68 = .ok (.dup, 1) := by decide +kernel
theorem dX10_init_69 : decode cX10_init 69 = .ok (.invokespecial 46, 3) := by decide +kernel
theorem dX10_init_72 : decode cX10_init 72 = .ok (.putfield 47, 3) := by decide +kernel
theorem dX10_init_75 : decode cX10_init 75 = .ok (.aload_n 0, 1) := by decide +kernel
theorem dX10_init_76 : decode cX10_init 76 = .ok (.new 51, 3) := by decide +kernel
theorem dX10_init_79 : decode cX10_init 79 = .ok (.dup, 1) := by decide +kernel
theorem dX10_init_80 : decode cX10_init 80 = .ok (.invokespecial 53, 3) := by decide +kernel
theorem dX10_init_83 : decode cX10_init 83 = .ok (.putfield 54, 3) := by decide +kernel
theorem dX10_init_86 : decode cX10_init 86 = .ok (.aload_n 0, 1) := by decide +kernel
theorem dX10_init_87 : decode cX10_init 87 = .ok (.new 51, 3) := by decide +kernel
theorem dX10_init_90 : decode cX10_init 90 = .ok (.dup, 1) := by decide +kernel
theorem dX10_init_91 : decode cX10_init 91 = .ok (.invokespecial 53, 3) := by decide +kernel
theorem dX10_init_94 : decode cX10_init 94 = .ok (.putfield 58, 3) := by decide +kernel
theorem dX10_init_97 : decode cX10_init 97 = .ok (.aload_n 0, 1) := by decide +kernel
theorem dX10_init_98 : decode cX10_init 98 = .ok (.new 61, 3) := by decide +kernel
theorem dX10_init_101 : decode cX10_init 101 = .ok (.dup, 1) := by decide +kernel
theorem dX10_init_102 : decode cX10_init 102 = .ok (.invokespecial 63, 3) := by decide +kernel
theorem dX10_init_105 : decode cX10_init 105 = .ok (.putfield 64, 3) := by decide +kernel
theorem dX10_init_108 : decode cX10_init 108 = .ok (.aload_n 0, 1) := by decide +kernel
theorem dX10_init_109 : decode cX10_init 109 = .ok (.new 68, 3) := by decide +kernel
theorem dX10_init_112 : decode cX10_init 112 = .ok (.dup, 1) := by decide +kernel
theorem dX10_init_113 : decode cX10_init 113 = .ok (.invokespecial 70, 3) := by decide +kernel
theorem dX10_init_116 : decode cX10_init 116 = .ok (.putfield 71, 3) := by decide +kernel
theorem dX10_init_119 : decode cX10_init 119 = .ok (.aload_n 0, 1) := by decide +kernel
theorem dX10_init_120 : decode cX10_init 120 = .ok (.new 68, 3) := by decide +kernel
theorem dX10_init_123 : decode cX10_init 123 = .ok (.dup, 1) := by decide +kernel
theorem dX10_init_124 : decode cX10_init 124 = .ok (.invokespecial 70, 3) := by decide +kernel
theorem dX10_init_127 : decode cX10_init 127 = .ok (.putfield 75, 3) := by decide +kernel
theorem dX10_init_130 : decode cX10_init 130 = .ok (.return_, 1) := by decide +kernel
theorem dX10_set_0 : decode cX10_set 0 = .ok (.iload_n 1, 1) := by decide +kernel
theorem dX10_set_1 : decode cX10_set 1 = .ok (.iconst 0, 1) := by decide +kernel
theorem dX10_set_2 : decode cX10_set 2 = .ok (.bipush 14, 2) := by decide +kernel
theorem dX10_set_4 : decode cX10_set 4 = .ok (.invokestatic 78, 3) := by decide +kernel
theorem dX10_set_7 : decode cX10_set 7 = .ok (.ifCond .ne 13, 3) := by decide +kernel
theorem dX10_set_10 : decode cX10_set 10 = .ok (.new 82, 3) := by decide +kernel
theorem dX10_set_13 : decode cX10_set 13 = .ok (.dup, 1) := by decide +kernel
theorem dX10_set_14 : decode cX10_set 14 = .ok (.ldc 84, 2) := by decide +kernel
theorem dX10_set_16 : decode cX10_set 16 = .ok (.invokespecial 86, 3) := by decide +kernel
theorem dX10_set_19 : decode cX10_set 19 = .ok (.athrow, 1) := by decide +kernel
theorem dX10_set_20 : decode cX10_set 20 = .ok (.iload_n 2, 1) := by decide +kernel
theorem dX10_set_21 : decode cX10_set 21 = .ok (.getstatic 89, 3) := by decide +kernel
theorem dX10_set_24 : decode cX10_set 24 = .ok (.iload_n 1, 1) := by decide +kernel
theorem dX10_set_25 : decode cX10_set 25 = .ok (.iaload, 1) := by decide +kernel
theorem dX10_set_26 : decode cX10_set 26 = .ok (.getstatic 93, 3) := by decide +kernel
theorem dX10_set_29 : decode cX10_set 29 = .ok (.iload_n 1, 1) := by decide +kernel
theorem dX10_set_30 : decode cX10_set 30 = .ok (.iaload, 1) := by decide +kernel
theorem dX10_set_31 : decode cX10_set 31 = .ok (.invokestatic 78, 3) := by decide +kernel
theorem dX10_set_34 : decode cX10_set 34 = .ok (.ifCond .ne 13, 3) := by decide +kernel
theorem dX10_set_37 : decode cX10_set 37 = .ok (.new 96, 3) := by decide +kernel
theorem dX10_set_40 : decode cX10_set 40 = .ok (.dup, 1) := by decide +kernel
theorem dX10_set_41 : decode cX10_set 41 = .ok (.ldc 98, 2) := by decide +kernel
theorem dX10_set_43 : decode cX10_set 43 = .ok (.invokespecial 100, 3) := by decide +kernel
theorem dX10_set_46 : decode cX10_set 46 = .ok (.athrow, 1) := by decide +kernel
theorem dX10_set_47 : decode cX10_set 47 = .ok (.aload_n 0, 1) := by decide +kernel
theorem dX10_set_48 : decode cX10_set 48 = .ok (.getfield 26, 3) := by decide +kernel
theorem dX10_set_51 : decode cX10_set 51 = .ok (.aload_n 0, 1) := by decide +kernel
theorem dX10_set_52 : decode cX10_set 52 = .ok (.getfield 12, 3) := by decide +kernel
theorem dX10_set_55 : decode cX10_set 55 = .ok (.invokevirtual 101, 3) := by decide +kernel
theorem dX10_set_58 : decode cX10_set 58 = .ok (.aload_n 0, 1) := by decide +kernel
theorem dX10_set_59 : decode cX10_set 59 = .ok (.getfield 12, 3) := by decide +kernel
theorem dX10_set_62 : decode cX10_set 62 = .ok (.getfield 105, 3) := by decide +kernel
theorem dX10_set_65 : decode cX10_set 65 = .ok (.iload_n 1, 1) := by decide +kernel
theorem dX10_set_66 : decode cX10_set 66 = .ok (.iaload, 1) := by decide +kernel
theorem dX10_set_67 : decode cX10_set 67 = .ok (.istore_n 3, 1) := by decide +kernel
theorem dX10_set_68 : decode cX10_set 68 = .ok (.aload_n 0, 1) := by decide +kernel
theorem dX10_set_69 : decode cX10_set 69 = .ok (.getfield 12, 3) := by decide +kernel
theorem dX10_set_72 : decode cX10_set 72 = .ok (.getfield 105, 3) := by decide +kernel
theorem dX10_set_75 : decode cX10_set 75 = .ok (.iload_n 1, 1) := by decide +kernel
theorem dX10_set_76 : decode cX10_set 76 = .ok (.iload_n 2, 1) := by decide +kernel
theorem dX10_set_77 : decode cX10_set 77 = .ok (.iastore, 1) := by decide +kernel
theorem dX10_set_78 : decode cX10_set 78 = .ok (.iload_n 3, 1) := by decide +kernel
theorem dX10_set_79 : decode cX10_set 79 = .ok (.ireturn, 1) := by decide +kernel
theorem dX10_setting_0 : decode cX10_setting 0 = .ok (.iload_n 1, 1) := by decide +kernel
theorem dX10_setting_1 : decode cX10_setting 1 = .ok (.iconst 0, 1) := by decide +kernel
theorem dX10_setting_2 : decode cX10_setting 2 = .ok (.bipush 14, 2) := by decide +kernel
theorem dX10_setting_4 : decode cX10_setting 4 = .ok (.invokestatic 78, 3) := by decide +kernel
theorem dX10_setting_7 : decode cX10_setting 7 = .ok (.ifCond .ne 13, 3) := by decide +kernel
theorem dX10_setting_10 : decode cX10_setting 10 = .ok (.new 82, 3) := by decide +kernel
theorem dX10_setting_13 : decode cX10_setting 13 = .ok (.dup, 1) := by decide +kernel
theorem dX10_setting_14 : decode cX10_setting 14 = .ok (.ldc 84, 2) := by decide +kernel
theorem dX10_setting_16 : decode cX10_setting 16 = .ok (.invokespecial 86, 3) := by decide +kernel
theorem dX10_setting_19 : decode cX10_setting 19 = .ok (.athrow, 1) := by decide +kernel
theorem dX10_setting_20 : decode cX10_setting 20 = .ok (.aload_n 0, 1) := by decide +kernel
theorem dX10_setting_21 : decode cX10_setting 21 = .ok (.getfield 12, 3) := by decide +kernel
theorem dX10_setting_24 : decode cX10_setting 24 = .ok (.getfield 105, 3) := by decide +kernel
theorem dX10_setting_27 : decode cX10_setting 27 = .ok (.iload_n 1, 1) := by decide +kernel
theorem dX10_setting_28 : decode cX10_setting 28 = .ok (.iaload, 1) := by decide +kernel
theorem dX10_setting_29 : decode cX10_setting 29 = .ok (.ireturn, 1) := by decide +kernel
theorem dX10_setPoint_0 : decode cX10_setPoint 0 = .ok (.iload_n 1, 1) := by decide +kernel
theorem dX10_setPoint_1 : decode cX10_setPoint 1 = .ok (.sipush (-10000), 3) := by decide +kernel
theorem dX10_setPoint_4 : decode cX10_setPoint 4 = .ok (.sipush 10000, 3) := by decide +kernel
theorem dX10_setPoint_7 : decode cX10_setPoint 7 = .ok (.invokestatic 78, 3) := by decide +kernel
theorem dX10_setPoint_10 : decode cX10_setPoint 10 = .ok (.ifCond .eq 16, 3) := by decide +kernel
theorem dX10_setPoint_13 : decode cX10_setPoint 13 = .ok (.iload_n 2, 1) := by decide +kernel
theorem dX10_setPoint_14 : decode cX10_setPoint 14 = .ok (.sipush (-1000), 3) := by decide +kernel
theorem dX10_setPoint_17 : decode cX10_setPoint 17 = .ok (.sipush 1000, 3) := by decide +kernel
theorem dX10_setPoint_20 : decode cX10_setPoint 20 = .ok (.invokestatic 78, 3) := by decide +kernel
theorem dX10_setPoint_23 : decode cX10_setPoint 23 = .ok (.ifCond .ne 13, 3) := by decide +kernel
theorem dX10_setPoint_26 : decode cX10_setPoint 26 = .ok (.new 96, 3) := by decide +kernel
theorem dX10_setPoint_29 : decode cX10_setPoint 29 = .ok (.dup, 1) := by decide +kernel
theorem dX10_setPoint_30 : decode cX10_setPoint 30 = .ok (.ldc 108, 2) := by decide +kernel
theorem dX10_setPoint_32 : decode cX10_setPoint 32 = .ok (.invokespecial 100, 3) := by decide +kernel
theorem dX10_setPoint_35 : decode cX10_setPoint 35 = .ok (.athrow, 1) := by decide +kernel
theorem dX10_setPoint_36 : decode cX10_setPoint 36 = .ok (.aload_n 0, 1) := by decide +kernel
theorem dX10_setPoint_37 : decode cX10_setPoint 37 = .ok (.getfield 12, 3) := by decide +kernel
theorem dX10_setPoint_40 : decode cX10_setPoint 40 = .ok (.getfield 110, 3) := by decide +kernel
theorem dX10_setPoint_43 : decode cX10_setPoint 43 = .ok (.iload_n 1, 1) := by decide +kernel
theorem dX10_setPoint_44 : decode cX10_setPoint 44 = .ok (.invokevirtual 114, 3) := by decide +kernel
theorem dX10_setPoint_47 : decode cX10_setPoint 47 = .ok (.ifCond .ne 13, 3) := by decide +kernel
theorem dX10_setPoint_50 : decode cX10_setPoint 50 = .ok (.new 120, 3) := by decide +kernel
theorem dX10_setPoint_53 : decode cX10_setPoint 53 = .ok (.dup, 1) := by decide +kernel
theorem dX10_setPoint_54 : decode cX10_setPoint 54 = .ok (.ldc 122, 2) := by decide +kernel
theorem dX10_setPoint_56 : decode cX10_setPoint 56 = .ok (.invokespecial 124, 3) := by decide +kernel
theorem dX10_setPoint_59 : decode cX10_setPoint 59 = .ok (.athrow, 1) := by decide +kernel
theorem dX10_setPoint_60 : decode cX10_setPoint 60 = .ok (.aload_n 0, 1) := by decide +kernel
theorem dX10_setPoint_61 : decode cX10_setPoint 61 = .ok (.getfield 26, 3) := by decide +kernel
theorem dX10_setPoint_64 : decode cX10_setPoint 64 = .ok (.aload_n 0, 1) := by decide +kernel
theorem dX10_setPoint_65 : decode cX10_setPoint 65 = .ok (.getfield 12, 3) := by decide +kernel
theorem dX10_setPoint_68 : decode cX10_setPoint 68 = .ok (.invokevirtual 101, 3) := by decide +kernel
theorem dX10_setPoint_71 : decode cX10_setPoint 71 = .ok (.aload_n 0, 1) := by decide +kernel
theorem dX10_setPoint_72 : decode cX10_setPoint 72 = .ok (.getfield 12, 3) := by decide +kernel
theorem dX10_setPoint_75 : decode cX10_setPoint 75 = .ok (.getfield 110, 3) := by decide +kernel
theorem dX10_setPoint_78 : decode cX10_setPoint 78 = .ok (.iload_n 1, 1) := by decide +kernel
theorem dX10_setPoint_79 : decode cX10_setPoint 79 = .ok (.iload_n 2, 1) := by decide +kernel
theorem dX10_setPoint_80 : decode cX10_setPoint 80 = .ok (.invokevirtual 125, 3) := by decide +kernel
theorem dX10_setPoint_83 : decode cX10_setPoint 83 = .ok (.aload_n 0, 1) := by decide +kernel
theorem dX10_setPoint_84 : decode cX10_setPoint 84 = .ok (.getfield 12, 3) := by decide +kernel
theorem dX10_setPoint_87 : decode cX10_setPoint 87 = .ok (.getfield 110, 3) := by decide +kernel
theorem dX10_setPoint_90 : decode cX10_setPoint 90 = .ok (.getfield 129, 3) := by decide +kernel
theorem dX10_setPoint_93 : decode cX10_setPoint 93 = .ok (.ireturn, 1) := by decide +kernel
theorem dX10_removePoint_0 : decode cX10_removePoint 0 = .ok (.aload_n 0, 1) := by decide +kernel
theorem dX10_removePoint_1 : decode cX10_removePoint 1 = .ok (.getfield 12, 3) := by decide +kernel
theorem dX10_removePoint_4 : decode cX10_removePoint 4 = .ok (.getfield 110, 3) := by decide +kernel
theorem dX10_removePoint_7 : decode cX10_removePoint 7 = .ok (.iload_n 1, 1) := by decide +kernel
theorem dX10_removePoint_8 : decode cX10_removePoint 8 = .ok (.invokevirtual 133, 3) := by decide +kernel
theorem dX10_removePoint_11 : decode cX10_removePoint 11 = .ok (.istore_n 2, 1) := by decide +kernel
theorem dX10_removePoint_12 : decode cX10_removePoint 12 = .ok (.aload_n 0, 1) := by decide +kernel
theorem dX10_removePoint_13 : decode cX10_removePoint 13 = .ok (.getfield 12, 3) := by decide +kernel
theorem dX10_removePoint_16 : decode cX10_removePoint 16 = .ok (.getfield 110, 3) := by decide +kernel
theorem dX10_removePoint_19 : decode cX10_removePoint 19 = .ok (.iload_n 2, 1) := by decide +kernel
theorem dX10_removePoint_20 : decode cX10_removePoint 20 = .ok (.invokevirtual 137, 3) := by decide +kernel
theorem dX10_removePoint_23 : decode cX10_removePoint 23 = .ok (.ifCond .ne 13, 3) := by decide +kernel
theorem dX10_removePoint_26 : decode cX10_removePoint 26 = .ok (.new 140, 3) := by decide +kernel
theorem dX10_removePoint_29 : decode cX10_removePoint 29 = .ok (.dup, 1) := by decide +kernel
theorem dX10_removePoint_30 : decode cX10_removePoint 30 = .ok (.ldc 142, 2) := by decide +kernel
theorem dX10_removePoint_32 : decode cX10_removePoint 32 = .ok (.invokespecial 144, 3) := by decide +kernel
theorem dX10_removePoint_35 : decode cX10_removePoint 35 = .ok (.athrow, 1) := by decide +kernel
theorem dX10_removePoint_36 : decode cX10_removePoint 36 = .ok (.aload_n 0, 1) := by decide +kernel
theorem dX10_removePoint_37 : decode cX10_removePoint 37 = .ok (.getfield 26, 3) := by decide +kernel
theorem dX10_removePoint_40 : decode cX10_removePoint 40 = .ok (.aload_n 0, 1) := by decide +kernel
theorem dX10_removePoint_41 : decode cX10_removePoint 41 = .ok (.getfield 12, 3) := by decide +kernel
theorem dX10_removePoint_44 : decode cX10_removePoint 44 = .ok (.invokevirtual 101, 3) := by decide +kernel
theorem dX10_removePoint_47 : decode cX10_removePoint 47 = .ok (.aload_n 0, 1) := by decide +kernel
theorem dX10_removePoint_48 : decode cX10_removePoint 48 = .ok (.getfield 12, 3) := by decide +kernel
theorem dX10_removePoint_51 : decode cX10_removePoint 51 = .ok (.getfield 110, 3) := by decide +kernel
theorem dX10_removePoint_54 : decode cX10_removePoint 54 = .ok (.getfield 145, 3) := by decide +kernel
theorem dX10_removePoint_57 : decode cX10_removePoint 57 = .ok (.iload_n 2, 1) := by decide +kernel
theorem dX10_removePoint_58 : decode cX10_removePoint 58 = .ok (.iaload, 1) := by decide +kernel
theorem dX10_removePoint_59 : decode cX10_removePoint 59 = .ok (.istore_n 3, 1) := by decide +kernel
theorem dX10_removePoint_60 : decode cX10_removePoint 60 = .ok (.aload_n 0, 1) := by decide +kernel
theorem dX10_removePoint_61 : decode cX10_removePoint 61 = .ok (.getfield 12, 3) := by decide +kernel
theorem dX10_removePoint_64 : decode cX10_removePoint 64 = .ok (.getfield 110, 3) := by decide +kernel
theorem dX10_removePoint_67 : decode cX10_removePoint 67 = .ok (.iload_n 2, 1) := by decide +kernel
theorem dX10_removePoint_68 : decode cX10_removePoint 68 = .ok (.invokevirtual 148, 3) := by decide +kernel
theorem dX10_removePoint_71 : decode cX10_removePoint 71 = .ok (.iload_n 3, 1) := by decide +kernel
theorem dX10_removePoint_72 : decode cX10_removePoint 72 = .ok (.ireturn, 1) := by decide +kernel
theorem dX10_point_0 : decode cX10_point 0 = .ok (.aload_n 0, 1) := by decide +kernel
theorem dX10_point_1 : decode cX10_point 1 = .ok (.getfield 12, 3) := by decide +kernel
theorem dX10_point_4 : decode cX10_point 4 = .ok (.getfield 110, 3) := by decide +kernel
theorem dX10_point_7 : decode cX10_point 7 = .ok (.iload_n 1, 1) := by decide +kernel
theorem dX10_point_8 : decode cX10_point 8 = .ok (.invokevirtual 137, 3) := by decide +kernel
theorem dX10_point_11 : decode cX10_point 11 = .ok (.ifCond .ne 13, 3) := by decide +kernel
theorem dX10_point_14 : decode cX10_point 14 = .ok (.new 140, 3) := by decide +kernel
theorem dX10_point_17 : decode cX10_point 17 = .ok (.dup, 1) := by decide +kernel
theorem dX10_point_18 : decode cX10_point 18 = .ok (.ldc 152, 2) := by decide +kernel
theorem dX10_point_20 : decode cX10_point 20 = .ok (.invokespecial 144, 3) := by decide +kernel
theorem dX10_point_23 : decode cX10_point 23 = .ok (.athrow, 1) := by decide +kernel
theorem dX10_point_24 : decode cX10_point 24 = .ok (.iload_n 2, 1) := by decide +kernel
theorem dX10_point_25 : decode cX10_point 25 = .ok (.ifCond .eq 18, 3) := by decide +kernel
theorem dX10_point_28 : decode cX10_point 28 = .ok (.iload_n 2, 1) := by decide +kernel
theorem dX10_point_29 : decode cX10_point 29 = .ok (.iconst 1, 1) := by decide +kernel
theorem dX10_point_30 : decode cX10_point 30 = .ok (.if_icmp .eq 13, 3) := by decide +kernel
theorem dX10_point_33 : decode cX10_point 33 = .ok (.new 96, 3) := by decide +kernel
theorem dX10_point_36 : decode cX10_point 36 = .ok (.dup, 1) := by decide +kernel
theorem dX10_point_37 : decode cX10_point 37 = .ok (.ldc 154, 2) := by decide +kernel
theorem dX10_point_39 : decode cX10_point 39 = .ok (.invokespecial 100, 3) := by decide +kernel
theorem dX10_point_42 : decode cX10_point 42 = .ok (.athrow, 1) := by decide +kernel
theorem dX10_point_43 : decode cX10_point 43 = .ok (.iload_n 2, 1) := by decide +kernel
theorem dX10_point_44 : decode cX10_point 44 = .ok (.ifCond .ne 18, 3) := by decide +kernel
theorem dX10_point_47 : decode cX10_point 47 = .ok (.aload_n 0, 1) := by decide +kernel
theorem dX10_point_48 : decode cX10_point 48 = .ok (.getfield 12, 3) := by decide +kernel
theorem dX10_point_51 : decode cX10_point 51 = .ok (.getfield 110, 3) := by decide +kernel
theorem dX10_point_54 : decode cX10_point 54 = .ok (.getfield 156, 3) := by decide +kernel
theorem dX10_point_57 : decode cX10_point 57 = .ok (.iload_n 1, 1) := by decide +kernel
theorem dX10_point_58 : decode cX10_point 58 = .ok (.iaload, 1) := by decide +kernel
theorem dX10_point_59 : decode cX10_point 59 = .ok (.goto 15, 3) := by decide +kernel
theorem dX10_point_62 : decode cX10_point 62 = .ok (.aload_n 0, 1) := by decide +kernel
theorem dX10_point_63 : decode cX10_point 63 = .ok (.getfield 12, 3) := by decide +kernel
theorem dX10_point_66 : decode cX10_point 66 = .ok (.getfield 110, 3) := by decide +kernel
theorem dX10_point_69 : decode cX10_point 69 = .ok (.getfield 145, 3) := by decide +kernel
theorem dX10_point_72 : decode cX10_point 72 = .ok (.iload_n 1, 1) := by decide +kernel
theorem dX10_point_73 : decode cX10_point 73 = .ok (.iaload, 1) := by decide +kernel
theorem dX10_point_74 : decode cX10_point 74 = .ok (.ireturn, 1) := by decide +kernel
theorem dX10_table_0 : decode cX10_table 0 = .ok (.iload_n 1, 1) := by decide +kernel
theorem dX10_table_1 : decode cX10_table 1 = .ok (.sipush (-10000), 3) := by decide +kernel
theorem dX10_table_4 : decode cX10_table 4 = .ok (.sipush 10000, 3) := by decide +kernel
theorem dX10_table_7 : decode cX10_table 7 = .ok (.invokestatic 78, 3) := by decide +kernel
theorem dX10_table_10 : decode cX10_table 10 = .ok (.ifCond .ne 13, 3) := by decide +kernel
theorem dX10_table_13 : decode cX10_table 13 = .ok (.new 96, 3) := by decide +kernel
theorem dX10_table_16 : decode cX10_table 16 = .ok (.dup, 1) := by decide +kernel
theorem dX10_table_17 : decode cX10_table 17 = .ok (.ldc 159, 2) := by decide +kernel
theorem dX10_table_19 : decode cX10_table 19 = .ok (.invokespecial 100, 3) := by decide +kernel
theorem dX10_table_22 : decode cX10_table 22 = .ok (.athrow, 1) := by decide +kernel
theorem dX10_table_23 : decode cX10_table 23 = .ok (.aload_n 0, 1) := by decide +kernel
theorem dX10_table_24 : decode cX10_table 24 = .ok (.getfield 12, 3) := by decide +kernel
theorem dX10_table_27 : decode cX10_table 27 = .ok (.getfield 110, 3) := by decide +kernel
theorem dX10_table_30 : decode cX10_table 30 = .ok (.iload_n 1, 1) := by decide +kernel
theorem dX10_table_31 : decode cX10_table 31 = .ok (.invokevirtual 161, 3) := by decide +kernel
theorem dX10_table_34 : decode cX10_table 34 = .ok (.ireturn, 1) := by decide +kernel
theorem dX10_setWeight_0 : decode cX10_setWeight 0 = .ok (.iload_n 1, 1) := by decide +kernel
theorem dX10_setWeight_1 : decode cX10_setWeight 1 = .ok (.iconst 0, 1) := by decide +kernel
theorem dX10_setWeight_2 : decode cX10_setWeight 2 = .ok (.iconst 4, 1) := by decide +kernel
theorem dX10_setWeight_3 : decode cX10_setWeight 3 = .ok (.invokestatic 78, 3) := by decide +kernel
theorem dX10_setWeight_6 : decode cX10_setWeight 6 = .ok (.ifCond .ne 13, 3) := by decide +kernel
theorem dX10_setWeight_9 : decode cX10_setWeight 9 = .ok (.new 82, 3) := by decide +kernel
theorem dX10_setWeight_12 : decode cX10_setWeight 12 = .ok (.dup, 1) := by decide +kernel
theorem dX10_setWeight_13 : decode cX10_setWeight 13 = .ok (.ldc 164, 2) := by decide +kernel
theorem dX10_setWeight_15 : decode cX10_setWeight 15 = .ok (.invokespecial 86, 3) := by decide +kernel
theorem dX10_setWeight_18 : decode cX10_setWeight 18 = .ok (.athrow, 1) := by decide +kernel
theorem dX10_setWeight_19 : decode cX10_setWeight 19 = .ok (.iload_n 2, 1) := by decide +kernel
theorem dX10_setWeight_20 : decode cX10_setWeight 20 = .ok (.iconst 0, 1) := by decide +kernel
theorem dX10_setWeight_21 : decode cX10_setWeight 21 = .ok (.bipush 99, 2) := by decide +kernel
theorem dX10_setWeight_23 : decode cX10_setWeight 23 = .ok (.invokestatic 78, 3) := by decide +kernel
theorem dX10_setWeight_26 : decode cX10_setWeight 26 = .ok (.ifCond .ne 13, 3) := by decide +kernel
theorem dX10_setWeight_29 : decode cX10_setWeight 29 = .ok (.new 96, 3) := by decide +kernel
theorem dX10_setWeight_32 : decode cX10_setWeight 32 = .ok (.dup, 1) := by decide +kernel
theorem dX10_setWeight_33 : decode cX10_setWeight 33 = .ok (.ldc 166, 2) := by decide +kernel
theorem dX10_setWeight_35 : decode cX10_setWeight 35 = .ok (.invokespecial 100, 3) := by decide +kernel
theorem dX10_setWeight_38 : decode cX10_setWeight 38 = .ok (.athrow, 1) := by decide +kernel
theorem dX10_setWeight_39 : decode cX10_setWeight 39 = .ok (.aload_n 0, 1) := by decide +kernel
theorem dX10_setWeight_40 : decode cX10_setWeight 40 = .ok (.getfield 26, 3) := by decide +kernel
theorem dX10_setWeight_43 : decode cX10_setWeight 43 = .ok (.aload_n 0, 1) := by decide +kernel
theorem dX10_setWeight_44 : decode cX10_setWeight 44 = .ok (.getfield 12, 3) := by decide +kernel
theorem dX10_setWeight_47 : decode cX10_setWeight 47 = .ok (.invokevirtual 101, 3) := by decide +kernel
theorem dX10_setWeight_50 : decode cX10_setWeight 50 = .ok (.aload_n 0, 1) := by decide +kernel
theorem dX10_setWeight_51 : decode cX10_setWeight 51 = .ok (.getfield 12, 3) := by decide +kernel
theorem dX10_setWeight_54 : decode cX10_setWeight 54 = .ok (.getfield 168, 3) := by decide +kernel
theorem dX10_setWeight_57 : decode cX10_setWeight 57 = .ok (.iload_n 1, 1) := by decide +kernel
theorem dX10_setWeight_58 : decode cX10_setWeight 58 = .ok (.iaload, 1) := by decide +kernel
theorem dX10_setWeight_59 : decode cX10_setWeight 59 = .ok (.istore_n 3, 1) := by decide +kernel
theorem dX10_setWeight_60 : decode cX10_setWeight 60 = .ok (.aload_n 0, 1) := by decide +kernel
theorem dX10_setWeight_61 : decode cX10_setWeight 61 = .ok (.getfield 12, 3) := by decide +kernel
theorem dX10_setWeight_64 : decode cX10_setWeight 64 = .ok (.getfield 168, 3) := by decide +kernel
theorem dX10_setWeight_67 : decode cX10_setWeight 67 = .ok (.iload_n 1, 1) := by decide +kernel
theorem dX10_setWeight_68 : decode cX10_setWeight 68 = .ok (.iload_n 2, 1) := by decide +kernel
theorem dX10_setWeight_69 : decode cX10_setWeight 69 = .ok (.iastore, 1) := by decide +kernel
theorem dX10_setWeight_70 : decode cX10_setWeight 70 = .ok (.iload_n 3, 1) := by decide +kernel
theorem dX10_setWeight_71 : decode cX10_setWeight 71 = .ok (.ireturn, 1) := by decide +kernel
theorem dX10_setGrid_0 : decode cX10_setGrid 0 = .ok (.iload_n 1, 1) := by decide +kernel
theorem dX10_setGrid_1 : decode cX10_setGrid 1 = .ok (.iconst 0, 1) := by decide +kernel
theorem dX10_setGrid_2 : decode cX10_setGrid 2 = .ok (.iconst 2, 1) := by decide +kernel
theorem dX10_setGrid_3 : decode cX10_setGrid 3 = .ok (.invokestatic 78, 3) := by decide +kernel
theorem dX10_setGrid_6 : decode cX10_setGrid 6 = .ok (.ifCond .ne 13, 3) := by decide +kernel
theorem dX10_setGrid_9 : decode cX10_setGrid 9 = .ok (.new 82, 3) := by decide +kernel
theorem dX10_setGrid_12 : decode cX10_setGrid 12 = .ok (.dup, 1) := by decide +kernel
theorem dX10_setGrid_13 : decode cX10_setGrid 13 = .ok (.ldc 171, 2) := by decide +kernel
theorem dX10_setGrid_15 : decode cX10_setGrid 15 = .ok (.invokespecial 86, 3) := by decide +kernel
theorem dX10_setGrid_18 : decode cX10_setGrid 18 = .ok (.athrow, 1) := by decide +kernel
theorem dX10_setGrid_19 : decode cX10_setGrid 19 = .ok (.iload_n 2, 1) := by decide +kernel
theorem dX10_setGrid_20 : decode cX10_setGrid 20 = .ok (.iconst 0, 1) := by decide +kernel
theorem dX10_setGrid_21 : decode cX10_setGrid 21 = .ok (.sipush 999, 3) := by decide +kernel
theorem dX10_setGrid_24 : decode cX10_setGrid 24 = .ok (.invokestatic 78, 3) := by decide +kernel
theorem dX10_setGrid_27 : decode cX10_setGrid 27 = .ok (.ifCond .eq 25, 3) := by decide +kernel
theorem dX10_setGrid_30 : decode cX10_setGrid 30 = .ok (.iload_n 3, 1) := by decide +kernel
theorem dX10_setGrid_31 : decode cX10_setGrid 31 = .ok (.iconst 1, 1) := by decide +kernel
theorem dX10_setGrid_32 : decode cX10_setGrid 32 = .ok (.sipush 200, 3) := by decide +kernel
theorem dX10_setGrid_35 : decode cX10_setGrid 35 = .ok (.invokestatic 78, 3) := by decide +kernel
theorem dX10_setGrid_38 : decode cX10_setGrid 38 = .ok (.ifCond .eq 14, 3) := by decide +kernel
theorem dX10_setGrid_41 : decode cX10_setGrid 41 = .ok (.iload 4, 2) := by decide +kernel
theorem dX10_setGrid_43 : decode cX10_setGrid 43 = .ok (.iconst 1, 1) := by decide +kernel
theorem dX10_setGrid_44 : decode cX10_setGrid 44 = .ok (.bipush 6, 2) := by decide +kernel
theorem dX10_setGrid_46 : decode cX10_setGrid 46 = .ok (.invokestatic 78, 3) := by decide +kernel
theorem dX10_setGrid_49 : decode cX10_setGrid 49 = .ok (.ifCond .ne 13, 3) := by decide +kernel
theorem dX10_setGrid_52 : decode cX10_setGrid 52 = .ok (.new 96, 3) := by decide +kernel
theorem dX10_setGrid_55 : decode cX10_setGrid 55 = .ok (.dup, 1) := by decide +kernel
theorem dX10_setGrid_56 : decode cX10_setGrid 56 = .ok (.ldc 173, 2) := by decide +kernel
theorem dX10_setGrid_58 : decode cX10_setGrid 58 = .ok (.invokespecial 100, 3) := by decide +kernel
theorem dX10_setGrid_61 : decode cX10_setGrid 61 = .ok (.athrow, 1) := by decide +kernel
theorem dX10_setGrid_62 : decode cX10_setGrid 62 = .ok (.iload_n 2, 1) := by decide +kernel
theorem dX10_setGrid_63 : decode cX10_setGrid 63 = .ok (.iload_n 3, 1) := by decide +kernel
theorem dX10_setGrid_64 : decode cX10_setGrid 64 = .ok (.iload 4, 2) := by decide +kernel
theorem dX10_setGrid_66 : decode cX10_setGrid 66 = .ok (.iconst 1, 1) := by decide +kernel
theorem dX10_setGrid_67 : decode cX10_setGrid 67 = .ok (.isub, 1) := by decide +kernel
theorem dX10_setGrid_68 : decode cX10_setGrid 68 = .ok (.imul, 1) := by decide +kernel
theorem dX10_setGrid_69 : decode cX10_setGrid 69 = .ok (.iadd, 1) := by decide +kernel
theorem dX10_setGrid_70 : decode cX10_setGrid 70 = .ok (.sipush 999, 3) := by decide +kernel
theorem dX10_setGrid_73 : decode cX10_setGrid 73 = .ok (.if_icmp .le 13, 3) := by decide +kernel
theorem dX10_setGrid_76 : decode cX10_setGrid 76 = .ok (.new 96, 3) := by decide +kernel
theorem dX10_setGrid_79 : decode cX10_setGrid 79 = .ok (.dup, 1) := by decide +kernel
theorem dX10_setGrid_80 : decode cX10_setGrid 80 = .ok (.ldc 175, 2) := by decide +kernel
theorem dX10_setGrid_82 : decode cX10_setGrid 82 = .ok (.invokespecial 100, 3) := by decide +kernel
theorem dX10_setGrid_85 : decode cX10_setGrid 85 = .ok (.athrow, 1) := by decide +kernel
theorem dX10_setGrid_86 : decode cX10_setGrid 86 = .ok (.aload_n 0, 1) := by decide +kernel
theorem dX10_setGrid_87 : decode cX10_setGrid 87 = .ok (.getfield 26, 3) := by decide +kernel
theorem dX10_setGrid_90 : decode cX10_setGrid 90 = .ok (.aload_n 0, 1) := by decide +kernel
theorem dX10_setGrid_91 : decode cX10_setGrid 91 = .ok (.getfield 12, 3) := by decide +kernel
theorem dX10_setGrid_94 : decode cX10_setGrid 94 = .ok (.invokevirtual 101, 3) := by decide +kernel
theorem dX10_setGrid_97 : decode cX10_setGrid 97 = .ok (.aload_n 0, 1) := by decide +kernel
theorem dX10_setGrid_98 : decode cX10_setGrid 98 = .ok (.getfield 12, 3) := by decide +kernel
theorem dX10_setGrid_101 : decode cX10_setGrid 101 = .ok (.getfield 177, 3) := by decide +kernel
theorem dX10_setGrid_104 : decode cX10_setGrid 104 = .ok (.getfield 181, 3) := by decide +kernel
theorem dX10_setGrid_107 : decode cX10_setGrid 107 = .ok (.iload_n 1, 1) := by decide +kernel
theorem dX10_setGrid_108 : decode cX10_setGrid 108 = .ok (.iload_n 2, 1) := by decide +kernel
theorem dX10_setGrid_109 : decode cX10_setGrid 109 = .ok (.iastore, 1) := by decide +kernel
theorem dX10_setGrid_110 : decode cX10_setGrid 110 = .ok (.aload_n 0, 1) := by decide +kernel
theorem dX10_setGrid_111 : decode cX10_setGrid 111 = .ok (.getfield 12, 3) := by decide +kernel
theorem dX10_setGrid_114 : decode cX10_setGrid 114 = .ok (.getfield 177, 3) := by decide +kernel
theorem dX10_setGrid_117 : decode cX10_setGrid 117 = .ok (.getfield 186, 3) := by decide +kernel
theorem dX10_setGrid_120 : decode cX10_setGrid 120 = .ok (.iload_n 1, 1) := by decide +kernel
theorem dX10_setGrid_121 : decode cX10_setGrid 121 = .ok (.iload_n 3, 1) := by decide +kernel
theorem dX10_setGrid_122 : decode cX10_setGrid 122 = .ok (.iastore, 1) := by decide +kernel
theorem dX10_setGrid_123 : decode cX10_setGrid 123 = .ok (.aload_n 0, 1) := by decide +kernel
theorem dX10_setGrid_124 : decode cX10_setGrid 124 = .ok (.getfield 12, 3) := by decide +kernel
theorem dX10_setGrid_127 : decode cX10_setGrid 127 = .ok (.getfield 177, 3) := by decide +kernel
theorem dX10_setGrid_130 : decode cX10_setGrid 130 = .ok (.getfield 189, 3) := by decide +kernel
theorem dX10_setGrid_133 : decode cX10_setGrid 133 = .ok (.iload_n 1, 1) := by decide +kernel
theorem dX10_setGrid_134 : decode cX10_setGrid 134 = .ok (.iload 4, 2) := by decide +kernel
theorem dX10_setGrid_136 : decode cX10_setGrid 136 = .ok (.iastore, 1) := by decide +kernel
theorem dX10_setGrid_137 : decode cX10_setGrid 137 = .ok (.aload_n 0, 1) := by decide +kernel
theorem dX10_setGrid_138 : decode cX10_setGrid 138 = .ok (.getfield 12, 3) := by decide +kernel
theorem dX10_setGrid_141 : decode cX10_setGrid 141 = .ok (.getfield 177, 3) := by decide +kernel
theorem dX10_setGrid_144 : decode cX10_setGrid 144 = .ok (.invokevirtual 192, 3) := by decide +kernel
theorem dX10_setGrid_147 : decode cX10_setGrid 147 = .ok (.ireturn, 1) := by decide +kernel
theorem dX10_append_0 : decode cX10_append 0 = .ok (.iload_n 1, 1) := by decide +kernel
theorem dX10_append_1 : decode cX10_append 1 = .ok (.invokestatic 196, 3) := by decide +kernel
theorem dX10_append_4 : decode cX10_append 4 = .ok (.ifCond .ne 13, 3) := by decide +kernel
theorem dX10_append_7 : decode cX10_append 7 = .ok (.new 96, 3) := by decide +kernel
theorem dX10_append_10 : decode cX10_append 10 = .ok (.dup, 1) := by decide +kernel
theorem dX10_append_11 : decode cX10_append 11 = .ok (.ldc 199, 2) := by decide +kernel
theorem dX10_append_13 : decode cX10_append 13 = .ok (.invokespecial 100, 3) := by decide +kernel
theorem dX10_append_16 : decode cX10_append 16 = .ok (.athrow, 1) := by decide +kernel
theorem dX10_append_17 : decode cX10_append 17 = .ok (.aload_n 0, 1) := by decide +kernel
theorem dX10_append_18 : decode cX10_append 18 = .ok (.getfield 33, 3) := by decide +kernel
theorem dX10_append_21 : decode cX10_append 21 = .ok (.iload_n 1, 1) := by decide +kernel
theorem dX10_append_22 : decode cX10_append 22 = .ok (.invokevirtual 201, 3) := by decide +kernel
theorem dX10_append_25 : decode cX10_append 25 = .ok (.ifCond .ne 13, 3) := by decide +kernel
theorem dX10_append_28 : decode cX10_append 28 = .ok (.new 120, 3) := by decide +kernel
theorem dX10_append_31 : decode cX10_append 31 = .ok (.dup, 1) := by decide +kernel
theorem dX10_append_32 : decode cX10_append 32 = .ok (.ldc 204, 2) := by decide +kernel
theorem dX10_append_34 : decode cX10_append 34 = .ok (.invokespecial 124, 3) := by decide +kernel
theorem dX10_append_37 : decode cX10_append 37 = .ok (.athrow, 1) := by decide +kernel
theorem dX10_append_38 : decode cX10_append 38 = .ok (.aload_n 0, 1) := by decide +kernel
theorem dX10_append_39 : decode cX10_append 39 = .ok (.getfield 33, 3) := by decide +kernel
theorem dX10_append_42 : decode cX10_append 42 = .ok (.iload_n 1, 1) := by decide +kernel
theorem dX10_append_43 : decode cX10_append 43 = .ok (.invokevirtual 206, 3) := by decide +kernel
theorem dX10_append_46 : decode cX10_append 46 = .ok (.aload_n 0, 1) := by decide +kernel
theorem dX10_append_47 : decode cX10_append 47 = .ok (.getfield 33, 3) := by decide +kernel
theorem dX10_append_50 : decode cX10_append 50 = .ok (.getfield 209, 3) := by decide +kernel
theorem dX10_append_53 : decode cX10_append 53 = .ok (.ireturn, 1) := by decide +kernel
theorem dX10_load_0 : decode cX10_load 0 = .ok (.aload_n 0, 1) := by decide +kernel
theorem dX10_load_1 : decode cX10_load 1 = .ok (.getfield 33, 3) := by decide +kernel
theorem dX10_load_4 : decode cX10_load 4 = .ok (.invokevirtual 212, 3) := by decide +kernel
theorem dX10_load_7 : decode cX10_load 7 = .ok (.istore_n 1, 1) := by decide +kernel
theorem dX10_load_8 : decode cX10_load 8 = .ok (.aload_n 0, 1) := by decide +kernel
theorem dX10_load_9 : decode cX10_load 9 = .ok (.getfield 33, 3) := by decide +kernel
theorem dX10_load_12 : decode cX10_load 12 = .ok (.iconst 0, 1) := by decide +kernel
theorem dX10_load_13 : decode cX10_load 13 = .ok (.putfield 209, 3) := by decide +kernel
theorem dX10_load_16 : decode cX10_load 16 = .ok (.iload_n 1, 1) := by decide +kernel
theorem dX10_load_17 : decode cX10_load 17 = .ok (.ifCond .ne 13, 3) := by decide +kernel
theorem dX10_load_20 : decode cX10_load 20 = .ok (.new 96, 3) := by decide +kernel
theorem dX10_load_23 : decode cX10_load 23 = .ok (.dup, 1) := by decide +kernel
theorem dX10_load_24 : decode cX10_load 24 = .ok (.ldc 216, 2) := by decide +kernel
theorem dX10_load_26 : decode cX10_load 26 = .ok (.invokespecial 100, 3) := by decide +kernel
theorem dX10_load_29 : decode cX10_load 29 = .ok (.athrow, 1) := by decide +kernel
theorem dX10_load_30 : decode cX10_load 30 = .ok (.aload_n 0, 1) := by decide +kernel
theorem dX10_load_31 : decode cX10_load 31 = .ok (.getfield 26, 3) := by decide +kernel
theorem dX10_load_34 : decode cX10_load 34 = .ok (.aload_n 0, 1) := by decide +kernel
theorem dX10_load_35 : decode cX10_load 35 = .ok (.getfield 12, 3) := by decide +kernel
theorem dX10_load_38 : decode cX10_load 38 = .ok (.invokevirtual 101, 3) := by decide +kernel
theorem dX10_load_41 : decode cX10_load 41 = .ok (.aload_n 0, 1) := by decide +kernel
theorem dX10_load_42 : decode cX10_load 42 = .ok (.getfield 12, 3) := by decide +kernel
theorem dX10_load_45 : decode cX10_load 45 = .ok (.getfield 218, 3) := by decide +kernel
theorem dX10_load_48 : decode cX10_load 48 = .ok (.aload_n 0, 1) := by decide +kernel
theorem dX10_load_49 : decode cX10_load 49 = .ok (.getfield 33, 3) := by decide +kernel
theorem dX10_load_52 : decode cX10_load 52 = .ok (.getfield 222, 3) := by decide +kernel
theorem dX10_load_55 : decode cX10_load 55 = .ok (.invokevirtual 223, 3) := by decide +kernel
theorem dX10_load_58 : decode cX10_load 58 = .ok (.aload_n 0, 1) := by decide +kernel
theorem dX10_load_59 : decode cX10_load 59 = .ok (.getfield 12, 3) := by decide +kernel
theorem dX10_load_62 : decode cX10_load 62 = .ok (.getfield 218, 3) := by decide +kernel
theorem dX10_load_65 : decode cX10_load 65 = .ok (.getfield 229, 3) := by decide +kernel
theorem dX10_load_68 : decode cX10_load 68 = .ok (.aload_n 0, 1) := by decide +kernel
theorem dX10_load_69 : decode cX10_load 69 = .ok (.getfield 12, 3) := by decide +kernel
theorem dX10_load_72 : decode cX10_load 72 = .ok (.getfield 218, 3) := by decide +kernel
theorem dX10_load_75 : decode cX10_load 75 = .ok (.getfield 232, 3) := by decide +kernel
theorem dX10_load_78 : decode cX10_load 78 = .ok (.iadd, 1) := by decide +kernel
theorem dX10_load_79 : decode cX10_load 79 = .ok (.ireturn, 1) := by decide +kernel
theorem dX10_errorPosition_0 : decode cX10_errorPosition 0 = .ok (.aload_n 0, 1) := by decide +kernel
theorem dX10_errorPosition_1 : decode cX10_errorPosition 1 = .ok (.getfield 33, 3) := by decide +kernel
theorem dX10_errorPosition_4 : decode cX10_errorPosition 4 = .ok (.getfield 235, 3) := by decide +kernel
theorem dX10_errorPosition_7 : decode cX10_errorPosition 7 = .ok (.ireturn, 1) := by decide +kernel
theorem dX10_describe_0 : decode cX10_describe 0 = .ok (.aload_n 0, 1) := by decide +kernel
theorem dX10_describe_1 : decode cX10_describe 1 = .ok (.getfield 40, 3) := by decide +kernel
theorem dX10_describe_4 : decode cX10_describe 4 = .ok (.iconst 0, 1) := by decide +kernel
theorem dX10_describe_5 : decode cX10_describe 5 = .ok (.invokevirtual 238, 3) := by decide +kernel
theorem dX10_describe_8 : decode cX10_describe 8 = .ok (.aload_n 0, 1) := by decide +kernel
theorem dX10_describe_9 : decode cX10_describe 9 = .ok (.getfield 12, 3) := by decide +kernel
theorem dX10_describe_12 : decode cX10_describe 12 = .ok (.getfield 218, 3) := by decide +kernel
theorem dX10_describe_15 : decode cX10_describe 15 = .ok (.aload_n 0, 1) := by decide +kernel
theorem dX10_describe_16 : decode cX10_describe 16 = .ok (.getfield 40, 3) := by decide +kernel
theorem dX10_describe_19 : decode cX10_describe 19 = .ok (.invokevirtual 241, 3) := by decide +kernel
theorem dX10_describe_22 : decode cX10_describe 22 = .ok (.iload_n 1, 1) := by decide +kernel
theorem dX10_describe_23 : decode cX10_describe 23 = .ok (.iconst (-1), 1) := by decide +kernel
theorem dX10_describe_24 : decode cX10_describe 24 = .ok (.if_icmp .ne 11, 3) := by decide +kernel
theorem dX10_describe_27 : decode cX10_describe 27 = .ok (.aload_n 0, 1) := by decide +kernel
theorem dX10_describe_28 : decode cX10_describe 28 = .ok (.getfield 40, 3) := by decide +kernel
theorem dX10_describe_31 : decode cX10_describe 31 = .ok (.invokevirtual 245, 3) := by decide +kernel
theorem dX10_describe_34 : decode cX10_describe 34 = .ok (.ireturn, 1) := by decide +kernel
theorem dX10_describe_35 : decode cX10_describe 35 = .ok (.iload_n 1, 1) := by decide +kernel
theorem dX10_describe_36 : decode cX10_describe 36 = .ok (.iconst 0, 1) := by decide +kernel
theorem dX10_describe_37 : decode cX10_describe 37 = .ok (.aload_n 0, 1) := by decide +kernel
theorem dX10_describe_38 : decode cX10_describe 38 = .ok (.getfield 40, 3) := by decide +kernel
theorem dX10_describe_41 : decode cX10_describe 41 = .ok (.invokevirtual 245, 3) := by decide +kernel
theorem dX10_describe_44 : decode cX10_describe 44 = .ok (.iconst 1, 1) := by decide +kernel
theorem dX10_describe_45 : decode cX10_describe 45 = .ok (.isub, 1) := by decide +kernel
theorem dX10_describe_46 : decode cX10_describe 46 = .ok (.invokestatic 78, 3) := by decide +kernel
theorem dX10_describe_49 : decode cX10_describe 49 = .ok (.ifCond .ne 13, 3) := by decide +kernel
theorem dX10_describe_52 : decode cX10_describe 52 = .ok (.new 82, 3) := by decide +kernel
theorem dX10_describe_55 : decode cX10_describe 55 = .ok (.dup, 1) := by decide +kernel
theorem dX10_describe_56 : decode cX10_describe 56 = .ok (.ldc 247, 2) := by decide +kernel
theorem dX10_describe_58 : decode cX10_describe 58 = .ok (.invokespecial 86, 3) := by decide +kernel
theorem dX10_describe_61 : decode cX10_describe 61 = .ok (.athrow, 1) := by decide +kernel
theorem dX10_describe_62 : decode cX10_describe 62 = .ok (.aload_n 0, 1) := by decide +kernel
theorem dX10_describe_63 : decode cX10_describe 63 = .ok (.getfield 40, 3) := by decide +kernel
theorem dX10_describe_66 : decode cX10_describe 66 = .ok (.iload_n 1, 1) := by decide +kernel
theorem dX10_describe_67 : decode cX10_describe 67 = .ok (.invokevirtual 249, 3) := by decide +kernel
theorem dX10_describe_70 : decode cX10_describe 70 = .ok (.ireturn, 1) := by decide +kernel
theorem dX10_curvature_0 : decode cX10_curvature 0 = .ok (.iload_n 1, 1) := by decide +kernel
theorem dX10_curvature_1 : decode cX10_curvature 1 = .ok (.iconst 0, 1) := by decide +kernel
theorem dX10_curvature_2 : decode cX10_curvature 2 = .ok (.sipush 199, 3) := by decide +kernel
theorem dX10_curvature_5 : decode cX10_curvature 5 = .ok (.invokestatic 78, 3) := by decide +kernel
theorem dX10_curvature_8 : decode cX10_curvature 8 = .ok (.ifCond .ne 13, 3) := by decide +kernel
theorem dX10_curvature_11 : decode cX10_curvature 11 = .ok (.new 82, 3) := by decide +kernel
theorem dX10_curvature_14 : decode cX10_curvature 14 = .ok (.dup, 1) := by decide +kernel
theorem dX10_curvature_15 : decode cX10_curvature 15 = .ok (.ldc 253, 2) := by decide +kernel
theorem dX10_curvature_17 : decode cX10_curvature 17 = .ok (.invokespecial 86, 3) := by decide +kernel
theorem dX10_curvature_20 : decode cX10_curvature 20 = .ok (.athrow, 1) := by decide +kernel
theorem dX10_curvature_21 : decode cX10_curvature 21 = .ok (.aload_n 0, 1) := by decide +kernel
theorem dX10_curvature_22 : decode cX10_curvature 22 = .ok (.getfield 12, 3) := by decide +kernel
theorem dX10_curvature_25 : decode cX10_curvature 25 = .ok (.getfield 218, 3) := by decide +kernel
theorem dX10_curvature_28 : decode cX10_curvature 28 = .ok (.iload_n 1, 1) := by decide +kernel
theorem dX10_curvature_29 : decode cX10_curvature 29 = .ok (.invokevirtual 255, 3) := by decide +kernel
theorem dX10_curvature_32 : decode cX10_curvature 32 = .ok (.ireturn, 1) := by decide +kernel
theorem dX10_push_0 : decode cX10_push 0 = .ok (.iload_n 1, 1) := by decide +kernel
theorem dX10_push_1 : decode cX10_push 1 = .ok (.iconst 0, 1) := by decide +kernel
theorem dX10_push_2 : decode cX10_push 2 = .ok (.sipush 199, 3) := by decide +kernel
theorem dX10_push_5 : decode cX10_push 5 = .ok (.invokestatic 78, 3) := by decide +kernel
theorem dX10_push_8 : decode cX10_push 8 = .ok (.ifCond .ne 13, 3) := by decide +kernel
theorem dX10_push_11 : decode cX10_push 11 = .ok (.new 82, 3) := by decide +kernel
theorem dX10_push_14 : decode cX10_push 14 = .ok (.dup, 1) := by decide +kernel
theorem dX10_push_15 : decode cX10_push 15 = .ok (.ldc 253, 2) := by decide +kernel
theorem dX10_push_17 : decode cX10_push 17 = .ok (.invokespecial 86, 3) := by decide +kernel
theorem dX10_push_20 : decode cX10_push 20 = .ok (.athrow, 1) := by decide +kernel
theorem dX10_push_21 : decode cX10_push 21 = .ok (.aload_n 0, 1) := by decide +kernel
theorem dX10_push_22 : decode cX10_push 22 = .ok (.getfield 12, 3) := by decide +kernel
theorem dX10_push_25 : decode cX10_push 25 = .ok (.getfield 218, 3) := by decide +kernel
theorem dX10_push_28 : decode cX10_push 28 = .ok (.iload_n 1, 1) := by decide +kernel
theorem dX10_push_29 : decode cX10_push 29 = .ok (.invokevirtual 258, 3) := by decide +kernel
theorem dX10_push_32 : decode cX10_push 32 = .ok (.ireturn, 1) := by decide +kernel
theorem dX10_run_0 : decode cX10_run 0 = .ok (.aload_n 0, 1) := by decide +kernel
theorem dX10_run_1 : decode cX10_run 1 = .ok (.getfield 47, 3) := by decide +kernel
theorem dX10_run_4 : decode cX10_run 4 = .ok (.aload_n 0, 1) := by decide +kernel
theorem dX10_run_5 : decode cX10_run 5 = .ok (.getfield 12, 3) := by decide +kernel
theorem dX10_run_8 : decode cX10_run 8 = .ok (.invokevirtual 261, 3) := by decide +kernel
theorem dX10_run_11 : decode cX10_run 11 = .ok (.aload_n 0, 1) := by decide +kernel
theorem dX10_run_12 : decode cX10_run 12 = .ok (.getfield 47, 3) := by decide +kernel
theorem dX10_run_15 : decode cX10_run 15 = .ok (.aload_n 0, 1) := by decide +kernel
theorem dX10_run_16 : decode cX10_run 16 = .ok (.getfield 54, 3) := by decide +kernel
theorem dX10_run_19 : decode cX10_run 19 = .ok (.invokevirtual 264, 3) := by decide +kernel
theorem dX10_run_22 : decode cX10_run 22 = .ok (.aload_n 0, 1) := by decide +kernel
theorem dX10_run_23 : decode cX10_run 23 = .ok (.getfield 54, 3) := by decide +kernel
theorem dX10_run_26 : decode cX10_run 26 = .ok (.invokevirtual 268, 3) := by decide +kernel
theorem dX10_run_29 : decode cX10_run 29 = .ok (.ireturn, 1) := by decide +kernel
theorem dX10_trace_0 : decode cX10_trace 0 = .ok (.aload_n 0, 1) := by decide +kernel
theorem dX10_trace_1 : decode cX10_trace 1 = .ok (.getfield 54, 3) := by decide +kernel
theorem dX10_trace_4 : decode cX10_trace 4 = .ok (.invokevirtual 271, 3) := by decide +kernel
theorem dX10_trace_7 : decode cX10_trace 7 = .ok (.ifCond .ne 14, 3) := by decide +kernel
theorem dX10_trace_10 : decode cX10_trace 10 = .ok (.new 120, 3) := by decide +kernel
theorem dX10_trace_13 : decode cX10_trace 13 = .ok (.dup, 1) := by decide +kernel
theorem dX10_trace_14 : decode cX10_trace 14 = .ok (.ldc_w 274, 3) := by decide +kernel
theorem dX10_trace_17 : decode cX10_trace 17 = .ok (.invokespecial 124, 3) := by decide +kernel
theorem dX10_trace_20 : decode cX10_trace 20 = .ok (.athrow, 1) := by decide +kernel
theorem dX10_trace_21 : decode cX10_trace 21 = .ok (.iload_n 1, 1) := by decide +kernel
theorem dX10_trace_22 : decode cX10_trace 22 = .ok (.iconst 0, 1) := by decide +kernel
theorem dX10_trace_23 : decode cX10_trace 23 = .ok (.aload_n 0, 1) := by decide +kernel
theorem dX10_trace_24 : decode cX10_trace 24 = .ok (.getfield 54, 3) := by decide +kernel
theorem dX10_trace_27 : decode cX10_trace 27 = .ok (.getfield 276, 3) := by decide +kernel
theorem dX10_trace_30 : decode cX10_trace 30 = .ok (.invokestatic 78, 3) := by decide +kernel
theorem dX10_trace_33 : decode cX10_trace 33 = .ok (.ifCond .ne 13, 3) := by decide +kernel
theorem dX10_trace_36 : decode cX10_trace 36 = .ok (.new 82, 3) := by decide +kernel
theorem dX10_trace_39 : decode cX10_trace 39 = .ok (.dup, 1) := by decide +kernel
theorem dX10_trace_40 : decode cX10_trace 40 = .ok (.ldc 253, 2) := by decide +kernel
theorem dX10_trace_42 : decode cX10_trace 42 = .ok (.invokespecial 86, 3) := by decide +kernel
theorem dX10_trace_45 : decode cX10_trace 45 = .ok (.athrow, 1) := by decide +kernel
theorem dX10_trace_46 : decode cX10_trace 46 = .ok (.iload_n 2, 1) := by decide +kernel
theorem dX10_trace_47 : decode cX10_trace 47 = .ok (.iconst 0, 1) := by decide +kernel
theorem dX10_trace_48 : decode cX10_trace 48 = .ok (.iconst 5, 1) := by decide +kernel
theorem dX10_trace_49 : decode cX10_trace 49 = .ok (.invokestatic 78, 3) := by decide +kernel
theorem dX10_trace_52 : decode cX10_trace 52 = .ok (.ifCond .eq 18, 3) := by decide +kernel
theorem dX10_trace_55 : decode cX10_trace 55 = .ok (.iload_n 1, 1) := by decide +kernel
theorem dX10_trace_56 : decode cX10_trace 56 = .ok (.aload_n 0, 1) := by decide +kernel
theorem dX10_trace_57 : decode cX10_trace 57 = .ok (.getfield 54, 3) := by decide +kernel
theorem dX10_trace_60 : decode cX10_trace 60 = .ok (.getfield 276, 3) := by decide +kernel
theorem dX10_trace_63 : decode cX10_trace 63 = .ok (.if_icmp .ne 18, 3) := by decide +kernel
theorem dX10_trace_66 : decode cX10_trace 66 = .ok (.iload_n 2, 1) := by decide +kernel
theorem dX10_trace_67 : decode cX10_trace 67 = .ok (.ifCond .eq 14, 3) := by decide +kernel
theorem dX10_trace_70 : decode cX10_trace 70 = .ok (.new 96, 3) := by decide +kernel
theorem dX10_trace_73 : decode cX10_trace 73 = .ok (.dup, 1) := by decide +kernel
theorem dX10_trace_74 : decode cX10_trace 74 = .ok (.ldc_w 278, 3) := by decide +kernel
theorem dX10_trace_77 : decode cX10_trace 77 = .ok (.invokespecial 100, 3) := by decide +kernel
theorem dX10_trace_80 : decode cX10_trace 80 = .ok (.athrow, 1) := by decide +kernel
theorem dX10_trace_81 : decode cX10_trace 81 = .ok (.aload_n 0, 1) := by decide +kernel
theorem dX10_trace_82 : decode cX10_trace 82 = .ok (.getfield 54, 3) := by decide +kernel
theorem dX10_trace_85 : decode cX10_trace 85 = .ok (.iload_n 1, 1) := by decide +kernel
theorem dX10_trace_86 : decode cX10_trace 86 = .ok (.iload_n 2, 1) := by decide +kernel
theorem dX10_trace_87 : decode cX10_trace 87 = .ok (.invokevirtual 280, 3) := by decide +kernel
theorem dX10_trace_90 : decode cX10_trace 90 = .ok (.ireturn, 1) := by decide +kernel
theorem dX10_measure_0 : decode cX10_measure 0 = .ok (.aload_n 0, 1) := by decide +kernel
theorem dX10_measure_1 : decode cX10_measure 1 = .ok (.getfield 54, 3) := by decide +kernel
theorem dX10_measure_4 : decode cX10_measure 4 = .ok (.invokevirtual 271, 3) := by decide +kernel
theorem dX10_measure_7 : decode cX10_measure 7 = .ok (.ifCond .ne 14, 3) := by decide +kernel
theorem dX10_measure_10 : decode cX10_measure 10 = .ok (.new 120, 3) := by decide +kernel
theorem dX10_measure_13 : decode cX10_measure 13 = .ok (.dup, 1) := by decide +kernel
theorem dX10_measure_14 : decode cX10_measure 14 = .ok (.ldc_w 274, 3) := by decide +kernel
theorem dX10_measure_17 : decode cX10_measure 17 = .ok (.invokespecial 124, 3) := by decide +kernel
theorem dX10_measure_20 : decode cX10_measure 20 = .ok (.athrow, 1) := by decide +kernel
theorem dX10_measure_21 : decode cX10_measure 21 = .ok (.iload_n 1, 1) := by decide +kernel
theorem dX10_measure_22 : decode cX10_measure 22 = .ok (.iconst 0, 1) := by decide +kernel
theorem dX10_measure_23 : decode cX10_measure 23 = .ok (.bipush 7, 2) := by decide +kernel
theorem dX10_measure_25 : decode cX10_measure 25 = .ok (.invokestatic 78, 3) := by decide +kernel
theorem dX10_measure_28 : decode cX10_measure 28 = .ok (.ifCond .ne 14, 3) := by decide +kernel
theorem dX10_measure_31 : decode cX10_measure 31 = .ok (.new 96, 3) := by decide +kernel
theorem dX10_measure_34 : decode cX10_measure 34 = .ok (.dup, 1) := by decide +kernel
theorem dX10_measure_35 : decode cX10_measure 35 = .ok (.ldc_w 284, 3) := by decide +kernel
theorem dX10_measure_38 : decode cX10_measure 38 = .ok (.invokespecial 100, 3) := by decide +kernel
theorem dX10_measure_41 : decode cX10_measure 41 = .ok (.athrow, 1) := by decide +kernel
theorem dX10_measure_42 : decode cX10_measure 42 = .ok (.aload_n 0, 1) := by decide +kernel
theorem dX10_measure_43 : decode cX10_measure 43 = .ok (.getfield 54, 3) := by decide +kernel
theorem dX10_measure_46 : decode cX10_measure 46 = .ok (.iload_n 1, 1) := by decide +kernel
theorem dX10_measure_47 : decode cX10_measure 47 = .ok (.aload_n 0, 1) := by decide +kernel
theorem dX10_measure_48 : decode cX10_measure 48 = .ok (.getfield 12, 3) := by decide +kernel
theorem dX10_measure_51 : decode cX10_measure 51 = .ok (.getfield 105, 3) := by decide +kernel
theorem dX10_measure_54 : decode cX10_measure 54 = .ok (.bipush 14, 2) := by decide +kernel
theorem dX10_measure_56 : decode cX10_measure 56 = .ok (.iaload, 1) := by decide +kernel
theorem dX10_measure_57 : decode cX10_measure 57 = .ok (.invokevirtual 286, 3) := by decide +kernel
theorem dX10_measure_60 : decode cX10_measure 60 = .ok (.ireturn, 1) := by decide +kernel
theorem dX10_cost_0 : decode cX10_cost 0 = .ok (.aload_n 0, 1) := by decide +kernel
theorem dX10_cost_1 : decode cX10_cost 1 = .ok (.getfield 54, 3) := by decide +kernel
theorem dX10_cost_4 : decode cX10_cost 4 = .ok (.invokevirtual 271, 3) := by decide +kernel
theorem dX10_cost_7 : decode cX10_cost 7 = .ok (.ifCond .ne 14, 3) := by decide +kernel
theorem dX10_cost_10 : decode cX10_cost 10 = .ok (.new 120, 3) := by decide +kernel
theorem dX10_cost_13 : decode cX10_cost 13 = .ok (.dup, 1) := by decide +kernel
theorem dX10_cost_14 : decode cX10_cost 14 = .ok (.ldc_w 274, 3) := by decide +kernel
theorem dX10_cost_17 : decode cX10_cost 17 = .ok (.invokespecial 124, 3) := by decide +kernel
theorem dX10_cost_20 : decode cX10_cost 20 = .ok (.athrow, 1) := by decide +kernel
theorem dX10_cost_21 : decode cX10_cost 21 = .ok (.aload_n 0, 1) := by decide +kernel
theorem dX10_cost_22 : decode cX10_cost 22 = .ok (.getfield 54, 3) := by decide +kernel
theorem dX10_cost_25 : decode cX10_cost 25 = .ok (.aload_n 0, 1) := by decide +kernel
theorem dX10_cost_26 : decode cX10_cost 26 = .ok (.getfield 12, 3) := by decide +kernel
theorem dX10_cost_29 : decode cX10_cost 29 = .ok (.getfield 168, 3) := by decide +kernel
theorem dX10_cost_32 : decode cX10_cost 32 = .ok (.aload_n 0, 1) := by decide +kernel
theorem dX10_cost_33 : decode cX10_cost 33 = .ok (.getfield 12, 3) := by decide +kernel
theorem dX10_cost_36 : decode cX10_cost 36 = .ok (.getfield 105, 3) := by decide +kernel
theorem dX10_cost_39 : decode cX10_cost 39 = .ok (.bipush 14, 2) := by decide +kernel
theorem dX10_cost_41 : decode cX10_cost 41 = .ok (.iaload, 1) := by decide +kernel
theorem dX10_cost_42 : decode cX10_cost 42 = .ok (.invokevirtual 289, 3) := by decide +kernel
theorem dX10_cost_45 : decode cX10_cost 45 = .ok (.lreturn, 1) := by decide +kernel
theorem dX10_reason_0 : decode cX10_reason 0 = .ok (.aload_n 0, 1) := by decide +kernel
theorem dX10_reason_1 : decode cX10_reason 1 = .ok (.getfield 54, 3) := by decide +kernel
theorem dX10_reason_4 : decode cX10_reason 4 = .ok (.invokevirtual 271, 3) := by decide +kernel
theorem dX10_reason_7 : decode cX10_reason 7 = .ok (.ifCond .ne 14, 3) := by decide +kernel
theorem dX10_reason_10 : decode cX10_reason 10 = .ok (.new 120, 3) := by decide +kernel
theorem dX10_reason_13 : decode cX10_reason 13 = .ok (.dup, 1) := by decide +kernel
theorem dX10_reason_14 : decode cX10_reason 14 = .ok (.ldc_w 274, 3) := by decide +kernel
theorem dX10_reason_17 : decode cX10_reason 17 = .ok (.invokespecial 124, 3) := by decide +kernel
theorem dX10_reason_20 : decode cX10_reason 20 = .ok (.athrow, 1) := by decide +kernel
theorem dX10_reason_21 : decode cX10_reason 21 = .ok (.iload_n 1, 1) := by decide +kernel
theorem dX10_reason_22 : decode cX10_reason 22 = .ok (.iconst 0, 1) := by decide +kernel
theorem dX10_reason_23 : decode cX10_reason 23 = .ok (.aload_n 0, 1) := by decide +kernel
theorem dX10_reason_24 : decode cX10_reason 24 = .ok (.getfield 54, 3) := by decide +kernel
theorem dX10_reason_27 : decode cX10_reason 27 = .ok (.getfield 276, 3) := by decide +kernel
theorem dX10_reason_30 : decode cX10_reason 30 = .ok (.iconst 1, 1) := by decide +kernel
theorem dX10_reason_31 : decode cX10_reason 31 = .ok (.isub, 1) := by decide +kernel
theorem dX10_reason_32 : decode cX10_reason 32 = .ok (.invokestatic 78, 3) := by decide +kernel
theorem dX10_reason_35 : decode cX10_reason 35 = .ok (.ifCond .ne 13, 3) := by decide +kernel
theorem dX10_reason_38 : decode cX10_reason 38 = .ok (.new 82, 3) := by decide +kernel
theorem dX10_reason_41 : decode cX10_reason 41 = .ok (.dup, 1) := by decide +kernel
theorem dX10_reason_42 : decode cX10_reason 42 = .ok (.ldc 253, 2) := by decide +kernel
theorem dX10_reason_44 : decode cX10_reason 44 = .ok (.invokespecial 86, 3) := by decide +kernel
theorem dX10_reason_47 : decode cX10_reason 47 = .ok (.athrow, 1) := by decide +kernel
theorem dX10_reason_48 : decode cX10_reason 48 = .ok (.aload_n 0, 1) := by decide +kernel
theorem dX10_reason_49 : decode cX10_reason 49 = .ok (.getfield 12, 3) := by decide +kernel
theorem dX10_reason_52 : decode cX10_reason 52 = .ok (.getfield 105, 3) := by decide +kernel
theorem dX10_reason_55 : decode cX10_reason 55 = .ok (.iconst 0, 1) := by decide +kernel
theorem dX10_reason_56 : decode cX10_reason 56 = .ok (.iaload, 1) := by decide +kernel
theorem dX10_reason_57 : decode cX10_reason 57 = .ok (.aload_n 0, 1) := by decide +kernel
theorem dX10_reason_58 : decode cX10_reason 58 = .ok (.getfield 54, 3) := by decide +kernel
theorem dX10_reason_61 : decode cX10_reason 61 = .ok (.getfield 293, 3) := by decide +kernel
theorem dX10_reason_64 : decode cX10_reason 64 = .ok (.iload_n 1, 1) := by decide +kernel
theorem dX10_reason_65 : decode cX10_reason 65 = .ok (.iaload, 1) := by decide +kernel
theorem dX10_reason_66 : decode cX10_reason 66 = .ok (.imul, 1) := by decide +kernel
theorem dX10_reason_67 : decode cX10_reason 67 = .ok (.invokestatic 296, 3) := by decide +kernel
theorem dX10_reason_70 : decode cX10_reason 70 = .ok (.istore_n 2, 1) := by decide +kernel
theorem dX10_reason_71 : decode cX10_reason 71 = .ok (.aload_n 0, 1) := by decide +kernel
theorem dX10_reason_72 : decode cX10_reason 72 = .ok (.getfield 12, 3) := by decide +kernel
theorem dX10_reason_75 : decode cX10_reason 75 = .ok (.getfield 105, 3) := by decide +kernel
theorem dX10_reason_78 : decode cX10_reason 78 = .ok (.iconst 1, 1) := by decide +kernel
theorem dX10_reason_79 : decode cX10_reason 79 = .ok (.iaload, 1) := by decide +kernel
theorem dX10_reason_80 : decode cX10_reason 80 = .ok (.aload_n 0, 1) := by decide +kernel
theorem dX10_reason_81 : decode cX10_reason 81 = .ok (.getfield 54, 3) := by decide +kernel
theorem dX10_reason_84 : decode cX10_reason 84 = .ok (.getfield 301, 3) := by decide +kernel
theorem dX10_reason_87 : decode cX10_reason 87 = .ok (.iload_n 1, 1) := by decide +kernel
theorem dX10_reason_88 : decode cX10_reason 88 = .ok (.iaload, 1) := by decide +kernel
theorem dX10_reason_89 : decode cX10_reason 89 = .ok (.imul, 1) := by decide +kernel
theorem dX10_reason_90 : decode cX10_reason 90 = .ok (.invokestatic 296, 3) := by decide +kernel
theorem dX10_reason_93 : decode cX10_reason 93 = .ok (.istore_n 3, 1) := by decide +kernel
theorem dX10_reason_94 : decode cX10_reason 94 = .ok (.aload_n 0, 1) := by decide +kernel
theorem dX10_reason_95 : decode cX10_reason 95 = .ok (.getfield 12, 3) := by decide +kernel
theorem dX10_reason_98 : decode cX10_reason 98 = .ok (.getfield 105, 3) := by decide +kernel
theorem dX10_reason_101 : decode cX10_reason 101 = .ok (.iconst 2, 1) := by decide +kernel
theorem dX10_reason_102 : decode cX10_reason 102 = .ok (.iaload, 1) := by decide +kernel
theorem dX10_reason_103 : decode cX10_reason 103 = .ok (.aload_n 0, 1) := by decide +kernel
theorem dX10_reason_104 : decode cX10_reason 104 = .ok (.getfield 54, 3) := by decide +kernel
theorem dX10_reason_107 : decode cX10_reason 107 = .ok (.iload_n 1, 1) := by decide +kernel
theorem dX10_reason_108 : decode cX10_reason 108 = .ok (.invokevirtual 304, 3) := by decide +kernel
theorem dX10_reason_111 : decode cX10_reason 111 = .ok (.imul, 1) := by decide +kernel
theorem dX10_reason_112 : decode cX10_reason 112 = .ok (.invokestatic 296, 3) := by decide +kernel
theorem dX10_reason_115 : decode cX10_reason 115 = .ok (.istore 4, 2) := by decide +kernel
theorem dX10_reason_117 : decode cX10_reason 117 = .ok (.iload_n 2, 1) := by decide +kernel
theorem dX10_reason_118 : decode cX10_reason 118 = .ok (.ifCond .ne 14, 3) := by decide +kernel
theorem dX10_reason_121 : decode cX10_reason 121 = .ok (.iload_n 3, 1) := by decide +kernel
theorem dX10_reason_122 : decode cX10_reason 122 = .ok (.ifCond .ne 10, 3) := by decide +kernel
theorem dX10_reason_125 : decode cX10_reason 125 = .ok (.iload 4, 2) := by decide +kernel
theorem dX10_reason_127 : decode cX10_reason 127 = .ok (.ifCond .ne 5, 3) := by decide +kernel
theorem dX10_reason_130 : decode cX10_reason 130 = .ok (.iconst (-1), 1) := by decide +kernel
theorem dX10_reason_131 : decode cX10_reason 131 = .ok (.ireturn, 1) := by decide +kernel
theorem dX10_reason_132 : decode cX10_reason 132 = .ok (.iload_n 2, 1) := by decide +kernel
theorem dX10_reason_133 : decode cX10_reason 133 = .ok (.iload_n 3, 1) := by decide +kernel
theorem dX10_reason_134 : decode cX10_reason 134 = .ok (.if_icmp .lt 11, 3) := by decide +kernel
theorem dX10_reason_137 : decode cX10_reason 137 = .ok (.iload_n 2, 1) := by decide +kernel
theorem dX10_reason_138 : decode cX10_reason 138 = .ok (.iload 4, 2) := by decide +kernel
theorem dX10_reason_140 : decode cX10_reason 140 = .ok (.if_icmp .lt 5, 3) := by decide +kernel
theorem dX10_reason_143 : decode cX10_reason 143 = .ok (.iconst 0, 1) := by decide +kernel
theorem dX10_reason_144 : decode cX10_reason 144 = .ok (.ireturn, 1) := by decide +kernel
theorem dX10_reason_145 : decode cX10_reason 145 = .ok (.iload_n 3, 1) := by decide +kernel
theorem dX10_reason_146 : decode cX10_reason 146 = .ok (.iload 4, 2) := by decide +kernel
theorem dX10_reason_148 : decode cX10_reason 148 = .ok (.if_icmp .lt 7, 3) := by decide +kernel
theorem dX10_reason_151 : decode cX10_reason 151 = .ok (.iconst 1, 1) := by decide +kernel
theorem dX10_reason_152 : decode cX10_reason 152 = .ok (.goto 4, 3) := by decide +kernel
theorem dX10_reason_155 : decode cX10_reason 155 = .ok (.iconst 2, 1) := by decide +kernel
theorem dX10_reason_156 : decode cX10_reason 156 = .ok (.ireturn, 1) := by decide +kernel
theorem dX10_meanSquareBits_0 : decode cX10_meanSquareBits 0 = .ok (.aload_n 0, 1) := by decide +kernel
theorem dX10_meanSquareBits_1 : decode cX10_meanSquareBits 1 = .ok (.getfield 54, 3) := by decide +kernel
theorem dX10_meanSquareBits_4 : decode cX10_meanSquareBits 4 = .ok (.invokevirtual 271, 3) := by decide +kernel
theorem dX10_meanSquareBits_7 : decode cX10_meanSquareBits 7 = .ok (.ifCond .ne 14, 3) := by decide +kernel
theorem dX10_meanSquareBits_10 : decode cX10_meanSquareBits 10 = .ok (.new 120, 3) := by decide +kernel
theorem dX10_meanSquareBits_13 : decode cX10_meanSquareBits 13 = .ok (.dup, 1) := by decide +kernel
theorem dX10_meanSquareBits_14 : decode cX10_meanSquareBits 14 = .ok (.ldc_w 274, 3) := by decide +kernel
theorem dX10_meanSquareBits_17 : decode cX10_meanSquareBits 17 = .ok (.invokespecial 124, 3) := by decide +kernel
theorem dX10_meanSquareBits_20 : decode cX10_meanSquareBits 20 = .ok (.athrow, 1) := by decide +kernel
theorem dX10_meanSquareBits_21 : decode cX10_meanSquareBits 21 = .ok (.aload_n 0, 1) := by decide +kernel
theorem dX10_meanSquareBits_22 : decode cX10_meanSquareBits 22 = .ok (.getfield 54, 3) := by decide +kernel
theorem dX10_meanSquareBits_25 : decode cX10_meanSquareBits 25 = .ok (.invokevirtual 307, 3) := by decide +kernel
theorem dX10_meanSquareBits_28 : decode cX10_meanSquareBits 28 = .ok (.invokestatic 311, 3) := by decide +kernel
theorem dX10_meanSquareBits_31 : decode cX10_meanSquareBits 31 = .ok (.lreturn, 1) := by decide +kernel
theorem dX10_saturatedBits_0 : decode cX10_saturatedBits 0 = .ok (.aload_n 0, 1) := by decide +kernel
theorem dX10_saturatedBits_1 : decode cX10_saturatedBits 1 = .ok (.getfield 54, 3) := by decide +kernel
theorem dX10_saturatedBits_4 : decode cX10_saturatedBits 4 = .ok (.invokevirtual 271, 3) := by decide +kernel
theorem dX10_saturatedBits_7 : decode cX10_saturatedBits 7 = .ok (.ifCond .ne 14, 3) := by decide +kernel
theorem dX10_saturatedBits_10 : decode cX10_saturatedBits 10 = .ok (.new 120, 3) := by decide +kernel
theorem dX10_saturatedBits_13 : decode cX10_saturatedBits 13 = .ok (.dup, 1) := by decide +kernel
theorem dX10_saturatedBits_14 : decode cX10_saturatedBits 14 = .ok (.ldc_w 274, 3) := by decide +kernel
theorem dX10_saturatedBits_17 : decode cX10_saturatedBits 17 = .ok (.invokespecial 124, 3) := by decide +kernel
theorem dX10_saturatedBits_20 : decode cX10_saturatedBits 20 = .ok (.athrow, 1) := by decide +kernel
theorem dX10_saturatedBits_21 : decode cX10_saturatedBits 21 = .ok (.aload_n 0, 1) := by decide +kernel
theorem dX10_saturatedBits_22 : decode cX10_saturatedBits 22 = .ok (.getfield 54, 3) := by decide +kernel
theorem dX10_saturatedBits_25 : decode cX10_saturatedBits 25 = .ok (.invokevirtual 315, 3) := by decide +kernel
theorem dX10_saturatedBits_28 : decode cX10_saturatedBits 28 = .ok (.invokestatic 319, 3) := by decide +kernel
theorem dX10_saturatedBits_31 : decode cX10_saturatedBits 31 = .ok (.ireturn, 1) := by decide +kernel
theorem dX10_hold_0 : decode cX10_hold 0 = .ok (.aload_n 0, 1) := by decide +kernel
theorem dX10_hold_1 : decode cX10_hold 1 = .ok (.getfield 54, 3) := by decide +kernel
theorem dX10_hold_4 : decode cX10_hold 4 = .ok (.invokevirtual 271, 3) := by decide +kernel
theorem dX10_hold_7 : decode cX10_hold 7 = .ok (.ifCond .ne 14, 3) := by decide +kernel
theorem dX10_hold_10 : decode cX10_hold 10 = .ok (.new 120, 3) := by decide +kernel
theorem dX10_hold_13 : decode cX10_hold 13 = .ok (.dup, 1) := by decide +kernel
theorem dX10_hold_14 : decode cX10_hold 14 = .ok (.ldc_w 274, 3) := by decide +kernel
theorem dX10_hold_17 : decode cX10_hold 17 = .ok (.invokespecial 124, 3) := by decide +kernel
theorem dX10_hold_20 : decode cX10_hold 20 = .ok (.athrow, 1) := by decide +kernel
theorem dX10_hold_21 : decode cX10_hold 21 = .ok (.aload_n 0, 1) := by decide +kernel
theorem dX10_hold_22 : decode cX10_hold 22 = .ok (.getfield 58, 3) := by decide +kernel
theorem dX10_hold_25 : decode cX10_hold 25 = .ok (.aload_n 0, 1) := by decide +kernel
theorem dX10_hold_26 : decode cX10_hold 26 = .ok (.getfield 54, 3) := by decide +kernel
theorem dX10_hold_29 : decode cX10_hold 29 = .ok (.invokevirtual 323, 3) := by decide +kernel
theorem dX10_hold_32 : decode cX10_hold 32 = .ok (.aload_n 0, 1) := by decide +kernel
theorem dX10_hold_33 : decode cX10_hold 33 = .ok (.getfield 58, 3) := by decide +kernel
theorem dX10_hold_36 : decode cX10_hold 36 = .ok (.getfield 276, 3) := by decide +kernel
theorem dX10_hold_39 : decode cX10_hold 39 = .ok (.ireturn, 1) := by decide +kernel
theorem dX10_compare_0 : decode cX10_compare 0 = .ok (.aload_n 0, 1) := by decide +kernel
theorem dX10_compare_1 : decode cX10_compare 1 = .ok (.getfield 54, 3) := by decide +kernel
theorem dX10_compare_4 : decode cX10_compare 4 = .ok (.invokevirtual 271, 3) := by decide +kernel
theorem dX10_compare_7 : decode cX10_compare 7 = .ok (.ifCond .eq 13, 3) := by decide +kernel
theorem dX10_compare_10 : decode cX10_compare 10 = .ok (.aload_n 0, 1) := by decide +kernel
theorem dX10_compare_11 : decode cX10_compare 11 = .ok (.getfield 58, 3) := by decide +kernel
theorem dX10_compare_14 : decode cX10_compare 14 = .ok (.invokevirtual 271, 3) := by decide +kernel
theorem dX10_compare_17 : decode cX10_compare 17 = .ok (.ifCond .ne 14, 3) := by decide +kernel
theorem dX10_compare_20 : decode cX10_compare 20 = .ok (.new 120, 3) := by decide +kernel
theorem dX10_compare_23 : decode cX10_compare 23 = .ok (.dup, 1) := by decide +kernel
theorem dX10_compare_24 : decode cX10_compare 24 = .ok (.ldc_w 326, 3) := by decide +kernel
theorem dX10_compare_27 : decode cX10_compare 27 = .ok (.invokespecial 124, 3) := by decide +kernel
theorem dX10_compare_30 : decode cX10_compare 30 = .ok (.athrow, 1) := by decide +kernel
theorem dX10_compare_31 : decode cX10_compare 31 = .ok (.iload_n 1, 1) := by decide +kernel
theorem dX10_compare_32 : decode cX10_compare 32 = .ok (.iconst 0, 1) := by decide +kernel
theorem dX10_compare_33 : decode cX10_compare 33 = .ok (.iconst 2, 1) := by decide +kernel
theorem dX10_compare_34 : decode cX10_compare 34 = .ok (.invokestatic 78, 3) := by decide +kernel
theorem dX10_compare_37 : decode cX10_compare 37 = .ok (.ifCond .ne 14, 3) := by decide +kernel
theorem dX10_compare_40 : decode cX10_compare 40 = .ok (.new 96, 3) := by decide +kernel
theorem dX10_compare_43 : decode cX10_compare 43 = .ok (.dup, 1) := by decide +kernel
theorem dX10_compare_44 : decode cX10_compare 44 = .ok (.ldc_w 328, 3) := by decide +kernel
theorem dX10_compare_47 : decode cX10_compare 47 = .ok (.invokespecial 100, 3) := by decide +kernel
theorem dX10_compare_50 : decode cX10_compare 50 = .ok (.athrow, 1) := by decide +kernel
theorem dX10_compare_51 : decode cX10_compare 51 = .ok (.iload_n 1, 1) := by decide +kernel
theorem dX10_compare_52 : decode cX10_compare 52 = .ok (.ifCond .ne 15, 3) := by decide +kernel
theorem dX10_compare_55 : decode cX10_compare 55 = .ok (.aload_n 0, 1) := by decide +kernel
theorem dX10_compare_56 : decode cX10_compare 56 = .ok (.getfield 54, 3) := by decide +kernel
theorem dX10_compare_59 : decode cX10_compare 59 = .ok (.aload_n 0, 1) := by decide +kernel
theorem dX10_compare_60 : decode cX10_compare 60 = .ok (.getfield 58, 3) := by decide +kernel
theorem dX10_compare_63 : decode cX10_compare 63 = .ok (.invokevirtual 330, 3) := by decide +kernel
theorem dX10_compare_66 : decode cX10_compare 66 = .ok (.ireturn, 1) := by decide +kernel
theorem dX10_compare_67 : decode cX10_compare 67 = .ok (.iload_n 1, 1) := by decide +kernel
theorem dX10_compare_68 : decode cX10_compare 68 = .ok (.iconst 1, 1) := by decide +kernel
theorem dX10_compare_69 : decode cX10_compare 69 = .ok (.if_icmp .ne 17, 3) := by decide +kernel
theorem dX10_compare_72 : decode cX10_compare 72 = .ok (.aload_n 0, 1) := by decide +kernel
theorem dX10_compare_73 : decode cX10_compare 73 = .ok (.getfield 54, 3) := by decide +kernel
theorem dX10_compare_76 : decode cX10_compare 76 = .ok (.aload_n 0, 1) := by decide +kernel
theorem dX10_compare_77 : decode cX10_compare 77 = .ok (.getfield 58, 3) := by decide +kernel
theorem dX10_compare_80 : decode cX10_compare 80 = .ok (.invokevirtual 334, 3) := by decide +kernel
theorem dX10_compare_83 : decode cX10_compare 83 = .ok (.goto 14, 3) := by decide +kernel
theorem dX10_compare_86 : decode cX10_compare 86 = .ok (.aload_n 0, 1) := by decide +kernel
theorem dX10_compare_87 : decode cX10_compare 87 = .ok (.getfield 54, 3) := by decide +kernel
theorem dX10_compare_90 : decode cX10_compare 90 = .ok (.aload_n 0, 1) := by decide +kernel
theorem dX10_compare_91 : decode cX10_compare 91 = .ok (.getfield 58, 3) := by decide +kernel
theorem dX10_compare_94 : decode cX10_compare 94 = .ok (.invokevirtual 337, 3) := by decide +kernel
theorem dX10_compare_97 : decode cX10_compare 97 = .ok (.ireturn, 1) := by decide +kernel
theorem dX10_search_0 : decode cX10_search 0 = .ok (.aload_n 0, 1) := by decide +kernel
theorem dX10_search_1 : decode cX10_search 1 = .ok (.getfield 64, 3) := by decide +kernel
theorem dX10_search_4 : decode cX10_search 4 = .ok (.aload_n 0, 1) := by decide +kernel
theorem dX10_search_5 : decode cX10_search 5 = .ok (.getfield 12, 3) := by decide +kernel
theorem dX10_search_8 : decode cX10_search 8 = .ok (.invokevirtual 340, 3) := by decide +kernel
theorem dX10_search_11 : decode cX10_search 11 = .ok (.aload_n 0, 1) := by decide +kernel
theorem dX10_search_12 : decode cX10_search 12 = .ok (.getfield 64, 3) := by decide +kernel
theorem dX10_search_15 : decode cX10_search 15 = .ok (.aload_n 0, 1) := by decide +kernel
theorem dX10_search_16 : decode cX10_search 16 = .ok (.getfield 12, 3) := by decide +kernel
theorem dX10_search_19 : decode cX10_search 19 = .ok (.getfield 177, 3) := by decide +kernel
theorem dX10_search_22 : decode cX10_search 22 = .ok (.aload_n 0, 1) := by decide +kernel
theorem dX10_search_23 : decode cX10_search 23 = .ok (.getfield 71, 3) := by decide +kernel
theorem dX10_search_26 : decode cX10_search 26 = .ok (.invokevirtual 343, 3) := by decide +kernel
theorem dX10_search_29 : decode cX10_search 29 = .ok (.aload_n 0, 1) := by decide +kernel
theorem dX10_search_30 : decode cX10_search 30 = .ok (.getfield 12, 3) := by decide +kernel
theorem dX10_search_33 : decode cX10_search 33 = .ok (.getfield 177, 3) := by decide +kernel
theorem dX10_search_36 : decode cX10_search 36 = .ok (.invokevirtual 192, 3) := by decide +kernel
theorem dX10_search_39 : decode cX10_search 39 = .ok (.ireturn, 1) := by decide +kernel
theorem dX10_climb_0 : decode cX10_climb 0 = .ok (.aload_n 0, 1) := by decide +kernel
theorem dX10_climb_1 : decode cX10_climb 1 = .ok (.getfield 64, 3) := by decide +kernel
theorem dX10_climb_4 : decode cX10_climb 4 = .ok (.aload_n 0, 1) := by decide +kernel
theorem dX10_climb_5 : decode cX10_climb 5 = .ok (.getfield 12, 3) := by decide +kernel
theorem dX10_climb_8 : decode cX10_climb 8 = .ok (.invokevirtual 340, 3) := by decide +kernel
theorem dX10_climb_11 : decode cX10_climb 11 = .ok (.aload_n 0, 1) := by decide +kernel
theorem dX10_climb_12 : decode cX10_climb 12 = .ok (.getfield 64, 3) := by decide +kernel
theorem dX10_climb_15 : decode cX10_climb 15 = .ok (.aload_n 0, 1) := by decide +kernel
theorem dX10_climb_16 : decode cX10_climb 16 = .ok (.getfield 12, 3) := by decide +kernel
theorem dX10_climb_19 : decode cX10_climb 19 = .ok (.getfield 177, 3) := by decide +kernel
theorem dX10_climb_22 : decode cX10_climb 22 = .ok (.aload_n 0, 1) := by decide +kernel
theorem dX10_climb_23 : decode cX10_climb 23 = .ok (.getfield 75, 3) := by decide +kernel
theorem dX10_climb_26 : decode cX10_climb 26 = .ok (.invokevirtual 347, 3) := by decide +kernel
theorem dX10_climb_29 : decode cX10_climb 29 = .ok (.ireturn, 1) := by decide +kernel
theorem dX10_found_0 : decode cX10_found 0 = .ok (.aload_n 0, 1) := by decide +kernel
theorem dX10_found_1 : decode cX10_found 1 = .ok (.iload_n 1, 1) := by decide +kernel
theorem dX10_found_2 : decode cX10_found 2 = .ok (.invokevirtual 351, 3) := by decide +kernel
theorem dX10_found_5 : decode cX10_found 5 = .ok (.astore_n 3, 1) := by decide +kernel
theorem dX10_found_6 : decode cX10_found 6 = .ok (.aload_n 3, 1) := by decide +kernel
theorem dX10_found_7 : decode cX10_found 7 = .ok (.getfield 355, 3) := by decide +kernel
theorem dX10_found_10 : decode cX10_found 10 = .ok (.ifCond .ne 14, 3) := by decide +kernel
theorem dX10_found_13 : decode cX10_found 13 = .ok (.new 120, 3) := by decide +kernel
theorem dX10_found_16 : decode cX10_found 16 = .ok (.dup, 1) := by decide +kernel
theorem dX10_found_17 : decode cX10_found 17 = .ok (.ldc_w 357, 3) := by decide +kernel
theorem dX10_found_20 : decode cX10_found 20 = .ok (.invokespecial 124, 3) := by decide +kernel
theorem dX10_found_23 : decode cX10_found 23 = .ok (.athrow, 1) := by decide +kernel
theorem dX10_found_24 : decode cX10_found 24 = .ok (.iload_n 2, 1) := by decide +kernel
theorem dX10_found_25 : decode cX10_found 25 = .ok (.iconst 0, 1) := by decide +kernel
theorem dX10_found_26 : decode cX10_found 26 = .ok (.iconst 3, 1) := by decide +kernel
theorem dX10_found_27 : decode cX10_found 27 = .ok (.invokestatic 78, 3) := by decide +kernel
theorem dX10_found_30 : decode cX10_found 30 = .ok (.ifCond .ne 14, 3) := by decide +kernel
theorem dX10_found_33 : decode cX10_found 33 = .ok (.new 96, 3) := by decide +kernel
theorem dX10_found_36 : decode cX10_found 36 = .ok (.dup, 1) := by decide +kernel
theorem dX10_found_37 : decode cX10_found 37 = .ok (.ldc_w 359, 3) := by decide +kernel
theorem dX10_found_40 : decode cX10_found 40 = .ok (.invokespecial 100, 3) := by decide +kernel
theorem dX10_found_43 : decode cX10_found 43 = .ok (.athrow, 1) := by decide +kernel
theorem dX10_found_44 : decode cX10_found 44 = .ok (.iload_n 2, 1) := by decide +kernel
theorem dX10_found_45 : decode cX10_found 45 = .ok (.iconst 3, 1) := by decide +kernel
theorem dX10_found_46 : decode cX10_found 46 = .ok (.if_icmp .ge 12, 3) := by decide +kernel
theorem dX10_found_49 : decode cX10_found 49 = .ok (.aload_n 3, 1) := by decide +kernel
theorem dX10_found_50 : decode cX10_found 50 = .ok (.getfield 361, 3) := by decide +kernel
theorem dX10_found_53 : decode cX10_found 53 = .ok (.iload_n 2, 1) := by decide +kernel
theorem dX10_found_54 : decode cX10_found 54 = .ok (.iaload, 1) := by decide +kernel
theorem dX10_found_55 : decode cX10_found 55 = .ok (.goto 7, 3) := by decide +kernel
theorem dX10_found_58 : decode cX10_found 58 = .ok (.aload_n 3, 1) := by decide +kernel
theorem dX10_found_59 : decode cX10_found 59 = .ok (.getfield 364, 3) := by decide +kernel
theorem dX10_found_62 : decode cX10_found 62 = .ok (.ireturn, 1) := by decide +kernel
theorem dX10_foundCost_0 : decode cX10_foundCost 0 = .ok (.aload_n 0, 1) := by decide +kernel
theorem dX10_foundCost_1 : decode cX10_foundCost 1 = .ok (.iload_n 1, 1) := by decide +kernel
theorem dX10_foundCost_2 : decode cX10_foundCost 2 = .ok (.invokevirtual 351, 3) := by decide +kernel
theorem dX10_foundCost_5 : decode cX10_foundCost 5 = .ok (.astore_n 2, 1) := by decide +kernel
theorem dX10_foundCost_6 : decode cX10_foundCost 6 = .ok (.aload_n 2, 1) := by decide +kernel
theorem dX10_foundCost_7 : decode cX10_foundCost 7 = .ok (.getfield 355, 3) := by decide +kernel
theorem dX10_foundCost_10 : decode cX10_foundCost 10 = .ok (.ifCond .ne 14, 3) := by decide +kernel
theorem dX10_foundCost_13 : decode cX10_foundCost 13 = .ok (.new 120, 3) := by decide +kernel
theorem dX10_foundCost_16 : decode cX10_foundCost 16 = .ok (.dup, 1) := by decide +kernel
theorem dX10_foundCost_17 : decode cX10_foundCost 17 = .ok (.ldc_w 357, 3) := by decide +kernel
theorem dX10_foundCost_20 : decode cX10_foundCost 20 = .ok (.invokespecial 124, 3) := by decide +kernel
theorem dX10_foundCost_23 : decode cX10_foundCost 23 = .ok (.athrow, 1) := by decide +kernel
theorem dX10_foundCost_24 : decode cX10_foundCost 24 = .ok (.aload_n 2, 1) := by decide +kernel
theorem dX10_foundCost_25 : decode cX10_foundCost 25 = .ok (.getfield 367, 3) := by decide +kernel
theorem dX10_foundCost_28 : decode cX10_foundCost 28 = .ok (.lreturn, 1) := by decide +kernel
theorem dX10_apply_0 : decode cX10_apply 0 = .ok (.aload_n 0, 1) := by decide +kernel
theorem dX10_apply_1 : decode cX10_apply 1 = .ok (.iload_n 1, 1) := by decide +kernel
theorem dX10_apply_2 : decode cX10_apply 2 = .ok (.invokevirtual 351, 3) := by decide +kernel
theorem dX10_apply_5 : decode cX10_apply 5 = .ok (.astore_n 2, 1) := by decide +kernel
theorem dX10_apply_6 : decode cX10_apply 6 = .ok (.aload_n 2, 1) := by decide +kernel
theorem dX10_apply_7 : decode cX10_apply 7 = .ok (.getfield 355, 3) := by decide +kernel
theorem dX10_apply_10 : decode cX10_apply 10 = .ok (.ifCond .ne 14, 3) := by decide +kernel
theorem dX10_apply_13 : decode cX10_apply 13 = .ok (.new 120, 3) := by decide +kernel
theorem dX10_apply_16 : decode cX10_apply 16 = .ok (.dup, 1) := by decide +kernel
theorem dX10_apply_17 : decode cX10_apply 17 = .ok (.ldc_w 357, 3) := by decide +kernel
theorem dX10_apply_20 : decode cX10_apply 20 = .ok (.invokespecial 124, 3) := by decide +kernel
theorem dX10_apply_23 : decode cX10_apply 23 = .ok (.athrow, 1) := by decide +kernel
theorem dX10_apply_24 : decode cX10_apply 24 = .ok (.aload_n 0, 1) := by decide +kernel
theorem dX10_apply_25 : decode cX10_apply 25 = .ok (.getfield 26, 3) := by decide +kernel
theorem dX10_apply_28 : decode cX10_apply 28 = .ok (.aload_n 0, 1) := by decide +kernel
theorem dX10_apply_29 : decode cX10_apply 29 = .ok (.getfield 12, 3) := by decide +kernel
theorem dX10_apply_32 : decode cX10_apply 32 = .ok (.invokevirtual 101, 3) := by decide +kernel
theorem dX10_apply_35 : decode cX10_apply 35 = .ok (.iconst 0, 1) := by decide +kernel
theorem dX10_apply_36 : decode cX10_apply 36 = .ok (.istore_n 3, 1) := by decide +kernel
theorem dX10_apply_37 : decode cX10_apply 37 = .ok (.iconst 0, 1) := by decide +kernel
theorem dX10_apply_38 : decode cX10_apply 38 = .ok (.istore 4, 2) := by decide +kernel
theorem dX10_apply_40 : decode cX10_apply 40 = .ok (.iload 4, 2) := by decide +kernel
theorem dX10_apply_42 : decode cX10_apply 42 = .ok (.iconst 3, 1) := by decide +kernel
theorem dX10_apply_43 : decode cX10_apply 43 = .ok (.if_icmp .ge 49, 3) := by decide +kernel
theorem dX10_apply_46 : decode cX10_apply 46 = .ok (.aload_n 0, 1) := by decide +kernel
theorem dX10_apply_47 : decode cX10_apply 47 = .ok (.getfield 12, 3) := by decide +kernel
theorem dX10_apply_50 : decode cX10_apply 50 = .ok (.getfield 105, 3) := by decide +kernel
theorem dX10_apply_53 : decode cX10_apply 53 = .ok (.iload 4, 2) := by decide +kernel
theorem dX10_apply_55 : decode cX10_apply 55 = .ok (.iaload, 1) := by decide +kernel
theorem dX10_apply_56 : decode cX10_apply 56 = .ok (.aload_n 2, 1) := by decide +kernel
theorem dX10_apply_57 : decode cX10_apply 57 = .ok (.getfield 361, 3) := by decide +kernel
theorem dX10_apply_60 : decode cX10_apply 60 = .ok (.iload 4, 2) := by decide +kernel
theorem dX10_apply_62 : decode cX10_apply 62 = .ok (.iaload, 1) := by decide +kernel
theorem dX10_apply_63 : decode cX10_apply 63 = .ok (.if_icmp .eq 6, 3) := by decide +kernel
theorem dX10_apply_66 : decode cX10_apply 66 = .ok (.iinc 3 1, 3) := by decide +kernel
theorem dX10_apply_69 : decode cX10_apply 69 = .ok (.aload_n 0, 1) := by decide +kernel
theorem dX10_apply_70 : decode cX10_apply 70 = .ok (.getfield 12, 3) := by decide +kernel
theorem dX10_apply_73 : decode cX10_apply 73 = .ok (.getfield 105, 3) := by decide +kernel
theorem dX10_apply_76 : decode cX10_apply 76 = .ok (.iload 4, 2) := by decide +kernel
theorem dX10_apply_78 : decode cX10_apply 78 = .ok (.aload_n 2, 1) := by decide +kernel
theorem dX10_apply_79 : decode cX10_apply 79 = .ok (.getfield 361, 3) := by decide +kernel
theorem dX10_apply_82 : decode cX10_apply 82 = .ok (.iload 4, 2) := by decide +kernel
theorem dX10_apply_84 : decode cX10_apply 84 = .ok (.iaload, 1) := by decide +kernel
theorem dX10_apply_85 : decode cX10_apply 85 = .ok (.iastore, 1) := by decide +kernel
theorem dX10_apply_86 : decode cX10_apply 86 = .ok (.iinc 4 1, 3) := by decide +kernel
theorem dX10_apply_89 : decode cX10_apply 89 = .ok (.goto (-49), 3) := by decide +kernel
theorem dX10_apply_92 : decode cX10_apply 92 = .ok (.iload_n 3, 1) := by decide +kernel
theorem dX10_apply_93 : decode cX10_apply 93 = .ok (.ireturn, 1) := by decide +kernel
theorem dX10_lowest_0 : decode cX10_lowest 0 = .ok (.iload_n 1, 1) := by decide +kernel
theorem dX10_lowest_1 : decode cX10_lowest 1 = .ok (.iconst 0, 1) := by decide +kernel
theorem dX10_lowest_2 : decode cX10_lowest 2 = .ok (.iconst 3, 1) := by decide +kernel
theorem dX10_lowest_3 : decode cX10_lowest 3 = .ok (.invokestatic 78, 3) := by decide +kernel
theorem dX10_lowest_6 : decode cX10_lowest 6 = .ok (.ifCond .ne 14, 3) := by decide +kernel
theorem dX10_lowest_9 : decode cX10_lowest 9 = .ok (.new 82, 3) := by decide +kernel
theorem dX10_lowest_12 : decode cX10_lowest 12 = .ok (.dup, 1) := by decide +kernel
theorem dX10_lowest_13 : decode cX10_lowest 13 = .ok (.ldc_w 371, 3) := by decide +kernel
theorem dX10_lowest_16 : decode cX10_lowest 16 = .ok (.invokespecial 86, 3) := by decide +kernel
theorem dX10_lowest_19 : decode cX10_lowest 19 = .ok (.athrow, 1) := by decide +kernel
theorem dX10_lowest_20 : decode cX10_lowest 20 = .ok (.aload_n 0, 1) := by decide +kernel
theorem dX10_lowest_21 : decode cX10_lowest 21 = .ok (.getfield 64, 3) := by decide +kernel
theorem dX10_lowest_24 : decode cX10_lowest 24 = .ok (.aload_n 0, 1) := by decide +kernel
theorem dX10_lowest_25 : decode cX10_lowest 25 = .ok (.getfield 12, 3) := by decide +kernel
theorem dX10_lowest_28 : decode cX10_lowest 28 = .ok (.iload_n 1, 1) := by decide +kernel
theorem dX10_lowest_29 : decode cX10_lowest 29 = .ok (.lload_n 2, 1) := by decide +kernel
theorem dX10_lowest_30 : decode cX10_lowest 30 = .ok (.invokevirtual 373, 3) := by decide +kernel
theorem dX10_lowest_33 : decode cX10_lowest 33 = .ok (.istore 4, 2) := by decide +kernel
theorem dX10_lowest_35 : decode cX10_lowest 35 = .ok (.iload 4, 2) := by decide +kernel
theorem dX10_lowest_37 : decode cX10_lowest 37 = .ok (.ifCond .ge 14, 3) := by decide +kernel
theorem dX10_lowest_40 : decode cX10_lowest 40 = .ok (.new 140, 3) := by decide +kernel
theorem dX10_lowest_43 : decode cX10_lowest 43 = .ok (.dup, 1) := by decide +kernel
theorem dX10_lowest_44 : decode cX10_lowest 44 = .ok (.ldc_w 377, 3) := by decide +kernel
theorem dX10_lowest_47 : decode cX10_lowest 47 = .ok (.invokespecial 144, 3) := by decide +kernel
theorem dX10_lowest_50 : decode cX10_lowest 50 = .ok (.athrow, 1) := by decide +kernel
theorem dX10_lowest_51 : decode cX10_lowest 51 = .ok (.iload 4, 2) := by decide +kernel
theorem dX10_lowest_53 : decode cX10_lowest 53 = .ok (.ireturn, 1) := by decide +kernel
theorem dX10_count_0 : decode cX10_count 0 = .ok (.iload_n 1, 1) := by decide +kernel
theorem dX10_count_1 : decode cX10_count 1 = .ok (.tableswitch 126 0 7 #[47, 58, 69, 80, 91, 102, 110, 118], 47) := by decide +kernel
theorem dX10_count_48 : decode cX10_count 48 = .ok (.aload_n 0, 1) := by decide +kernel
theorem dX10_count_49 : decode cX10_count 49 = .ok (.getfield 12, 3) := by decide +kernel
theorem dX10_count_52 : decode cX10_count 52 = .ok (.getfield 218, 3) := by decide +kernel
theorem dX10_count_55 : decode cX10_count 55 = .ok (.getfield 229, 3) := by decide +kernel
theorem dX10_count_58 : decode cX10_count 58 = .ok (.ireturn, 1) := by decide +kernel
theorem dX10_count_59 : decode cX10_count 59 = .ok (.aload_n 0, 1) := by decide +kernel
theorem dX10_count_60 : decode cX10_count 60 = .ok (.getfield 12, 3) := by decide +kernel
theorem dX10_count_63 : decode cX10_count 63 = .ok (.getfield 218, 3) := by decide +kernel
theorem dX10_count_66 : decode cX10_count 66 = .ok (.getfield 232, 3) := by decide +kernel
theorem dX10_count_69 : decode cX10_count 69 = .ok (.ireturn, 1) := by decide +kernel
theorem dX10_count_70 : decode cX10_count 70 = .ok (.aload_n 0, 1) := by decide +kernel
theorem dX10_count_71 : decode cX10_count 71 = .ok (.getfield 12, 3) := by decide +kernel
theorem dX10_count_74 : decode cX10_count 74 = .ok (.getfield 110, 3) := by decide +kernel
theorem dX10_count_77 : decode cX10_count 77 = .ok (.getfield 129, 3) := by decide +kernel
theorem dX10_count_80 : decode cX10_count 80 = .ok (.ireturn, 1) := by decide +kernel
theorem dX10_count_81 : decode cX10_count 81 = .ok (.aload_n 0, 1) := by decide +kernel
theorem dX10_count_82 : decode cX10_count 82 = .ok (.getfield 12, 3) := by decide +kernel
theorem dX10_count_85 : decode cX10_count 85 = .ok (.getfield 177, 3) := by decide +kernel
theorem dX10_count_88 : decode cX10_count 88 = .ok (.invokevirtual 192, 3) := by decide +kernel
theorem dX10_count_91 : decode cX10_count 91 = .ok (.ireturn, 1) := by decide +kernel
theorem dX10_count_92 : decode cX10_count 92 = .ok (.aload_n 0, 1) := by decide +kernel
theorem dX10_count_93 : decode cX10_count 93 = .ok (.getfield 12, 3) := by decide +kernel
theorem dX10_count_96 : decode cX10_count 96 = .ok (.getfield 218, 3) := by decide +kernel
theorem dX10_count_99 : decode cX10_count 99 = .ok (.invokevirtual 379, 3) := by decide +kernel
theorem dX10_count_102 : decode cX10_count 102 = .ok (.ireturn, 1) := by decide +kernel
theorem dX10_count_103 : decode cX10_count 103 = .ok (.aload_n 0, 1) := by decide +kernel
theorem dX10_count_104 : decode cX10_count 104 = .ok (.getfield 33, 3) := by decide +kernel
theorem dX10_count_107 : decode cX10_count 107 = .ok (.getfield 209, 3) := by decide +kernel
theorem dX10_count_110 : decode cX10_count 110 = .ok (.ireturn, 1) := by decide +kernel
theorem dX10_count_111 : decode cX10_count 111 = .ok (.aload_n 0, 1) := by decide +kernel
theorem dX10_count_112 : decode cX10_count 112 = .ok (.getfield 26, 3) := by decide +kernel
theorem dX10_count_115 : decode cX10_count 115 = .ok (.getfield 382, 3) := by decide +kernel
theorem dX10_count_118 : decode cX10_count 118 = .ok (.ireturn, 1) := by decide +kernel
theorem dX10_count_119 : decode cX10_count 119 = .ok (.aload_n 0, 1) := by decide +kernel
theorem dX10_count_120 : decode cX10_count 120 = .ok (.getfield 54, 3) := by decide +kernel
theorem dX10_count_123 : decode cX10_count 123 = .ok (.getfield 276, 3) := by decide +kernel
theorem dX10_count_126 : decode cX10_count 126 = .ok (.ireturn, 1) := by decide +kernel
theorem dX10_count_127 : decode cX10_count 127 = .ok (.new 96, 3) := by decide +kernel
theorem dX10_count_130 : decode cX10_count 130 = .ok (.dup, 1) := by decide +kernel
theorem dX10_count_131 : decode cX10_count 131 = .ok (.ldc_w 383, 3) := by decide +kernel
theorem dX10_count_134 : decode cX10_count 134 = .ok (.invokespecial 100, 3) := by decide +kernel
theorem dX10_count_137 : decode cX10_count 137 = .ok (.athrow, 1) := by decide +kernel
theorem dX10_undo_0 : decode cX10_undo 0 = .ok (.aload_n 0, 1) := by decide +kernel
theorem dX10_undo_1 : decode cX10_undo 1 = .ok (.getfield 26, 3) := by decide +kernel
theorem dX10_undo_4 : decode cX10_undo 4 = .ok (.getfield 382, 3) := by decide +kernel
theorem dX10_undo_7 : decode cX10_undo 7 = .ok (.ifCond .ne 14, 3) := by decide +kernel
theorem dX10_undo_10 : decode cX10_undo 10 = .ok (.new 120, 3) := by decide +kernel
theorem dX10_undo_13 : decode cX10_undo 13 = .ok (.dup, 1) := by decide +kernel
theorem dX10_undo_14 : decode cX10_undo 14 = .ok (.ldc_w 385, 3) := by decide +kernel
theorem dX10_undo_17 : decode cX10_undo 17 = .ok (.invokespecial 124, 3) := by decide +kernel
theorem dX10_undo_20 : decode cX10_undo 20 = .ok (.athrow, 1) := by decide +kernel
theorem dX10_undo_21 : decode cX10_undo 21 = .ok (.aload_n 0, 1) := by decide +kernel
theorem dX10_undo_22 : decode cX10_undo 22 = .ok (.getfield 26, 3) := by decide +kernel
theorem dX10_undo_25 : decode cX10_undo 25 = .ok (.aload_n 0, 1) := by decide +kernel
theorem dX10_undo_26 : decode cX10_undo 26 = .ok (.getfield 12, 3) := by decide +kernel
theorem dX10_undo_29 : decode cX10_undo 29 = .ok (.invokevirtual 387, 3) := by decide +kernel
theorem dX10_undo_32 : decode cX10_undo 32 = .ok (.aload_n 0, 1) := by decide +kernel
theorem dX10_undo_33 : decode cX10_undo 33 = .ok (.getfield 26, 3) := by decide +kernel
theorem dX10_undo_36 : decode cX10_undo 36 = .ok (.getfield 382, 3) := by decide +kernel
theorem dX10_undo_39 : decode cX10_undo 39 = .ok (.ireturn, 1) := by decide +kernel
theorem dX10_save_0 : decode cX10_save 0 = .ok (.aload_n 0, 1) := by decide +kernel
theorem dX10_save_1 : decode cX10_save 1 = .ok (.getfield 16, 3) := by decide +kernel
theorem dX10_save_4 : decode cX10_save 4 = .ok (.aload_n 0, 1) := by decide +kernel
theorem dX10_save_5 : decode cX10_save 5 = .ok (.getfield 12, 3) := by decide +kernel
theorem dX10_save_8 : decode cX10_save 8 = .ok (.invokevirtual 390, 3) := by decide +kernel
theorem dX10_save_11 : decode cX10_save 11 = .ok (.aload_n 0, 1) := by decide +kernel
theorem dX10_save_12 : decode cX10_save 12 = .ok (.iconst 1, 1) := by decide +kernel
theorem dX10_save_13 : decode cX10_save 13 = .ok (.putfield 19, 3) := by decide +kernel
theorem dX10_save_16 : decode cX10_save 16 = .ok (.aload_n 0, 1) := by decide +kernel
theorem dX10_save_17 : decode cX10_save 17 = .ok (.getfield 16, 3) := by decide +kernel
theorem dX10_save_20 : decode cX10_save 20 = .ok (.getfield 218, 3) := by decide +kernel
theorem dX10_save_23 : decode cX10_save 23 = .ok (.getfield 229, 3) := by decide +kernel
theorem dX10_save_26 : decode cX10_save 26 = .ok (.ireturn, 1) := by decide +kernel
theorem dX10_restore_0 : decode cX10_restore 0 = .ok (.aload_n 0, 1) := by decide +kernel
theorem dX10_restore_1 : decode cX10_restore 1 = .ok (.getfield 19, 3) := by decide +kernel
theorem dX10_restore_4 : decode cX10_restore 4 = .ok (.ifCond .ne 14, 3) := by decide +kernel
theorem dX10_restore_7 : decode cX10_restore 7 = .ok (.new 120, 3) := by decide +kernel
theorem dX10_restore_10 : decode cX10_restore 10 = .ok (.dup, 1) := by decide +kernel
theorem dX10_restore_11 : decode cX10_restore 11 = .ok (.ldc_w 392, 3) := by decide +kernel
theorem dX10_restore_14 : decode cX10_restore 14 = .ok (.invokespecial 124, 3) := by decide +kernel
theorem dX10_restore_17 : decode cX10_restore 17 = .ok (.athrow, 1) := by decide +kernel
theorem dX10_restore_18 : decode cX10_restore 18 = .ok (.aload_n 0, 1) := by decide +kernel
theorem dX10_restore_19 : decode cX10_restore 19 = .ok (.getfield 26, 3) := by decide +kernel
theorem dX10_restore_22 : decode cX10_restore 22 = .ok (.aload_n 0, 1) := by decide +kernel
theorem dX10_restore_23 : decode cX10_restore 23 = .ok (.getfield 12, 3) := by decide +kernel
theorem dX10_restore_26 : decode cX10_restore 26 = .ok (.invokevirtual 101, 3) := by decide +kernel
theorem dX10_restore_29 : decode cX10_restore 29 = .ok (.aload_n 0, 1) := by decide +kernel
theorem dX10_restore_30 : decode cX10_restore 30 = .ok (.getfield 12, 3) := by decide +kernel
theorem dX10_restore_33 : decode cX10_restore 33 = .ok (.aload_n 0, 1) := by decide +kernel
theorem dX10_restore_34 : decode cX10_restore 34 = .ok (.getfield 16, 3) := by decide +kernel
theorem dX10_restore_37 : decode cX10_restore 37 = .ok (.invokevirtual 390, 3) := by decide +kernel
theorem dX10_restore_40 : decode cX10_restore 40 = .ok (.aload_n 0, 1) := by decide +kernel
theorem dX10_restore_41 : decode cX10_restore 41 = .ok (.getfield 12, 3) := by decide +kernel
theorem dX10_restore_44 : decode cX10_restore 44 = .ok (.getfield 218, 3) := by decide +kernel
theorem dX10_restore_47 : decode cX10_restore 47 = .ok (.getfield 229, 3) := by decide +kernel
theorem dX10_restore_50 : decode cX10_restore 50 = .ok (.ireturn, 1) := by decide +kernel
theorem dX10_foundBy_0 : decode cX10_foundBy 0 = .ok (.iload_n 1, 1) := by decide +kernel
theorem dX10_foundBy_1 : decode cX10_foundBy 1 = .ok (.ifCond .eq 10, 3) := by decide +kernel
theorem dX10_foundBy_4 : decode cX10_foundBy 4 = .ok (.aload_n 0, 1) := by decide +kernel
theorem dX10_foundBy_5 : decode cX10_foundBy 5 = .ok (.getfield 75, 3) := by decide +kernel
theorem dX10_foundBy_8 : decode cX10_foundBy 8 = .ok (.goto 7, 3) := by decide +kernel
theorem dX10_foundBy_11 : decode cX10_foundBy 11 = .ok (.aload_n 0, 1) := by decide +kernel
theorem dX10_foundBy_12 : decode cX10_foundBy 12 = .ok (.getfield 71, 3) := by decide +kernel
theorem dX10_foundBy_15 : decode cX10_foundBy 15 = .ok (.areturn, 1) := by decide +kernel
theorem dX10_isWithin_0 : decode cX10_isWithin 0 = .ok (.iload_n 0, 1) := by decide +kernel
theorem dX10_isWithin_1 : decode cX10_isWithin 1 = .ok (.iload_n 1, 1) := by decide +kernel
theorem dX10_isWithin_2 : decode cX10_isWithin 2 = .ok (.if_icmp .lt 12, 3) := by decide +kernel
theorem dX10_isWithin_5 : decode cX10_isWithin 5 = .ok (.iload_n 0, 1) := by decide +kernel
theorem dX10_isWithin_6 : decode cX10_isWithin 6 = .ok (.iload_n 2, 1) := by decide +kernel
theorem dX10_isWithin_7 : decode cX10_isWithin 7 = .ok (.if_icmp .gt 7, 3) := by decide +kernel
theorem dX10_isWithin_10 : decode cX10_isWithin 10 = .ok (.iconst 1, 1) := by decide +kernel
theorem dX10_isWithin_11 : decode cX10_isWithin 11 = .ok (.goto 4, 3) := by decide +kernel
theorem dX10_isWithin_14 : decode cX10_isWithin 14 = .ok (.iconst 0, 1) := by decide +kernel
theorem dX10_isWithin_15 : decode cX10_isWithin 15 = .ok (.ireturn, 1) := by decide +kernel
theorem dX10_limited_0 : decode cX10_limited 0 = .ok (.iload_n 0, 1) := by decide +kernel
theorem dX10_limited_1 : decode cX10_limited 1 = .ok (.iload_n 1, 1) := by decide +kernel
theorem dX10_limited_2 : decode cX10_limited 2 = .ok (.if_icmp .le 7, 3) := by decide +kernel
theorem dX10_limited_5 : decode cX10_limited 5 = .ok (.iload_n 1, 1) := by decide +kernel
theorem dX10_limited_6 : decode cX10_limited 6 = .ok (.goto 15, 3) := by decide +kernel
theorem dX10_limited_9 : decode cX10_limited 9 = .ok (.iload_n 0, 1) := by decide +kernel
theorem dX10_limited_10 : decode cX10_limited 10 = .ok (.iload_n 1, 1) := by decide +kernel
theorem dX10_limited_11 : decode cX10_limited 11 = .ok (.ineg, 1) := by decide +kernel
theorem dX10_limited_12 : decode cX10_limited 12 = .ok (.if_icmp .ge 8, 3) := by decide +kernel
theorem dX10_limited_15 : decode cX10_limited 15 = .ok (.iload_n 1, 1) := by decide +kernel
theorem dX10_limited_16 : decode cX10_limited 16 = .ok (.ineg, 1) := by decide +kernel
theorem dX10_limited_17 : decode cX10_limited 17 = .ok (.goto 4, 3) := by decide +kernel
theorem dX10_limited_20 : decode cX10_limited 20 = .ok (.iload_n 0, 1) := by decide +kernel
theorem dX10_limited_21 : decode cX10_limited 21 = .ok (.ireturn, 1) := by decide +kernel
theorem dX10_copyRow_0 : decode cX10_copyRow 0 = .ok (.aload_n 0, 1) := by decide +kernel
theorem dX10_copyRow_1 : decode cX10_copyRow 1 = .ok (.iconst 0, 1) := by decide +kernel
theorem dX10_copyRow_2 : decode cX10_copyRow 2 = .ok (.aload_n 1, 1) := by decide +kernel
theorem dX10_copyRow_3 : decode cX10_copyRow 3 = .ok (.iconst 0, 1) := by decide +kernel
theorem dX10_copyRow_4 : decode cX10_copyRow 4 = .ok (.aload_n 0, 1) := by decide +kernel
theorem dX10_copyRow_5 : decode cX10_copyRow 5 = .ok (.arraylength, 1) := by decide +kernel
theorem dX10_copyRow_6 : decode cX10_copyRow 6 = .ok (.aload_n 1, 1) := by decide +kernel
theorem dX10_copyRow_7 : decode cX10_copyRow 7 = .ok (.arraylength, 1) := by decide +kernel
theorem dX10_copyRow_8 : decode cX10_copyRow 8 = .ok (.invokestatic 394, 3) := by decide +kernel
theorem dX10_copyRow_11 : decode cX10_copyRow 11 = .ok (.invokestatic 397, 3) := by decide +kernel
theorem dX10_copyRow_14 : decode cX10_copyRow 14 = .ok (.return_, 1) := by decide +kernel
theorem dX10_doubleBits_0 : decode cX10_doubleBits 0 = .ok (.dload_n 0, 1) := by decide +kernel
theorem dX10_doubleBits_1 : decode cX10_doubleBits 1 = .ok (.dconst 0, 1) := by decide +kernel
theorem dX10_doubleBits_2 : decode cX10_doubleBits 2 = .ok (.dcmp .l, 1) := by decide +kernel
theorem dX10_doubleBits_3 : decode cX10_doubleBits 3 = .ok (.ifCond .gt 5, 3) := by decide +kernel
theorem dX10_doubleBits_6 : decode cX10_doubleBits 6 = .ok (.lconst 0, 1) := by decide +kernel
theorem dX10_doubleBits_7 : decode cX10_doubleBits 7 = .ok (.lreturn, 1) := by decide +kernel
theorem dX10_doubleBits_8 : decode cX10_doubleBits 8 = .ok (.dload_n 0, 1) := by decide +kernel
theorem dX10_doubleBits_9 : decode cX10_doubleBits 9 = .ok (.dstore_n 2, 1) := by decide +kernel
theorem dX10_doubleBits_10 : decode cX10_doubleBits 10 = .ok (.ldc2_w 403, 3) := by decide +kernel
theorem dX10_doubleBits_13 : decode cX10_doubleBits 13 = .ok (.lstore 4, 2) := by decide +kernel
theorem dX10_doubleBits_15 : decode cX10_doubleBits 15 = .ok (.iconst 0, 1) := by decide +kernel
theorem dX10_doubleBits_16 : decode cX10_doubleBits 16 = .ok (.istore 6, 2) := by decide +kernel
theorem dX10_doubleBits_18 : decode cX10_doubleBits 18 = .ok (.iload 6, 2) := by decide +kernel
theorem dX10_doubleBits_20 : decode cX10_doubleBits 20 = .ok (.sipush 1023, 3) := by decide +kernel
theorem dX10_doubleBits_23 : decode cX10_doubleBits 23 = .ok (.if_icmp .ge 29, 3) := by decide +kernel
theorem dX10_doubleBits_26 : decode cX10_doubleBits 26 = .ok (.dload_n 2, 1) := by decide +kernel
theorem dX10_doubleBits_27 : decode cX10_doubleBits 27 = .ok (.ldc2_w 405, 3) := by decide +kernel
theorem dX10_doubleBits_30 : decode cX10_doubleBits 30 = .ok (.dcmp .l, 1) := by decide +kernel
theorem dX10_doubleBits_31 : decode cX10_doubleBits 31 = .ok (.ifCond .lt 21, 3) := by decide +kernel
theorem dX10_doubleBits_34 : decode cX10_doubleBits 34 = .ok (.dload_n 2, 1) := by decide +kernel
theorem dX10_doubleBits_35 : decode cX10_doubleBits 35 = .ok (.ldc2_w 405, 3) := by decide +kernel
theorem dX10_doubleBits_38 : decode cX10_doubleBits 38 = .ok (.ddiv, 1) := by decide +kernel
theorem dX10_doubleBits_39 : decode cX10_doubleBits 39 = .ok (.dstore_n 2, 1) := by decide +kernel
theorem dX10_doubleBits_40 : decode cX10_doubleBits 40 = .ok (.lload 4, 2) := by decide +kernel
theorem dX10_doubleBits_42 : decode cX10_doubleBits 42 = .ok (.lconst 1, 1) := by decide +kernel
theorem dX10_doubleBits_43 : decode cX10_doubleBits 43 = .ok (.ladd, 1) := by decide +kernel
theorem dX10_doubleBits_44 : decode cX10_doubleBits 44 = .ok (.lstore 4, 2) := by decide +kernel
theorem dX10_doubleBits_46 : decode cX10_doubleBits 46 = .ok (.iinc 6 1, 3) := by decide +kernel
theorem dX10_doubleBits_49 : decode cX10_doubleBits 49 = .ok (.goto (-31), 3) := by decide +kernel
theorem dX10_doubleBits_52 : decode cX10_doubleBits 52 = .ok (.iconst 0, 1) := by decide +kernel
theorem dX10_doubleBits_53 : decode cX10_doubleBits 53 = .ok (.istore 6, 2) := by decide +kernel
theorem dX10_doubleBits_55 : decode cX10_doubleBits 55 = .ok (.iload 6, 2) := by decide +kernel
theorem dX10_doubleBits_57 : decode cX10_doubleBits 57 = .ok (.sipush 1023, 3) := by decide +kernel
theorem dX10_doubleBits_60 : decode cX10_doubleBits 60 = .ok (.if_icmp .ge 27, 3) := by decide +kernel
theorem dX10_doubleBits_63 : decode cX10_doubleBits 63 = .ok (.dload_n 2, 1) := by decide +kernel
theorem dX10_doubleBits_64 : decode cX10_doubleBits 64 = .ok (.dconst 1, 1) := by decide +kernel
theorem dX10_doubleBits_65 : decode cX10_doubleBits 65 = .ok (.dcmp .g, 1) := by decide +kernel
theorem dX10_doubleBits_66 : decode cX10_doubleBits 66 = .ok (.ifCond .ge 21, 3) := by decide +kernel
theorem dX10_doubleBits_69 : decode cX10_doubleBits 69 = .ok (.dload_n 2, 1) := by decide +kernel
theorem dX10_doubleBits_70 : decode cX10_doubleBits 70 = .ok (.ldc2_w 405, 3) := by decide +kernel
theorem dX10_doubleBits_73 : decode cX10_doubleBits 73 = .ok (.dmul, 1) := by decide +kernel
theorem dX10_doubleBits_74 : decode cX10_doubleBits 74 = .ok (.dstore_n 2, 1) := by decide +kernel
theorem dX10_doubleBits_75 : decode cX10_doubleBits 75 = .ok (.lload 4, 2) := by decide +kernel
theorem dX10_doubleBits_77 : decode cX10_doubleBits 77 = .ok (.lconst 1, 1) := by decide +kernel
theorem dX10_doubleBits_78 : decode cX10_doubleBits 78 = .ok (.lsub, 1) := by decide +kernel
theorem dX10_doubleBits_79 : decode cX10_doubleBits 79 = .ok (.lstore 4, 2) := by decide +kernel
theorem dX10_doubleBits_81 : decode cX10_doubleBits 81 = .ok (.iinc 6 1, 3) := by decide +kernel
theorem dX10_doubleBits_84 : decode cX10_doubleBits 84 = .ok (.goto (-29), 3) := by decide +kernel
theorem dX10_doubleBits_87 : decode cX10_doubleBits 87 = .ok (.lload 4, 2) := by decide +kernel
theorem dX10_doubleBits_89 : decode cX10_doubleBits 89 = .ok (.bipush 52, 2) := by decide +kernel
theorem dX10_doubleBits_91 : decode cX10_doubleBits 91 = .ok (.lshl, 1) := by decide +kernel
theorem dX10_doubleBits_92 : decode cX10_doubleBits 92 = .ok (.dload_n 2, 1) := by decide +kernel
theorem dX10_doubleBits_93 : decode cX10_doubleBits 93 = .ok (.dconst 1, 1) := by decide +kernel
theorem dX10_doubleBits_94 : decode cX10_doubleBits 94 = .ok (.dsub, 1) := by decide +kernel
theorem dX10_doubleBits_95 : decode cX10_doubleBits 95 = .ok (.ldc2_w 407, 3) := by decide +kernel
theorem dX10_doubleBits_98 : decode cX10_doubleBits 98 = .ok (.dmul, 1) := by decide +kernel
theorem dX10_doubleBits_99 : decode cX10_doubleBits 99 = .ok (.d2l, 1) := by decide +kernel
theorem dX10_doubleBits_100 : decode cX10_doubleBits 100 = .ok (.ladd, 1) := by decide +kernel
theorem dX10_doubleBits_101 : decode cX10_doubleBits 101 = .ok (.lreturn, 1) := by decide +kernel
theorem dX10_floatBits_0 : decode cX10_floatBits 0 = .ok (.fload_n 0, 1) := by decide +kernel
theorem dX10_floatBits_1 : decode cX10_floatBits 1 = .ok (.fconst 0, 1) := by decide +kernel
theorem dX10_floatBits_2 : decode cX10_floatBits 2 = .ok (.fcmp .l, 1) := by decide +kernel
theorem dX10_floatBits_3 : decode cX10_floatBits 3 = .ok (.ifCond .gt 5, 3) := by decide +kernel
theorem dX10_floatBits_6 : decode cX10_floatBits 6 = .ok (.iconst 0, 1) := by decide +kernel
theorem dX10_floatBits_7 : decode cX10_floatBits 7 = .ok (.ireturn, 1) := by decide +kernel
theorem dX10_floatBits_8 : decode cX10_floatBits 8 = .ok (.fload_n 0, 1) := by decide +kernel
theorem dX10_floatBits_9 : decode cX10_floatBits 9 = .ok (.fstore_n 1, 1) := by decide +kernel
theorem dX10_floatBits_10 : decode cX10_floatBits 10 = .ok (.bipush 127, 2) := by decide +kernel
theorem dX10_floatBits_12 : decode cX10_floatBits 12 = .ok (.istore_n 2, 1) := by decide +kernel
theorem dX10_floatBits_13 : decode cX10_floatBits 13 = .ok (.iconst 0, 1) := by decide +kernel
theorem dX10_floatBits_14 : decode cX10_floatBits 14 = .ok (.istore_n 3, 1) := by decide +kernel
theorem dX10_floatBits_15 : decode cX10_floatBits 15 = .ok (.iload_n 3, 1) := by decide +kernel
theorem dX10_floatBits_16 : decode cX10_floatBits 16 = .ok (.bipush 127, 2) := by decide +kernel
theorem dX10_floatBits_18 : decode cX10_floatBits 18 = .ok (.if_icmp .ge 22, 3) := by decide +kernel
theorem dX10_floatBits_21 : decode cX10_floatBits 21 = .ok (.fload_n 1, 1) := by decide +kernel
theorem dX10_floatBits_22 : decode cX10_floatBits 22 = .ok (.fconst 1, 1) := by decide +kernel
theorem dX10_floatBits_23 : decode cX10_floatBits 23 = .ok (.fcmp .g, 1) := by decide +kernel
theorem dX10_floatBits_24 : decode cX10_floatBits 24 = .ok (.ifCond .ge 16, 3) := by decide +kernel
theorem dX10_floatBits_27 : decode cX10_floatBits 27 = .ok (.fload_n 1, 1) := by decide +kernel
theorem dX10_floatBits_28 : decode cX10_floatBits 28 = .ok (.fconst 2, 1) := by decide +kernel
theorem dX10_floatBits_29 : decode cX10_floatBits 29 = .ok (.fmul, 1) := by decide +kernel
theorem dX10_floatBits_30 : decode cX10_floatBits 30 = .ok (.fstore_n 1, 1) := by decide +kernel
theorem dX10_floatBits_31 : decode cX10_floatBits 31 = .ok (.iinc 2 (-1), 3) := by decide +kernel
theorem dX10_floatBits_34 : decode cX10_floatBits 34 = .ok (.iinc 3 1, 3) := by decide +kernel
theorem dX10_floatBits_37 : decode cX10_floatBits 37 = .ok (.goto (-22), 3) := by decide +kernel
theorem dX10_floatBits_40 : decode cX10_floatBits 40 = .ok (.iload_n 2, 1) := by decide +kernel
theorem dX10_floatBits_41 : decode cX10_floatBits 41 = .ok (.bipush 23, 2) := by decide +kernel
theorem dX10_floatBits_43 : decode cX10_floatBits 43 = .ok (.ishl, 1) := by decide +kernel
theorem dX10_floatBits_44 : decode cX10_floatBits 44 = .ok (.fload_n 1, 1) := by decide +kernel
theorem dX10_floatBits_45 : decode cX10_floatBits 45 = .ok (.fconst 1, 1) := by decide +kernel
theorem dX10_floatBits_46 : decode cX10_floatBits 46 = .ok (.fsub, 1) := by decide +kernel
theorem dX10_floatBits_47 : decode cX10_floatBits 47 = .ok (.ldc_w 409, 3) := by decide +kernel
theorem dX10_floatBits_50 : decode cX10_floatBits 50 = .ok (.fmul, 1) := by decide +kernel
theorem dX10_floatBits_51 : decode cX10_floatBits 51 = .ok (.f2i, 1) := by decide +kernel
theorem dX10_floatBits_52 : decode cX10_floatBits 52 = .ok (.iadd, 1) := by decide +kernel
theorem dX10_floatBits_53 : decode cX10_floatBits 53 = .ok (.ireturn, 1) := by decide +kernel
theorem dX11_thrown_0 : decode cX11_thrown 0 = .ok (.aload_n 0, 1) := by decide +kernel
theorem dX11_thrown_1 : decode cX11_thrown 1 = .ok (.getfield 3, 3) := by decide +kernel
theorem dX11_thrown_4 : decode cX11_thrown 4 = .ok (.ireturn, 1) := by decide +kernel
theorem dX11_init_0 : decode cX11_init 0 = .ok (.aload_n 0, 1) := by decide +kernel
theorem dX11_init_1 : decode cX11_init 1 = .ok (.invokespecial 7, 3) := by decide +kernel
theorem dX11_init_4 : decode cX11_init 4 = .ok (.aload_n 0, 1) := by decide +kernel
theorem dX11_init_5 : decode cX11_init 5 = .ok (.sipush 624, 3) := by decide +kernel
theorem dX11_init_8 : decode cX11_init 8 = .ok (.newarray .int, 2) := by decide +kernel
theorem dX11_init_10 : decode cX11_init 10 = .ok (.putfield 13, 3) := by decide +kernel
theorem dX11_init_13 : decode cX11_init 13 = .ok (.aload_n 0, 1) := by decide +kernel
theorem dX11_init_14 : decode cX11_init 14 = .ok (.bipush 15, 2) := by decide +kernel
theorem dX11_init_16 : decode cX11_init 16 = .ok (.newarray .int, 2) := by decide +kernel
theorem dX11_init_18 : decode cX11_init 18 = .ok (.dup, 1) := by decide +kernel
theorem dX11_init_19 : decode cX11_init 19 = .ok (.iconst 0, 1) := by decide +kernel
theorem dX11_init_20 : decode cX11_init 20 = .ok (.iconst 0, 1) := by decide +kernel
theorem dX11_init_21 : decode cX11_init 21 = .ok (.iastore, 1) := by decide +kernel
theorem dX11_init_22 : decode cX11_init 22 = .ok (.dup, 1) := by decide +kernel
theorem dX11_init_23 : decode cX11_init 23 = .ok (.iconst 1, 1) := by decide +kernel
theorem dX11_init_24 : decode cX11_init 24 = .ok (.iconst 0, 1) := by decide +kernel
theorem dX11_init_25 : decode cX11_init 25 = .ok (.iastore, 1) := by decide +kernel
theorem dX11_init_26 : decode cX11_init 26 = .ok (.dup, 1) := by decide +kernel
theorem dX11_init_27 : decode cX11_init 27 = .ok (.iconst 2, 1) := by decide +kernel
theorem dX11_init_28 : decode cX11_init 28 = .ok (.iconst 0, 1) := by decide +kernel
theorem dX11_init_29 : decode cX11_init 29 = .ok (.iastore, 1) := by decide +kernel
theorem dX11_init_30 : decode cX11_init 30 = .ok (.dup, 1) := by decide +kernel
theorem dX11_init_31 : decode cX11_init 31 = .ok (.iconst 3, 1) := by decide +kernel
theorem dX11_init_32 : decode cX11_init 32 = .ok (.iconst 1, 1) := by decide +kernel
theorem dX11_init_33 : decode cX11_init 33 = .ok (.iastore, 1) := by decide +kernel
theorem dX11_init_34 : decode cX11_init 34 = .ok (.dup, 1) := by decide +kernel
theorem dX11_init_35 : decode cX11_init 35 = .ok (.iconst 4, 1) := by decide +kernel
theorem dX11_init_36 : decode cX11_init 36 = .ok (.iconst 1, 1) := by decide +kernel
theorem dX11_init_37 : decode cX11_init 37 = .ok (.iastore, 1) := by decide +kernel
theorem dX11_init_38 : decode cX11_init 38 = .ok (.dup, 1) := by decide +kernel
theorem dX11_init_39 : decode cX11_init 39 = .ok (.iconst 5, 1) := by decide +kernel
theorem dX11_init_40 : decode cX11_init 40 = .ok (.iconst 1, 1) := by decide +kernel
theorem dX11_init_41 : decode cX11_init 41 = .ok (.iastore, 1) := by decide +kernel
theorem dX11_init_42 : decode cX11_init 42 = .ok (.dup, 1) := by decide +kernel
theorem dX11_init_43 : decode cX11_init 43 = .ok (.bipush 6, 2) := by decide +kernel
theorem dX11_init_45 : decode cX11_init 45 = .ok (.iconst 0, 1) := by decide +kernel
theorem dX11_init_46 : decode cX11_init 46 = .ok (.iastore, 1) := by decide +kernel
theorem dX11_init_47 : decode cX11_init 47 = .ok (.dup, 1) := by decide +kernel
theorem dX11_init_48 : decode cX11_init 48 = .ok (.bipush 7, 2) := by decide +kernel
theorem dX11_init_50 : decode cX11_init 50 = .ok (.iconst 0, 1) := by decide +kernel
theorem dX11_init_51 : decode cX11_init 51 = .ok (.iastore, 1) := by decide +kernel
theorem dX11_init_52 : decode cX11_init 52 = .ok (.dup, 1) := by decide +kernel
theorem dX11_init_53 : decode cX11_init 53 = .ok (.bipush 8, 2) := by decide +kernel
theorem dX11_init_55 : decode cX11_init 55 = .ok (.iconst 0, 1) := by decide +kernel
theorem dX11_init_56 : decode cX11_init 56 = .ok (.iastore, 1) := by decide +kernel
theorem dX11_init_57 : decode cX11_init 57 = .ok (.dup, 1) := by decide +kernel
theorem dX11_init_58 : decode cX11_init 58 = .ok (.bipush 9, 2) := by decide +kernel
theorem dX11_init_60 : decode cX11_init 60 = .ok (.iconst 0, 1) := by decide +kernel
theorem dX11_init_61 : decode cX11_init 61 = .ok (.iastore, 1) := by decide +kernel
theorem dX11_init_62 : decode cX11_init 62 = .ok (.dup, 1) := by decide +kernel
theorem dX11_init_63 : decode cX11_init 63 = .ok (.bipush 10, 2) := by decide +kernel
theorem dX11_init_65 : decode cX11_init 65 = .ok (.iconst 0, 1) := by decide +kernel
theorem dX11_init_66 : decode cX11_init 66 = .ok (.iastore, 1) := by decide +kernel
theorem dX11_init_67 : decode cX11_init 67 = .ok (.dup, 1) := by decide +kernel
theorem dX11_init_68 : decode cX11_init 68 = .ok (.bipush 11, 2) := by decide +kernel
theorem dX11_init_70 : decode cX11_init 70 = .ok (.iconst 0, 1) := by decide +kernel
theorem dX11_init_71 : decode cX11_init 71 = .ok (.iastore, 1) := by decide +kernel
theorem dX11_init_72 : decode cX11_init 72 = .ok (.dup, 1) := by decide +kernel
theorem dX11_init_73 : decode cX11_init 73 = .ok (.bipush 12, 2) := by decide +kernel
theorem dX11_init_75 : decode cX11_init 75 = .ok (.sipush (-2000), 3) := by decide +kernel
theorem dX11_init_78 : decode cX11_init 78 = .ok (.iastore, 1) := by decide +kernel
theorem dX11_init_79 : decode cX11_init 79 = .ok (.dup, 1) := by decide +kernel
theorem dX11_init_80 : decode cX11_init 80 = .ok (.bipush 13, 2) := by decide +kernel
theorem dX11_init_82 : decode cX11_init 82 = .ok (.iconst 1, 1) := by decide +kernel
theorem dX11_init_83 : decode cX11_init 83 = .ok (.iastore, 1) := by decide +kernel
theorem dX11_init_84 : decode cX11_init 84 = .ok (.dup, 1) := by decide +kernel
theorem dX11_init_85 : decode cX11_init 85 = .ok (.bipush 14, 2) := by decide +kernel
theorem dX11_init_87 : decode cX11_init 87 = .ok (.iconst 0, 1) := by decide +kernel
theorem dX11_init_88 : decode cX11_init 88 = .ok (.iastore, 1) := by decide +kernel
theorem dX11_init_89 : decode cX11_init 89 = .ok (.putfield 17, 3) := by decide +kernel
theorem dX11_init_92 : decode cX11_init 92 = .ok (.aload_n 0, 1) := by decide +kernel
theorem dX11_init_93 : decode cX11_init 93 = .ok (.bipush 15, 2) := by decide +kernel
theorem dX11_init_95 : decode cX11_init 95 = .ok (.newarray .int, 2) := by decide +kernel
theorem dX11_init_97 : decode cX11_init 97 = .ok (.dup, 1) := by decide +kernel
theorem dX11_init_98 : decode cX11_init 98 = .ok (.iconst 0, 1) := by decide +kernel
theorem dX11_init_99 : decode cX11_init 99 = .ok (.sipush 999, 3) := by decide +kernel
theorem dX11_init_102 : decode cX11_init 102 = .ok (.iastore, 1) := by decide +kernel
theorem dX11_init_103 : decode cX11_init 103 = .ok (.dup, 1) := by decide +kernel
theorem dX11_init_104 : decode cX11_init 104 = .ok (.iconst 1, 1) := by decide +kernel
theorem dX11_init_105 : decode cX11_init 105 = .ok (.sipush 999, 3) := by decide +kernel
theorem dX11_init_108 : decode cX11_init 108 = .ok (.iastore, 1) := by decide +kernel
theorem dX11_init_109 : decode cX11_init 109 = .ok (.dup, 1) := by decide +kernel
theorem dX11_init_110 : decode cX11_init 110 = .ok (.iconst 2, 1) := by decide +kernel
theorem dX11_init_111 : decode cX11_init 111 = .ok (.sipush 999, 3) := by decide +kernel
theorem dX11_init_114 : decode cX11_init 114 = .ok (.iastore, 1) := by decide +kernel
theorem dX11_init_115 : decode cX11_init 115 = .ok (.dup, 1) := by decide +kernel
theorem dX11_init_116 : decode cX11_init 116 = .ok (.iconst 3, 1) := by decide +kernel
theorem dX11_init_117 : decode cX11_init 117 = .ok (.sipush 1000, 3) := by decide +kernel
theorem dX11_init_120 : decode cX11_init 120 = .ok (.iastore, 1) := by decide +kernel
theorem dX11_init_121 : decode cX11_init 121 = .ok (.dup, 1) := by decide +kernel
theorem dX11_init_122 : decode cX11_init 122 = .ok (.iconst 4, 1) := by decide +kernel
theorem dX11_init_123 : decode cX11_init 123 = .ok (.sipush 1000, 3) := by decide +kernel
theorem dX11_init_126 : decode cX11_init 126 = .ok (.iastore, 1) := by decide +kernel
theorem dX11_init_127 : decode cX11_init 127 = .ok (.dup, 1) := by decide +kernel
theorem dX11_init_128 : decode cX11_init 128 = .ok (.iconst 5, 1) := by decide +kernel
theorem dX11_init_129 : decode cX11_init 129 = .ok (.bipush 100, 2) := by decide +kernel
theorem dX11_init_131 : decode cX11_init 131 = .ok (.iastore, 1) := by decide +kernel
theorem dX11_init_132 : decode cX11_init 132 = .ok (.dup, 1) := by decide +kernel
theorem dX11_init_133 : decode cX11_init 133 = .ok (.bipush 6, 2) := by decide +kernel
theorem dX11_init_135 : decode cX11_init 135 = .ok (.iconst 5, 1) := by decide +kernel
theorem dX11_init_136 : decode cX11_init 136 = .ok (.iastore, 1) := by decide +kernel
theorem dX11_init_137 : decode cX11_init 137 = .ok (.dup, 1) := by decide +kernel
theorem dX11_init_138 : decode cX11_init 138 = .ok (.bipush 7, 2) := by decide +kernel
theorem dX11_init_140 : decode cX11_init 140 = .ok (.iconst 3, 1) := by decide +kernel
theorem dX11_init_141 : decode cX11_init 141 = .ok (.iastore, 1) := by decide +kernel
theorem dX11_init_142 : decode cX11_init 142 = .ok (.dup, 1) := by decide +kernel
theorem dX11_init_143 : decode cX11_init 143 = .ok (.bipush 8, 2) := by decide +kernel
theorem dX11_init_145 : decode cX11_init 145 = .ok (.ldc 20, 2) := by decide +kernel
theorem dX11_init_147 : decode cX11_init 147 = .ok (.iastore, 1) := by decide +kernel
theorem dX11_init_148 : decode cX11_init 148 = .ok (.dup, 1) := by decide +kernel
theorem dX11_init_149 : decode cX11_init 149 = .ok (.bipush 9, 2) := by decide +kernel
theorem dX11_init_151 : decode cX11_init 151 = .ok (.bipush 64, 2) := by decide +kernel
theorem dX11_init_153 : decode cX11_init 153 = .ok (.iastore, 1) := by decide +kernel
theorem dX11_init_154 : decode cX11_init 154 = .ok (.dup, 1) := by decide +kernel
theorem dX11_init_155 : decode cX11_init 155 = .ok (.bipush 10, 2) := by decide +kernel
theorem dX11_init_157 : decode cX11_init 157 = .ok (.iconst 2, 1) := by decide +kernel
theorem dX11_init_158 : decode cX11_init 158 = .ok (.iastore, 1) := by decide +kernel
theorem dX11_init_159 : decode cX11_init 159 = .ok (.dup, 1) := by decide +kernel
theorem dX11_init_160 : decode cX11_init 160 = .ok (.bipush 11, 2) := by decide +kernel
theorem dX11_init_162 : decode cX11_init 162 = .ok (.sipush 1000, 3) := by decide +kernel
theorem dX11_init_165 : decode cX11_init 165 = .ok (.iastore, 1) := by decide +kernel
theorem dX11_init_166 : decode cX11_init 166 = .ok (.dup, 1) := by decide +kernel
theorem dX11_init_167 : decode cX11_init 167 = .ok (.bipush 12, 2) := by decide +kernel
theorem dX11_init_169 : decode cX11_init 169 = .ok (.sipush 2000, 3) := by decide +kernel
theorem dX11_init_172 : decode cX11_init 172 = .ok (.iastore, 1) := by decide +kernel
theorem dX11_init_173 : decode cX11_init 173 = .ok (.dup, 1) := by decide +kernel
theorem dX11_init_174 : decode cX11_init 174 = .ok (.bipush 13, 2) := by decide +kernel
theorem dX11_init_176 : decode cX11_init 176 = .ok (.sipush 200, 3) := by decide +kernel
theorem dX11_init_179 : decode cX11_init 179 = .ok (.iastore, 1) := by decide +kernel
theorem dX11_init_180 : decode cX11_init 180 = .ok (.dup, 1) := by decide +kernel
theorem dX11_init_181 : decode cX11_init 181 = .ok (.bipush 14, 2) := by decide +kernel
theorem dX11_init_183 : decode cX11_init 183 = .ok (.sipush 1000, 3) := by decide +kernel
theorem dX11_init_186 : decode cX11_init 186 = .ok (.iastore, 1) := by decide +kernel
theorem dX11_init_187 : decode cX11_init 187 = .ok (.putfield 21, 3) := by decide +kernel
theorem dX11_init_190 : decode cX11_init 190 = .ok (.aload_n 0, 1) := by decide +kernel
theorem dX11_init_191 : decode cX11_init 191 = .ok (.bipush 15, 2) := by decide +kernel
theorem dX11_init_193 : decode cX11_init 193 = .ok (.newarray .int, 2) := by decide +kernel
theorem dX11_init_195 : decode cX11_init 195 = .ok (.dup, 1) := by decide +kernel
theorem dX11_init_196 : decode cX11_init 196 = .ok (.iconst 0, 1) := by decide +kernel
theorem dX11_init_197 : decode cX11_init 197 = .ok (.bipush 64, 2) := by decide +kernel
theorem dX11_init_199 : decode cX11_init 199 = .ok (.iastore, 1) := by decide +kernel
theorem dX11_init_200 : decode cX11_init 200 = .ok (.dup, 1) := by decide +kernel
theorem dX11_init_201 : decode cX11_init 201 = .ok (.iconst 1, 1) := by decide +kernel
theorem dX11_init_202 : decode cX11_init 202 = .ok (.iconst 0, 1) := by decide +kernel
theorem dX11_init_203 : decode cX11_init 203 = .ok (.iastore, 1) := by decide +kernel
theorem dX11_init_204 : decode cX11_init 204 = .ok (.dup, 1) := by decide +kernel
theorem dX11_init_205 : decode cX11_init 205 = .ok (.iconst 2, 1) := by decide +kernel
theorem dX11_init_206 : decode cX11_init 206 = .ok (.iconst 0, 1) := by decide +kernel
theorem dX11_init_207 : decode cX11_init 207 = .ok (.iastore, 1) := by decide +kernel
theorem dX11_init_208 : decode cX11_init 208 = .ok (.dup, 1) := by decide +kernel
theorem dX11_init_209 : decode cX11_init 209 = .ok (.iconst 3, 1) := by decide +kernel
theorem dX11_init_210 : decode cX11_init 210 = .ok (.sipush 400, 3) := by decide +kernel
theorem dX11_init_213 : decode cX11_init 213 = .ok (.iastore, 1) := by decide +kernel
theorem dX11_init_214 : decode cX11_init 214 = .ok (.dup, 1) := by decide +kernel
theorem dX11_init_215 : decode cX11_init 215 = .ok (.iconst 4, 1) := by decide +kernel
theorem dX11_init_216 : decode cX11_init 216 = .ok (.sipush 1000, 3) := by decide +kernel
theorem dX11_init_219 : decode cX11_init 219 = .ok (.iastore, 1) := by decide +kernel
theorem dX11_init_220 : decode cX11_init 220 = .ok (.dup, 1) := by decide +kernel
theorem dX11_init_221 : decode cX11_init 221 = .ok (.iconst 5, 1) := by decide +kernel
theorem dX11_init_222 : decode cX11_init 222 = .ok (.iconst 1, 1) := by decide +kernel
theorem dX11_init_223 : decode cX11_init 223 = .ok (.iastore, 1) := by decide +kernel
theorem dX11_init_224 : decode cX11_init 224 = .ok (.dup, 1) := by decide +kernel
theorem dX11_init_225 : decode cX11_init 225 = .ok (.bipush 6, 2) := by decide +kernel
theorem dX11_init_227 : decode cX11_init 227 = .ok (.iconst 0, 1) := by decide +kernel
theorem dX11_init_228 : decode cX11_init 228 = .ok (.iastore, 1) := by decide +kernel
theorem dX11_init_229 : decode cX11_init 229 = .ok (.dup, 1) := by decide +kernel
theorem dX11_init_230 : decode cX11_init 230 = .ok (.bipush 7, 2) := by decide +kernel
theorem dX11_init_232 : decode cX11_init 232 = .ok (.iconst 0, 1) := by decide +kernel
theorem dX11_init_233 : decode cX11_init 233 = .ok (.iastore, 1) := by decide +kernel
theorem dX11_init_234 : decode cX11_init 234 = .ok (.dup, 1) := by decide +kernel
theorem dX11_init_235 : decode cX11_init 235 = .ok (.bipush 8, 2) := by decide +kernel
theorem dX11_init_237 : decode cX11_init 237 = .ok (.sipush 10000, 3) := by decide +kernel
theorem dX11_init_240 : decode cX11_init 240 = .ok (.iastore, 1) := by decide +kernel
theorem dX11_init_241 : decode cX11_init 241 = .ok (.dup, 1) := by decide +kernel
theorem dX11_init_242 : decode cX11_init 242 = .ok (.bipush 9, 2) := by decide +kernel
theorem dX11_init_244 : decode cX11_init 244 = .ok (.bipush 16, 2) := by decide +kernel
theorem dX11_init_246 : decode cX11_init 246 = .ok (.iastore, 1) := by decide +kernel
theorem dX11_init_247 : decode cX11_init 247 = .ok (.dup, 1) := by decide +kernel
theorem dX11_init_248 : decode cX11_init 248 = .ok (.bipush 10, 2) := by decide +kernel
theorem dX11_init_250 : decode cX11_init 250 = .ok (.iconst 0, 1) := by decide +kernel
theorem dX11_init_251 : decode cX11_init 251 = .ok (.iastore, 1) := by decide +kernel
theorem dX11_init_252 : decode cX11_init 252 = .ok (.dup, 1) := by decide +kernel
theorem dX11_init_253 : decode cX11_init 253 = .ok (.bipush 11, 2) := by decide +kernel
theorem dX11_init_255 : decode cX11_init 255 = .ok (.bipush 50, 2) := by decide +kernel
theorem dX11_init_257 : decode cX11_init 257 = .ok (.iastore, 1) := by decide +kernel
theorem dX11_init_258 : decode cX11_init 258 = .ok (.dup, 1) := by decide +kernel
theorem dX11_init_259 : decode cX11_init 259 = .ok (.bipush 12, 2) := by decide +kernel
theorem dX11_init_261 : decode cX11_init 261 = .ok (.sipush 500, 3) := by decide +kernel
theorem dX11_init_264 : decode cX11_init 264 = .ok (.iastore, 1) := by decide +kernel
theorem dX11_init_265 : decode cX11_init 265 = .ok (.dup, 1) := by decide +kernel
theorem dX11_init_266 : decode cX11_init 266 = .ok (.bipush 13, 2) := by decide +kernel
theorem dX11_init_268 : decode cX11_init 268 = .ok (.bipush 60, 2) := by decide +kernel
theorem dX11_init_270 : decode cX11_init 270 = .ok (.iastore, 1) := by decide +kernel
theorem dX11_init_271 : decode cX11_init 271 = .ok (.dup, 1) := by decide +kernel
theorem dX11_init_272 : decode cX11_init 272 = .ok (.bipush 14, 2) := by decide +kernel
theorem dX11_init_274 : decode cX11_init 274 = .ok (.bipush 20, 2) := by decide +kernel
theorem dX11_init_276 : decode cX11_init 276 = .ok (.iastore, 1) := by decide +kernel
theorem dX11_init_277 : decode cX11_init 277 = .ok (.putfield 24, 3) := by decide +kernel
theorem dX11_init_280 : decode cX11_init 280 = .ok (.aload_n 0, 1) := by decide +kernel
theorem dX11_init_281 : decode cX11_init 281 = .ok (.bipush 50, 2) := by decide +kernel
theorem dX11_init_283 : decode cX11_init 283 = .ok (.newarray .int, 2) := by decide +kernel
theorem dX11_init_285 : decode cX11_init 285 = .ok (.putfield 27, 3) := by decide +kernel
theorem dX11_init_288 : decode cX11_init 288 = .ok (.aload_n 0, 1) := by decide +kernel
theorem dX11_init_289 : decode cX11_init 289 = .ok (.iconst (-1), 1) := by decide +kernel
theorem dX11_init_290 : decode cX11_init 290 = .ok (.putfield 30, 3) := by decide +kernel
theorem dX11_init_293 : decode cX11_init 293 = .ok (.aload_n 0, 1) := by decide +kernel
theorem dX11_init_294 : decode cX11_init 294 = .ok (.bipush 78, 2) := by decide +kernel
theorem dX11_init_296 : decode cX11_init 296 = .ok (.newarray .int, 2) := by decide +kernel
theorem dX11_init_298 : decode cX11_init 298 = .ok (.putfield 33, 3) := by decide +kernel
theorem dX11_init_301 : decode cX11_init 301 = .ok (.aload_n 0, 1) := by decide +kernel
theorem dX11_init_302 : decode cX11_init 302 = .ok (.sipush 200, 3) := by decide +kernel
theorem dX11_init_305 : decode cX11_init 305 = .ok (.newarray .int, 2) := by decide +kernel
theorem dX11_init_307 : decode cX11_init 307 = .ok (.putfield 36, 3) := by decide +kernel
theorem dX11_init_310 : decode cX11_init 310 = .ok (.aload_n 0, 1) := by decide +kernel
theorem dX11_init_311 : decode cX11_init 311 = .ok (.sipush 201, 3) := by decide +kernel
theorem dX11_init_314 : decode cX11_init 314 = .ok (.newarray .int, 2) := by decide +kernel
theorem dX11_init_316 : decode cX11_init 316 = .ok (.putfield 39, 3) := by decide +kernel
theorem dX11_init_319 : decode cX11_init 319 = .ok (.aload_n 0, 1) := by decide +kernel
theorem dX11_init_320 : decode cX11_init 320 = .ok (.sipush 200, 3) := by decide +kernel
theorem dX11_init_323 : decode cX11_init 323 = .ok (.newarray .int, 2) := by decide +kernel
theorem dX11_init_325 : decode cX11_init 325 = .ok (.putfield 42, 3) := by decide +kernel
theorem dX11_init_328 : decode cX11_init 328 = .ok (.aload_n 0, 1) := by decide +kernel
theorem dX11_init_329 : decode cX11_init 329 = .ok (.sipush 200, 3) := by decide +kernel
theorem dX11_init_332 : decode cX11_init 332 = .ok (.newarray .int, 2) := by decide +kernel
theorem dX11_init_334 : decode cX11_init 334 = .ok (.putfield 45, 3) := by decide +kernel
theorem dX11_init_337 : decode cX11_init 337 = .ok (.aload_n 0, 1) := by decide +kernel
theorem dX11_init_338 : decode cX11_init 338 = .ok (.sipush 200, 3) := by decide +kernel
theorem dX11_init_341 : decode cX11_init 341 = .ok (.newarray .int, 2) := by decide +kernel
theorem dX11_init_343 : decode cX11_init 343 = .ok (.putfield 48, 3) := by decide +kernel
theorem dX11_init_346 : decode cX11_init 346 = .ok (.aload_n 0, 1) := by decide +kernel
theorem dX11_init_347 : decode cX11_init 347 = .ok (.sipush 200, 3) := by decide +kernel
theorem dX11_init_350 : decode cX11_init 350 = .ok (.newarray .int, 2) := by decide +kernel
theorem dX11_init_352 : decode cX11_init 352 = .ok (.putfield 51, 3) := by decide +kernel
theorem dX11_init_355 : decode cX11_init 355 = .ok (.aload_n 0, 1) := by decide +kernel
theorem dX11_init_356 : decode cX11_init 356 = .ok (.sipush 200, 3) := by decide +kernel
theorem dX11_init_359 : decode cX11_init 359 = .ok (.newarray .int, 2) := by decide +kernel
theorem dX11_init_361 : decode cX11_init 361 = .ok (.putfield 54, 3) := by decide +kernel
theorem dX11_init_364 : decode cX11_init 364 = .ok (.aload_n 0, 1) := by decide +kernel
theorem dX11_init_365 : decode cX11_init 365 = .ok (.sipush 200, 3) := by decide +kernel
theorem dX11_init_368 : decode cX11_init 368 = .ok (.newarray .int, 2) := by decide +kernel
theorem dX11_init_370 : decode cX11_init 370 = .ok (.putfield 57, 3) := by decide +kernel
theorem dX11_init_373 : decode cX11_init 373 = .ok (.aload_n 0, 1) := by decide +kernel
theorem dX11_init_374 : decode cX11_init 374 = .ok (.sipush 1206, 3) := by decide +kernel
theorem dX11_init_377 : decode cX11_init 377 = .ok (.newarray .int, 2) := by decide +kernel
theorem dX11_init_379 : decode cX11_init 379 = .ok (.putfield 60, 3) := by decide +kernel
theorem dX11_init_382 : decode cX11_init 382 = .ok (.aload_n 0, 1) := by decide +kernel
theorem dX11_init_383 : decode cX11_init 383 = .ok (.sipush 201, 3) := by decide +kernel
theorem dX11_init_386 : decode cX11_init 386 = .ok (.newarray .int, 2) := by decide +kernel
theorem dX11_init_388 : decode cX11_init 388 = .ok (.putfield 63, 3) := by decide +kernel
theorem dX11_init_391 : decode cX11_init 391 = .ok (.aload_n 0, 1) := by decide +kernel
theorem dX11_init_392 : decode cX11_init 392 = .ok (.iconst 2, 1) := by decide +kernel
theorem dX11_init_393 : decode cX11_init 393 = .ok (.newarray .boolean, 2) := by decide +kernel
theorem dX11_init_395 : decode cX11_init 395 = .ok (.putfield 66, 3) := by decide +kernel
theorem dX11_init_398 : decode cX11_init 398 = .ok (.aload_n 0, 1) := by decide +kernel
theorem dX11_init_399 : decode cX11_init 399 = .ok (.bipush 6, 2) := by decide +kernel
theorem dX11_init_401 : decode cX11_init 401 = .ok (.newarray .int, 2) := by decide +kernel
theorem dX11_init_403 : decode cX11_init 403 = .ok (.putfield 70, 3) := by decide +kernel
theorem dX11_init_406 : decode cX11_init 406 = .ok (.aload_n 0, 1) := by decide +kernel
theorem dX11_init_407 : decode cX11_init 407 = .ok (.iconst 2, 1) := by decide +kernel
theorem dX11_init_408 : decode cX11_init 408 = .ok (.newarray .long, 2) := by decide +kernel
theorem dX11_init_410 : decode cX11_init 410 = .ok (.putfield 73, 3) := by decide +kernel
theorem dX11_init_413 : decode cX11_init 413 = .ok (.aload_n 0, 1) := by decide +kernel
theorem dX11_init_414 : decode cX11_init 414 = .ok (.iconst 2, 1) := by decide +kernel
theorem dX11_init_415 : decode cX11_init 415 = .ok (.newarray .int, 2) := by decide +kernel
theorem dX11_init_417 : decode cX11_init 417 = .ok (.putfield 77, 3) := by decide +kernel
theorem dX11_init_420 : decode cX11_init 420 = .ok (.aload_n 0, 1) := by decide +kernel
theorem dX11_init_421 : decode cX11_init 421 = .ok (.iconst 3, 1) := by decide +kernel
theorem dX11_init_422 : decode cX11_init 422 = .ok (.newarray .int, 2) := by decide +kernel
theorem dX11_init_424 : decode cX11_init 424 = .ok (.putfield 80, 3) := by decide +kernel
theorem dX11_init_427 : decode cX11_init 427 = .ok (.iconst 0, 1) := by decide +kernel
theorem dX11_init_428 : decode cX11_init 428 = .ok (.istore_n 1, 1) := by decide +kernel
theorem dX11_init_429 : decode cX11_init 429 = .ok (.iload_n 1, 1) := by decide +kernel
theorem dX11_init_430 : decode cX11_init 430 = .ok (.bipush 15, 2) := by decide +kernel
theorem dX11_init_432 : decode cX11_init 432 = .ok (.if_icmp .ge 21, 3) := by decide +kernel
theorem dX11_init_435 : decode cX11_init 435 = .ok (.aload_n 0, 1) := by decide +kernel
theorem dX11_init_436 : decode cX11_init 436 = .ok (.getfield 13, 3) := by decide +kernel
theorem dX11_init_439 : decode cX11_init 439 = .ok (.iload_n 1, 1) := by decide +kernel
theorem dX11_init_440 : decode cX11_init 440 = .ok (.aload_n 0, 1) := by decide +kernel
theorem dX11_init_441 : decode cX11_init 441 = .ok (.getfield 24, 3) := by decide +kernel
theorem dX11_init_444 : decode cX11_init 444 = .ok (.iload_n 1, 1) := by decide +kernel
theorem dX11_init_445 : decode cX11_init 445 = .ok (.iaload, 1) := by decide +kernel
theorem dX11_init_446 : decode cX11_init 446 = .ok (.iastore, 1) := by decide +kernel
theorem dX11_init_447 : decode cX11_init 447 = .ok (.iinc 1 1, 3) := by decide +kernel
theorem dX11_init_450 : decode cX11_init 450 = .ok (.goto (-21), 3) := by decide +kernel
theorem dX11_init_453 : decode cX11_init 453 = .ok (.aload_n 0, 1) := by decide +kernel
theorem dX11_init_454 : decode cX11_init 454 = .ok (.getfield 13, 3) := by decide +kernel
theorem dX11_init_457 : decode cX11_init 457 = .ok (.bipush 15, 2) := by decide +kernel
theorem dX11_init_459 : decode cX11_init 459 = .ok (.iconst 1, 1) := by decide +kernel
theorem dX11_init_460 : decode cX11_init 460 = .ok (.iastore, 1) := by decide +kernel
theorem dX11_init_461 : decode cX11_init 461 = .ok (.aload_n 0, 1) := by decide +kernel
theorem dX11_init_462 : decode cX11_init 462 = .ok (.getfield 13, 3) := by decide +kernel
theorem dX11_init_465 : decode cX11_init 465 = .ok (.bipush 16, 2) := by decide +kernel
theorem dX11_init_467 : decode cX11_init 467 = .ok (.iconst 1, 1) := by decide +kernel
theorem dX11_init_468 : decode cX11_init 468 = .ok (.iastore, 1) := by decide +kernel
theorem dX11_init_469 : decode cX11_init 469 = .ok (.iconst 0, 1) := by decide +kernel
theorem dX11_init_470 : decode cX11_init 470 = .ok (.istore_n 1, 1) := by decide +kernel
theorem dX11_init_471 : decode cX11_init 471 = .ok (.iload_n 1, 1) := by decide +kernel
theorem dX11_init_472 : decode cX11_init 472 = .ok (.iconst 3, 1) := by decide +kernel
theorem dX11_init_473 : decode cX11_init 473 = .ok (.if_icmp .ge 38, 3) := by decide +kernel
theorem dX11_init_476 : decode cX11_init 476 = .ok (.aload_n 0, 1) := by decide +kernel
theorem dX11_init_477 : decode cX11_init 477 = .ok (.getfield 13, 3) := by decide +kernel
theorem dX11_init_480 : decode cX11_init 480 = .ok (.bipush 20, 2) := by decide +kernel
theorem dX11_init_482 : decode cX11_init 482 = .ok (.iconst 3, 1) := by decide +kernel
theorem dX11_init_483 : decode cX11_init 483 = .ok (.iload_n 1, 1) := by decide +kernel
theorem dX11_init_484 : decode cX11_init 484 = .ok (.imul, 1) := by decide +kernel
theorem dX11_init_485 : decode cX11_init 485 = .ok (.iadd, 1) := by decide +kernel
theorem dX11_init_486 : decode cX11_init 486 = .ok (.iconst 1, 1) := by decide +kernel
theorem dX11_init_487 : decode cX11_init 487 = .ok (.iadd, 1) := by decide +kernel
theorem dX11_init_488 : decode cX11_init 488 = .ok (.bipush 32, 2) := by decide +kernel
theorem dX11_init_490 : decode cX11_init 490 = .ok (.iastore, 1) := by decide +kernel
theorem dX11_init_491 : decode cX11_init 491 = .ok (.aload_n 0, 1) := by decide +kernel
theorem dX11_init_492 : decode cX11_init 492 = .ok (.getfield 13, 3) := by decide +kernel
theorem dX11_init_495 : decode cX11_init 495 = .ok (.bipush 20, 2) := by decide +kernel
theorem dX11_init_497 : decode cX11_init 497 = .ok (.iconst 3, 1) := by decide +kernel
theorem dX11_init_498 : decode cX11_init 498 = .ok (.iload_n 1, 1) := by decide +kernel
theorem dX11_init_499 : decode cX11_init 499 = .ok (.imul, 1) := by decide +kernel
theorem dX11_init_500 : decode cX11_init 500 = .ok (.iadd, 1) := by decide +kernel
theorem dX11_init_501 : decode cX11_init 501 = .ok (.iconst 2, 1) := by decide +kernel
theorem dX11_init_502 : decode cX11_init 502 = .ok (.iadd, 1) := by decide +kernel
theorem dX11_init_503 : decode cX11_init 503 = .ok (.iconst 3, 1) := by decide +kernel
theorem dX11_init_504 : decode cX11_init 504 = .ok (.iastore, 1) := by decide +kernel
theorem dX11_init_505 : decode cX11_init 505 = .ok (.iinc 1 1, 3) := by decide +kernel
theorem dX11_init_508 : decode cX11_init 508 = .ok (.goto (-37), 3) := by decide +kernel
theorem dX11_init_511 : decode cX11_init 511 = .ok (.return_, 1) := by decide +kernel
theorem dX11_in_0 : decode cX11_in 0 = .ok (.lload_n 0, 1) := by decide +kernel
theorem dX11_in_1 : decode cX11_in 1 = .ok (.lload_n 2, 1) := by decide +kernel
theorem dX11_in_2 : decode cX11_in 2 = .ok (.lcmp, 1) := by decide +kernel
theorem dX11_in_3 : decode cX11_in 3 = .ok (.ifCond .lt 14, 3) := by decide +kernel
theorem dX11_in_6 : decode cX11_in 6 = .ok (.lload_n 0, 1) := by decide +kernel
theorem dX11_in_7 : decode cX11_in 7 = .ok (.lload 4, 2) := by decide +kernel
theorem dX11_in_9 : decode cX11_in 9 = .ok (.lcmp, 1) := by decide +kernel
theorem dX11_in_10 : decode cX11_in 10 = .ok (.ifCond .gt 7, 3) := by decide +kernel
theorem dX11_in_13 : decode cX11_in 13 = .ok (.iconst 1, 1) := by decide +kernel
theorem dX11_in_14 : decode cX11_in 14 = .ok (.goto 4, 3) := by decide +kernel
theorem dX11_in_17 : decode cX11_in 17 = .ok (.iconst 0, 1) := by decide +kernel
theorem dX11_in_18 : decode cX11_in 18 = .ok (.ireturn, 1) := by decide +kernel
theorem dX11_limited_0 : decode cX11_limited 0 = .ok (.iload_n 0, 1) := by decide +kernel
theorem dX11_limited_1 : decode cX11_limited 1 = .ok (.iload_n 1, 1) := by decide +kernel
theorem dX11_limited_2 : decode cX11_limited 2 = .ok (.if_icmp .le 7, 3) := by decide +kernel
theorem dX11_limited_5 : decode cX11_limited 5 = .ok (.iload_n 1, 1) := by decide +kernel
theorem dX11_limited_6 : decode cX11_limited 6 = .ok (.goto 15, 3) := by decide +kernel
theorem dX11_limited_9 : decode cX11_limited 9 = .ok (.iload_n 0, 1) := by decide +kernel
theorem dX11_limited_10 : decode cX11_limited 10 = .ok (.iload_n 1, 1) := by decide +kernel
theorem dX11_limited_11 : decode cX11_limited 11 = .ok (.ineg, 1) := by decide +kernel
theorem dX11_limited_12 : decode cX11_limited 12 = .ok (.if_icmp .ge 8, 3) := by decide +kernel
theorem dX11_limited_15 : decode cX11_limited 15 = .ok (.iload_n 1, 1) := by decide +kernel
theorem dX11_limited_16 : decode cX11_limited 16 = .ok (.ineg, 1) := by decide +kernel
theorem dX11_limited_17 : decode cX11_limited 17 = .ok (.goto 4, 3) := by decide +kernel
theorem dX11_limited_20 : decode cX11_limited 20 = .ok (.iload_n 0, 1) := by decide +kernel
theorem dX11_limited_21 : decode cX11_limited 21 = .ok (.ireturn, 1) := by decide +kernel
theorem dX11_limited__0 : decode cX11_limited_ 0 = .ok (.lload_n 0, 1) := by decide +kernel
theorem dX11_limited__1 : decode cX11_limited_ 1 = .ok (.lload_n 2, 1) := by decide +kernel
theorem dX11_limited__2 : decode cX11_limited_ 2 = .ok (.lcmp, 1) := by decide +kernel
theorem dX11_limited__3 : decode cX11_limited_ 3 = .ok (.ifCond .le 7, 3) := by decide +kernel
theorem dX11_limited__6 : decode cX11_limited_ 6 = .ok (.lload_n 2, 1) := by decide +kernel
theorem dX11_limited__7 : decode cX11_limited_ 7 = .ok (.goto 16, 3) := by decide +kernel
theorem dX11_limited__10 : decode cX11_limited_ 10 = .ok (.lload_n 0, 1) := by decide +kernel
theorem dX11_limited__11 : decode cX11_limited_ 11 = .ok (.lload_n 2, 1) := by decide +kernel
theorem dX11_limited__12 : decode cX11_limited_ 12 = .ok (.lneg, 1) := by decide +kernel
theorem dX11_limited__13 : decode cX11_limited_ 13 = .ok (.lcmp, 1) := by decide +kernel
theorem dX11_limited__14 : decode cX11_limited_ 14 = .ok (.ifCond .ge 8, 3) := by decide +kernel
theorem dX11_limited__17 : decode cX11_limited_ 17 = .ok (.lload_n 2, 1) := by decide +kernel
theorem dX11_limited__18 : decode cX11_limited_ 18 = .ok (.lneg, 1) := by decide +kernel
theorem dX11_limited__19 : decode cX11_limited_ 19 = .ok (.goto 4, 3) := by decide +kernel
theorem dX11_limited__22 : decode cX11_limited_ 22 = .ok (.lload_n 0, 1) := by decide +kernel
theorem dX11_limited__23 : decode cX11_limited_ 23 = .ok (.lreturn, 1) := by decide +kernel
theorem dX11_amount_0 : decode cX11_amount 0 = .ok (.iload_n 0, 1) := by decide +kernel
theorem dX11_amount_1 : decode cX11_amount 1 = .ok (.ifCond .ge 8, 3) := by decide +kernel
theorem dX11_amount_4 : decode cX11_amount 4 = .ok (.iload_n 0, 1) := by decide +kernel
theorem dX11_amount_5 : decode cX11_amount 5 = .ok (.ineg, 1) := by decide +kernel
theorem dX11_amount_6 : decode cX11_amount 6 = .ok (.goto 4, 3) := by decide +kernel
theorem dX11_amount_9 : decode cX11_amount 9 = .ok (.iload_n 0, 1) := by decide +kernel
theorem dX11_amount_10 : decode cX11_amount 10 = .ok (.ireturn, 1) := by decide +kernel
theorem dX11_copies_0 : decode cX11_copies 0 = .ok (.iconst 0, 1) := by decide +kernel
theorem dX11_copies_1 : decode cX11_copies 1 = .ok (.istore_n 3, 1) := by decide +kernel
theorem dX11_copies_2 : decode cX11_copies 2 = .ok (.iload_n 3, 1) := by decide +kernel
theorem dX11_copies_3 : decode cX11_copies 3 = .ok (.bipush 78, 2) := by decide +kernel
theorem dX11_copies_5 : decode cX11_copies 5 = .ok (.if_icmp .ge 31, 3) := by decide +kernel
theorem dX11_copies_8 : decode cX11_copies 8 = .ok (.aload_n 0, 1) := by decide +kernel
theorem dX11_copies_9 : decode cX11_copies 9 = .ok (.getfield 13, 3) := by decide +kernel
theorem dX11_copies_12 : decode cX11_copies 12 = .ok (.bipush 78, 2) := by decide +kernel
theorem dX11_copies_14 : decode cX11_copies 14 = .ok (.iload_n 2, 1) := by decide +kernel
theorem dX11_copies_15 : decode cX11_copies 15 = .ok (.imul, 1) := by decide +kernel
theorem dX11_copies_16 : decode cX11_copies 16 = .ok (.iload_n 3, 1) := by decide +kernel
theorem dX11_copies_17 : decode cX11_copies 17 = .ok (.iadd, 1) := by decide +kernel
theorem dX11_copies_18 : decode cX11_copies 18 = .ok (.aload_n 0, 1) := by decide +kernel
theorem dX11_copies_19 : decode cX11_copies 19 = .ok (.getfield 13, 3) := by decide +kernel
theorem dX11_copies_22 : decode cX11_copies 22 = .ok (.bipush 78, 2) := by decide +kernel
theorem dX11_copies_24 : decode cX11_copies 24 = .ok (.iload_n 1, 1) := by decide +kernel
theorem dX11_copies_25 : decode cX11_copies 25 = .ok (.imul, 1) := by decide +kernel
theorem dX11_copies_26 : decode cX11_copies 26 = .ok (.iload_n 3, 1) := by decide +kernel
theorem dX11_copies_27 : decode cX11_copies 27 = .ok (.iadd, 1) := by decide +kernel
theorem dX11_copies_28 : decode cX11_copies 28 = .ok (.iaload, 1) := by decide +kernel
theorem dX11_copies_29 : decode cX11_copies 29 = .ok (.iastore, 1) := by decide +kernel
theorem dX11_copies_30 : decode cX11_copies 30 = .ok (.iinc 3 1, 3) := by decide +kernel
theorem dX11_copies_33 : decode cX11_copies 33 = .ok (.goto (-31), 3) := by decide +kernel
theorem dX11_copies_36 : decode cX11_copies 36 = .ok (.return_, 1) := by decide +kernel
theorem dX11_keeps_0 : decode cX11_keeps 0 = .ok (.aload_n 0, 1) := by decide +kernel
theorem dX11_keeps_1 : decode cX11_keeps 1 = .ok (.getfield 83, 3) := by decide +kernel
theorem dX11_keeps_4 : decode cX11_keeps 4 = .ok (.bipush 6, 2) := by decide +kernel
theorem dX11_keeps_6 : decode cX11_keeps 6 = .ok (.if_icmp .ne 35, 3) := by decide +kernel
theorem dX11_keeps_9 : decode cX11_keeps 9 = .ok (.iconst 1, 1) := by decide +kernel
theorem dX11_keeps_10 : decode cX11_keeps 10 = .ok (.istore_n 1, 1) := by decide +kernel
theorem dX11_keeps_11 : decode cX11_keeps 11 = .ok (.iload_n 1, 1) := by decide +kernel
theorem dX11_keeps_12 : decode cX11_keeps 12 = .ok (.bipush 6, 2) := by decide +kernel
theorem dX11_keeps_14 : decode cX11_keeps 14 = .ok (.if_icmp .ge 17, 3) := by decide +kernel
theorem dX11_keeps_17 : decode cX11_keeps 17 = .ok (.aload_n 0, 1) := by decide +kernel
theorem dX11_keeps_18 : decode cX11_keeps 18 = .ok (.iload_n 1, 1) := by decide +kernel
theorem dX11_keeps_19 : decode cX11_keeps 19 = .ok (.iconst 1, 1) := by decide +kernel
theorem dX11_keeps_20 : decode cX11_keeps 20 = .ok (.iadd, 1) := by decide +kernel
theorem dX11_keeps_21 : decode cX11_keeps 21 = .ok (.iload_n 1, 1) := by decide +kernel
theorem dX11_keeps_22 : decode cX11_keeps 22 = .ok (.invokevirtual 86, 3) := by decide +kernel
theorem dX11_keeps_25 : decode cX11_keeps 25 = .ok (.iinc 1 1, 3) := by decide +kernel
theorem dX11_keeps_28 : decode cX11_keeps 28 = .ok (.goto (-17), 3) := by decide +kernel
theorem dX11_keeps_31 : decode cX11_keeps 31 = .ok (.aload_n 0, 1) := by decide +kernel
theorem dX11_keeps_32 : decode cX11_keeps 32 = .ok (.dup, 1) := by decide +kernel
theorem dX11_keeps_33 : decode cX11_keeps 33 = .ok (.getfield 83, 3) := by decide +kernel
theorem dX11_keeps_36 : decode cX11_keeps 36 = .ok (.iconst 1, 1) := by decide +kernel
theorem dX11_keeps_37 : decode cX11_keeps 37 = .ok (.isub, 1) := by decide +kernel
theorem dX11_keeps_38 : decode cX11_keeps 38 = .ok (.putfield 83, 3) := by decide +kernel
theorem dX11_keeps_41 : decode cX11_keeps 41 = .ok (.aload_n 0, 1) := by decide +kernel
theorem dX11_keeps_42 : decode cX11_keeps 42 = .ok (.dup, 1) := by decide +kernel
theorem dX11_keeps_43 : decode cX11_keeps 43 = .ok (.getfield 83, 3) := by decide +kernel
theorem dX11_keeps_46 : decode cX11_keeps 46 = .ok (.iconst 1, 1) := by decide +kernel
theorem dX11_keeps_47 : decode cX11_keeps 47 = .ok (.iadd, 1) := by decide +kernel
theorem dX11_keeps_48 : decode cX11_keeps 48 = .ok (.putfield 83, 3) := by decide +kernel
theorem dX11_keeps_51 : decode cX11_keeps 51 = .ok (.aload_n 0, 1) := by decide +kernel
theorem dX11_keeps_52 : decode cX11_keeps 52 = .ok (.iconst 0, 1) := by decide +kernel
theorem dX11_keeps_53 : decode cX11_keeps 53 = .ok (.aload_n 0, 1) := by decide +kernel
theorem dX11_keeps_54 : decode cX11_keeps 54 = .ok (.getfield 83, 3) := by decide +kernel
theorem dX11_keeps_57 : decode cX11_keeps 57 = .ok (.invokevirtual 86, 3) := by decide +kernel
theorem dX11_keeps_60 : decode cX11_keeps 60 = .ok (.return_, 1) := by decide +kernel
theorem dX11_set_0 : decode cX11_set 0 = .ok (.aload_n 0, 1) := by decide +kernel
theorem dX11_set_1 : decode cX11_set 1 = .ok (.iload_n 1, 1) := by decide +kernel
theorem dX11_set_2 : decode cX11_set 2 = .ok (.i2l, 1) := by decide +kernel
theorem dX11_set_3 : decode cX11_set 3 = .ok (.lconst 0, 1) := by decide +kernel
theorem dX11_set_4 : decode cX11_set 4 = .ok (.ldc2_w 90, 3) := by decide +kernel
theorem dX11_set_7 : decode cX11_set 7 = .ok (.invokestatic 92, 3) := by decide +kernel
theorem dX11_set_10 : decode cX11_set 10 = .ok (.ifCond .ne 7, 3) := by decide +kernel
theorem dX11_set_13 : decode cX11_set 13 = .ok (.iconst 1, 1) := by decide +kernel
theorem dX11_set_14 : decode cX11_set 14 = .ok (.goto 30, 3) := by decide +kernel
theorem dX11_set_17 : decode cX11_set 17 = .ok (.iload_n 2, 1) := by decide +kernel
theorem dX11_set_18 : decode cX11_set 18 = .ok (.i2l, 1) := by decide +kernel
theorem dX11_set_19 : decode cX11_set 19 = .ok (.aload_n 0, 1) := by decide +kernel
theorem dX11_set_20 : decode cX11_set 20 = .ok (.getfield 17, 3) := by decide +kernel
theorem dX11_set_23 : decode cX11_set 23 = .ok (.iload_n 1, 1) := by decide +kernel
theorem dX11_set_24 : decode cX11_set 24 = .ok (.iaload, 1) := by decide +kernel
theorem dX11_set_25 : decode cX11_set 25 = .ok (.i2l, 1) := by decide +kernel
theorem dX11_set_26 : decode cX11_set 26 = .ok (.aload_n 0, 1) := by decide +kernel
theorem dX11_set_27 : decode cX11_set 27 = .ok (.getfield 21, 3) := by decide +kernel
theorem dX11_set_30 : decode cX11_set 30 = .ok (.iload_n 1, 1) := by decide +kernel
theorem dX11_set_31 : decode cX11_set 31 = .ok (.iaload, 1) := by decide +kernel
theorem dX11_set_32 : decode cX11_set 32 = .ok (.i2l, 1) := by decide +kernel
theorem dX11_set_33 : decode cX11_set 33 = .ok (.invokestatic 92, 3) := by decide +kernel
theorem dX11_set_36 : decode cX11_set 36 = .ok (.ifCond .ne 7, 3) := by decide +kernel
theorem dX11_set_39 : decode cX11_set 39 = .ok (.iconst 2, 1) := by decide +kernel
theorem dX11_set_40 : decode cX11_set 40 = .ok (.goto 4, 3) := by decide +kernel
theorem dX11_set_43 : decode cX11_set 43 = .ok (.iconst 0, 1) := by decide +kernel
theorem dX11_set_44 : decode cX11_set 44 = .ok (.putfield 3, 3) := by decide +kernel
theorem dX11_set_47 : decode cX11_set 47 = .ok (.aload_n 0, 1) := by decide +kernel
theorem dX11_set_48 : decode cX11_set 48 = .ok (.getfield 3, 3) := by decide +kernel
theorem dX11_set_51 : decode cX11_set 51 = .ok (.ifCond .eq 5, 3) := by decide +kernel
theorem dX11_set_54 : decode cX11_set 54 = .ok (.iconst 0, 1) := by decide +kernel
theorem dX11_set_55 : decode cX11_set 55 = .ok (.ireturn, 1) := by decide +kernel
theorem dX11_set_56 : decode cX11_set 56 = .ok (.aload_n 0, 1) := by decide +kernel
theorem dX11_set_57 : decode cX11_set 57 = .ok (.invokevirtual 96, 3) := by decide +kernel
theorem dX11_set_60 : decode cX11_set 60 = .ok (.aload_n 0, 1) := by decide +kernel
theorem dX11_set_61 : decode cX11_set 61 = .ok (.getfield 13, 3) := by decide +kernel
theorem dX11_set_64 : decode cX11_set 64 = .ok (.iload_n 1, 1) := by decide +kernel
theorem dX11_set_65 : decode cX11_set 65 = .ok (.iaload, 1) := by decide +kernel
theorem dX11_set_66 : decode cX11_set 66 = .ok (.istore_n 3, 1) := by decide +kernel
theorem dX11_set_67 : decode cX11_set 67 = .ok (.aload_n 0, 1) := by decide +kernel
theorem dX11_set_68 : decode cX11_set 68 = .ok (.getfield 13, 3) := by decide +kernel
theorem dX11_set_71 : decode cX11_set 71 = .ok (.iload_n 1, 1) := by decide +kernel
theorem dX11_set_72 : decode cX11_set 72 = .ok (.iload_n 2, 1) := by decide +kernel
theorem dX11_set_73 : decode cX11_set 73 = .ok (.iastore, 1) := by decide +kernel
theorem dX11_set_74 : decode cX11_set 74 = .ok (.iload_n 3, 1) := by decide +kernel
theorem dX11_set_75 : decode cX11_set 75 = .ok (.ireturn, 1) := by decide +kernel
theorem dX11_setting_0 : decode cX11_setting 0 = .ok (.aload_n 0, 1) := by decide +kernel
theorem dX11_setting_1 : decode cX11_setting 1 = .ok (.iload_n 1, 1) := by decide +kernel
theorem dX11_setting_2 : decode cX11_setting 2 = .ok (.i2l, 1) := by decide +kernel
theorem dX11_setting_3 : decode cX11_setting 3 = .ok (.lconst 0, 1) := by decide +kernel
theorem dX11_setting_4 : decode cX11_setting 4 = .ok (.ldc2_w 90, 3) := by decide +kernel
theorem dX11_setting_7 : decode cX11_setting 7 = .ok (.invokestatic 92, 3) := by decide +kernel
theorem dX11_setting_10 : decode cX11_setting 10 = .ok (.ifCond .eq 7, 3) := by decide +kernel
theorem dX11_setting_13 : decode cX11_setting 13 = .ok (.iconst 0, 1) := by decide +kernel
theorem dX11_setting_14 : decode cX11_setting 14 = .ok (.goto 4, 3) := by decide +kernel
theorem dX11_setting_17 : decode cX11_setting 17 = .ok (.iconst 1, 1) := by decide +kernel
theorem dX11_setting_18 : decode cX11_setting 18 = .ok (.putfield 3, 3) := by decide +kernel
theorem dX11_setting_21 : decode cX11_setting 21 = .ok (.aload_n 0, 1) := by decide +kernel
theorem dX11_setting_22 : decode cX11_setting 22 = .ok (.getfield 3, 3) := by decide +kernel
theorem dX11_setting_25 : decode cX11_setting 25 = .ok (.ifCond .ne 12, 3) := by decide +kernel
theorem dX11_setting_28 : decode cX11_setting 28 = .ok (.aload_n 0, 1) := by decide +kernel
theorem dX11_setting_29 : decode cX11_setting 29 = .ok (.getfield 13, 3) := by decide +kernel
theorem dX11_setting_32 : decode cX11_setting 32 = .ok (.iload_n 1, 1) := by decide +kernel
theorem dX11_setting_33 : decode cX11_setting 33 = .ok (.iaload, 1) := by decide +kernel
theorem dX11_setting_34 : decode cX11_setting 34 = .ok (.goto 4, 3) := by decide +kernel
theorem dX11_setting_37 : decode cX11_setting 37 = .ok (.iconst 0, 1) := by decide +kernel
theorem dX11_setting_38 : decode cX11_setting 38 = .ok (.ireturn, 1) := by decide +kernel
theorem dX11_points_0 : decode cX11_points 0 = .ok (.aload_n 0, 1) := by decide +kernel
theorem dX11_points_1 : decode cX11_points 1 = .ok (.getfield 13, 3) := by decide +kernel
theorem dX11_points_4 : decode cX11_points 4 = .ok (.bipush 29, 2) := by decide +kernel
theorem dX11_points_6 : decode cX11_points 6 = .ok (.iaload, 1) := by decide +kernel
theorem dX11_points_7 : decode cX11_points 7 = .ok (.ireturn, 1) := by decide +kernel
theorem dX11_x_0 : decode cX11_x 0 = .ok (.aload_n 0, 1) := by decide +kernel
theorem dX11_x_1 : decode cX11_x 1 = .ok (.getfield 13, 3) := by decide +kernel
theorem dX11_x_4 : decode cX11_x 4 = .ok (.bipush 30, 2) := by decide +kernel
theorem dX11_x_6 : decode cX11_x 6 = .ok (.iconst 2, 1) := by decide +kernel
theorem dX11_x_7 : decode cX11_x 7 = .ok (.iload_n 1, 1) := by decide +kernel
theorem dX11_x_8 : decode cX11_x 8 = .ok (.imul, 1) := by decide +kernel
theorem dX11_x_9 : decode cX11_x 9 = .ok (.iadd, 1) := by decide +kernel
theorem dX11_x_10 : decode cX11_x 10 = .ok (.iaload, 1) := by decide +kernel
theorem dX11_x_11 : decode cX11_x 11 = .ok (.ireturn, 1) := by decide +kernel
theorem dX11_y_0 : decode cX11_y 0 = .ok (.aload_n 0, 1) := by decide +kernel
theorem dX11_y_1 : decode cX11_y 1 = .ok (.getfield 13, 3) := by decide +kernel
theorem dX11_y_4 : decode cX11_y 4 = .ok (.bipush 30, 2) := by decide +kernel
theorem dX11_y_6 : decode cX11_y 6 = .ok (.iconst 2, 1) := by decide +kernel
theorem dX11_y_7 : decode cX11_y 7 = .ok (.iload_n 1, 1) := by decide +kernel
theorem dX11_y_8 : decode cX11_y 8 = .ok (.imul, 1) := by decide +kernel
theorem dX11_y_9 : decode cX11_y 9 = .ok (.iadd, 1) := by decide +kernel
theorem dX11_y_10 : decode cX11_y 10 = .ok (.iconst 1, 1) := by decide +kernel
theorem dX11_y_11 : decode cX11_y 11 = .ok (.iadd, 1) := by decide +kernel
theorem dX11_y_12 : decode cX11_y 12 = .ok (.iaload, 1) := by decide +kernel
theorem dX11_y_13 : decode cX11_y 13 = .ok (.ireturn, 1) := by decide +kernel
theorem dX11_pointAt_0 : decode cX11_pointAt 0 = .ok (.iconst 0, 1) := by decide +kernel
theorem dX11_pointAt_1 : decode cX11_pointAt 1 = .ok (.istore_n 2, 1) := by decide +kernel
theorem dX11_pointAt_2 : decode cX11_pointAt 2 = .ok (.iload_n 2, 1) := by decide +kernel
theorem dX11_pointAt_3 : decode cX11_pointAt 3 = .ok (.aload_n 0, 1) := by decide +kernel
theorem dX11_pointAt_4 : decode cX11_pointAt 4 = .ok (.invokevirtual 99, 3) := by decide +kernel
theorem dX11_pointAt_7 : decode cX11_pointAt 7 = .ok (.if_icmp .ge 20, 3) := by decide +kernel
theorem dX11_pointAt_10 : decode cX11_pointAt 10 = .ok (.aload_n 0, 1) := by decide +kernel
theorem dX11_pointAt_11 : decode cX11_pointAt 11 = .ok (.iload_n 2, 1) := by decide +kernel
theorem dX11_pointAt_12 : decode cX11_pointAt 12 = .ok (.invokevirtual 103, 3) := by decide +kernel
theorem dX11_pointAt_15 : decode cX11_pointAt 15 = .ok (.iload_n 1, 1) := by decide +kernel
theorem dX11_pointAt_16 : decode cX11_pointAt 16 = .ok (.if_icmp .ne 5, 3) := by decide +kernel
theorem dX11_pointAt_19 : decode cX11_pointAt 19 = .ok (.iload_n 2, 1) := by decide +kernel
theorem dX11_pointAt_20 : decode cX11_pointAt 20 = .ok (.ireturn, 1) := by decide +kernel
theorem dX11_pointAt_21 : decode cX11_pointAt 21 = .ok (.iinc 2 1, 3) := by decide +kernel
theorem dX11_pointAt_24 : decode cX11_pointAt 24 = .ok (.goto (-22), 3) := by decide +kernel
theorem dX11_pointAt_27 : decode cX11_pointAt 27 = .ok (.iconst (-1), 1) := by decide +kernel
theorem dX11_pointAt_28 : decode cX11_pointAt 28 = .ok (.ireturn, 1) := by decide +kernel
theorem dX11_setPoint_0 : decode cX11_setPoint 0 = .ok (.aload_n 0, 1) := by decide +kernel
theorem dX11_setPoint_1 : decode cX11_setPoint 1 = .ok (.iload_n 1, 1) := by decide +kernel
theorem dX11_setPoint_2 : decode cX11_setPoint 2 = .ok (.i2l, 1) := by decide +kernel
theorem dX11_setPoint_3 : decode cX11_setPoint 3 = .ok (.ldc2_w 107, 3) := by decide +kernel
theorem dX11_setPoint_6 : decode cX11_setPoint 6 = .ok (.ldc2_w 109, 3) := by decide +kernel
theorem dX11_setPoint_9 : decode cX11_setPoint 9 = .ok (.invokestatic 92, 3) := by decide +kernel
theorem dX11_setPoint_12 : decode cX11_setPoint 12 = .ok (.ifCond .eq 17, 3) := by decide +kernel
theorem dX11_setPoint_15 : decode cX11_setPoint 15 = .ok (.iload_n 2, 1) := by decide +kernel
theorem dX11_setPoint_16 : decode cX11_setPoint 16 = .ok (.i2l, 1) := by decide +kernel
theorem dX11_setPoint_17 : decode cX11_setPoint 17 = .ok (.ldc2_w 111, 3) := by decide +kernel
theorem dX11_setPoint_20 : decode cX11_setPoint 20 = .ok (.ldc2_w 113, 3) := by decide +kernel
theorem dX11_setPoint_23 : decode cX11_setPoint 23 = .ok (.invokestatic 92, 3) := by decide +kernel
theorem dX11_setPoint_26 : decode cX11_setPoint 26 = .ok (.ifCond .ne 7, 3) := by decide +kernel
theorem dX11_setPoint_29 : decode cX11_setPoint 29 = .ok (.iconst 1, 1) := by decide +kernel
theorem dX11_setPoint_30 : decode cX11_setPoint 30 = .ok (.goto 24, 3) := by decide +kernel
theorem dX11_setPoint_33 : decode cX11_setPoint 33 = .ok (.aload_n 0, 1) := by decide +kernel
theorem dX11_setPoint_34 : decode cX11_setPoint 34 = .ok (.iload_n 1, 1) := by decide +kernel
theorem dX11_setPoint_35 : decode cX11_setPoint 35 = .ok (.invokevirtual 115, 3) := by decide +kernel
theorem dX11_setPoint_38 : decode cX11_setPoint 38 = .ok (.ifCond .ge 15, 3) := by decide +kernel
theorem dX11_setPoint_41 : decode cX11_setPoint 41 = .ok (.aload_n 0, 1) := by decide +kernel
theorem dX11_setPoint_42 : decode cX11_setPoint 42 = .ok (.invokevirtual 99, 3) := by decide +kernel
theorem dX11_setPoint_45 : decode cX11_setPoint 45 = .ok (.iconst 5, 1) := by decide +kernel
theorem dX11_setPoint_46 : decode cX11_setPoint 46 = .ok (.if_icmp .ne 7, 3) := by decide +kernel
theorem dX11_setPoint_49 : decode cX11_setPoint 49 = .ok (.iconst 2, 1) := by decide +kernel
theorem dX11_setPoint_50 : decode cX11_setPoint 50 = .ok (.goto 4, 3) := by decide +kernel
theorem dX11_setPoint_53 : decode cX11_setPoint 53 = .ok (.iconst 0, 1) := by decide +kernel
theorem dX11_setPoint_54 : decode cX11_setPoint 54 = .ok (.putfield 3, 3) := by decide +kernel
theorem dX11_setPoint_57 : decode cX11_setPoint 57 = .ok (.aload_n 0, 1) := by decide +kernel
theorem dX11_setPoint_58 : decode cX11_setPoint 58 = .ok (.getfield 3, 3) := by decide +kernel
theorem dX11_setPoint_61 : decode cX11_setPoint 61 = .ok (.ifCond .eq 5, 3) := by decide +kernel
theorem dX11_setPoint_64 : decode cX11_setPoint 64 = .ok (.iconst 0, 1) := by decide +kernel
theorem dX11_setPoint_65 : decode cX11_setPoint 65 = .ok (.ireturn, 1) := by decide +kernel
theorem dX11_setPoint_66 : decode cX11_setPoint 66 = .ok (.aload_n 0, 1) := by decide +kernel
theorem dX11_setPoint_67 : decode cX11_setPoint 67 = .ok (.invokevirtual 96, 3) := by decide +kernel
theorem dX11_setPoint_70 : decode cX11_setPoint 70 = .ok (.aload_n 0, 1) := by decide +kernel
theorem dX11_setPoint_71 : decode cX11_setPoint 71 = .ok (.iload_n 1, 1) := by decide +kernel
theorem dX11_setPoint_72 : decode cX11_setPoint 72 = .ok (.invokevirtual 115, 3) := by decide +kernel
theorem dX11_setPoint_75 : decode cX11_setPoint 75 = .ok (.istore_n 3, 1) := by decide +kernel
theorem dX11_setPoint_76 : decode cX11_setPoint 76 = .ok (.iload_n 3, 1) := by decide +kernel
theorem dX11_setPoint_77 : decode cX11_setPoint 77 = .ok (.ifCond .ge 78, 3) := by decide +kernel
theorem dX11_setPoint_80 : decode cX11_setPoint 80 = .ok (.aload_n 0, 1) := by decide +kernel
theorem dX11_setPoint_81 : decode cX11_setPoint 81 = .ok (.invokevirtual 99, 3) := by decide +kernel
theorem dX11_setPoint_84 : decode cX11_setPoint 84 = .ok (.istore_n 3, 1) := by decide +kernel
theorem dX11_setPoint_85 : decode cX11_setPoint 85 = .ok (.aload_n 0, 1) := by decide +kernel
theorem dX11_setPoint_86 : decode cX11_setPoint 86 = .ok (.getfield 13, 3) := by decide +kernel
theorem dX11_setPoint_89 : decode cX11_setPoint 89 = .ok (.bipush 29, 2) := by decide +kernel
theorem dX11_setPoint_91 : decode cX11_setPoint 91 = .ok (.dup2, 1) := by decide +kernel
theorem dX11_setPoint_92 : decode cX11_setPoint 92 = .ok (.iaload, 1) := by decide +kernel
theorem dX11_setPoint_93 : decode cX11_setPoint 93 = .ok (.iconst 1, 1) := by decide +kernel
theorem dX11_setPoint_94 : decode cX11_setPoint 94 = .ok (.iadd, 1) := by decide +kernel
theorem dX11_setPoint_95 : decode cX11_setPoint 95 = .ok (.iastore, 1) := by decide +kernel
theorem dX11_setPoint_96 : decode cX11_setPoint 96 = .ok (.iload_n 3, 1) := by decide +kernel
theorem dX11_setPoint_97 : decode cX11_setPoint 97 = .ok (.ifCond .le 58, 3) := by decide +kernel
theorem dX11_setPoint_100 : decode cX11_setPoint 100 = .ok (.aload_n 0, 1) := by decide +kernel
theorem dX11_setPoint_101 : decode cX11_setPoint 101 = .ok (.iload_n 3, 1) := by decide +kernel
theorem dX11_setPoint_102 : decode cX11_setPoint 102 = .ok (.iconst 1, 1) := by decide +kernel
theorem dX11_setPoint_103 : decode cX11_setPoint 103 = .ok (.isub, 1) := by decide +kernel
theorem dX11_setPoint_104 : decode cX11_setPoint 104 = .ok (.invokevirtual 103, 3) := by decide +kernel
theorem dX11_setPoint_107 : decode cX11_setPoint 107 = .ok (.iload_n 1, 1) := by decide +kernel
theorem dX11_setPoint_108 : decode cX11_setPoint 108 = .ok (.if_icmp .le 47, 3) := by decide +kernel
theorem dX11_setPoint_111 : decode cX11_setPoint 111 = .ok (.aload_n 0, 1) := by decide +kernel
theorem dX11_setPoint_112 : decode cX11_setPoint 112 = .ok (.getfield 13, 3) := by decide +kernel
theorem dX11_setPoint_115 : decode cX11_setPoint 115 = .ok (.bipush 30, 2) := by decide +kernel
theorem dX11_setPoint_117 : decode cX11_setPoint 117 = .ok (.iconst 2, 1) := by decide +kernel
theorem dX11_setPoint_118 : decode cX11_setPoint 118 = .ok (.iload_n 3, 1) := by decide +kernel
theorem dX11_setPoint_119 : decode cX11_setPoint 119 = .ok (.imul, 1) := by decide +kernel
theorem dX11_setPoint_120 : decode cX11_setPoint 120 = .ok (.iadd, 1) := by decide +kernel
theorem dX11_setPoint_121 : decode cX11_setPoint 121 = .ok (.aload_n 0, 1) := by decide +kernel
theorem dX11_setPoint_122 : decode cX11_setPoint 122 = .ok (.iload_n 3, 1) := by decide +kernel
theorem dX11_setPoint_123 : decode cX11_setPoint 123 = .ok (.iconst 1, 1) := by decide +kernel
theorem dX11_setPoint_124 : decode cX11_setPoint 124 = .ok (.isub, 1) := by decide +kernel
theorem dX11_setPoint_125 : decode cX11_setPoint 125 = .ok (.invokevirtual 103, 3) := by decide +kernel
theorem dX11_setPoint_128 : decode cX11_setPoint 128 = .ok (.iastore, 1) := by decide +kernel
theorem dX11_setPoint_129 : decode cX11_setPoint 129 = .ok (.aload_n 0, 1) := by decide +kernel
theorem dX11_setPoint_130 : decode cX11_setPoint 130 = .ok (.getfield 13, 3) := by decide +kernel
theorem dX11_setPoint_133 : decode cX11_setPoint 133 = .ok (.bipush 30, 2) := by decide +kernel
theorem dX11_setPoint_135 : decode cX11_setPoint 135 = .ok (.iconst 2, 1) := by decide +kernel
theorem dX11_setPoint_136 : decode cX11_setPoint 136 = .ok (.iload_n 3, 1) := by decide +kernel
theorem dX11_setPoint_137 : decode cX11_setPoint 137 = .ok (.imul, 1) := by decide +kernel
theorem dX11_setPoint_138 : decode cX11_setPoint 138 = .ok (.iadd, 1) := by decide +kernel
theorem dX11_setPoint_139 : decode cX11_setPoint 139 = .ok (.iconst 1, 1) := by decide +kernel
theorem dX11_setPoint_140 : decode cX11_setPoint 140 = .ok (.iadd, 1) := by decide +kernel
theorem dX11_setPoint_141 : decode cX11_setPoint 141 = .ok (.aload_n 0, 1) := by decide +kernel
theorem dX11_setPoint_142 : decode cX11_setPoint 142 = .ok (.iload_n 3, 1) := by decide +kernel
theorem dX11_setPoint_143 : decode cX11_setPoint 143 = .ok (.iconst 1, 1) := by decide +kernel
theorem dX11_setPoint_144 : decode cX11_setPoint 144 = .ok (.isub, 1) := by decide +kernel
theorem dX11_setPoint_145 : decode cX11_setPoint 145 = .ok (.invokevirtual 118, 3) := by decide +kernel
theorem dX11_setPoint_148 : decode cX11_setPoint 148 = .ok (.iastore, 1) := by decide +kernel
theorem dX11_setPoint_149 : decode cX11_setPoint 149 = .ok (.iinc 3 (-1), 3) := by decide +kernel
theorem dX11_setPoint_152 : decode cX11_setPoint 152 = .ok (.goto (-56), 3) := by decide +kernel
theorem dX11_setPoint_155 : decode cX11_setPoint 155 = .ok (.aload_n 0, 1) := by decide +kernel
theorem dX11_setPoint_156 : decode cX11_setPoint 156 = .ok (.getfield 13, 3) := by decide +kernel
theorem dX11_setPoint_159 : decode cX11_setPoint 159 = .ok (.bipush 30, 2) := by decide +kernel
theorem dX11_setPoint_161 : decode cX11_setPoint 161 = .ok (.iconst 2, 1) := by decide +kernel
theorem dX11_setPoint_162 : decode cX11_setPoint 162 = .ok (.iload_n 3, 1) := by decide +kernel
theorem dX11_setPoint_163 : decode cX11_setPoint 163 = .ok (.imul, 1) := by decide +kernel
theorem dX11_setPoint_164 : decode cX11_setPoint 164 = .ok (.iadd, 1) := by decide +kernel
theorem dX11_setPoint_165 : decode cX11_setPoint 165 = .ok (.iload_n 1, 1) := by decide +kernel
theorem dX11_setPoint_166 : decode cX11_setPoint 166 = .ok (.iastore, 1) := by decide +kernel
theorem dX11_setPoint_167 : decode cX11_setPoint 167 = .ok (.aload_n 0, 1) := by decide +kernel
theorem dX11_setPoint_168 : decode cX11_setPoint 168 = .ok (.getfield 13, 3) := by decide +kernel
theorem dX11_setPoint_171 : decode cX11_setPoint 171 = .ok (.bipush 30, 2) := by decide +kernel
theorem dX11_setPoint_173 : decode cX11_setPoint 173 = .ok (.iconst 2, 1) := by decide +kernel
theorem dX11_setPoint_174 : decode cX11_setPoint 174 = .ok (.iload_n 3, 1) := by decide +kernel
theorem dX11_setPoint_175 : decode cX11_setPoint 175 = .ok (.imul, 1) := by decide +kernel
theorem dX11_setPoint_176 : decode cX11_setPoint 176 = .ok (.iadd, 1) := by decide +kernel
theorem dX11_setPoint_177 : decode cX11_setPoint 177 = .ok (.iconst 1, 1) := by decide +kernel
theorem dX11_setPoint_178 : decode cX11_setPoint 178 = .ok (.iadd, 1) := by decide +kernel
theorem dX11_setPoint_179 : decode cX11_setPoint 179 = .ok (.iload_n 2, 1) := by decide +kernel
theorem dX11_setPoint_180 : decode cX11_setPoint 180 = .ok (.iastore, 1) := by decide +kernel
theorem dX11_setPoint_181 : decode cX11_setPoint 181 = .ok (.aload_n 0, 1) := by decide +kernel
theorem dX11_setPoint_182 : decode cX11_setPoint 182 = .ok (.invokevirtual 99, 3) := by decide +kernel
theorem dX11_setPoint_185 : decode cX11_setPoint 185 = .ok (.ireturn, 1) := by decide +kernel
theorem dX11_removePoint_0 : decode cX11_removePoint 0 = .ok (.aload_n 0, 1) := by decide +kernel
theorem dX11_removePoint_1 : decode cX11_removePoint 1 = .ok (.iload_n 1, 1) := by decide +kernel
theorem dX11_removePoint_2 : decode cX11_removePoint 2 = .ok (.invokevirtual 115, 3) := by decide +kernel
theorem dX11_removePoint_5 : decode cX11_removePoint 5 = .ok (.istore_n 2, 1) := by decide +kernel
theorem dX11_removePoint_6 : decode cX11_removePoint 6 = .ok (.aload_n 0, 1) := by decide +kernel
theorem dX11_removePoint_7 : decode cX11_removePoint 7 = .ok (.iload_n 2, 1) := by decide +kernel
theorem dX11_removePoint_8 : decode cX11_removePoint 8 = .ok (.ifCond .ge 7, 3) := by decide +kernel
theorem dX11_removePoint_11 : decode cX11_removePoint 11 = .ok (.iconst 1, 1) := by decide +kernel
theorem dX11_removePoint_12 : decode cX11_removePoint 12 = .ok (.goto 4, 3) := by decide +kernel
theorem dX11_removePoint_15 : decode cX11_removePoint 15 = .ok (.iconst 0, 1) := by decide +kernel
theorem dX11_removePoint_16 : decode cX11_removePoint 16 = .ok (.putfield 3, 3) := by decide +kernel
theorem dX11_removePoint_19 : decode cX11_removePoint 19 = .ok (.aload_n 0, 1) := by decide +kernel
theorem dX11_removePoint_20 : decode cX11_removePoint 20 = .ok (.getfield 3, 3) := by decide +kernel
theorem dX11_removePoint_23 : decode cX11_removePoint 23 = .ok (.ifCond .eq 5, 3) := by decide +kernel
theorem dX11_removePoint_26 : decode cX11_removePoint 26 = .ok (.iconst 0, 1) := by decide +kernel
theorem dX11_removePoint_27 : decode cX11_removePoint 27 = .ok (.ireturn, 1) := by decide +kernel
theorem dX11_removePoint_28 : decode cX11_removePoint 28 = .ok (.aload_n 0, 1) := by decide +kernel
theorem dX11_removePoint_29 : decode cX11_removePoint 29 = .ok (.invokevirtual 96, 3) := by decide +kernel
theorem dX11_removePoint_32 : decode cX11_removePoint 32 = .ok (.aload_n 0, 1) := by decide +kernel
theorem dX11_removePoint_33 : decode cX11_removePoint 33 = .ok (.iload_n 2, 1) := by decide +kernel
theorem dX11_removePoint_34 : decode cX11_removePoint 34 = .ok (.invokevirtual 118, 3) := by decide +kernel
theorem dX11_removePoint_37 : decode cX11_removePoint 37 = .ok (.istore_n 3, 1) := by decide +kernel
theorem dX11_removePoint_38 : decode cX11_removePoint 38 = .ok (.iload_n 2, 1) := by decide +kernel
theorem dX11_removePoint_39 : decode cX11_removePoint 39 = .ok (.iconst 1, 1) := by decide +kernel
theorem dX11_removePoint_40 : decode cX11_removePoint 40 = .ok (.iadd, 1) := by decide +kernel
theorem dX11_removePoint_41 : decode cX11_removePoint 41 = .ok (.aload_n 0, 1) := by decide +kernel
theorem dX11_removePoint_42 : decode cX11_removePoint 42 = .ok (.invokevirtual 99, 3) := by decide +kernel
theorem dX11_removePoint_45 : decode cX11_removePoint 45 = .ok (.if_icmp .ge 47, 3) := by decide +kernel
theorem dX11_removePoint_48 : decode cX11_removePoint 48 = .ok (.aload_n 0, 1) := by decide +kernel
theorem dX11_removePoint_49 : decode cX11_removePoint 49 = .ok (.getfield 13, 3) := by decide +kernel
theorem dX11_removePoint_52 : decode cX11_removePoint 52 = .ok (.bipush 30, 2) := by decide +kernel
theorem dX11_removePoint_54 : decode cX11_removePoint 54 = .ok (.iconst 2, 1) := by decide +kernel
theorem dX11_removePoint_55 : decode cX11_removePoint 55 = .ok (.iload_n 2, 1) := by decide +kernel
theorem dX11_removePoint_56 : decode cX11_removePoint 56 = .ok (.imul, 1) := by decide +kernel
theorem dX11_removePoint_57 : decode cX11_removePoint 57 = .ok (.iadd, 1) := by decide +kernel
theorem dX11_removePoint_58 : decode cX11_removePoint 58 = .ok (.aload_n 0, 1) := by decide +kernel
theorem dX11_removePoint_59 : decode cX11_removePoint 59 = .ok (.iload_n 2, 1) := by decide +kernel
theorem dX11_removePoint_60 : decode cX11_removePoint 60 = .ok (.iconst 1, 1) := by decide +kernel
theorem dX11_removePoint_61 : decode cX11_removePoint 61 = .ok (.iadd, 1) := by decide +kernel
theorem dX11_removePoint_62 : decode cX11_removePoint 62 = .ok (.invokevirtual 103, 3) := by decide +kernel
theorem dX11_removePoint_65 : decode cX11_removePoint 65 = .ok (.iastore, 1) := by decide +kernel
theorem dX11_removePoint_66 : decode cX11_removePoint 66 = .ok (.aload_n 0, 1) := by decide +kernel
theorem dX11_removePoint_67 : decode cX11_removePoint 67 = .ok (.getfield 13, 3) := by decide +kernel
theorem dX11_removePoint_70 : decode cX11_removePoint 70 = .ok (.bipush 30, 2) := by decide +kernel
theorem dX11_removePoint_72 : decode cX11_removePoint 72 = .ok (.iconst 2, 1) := by decide +kernel
theorem dX11_removePoint_73 : decode cX11_removePoint 73 = .ok (.iload_n 2, 1) := by decide +kernel
theorem dX11_removePoint_74 : decode cX11_removePoint 74 = .ok (.imul, 1) := by decide +kernel
theorem dX11_removePoint_75 : decode cX11_removePoint 75 = .ok (.iadd, 1) := by decide +kernel
theorem dX11_removePoint_76 : decode cX11_removePoint 76 = .ok (.iconst 1, 1) := by decide +kernel
theorem dX11_removePoint_77 : decode cX11_removePoint 77 = .ok (.iadd, 1) := by decide +kernel
theorem dX11_removePoint_78 : decode cX11_removePoint 78 = .ok (.aload_n 0, 1) := by decide +kernel
theorem dX11_removePoint_79 : decode cX11_removePoint 79 = .ok (.iload_n 2, 1) := by decide +kernel
theorem dX11_removePoint_80 : decode cX11_removePoint 80 = .ok (.iconst 1, 1) := by decide +kernel
theorem dX11_removePoint_81 : decode cX11_removePoint 81 = .ok (.iadd, 1) := by decide +kernel
theorem dX11_removePoint_82 : decode cX11_removePoint 82 = .ok (.invokevirtual 118, 3) := by decide +kernel
theorem dX11_removePoint_85 : decode cX11_removePoint 85 = .ok (.iastore, 1) := by decide +kernel
theorem dX11_removePoint_86 : decode cX11_removePoint 86 = .ok (.iinc 2 1, 3) := by decide +kernel
theorem dX11_removePoint_89 : decode cX11_removePoint 89 = .ok (.goto (-51), 3) := by decide +kernel
theorem dX11_removePoint_92 : decode cX11_removePoint 92 = .ok (.aload_n 0, 1) := by decide +kernel
theorem dX11_removePoint_93 : decode cX11_removePoint 93 = .ok (.getfield 13, 3) := by decide +kernel
theorem dX11_removePoint_96 : decode cX11_removePoint 96 = .ok (.bipush 29, 2) := by decide +kernel
theorem dX11_removePoint_98 : decode cX11_removePoint 98 = .ok (.dup2, 1) := by decide +kernel
theorem dX11_removePoint_99 : decode cX11_removePoint 99 = .ok (.iaload, 1) := by decide +kernel
theorem dX11_removePoint_100 : decode cX11_removePoint 100 = .ok (.iconst 1, 1) := by decide +kernel
theorem dX11_removePoint_101 : decode cX11_removePoint 101 = .ok (.isub, 1) := by decide +kernel
theorem dX11_removePoint_102 : decode cX11_removePoint 102 = .ok (.iastore, 1) := by decide +kernel
theorem dX11_removePoint_103 : decode cX11_removePoint 103 = .ok (.iload_n 3, 1) := by decide +kernel
theorem dX11_removePoint_104 : decode cX11_removePoint 104 = .ok (.ireturn, 1) := by decide +kernel
theorem dX11_point_0 : decode cX11_point 0 = .ok (.aload_n 0, 1) := by decide +kernel
theorem dX11_point_1 : decode cX11_point 1 = .ok (.iload_n 1, 1) := by decide +kernel
theorem dX11_point_2 : decode cX11_point 2 = .ok (.i2l, 1) := by decide +kernel
theorem dX11_point_3 : decode cX11_point 3 = .ok (.lconst 0, 1) := by decide +kernel
theorem dX11_point_4 : decode cX11_point 4 = .ok (.aload_n 0, 1) := by decide +kernel
theorem dX11_point_5 : decode cX11_point 5 = .ok (.invokevirtual 99, 3) := by decide +kernel
theorem dX11_point_8 : decode cX11_point 8 = .ok (.iconst 1, 1) := by decide +kernel
theorem dX11_point_9 : decode cX11_point 9 = .ok (.isub, 1) := by decide +kernel
theorem dX11_point_10 : decode cX11_point 10 = .ok (.i2l, 1) := by decide +kernel
theorem dX11_point_11 : decode cX11_point 11 = .ok (.invokestatic 92, 3) := by decide +kernel
theorem dX11_point_14 : decode cX11_point 14 = .ok (.ifCond .ne 7, 3) := by decide +kernel
theorem dX11_point_17 : decode cX11_point 17 = .ok (.iconst 1, 1) := by decide +kernel
theorem dX11_point_18 : decode cX11_point 18 = .ok (.goto 18, 3) := by decide +kernel
theorem dX11_point_21 : decode cX11_point 21 = .ok (.iload_n 2, 1) := by decide +kernel
theorem dX11_point_22 : decode cX11_point 22 = .ok (.i2l, 1) := by decide +kernel
theorem dX11_point_23 : decode cX11_point 23 = .ok (.lconst 0, 1) := by decide +kernel
theorem dX11_point_24 : decode cX11_point 24 = .ok (.lconst 1, 1) := by decide +kernel
theorem dX11_point_25 : decode cX11_point 25 = .ok (.invokestatic 92, 3) := by decide +kernel
theorem dX11_point_28 : decode cX11_point 28 = .ok (.ifCond .eq 7, 3) := by decide +kernel
theorem dX11_point_31 : decode cX11_point 31 = .ok (.iconst 0, 1) := by decide +kernel
theorem dX11_point_32 : decode cX11_point 32 = .ok (.goto 4, 3) := by decide +kernel
theorem dX11_point_35 : decode cX11_point 35 = .ok (.iconst 2, 1) := by decide +kernel
theorem dX11_point_36 : decode cX11_point 36 = .ok (.putfield 3, 3) := by decide +kernel
theorem dX11_point_39 : decode cX11_point 39 = .ok (.aload_n 0, 1) := by decide +kernel
theorem dX11_point_40 : decode cX11_point 40 = .ok (.getfield 3, 3) := by decide +kernel
theorem dX11_point_43 : decode cX11_point 43 = .ok (.ifCond .eq 7, 3) := by decide +kernel
theorem dX11_point_46 : decode cX11_point 46 = .ok (.iconst 0, 1) := by decide +kernel
theorem dX11_point_47 : decode cX11_point 47 = .ok (.goto 20, 3) := by decide +kernel
theorem dX11_point_50 : decode cX11_point 50 = .ok (.iload_n 2, 1) := by decide +kernel
theorem dX11_point_51 : decode cX11_point 51 = .ok (.ifCond .ne 11, 3) := by decide +kernel
theorem dX11_point_54 : decode cX11_point 54 = .ok (.aload_n 0, 1) := by decide +kernel
theorem dX11_point_55 : decode cX11_point 55 = .ok (.iload_n 1, 1) := by decide +kernel
theorem dX11_point_56 : decode cX11_point 56 = .ok (.invokevirtual 103, 3) := by decide +kernel
theorem dX11_point_59 : decode cX11_point 59 = .ok (.goto 8, 3) := by decide +kernel
theorem dX11_point_62 : decode cX11_point 62 = .ok (.aload_n 0, 1) := by decide +kernel
theorem dX11_point_63 : decode cX11_point 63 = .ok (.iload_n 1, 1) := by decide +kernel
theorem dX11_point_64 : decode cX11_point 64 = .ok (.invokevirtual 118, 3) := by decide +kernel
theorem dX11_point_67 : decode cX11_point 67 = .ok (.ireturn, 1) := by decide +kernel
theorem dX11_tabled_0 : decode cX11_tabled 0 = .ok (.aload_n 0, 1) := by decide +kernel
theorem dX11_tabled_1 : decode cX11_tabled 1 = .ok (.invokevirtual 99, 3) := by decide +kernel
theorem dX11_tabled_4 : decode cX11_tabled 4 = .ok (.istore_n 2, 1) := by decide +kernel
theorem dX11_tabled_5 : decode cX11_tabled 5 = .ok (.iload_n 2, 1) := by decide +kernel
theorem dX11_tabled_6 : decode cX11_tabled 6 = .ok (.ifCond .ne 5, 3) := by decide +kernel
theorem dX11_tabled_9 : decode cX11_tabled 9 = .ok (.iconst 0, 1) := by decide +kernel
theorem dX11_tabled_10 : decode cX11_tabled 10 = .ok (.ireturn, 1) := by decide +kernel
theorem dX11_tabled_11 : decode cX11_tabled 11 = .ok (.iload_n 1, 1) := by decide +kernel
theorem dX11_tabled_12 : decode cX11_tabled 12 = .ok (.aload_n 0, 1) := by decide +kernel
theorem dX11_tabled_13 : decode cX11_tabled 13 = .ok (.iconst 0, 1) := by decide +kernel
theorem dX11_tabled_14 : decode cX11_tabled 14 = .ok (.invokevirtual 103, 3) := by decide +kernel
theorem dX11_tabled_17 : decode cX11_tabled 17 = .ok (.if_icmp .gt 9, 3) := by decide +kernel
theorem dX11_tabled_20 : decode cX11_tabled 20 = .ok (.aload_n 0, 1) := by decide +kernel
theorem dX11_tabled_21 : decode cX11_tabled 21 = .ok (.iconst 0, 1) := by decide +kernel
theorem dX11_tabled_22 : decode cX11_tabled 22 = .ok (.invokevirtual 118, 3) := by decide +kernel
theorem dX11_tabled_25 : decode cX11_tabled 25 = .ok (.ireturn, 1) := by decide +kernel
theorem dX11_tabled_26 : decode cX11_tabled 26 = .ok (.iload_n 1, 1) := by decide +kernel
theorem dX11_tabled_27 : decode cX11_tabled 27 = .ok (.aload_n 0, 1) := by decide +kernel
theorem dX11_tabled_28 : decode cX11_tabled 28 = .ok (.iload_n 2, 1) := by decide +kernel
theorem dX11_tabled_29 : decode cX11_tabled 29 = .ok (.iconst 1, 1) := by decide +kernel
theorem dX11_tabled_30 : decode cX11_tabled 30 = .ok (.isub, 1) := by decide +kernel
theorem dX11_tabled_31 : decode cX11_tabled 31 = .ok (.invokevirtual 103, 3) := by decide +kernel
theorem dX11_tabled_34 : decode cX11_tabled 34 = .ok (.if_icmp .lt 11, 3) := by decide +kernel
theorem dX11_tabled_37 : decode cX11_tabled 37 = .ok (.aload_n 0, 1) := by decide +kernel
theorem dX11_tabled_38 : decode cX11_tabled 38 = .ok (.iload_n 2, 1) := by decide +kernel
theorem dX11_tabled_39 : decode cX11_tabled 39 = .ok (.iconst 1, 1) := by decide +kernel
theorem dX11_tabled_40 : decode cX11_tabled 40 = .ok (.isub, 1) := by decide +kernel
theorem dX11_tabled_41 : decode cX11_tabled 41 = .ok (.invokevirtual 118, 3) := by decide +kernel
theorem dX11_tabled_44 : decode cX11_tabled 44 = .ok (.ireturn, 1) := by decide +kernel
theorem dX11_tabled_45 : decode cX11_tabled 45 = .ok (.iconst 0, 1) := by decide +kernel
theorem dX11_tabled_46 : decode cX11_tabled 46 = .ok (.istore_n 3, 1) := by decide +kernel
theorem dX11_tabled_47 : decode cX11_tabled 47 = .ok (.aload_n 0, 1) := by decide +kernel
theorem dX11_tabled_48 : decode cX11_tabled 48 = .ok (.iload_n 3, 1) := by decide +kernel
theorem dX11_tabled_49 : decode cX11_tabled 49 = .ok (.iconst 1, 1) := by decide +kernel
theorem dX11_tabled_50 : decode cX11_tabled 50 = .ok (.iadd, 1) := by decide +kernel
theorem dX11_tabled_51 : decode cX11_tabled 51 = .ok (.invokevirtual 103, 3) := by decide +kernel
theorem dX11_tabled_54 : decode cX11_tabled 54 = .ok (.iload_n 1, 1) := by decide +kernel
theorem dX11_tabled_55 : decode cX11_tabled 55 = .ok (.if_icmp .gt 9, 3) := by decide +kernel
theorem dX11_tabled_58 : decode cX11_tabled 58 = .ok (.iinc 3 1, 3) := by decide +kernel
theorem dX11_tabled_61 : decode cX11_tabled 61 = .ok (.goto (-14), 3) := by decide +kernel
theorem dX11_tabled_64 : decode cX11_tabled 64 = .ok (.aload_n 0, 1) := by decide +kernel
theorem dX11_tabled_65 : decode cX11_tabled 65 = .ok (.iload_n 3, 1) := by decide +kernel
theorem dX11_tabled_66 : decode cX11_tabled 66 = .ok (.invokevirtual 118, 3) := by decide +kernel
theorem dX11_tabled_69 : decode cX11_tabled 69 = .ok (.aload_n 0, 1) := by decide +kernel
theorem dX11_tabled_70 : decode cX11_tabled 70 = .ok (.iload_n 3, 1) := by decide +kernel
theorem dX11_tabled_71 : decode cX11_tabled 71 = .ok (.iconst 1, 1) := by decide +kernel
theorem dX11_tabled_72 : decode cX11_tabled 72 = .ok (.iadd, 1) := by decide +kernel
theorem dX11_tabled_73 : decode cX11_tabled 73 = .ok (.invokevirtual 118, 3) := by decide +kernel
theorem dX11_tabled_76 : decode cX11_tabled 76 = .ok (.aload_n 0, 1) := by decide +kernel
theorem dX11_tabled_77 : decode cX11_tabled 77 = .ok (.iload_n 3, 1) := by decide +kernel
theorem dX11_tabled_78 : decode cX11_tabled 78 = .ok (.invokevirtual 118, 3) := by decide +kernel
theorem dX11_tabled_81 : decode cX11_tabled 81 = .ok (.isub, 1) := by decide +kernel
theorem dX11_tabled_82 : decode cX11_tabled 82 = .ok (.iload_n 1, 1) := by decide +kernel
theorem dX11_tabled_83 : decode cX11_tabled 83 = .ok (.aload_n 0, 1) := by decide +kernel
theorem dX11_tabled_84 : decode cX11_tabled 84 = .ok (.iload_n 3, 1) := by decide +kernel
theorem dX11_tabled_85 : decode cX11_tabled 85 = .ok (.invokevirtual 103, 3) := by decide +kernel
theorem dX11_tabled_88 : decode cX11_tabled 88 = .ok (.isub, 1) := by decide +kernel
theorem dX11_tabled_89 : decode cX11_tabled 89 = .ok (.imul, 1) := by decide +kernel
theorem dX11_tabled_90 : decode cX11_tabled 90 = .ok (.aload_n 0, 1) := by decide +kernel
theorem dX11_tabled_91 : decode cX11_tabled 91 = .ok (.iload_n 3, 1) := by decide +kernel
theorem dX11_tabled_92 : decode cX11_tabled 92 = .ok (.iconst 1, 1) := by decide +kernel
theorem dX11_tabled_93 : decode cX11_tabled 93 = .ok (.iadd, 1) := by decide +kernel
theorem dX11_tabled_94 : decode cX11_tabled 94 = .ok (.invokevirtual 103, 3) := by decide +kernel
theorem dX11_tabled_97 : decode cX11_tabled 97 = .ok (.aload_n 0, 1) := by decide +kernel
theorem dX11_tabled_98 : decode cX11_tabled 98 = .ok (.iload_n 3, 1) := by decide +kernel
theorem dX11_tabled_99 : decode cX11_tabled 99 = .ok (.invokevirtual 103, 3) := by decide +kernel
theorem dX11_tabled_102 : decode cX11_tabled 102 = .ok (.isub, 1) := by decide +kernel
theorem dX11_tabled_103 : decode cX11_tabled 103 = .ok (.idiv, 1) := by decide +kernel
