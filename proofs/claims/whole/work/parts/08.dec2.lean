theorem dX11_tabled_104 : decode cX11_tabled 104 = .ok (.iadd, 1) := by decide +kernel
theorem dX11_tabled_105 : decode cX11_tabled 105 = .ok (.ireturn, 1) := by decide +kernel
theorem dX11_table_0 : decode cX11_table 0 = .ok (.aload_n 0, 1) := by decide +kernel
theorem dX11_table_1 : decode cX11_table 1 = .ok (.iload_n 1, 1) := by decide +kernel
theorem dX11_table_2 : decode cX11_table 2 = .ok (.i2l, 1) := by decide +kernel
theorem dX11_table_3 : decode cX11_table 3 = .ok (.ldc2_w 107, 3) := by decide +kernel
theorem dX11_table_6 : decode cX11_table 6 = .ok (.ldc2_w 109, 3) := by decide +kernel
theorem dX11_table_9 : decode cX11_table 9 = .ok (.invokestatic 92, 3) := by decide +kernel
theorem dX11_table_12 : decode cX11_table 12 = .ok (.ifCond .eq 7, 3) := by decide +kernel
theorem dX11_table_15 : decode cX11_table 15 = .ok (.iconst 0, 1) := by decide +kernel
theorem dX11_table_16 : decode cX11_table 16 = .ok (.goto 4, 3) := by decide +kernel
theorem dX11_table_19 : decode cX11_table 19 = .ok (.iconst 1, 1) := by decide +kernel
theorem dX11_table_20 : decode cX11_table 20 = .ok (.putfield 3, 3) := by decide +kernel
theorem dX11_table_23 : decode cX11_table 23 = .ok (.aload_n 0, 1) := by decide +kernel
theorem dX11_table_24 : decode cX11_table 24 = .ok (.getfield 3, 3) := by decide +kernel
theorem dX11_table_27 : decode cX11_table 27 = .ok (.ifCond .ne 11, 3) := by decide +kernel
theorem dX11_table_30 : decode cX11_table 30 = .ok (.aload_n 0, 1) := by decide +kernel
theorem dX11_table_31 : decode cX11_table 31 = .ok (.iload_n 1, 1) := by decide +kernel
theorem dX11_table_32 : decode cX11_table 32 = .ok (.invokevirtual 121, 3) := by decide +kernel
theorem dX11_table_35 : decode cX11_table 35 = .ok (.goto 4, 3) := by decide +kernel
theorem dX11_table_38 : decode cX11_table 38 = .ok (.iconst 0, 1) := by decide +kernel
theorem dX11_table_39 : decode cX11_table 39 = .ok (.ireturn, 1) := by decide +kernel
theorem dX11_setWeight_0 : decode cX11_setWeight 0 = .ok (.aload_n 0, 1) := by decide +kernel
theorem dX11_setWeight_1 : decode cX11_setWeight 1 = .ok (.iload_n 1, 1) := by decide +kernel
theorem dX11_setWeight_2 : decode cX11_setWeight 2 = .ok (.i2l, 1) := by decide +kernel
theorem dX11_setWeight_3 : decode cX11_setWeight 3 = .ok (.lconst 0, 1) := by decide +kernel
theorem dX11_setWeight_4 : decode cX11_setWeight 4 = .ok (.ldc2_w 124, 3) := by decide +kernel
theorem dX11_setWeight_7 : decode cX11_setWeight 7 = .ok (.invokestatic 92, 3) := by decide +kernel
theorem dX11_setWeight_10 : decode cX11_setWeight 10 = .ok (.ifCond .ne 7, 3) := by decide +kernel
theorem dX11_setWeight_13 : decode cX11_setWeight 13 = .ok (.iconst 1, 1) := by decide +kernel
theorem dX11_setWeight_14 : decode cX11_setWeight 14 = .ok (.goto 20, 3) := by decide +kernel
theorem dX11_setWeight_17 : decode cX11_setWeight 17 = .ok (.iload_n 2, 1) := by decide +kernel
theorem dX11_setWeight_18 : decode cX11_setWeight 18 = .ok (.i2l, 1) := by decide +kernel
theorem dX11_setWeight_19 : decode cX11_setWeight 19 = .ok (.lconst 0, 1) := by decide +kernel
theorem dX11_setWeight_20 : decode cX11_setWeight 20 = .ok (.ldc2_w 126, 3) := by decide +kernel
theorem dX11_setWeight_23 : decode cX11_setWeight 23 = .ok (.invokestatic 92, 3) := by decide +kernel
theorem dX11_setWeight_26 : decode cX11_setWeight 26 = .ok (.ifCond .eq 7, 3) := by decide +kernel
theorem dX11_setWeight_29 : decode cX11_setWeight 29 = .ok (.iconst 0, 1) := by decide +kernel
theorem dX11_setWeight_30 : decode cX11_setWeight 30 = .ok (.goto 4, 3) := by decide +kernel
theorem dX11_setWeight_33 : decode cX11_setWeight 33 = .ok (.iconst 2, 1) := by decide +kernel
theorem dX11_setWeight_34 : decode cX11_setWeight 34 = .ok (.putfield 3, 3) := by decide +kernel
theorem dX11_setWeight_37 : decode cX11_setWeight 37 = .ok (.aload_n 0, 1) := by decide +kernel
theorem dX11_setWeight_38 : decode cX11_setWeight 38 = .ok (.getfield 3, 3) := by decide +kernel
theorem dX11_setWeight_41 : decode cX11_setWeight 41 = .ok (.ifCond .eq 5, 3) := by decide +kernel
theorem dX11_setWeight_44 : decode cX11_setWeight 44 = .ok (.iconst 0, 1) := by decide +kernel
theorem dX11_setWeight_45 : decode cX11_setWeight 45 = .ok (.ireturn, 1) := by decide +kernel
theorem dX11_setWeight_46 : decode cX11_setWeight 46 = .ok (.aload_n 0, 1) := by decide +kernel
theorem dX11_setWeight_47 : decode cX11_setWeight 47 = .ok (.invokevirtual 96, 3) := by decide +kernel
theorem dX11_setWeight_50 : decode cX11_setWeight 50 = .ok (.aload_n 0, 1) := by decide +kernel
theorem dX11_setWeight_51 : decode cX11_setWeight 51 = .ok (.getfield 13, 3) := by decide +kernel
theorem dX11_setWeight_54 : decode cX11_setWeight 54 = .ok (.bipush 15, 2) := by decide +kernel
theorem dX11_setWeight_56 : decode cX11_setWeight 56 = .ok (.iload_n 1, 1) := by decide +kernel
theorem dX11_setWeight_57 : decode cX11_setWeight 57 = .ok (.iadd, 1) := by decide +kernel
theorem dX11_setWeight_58 : decode cX11_setWeight 58 = .ok (.iaload, 1) := by decide +kernel
theorem dX11_setWeight_59 : decode cX11_setWeight 59 = .ok (.istore_n 3, 1) := by decide +kernel
theorem dX11_setWeight_60 : decode cX11_setWeight 60 = .ok (.aload_n 0, 1) := by decide +kernel
theorem dX11_setWeight_61 : decode cX11_setWeight 61 = .ok (.getfield 13, 3) := by decide +kernel
theorem dX11_setWeight_64 : decode cX11_setWeight 64 = .ok (.bipush 15, 2) := by decide +kernel
theorem dX11_setWeight_66 : decode cX11_setWeight 66 = .ok (.iload_n 1, 1) := by decide +kernel
theorem dX11_setWeight_67 : decode cX11_setWeight 67 = .ok (.iadd, 1) := by decide +kernel
theorem dX11_setWeight_68 : decode cX11_setWeight 68 = .ok (.iload_n 2, 1) := by decide +kernel
theorem dX11_setWeight_69 : decode cX11_setWeight 69 = .ok (.iastore, 1) := by decide +kernel
theorem dX11_setWeight_70 : decode cX11_setWeight 70 = .ok (.iload_n 3, 1) := by decide +kernel
theorem dX11_setWeight_71 : decode cX11_setWeight 71 = .ok (.ireturn, 1) := by decide +kernel
theorem dX11_gridFirst_0 : decode cX11_gridFirst 0 = .ok (.aload_n 0, 1) := by decide +kernel
theorem dX11_gridFirst_1 : decode cX11_gridFirst 1 = .ok (.getfield 13, 3) := by decide +kernel
theorem dX11_gridFirst_4 : decode cX11_gridFirst 4 = .ok (.bipush 20, 2) := by decide +kernel
theorem dX11_gridFirst_6 : decode cX11_gridFirst 6 = .ok (.iconst 3, 1) := by decide +kernel
theorem dX11_gridFirst_7 : decode cX11_gridFirst 7 = .ok (.iload_n 1, 1) := by decide +kernel
theorem dX11_gridFirst_8 : decode cX11_gridFirst 8 = .ok (.imul, 1) := by decide +kernel
theorem dX11_gridFirst_9 : decode cX11_gridFirst 9 = .ok (.iadd, 1) := by decide +kernel
theorem dX11_gridFirst_10 : decode cX11_gridFirst 10 = .ok (.iaload, 1) := by decide +kernel
theorem dX11_gridFirst_11 : decode cX11_gridFirst 11 = .ok (.ireturn, 1) := by decide +kernel
theorem dX11_gridStep_0 : decode cX11_gridStep 0 = .ok (.aload_n 0, 1) := by decide +kernel
theorem dX11_gridStep_1 : decode cX11_gridStep 1 = .ok (.getfield 13, 3) := by decide +kernel
theorem dX11_gridStep_4 : decode cX11_gridStep 4 = .ok (.bipush 20, 2) := by decide +kernel
theorem dX11_gridStep_6 : decode cX11_gridStep 6 = .ok (.iconst 3, 1) := by decide +kernel
theorem dX11_gridStep_7 : decode cX11_gridStep 7 = .ok (.iload_n 1, 1) := by decide +kernel
theorem dX11_gridStep_8 : decode cX11_gridStep 8 = .ok (.imul, 1) := by decide +kernel
theorem dX11_gridStep_9 : decode cX11_gridStep 9 = .ok (.iadd, 1) := by decide +kernel
theorem dX11_gridStep_10 : decode cX11_gridStep 10 = .ok (.iconst 1, 1) := by decide +kernel
theorem dX11_gridStep_11 : decode cX11_gridStep 11 = .ok (.iadd, 1) := by decide +kernel
theorem dX11_gridStep_12 : decode cX11_gridStep 12 = .ok (.iaload, 1) := by decide +kernel
theorem dX11_gridStep_13 : decode cX11_gridStep 13 = .ok (.ireturn, 1) := by decide +kernel
theorem dX11_gridCount_0 : decode cX11_gridCount 0 = .ok (.aload_n 0, 1) := by decide +kernel
theorem dX11_gridCount_1 : decode cX11_gridCount 1 = .ok (.getfield 13, 3) := by decide +kernel
theorem dX11_gridCount_4 : decode cX11_gridCount 4 = .ok (.bipush 20, 2) := by decide +kernel
theorem dX11_gridCount_6 : decode cX11_gridCount 6 = .ok (.iconst 3, 1) := by decide +kernel
theorem dX11_gridCount_7 : decode cX11_gridCount 7 = .ok (.iload_n 1, 1) := by decide +kernel
theorem dX11_gridCount_8 : decode cX11_gridCount 8 = .ok (.imul, 1) := by decide +kernel
theorem dX11_gridCount_9 : decode cX11_gridCount 9 = .ok (.iadd, 1) := by decide +kernel
theorem dX11_gridCount_10 : decode cX11_gridCount 10 = .ok (.iconst 2, 1) := by decide +kernel
theorem dX11_gridCount_11 : decode cX11_gridCount 11 = .ok (.iadd, 1) := by decide +kernel
theorem dX11_gridCount_12 : decode cX11_gridCount 12 = .ok (.iaload, 1) := by decide +kernel
theorem dX11_gridCount_13 : decode cX11_gridCount 13 = .ok (.ireturn, 1) := by decide +kernel
theorem dX11_triples_0 : decode cX11_triples 0 = .ok (.aload_n 0, 1) := by decide +kernel
theorem dX11_triples_1 : decode cX11_triples 1 = .ok (.iconst 0, 1) := by decide +kernel
theorem dX11_triples_2 : decode cX11_triples 2 = .ok (.invokevirtual 128, 3) := by decide +kernel
theorem dX11_triples_5 : decode cX11_triples 5 = .ok (.aload_n 0, 1) := by decide +kernel
theorem dX11_triples_6 : decode cX11_triples 6 = .ok (.iconst 1, 1) := by decide +kernel
theorem dX11_triples_7 : decode cX11_triples 7 = .ok (.invokevirtual 128, 3) := by decide +kernel
theorem dX11_triples_10 : decode cX11_triples 10 = .ok (.imul, 1) := by decide +kernel
theorem dX11_triples_11 : decode cX11_triples 11 = .ok (.aload_n 0, 1) := by decide +kernel
theorem dX11_triples_12 : decode cX11_triples 12 = .ok (.iconst 2, 1) := by decide +kernel
theorem dX11_triples_13 : decode cX11_triples 13 = .ok (.invokevirtual 128, 3) := by decide +kernel
theorem dX11_triples_16 : decode cX11_triples 16 = .ok (.imul, 1) := by decide +kernel
theorem dX11_triples_17 : decode cX11_triples 17 = .ok (.ireturn, 1) := by decide +kernel
theorem dX11_setGrid_0 : decode cX11_setGrid 0 = .ok (.aload_n 0, 1) := by decide +kernel
theorem dX11_setGrid_1 : decode cX11_setGrid 1 = .ok (.iload_n 1, 1) := by decide +kernel
theorem dX11_setGrid_2 : decode cX11_setGrid 2 = .ok (.i2l, 1) := by decide +kernel
theorem dX11_setGrid_3 : decode cX11_setGrid 3 = .ok (.lconst 0, 1) := by decide +kernel
theorem dX11_setGrid_4 : decode cX11_setGrid 4 = .ok (.ldc2_w 131, 3) := by decide +kernel
theorem dX11_setGrid_7 : decode cX11_setGrid 7 = .ok (.invokestatic 92, 3) := by decide +kernel
theorem dX11_setGrid_10 : decode cX11_setGrid 10 = .ok (.ifCond .ne 7, 3) := by decide +kernel
theorem dX11_setGrid_13 : decode cX11_setGrid 13 = .ok (.iconst 1, 1) := by decide +kernel
theorem dX11_setGrid_14 : decode cX11_setGrid 14 = .ok (.goto 59, 3) := by decide +kernel
theorem dX11_setGrid_17 : decode cX11_setGrid 17 = .ok (.iload_n 2, 1) := by decide +kernel
theorem dX11_setGrid_18 : decode cX11_setGrid 18 = .ok (.i2l, 1) := by decide +kernel
theorem dX11_setGrid_19 : decode cX11_setGrid 19 = .ok (.lconst 0, 1) := by decide +kernel
theorem dX11_setGrid_20 : decode cX11_setGrid 20 = .ok (.ldc2_w 133, 3) := by decide +kernel
theorem dX11_setGrid_23 : decode cX11_setGrid 23 = .ok (.invokestatic 92, 3) := by decide +kernel
theorem dX11_setGrid_26 : decode cX11_setGrid 26 = .ok (.ifCond .eq 42, 3) := by decide +kernel
theorem dX11_setGrid_29 : decode cX11_setGrid 29 = .ok (.iload_n 3, 1) := by decide +kernel
theorem dX11_setGrid_30 : decode cX11_setGrid 30 = .ok (.i2l, 1) := by decide +kernel
theorem dX11_setGrid_31 : decode cX11_setGrid 31 = .ok (.lconst 1, 1) := by decide +kernel
theorem dX11_setGrid_32 : decode cX11_setGrid 32 = .ok (.ldc2_w 135, 3) := by decide +kernel
theorem dX11_setGrid_35 : decode cX11_setGrid 35 = .ok (.invokestatic 92, 3) := by decide +kernel
theorem dX11_setGrid_38 : decode cX11_setGrid 38 = .ok (.ifCond .eq 30, 3) := by decide +kernel
theorem dX11_setGrid_41 : decode cX11_setGrid 41 = .ok (.iload 4, 2) := by decide +kernel
theorem dX11_setGrid_43 : decode cX11_setGrid 43 = .ok (.i2l, 1) := by decide +kernel
theorem dX11_setGrid_44 : decode cX11_setGrid 44 = .ok (.lconst 1, 1) := by decide +kernel
theorem dX11_setGrid_45 : decode cX11_setGrid 45 = .ok (.ldc2_w 137, 3) := by decide +kernel
theorem dX11_setGrid_48 : decode cX11_setGrid 48 = .ok (.invokestatic 92, 3) := by decide +kernel
theorem dX11_setGrid_51 : decode cX11_setGrid 51 = .ok (.ifCond .eq 17, 3) := by decide +kernel
theorem dX11_setGrid_54 : decode cX11_setGrid 54 = .ok (.iload_n 2, 1) := by decide +kernel
theorem dX11_setGrid_55 : decode cX11_setGrid 55 = .ok (.iload_n 3, 1) := by decide +kernel
theorem dX11_setGrid_56 : decode cX11_setGrid 56 = .ok (.iload 4, 2) := by decide +kernel
theorem dX11_setGrid_58 : decode cX11_setGrid 58 = .ok (.iconst 1, 1) := by decide +kernel
theorem dX11_setGrid_59 : decode cX11_setGrid 59 = .ok (.isub, 1) := by decide +kernel
theorem dX11_setGrid_60 : decode cX11_setGrid 60 = .ok (.imul, 1) := by decide +kernel
theorem dX11_setGrid_61 : decode cX11_setGrid 61 = .ok (.iadd, 1) := by decide +kernel
theorem dX11_setGrid_62 : decode cX11_setGrid 62 = .ok (.sipush 999, 3) := by decide +kernel
theorem dX11_setGrid_65 : decode cX11_setGrid 65 = .ok (.if_icmp .le 7, 3) := by decide +kernel
theorem dX11_setGrid_68 : decode cX11_setGrid 68 = .ok (.iconst 2, 1) := by decide +kernel
theorem dX11_setGrid_69 : decode cX11_setGrid 69 = .ok (.goto 4, 3) := by decide +kernel
theorem dX11_setGrid_72 : decode cX11_setGrid 72 = .ok (.iconst 0, 1) := by decide +kernel
theorem dX11_setGrid_73 : decode cX11_setGrid 73 = .ok (.putfield 3, 3) := by decide +kernel
theorem dX11_setGrid_76 : decode cX11_setGrid 76 = .ok (.aload_n 0, 1) := by decide +kernel
theorem dX11_setGrid_77 : decode cX11_setGrid 77 = .ok (.getfield 3, 3) := by decide +kernel
theorem dX11_setGrid_80 : decode cX11_setGrid 80 = .ok (.ifCond .eq 5, 3) := by decide +kernel
theorem dX11_setGrid_83 : decode cX11_setGrid 83 = .ok (.iconst 0, 1) := by decide +kernel
theorem dX11_setGrid_84 : decode cX11_setGrid 84 = .ok (.ireturn, 1) := by decide +kernel
theorem dX11_setGrid_85 : decode cX11_setGrid 85 = .ok (.aload_n 0, 1) := by decide +kernel
theorem dX11_setGrid_86 : decode cX11_setGrid 86 = .ok (.invokevirtual 96, 3) := by decide +kernel
theorem dX11_setGrid_89 : decode cX11_setGrid 89 = .ok (.aload_n 0, 1) := by decide +kernel
theorem dX11_setGrid_90 : decode cX11_setGrid 90 = .ok (.getfield 13, 3) := by decide +kernel
theorem dX11_setGrid_93 : decode cX11_setGrid 93 = .ok (.bipush 20, 2) := by decide +kernel
theorem dX11_setGrid_95 : decode cX11_setGrid 95 = .ok (.iconst 3, 1) := by decide +kernel
theorem dX11_setGrid_96 : decode cX11_setGrid 96 = .ok (.iload_n 1, 1) := by decide +kernel
theorem dX11_setGrid_97 : decode cX11_setGrid 97 = .ok (.imul, 1) := by decide +kernel
theorem dX11_setGrid_98 : decode cX11_setGrid 98 = .ok (.iadd, 1) := by decide +kernel
theorem dX11_setGrid_99 : decode cX11_setGrid 99 = .ok (.iload_n 2, 1) := by decide +kernel
theorem dX11_setGrid_100 : decode cX11_setGrid 100 = .ok (.iastore, 1) := by decide +kernel
theorem dX11_setGrid_101 : decode cX11_setGrid 101 = .ok (.aload_n 0, 1) := by decide +kernel
theorem dX11_setGrid_102 : decode cX11_setGrid 102 = .ok (.getfield 13, 3) := by decide +kernel
theorem dX11_setGrid_105 : decode cX11_setGrid 105 = .ok (.bipush 20, 2) := by decide +kernel
theorem dX11_setGrid_107 : decode cX11_setGrid 107 = .ok (.iconst 3, 1) := by decide +kernel
theorem dX11_setGrid_108 : decode cX11_setGrid 108 = .ok (.iload_n 1, 1) := by decide +kernel
theorem dX11_setGrid_109 : decode cX11_setGrid 109 = .ok (.imul, 1) := by decide +kernel
theorem dX11_setGrid_110 : decode cX11_setGrid 110 = .ok (.iadd, 1) := by decide +kernel
theorem dX11_setGrid_111 : decode cX11_setGrid 111 = .ok (.iconst 1, 1) := by decide +kernel
theorem dX11_setGrid_112 : decode cX11_setGrid 112 = .ok (.iadd, 1) := by decide +kernel
theorem dX11_setGrid_113 : decode cX11_setGrid 113 = .ok (.iload_n 3, 1) := by decide +kernel
theorem dX11_setGrid_114 : decode cX11_setGrid 114 = .ok (.iastore, 1) := by decide +kernel
theorem dX11_setGrid_115 : decode cX11_setGrid 115 = .ok (.aload_n 0, 1) := by decide +kernel
theorem dX11_setGrid_116 : decode cX11_setGrid 116 = .ok (.getfield 13, 3) := by decide +kernel
theorem dX11_setGrid_119 : decode cX11_setGrid 119 = .ok (.bipush 20, 2) := by decide +kernel
theorem dX11_setGrid_121 : decode cX11_setGrid 121 = .ok (.iconst 3, 1) := by decide +kernel
theorem dX11_setGrid_122 : decode cX11_setGrid 122 = .ok (.iload_n 1, 1) := by decide +kernel
theorem dX11_setGrid_123 : decode cX11_setGrid 123 = .ok (.imul, 1) := by decide +kernel
theorem dX11_setGrid_124 : decode cX11_setGrid 124 = .ok (.iadd, 1) := by decide +kernel
theorem dX11_setGrid_125 : decode cX11_setGrid 125 = .ok (.iconst 2, 1) := by decide +kernel
theorem dX11_setGrid_126 : decode cX11_setGrid 126 = .ok (.iadd, 1) := by decide +kernel
theorem dX11_setGrid_127 : decode cX11_setGrid 127 = .ok (.iload 4, 2) := by decide +kernel
theorem dX11_setGrid_129 : decode cX11_setGrid 129 = .ok (.iastore, 1) := by decide +kernel
theorem dX11_setGrid_130 : decode cX11_setGrid 130 = .ok (.aload_n 0, 1) := by decide +kernel
theorem dX11_setGrid_131 : decode cX11_setGrid 131 = .ok (.invokevirtual 139, 3) := by decide +kernel
theorem dX11_setGrid_134 : decode cX11_setGrid 134 = .ok (.ireturn, 1) := by decide +kernel
theorem dX11_append_0 : decode cX11_append 0 = .ok (.aload_n 0, 1) := by decide +kernel
theorem dX11_append_1 : decode cX11_append 1 = .ok (.iconst 0, 1) := by decide +kernel
theorem dX11_append_2 : decode cX11_append 2 = .ok (.putfield 3, 3) := by decide +kernel
theorem dX11_append_5 : decode cX11_append 5 = .ok (.iconst 0, 1) := by decide +kernel
theorem dX11_append_6 : decode cX11_append 6 = .ok (.istore_n 2, 1) := by decide +kernel
theorem dX11_append_7 : decode cX11_append 7 = .ok (.bipush 24, 2) := by decide +kernel
theorem dX11_append_9 : decode cX11_append 9 = .ok (.istore_n 3, 1) := by decide +kernel
theorem dX11_append_10 : decode cX11_append 10 = .ok (.iload_n 3, 1) := by decide +kernel
theorem dX11_append_11 : decode cX11_append 11 = .ok (.ifCond .lt 63, 3) := by decide +kernel
theorem dX11_append_14 : decode cX11_append 14 = .ok (.iload_n 1, 1) := by decide +kernel
theorem dX11_append_15 : decode cX11_append 15 = .ok (.iload_n 3, 1) := by decide +kernel
theorem dX11_append_16 : decode cX11_append 16 = .ok (.ishr, 1) := by decide +kernel
theorem dX11_append_17 : decode cX11_append 17 = .ok (.sipush 255, 3) := by decide +kernel
theorem dX11_append_20 : decode cX11_append 20 = .ok (.iand, 1) := by decide +kernel
theorem dX11_append_21 : decode cX11_append 21 = .ok (.istore 4, 2) := by decide +kernel
theorem dX11_append_23 : decode cX11_append 23 = .ok (.iload_n 2, 1) := by decide +kernel
theorem dX11_append_24 : decode cX11_append 24 = .ok (.iload 4, 2) := by decide +kernel
theorem dX11_append_26 : decode cX11_append 26 = .ok (.ifCond .ne 7, 3) := by decide +kernel
theorem dX11_append_29 : decode cX11_append 29 = .ok (.iconst 0, 1) := by decide +kernel
theorem dX11_append_30 : decode cX11_append 30 = .ok (.goto 4, 3) := by decide +kernel
theorem dX11_append_33 : decode cX11_append 33 = .ok (.iconst 1, 1) := by decide +kernel
theorem dX11_append_34 : decode cX11_append 34 = .ok (.iadd, 1) := by decide +kernel
theorem dX11_append_35 : decode cX11_append 35 = .ok (.istore_n 2, 1) := by decide +kernel
theorem dX11_append_36 : decode cX11_append 36 = .ok (.aload_n 0, 1) := by decide +kernel
theorem dX11_append_37 : decode cX11_append 37 = .ok (.iload 4, 2) := by decide +kernel
theorem dX11_append_39 : decode cX11_append 39 = .ok (.ifCond .eq 22, 3) := by decide +kernel
theorem dX11_append_42 : decode cX11_append 42 = .ok (.iload 4, 2) := by decide +kernel
theorem dX11_append_44 : decode cX11_append 44 = .ok (.i2l, 1) := by decide +kernel
theorem dX11_append_45 : decode cX11_append 45 = .ok (.ldc2_w 142, 3) := by decide +kernel
theorem dX11_append_48 : decode cX11_append 48 = .ok (.ldc2_w 144, 3) := by decide +kernel
theorem dX11_append_51 : decode cX11_append 51 = .ok (.invokestatic 92, 3) := by decide +kernel
theorem dX11_append_54 : decode cX11_append 54 = .ok (.ifCond .ne 7, 3) := by decide +kernel
theorem dX11_append_57 : decode cX11_append 57 = .ok (.iconst 1, 1) := by decide +kernel
theorem dX11_append_58 : decode cX11_append 58 = .ok (.goto 7, 3) := by decide +kernel
theorem dX11_append_61 : decode cX11_append 61 = .ok (.aload_n 0, 1) := by decide +kernel
theorem dX11_append_62 : decode cX11_append 62 = .ok (.getfield 3, 3) := by decide +kernel
theorem dX11_append_65 : decode cX11_append 65 = .ok (.putfield 3, 3) := by decide +kernel
theorem dX11_append_68 : decode cX11_append 68 = .ok (.iinc 3 (-8), 3) := by decide +kernel
theorem dX11_append_71 : decode cX11_append 71 = .ok (.goto (-61), 3) := by decide +kernel
theorem dX11_append_74 : decode cX11_append 74 = .ok (.aload_n 0, 1) := by decide +kernel
theorem dX11_append_75 : decode cX11_append 75 = .ok (.aload_n 0, 1) := by decide +kernel
theorem dX11_append_76 : decode cX11_append 76 = .ok (.getfield 3, 3) := by decide +kernel
theorem dX11_append_79 : decode cX11_append 79 = .ok (.ifCond .ne 18, 3) := by decide +kernel
theorem dX11_append_82 : decode cX11_append 82 = .ok (.aload_n 0, 1) := by decide +kernel
theorem dX11_append_83 : decode cX11_append 83 = .ok (.getfield 146, 3) := by decide +kernel
theorem dX11_append_86 : decode cX11_append 86 = .ok (.iload_n 2, 1) := by decide +kernel
theorem dX11_append_87 : decode cX11_append 87 = .ok (.iadd, 1) := by decide +kernel
theorem dX11_append_88 : decode cX11_append 88 = .ok (.bipush 50, 2) := by decide +kernel
theorem dX11_append_90 : decode cX11_append 90 = .ok (.if_icmp .le 7, 3) := by decide +kernel
theorem dX11_append_93 : decode cX11_append 93 = .ok (.iconst 2, 1) := by decide +kernel
theorem dX11_append_94 : decode cX11_append 94 = .ok (.goto 7, 3) := by decide +kernel
theorem dX11_append_97 : decode cX11_append 97 = .ok (.aload_n 0, 1) := by decide +kernel
theorem dX11_append_98 : decode cX11_append 98 = .ok (.getfield 3, 3) := by decide +kernel
theorem dX11_append_101 : decode cX11_append 101 = .ok (.putfield 3, 3) := by decide +kernel
theorem dX11_append_104 : decode cX11_append 104 = .ok (.aload_n 0, 1) := by decide +kernel
theorem dX11_append_105 : decode cX11_append 105 = .ok (.getfield 3, 3) := by decide +kernel
theorem dX11_append_108 : decode cX11_append 108 = .ok (.ifCond .eq 5, 3) := by decide +kernel
theorem dX11_append_111 : decode cX11_append 111 = .ok (.iconst 0, 1) := by decide +kernel
theorem dX11_append_112 : decode cX11_append 112 = .ok (.ireturn, 1) := by decide +kernel
theorem dX11_append_113 : decode cX11_append 113 = .ok (.bipush 24, 2) := by decide +kernel
theorem dX11_append_115 : decode cX11_append 115 = .ok (.istore_n 3, 1) := by decide +kernel
theorem dX11_append_116 : decode cX11_append 116 = .ok (.iload_n 3, 1) := by decide +kernel
theorem dX11_append_117 : decode cX11_append 117 = .ok (.ifCond .lt 47, 3) := by decide +kernel
theorem dX11_append_120 : decode cX11_append 120 = .ok (.iload_n 1, 1) := by decide +kernel
theorem dX11_append_121 : decode cX11_append 121 = .ok (.iload_n 3, 1) := by decide +kernel
theorem dX11_append_122 : decode cX11_append 122 = .ok (.ishr, 1) := by decide +kernel
theorem dX11_append_123 : decode cX11_append 123 = .ok (.sipush 255, 3) := by decide +kernel
theorem dX11_append_126 : decode cX11_append 126 = .ok (.iand, 1) := by decide +kernel
theorem dX11_append_127 : decode cX11_append 127 = .ok (.istore 4, 2) := by decide +kernel
theorem dX11_append_129 : decode cX11_append 129 = .ok (.iload 4, 2) := by decide +kernel
theorem dX11_append_131 : decode cX11_append 131 = .ok (.ifCond .ne 6, 3) := by decide +kernel
theorem dX11_append_134 : decode cX11_append 134 = .ok (.goto 24, 3) := by decide +kernel
theorem dX11_append_137 : decode cX11_append 137 = .ok (.aload_n 0, 1) := by decide +kernel
theorem dX11_append_138 : decode cX11_append 138 = .ok (.getfield 27, 3) := by decide +kernel
theorem dX11_append_141 : decode cX11_append 141 = .ok (.aload_n 0, 1) := by decide +kernel
theorem dX11_append_142 : decode cX11_append 142 = .ok (.getfield 146, 3) := by decide +kernel
theorem dX11_append_145 : decode cX11_append 145 = .ok (.iload 4, 2) := by decide +kernel
theorem dX11_append_147 : decode cX11_append 147 = .ok (.iastore, 1) := by decide +kernel
theorem dX11_append_148 : decode cX11_append 148 = .ok (.aload_n 0, 1) := by decide +kernel
theorem dX11_append_149 : decode cX11_append 149 = .ok (.dup, 1) := by decide +kernel
theorem dX11_append_150 : decode cX11_append 150 = .ok (.getfield 146, 3) := by decide +kernel
theorem dX11_append_153 : decode cX11_append 153 = .ok (.iconst 1, 1) := by decide +kernel
theorem dX11_append_154 : decode cX11_append 154 = .ok (.iadd, 1) := by decide +kernel
theorem dX11_append_155 : decode cX11_append 155 = .ok (.putfield 146, 3) := by decide +kernel
theorem dX11_append_158 : decode cX11_append 158 = .ok (.iinc 3 (-8), 3) := by decide +kernel
theorem dX11_append_161 : decode cX11_append 161 = .ok (.goto (-45), 3) := by decide +kernel
theorem dX11_append_164 : decode cX11_append 164 = .ok (.aload_n 0, 1) := by decide +kernel
theorem dX11_append_165 : decode cX11_append 165 = .ok (.getfield 146, 3) := by decide +kernel
theorem dX11_append_168 : decode cX11_append 168 = .ok (.ireturn, 1) := by decide +kernel
theorem dX11_here_0 : decode cX11_here 0 = .ok (.aload_n 0, 1) := by decide +kernel
theorem dX11_here_1 : decode cX11_here 1 = .ok (.getfield 149, 3) := by decide +kernel
theorem dX11_here_4 : decode cX11_here 4 = .ok (.aload_n 0, 1) := by decide +kernel
theorem dX11_here_5 : decode cX11_here 5 = .ok (.getfield 146, 3) := by decide +kernel
theorem dX11_here_8 : decode cX11_here 8 = .ok (.if_icmp .ge 15, 3) := by decide +kernel
theorem dX11_here_11 : decode cX11_here 11 = .ok (.aload_n 0, 1) := by decide +kernel
theorem dX11_here_12 : decode cX11_here 12 = .ok (.getfield 27, 3) := by decide +kernel
theorem dX11_here_15 : decode cX11_here 15 = .ok (.aload_n 0, 1) := by decide +kernel
theorem dX11_here_16 : decode cX11_here 16 = .ok (.getfield 149, 3) := by decide +kernel
theorem dX11_here_19 : decode cX11_here 19 = .ok (.iaload, 1) := by decide +kernel
theorem dX11_here_20 : decode cX11_here 20 = .ok (.goto 4, 3) := by decide +kernel
theorem dX11_here_23 : decode cX11_here 23 = .ok (.iconst (-1), 1) := by decide +kernel
theorem dX11_here_24 : decode cX11_here 24 = .ok (.ireturn, 1) := by decide +kernel
theorem dX11_wants_0 : decode cX11_wants 0 = .ok (.aload_n 0, 1) := by decide +kernel
theorem dX11_wants_1 : decode cX11_wants 1 = .ok (.getfield 30, 3) := by decide +kernel
theorem dX11_wants_4 : decode cX11_wants 4 = .ok (.ifCond .ge 19, 3) := by decide +kernel
theorem dX11_wants_7 : decode cX11_wants 7 = .ok (.aload_n 0, 1) := by decide +kernel
theorem dX11_wants_8 : decode cX11_wants 8 = .ok (.invokevirtual 152, 3) := by decide +kernel
theorem dX11_wants_11 : decode cX11_wants 11 = .ok (.iload_n 1, 1) := by decide +kernel
theorem dX11_wants_12 : decode cX11_wants 12 = .ok (.if_icmp .eq 11, 3) := by decide +kernel
theorem dX11_wants_15 : decode cX11_wants 15 = .ok (.aload_n 0, 1) := by decide +kernel
theorem dX11_wants_16 : decode cX11_wants 16 = .ok (.aload_n 0, 1) := by decide +kernel
theorem dX11_wants_17 : decode cX11_wants 17 = .ok (.getfield 149, 3) := by decide +kernel
theorem dX11_wants_20 : decode cX11_wants 20 = .ok (.putfield 30, 3) := by decide +kernel
theorem dX11_wants_23 : decode cX11_wants 23 = .ok (.aload_n 0, 1) := by decide +kernel
theorem dX11_wants_24 : decode cX11_wants 24 = .ok (.dup, 1) := by decide +kernel
theorem dX11_wants_25 : decode cX11_wants 25 = .ok (.getfield 149, 3) := by decide +kernel
theorem dX11_wants_28 : decode cX11_wants 28 = .ok (.iconst 1, 1) := by decide +kernel
theorem dX11_wants_29 : decode cX11_wants 29 = .ok (.iadd, 1) := by decide +kernel
theorem dX11_wants_30 : decode cX11_wants 30 = .ok (.putfield 149, 3) := by decide +kernel
theorem dX11_wants_33 : decode cX11_wants 33 = .ok (.return_, 1) := by decide +kernel
theorem dX11_number_0 : decode cX11_number 0 = .ok (.aload_n 0, 1) := by decide +kernel
theorem dX11_number_1 : decode cX11_number 1 = .ok (.getfield 149, 3) := by decide +kernel
theorem dX11_number_4 : decode cX11_number 4 = .ok (.istore_n 3, 1) := by decide +kernel
theorem dX11_number_5 : decode cX11_number 5 = .ok (.aload_n 0, 1) := by decide +kernel
theorem dX11_number_6 : decode cX11_number 6 = .ok (.getfield 30, 3) := by decide +kernel
theorem dX11_number_9 : decode cX11_number 9 = .ok (.ifCond .ge 28, 3) := by decide +kernel
theorem dX11_number_12 : decode cX11_number 12 = .ok (.aload_n 0, 1) := by decide +kernel
theorem dX11_number_13 : decode cX11_number 13 = .ok (.invokevirtual 152, 3) := by decide +kernel
theorem dX11_number_16 : decode cX11_number 16 = .ok (.i2l, 1) := by decide +kernel
theorem dX11_number_17 : decode cX11_number 17 = .ok (.ldc2_w 155, 3) := by decide +kernel
theorem dX11_number_20 : decode cX11_number 20 = .ok (.ldc2_w 157, 3) := by decide +kernel
theorem dX11_number_23 : decode cX11_number 23 = .ok (.invokestatic 92, 3) := by decide +kernel
theorem dX11_number_26 : decode cX11_number 26 = .ok (.ifCond .ne 11, 3) := by decide +kernel
theorem dX11_number_29 : decode cX11_number 29 = .ok (.aload_n 0, 1) := by decide +kernel
theorem dX11_number_30 : decode cX11_number 30 = .ok (.aload_n 0, 1) := by decide +kernel
theorem dX11_number_31 : decode cX11_number 31 = .ok (.getfield 149, 3) := by decide +kernel
theorem dX11_number_34 : decode cX11_number 34 = .ok (.putfield 30, 3) := by decide +kernel
theorem dX11_number_37 : decode cX11_number 37 = .ok (.aload_n 0, 1) := by decide +kernel
theorem dX11_number_38 : decode cX11_number 38 = .ok (.getfield 30, 3) := by decide +kernel
theorem dX11_number_41 : decode cX11_number 41 = .ok (.ifCond .lt 5, 3) := by decide +kernel
theorem dX11_number_44 : decode cX11_number 44 = .ok (.iconst 0, 1) := by decide +kernel
theorem dX11_number_45 : decode cX11_number 45 = .ok (.ireturn, 1) := by decide +kernel
theorem dX11_number_46 : decode cX11_number 46 = .ok (.aload_n 0, 1) := by decide +kernel
theorem dX11_number_47 : decode cX11_number 47 = .ok (.invokevirtual 152, 3) := by decide +kernel
theorem dX11_number_50 : decode cX11_number 50 = .ok (.bipush 48, 2) := by decide +kernel
theorem dX11_number_52 : decode cX11_number 52 = .ok (.isub, 1) := by decide +kernel
theorem dX11_number_53 : decode cX11_number 53 = .ok (.istore 4, 2) := by decide +kernel
theorem dX11_number_55 : decode cX11_number 55 = .ok (.aload_n 0, 1) := by decide +kernel
theorem dX11_number_56 : decode cX11_number 56 = .ok (.dup, 1) := by decide +kernel
theorem dX11_number_57 : decode cX11_number 57 = .ok (.getfield 149, 3) := by decide +kernel
theorem dX11_number_60 : decode cX11_number 60 = .ok (.iconst 1, 1) := by decide +kernel
theorem dX11_number_61 : decode cX11_number 61 = .ok (.iadd, 1) := by decide +kernel
theorem dX11_number_62 : decode cX11_number 62 = .ok (.putfield 149, 3) := by decide +kernel
theorem dX11_number_65 : decode cX11_number 65 = .ok (.iconst 1, 1) := by decide +kernel
theorem dX11_number_66 : decode cX11_number 66 = .ok (.istore 5, 2) := by decide +kernel
theorem dX11_number_68 : decode cX11_number 68 = .ok (.iload 5, 2) := by decide +kernel
theorem dX11_number_70 : decode cX11_number 70 = .ok (.iconst 3, 1) := by decide +kernel
theorem dX11_number_71 : decode cX11_number 71 = .ok (.if_icmp .ge 56, 3) := by decide +kernel
theorem dX11_number_74 : decode cX11_number 74 = .ok (.iload 4, 2) := by decide +kernel
theorem dX11_number_76 : decode cX11_number 76 = .ok (.ifCond .eq 51, 3) := by decide +kernel
theorem dX11_number_79 : decode cX11_number 79 = .ok (.aload_n 0, 1) := by decide +kernel
theorem dX11_number_80 : decode cX11_number 80 = .ok (.invokevirtual 152, 3) := by decide +kernel
theorem dX11_number_83 : decode cX11_number 83 = .ok (.i2l, 1) := by decide +kernel
theorem dX11_number_84 : decode cX11_number 84 = .ok (.ldc2_w 155, 3) := by decide +kernel
theorem dX11_number_87 : decode cX11_number 87 = .ok (.ldc2_w 157, 3) := by decide +kernel
theorem dX11_number_90 : decode cX11_number 90 = .ok (.invokestatic 92, 3) := by decide +kernel
theorem dX11_number_93 : decode cX11_number 93 = .ok (.ifCond .eq 34, 3) := by decide +kernel
theorem dX11_number_96 : decode cX11_number 96 = .ok (.bipush 10, 2) := by decide +kernel
theorem dX11_number_98 : decode cX11_number 98 = .ok (.iload 4, 2) := by decide +kernel
theorem dX11_number_100 : decode cX11_number 100 = .ok (.imul, 1) := by decide +kernel
theorem dX11_number_101 : decode cX11_number 101 = .ok (.aload_n 0, 1) := by decide +kernel
theorem dX11_number_102 : decode cX11_number 102 = .ok (.invokevirtual 152, 3) := by decide +kernel
theorem dX11_number_105 : decode cX11_number 105 = .ok (.iadd, 1) := by decide +kernel
theorem dX11_number_106 : decode cX11_number 106 = .ok (.bipush 48, 2) := by decide +kernel
theorem dX11_number_108 : decode cX11_number 108 = .ok (.isub, 1) := by decide +kernel
theorem dX11_number_109 : decode cX11_number 109 = .ok (.istore 4, 2) := by decide +kernel
theorem dX11_number_111 : decode cX11_number 111 = .ok (.aload_n 0, 1) := by decide +kernel
theorem dX11_number_112 : decode cX11_number 112 = .ok (.dup, 1) := by decide +kernel
theorem dX11_number_113 : decode cX11_number 113 = .ok (.getfield 149, 3) := by decide +kernel
theorem dX11_number_116 : decode cX11_number 116 = .ok (.iconst 1, 1) := by decide +kernel
theorem dX11_number_117 : decode cX11_number 117 = .ok (.iadd, 1) := by decide +kernel
theorem dX11_number_118 : decode cX11_number 118 = .ok (.putfield 149, 3) := by decide +kernel
theorem dX11_number_121 : decode cX11_number 121 = .ok (.iinc 5 1, 3) := by decide +kernel
theorem dX11_number_124 : decode cX11_number 124 = .ok (.goto (-56), 3) := by decide +kernel
theorem dX11_number_127 : decode cX11_number 127 = .ok (.iload 4, 2) := by decide +kernel
theorem dX11_number_129 : decode cX11_number 129 = .ok (.i2l, 1) := by decide +kernel
theorem dX11_number_130 : decode cX11_number 130 = .ok (.iload_n 1, 1) := by decide +kernel
theorem dX11_number_131 : decode cX11_number 131 = .ok (.i2l, 1) := by decide +kernel
theorem dX11_number_132 : decode cX11_number 132 = .ok (.iload_n 2, 1) := by decide +kernel
theorem dX11_number_133 : decode cX11_number 133 = .ok (.i2l, 1) := by decide +kernel
theorem dX11_number_134 : decode cX11_number 134 = .ok (.invokestatic 92, 3) := by decide +kernel
theorem dX11_number_137 : decode cX11_number 137 = .ok (.ifCond .ne 8, 3) := by decide +kernel
theorem dX11_number_140 : decode cX11_number 140 = .ok (.aload_n 0, 1) := by decide +kernel
theorem dX11_number_141 : decode cX11_number 141 = .ok (.iload_n 3, 1) := by decide +kernel
theorem dX11_number_142 : decode cX11_number 142 = .ok (.putfield 30, 3) := by decide +kernel
theorem dX11_number_145 : decode cX11_number 145 = .ok (.iload 4, 2) := by decide +kernel
theorem dX11_number_147 : decode cX11_number 147 = .ok (.ireturn, 1) := by decide +kernel
theorem dX11_signed_0 : decode cX11_signed 0 = .ok (.aload_n 0, 1) := by decide +kernel
theorem dX11_signed_1 : decode cX11_signed 1 = .ok (.getfield 30, 3) := by decide +kernel
theorem dX11_signed_4 : decode cX11_signed 4 = .ok (.ifCond .ge 16, 3) := by decide +kernel
theorem dX11_signed_7 : decode cX11_signed 7 = .ok (.aload_n 0, 1) := by decide +kernel
theorem dX11_signed_8 : decode cX11_signed 8 = .ok (.invokevirtual 152, 3) := by decide +kernel
theorem dX11_signed_11 : decode cX11_signed 11 = .ok (.bipush 45, 2) := by decide +kernel
theorem dX11_signed_13 : decode cX11_signed 13 = .ok (.if_icmp .ne 7, 3) := by decide +kernel
theorem dX11_signed_16 : decode cX11_signed 16 = .ok (.iconst 1, 1) := by decide +kernel
theorem dX11_signed_17 : decode cX11_signed 17 = .ok (.goto 4, 3) := by decide +kernel
theorem dX11_signed_20 : decode cX11_signed 20 = .ok (.iconst 0, 1) := by decide +kernel
theorem dX11_signed_21 : decode cX11_signed 21 = .ok (.istore_n 2, 1) := by decide +kernel
theorem dX11_signed_22 : decode cX11_signed 22 = .ok (.iload_n 2, 1) := by decide +kernel
theorem dX11_signed_23 : decode cX11_signed 23 = .ok (.ifCond .eq 13, 3) := by decide +kernel
theorem dX11_signed_26 : decode cX11_signed 26 = .ok (.aload_n 0, 1) := by decide +kernel
theorem dX11_signed_27 : decode cX11_signed 27 = .ok (.dup, 1) := by decide +kernel
theorem dX11_signed_28 : decode cX11_signed 28 = .ok (.getfield 149, 3) := by decide +kernel
theorem dX11_signed_31 : decode cX11_signed 31 = .ok (.iconst 1, 1) := by decide +kernel
theorem dX11_signed_32 : decode cX11_signed 32 = .ok (.iadd, 1) := by decide +kernel
theorem dX11_signed_33 : decode cX11_signed 33 = .ok (.putfield 149, 3) := by decide +kernel
theorem dX11_signed_36 : decode cX11_signed 36 = .ok (.aload_n 0, 1) := by decide +kernel
theorem dX11_signed_37 : decode cX11_signed 37 = .ok (.iconst 0, 1) := by decide +kernel
theorem dX11_signed_38 : decode cX11_signed 38 = .ok (.iload_n 1, 1) := by decide +kernel
theorem dX11_signed_39 : decode cX11_signed 39 = .ok (.invokevirtual 159, 3) := by decide +kernel
theorem dX11_signed_42 : decode cX11_signed 42 = .ok (.istore_n 3, 1) := by decide +kernel
theorem dX11_signed_43 : decode cX11_signed 43 = .ok (.iload_n 2, 1) := by decide +kernel
theorem dX11_signed_44 : decode cX11_signed 44 = .ok (.ifCond .eq 8, 3) := by decide +kernel
theorem dX11_signed_47 : decode cX11_signed 47 = .ok (.iload_n 3, 1) := by decide +kernel
theorem dX11_signed_48 : decode cX11_signed 48 = .ok (.ineg, 1) := by decide +kernel
theorem dX11_signed_49 : decode cX11_signed 49 = .ok (.goto 4, 3) := by decide +kernel
theorem dX11_signed_52 : decode cX11_signed 52 = .ok (.iload_n 3, 1) := by decide +kernel
theorem dX11_signed_53 : decode cX11_signed 53 = .ok (.ireturn, 1) := by decide +kernel
theorem dX11_part_0 : decode cX11_part 0 = .ok (.aload_n 0, 1) := by decide +kernel
theorem dX11_part_1 : decode cX11_part 1 = .ok (.invokevirtual 152, 3) := by decide +kernel
theorem dX11_part_4 : decode cX11_part 4 = .ok (.istore_n 1, 1) := by decide +kernel
theorem dX11_part_5 : decode cX11_part 5 = .ok (.iload_n 1, 1) := by decide +kernel
theorem dX11_part_6 : decode cX11_part 6 = .ok (.bipush 115, 2) := by decide +kernel
theorem dX11_part_8 : decode cX11_part 8 = .ok (.if_icmp .ne 7, 3) := by decide +kernel
theorem dX11_part_11 : decode cX11_part 11 = .ok (.iconst 0, 1) := by decide +kernel
theorem dX11_part_12 : decode cX11_part 12 = .ok (.goto 34, 3) := by decide +kernel
theorem dX11_part_15 : decode cX11_part 15 = .ok (.iload_n 1, 1) := by decide +kernel
theorem dX11_part_16 : decode cX11_part 16 = .ok (.bipush 98, 2) := by decide +kernel
theorem dX11_part_18 : decode cX11_part 18 = .ok (.if_icmp .ne 7, 3) := by decide +kernel
theorem dX11_part_21 : decode cX11_part 21 = .ok (.iconst 1, 1) := by decide +kernel
theorem dX11_part_22 : decode cX11_part 22 = .ok (.goto 24, 3) := by decide +kernel
theorem dX11_part_25 : decode cX11_part 25 = .ok (.iload_n 1, 1) := by decide +kernel
theorem dX11_part_26 : decode cX11_part 26 = .ok (.bipush 114, 2) := by decide +kernel
theorem dX11_part_28 : decode cX11_part 28 = .ok (.if_icmp .ne 7, 3) := by decide +kernel
theorem dX11_part_31 : decode cX11_part 31 = .ok (.iconst 2, 1) := by decide +kernel
theorem dX11_part_32 : decode cX11_part 32 = .ok (.goto 14, 3) := by decide +kernel
theorem dX11_part_35 : decode cX11_part 35 = .ok (.iload_n 1, 1) := by decide +kernel
theorem dX11_part_36 : decode cX11_part 36 = .ok (.bipush 112, 2) := by decide +kernel
theorem dX11_part_38 : decode cX11_part 38 = .ok (.if_icmp .ne 7, 3) := by decide +kernel
theorem dX11_part_41 : decode cX11_part 41 = .ok (.iconst 3, 1) := by decide +kernel
theorem dX11_part_42 : decode cX11_part 42 = .ok (.goto 4, 3) := by decide +kernel
theorem dX11_part_45 : decode cX11_part 45 = .ok (.iconst (-1), 1) := by decide +kernel
theorem dX11_part_46 : decode cX11_part 46 = .ok (.istore_n 2, 1) := by decide +kernel
theorem dX11_part_47 : decode cX11_part 47 = .ok (.iload_n 2, 1) := by decide +kernel
theorem dX11_part_48 : decode cX11_part 48 = .ok (.ifCond .lt 40, 3) := by decide +kernel
theorem dX11_part_51 : decode cX11_part 51 = .ok (.iload_n 2, 1) := by decide +kernel
theorem dX11_part_52 : decode cX11_part 52 = .ok (.iconst 3, 1) := by decide +kernel
theorem dX11_part_53 : decode cX11_part 53 = .ok (.if_icmp .ne 14, 3) := by decide +kernel
theorem dX11_part_56 : decode cX11_part 56 = .ok (.aload_n 0, 1) := by decide +kernel
theorem dX11_part_57 : decode cX11_part 57 = .ok (.getfield 33, 3) := by decide +kernel
theorem dX11_part_60 : decode cX11_part 60 = .ok (.bipush 65, 2) := by decide +kernel
theorem dX11_part_62 : decode cX11_part 62 = .ok (.iaload, 1) := by decide +kernel
theorem dX11_part_63 : decode cX11_part 63 = .ok (.iconst 4, 1) := by decide +kernel
theorem dX11_part_64 : decode cX11_part 64 = .ok (.if_icmp .eq 24, 3) := by decide +kernel
theorem dX11_part_67 : decode cX11_part 67 = .ok (.iload_n 2, 1) := by decide +kernel
theorem dX11_part_68 : decode cX11_part 68 = .ok (.ifCond .lt 29, 3) := by decide +kernel
theorem dX11_part_71 : decode cX11_part 71 = .ok (.iload_n 2, 1) := by decide +kernel
theorem dX11_part_72 : decode cX11_part 72 = .ok (.iconst 3, 1) := by decide +kernel
theorem dX11_part_73 : decode cX11_part 73 = .ok (.if_icmp .ge 24, 3) := by decide +kernel
theorem dX11_part_76 : decode cX11_part 76 = .ok (.aload_n 0, 1) := by decide +kernel
theorem dX11_part_77 : decode cX11_part 77 = .ok (.getfield 33, 3) := by decide +kernel
theorem dX11_part_80 : decode cX11_part 80 = .ok (.bipush 40, 2) := by decide +kernel
theorem dX11_part_82 : decode cX11_part 82 = .ok (.iaload, 1) := by decide +kernel
theorem dX11_part_83 : decode cX11_part 83 = .ok (.bipush 8, 2) := by decide +kernel
theorem dX11_part_85 : decode cX11_part 85 = .ok (.if_icmp .ne 12, 3) := by decide +kernel
theorem dX11_part_88 : decode cX11_part 88 = .ok (.aload_n 0, 1) := by decide +kernel
theorem dX11_part_89 : decode cX11_part 89 = .ok (.aload_n 0, 1) := by decide +kernel
theorem dX11_part_90 : decode cX11_part 90 = .ok (.getfield 149, 3) := by decide +kernel
theorem dX11_part_93 : decode cX11_part 93 = .ok (.putfield 30, 3) := by decide +kernel
theorem dX11_part_96 : decode cX11_part 96 = .ok (.return_, 1) := by decide +kernel
theorem dX11_part_97 : decode cX11_part 97 = .ok (.aload_n 0, 1) := by decide +kernel
theorem dX11_part_98 : decode cX11_part 98 = .ok (.dup, 1) := by decide +kernel
theorem dX11_part_99 : decode cX11_part 99 = .ok (.getfield 149, 3) := by decide +kernel
theorem dX11_part_102 : decode cX11_part 102 = .ok (.iconst 1, 1) := by decide +kernel
theorem dX11_part_103 : decode cX11_part 103 = .ok (.iadd, 1) := by decide +kernel
theorem dX11_part_104 : decode cX11_part 104 = .ok (.putfield 149, 3) := by decide +kernel
theorem dX11_part_107 : decode cX11_part 107 = .ok (.iload_n 2, 1) := by decide +kernel
theorem dX11_part_108 : decode cX11_part 108 = .ok (.iconst 3, 1) := by decide +kernel
theorem dX11_part_109 : decode cX11_part 109 = .ok (.if_icmp .ne 18, 3) := by decide +kernel
theorem dX11_part_112 : decode cX11_part 112 = .ok (.bipush 66, 2) := by decide +kernel
theorem dX11_part_114 : decode cX11_part 114 = .ok (.iconst 3, 1) := by decide +kernel
theorem dX11_part_115 : decode cX11_part 115 = .ok (.aload_n 0, 1) := by decide +kernel
theorem dX11_part_116 : decode cX11_part 116 = .ok (.getfield 33, 3) := by decide +kernel
theorem dX11_part_119 : decode cX11_part 119 = .ok (.bipush 65, 2) := by decide +kernel
theorem dX11_part_121 : decode cX11_part 121 = .ok (.iaload, 1) := by decide +kernel
theorem dX11_part_122 : decode cX11_part 122 = .ok (.imul, 1) := by decide +kernel
theorem dX11_part_123 : decode cX11_part 123 = .ok (.iadd, 1) := by decide +kernel
theorem dX11_part_124 : decode cX11_part 124 = .ok (.goto 15, 3) := by decide +kernel
theorem dX11_part_127 : decode cX11_part 127 = .ok (.bipush 41, 2) := by decide +kernel
theorem dX11_part_129 : decode cX11_part 129 = .ok (.iconst 3, 1) := by decide +kernel
theorem dX11_part_130 : decode cX11_part 130 = .ok (.aload_n 0, 1) := by decide +kernel
theorem dX11_part_131 : decode cX11_part 131 = .ok (.getfield 33, 3) := by decide +kernel
theorem dX11_part_134 : decode cX11_part 134 = .ok (.bipush 40, 2) := by decide +kernel
theorem dX11_part_136 : decode cX11_part 136 = .ok (.iaload, 1) := by decide +kernel
theorem dX11_part_137 : decode cX11_part 137 = .ok (.imul, 1) := by decide +kernel
theorem dX11_part_138 : decode cX11_part 138 = .ok (.iadd, 1) := by decide +kernel
theorem dX11_part_139 : decode cX11_part 139 = .ok (.istore_n 3, 1) := by decide +kernel
theorem dX11_part_140 : decode cX11_part 140 = .ok (.iload_n 2, 1) := by decide +kernel
theorem dX11_part_141 : decode cX11_part 141 = .ok (.iconst 3, 1) := by decide +kernel
theorem dX11_part_142 : decode cX11_part 142 = .ok (.if_icmp .ne 73, 3) := by decide +kernel
theorem dX11_part_145 : decode cX11_part 145 = .ok (.aload_n 0, 1) := by decide +kernel
theorem dX11_part_146 : decode cX11_part 146 = .ok (.getfield 33, 3) := by decide +kernel
theorem dX11_part_149 : decode cX11_part 149 = .ok (.iload_n 3, 1) := by decide +kernel
theorem dX11_part_150 : decode cX11_part 150 = .ok (.aload_n 0, 1) := by decide +kernel
theorem dX11_part_151 : decode cX11_part 151 = .ok (.iconst 0, 1) := by decide +kernel
theorem dX11_part_152 : decode cX11_part 152 = .ok (.sipush 199, 3) := by decide +kernel
theorem dX11_part_155 : decode cX11_part 155 = .ok (.invokevirtual 159, 3) := by decide +kernel
theorem dX11_part_158 : decode cX11_part 158 = .ok (.iastore, 1) := by decide +kernel
theorem dX11_part_159 : decode cX11_part 159 = .ok (.aload_n 0, 1) := by decide +kernel
theorem dX11_part_160 : decode cX11_part 160 = .ok (.bipush 58, 2) := by decide +kernel
theorem dX11_part_162 : decode cX11_part 162 = .ok (.invokevirtual 163, 3) := by decide +kernel
theorem dX11_part_165 : decode cX11_part 165 = .ok (.aload_n 0, 1) := by decide +kernel
theorem dX11_part_166 : decode cX11_part 166 = .ok (.getfield 33, 3) := by decide +kernel
theorem dX11_part_169 : decode cX11_part 169 = .ok (.iload_n 3, 1) := by decide +kernel
theorem dX11_part_170 : decode cX11_part 170 = .ok (.iconst 1, 1) := by decide +kernel
theorem dX11_part_171 : decode cX11_part 171 = .ok (.iadd, 1) := by decide +kernel
theorem dX11_part_172 : decode cX11_part 172 = .ok (.aload_n 0, 1) := by decide +kernel
theorem dX11_part_173 : decode cX11_part 173 = .ok (.sipush 500, 3) := by decide +kernel
theorem dX11_part_176 : decode cX11_part 176 = .ok (.invokevirtual 167, 3) := by decide +kernel
theorem dX11_part_179 : decode cX11_part 179 = .ok (.iastore, 1) := by decide +kernel
theorem dX11_part_180 : decode cX11_part 180 = .ok (.aload_n 0, 1) := by decide +kernel
theorem dX11_part_181 : decode cX11_part 181 = .ok (.bipush 42, 2) := by decide +kernel
theorem dX11_part_183 : decode cX11_part 183 = .ok (.invokevirtual 163, 3) := by decide +kernel
theorem dX11_part_186 : decode cX11_part 186 = .ok (.aload_n 0, 1) := by decide +kernel
theorem dX11_part_187 : decode cX11_part 187 = .ok (.getfield 33, 3) := by decide +kernel
theorem dX11_part_190 : decode cX11_part 190 = .ok (.iload_n 3, 1) := by decide +kernel
theorem dX11_part_191 : decode cX11_part 191 = .ok (.iconst 2, 1) := by decide +kernel
theorem dX11_part_192 : decode cX11_part 192 = .ok (.iadd, 1) := by decide +kernel
theorem dX11_part_193 : decode cX11_part 193 = .ok (.aload_n 0, 1) := by decide +kernel
theorem dX11_part_194 : decode cX11_part 194 = .ok (.iconst 1, 1) := by decide +kernel
theorem dX11_part_195 : decode cX11_part 195 = .ok (.bipush 99, 2) := by decide +kernel
theorem dX11_part_197 : decode cX11_part 197 = .ok (.invokevirtual 159, 3) := by decide +kernel
theorem dX11_part_200 : decode cX11_part 200 = .ok (.iastore, 1) := by decide +kernel
theorem dX11_part_201 : decode cX11_part 201 = .ok (.aload_n 0, 1) := by decide +kernel
theorem dX11_part_202 : decode cX11_part 202 = .ok (.getfield 33, 3) := by decide +kernel
theorem dX11_part_205 : decode cX11_part 205 = .ok (.bipush 65, 2) := by decide +kernel
theorem dX11_part_207 : decode cX11_part 207 = .ok (.dup2, 1) := by decide +kernel
theorem dX11_part_208 : decode cX11_part 208 = .ok (.iaload, 1) := by decide +kernel
theorem dX11_part_209 : decode cX11_part 209 = .ok (.iconst 1, 1) := by decide +kernel
theorem dX11_part_210 : decode cX11_part 210 = .ok (.iadd, 1) := by decide +kernel
theorem dX11_part_211 : decode cX11_part 211 = .ok (.iastore, 1) := by decide +kernel
theorem dX11_part_212 : decode cX11_part 212 = .ok (.goto 69, 3) := by decide +kernel
theorem dX11_part_215 : decode cX11_part 215 = .ok (.aload_n 0, 1) := by decide +kernel
theorem dX11_part_216 : decode cX11_part 216 = .ok (.getfield 33, 3) := by decide +kernel
theorem dX11_part_219 : decode cX11_part 219 = .ok (.iload_n 3, 1) := by decide +kernel
theorem dX11_part_220 : decode cX11_part 220 = .ok (.iload_n 2, 1) := by decide +kernel
theorem dX11_part_221 : decode cX11_part 221 = .ok (.iastore, 1) := by decide +kernel
theorem dX11_part_222 : decode cX11_part 222 = .ok (.aload_n 0, 1) := by decide +kernel
theorem dX11_part_223 : decode cX11_part 223 = .ok (.getfield 33, 3) := by decide +kernel
theorem dX11_part_226 : decode cX11_part 226 = .ok (.iload_n 3, 1) := by decide +kernel
theorem dX11_part_227 : decode cX11_part 227 = .ok (.iconst 1, 1) := by decide +kernel
theorem dX11_part_228 : decode cX11_part 228 = .ok (.iadd, 1) := by decide +kernel
theorem dX11_part_229 : decode cX11_part 229 = .ok (.aload_n 0, 1) := by decide +kernel
theorem dX11_part_230 : decode cX11_part 230 = .ok (.iconst 1, 1) := by decide +kernel
theorem dX11_part_231 : decode cX11_part 231 = .ok (.bipush 99, 2) := by decide +kernel
theorem dX11_part_233 : decode cX11_part 233 = .ok (.invokevirtual 159, 3) := by decide +kernel
theorem dX11_part_236 : decode cX11_part 236 = .ok (.iastore, 1) := by decide +kernel
theorem dX11_part_237 : decode cX11_part 237 = .ok (.aload_n 0, 1) := by decide +kernel
theorem dX11_part_238 : decode cX11_part 238 = .ok (.getfield 33, 3) := by decide +kernel
theorem dX11_part_241 : decode cX11_part 241 = .ok (.iload_n 3, 1) := by decide +kernel
theorem dX11_part_242 : decode cX11_part 242 = .ok (.iconst 2, 1) := by decide +kernel
theorem dX11_part_243 : decode cX11_part 243 = .ok (.iadd, 1) := by decide +kernel
theorem dX11_part_244 : decode cX11_part 244 = .ok (.iconst 0, 1) := by decide +kernel
theorem dX11_part_245 : decode cX11_part 245 = .ok (.iastore, 1) := by decide +kernel
theorem dX11_part_246 : decode cX11_part 246 = .ok (.iload_n 2, 1) := by decide +kernel
theorem dX11_part_247 : decode cX11_part 247 = .ok (.ifCond .le 23, 3) := by decide +kernel
theorem dX11_part_250 : decode cX11_part 250 = .ok (.aload_n 0, 1) := by decide +kernel
theorem dX11_part_251 : decode cX11_part 251 = .ok (.bipush 58, 2) := by decide +kernel
theorem dX11_part_253 : decode cX11_part 253 = .ok (.invokevirtual 163, 3) := by decide +kernel
theorem dX11_part_256 : decode cX11_part 256 = .ok (.aload_n 0, 1) := by decide +kernel
theorem dX11_part_257 : decode cX11_part 257 = .ok (.getfield 33, 3) := by decide +kernel
theorem dX11_part_260 : decode cX11_part 260 = .ok (.iload_n 3, 1) := by decide +kernel
theorem dX11_part_261 : decode cX11_part 261 = .ok (.iconst 2, 1) := by decide +kernel
theorem dX11_part_262 : decode cX11_part 262 = .ok (.iadd, 1) := by decide +kernel
theorem dX11_part_263 : decode cX11_part 263 = .ok (.aload_n 0, 1) := by decide +kernel
theorem dX11_part_264 : decode cX11_part 264 = .ok (.bipush 50, 2) := by decide +kernel
theorem dX11_part_266 : decode cX11_part 266 = .ok (.invokevirtual 167, 3) := by decide +kernel
theorem dX11_part_269 : decode cX11_part 269 = .ok (.iastore, 1) := by decide +kernel
theorem dX11_part_270 : decode cX11_part 270 = .ok (.aload_n 0, 1) := by decide +kernel
theorem dX11_part_271 : decode cX11_part 271 = .ok (.getfield 33, 3) := by decide +kernel
theorem dX11_part_274 : decode cX11_part 274 = .ok (.bipush 40, 2) := by decide +kernel
theorem dX11_part_276 : decode cX11_part 276 = .ok (.dup2, 1) := by decide +kernel
theorem dX11_part_277 : decode cX11_part 277 = .ok (.iaload, 1) := by decide +kernel
theorem dX11_part_278 : decode cX11_part 278 = .ok (.iconst 1, 1) := by decide +kernel
theorem dX11_part_279 : decode cX11_part 279 = .ok (.iadd, 1) := by decide +kernel
theorem dX11_part_280 : decode cX11_part 280 = .ok (.iastore, 1) := by decide +kernel
theorem dX11_part_281 : decode cX11_part 281 = .ok (.aload_n 0, 1) := by decide +kernel
theorem dX11_part_282 : decode cX11_part 282 = .ok (.dup, 1) := by decide +kernel
theorem dX11_part_283 : decode cX11_part 283 = .ok (.getfield 170, 3) := by decide +kernel
theorem dX11_part_286 : decode cX11_part 286 = .ok (.iconst 1, 1) := by decide +kernel
theorem dX11_part_287 : decode cX11_part 287 = .ok (.iadd, 1) := by decide +kernel
theorem dX11_part_288 : decode cX11_part 288 = .ok (.putfield 170, 3) := by decide +kernel
theorem dX11_part_291 : decode cX11_part 291 = .ok (.return_, 1) := by decide +kernel
theorem dX11_load_0 : decode cX11_load 0 = .ok (.aload_n 0, 1) := by decide +kernel
theorem dX11_load_1 : decode cX11_load 1 = .ok (.iconst 0, 1) := by decide +kernel
theorem dX11_load_2 : decode cX11_load 2 = .ok (.putfield 149, 3) := by decide +kernel
theorem dX11_load_5 : decode cX11_load 5 = .ok (.aload_n 0, 1) := by decide +kernel
theorem dX11_load_6 : decode cX11_load 6 = .ok (.iconst (-1), 1) := by decide +kernel
theorem dX11_load_7 : decode cX11_load 7 = .ok (.putfield 30, 3) := by decide +kernel
theorem dX11_load_10 : decode cX11_load 10 = .ok (.aload_n 0, 1) := by decide +kernel
theorem dX11_load_11 : decode cX11_load 11 = .ok (.iconst 0, 1) := by decide +kernel
theorem dX11_load_12 : decode cX11_load 12 = .ok (.putfield 170, 3) := by decide +kernel
theorem dX11_load_15 : decode cX11_load 15 = .ok (.aload_n 0, 1) := by decide +kernel
theorem dX11_load_16 : decode cX11_load 16 = .ok (.getfield 33, 3) := by decide +kernel
theorem dX11_load_19 : decode cX11_load 19 = .ok (.bipush 40, 2) := by decide +kernel
theorem dX11_load_21 : decode cX11_load 21 = .ok (.iconst 0, 1) := by decide +kernel
theorem dX11_load_22 : decode cX11_load 22 = .ok (.iastore, 1) := by decide +kernel
theorem dX11_load_23 : decode cX11_load 23 = .ok (.aload_n 0, 1) := by decide +kernel
theorem dX11_load_24 : decode cX11_load 24 = .ok (.getfield 33, 3) := by decide +kernel
theorem dX11_load_27 : decode cX11_load 27 = .ok (.bipush 65, 2) := by decide +kernel
theorem dX11_load_29 : decode cX11_load 29 = .ok (.iconst 0, 1) := by decide +kernel
theorem dX11_load_30 : decode cX11_load 30 = .ok (.iastore, 1) := by decide +kernel
theorem dX11_load_31 : decode cX11_load 31 = .ok (.aload_n 0, 1) := by decide +kernel
theorem dX11_load_32 : decode cX11_load 32 = .ok (.invokevirtual 173, 3) := by decide +kernel
theorem dX11_load_35 : decode cX11_load 35 = .ok (.aload_n 0, 1) := by decide +kernel
theorem dX11_load_36 : decode cX11_load 36 = .ok (.getfield 30, 3) := by decide +kernel
theorem dX11_load_39 : decode cX11_load 39 = .ok (.ifCond .ge 29, 3) := by decide +kernel
theorem dX11_load_42 : decode cX11_load 42 = .ok (.aload_n 0, 1) := by decide +kernel
theorem dX11_load_43 : decode cX11_load 43 = .ok (.invokevirtual 152, 3) := by decide +kernel
theorem dX11_load_46 : decode cX11_load 46 = .ok (.bipush 59, 2) := by decide +kernel
theorem dX11_load_48 : decode cX11_load 48 = .ok (.if_icmp .ne 20, 3) := by decide +kernel
theorem dX11_load_51 : decode cX11_load 51 = .ok (.aload_n 0, 1) := by decide +kernel
theorem dX11_load_52 : decode cX11_load 52 = .ok (.dup, 1) := by decide +kernel
theorem dX11_load_53 : decode cX11_load 53 = .ok (.getfield 149, 3) := by decide +kernel
theorem dX11_load_56 : decode cX11_load 56 = .ok (.iconst 1, 1) := by decide +kernel
theorem dX11_load_57 : decode cX11_load 57 = .ok (.iadd, 1) := by decide +kernel
theorem dX11_load_58 : decode cX11_load 58 = .ok (.putfield 149, 3) := by decide +kernel
theorem dX11_load_61 : decode cX11_load 61 = .ok (.aload_n 0, 1) := by decide +kernel
theorem dX11_load_62 : decode cX11_load 62 = .ok (.invokevirtual 173, 3) := by decide +kernel
theorem dX11_load_65 : decode cX11_load 65 = .ok (.goto (-30), 3) := by decide +kernel
theorem dX11_load_68 : decode cX11_load 68 = .ok (.aload_n 0, 1) := by decide +kernel
theorem dX11_load_69 : decode cX11_load 69 = .ok (.getfield 30, 3) := by decide +kernel
theorem dX11_load_72 : decode cX11_load 72 = .ok (.ifCond .ge 22, 3) := by decide +kernel
theorem dX11_load_75 : decode cX11_load 75 = .ok (.aload_n 0, 1) := by decide +kernel
theorem dX11_load_76 : decode cX11_load 76 = .ok (.getfield 149, 3) := by decide +kernel
theorem dX11_load_79 : decode cX11_load 79 = .ok (.aload_n 0, 1) := by decide +kernel
theorem dX11_load_80 : decode cX11_load 80 = .ok (.getfield 146, 3) := by decide +kernel
theorem dX11_load_83 : decode cX11_load 83 = .ok (.if_icmp .ge 11, 3) := by decide +kernel
theorem dX11_load_86 : decode cX11_load 86 = .ok (.aload_n 0, 1) := by decide +kernel
theorem dX11_load_87 : decode cX11_load 87 = .ok (.aload_n 0, 1) := by decide +kernel
theorem dX11_load_88 : decode cX11_load 88 = .ok (.getfield 149, 3) := by decide +kernel
theorem dX11_load_91 : decode cX11_load 91 = .ok (.putfield 30, 3) := by decide +kernel
theorem dX11_load_94 : decode cX11_load 94 = .ok (.aload_n 0, 1) := by decide +kernel
theorem dX11_load_95 : decode cX11_load 95 = .ok (.iconst 0, 1) := by decide +kernel
theorem dX11_load_96 : decode cX11_load 96 = .ok (.putfield 146, 3) := by decide +kernel
theorem dX11_load_99 : decode cX11_load 99 = .ok (.aload_n 0, 1) := by decide +kernel
theorem dX11_load_100 : decode cX11_load 100 = .ok (.aload_n 0, 1) := by decide +kernel
theorem dX11_load_101 : decode cX11_load 101 = .ok (.getfield 30, 3) := by decide +kernel
theorem dX11_load_104 : decode cX11_load 104 = .ok (.ifCond .lt 7, 3) := by decide +kernel
theorem dX11_load_107 : decode cX11_load 107 = .ok (.iconst 1, 1) := by decide +kernel
theorem dX11_load_108 : decode cX11_load 108 = .ok (.goto 4, 3) := by decide +kernel
theorem dX11_load_111 : decode cX11_load 111 = .ok (.iconst 0, 1) := by decide +kernel
theorem dX11_load_112 : decode cX11_load 112 = .ok (.putfield 3, 3) := by decide +kernel
theorem dX11_load_115 : decode cX11_load 115 = .ok (.aload_n 0, 1) := by decide +kernel
theorem dX11_load_116 : decode cX11_load 116 = .ok (.getfield 3, 3) := by decide +kernel
theorem dX11_load_119 : decode cX11_load 119 = .ok (.ifCond .eq 5, 3) := by decide +kernel
theorem dX11_load_122 : decode cX11_load 122 = .ok (.iconst 0, 1) := by decide +kernel
theorem dX11_load_123 : decode cX11_load 123 = .ok (.ireturn, 1) := by decide +kernel
theorem dX11_load_124 : decode cX11_load 124 = .ok (.aload_n 0, 1) := by decide +kernel
theorem dX11_load_125 : decode cX11_load 125 = .ok (.invokevirtual 96, 3) := by decide +kernel
theorem dX11_load_128 : decode cX11_load 128 = .ok (.bipush 40, 2) := by decide +kernel
theorem dX11_load_130 : decode cX11_load 130 = .ok (.istore_n 1, 1) := by decide +kernel
theorem dX11_load_131 : decode cX11_load 131 = .ok (.iload_n 1, 1) := by decide +kernel
theorem dX11_load_132 : decode cX11_load 132 = .ok (.bipush 78, 2) := by decide +kernel
theorem dX11_load_134 : decode cX11_load 134 = .ok (.if_icmp .ge 21, 3) := by decide +kernel
theorem dX11_load_137 : decode cX11_load 137 = .ok (.aload_n 0, 1) := by decide +kernel
theorem dX11_load_138 : decode cX11_load 138 = .ok (.getfield 13, 3) := by decide +kernel
theorem dX11_load_141 : decode cX11_load 141 = .ok (.iload_n 1, 1) := by decide +kernel
theorem dX11_load_142 : decode cX11_load 142 = .ok (.aload_n 0, 1) := by decide +kernel
theorem dX11_load_143 : decode cX11_load 143 = .ok (.getfield 33, 3) := by decide +kernel
theorem dX11_load_146 : decode cX11_load 146 = .ok (.iload_n 1, 1) := by decide +kernel
theorem dX11_load_147 : decode cX11_load 147 = .ok (.iaload, 1) := by decide +kernel
theorem dX11_load_148 : decode cX11_load 148 = .ok (.iastore, 1) := by decide +kernel
theorem dX11_load_149 : decode cX11_load 149 = .ok (.iinc 1 1, 3) := by decide +kernel
theorem dX11_load_152 : decode cX11_load 152 = .ok (.goto (-21), 3) := by decide +kernel
theorem dX11_load_155 : decode cX11_load 155 = .ok (.aload_n 0, 1) := by decide +kernel
theorem dX11_load_156 : decode cX11_load 156 = .ok (.getfield 170, 3) := by decide +kernel
theorem dX11_load_159 : decode cX11_load 159 = .ok (.ireturn, 1) := by decide +kernel
theorem dX11_errorPosition_0 : decode cX11_errorPosition 0 = .ok (.aload_n 0, 1) := by decide +kernel
theorem dX11_errorPosition_1 : decode cX11_errorPosition 1 = .ok (.iconst 0, 1) := by decide +kernel
theorem dX11_errorPosition_2 : decode cX11_errorPosition 2 = .ok (.putfield 3, 3) := by decide +kernel
theorem dX11_errorPosition_5 : decode cX11_errorPosition 5 = .ok (.aload_n 0, 1) := by decide +kernel
theorem dX11_errorPosition_6 : decode cX11_errorPosition 6 = .ok (.getfield 30, 3) := by decide +kernel
theorem dX11_errorPosition_9 : decode cX11_errorPosition 9 = .ok (.ireturn, 1) := by decide +kernel
theorem dX11_writes_0 : decode cX11_writes 0 = .ok (.aload_n 0, 1) := by decide +kernel
theorem dX11_writes_1 : decode cX11_writes 1 = .ok (.getfield 36, 3) := by decide +kernel
theorem dX11_writes_4 : decode cX11_writes 4 = .ok (.aload_n 0, 1) := by decide +kernel
theorem dX11_writes_5 : decode cX11_writes 5 = .ok (.getfield 176, 3) := by decide +kernel
theorem dX11_writes_8 : decode cX11_writes 8 = .ok (.iload_n 1, 1) := by decide +kernel
theorem dX11_writes_9 : decode cX11_writes 9 = .ok (.iastore, 1) := by decide +kernel
theorem dX11_writes_10 : decode cX11_writes 10 = .ok (.aload_n 0, 1) := by decide +kernel
theorem dX11_writes_11 : decode cX11_writes 11 = .ok (.dup, 1) := by decide +kernel
theorem dX11_writes_12 : decode cX11_writes 12 = .ok (.getfield 176, 3) := by decide +kernel
theorem dX11_writes_15 : decode cX11_writes 15 = .ok (.iconst 1, 1) := by decide +kernel
theorem dX11_writes_16 : decode cX11_writes 16 = .ok (.iadd, 1) := by decide +kernel
theorem dX11_writes_17 : decode cX11_writes 17 = .ok (.putfield 176, 3) := by decide +kernel
theorem dX11_writes_20 : decode cX11_writes 20 = .ok (.return_, 1) := by decide +kernel
theorem dX11_writesNumber_0 : decode cX11_writesNumber 0 = .ok (.iload_n 1, 1) := by decide +kernel
theorem dX11_writesNumber_1 : decode cX11_writesNumber 1 = .ok (.invokestatic 179, 3) := by decide +kernel
theorem dX11_writesNumber_4 : decode cX11_writesNumber 4 = .ok (.istore_n 2, 1) := by decide +kernel
theorem dX11_writesNumber_5 : decode cX11_writesNumber 5 = .ok (.iload_n 1, 1) := by decide +kernel
theorem dX11_writesNumber_6 : decode cX11_writesNumber 6 = .ok (.ifCond .ge 9, 3) := by decide +kernel
theorem dX11_writesNumber_9 : decode cX11_writesNumber 9 = .ok (.aload_n 0, 1) := by decide +kernel
theorem dX11_writesNumber_10 : decode cX11_writesNumber 10 = .ok (.bipush 45, 2) := by decide +kernel
theorem dX11_writesNumber_12 : decode cX11_writesNumber 12 = .ok (.invokevirtual 182, 3) := by decide +kernel
theorem dX11_writesNumber_15 : decode cX11_writesNumber 15 = .ok (.iload_n 2, 1) := by decide +kernel
theorem dX11_writesNumber_16 : decode cX11_writesNumber 16 = .ok (.bipush 99, 2) := by decide +kernel
theorem dX11_writesNumber_18 : decode cX11_writesNumber 18 = .ok (.if_icmp .le 14, 3) := by decide +kernel
theorem dX11_writesNumber_21 : decode cX11_writesNumber 21 = .ok (.aload_n 0, 1) := by decide +kernel
theorem dX11_writesNumber_22 : decode cX11_writesNumber 22 = .ok (.bipush 48, 2) := by decide +kernel
theorem dX11_writesNumber_24 : decode cX11_writesNumber 24 = .ok (.iload_n 2, 1) := by decide +kernel
theorem dX11_writesNumber_25 : decode cX11_writesNumber 25 = .ok (.bipush 100, 2) := by decide +kernel
theorem dX11_writesNumber_27 : decode cX11_writesNumber 27 = .ok (.idiv, 1) := by decide +kernel
theorem dX11_writesNumber_28 : decode cX11_writesNumber 28 = .ok (.iadd, 1) := by decide +kernel
theorem dX11_writesNumber_29 : decode cX11_writesNumber 29 = .ok (.invokevirtual 182, 3) := by decide +kernel
theorem dX11_writesNumber_32 : decode cX11_writesNumber 32 = .ok (.iload_n 2, 1) := by decide +kernel
theorem dX11_writesNumber_33 : decode cX11_writesNumber 33 = .ok (.bipush 9, 2) := by decide +kernel
theorem dX11_writesNumber_35 : decode cX11_writesNumber 35 = .ok (.if_icmp .le 17, 3) := by decide +kernel
theorem dX11_writesNumber_38 : decode cX11_writesNumber 38 = .ok (.aload_n 0, 1) := by decide +kernel
theorem dX11_writesNumber_39 : decode cX11_writesNumber 39 = .ok (.bipush 48, 2) := by decide +kernel
theorem dX11_writesNumber_41 : decode cX11_writesNumber 41 = .ok (.iload_n 2, 1) := by decide +kernel
theorem dX11_writesNumber_42 : decode cX11_writesNumber 42 = .ok (.bipush 10, 2) := by decide +kernel
theorem dX11_writesNumber_44 : decode cX11_writesNumber 44 = .ok (.idiv, 1) := by decide +kernel
theorem dX11_writesNumber_45 : decode cX11_writesNumber 45 = .ok (.bipush 10, 2) := by decide +kernel
theorem dX11_writesNumber_47 : decode cX11_writesNumber 47 = .ok (.irem, 1) := by decide +kernel
theorem dX11_writesNumber_48 : decode cX11_writesNumber 48 = .ok (.iadd, 1) := by decide +kernel
theorem dX11_writesNumber_49 : decode cX11_writesNumber 49 = .ok (.invokevirtual 182, 3) := by decide +kernel
theorem dX11_writesNumber_52 : decode cX11_writesNumber 52 = .ok (.aload_n 0, 1) := by decide +kernel
theorem dX11_writesNumber_53 : decode cX11_writesNumber 53 = .ok (.bipush 48, 2) := by decide +kernel
theorem dX11_writesNumber_55 : decode cX11_writesNumber 55 = .ok (.iload_n 2, 1) := by decide +kernel
theorem dX11_writesNumber_56 : decode cX11_writesNumber 56 = .ok (.bipush 10, 2) := by decide +kernel
theorem dX11_writesNumber_58 : decode cX11_writesNumber 58 = .ok (.irem, 1) := by decide +kernel
theorem dX11_writesNumber_59 : decode cX11_writesNumber 59 = .ok (.iadd, 1) := by decide +kernel
theorem dX11_writesNumber_60 : decode cX11_writesNumber 60 = .ok (.invokevirtual 182, 3) := by decide +kernel
theorem dX11_writesNumber_63 : decode cX11_writesNumber 63 = .ok (.return_, 1) := by decide +kernel
theorem dX11_describe_0 : decode cX11_describe 0 = .ok (.aload_n 0, 1) := by decide +kernel
theorem dX11_describe_1 : decode cX11_describe 1 = .ok (.iconst 0, 1) := by decide +kernel
theorem dX11_describe_2 : decode cX11_describe 2 = .ok (.putfield 176, 3) := by decide +kernel
theorem dX11_describe_5 : decode cX11_describe 5 = .ok (.iconst 0, 1) := by decide +kernel
theorem dX11_describe_6 : decode cX11_describe 6 = .ok (.istore_n 2, 1) := by decide +kernel
theorem dX11_describe_7 : decode cX11_describe 7 = .ok (.iload_n 2, 1) := by decide +kernel
theorem dX11_describe_8 : decode cX11_describe 8 = .ok (.aload_n 0, 1) := by decide +kernel
theorem dX11_describe_9 : decode cX11_describe 9 = .ok (.getfield 13, 3) := by decide +kernel
theorem dX11_describe_12 : decode cX11_describe 12 = .ok (.bipush 40, 2) := by decide +kernel
theorem dX11_describe_14 : decode cX11_describe 14 = .ok (.iaload, 1) := by decide +kernel
theorem dX11_describe_15 : decode cX11_describe 15 = .ok (.if_icmp .ge 106, 3) := by decide +kernel
theorem dX11_describe_18 : decode cX11_describe 18 = .ok (.bipush 41, 2) := by decide +kernel
theorem dX11_describe_20 : decode cX11_describe 20 = .ok (.iconst 3, 1) := by decide +kernel
theorem dX11_describe_21 : decode cX11_describe 21 = .ok (.iload_n 2, 1) := by decide +kernel
theorem dX11_describe_22 : decode cX11_describe 22 = .ok (.imul, 1) := by decide +kernel
theorem dX11_describe_23 : decode cX11_describe 23 = .ok (.iadd, 1) := by decide +kernel
theorem dX11_describe_24 : decode cX11_describe 24 = .ok (.istore_n 3, 1) := by decide +kernel
theorem dX11_describe_25 : decode cX11_describe 25 = .ok (.aload_n 0, 1) := by decide +kernel
theorem dX11_describe_26 : decode cX11_describe 26 = .ok (.getfield 176, 3) := by decide +kernel
theorem dX11_describe_29 : decode cX11_describe 29 = .ok (.ifCond .le 9, 3) := by decide +kernel
theorem dX11_describe_32 : decode cX11_describe 32 = .ok (.aload_n 0, 1) := by decide +kernel
theorem dX11_describe_33 : decode cX11_describe 33 = .ok (.bipush 59, 2) := by decide +kernel
theorem dX11_describe_35 : decode cX11_describe 35 = .ok (.invokevirtual 182, 3) := by decide +kernel
theorem dX11_describe_38 : decode cX11_describe 38 = .ok (.aload_n 0, 1) := by decide +kernel
theorem dX11_describe_39 : decode cX11_describe 39 = .ok (.aload_n 0, 1) := by decide +kernel
theorem dX11_describe_40 : decode cX11_describe 40 = .ok (.getfield 13, 3) := by decide +kernel
theorem dX11_describe_43 : decode cX11_describe 43 = .ok (.iload_n 3, 1) := by decide +kernel
theorem dX11_describe_44 : decode cX11_describe 44 = .ok (.iaload, 1) := by decide +kernel
theorem dX11_describe_45 : decode cX11_describe 45 = .ok (.ifCond .ne 8, 3) := by decide +kernel
theorem dX11_describe_48 : decode cX11_describe 48 = .ok (.bipush 115, 2) := by decide +kernel
theorem dX11_describe_50 : decode cX11_describe 50 = .ok (.goto 20, 3) := by decide +kernel
theorem dX11_describe_53 : decode cX11_describe 53 = .ok (.aload_n 0, 1) := by decide +kernel
theorem dX11_describe_54 : decode cX11_describe 54 = .ok (.getfield 13, 3) := by decide +kernel
theorem dX11_describe_57 : decode cX11_describe 57 = .ok (.iload_n 3, 1) := by decide +kernel
theorem dX11_describe_58 : decode cX11_describe 58 = .ok (.iaload, 1) := by decide +kernel
theorem dX11_describe_59 : decode cX11_describe 59 = .ok (.iconst 1, 1) := by decide +kernel
theorem dX11_describe_60 : decode cX11_describe 60 = .ok (.if_icmp .ne 8, 3) := by decide +kernel
theorem dX11_describe_63 : decode cX11_describe 63 = .ok (.bipush 98, 2) := by decide +kernel
theorem dX11_describe_65 : decode cX11_describe 65 = .ok (.goto 5, 3) := by decide +kernel
theorem dX11_describe_68 : decode cX11_describe 68 = .ok (.bipush 114, 2) := by decide +kernel
theorem dX11_describe_70 : decode cX11_describe 70 = .ok (.invokevirtual 182, 3) := by decide +kernel
theorem dX11_describe_73 : decode cX11_describe 73 = .ok (.aload_n 0, 1) := by decide +kernel
theorem dX11_describe_74 : decode cX11_describe 74 = .ok (.aload_n 0, 1) := by decide +kernel
theorem dX11_describe_75 : decode cX11_describe 75 = .ok (.getfield 13, 3) := by decide +kernel
theorem dX11_describe_78 : decode cX11_describe 78 = .ok (.iload_n 3, 1) := by decide +kernel
theorem dX11_describe_79 : decode cX11_describe 79 = .ok (.iconst 1, 1) := by decide +kernel
theorem dX11_describe_80 : decode cX11_describe 80 = .ok (.iadd, 1) := by decide +kernel
theorem dX11_describe_81 : decode cX11_describe 81 = .ok (.iaload, 1) := by decide +kernel
theorem dX11_describe_82 : decode cX11_describe 82 = .ok (.invokevirtual 185, 3) := by decide +kernel
theorem dX11_describe_85 : decode cX11_describe 85 = .ok (.aload_n 0, 1) := by decide +kernel
theorem dX11_describe_86 : decode cX11_describe 86 = .ok (.getfield 13, 3) := by decide +kernel
theorem dX11_describe_89 : decode cX11_describe 89 = .ok (.iload_n 3, 1) := by decide +kernel
theorem dX11_describe_90 : decode cX11_describe 90 = .ok (.iaload, 1) := by decide +kernel
theorem dX11_describe_91 : decode cX11_describe 91 = .ok (.ifCond .ne 6, 3) := by decide +kernel
theorem dX11_describe_94 : decode cX11_describe 94 = .ok (.goto 21, 3) := by decide +kernel
theorem dX11_describe_97 : decode cX11_describe 97 = .ok (.aload_n 0, 1) := by decide +kernel
theorem dX11_describe_98 : decode cX11_describe 98 = .ok (.bipush 58, 2) := by decide +kernel
theorem dX11_describe_100 : decode cX11_describe 100 = .ok (.invokevirtual 182, 3) := by decide +kernel
theorem dX11_describe_103 : decode cX11_describe 103 = .ok (.aload_n 0, 1) := by decide +kernel
theorem dX11_describe_104 : decode cX11_describe 104 = .ok (.aload_n 0, 1) := by decide +kernel
theorem dX11_describe_105 : decode cX11_describe 105 = .ok (.getfield 13, 3) := by decide +kernel
theorem dX11_describe_108 : decode cX11_describe 108 = .ok (.iload_n 3, 1) := by decide +kernel
theorem dX11_describe_109 : decode cX11_describe 109 = .ok (.iconst 2, 1) := by decide +kernel
theorem dX11_describe_110 : decode cX11_describe 110 = .ok (.iadd, 1) := by decide +kernel
theorem dX11_describe_111 : decode cX11_describe 111 = .ok (.iaload, 1) := by decide +kernel
theorem dX11_describe_112 : decode cX11_describe 112 = .ok (.invokevirtual 185, 3) := by decide +kernel
theorem dX11_describe_115 : decode cX11_describe 115 = .ok (.iinc 2 1, 3) := by decide +kernel
theorem dX11_describe_118 : decode cX11_describe 118 = .ok (.goto (-111), 3) := by decide +kernel
theorem dX11_describe_121 : decode cX11_describe 121 = .ok (.iconst 0, 1) := by decide +kernel
theorem dX11_describe_122 : decode cX11_describe 122 = .ok (.istore_n 2, 1) := by decide +kernel
theorem dX11_describe_123 : decode cX11_describe 123 = .ok (.iload_n 2, 1) := by decide +kernel
theorem dX11_describe_124 : decode cX11_describe 124 = .ok (.aload_n 0, 1) := by decide +kernel
theorem dX11_describe_125 : decode cX11_describe 125 = .ok (.getfield 13, 3) := by decide +kernel
theorem dX11_describe_128 : decode cX11_describe 128 = .ok (.bipush 65, 2) := by decide +kernel
theorem dX11_describe_130 : decode cX11_describe 130 = .ok (.iaload, 1) := by decide +kernel
theorem dX11_describe_131 : decode cX11_describe 131 = .ok (.if_icmp .ge 81, 3) := by decide +kernel
theorem dX11_describe_134 : decode cX11_describe 134 = .ok (.bipush 66, 2) := by decide +kernel
theorem dX11_describe_136 : decode cX11_describe 136 = .ok (.iconst 3, 1) := by decide +kernel
theorem dX11_describe_137 : decode cX11_describe 137 = .ok (.iload_n 2, 1) := by decide +kernel
theorem dX11_describe_138 : decode cX11_describe 138 = .ok (.imul, 1) := by decide +kernel
theorem dX11_describe_139 : decode cX11_describe 139 = .ok (.iadd, 1) := by decide +kernel
theorem dX11_describe_140 : decode cX11_describe 140 = .ok (.istore_n 3, 1) := by decide +kernel
theorem dX11_describe_141 : decode cX11_describe 141 = .ok (.aload_n 0, 1) := by decide +kernel
theorem dX11_describe_142 : decode cX11_describe 142 = .ok (.getfield 176, 3) := by decide +kernel
theorem dX11_describe_145 : decode cX11_describe 145 = .ok (.ifCond .le 9, 3) := by decide +kernel
theorem dX11_describe_148 : decode cX11_describe 148 = .ok (.aload_n 0, 1) := by decide +kernel
theorem dX11_describe_149 : decode cX11_describe 149 = .ok (.bipush 59, 2) := by decide +kernel
theorem dX11_describe_151 : decode cX11_describe 151 = .ok (.invokevirtual 182, 3) := by decide +kernel
theorem dX11_describe_154 : decode cX11_describe 154 = .ok (.aload_n 0, 1) := by decide +kernel
theorem dX11_describe_155 : decode cX11_describe 155 = .ok (.bipush 112, 2) := by decide +kernel
theorem dX11_describe_157 : decode cX11_describe 157 = .ok (.invokevirtual 182, 3) := by decide +kernel
theorem dX11_describe_160 : decode cX11_describe 160 = .ok (.aload_n 0, 1) := by decide +kernel
theorem dX11_describe_161 : decode cX11_describe 161 = .ok (.aload_n 0, 1) := by decide +kernel
theorem dX11_describe_162 : decode cX11_describe 162 = .ok (.getfield 13, 3) := by decide +kernel
theorem dX11_describe_165 : decode cX11_describe 165 = .ok (.iload_n 3, 1) := by decide +kernel
theorem dX11_describe_166 : decode cX11_describe 166 = .ok (.iaload, 1) := by decide +kernel
theorem dX11_describe_167 : decode cX11_describe 167 = .ok (.invokevirtual 185, 3) := by decide +kernel
theorem dX11_describe_170 : decode cX11_describe 170 = .ok (.aload_n 0, 1) := by decide +kernel
theorem dX11_describe_171 : decode cX11_describe 171 = .ok (.bipush 58, 2) := by decide +kernel
theorem dX11_describe_173 : decode cX11_describe 173 = .ok (.invokevirtual 182, 3) := by decide +kernel
theorem dX11_describe_176 : decode cX11_describe 176 = .ok (.aload_n 0, 1) := by decide +kernel
theorem dX11_describe_177 : decode cX11_describe 177 = .ok (.aload_n 0, 1) := by decide +kernel
theorem dX11_describe_178 : decode cX11_describe 178 = .ok (.getfield 13, 3) := by decide +kernel
theorem dX11_describe_181 : decode cX11_describe 181 = .ok (.iload_n 3, 1) := by decide +kernel
theorem dX11_describe_182 : decode cX11_describe 182 = .ok (.iconst 1, 1) := by decide +kernel
theorem dX11_describe_183 : decode cX11_describe 183 = .ok (.iadd, 1) := by decide +kernel
theorem dX11_describe_184 : decode cX11_describe 184 = .ok (.iaload, 1) := by decide +kernel
theorem dX11_describe_185 : decode cX11_describe 185 = .ok (.invokevirtual 185, 3) := by decide +kernel
theorem dX11_describe_188 : decode cX11_describe 188 = .ok (.aload_n 0, 1) := by decide +kernel
theorem dX11_describe_189 : decode cX11_describe 189 = .ok (.bipush 42, 2) := by decide +kernel
theorem dX11_describe_191 : decode cX11_describe 191 = .ok (.invokevirtual 182, 3) := by decide +kernel
theorem dX11_describe_194 : decode cX11_describe 194 = .ok (.aload_n 0, 1) := by decide +kernel
theorem dX11_describe_195 : decode cX11_describe 195 = .ok (.aload_n 0, 1) := by decide +kernel
theorem dX11_describe_196 : decode cX11_describe 196 = .ok (.getfield 13, 3) := by decide +kernel
theorem dX11_describe_199 : decode cX11_describe 199 = .ok (.iload_n 3, 1) := by decide +kernel
theorem dX11_describe_200 : decode cX11_describe 200 = .ok (.iconst 2, 1) := by decide +kernel
theorem dX11_describe_201 : decode cX11_describe 201 = .ok (.iadd, 1) := by decide +kernel
theorem dX11_describe_202 : decode cX11_describe 202 = .ok (.iaload, 1) := by decide +kernel
theorem dX11_describe_203 : decode cX11_describe 203 = .ok (.invokevirtual 185, 3) := by decide +kernel
theorem dX11_describe_206 : decode cX11_describe 206 = .ok (.iinc 2 1, 3) := by decide +kernel
theorem dX11_describe_209 : decode cX11_describe 209 = .ok (.goto (-86), 3) := by decide +kernel
theorem dX11_describe_212 : decode cX11_describe 212 = .ok (.aload_n 0, 1) := by decide +kernel
theorem dX11_describe_213 : decode cX11_describe 213 = .ok (.iload_n 1, 1) := by decide +kernel
theorem dX11_describe_214 : decode cX11_describe 214 = .ok (.i2l, 1) := by decide +kernel
theorem dX11_describe_215 : decode cX11_describe 215 = .ok (.ldc2_w 188, 3) := by decide +kernel
theorem dX11_describe_218 : decode cX11_describe 218 = .ok (.aload_n 0, 1) := by decide +kernel
theorem dX11_describe_219 : decode cX11_describe 219 = .ok (.getfield 176, 3) := by decide +kernel
theorem dX11_describe_222 : decode cX11_describe 222 = .ok (.iconst 1, 1) := by decide +kernel
theorem dX11_describe_223 : decode cX11_describe 223 = .ok (.isub, 1) := by decide +kernel
theorem dX11_describe_224 : decode cX11_describe 224 = .ok (.i2l, 1) := by decide +kernel
theorem dX11_describe_225 : decode cX11_describe 225 = .ok (.invokestatic 92, 3) := by decide +kernel
theorem dX11_describe_228 : decode cX11_describe 228 = .ok (.ifCond .eq 7, 3) := by decide +kernel
theorem dX11_describe_231 : decode cX11_describe 231 = .ok (.iconst 0, 1) := by decide +kernel
theorem dX11_describe_232 : decode cX11_describe 232 = .ok (.goto 4, 3) := by decide +kernel
theorem dX11_describe_235 : decode cX11_describe 235 = .ok (.iconst 1, 1) := by decide +kernel
theorem dX11_describe_236 : decode cX11_describe 236 = .ok (.putfield 3, 3) := by decide +kernel
theorem dX11_describe_239 : decode cX11_describe 239 = .ok (.aload_n 0, 1) := by decide +kernel
theorem dX11_describe_240 : decode cX11_describe 240 = .ok (.getfield 3, 3) := by decide +kernel
theorem dX11_describe_243 : decode cX11_describe 243 = .ok (.ifCond .eq 7, 3) := by decide +kernel
theorem dX11_describe_246 : decode cX11_describe 246 = .ok (.iconst 0, 1) := by decide +kernel
theorem dX11_describe_247 : decode cX11_describe 247 = .ok (.goto 20, 3) := by decide +kernel
theorem dX11_describe_250 : decode cX11_describe 250 = .ok (.iload_n 1, 1) := by decide +kernel
theorem dX11_describe_251 : decode cX11_describe 251 = .ok (.ifCond .ge 10, 3) := by decide +kernel
theorem dX11_describe_254 : decode cX11_describe 254 = .ok (.aload_n 0, 1) := by decide +kernel
theorem dX11_describe_255 : decode cX11_describe 255 = .ok (.getfield 176, 3) := by decide +kernel
theorem dX11_describe_258 : decode cX11_describe 258 = .ok (.goto 9, 3) := by decide +kernel
theorem dX11_describe_261 : decode cX11_describe 261 = .ok (.aload_n 0, 1) := by decide +kernel
theorem dX11_describe_262 : decode cX11_describe 262 = .ok (.getfield 36, 3) := by decide +kernel
theorem dX11_describe_265 : decode cX11_describe 265 = .ok (.iload_n 1, 1) := by decide +kernel
theorem dX11_describe_266 : decode cX11_describe 266 = .ok (.iaload, 1) := by decide +kernel
theorem dX11_describe_267 : decode cX11_describe 267 = .ok (.ireturn, 1) := by decide +kernel
theorem dX11_curved_0 : decode cX11_curved 0 = .ok (.iload_n 1, 1) := by decide +kernel
theorem dX11_curved_1 : decode cX11_curved 1 = .ok (.istore_n 2, 1) := by decide +kernel
theorem dX11_curved_2 : decode cX11_curved 2 = .ok (.iconst 0, 1) := by decide +kernel
theorem dX11_curved_3 : decode cX11_curved 3 = .ok (.istore_n 3, 1) := by decide +kernel
theorem dX11_curved_4 : decode cX11_curved 4 = .ok (.iload_n 3, 1) := by decide +kernel
theorem dX11_curved_5 : decode cX11_curved 5 = .ok (.aload_n 0, 1) := by decide +kernel
theorem dX11_curved_6 : decode cX11_curved 6 = .ok (.getfield 13, 3) := by decide +kernel
theorem dX11_curved_9 : decode cX11_curved 9 = .ok (.bipush 40, 2) := by decide +kernel
theorem dX11_curved_11 : decode cX11_curved 11 = .ok (.iaload, 1) := by decide +kernel
theorem dX11_curved_12 : decode cX11_curved 12 = .ok (.if_icmp .ge 101, 3) := by decide +kernel
theorem dX11_curved_15 : decode cX11_curved 15 = .ok (.bipush 41, 2) := by decide +kernel
theorem dX11_curved_17 : decode cX11_curved 17 = .ok (.iconst 3, 1) := by decide +kernel
theorem dX11_curved_18 : decode cX11_curved 18 = .ok (.iload_n 3, 1) := by decide +kernel
theorem dX11_curved_19 : decode cX11_curved 19 = .ok (.imul, 1) := by decide +kernel
theorem dX11_curved_20 : decode cX11_curved 20 = .ok (.iadd, 1) := by decide +kernel
theorem dX11_curved_21 : decode cX11_curved 21 = .ok (.istore 4, 2) := by decide +kernel
theorem dX11_curved_23 : decode cX11_curved 23 = .ok (.iload_n 2, 1) := by decide +kernel
theorem dX11_curved_24 : decode cX11_curved 24 = .ok (.aload_n 0, 1) := by decide +kernel
theorem dX11_curved_25 : decode cX11_curved 25 = .ok (.getfield 13, 3) := by decide +kernel
theorem dX11_curved_28 : decode cX11_curved 28 = .ok (.iload 4, 2) := by decide +kernel
theorem dX11_curved_30 : decode cX11_curved 30 = .ok (.iconst 1, 1) := by decide +kernel
theorem dX11_curved_31 : decode cX11_curved 31 = .ok (.iadd, 1) := by decide +kernel
theorem dX11_curved_32 : decode cX11_curved 32 = .ok (.iaload, 1) := by decide +kernel
theorem dX11_curved_33 : decode cX11_curved 33 = .ok (.if_icmp .ge 62, 3) := by decide +kernel
theorem dX11_curved_36 : decode cX11_curved 36 = .ok (.aload_n 0, 1) := by decide +kernel
theorem dX11_curved_37 : decode cX11_curved 37 = .ok (.getfield 13, 3) := by decide +kernel
theorem dX11_curved_40 : decode cX11_curved 40 = .ok (.iload 4, 2) := by decide +kernel
theorem dX11_curved_42 : decode cX11_curved 42 = .ok (.iaload, 1) := by decide +kernel
theorem dX11_curved_43 : decode cX11_curved 43 = .ok (.ifCond .ne 7, 3) := by decide +kernel
theorem dX11_curved_46 : decode cX11_curved 46 = .ok (.iconst 0, 1) := by decide +kernel
theorem dX11_curved_47 : decode cX11_curved 47 = .ok (.goto 47, 3) := by decide +kernel
theorem dX11_curved_50 : decode cX11_curved 50 = .ok (.aload_n 0, 1) := by decide +kernel
theorem dX11_curved_51 : decode cX11_curved 51 = .ok (.getfield 13, 3) := by decide +kernel
theorem dX11_curved_54 : decode cX11_curved 54 = .ok (.iload 4, 2) := by decide +kernel
theorem dX11_curved_56 : decode cX11_curved 56 = .ok (.iaload, 1) := by decide +kernel
theorem dX11_curved_57 : decode cX11_curved 57 = .ok (.iconst 1, 1) := by decide +kernel
theorem dX11_curved_58 : decode cX11_curved 58 = .ok (.if_icmp .ne 15, 3) := by decide +kernel
theorem dX11_curved_61 : decode cX11_curved 61 = .ok (.aload_n 0, 1) := by decide +kernel
theorem dX11_curved_62 : decode cX11_curved 62 = .ok (.getfield 13, 3) := by decide +kernel
theorem dX11_curved_65 : decode cX11_curved 65 = .ok (.iload 4, 2) := by decide +kernel
theorem dX11_curved_67 : decode cX11_curved 67 = .ok (.iconst 2, 1) := by decide +kernel
theorem dX11_curved_68 : decode cX11_curved 68 = .ok (.iadd, 1) := by decide +kernel
theorem dX11_curved_69 : decode cX11_curved 69 = .ok (.iaload, 1) := by decide +kernel
theorem dX11_curved_70 : decode cX11_curved 70 = .ok (.goto 24, 3) := by decide +kernel
theorem dX11_curved_73 : decode cX11_curved 73 = .ok (.aload_n 0, 1) := by decide +kernel
theorem dX11_curved_74 : decode cX11_curved 74 = .ok (.getfield 13, 3) := by decide +kernel
theorem dX11_curved_77 : decode cX11_curved 77 = .ok (.iload 4, 2) := by decide +kernel
theorem dX11_curved_79 : decode cX11_curved 79 = .ok (.iconst 2, 1) := by decide +kernel
theorem dX11_curved_80 : decode cX11_curved 80 = .ok (.iadd, 1) := by decide +kernel
theorem dX11_curved_81 : decode cX11_curved 81 = .ok (.iaload, 1) := by decide +kernel
theorem dX11_curved_82 : decode cX11_curved 82 = .ok (.iload_n 2, 1) := by decide +kernel
theorem dX11_curved_83 : decode cX11_curved 83 = .ok (.imul, 1) := by decide +kernel
theorem dX11_curved_84 : decode cX11_curved 84 = .ok (.aload_n 0, 1) := by decide +kernel
theorem dX11_curved_85 : decode cX11_curved 85 = .ok (.getfield 13, 3) := by decide +kernel
theorem dX11_curved_88 : decode cX11_curved 88 = .ok (.iload 4, 2) := by decide +kernel
theorem dX11_curved_90 : decode cX11_curved 90 = .ok (.iconst 1, 1) := by decide +kernel
theorem dX11_curved_91 : decode cX11_curved 91 = .ok (.iadd, 1) := by decide +kernel
theorem dX11_curved_92 : decode cX11_curved 92 = .ok (.iaload, 1) := by decide +kernel
theorem dX11_curved_93 : decode cX11_curved 93 = .ok (.idiv, 1) := by decide +kernel
theorem dX11_curved_94 : decode cX11_curved 94 = .ok (.ireturn, 1) := by decide +kernel
theorem dX11_curved_95 : decode cX11_curved 95 = .ok (.iload_n 2, 1) := by decide +kernel
theorem dX11_curved_96 : decode cX11_curved 96 = .ok (.aload_n 0, 1) := by decide +kernel
theorem dX11_curved_97 : decode cX11_curved 97 = .ok (.getfield 13, 3) := by decide +kernel
theorem dX11_curved_100 : decode cX11_curved 100 = .ok (.iload 4, 2) := by decide +kernel
theorem dX11_curved_102 : decode cX11_curved 102 = .ok (.iconst 1, 1) := by decide +kernel
theorem dX11_curved_103 : decode cX11_curved 103 = .ok (.iadd, 1) := by decide +kernel
theorem dX11_curved_104 : decode cX11_curved 104 = .ok (.iaload, 1) := by decide +kernel
theorem dX11_curved_105 : decode cX11_curved 105 = .ok (.isub, 1) := by decide +kernel
theorem dX11_curved_106 : decode cX11_curved 106 = .ok (.istore_n 2, 1) := by decide +kernel
theorem dX11_curved_107 : decode cX11_curved 107 = .ok (.iinc 3 1, 3) := by decide +kernel
theorem dX11_curved_110 : decode cX11_curved 110 = .ok (.goto (-106), 3) := by decide +kernel
theorem dX11_curved_113 : decode cX11_curved 113 = .ok (.iconst 0, 1) := by decide +kernel
theorem dX11_curved_114 : decode cX11_curved 114 = .ok (.ireturn, 1) := by decide +kernel
theorem dX11_pushed_0 : decode cX11_pushed 0 = .ok (.iconst 0, 1) := by decide +kernel
theorem dX11_pushed_1 : decode cX11_pushed 1 = .ok (.istore_n 2, 1) := by decide +kernel
theorem dX11_pushed_2 : decode cX11_pushed 2 = .ok (.iconst 0, 1) := by decide +kernel
theorem dX11_pushed_3 : decode cX11_pushed 3 = .ok (.istore_n 3, 1) := by decide +kernel
theorem dX11_pushed_4 : decode cX11_pushed 4 = .ok (.iload_n 3, 1) := by decide +kernel
theorem dX11_pushed_5 : decode cX11_pushed 5 = .ok (.aload_n 0, 1) := by decide +kernel
theorem dX11_pushed_6 : decode cX11_pushed 6 = .ok (.getfield 13, 3) := by decide +kernel
theorem dX11_pushed_9 : decode cX11_pushed 9 = .ok (.bipush 65, 2) := by decide +kernel
theorem dX11_pushed_11 : decode cX11_pushed 11 = .ok (.iaload, 1) := by decide +kernel
theorem dX11_pushed_12 : decode cX11_pushed 12 = .ok (.if_icmp .ge 65, 3) := by decide +kernel
theorem dX11_pushed_15 : decode cX11_pushed 15 = .ok (.bipush 66, 2) := by decide +kernel
theorem dX11_pushed_17 : decode cX11_pushed 17 = .ok (.iconst 3, 1) := by decide +kernel
theorem dX11_pushed_18 : decode cX11_pushed 18 = .ok (.iload_n 3, 1) := by decide +kernel
theorem dX11_pushed_19 : decode cX11_pushed 19 = .ok (.imul, 1) := by decide +kernel
theorem dX11_pushed_20 : decode cX11_pushed 20 = .ok (.iadd, 1) := by decide +kernel
theorem dX11_pushed_21 : decode cX11_pushed 21 = .ok (.istore 4, 2) := by decide +kernel
theorem dX11_pushed_23 : decode cX11_pushed 23 = .ok (.iload_n 2, 1) := by decide +kernel
theorem dX11_pushed_24 : decode cX11_pushed 24 = .ok (.iload_n 1, 1) := by decide +kernel
theorem dX11_pushed_25 : decode cX11_pushed 25 = .ok (.aload_n 0, 1) := by decide +kernel
theorem dX11_pushed_26 : decode cX11_pushed 26 = .ok (.getfield 13, 3) := by decide +kernel
theorem dX11_pushed_29 : decode cX11_pushed 29 = .ok (.iload 4, 2) := by decide +kernel
theorem dX11_pushed_31 : decode cX11_pushed 31 = .ok (.iaload, 1) := by decide +kernel
theorem dX11_pushed_32 : decode cX11_pushed 32 = .ok (.if_icmp .lt 36, 3) := by decide +kernel
theorem dX11_pushed_35 : decode cX11_pushed 35 = .ok (.iload_n 1, 1) := by decide +kernel
theorem dX11_pushed_36 : decode cX11_pushed 36 = .ok (.aload_n 0, 1) := by decide +kernel
theorem dX11_pushed_37 : decode cX11_pushed 37 = .ok (.getfield 13, 3) := by decide +kernel
theorem dX11_pushed_40 : decode cX11_pushed 40 = .ok (.iload 4, 2) := by decide +kernel
theorem dX11_pushed_42 : decode cX11_pushed 42 = .ok (.iaload, 1) := by decide +kernel
theorem dX11_pushed_43 : decode cX11_pushed 43 = .ok (.aload_n 0, 1) := by decide +kernel
theorem dX11_pushed_44 : decode cX11_pushed 44 = .ok (.getfield 13, 3) := by decide +kernel
theorem dX11_pushed_47 : decode cX11_pushed 47 = .ok (.iload 4, 2) := by decide +kernel
theorem dX11_pushed_49 : decode cX11_pushed 49 = .ok (.iconst 2, 1) := by decide +kernel
theorem dX11_pushed_50 : decode cX11_pushed 50 = .ok (.iadd, 1) := by decide +kernel
theorem dX11_pushed_51 : decode cX11_pushed 51 = .ok (.iaload, 1) := by decide +kernel
theorem dX11_pushed_52 : decode cX11_pushed 52 = .ok (.iadd, 1) := by decide +kernel
theorem dX11_pushed_53 : decode cX11_pushed 53 = .ok (.if_icmp .ge 15, 3) := by decide +kernel
theorem dX11_pushed_56 : decode cX11_pushed 56 = .ok (.aload_n 0, 1) := by decide +kernel
theorem dX11_pushed_57 : decode cX11_pushed 57 = .ok (.getfield 13, 3) := by decide +kernel
theorem dX11_pushed_60 : decode cX11_pushed 60 = .ok (.iload 4, 2) := by decide +kernel
theorem dX11_pushed_62 : decode cX11_pushed 62 = .ok (.iconst 1, 1) := by decide +kernel
theorem dX11_pushed_63 : decode cX11_pushed 63 = .ok (.iadd, 1) := by decide +kernel
theorem dX11_pushed_64 : decode cX11_pushed 64 = .ok (.iaload, 1) := by decide +kernel
theorem dX11_pushed_65 : decode cX11_pushed 65 = .ok (.goto 4, 3) := by decide +kernel
theorem dX11_pushed_68 : decode cX11_pushed 68 = .ok (.iconst 0, 1) := by decide +kernel
theorem dX11_pushed_69 : decode cX11_pushed 69 = .ok (.iadd, 1) := by decide +kernel
theorem dX11_pushed_70 : decode cX11_pushed 70 = .ok (.istore_n 2, 1) := by decide +kernel
theorem dX11_pushed_71 : decode cX11_pushed 71 = .ok (.iinc 3 1, 3) := by decide +kernel
theorem dX11_pushed_74 : decode cX11_pushed 74 = .ok (.goto (-70), 3) := by decide +kernel
theorem dX11_pushed_77 : decode cX11_pushed 77 = .ok (.iload_n 2, 1) := by decide +kernel
theorem dX11_pushed_78 : decode cX11_pushed 78 = .ok (.ireturn, 1) := by decide +kernel
theorem dX11_curvature_0 : decode cX11_curvature 0 = .ok (.aload_n 0, 1) := by decide +kernel
theorem dX11_curvature_1 : decode cX11_curvature 1 = .ok (.iload_n 1, 1) := by decide +kernel
theorem dX11_curvature_2 : decode cX11_curvature 2 = .ok (.i2l, 1) := by decide +kernel
theorem dX11_curvature_3 : decode cX11_curvature 3 = .ok (.lconst 0, 1) := by decide +kernel
theorem dX11_curvature_4 : decode cX11_curvature 4 = .ok (.ldc2_w 190, 3) := by decide +kernel
theorem dX11_curvature_7 : decode cX11_curvature 7 = .ok (.invokestatic 92, 3) := by decide +kernel
theorem dX11_curvature_10 : decode cX11_curvature 10 = .ok (.ifCond .eq 7, 3) := by decide +kernel
theorem dX11_curvature_13 : decode cX11_curvature 13 = .ok (.iconst 0, 1) := by decide +kernel
theorem dX11_curvature_14 : decode cX11_curvature 14 = .ok (.goto 4, 3) := by decide +kernel
theorem dX11_curvature_17 : decode cX11_curvature 17 = .ok (.iconst 1, 1) := by decide +kernel
theorem dX11_curvature_18 : decode cX11_curvature 18 = .ok (.putfield 3, 3) := by decide +kernel
theorem dX11_curvature_21 : decode cX11_curvature 21 = .ok (.aload_n 0, 1) := by decide +kernel
theorem dX11_curvature_22 : decode cX11_curvature 22 = .ok (.getfield 3, 3) := by decide +kernel
theorem dX11_curvature_25 : decode cX11_curvature 25 = .ok (.ifCond .ne 11, 3) := by decide +kernel
theorem dX11_curvature_28 : decode cX11_curvature 28 = .ok (.aload_n 0, 1) := by decide +kernel
theorem dX11_curvature_29 : decode cX11_curvature 29 = .ok (.iload_n 1, 1) := by decide +kernel
theorem dX11_curvature_30 : decode cX11_curvature 30 = .ok (.invokevirtual 192, 3) := by decide +kernel
theorem dX11_curvature_33 : decode cX11_curvature 33 = .ok (.goto 4, 3) := by decide +kernel
theorem dX11_curvature_36 : decode cX11_curvature 36 = .ok (.iconst 0, 1) := by decide +kernel
theorem dX11_curvature_37 : decode cX11_curvature 37 = .ok (.ireturn, 1) := by decide +kernel
theorem dX11_push_0 : decode cX11_push 0 = .ok (.aload_n 0, 1) := by decide +kernel
theorem dX11_push_1 : decode cX11_push 1 = .ok (.iload_n 1, 1) := by decide +kernel
theorem dX11_push_2 : decode cX11_push 2 = .ok (.i2l, 1) := by decide +kernel
theorem dX11_push_3 : decode cX11_push 3 = .ok (.lconst 0, 1) := by decide +kernel
theorem dX11_push_4 : decode cX11_push 4 = .ok (.ldc2_w 190, 3) := by decide +kernel
theorem dX11_push_7 : decode cX11_push 7 = .ok (.invokestatic 92, 3) := by decide +kernel
theorem dX11_push_10 : decode cX11_push 10 = .ok (.ifCond .eq 7, 3) := by decide +kernel
theorem dX11_push_13 : decode cX11_push 13 = .ok (.iconst 0, 1) := by decide +kernel
theorem dX11_push_14 : decode cX11_push 14 = .ok (.goto 4, 3) := by decide +kernel
theorem dX11_push_17 : decode cX11_push 17 = .ok (.iconst 1, 1) := by decide +kernel
theorem dX11_push_18 : decode cX11_push 18 = .ok (.putfield 3, 3) := by decide +kernel
theorem dX11_push_21 : decode cX11_push 21 = .ok (.aload_n 0, 1) := by decide +kernel
theorem dX11_push_22 : decode cX11_push 22 = .ok (.getfield 3, 3) := by decide +kernel
theorem dX11_push_25 : decode cX11_push 25 = .ok (.ifCond .ne 11, 3) := by decide +kernel
theorem dX11_push_28 : decode cX11_push 28 = .ok (.aload_n 0, 1) := by decide +kernel
theorem dX11_push_29 : decode cX11_push 29 = .ok (.iload_n 1, 1) := by decide +kernel
theorem dX11_push_30 : decode cX11_push 30 = .ok (.invokevirtual 195, 3) := by decide +kernel
theorem dX11_push_33 : decode cX11_push 33 = .ok (.goto 4, 3) := by decide +kernel
theorem dX11_push_36 : decode cX11_push 36 = .ok (.iconst 0, 1) := by decide +kernel
theorem dX11_push_37 : decode cX11_push 37 = .ok (.ireturn, 1) := by decide +kernel
theorem dX11_controls_0 : decode cX11_controls 0 = .ok (.aload_n 0, 1) := by decide +kernel
theorem dX11_controls_1 : decode cX11_controls 1 = .ok (.iload_n 3, 1) := by decide +kernel
theorem dX11_controls_2 : decode cX11_controls 2 = .ok (.putfield 198, 3) := by decide +kernel
theorem dX11_controls_5 : decode cX11_controls 5 = .ok (.aload_n 0, 1) := by decide +kernel
theorem dX11_controls_6 : decode cX11_controls 6 = .ok (.getfield 13, 3) := by decide +kernel
theorem dX11_controls_9 : decode cX11_controls 9 = .ok (.bipush 10, 2) := by decide +kernel
theorem dX11_controls_11 : decode cX11_controls 11 = .ok (.iaload, 1) := by decide +kernel
theorem dX11_controls_12 : decode cX11_controls 12 = .ok (.iconst 1, 1) := by decide +kernel
theorem dX11_controls_13 : decode cX11_controls 13 = .ok (.if_icmp .ne 57, 3) := by decide +kernel
theorem dX11_controls_16 : decode cX11_controls 16 = .ok (.aload_n 0, 1) := by decide +kernel
theorem dX11_controls_17 : decode cX11_controls 17 = .ok (.iload_n 1, 1) := by decide +kernel
theorem dX11_controls_18 : decode cX11_controls 18 = .ok (.aload_n 0, 1) := by decide +kernel
theorem dX11_controls_19 : decode cX11_controls 19 = .ok (.getfield 13, 3) := by decide +kernel
theorem dX11_controls_22 : decode cX11_controls 22 = .ok (.bipush 11, 2) := by decide +kernel
theorem dX11_controls_24 : decode cX11_controls 24 = .ok (.iaload, 1) := by decide +kernel
theorem dX11_controls_25 : decode cX11_controls 25 = .ok (.if_icmp .le 13, 3) := by decide +kernel
theorem dX11_controls_28 : decode cX11_controls 28 = .ok (.aload_n 0, 1) := by decide +kernel
theorem dX11_controls_29 : decode cX11_controls 29 = .ok (.getfield 13, 3) := by decide +kernel
theorem dX11_controls_32 : decode cX11_controls 32 = .ok (.iconst 3, 1) := by decide +kernel
theorem dX11_controls_33 : decode cX11_controls 33 = .ok (.iaload, 1) := by decide +kernel
theorem dX11_controls_34 : decode cX11_controls 34 = .ok (.i2l, 1) := by decide +kernel
theorem dX11_controls_35 : decode cX11_controls 35 = .ok (.goto 29, 3) := by decide +kernel
theorem dX11_controls_38 : decode cX11_controls 38 = .ok (.iload_n 1, 1) := by decide +kernel
theorem dX11_controls_39 : decode cX11_controls 39 = .ok (.aload_n 0, 1) := by decide +kernel
theorem dX11_controls_40 : decode cX11_controls 40 = .ok (.getfield 13, 3) := by decide +kernel
theorem dX11_controls_43 : decode cX11_controls 43 = .ok (.bipush 11, 2) := by decide +kernel
theorem dX11_controls_45 : decode cX11_controls 45 = .ok (.iaload, 1) := by decide +kernel
theorem dX11_controls_46 : decode cX11_controls 46 = .ok (.ineg, 1) := by decide +kernel
theorem dX11_controls_47 : decode cX11_controls 47 = .ok (.if_icmp .ge 14, 3) := by decide +kernel
theorem dX11_controls_50 : decode cX11_controls 50 = .ok (.aload_n 0, 1) := by decide +kernel
theorem dX11_controls_51 : decode cX11_controls 51 = .ok (.getfield 13, 3) := by decide +kernel
theorem dX11_controls_54 : decode cX11_controls 54 = .ok (.iconst 3, 1) := by decide +kernel
theorem dX11_controls_55 : decode cX11_controls 55 = .ok (.iaload, 1) := by decide +kernel
theorem dX11_controls_56 : decode cX11_controls 56 = .ok (.ineg, 1) := by decide +kernel
theorem dX11_controls_57 : decode cX11_controls 57 = .ok (.i2l, 1) := by decide +kernel
theorem dX11_controls_58 : decode cX11_controls 58 = .ok (.goto 6, 3) := by decide +kernel
theorem dX11_controls_61 : decode cX11_controls 61 = .ok (.iload 4, 2) := by decide +kernel
theorem dX11_controls_63 : decode cX11_controls 63 = .ok (.i2l, 1) := by decide +kernel
theorem dX11_controls_64 : decode cX11_controls 64 = .ok (.putfield 201, 3) := by decide +kernel
theorem dX11_controls_67 : decode cX11_controls 67 = .ok (.goto 118, 3) := by decide +kernel
theorem dX11_controls_70 : decode cX11_controls 70 = .ok (.aload_n 0, 1) := by decide +kernel
theorem dX11_controls_71 : decode cX11_controls 71 = .ok (.getfield 13, 3) := by decide +kernel
theorem dX11_controls_74 : decode cX11_controls 74 = .ok (.bipush 10, 2) := by decide +kernel
theorem dX11_controls_76 : decode cX11_controls 76 = .ok (.iaload, 1) := by decide +kernel
theorem dX11_controls_77 : decode cX11_controls 77 = .ok (.iconst 2, 1) := by decide +kernel
theorem dX11_controls_78 : decode cX11_controls 78 = .ok (.if_icmp .ne 16, 3) := by decide +kernel
theorem dX11_controls_81 : decode cX11_controls 81 = .ok (.aload_n 0, 1) := by decide +kernel
theorem dX11_controls_82 : decode cX11_controls 82 = .ok (.aload_n 0, 1) := by decide +kernel
theorem dX11_controls_83 : decode cX11_controls 83 = .ok (.iload_n 1, 1) := by decide +kernel
theorem dX11_controls_84 : decode cX11_controls 84 = .ok (.invokevirtual 121, 3) := by decide +kernel
theorem dX11_controls_87 : decode cX11_controls 87 = .ok (.i2l, 1) := by decide +kernel
theorem dX11_controls_88 : decode cX11_controls 88 = .ok (.putfield 201, 3) := by decide +kernel
theorem dX11_controls_91 : decode cX11_controls 91 = .ok (.goto 94, 3) := by decide +kernel
theorem dX11_controls_94 : decode cX11_controls 94 = .ok (.aload_n 0, 1) := by decide +kernel
theorem dX11_controls_95 : decode cX11_controls 95 = .ok (.iload_n 3, 1) := by decide +kernel
theorem dX11_controls_96 : decode cX11_controls 96 = .ok (.iload_n 1, 1) := by decide +kernel
theorem dX11_controls_97 : decode cX11_controls 97 = .ok (.iadd, 1) := by decide +kernel
theorem dX11_controls_98 : decode cX11_controls 98 = .ok (.ldc 205, 2) := by decide +kernel
theorem dX11_controls_100 : decode cX11_controls 100 = .ok (.invokestatic 206, 3) := by decide +kernel
theorem dX11_controls_103 : decode cX11_controls 103 = .ok (.putfield 198, 3) := by decide +kernel
theorem dX11_controls_106 : decode cX11_controls 106 = .ok (.aload_n 0, 1) := by decide +kernel
theorem dX11_controls_107 : decode cX11_controls 107 = .ok (.aload_n 0, 1) := by decide +kernel
theorem dX11_controls_108 : decode cX11_controls 108 = .ok (.getfield 13, 3) := by decide +kernel
theorem dX11_controls_111 : decode cX11_controls 111 = .ok (.bipush 7, 2) := by decide +kernel
theorem dX11_controls_113 : decode cX11_controls 113 = .ok (.iaload, 1) := by decide +kernel
theorem dX11_controls_114 : decode cX11_controls 114 = .ok (.iconst 1, 1) := by decide +kernel
theorem dX11_controls_115 : decode cX11_controls 115 = .ok (.if_icmp .ne 20, 3) := by decide +kernel
theorem dX11_controls_118 : decode cX11_controls 118 = .ok (.aload_n 0, 1) := by decide +kernel
theorem dX11_controls_119 : decode cX11_controls 119 = .ok (.getfield 198, 3) := by decide +kernel
theorem dX11_controls_122 : decode cX11_controls 122 = .ok (.aload_n 0, 1) := by decide +kernel
theorem dX11_controls_123 : decode cX11_controls 123 = .ok (.getfield 13, 3) := by decide +kernel
theorem dX11_controls_126 : decode cX11_controls 126 = .ok (.bipush 8, 2) := by decide +kernel
theorem dX11_controls_128 : decode cX11_controls 128 = .ok (.iaload, 1) := by decide +kernel
theorem dX11_controls_129 : decode cX11_controls 129 = .ok (.invokestatic 206, 3) := by decide +kernel
theorem dX11_controls_132 : decode cX11_controls 132 = .ok (.goto 7, 3) := by decide +kernel
theorem dX11_controls_135 : decode cX11_controls 135 = .ok (.aload_n 0, 1) := by decide +kernel
theorem dX11_controls_136 : decode cX11_controls 136 = .ok (.getfield 198, 3) := by decide +kernel
theorem dX11_controls_139 : decode cX11_controls 139 = .ok (.putfield 198, 3) := by decide +kernel
theorem dX11_controls_142 : decode cX11_controls 142 = .ok (.aload_n 0, 1) := by decide +kernel
theorem dX11_controls_143 : decode cX11_controls 143 = .ok (.aload_n 0, 1) := by decide +kernel
theorem dX11_controls_144 : decode cX11_controls 144 = .ok (.getfield 13, 3) := by decide +kernel
theorem dX11_controls_147 : decode cX11_controls 147 = .ok (.iconst 0, 1) := by decide +kernel
theorem dX11_controls_148 : decode cX11_controls 148 = .ok (.iaload, 1) := by decide +kernel
theorem dX11_controls_149 : decode cX11_controls 149 = .ok (.i2l, 1) := by decide +kernel
theorem dX11_controls_150 : decode cX11_controls 150 = .ok (.iload_n 1, 1) := by decide +kernel
theorem dX11_controls_151 : decode cX11_controls 151 = .ok (.i2l, 1) := by decide +kernel
theorem dX11_controls_152 : decode cX11_controls 152 = .ok (.lmul, 1) := by decide +kernel
theorem dX11_controls_153 : decode cX11_controls 153 = .ok (.aload_n 0, 1) := by decide +kernel
theorem dX11_controls_154 : decode cX11_controls 154 = .ok (.getfield 13, 3) := by decide +kernel
theorem dX11_controls_157 : decode cX11_controls 157 = .ok (.iconst 1, 1) := by decide +kernel
theorem dX11_controls_158 : decode cX11_controls 158 = .ok (.iaload, 1) := by decide +kernel
theorem dX11_controls_159 : decode cX11_controls 159 = .ok (.i2l, 1) := by decide +kernel
theorem dX11_controls_160 : decode cX11_controls 160 = .ok (.aload_n 0, 1) := by decide +kernel
theorem dX11_controls_161 : decode cX11_controls 161 = .ok (.getfield 198, 3) := by decide +kernel
theorem dX11_controls_164 : decode cX11_controls 164 = .ok (.i2l, 1) := by decide +kernel
theorem dX11_controls_165 : decode cX11_controls 165 = .ok (.lmul, 1) := by decide +kernel
theorem dX11_controls_166 : decode cX11_controls 166 = .ok (.ladd, 1) := by decide +kernel
theorem dX11_controls_167 : decode cX11_controls 167 = .ok (.aload_n 0, 1) := by decide +kernel
theorem dX11_controls_168 : decode cX11_controls 168 = .ok (.getfield 13, 3) := by decide +kernel
theorem dX11_controls_171 : decode cX11_controls 171 = .ok (.iconst 2, 1) := by decide +kernel
theorem dX11_controls_172 : decode cX11_controls 172 = .ok (.iaload, 1) := by decide +kernel
theorem dX11_controls_173 : decode cX11_controls 173 = .ok (.i2l, 1) := by decide +kernel
theorem dX11_controls_174 : decode cX11_controls 174 = .ok (.iload_n 2, 1) := by decide +kernel
theorem dX11_controls_175 : decode cX11_controls 175 = .ok (.i2l, 1) := by decide +kernel
theorem dX11_controls_176 : decode cX11_controls 176 = .ok (.lmul, 1) := by decide +kernel
theorem dX11_controls_177 : decode cX11_controls 177 = .ok (.ladd, 1) := by decide +kernel
theorem dX11_controls_178 : decode cX11_controls 178 = .ok (.ldc2_w 209, 3) := by decide +kernel
theorem dX11_controls_181 : decode cX11_controls 181 = .ok (.ldiv, 1) := by decide +kernel
theorem dX11_controls_182 : decode cX11_controls 182 = .ok (.putfield 201, 3) := by decide +kernel
theorem dX11_controls_185 : decode cX11_controls 185 = .ok (.return_, 1) := by decide +kernel
theorem dX11_integralBehind_0 : decode cX11_integralBehind 0 = .ok (.aload_n 0, 1) := by decide +kernel
theorem dX11_integralBehind_1 : decode cX11_integralBehind 1 = .ok (.getfield 13, 3) := by decide +kernel
theorem dX11_integralBehind_4 : decode cX11_integralBehind 4 = .ok (.bipush 10, 2) := by decide +kernel
theorem dX11_integralBehind_6 : decode cX11_integralBehind 6 = .ok (.iaload, 1) := by decide +kernel
theorem dX11_integralBehind_7 : decode cX11_integralBehind 7 = .ok (.ifCond .eq 5, 3) := by decide +kernel
theorem dX11_integralBehind_10 : decode cX11_integralBehind 10 = .ok (.iload_n 1, 1) := by decide +kernel
theorem dX11_integralBehind_11 : decode cX11_integralBehind 11 = .ok (.ireturn, 1) := by decide +kernel
theorem dX11_integralBehind_12 : decode cX11_integralBehind 12 = .ok (.aload_n 0, 1) := by decide +kernel
theorem dX11_integralBehind_13 : decode cX11_integralBehind 13 = .ok (.getfield 13, 3) := by decide +kernel
theorem dX11_integralBehind_16 : decode cX11_integralBehind 16 = .ok (.bipush 7, 2) := by decide +kernel
theorem dX11_integralBehind_18 : decode cX11_integralBehind 18 = .ok (.iaload, 1) := by decide +kernel
theorem dX11_integralBehind_19 : decode cX11_integralBehind 19 = .ok (.iconst 2, 1) := by decide +kernel
theorem dX11_integralBehind_20 : decode cX11_integralBehind 20 = .ok (.if_icmp .ne 48, 3) := by decide +kernel
theorem dX11_integralBehind_23 : decode cX11_integralBehind 23 = .ok (.aload_n 0, 1) := by decide +kernel
theorem dX11_integralBehind_24 : decode cX11_integralBehind 24 = .ok (.getfield 201, 3) := by decide +kernel
theorem dX11_integralBehind_27 : decode cX11_integralBehind 27 = .ok (.iload_n 3, 1) := by decide +kernel
theorem dX11_integralBehind_28 : decode cX11_integralBehind 28 = .ok (.i2l, 1) := by decide +kernel
theorem dX11_integralBehind_29 : decode cX11_integralBehind 29 = .ok (.lcmp, 1) := by decide +kernel
theorem dX11_integralBehind_30 : decode cX11_integralBehind 30 = .ok (.ifCond .eq 33, 3) := by decide +kernel
theorem dX11_integralBehind_33 : decode cX11_integralBehind 33 = .ok (.aload_n 0, 1) := by decide +kernel
theorem dX11_integralBehind_34 : decode cX11_integralBehind 34 = .ok (.getfield 201, 3) := by decide +kernel
theorem dX11_integralBehind_37 : decode cX11_integralBehind 37 = .ok (.lconst 0, 1) := by decide +kernel
theorem dX11_integralBehind_38 : decode cX11_integralBehind 38 = .ok (.lcmp, 1) := by decide +kernel
theorem dX11_integralBehind_39 : decode cX11_integralBehind 39 = .ok (.ifCond .le 7, 3) := by decide +kernel
theorem dX11_integralBehind_42 : decode cX11_integralBehind 42 = .ok (.iload_n 2, 1) := by decide +kernel
theorem dX11_integralBehind_43 : decode cX11_integralBehind 43 = .ok (.ifCond .gt 16, 3) := by decide +kernel
theorem dX11_integralBehind_46 : decode cX11_integralBehind 46 = .ok (.aload_n 0, 1) := by decide +kernel
theorem dX11_integralBehind_47 : decode cX11_integralBehind 47 = .ok (.getfield 201, 3) := by decide +kernel
theorem dX11_integralBehind_50 : decode cX11_integralBehind 50 = .ok (.lconst 0, 1) := by decide +kernel
theorem dX11_integralBehind_51 : decode cX11_integralBehind 51 = .ok (.lcmp, 1) := by decide +kernel
theorem dX11_integralBehind_52 : decode cX11_integralBehind 52 = .ok (.ifCond .ge 11, 3) := by decide +kernel
theorem dX11_integralBehind_55 : decode cX11_integralBehind 55 = .ok (.iload_n 2, 1) := by decide +kernel
theorem dX11_integralBehind_56 : decode cX11_integralBehind 56 = .ok (.ifCond .ge 7, 3) := by decide +kernel
theorem dX11_integralBehind_59 : decode cX11_integralBehind 59 = .ok (.iload_n 1, 1) := by decide +kernel
theorem dX11_integralBehind_60 : decode cX11_integralBehind 60 = .ok (.goto 7, 3) := by decide +kernel
theorem dX11_integralBehind_63 : decode cX11_integralBehind 63 = .ok (.aload_n 0, 1) := by decide +kernel
theorem dX11_integralBehind_64 : decode cX11_integralBehind 64 = .ok (.getfield 198, 3) := by decide +kernel
theorem dX11_integralBehind_67 : decode cX11_integralBehind 67 = .ok (.ireturn, 1) := by decide +kernel
theorem dX11_integralBehind_68 : decode cX11_integralBehind 68 = .ok (.aload_n 0, 1) := by decide +kernel
theorem dX11_integralBehind_69 : decode cX11_integralBehind 69 = .ok (.getfield 13, 3) := by decide +kernel
theorem dX11_integralBehind_72 : decode cX11_integralBehind 72 = .ok (.bipush 7, 2) := by decide +kernel
theorem dX11_integralBehind_74 : decode cX11_integralBehind 74 = .ok (.iaload, 1) := by decide +kernel
theorem dX11_integralBehind_75 : decode cX11_integralBehind 75 = .ok (.iconst 3, 1) := by decide +kernel
theorem dX11_integralBehind_76 : decode cX11_integralBehind 76 = .ok (.if_icmp .ne 39, 3) := by decide +kernel
theorem dX11_integralBehind_79 : decode cX11_integralBehind 79 = .ok (.aload_n 0, 1) := by decide +kernel
theorem dX11_integralBehind_80 : decode cX11_integralBehind 80 = .ok (.getfield 198, 3) := by decide +kernel
theorem dX11_integralBehind_83 : decode cX11_integralBehind 83 = .ok (.i2l, 1) := by decide +kernel
theorem dX11_integralBehind_84 : decode cX11_integralBehind 84 = .ok (.aload_n 0, 1) := by decide +kernel
theorem dX11_integralBehind_85 : decode cX11_integralBehind 85 = .ok (.getfield 201, 3) := by decide +kernel
theorem dX11_integralBehind_88 : decode cX11_integralBehind 88 = .ok (.iload_n 3, 1) := by decide +kernel
theorem dX11_integralBehind_89 : decode cX11_integralBehind 89 = .ok (.i2l, 1) := by decide +kernel
theorem dX11_integralBehind_90 : decode cX11_integralBehind 90 = .ok (.lsub, 1) := by decide +kernel
theorem dX11_integralBehind_91 : decode cX11_integralBehind 91 = .ok (.aload_n 0, 1) := by decide +kernel
theorem dX11_integralBehind_92 : decode cX11_integralBehind 92 = .ok (.getfield 13, 3) := by decide +kernel
theorem dX11_integralBehind_95 : decode cX11_integralBehind 95 = .ok (.bipush 9, 2) := by decide +kernel
theorem dX11_integralBehind_97 : decode cX11_integralBehind 97 = .ok (.iaload, 1) := by decide +kernel
theorem dX11_integralBehind_98 : decode cX11_integralBehind 98 = .ok (.i2l, 1) := by decide +kernel
theorem dX11_integralBehind_99 : decode cX11_integralBehind 99 = .ok (.lmul, 1) := by decide +kernel
theorem dX11_integralBehind_100 : decode cX11_integralBehind 100 = .ok (.ldc2_w 211, 3) := by decide +kernel
theorem dX11_integralBehind_103 : decode cX11_integralBehind 103 = .ok (.ldiv, 1) := by decide +kernel
theorem dX11_integralBehind_104 : decode cX11_integralBehind 104 = .ok (.lsub, 1) := by decide +kernel
theorem dX11_integralBehind_105 : decode cX11_integralBehind 105 = .ok (.ldc2_w 213, 3) := by decide +kernel
theorem dX11_integralBehind_108 : decode cX11_integralBehind 108 = .ok (.invokestatic 215, 3) := by decide +kernel
theorem dX11_integralBehind_111 : decode cX11_integralBehind 111 = .ok (.l2i, 1) := by decide +kernel
theorem dX11_integralBehind_112 : decode cX11_integralBehind 112 = .ok (.goto 7, 3) := by decide +kernel
theorem dX11_integralBehind_115 : decode cX11_integralBehind 115 = .ok (.aload_n 0, 1) := by decide +kernel
theorem dX11_integralBehind_116 : decode cX11_integralBehind 116 = .ok (.getfield 198, 3) := by decide +kernel
theorem dX11_integralBehind_119 : decode cX11_integralBehind 119 = .ok (.ireturn, 1) := by decide +kernel
theorem dX11_runs_0 : decode cX11_runs 0 = .ok (.aload_n 0, 1) := by decide +kernel
theorem dX11_runs_1 : decode cX11_runs 1 = .ok (.getfield 13, 3) := by decide +kernel
theorem dX11_runs_4 : decode cX11_runs 4 = .ok (.bipush 12, 2) := by decide +kernel
theorem dX11_runs_6 : decode cX11_runs 6 = .ok (.iaload, 1) := by decide +kernel
theorem dX11_runs_7 : decode cX11_runs 7 = .ok (.istore_n 1, 1) := by decide +kernel
theorem dX11_runs_8 : decode cX11_runs 8 = .ok (.iconst 0, 1) := by decide +kernel
theorem dX11_runs_9 : decode cX11_runs 9 = .ok (.istore_n 2, 1) := by decide +kernel
theorem dX11_runs_10 : decode cX11_runs 10 = .ok (.iconst 0, 1) := by decide +kernel
theorem dX11_runs_11 : decode cX11_runs 11 = .ok (.istore_n 3, 1) := by decide +kernel
theorem dX11_runs_12 : decode cX11_runs 12 = .ok (.iconst 0, 1) := by decide +kernel
theorem dX11_runs_13 : decode cX11_runs 13 = .ok (.istore 4, 2) := by decide +kernel
theorem dX11_runs_15 : decode cX11_runs 15 = .ok (.iconst 0, 1) := by decide +kernel
theorem dX11_runs_16 : decode cX11_runs 16 = .ok (.istore 5, 2) := by decide +kernel
theorem dX11_runs_18 : decode cX11_runs 18 = .ok (.aload_n 0, 1) := by decide +kernel
theorem dX11_runs_19 : decode cX11_runs 19 = .ok (.aload_n 0, 1) := by decide +kernel
theorem dX11_runs_20 : decode cX11_runs 20 = .ok (.getfield 13, 3) := by decide +kernel
theorem dX11_runs_23 : decode cX11_runs 23 = .ok (.bipush 13, 2) := by decide +kernel
theorem dX11_runs_25 : decode cX11_runs 25 = .ok (.iaload, 1) := by decide +kernel
theorem dX11_runs_26 : decode cX11_runs 26 = .ok (.putfield 218, 3) := by decide +kernel
theorem dX11_runs_29 : decode cX11_runs 29 = .ok (.iconst 0, 1) := by decide +kernel
theorem dX11_runs_30 : decode cX11_runs 30 = .ok (.istore 6, 2) := by decide +kernel
theorem dX11_runs_32 : decode cX11_runs 32 = .ok (.iload 6, 2) := by decide +kernel
theorem dX11_runs_34 : decode cX11_runs 34 = .ok (.aload_n 0, 1) := by decide +kernel
theorem dX11_runs_35 : decode cX11_runs 35 = .ok (.getfield 218, 3) := by decide +kernel
theorem dX11_runs_38 : decode cX11_runs 38 = .ok (.if_icmp .ge 262, 3) := by decide +kernel
theorem dX11_runs_41 : decode cX11_runs 41 = .ok (.aload_n 0, 1) := by decide +kernel
theorem dX11_runs_42 : decode cX11_runs 42 = .ok (.getfield 39, 3) := by decide +kernel
theorem dX11_runs_45 : decode cX11_runs 45 = .ok (.iload 6, 2) := by decide +kernel
theorem dX11_runs_47 : decode cX11_runs 47 = .ok (.iload_n 1, 1) := by decide +kernel
theorem dX11_runs_48 : decode cX11_runs 48 = .ok (.iastore, 1) := by decide +kernel
theorem dX11_runs_49 : decode cX11_runs 49 = .ok (.aload_n 0, 1) := by decide +kernel
theorem dX11_runs_50 : decode cX11_runs 50 = .ok (.getfield 42, 3) := by decide +kernel
theorem dX11_runs_53 : decode cX11_runs 53 = .ok (.iload 6, 2) := by decide +kernel
theorem dX11_runs_55 : decode cX11_runs 55 = .ok (.iload_n 1, 1) := by decide +kernel
theorem dX11_runs_56 : decode cX11_runs 56 = .ok (.aload_n 0, 1) := by decide +kernel
theorem dX11_runs_57 : decode cX11_runs 57 = .ok (.getfield 13, 3) := by decide +kernel
theorem dX11_runs_60 : decode cX11_runs 60 = .ok (.iconst 5, 1) := by decide +kernel
theorem dX11_runs_61 : decode cX11_runs 61 = .ok (.iaload, 1) := by decide +kernel
theorem dX11_runs_62 : decode cX11_runs 62 = .ok (.idiv, 1) := by decide +kernel
theorem dX11_runs_63 : decode cX11_runs 63 = .ok (.aload_n 0, 1) := by decide +kernel
theorem dX11_runs_64 : decode cX11_runs 64 = .ok (.getfield 13, 3) := by decide +kernel
theorem dX11_runs_67 : decode cX11_runs 67 = .ok (.iconst 5, 1) := by decide +kernel
theorem dX11_runs_68 : decode cX11_runs 68 = .ok (.iaload, 1) := by decide +kernel
theorem dX11_runs_69 : decode cX11_runs 69 = .ok (.imul, 1) := by decide +kernel
theorem dX11_runs_70 : decode cX11_runs 70 = .ok (.iastore, 1) := by decide +kernel
theorem dX11_runs_71 : decode cX11_runs 71 = .ok (.aload_n 0, 1) := by decide +kernel
theorem dX11_runs_72 : decode cX11_runs 72 = .ok (.getfield 45, 3) := by decide +kernel
theorem dX11_runs_75 : decode cX11_runs 75 = .ok (.iload 6, 2) := by decide +kernel
theorem dX11_runs_77 : decode cX11_runs 77 = .ok (.iload 6, 2) := by decide +kernel
theorem dX11_runs_79 : decode cX11_runs 79 = .ok (.aload_n 0, 1) := by decide +kernel
theorem dX11_runs_80 : decode cX11_runs 80 = .ok (.getfield 13, 3) := by decide +kernel
theorem dX11_runs_83 : decode cX11_runs 83 = .ok (.bipush 6, 2) := by decide +kernel
theorem dX11_runs_85 : decode cX11_runs 85 = .ok (.iaload, 1) := by decide +kernel
theorem dX11_runs_86 : decode cX11_runs 86 = .ok (.if_icmp .ge 12, 3) := by decide +kernel
theorem dX11_runs_89 : decode cX11_runs 89 = .ok (.aload_n 0, 1) := by decide +kernel
theorem dX11_runs_90 : decode cX11_runs 90 = .ok (.getfield 42, 3) := by decide +kernel
theorem dX11_runs_93 : decode cX11_runs 93 = .ok (.iconst 0, 1) := by decide +kernel
theorem dX11_runs_94 : decode cX11_runs 94 = .ok (.iaload, 1) := by decide +kernel
theorem dX11_runs_95 : decode cX11_runs 95 = .ok (.goto 18, 3) := by decide +kernel
theorem dX11_runs_98 : decode cX11_runs 98 = .ok (.aload_n 0, 1) := by decide +kernel
theorem dX11_runs_99 : decode cX11_runs 99 = .ok (.getfield 42, 3) := by decide +kernel
theorem dX11_runs_102 : decode cX11_runs 102 = .ok (.iload 6, 2) := by decide +kernel
theorem dX11_runs_104 : decode cX11_runs 104 = .ok (.aload_n 0, 1) := by decide +kernel
theorem dX11_runs_105 : decode cX11_runs 105 = .ok (.getfield 13, 3) := by decide +kernel
theorem dX11_runs_108 : decode cX11_runs 108 = .ok (.bipush 6, 2) := by decide +kernel
theorem dX11_runs_110 : decode cX11_runs 110 = .ok (.iaload, 1) := by decide +kernel
theorem dX11_runs_111 : decode cX11_runs 111 = .ok (.isub, 1) := by decide +kernel
theorem dX11_runs_112 : decode cX11_runs 112 = .ok (.iaload, 1) := by decide +kernel
theorem dX11_runs_113 : decode cX11_runs 113 = .ok (.iastore, 1) := by decide +kernel
theorem dX11_runs_114 : decode cX11_runs 114 = .ok (.aload_n 0, 1) := by decide +kernel
theorem dX11_runs_115 : decode cX11_runs 115 = .ok (.aload_n 0, 1) := by decide +kernel
theorem dX11_runs_116 : decode cX11_runs 116 = .ok (.getfield 45, 3) := by decide +kernel
theorem dX11_runs_119 : decode cX11_runs 119 = .ok (.iload 6, 2) := by decide +kernel
theorem dX11_runs_121 : decode cX11_runs 121 = .ok (.iaload, 1) := by decide +kernel
theorem dX11_runs_122 : decode cX11_runs 122 = .ok (.iload 6, 2) := by decide +kernel
theorem dX11_runs_124 : decode cX11_runs 124 = .ok (.ifCond .ne 7, 3) := by decide +kernel
theorem dX11_runs_127 : decode cX11_runs 127 = .ok (.iconst 0, 1) := by decide +kernel
theorem dX11_runs_128 : decode cX11_runs 128 = .ok (.goto 20, 3) := by decide +kernel
theorem dX11_runs_131 : decode cX11_runs 131 = .ok (.aload_n 0, 1) := by decide +kernel
theorem dX11_runs_132 : decode cX11_runs 132 = .ok (.getfield 45, 3) := by decide +kernel
theorem dX11_runs_135 : decode cX11_runs 135 = .ok (.iload 6, 2) := by decide +kernel
theorem dX11_runs_137 : decode cX11_runs 137 = .ok (.iaload, 1) := by decide +kernel
theorem dX11_runs_138 : decode cX11_runs 138 = .ok (.aload_n 0, 1) := by decide +kernel
theorem dX11_runs_139 : decode cX11_runs 139 = .ok (.getfield 45, 3) := by decide +kernel
theorem dX11_runs_142 : decode cX11_runs 142 = .ok (.iload 6, 2) := by decide +kernel
theorem dX11_runs_144 : decode cX11_runs 144 = .ok (.iconst 1, 1) := by decide +kernel
theorem dX11_runs_145 : decode cX11_runs 145 = .ok (.isub, 1) := by decide +kernel
theorem dX11_runs_146 : decode cX11_runs 146 = .ok (.iaload, 1) := by decide +kernel
theorem dX11_runs_147 : decode cX11_runs 147 = .ok (.isub, 1) := by decide +kernel
theorem dX11_runs_148 : decode cX11_runs 148 = .ok (.iload 4, 2) := by decide +kernel
theorem dX11_runs_150 : decode cX11_runs 150 = .ok (.iload 5, 2) := by decide +kernel
theorem dX11_runs_152 : decode cX11_runs 152 = .ok (.invokevirtual 221, 3) := by decide +kernel
theorem dX11_runs_155 : decode cX11_runs 155 = .ok (.aload_n 0, 1) := by decide +kernel
theorem dX11_runs_156 : decode cX11_runs 156 = .ok (.getfield 201, 3) := by decide +kernel
theorem dX11_runs_159 : decode cX11_runs 159 = .ok (.aload_n 0, 1) := by decide +kernel
theorem dX11_runs_160 : decode cX11_runs 160 = .ok (.getfield 13, 3) := by decide +kernel
theorem dX11_runs_163 : decode cX11_runs 163 = .ok (.iconst 3, 1) := by decide +kernel
theorem dX11_runs_164 : decode cX11_runs 164 = .ok (.iaload, 1) := by decide +kernel
theorem dX11_runs_165 : decode cX11_runs 165 = .ok (.i2l, 1) := by decide +kernel
theorem dX11_runs_166 : decode cX11_runs 166 = .ok (.invokestatic 215, 3) := by decide +kernel
theorem dX11_runs_169 : decode cX11_runs 169 = .ok (.l2i, 1) := by decide +kernel
theorem dX11_runs_170 : decode cX11_runs 170 = .ok (.istore 5, 2) := by decide +kernel
theorem dX11_runs_172 : decode cX11_runs 172 = .ok (.aload_n 0, 1) := by decide +kernel
theorem dX11_runs_173 : decode cX11_runs 173 = .ok (.getfield 57, 3) := by decide +kernel
theorem dX11_runs_176 : decode cX11_runs 176 = .ok (.iload 6, 2) := by decide +kernel
theorem dX11_runs_178 : decode cX11_runs 178 = .ok (.aload_n 0, 1) := by decide +kernel
theorem dX11_runs_179 : decode cX11_runs 179 = .ok (.getfield 201, 3) := by decide +kernel
theorem dX11_runs_182 : decode cX11_runs 182 = .ok (.iload 5, 2) := by decide +kernel
theorem dX11_runs_184 : decode cX11_runs 184 = .ok (.i2l, 1) := by decide +kernel
theorem dX11_runs_185 : decode cX11_runs 185 = .ok (.lcmp, 1) := by decide +kernel
theorem dX11_runs_186 : decode cX11_runs 186 = .ok (.ifCond .eq 7, 3) := by decide +kernel
theorem dX11_runs_189 : decode cX11_runs 189 = .ok (.iconst 1, 1) := by decide +kernel
theorem dX11_runs_190 : decode cX11_runs 190 = .ok (.goto 4, 3) := by decide +kernel
theorem dX11_runs_193 : decode cX11_runs 193 = .ok (.iconst 0, 1) := by decide +kernel
theorem dX11_runs_194 : decode cX11_runs 194 = .ok (.iastore, 1) := by decide +kernel
theorem dX11_runs_195 : decode cX11_runs 195 = .ok (.aload_n 0, 1) := by decide +kernel
theorem dX11_runs_196 : decode cX11_runs 196 = .ok (.iload 4, 2) := by decide +kernel
theorem dX11_runs_198 : decode cX11_runs 198 = .ok (.aload_n 0, 1) := by decide +kernel
theorem dX11_runs_199 : decode cX11_runs 199 = .ok (.getfield 45, 3) := by decide +kernel
theorem dX11_runs_202 : decode cX11_runs 202 = .ok (.iload 6, 2) := by decide +kernel
theorem dX11_runs_204 : decode cX11_runs 204 = .ok (.iaload, 1) := by decide +kernel
theorem dX11_runs_205 : decode cX11_runs 205 = .ok (.iload 5, 2) := by decide +kernel
theorem dX11_runs_207 : decode cX11_runs 207 = .ok (.invokevirtual 225, 3) := by decide +kernel
theorem dX11_runs_210 : decode cX11_runs 210 = .ok (.istore 4, 2) := by decide +kernel
theorem dX11_runs_212 : decode cX11_runs 212 = .ok (.iload_n 3, 1) := by decide +kernel
theorem dX11_runs_213 : decode cX11_runs 213 = .ok (.iload 5, 2) := by decide +kernel
theorem dX11_runs_215 : decode cX11_runs 215 = .ok (.iload_n 3, 1) := by decide +kernel
theorem dX11_runs_216 : decode cX11_runs 216 = .ok (.isub, 1) := by decide +kernel
theorem dX11_runs_217 : decode cX11_runs 217 = .ok (.aload_n 0, 1) := by decide +kernel
theorem dX11_runs_218 : decode cX11_runs 218 = .ok (.getfield 13, 3) := by decide +kernel
theorem dX11_runs_221 : decode cX11_runs 221 = .ok (.iconst 4, 1) := by decide +kernel
theorem dX11_runs_222 : decode cX11_runs 222 = .ok (.iaload, 1) := by decide +kernel
theorem dX11_runs_223 : decode cX11_runs 223 = .ok (.invokestatic 206, 3) := by decide +kernel
theorem dX11_runs_226 : decode cX11_runs 226 = .ok (.iadd, 1) := by decide +kernel
theorem dX11_runs_227 : decode cX11_runs 227 = .ok (.istore_n 3, 1) := by decide +kernel
theorem dX11_runs_228 : decode cX11_runs 228 = .ok (.iload_n 2, 1) := by decide +kernel
theorem dX11_runs_229 : decode cX11_runs 229 = .ok (.aload_n 0, 1) := by decide +kernel
theorem dX11_runs_230 : decode cX11_runs 230 = .ok (.iload 6, 2) := by decide +kernel
theorem dX11_runs_232 : decode cX11_runs 232 = .ok (.invokevirtual 192, 3) := by decide +kernel
theorem dX11_runs_235 : decode cX11_runs 235 = .ok (.iadd, 1) := by decide +kernel
theorem dX11_runs_236 : decode cX11_runs 236 = .ok (.iload_n 3, 1) := by decide +kernel
theorem dX11_runs_237 : decode cX11_runs 237 = .ok (.bipush 8, 2) := by decide +kernel
theorem dX11_runs_239 : decode cX11_runs 239 = .ok (.idiv, 1) := by decide +kernel
theorem dX11_runs_240 : decode cX11_runs 240 = .ok (.isub, 1) := by decide +kernel
theorem dX11_runs_241 : decode cX11_runs 241 = .ok (.sipush 10000, 3) := by decide +kernel
theorem dX11_runs_244 : decode cX11_runs 244 = .ok (.invokestatic 206, 3) := by decide +kernel
theorem dX11_runs_247 : decode cX11_runs 247 = .ok (.istore_n 2, 1) := by decide +kernel
theorem dX11_runs_248 : decode cX11_runs 248 = .ok (.iload_n 1, 1) := by decide +kernel
theorem dX11_runs_249 : decode cX11_runs 249 = .ok (.iload_n 2, 1) := by decide +kernel
theorem dX11_runs_250 : decode cX11_runs 250 = .ok (.bipush 8, 2) := by decide +kernel
theorem dX11_runs_252 : decode cX11_runs 252 = .ok (.idiv, 1) := by decide +kernel
theorem dX11_runs_253 : decode cX11_runs 253 = .ok (.iadd, 1) := by decide +kernel
theorem dX11_runs_254 : decode cX11_runs 254 = .ok (.aload_n 0, 1) := by decide +kernel
theorem dX11_runs_255 : decode cX11_runs 255 = .ok (.iload 6, 2) := by decide +kernel
theorem dX11_runs_257 : decode cX11_runs 257 = .ok (.invokevirtual 195, 3) := by decide +kernel
theorem dX11_runs_260 : decode cX11_runs 260 = .ok (.iadd, 1) := by decide +kernel
theorem dX11_runs_261 : decode cX11_runs 261 = .ok (.sipush 10000, 3) := by decide +kernel
theorem dX11_runs_264 : decode cX11_runs 264 = .ok (.invokestatic 206, 3) := by decide +kernel
theorem dX11_runs_267 : decode cX11_runs 267 = .ok (.istore_n 1, 1) := by decide +kernel
theorem dX11_runs_268 : decode cX11_runs 268 = .ok (.aload_n 0, 1) := by decide +kernel
theorem dX11_runs_269 : decode cX11_runs 269 = .ok (.getfield 48, 3) := by decide +kernel
theorem dX11_runs_272 : decode cX11_runs 272 = .ok (.iload 6, 2) := by decide +kernel
theorem dX11_runs_274 : decode cX11_runs 274 = .ok (.iload 5, 2) := by decide +kernel
theorem dX11_runs_276 : decode cX11_runs 276 = .ok (.iastore, 1) := by decide +kernel
theorem dX11_runs_277 : decode cX11_runs 277 = .ok (.aload_n 0, 1) := by decide +kernel
theorem dX11_runs_278 : decode cX11_runs 278 = .ok (.getfield 51, 3) := by decide +kernel
theorem dX11_runs_281 : decode cX11_runs 281 = .ok (.iload 6, 2) := by decide +kernel
theorem dX11_runs_283 : decode cX11_runs 283 = .ok (.iload_n 3, 1) := by decide +kernel
theorem dX11_runs_284 : decode cX11_runs 284 = .ok (.iastore, 1) := by decide +kernel
theorem dX11_runs_285 : decode cX11_runs 285 = .ok (.aload_n 0, 1) := by decide +kernel
theorem dX11_runs_286 : decode cX11_runs 286 = .ok (.getfield 54, 3) := by decide +kernel
theorem dX11_runs_289 : decode cX11_runs 289 = .ok (.iload 6, 2) := by decide +kernel
theorem dX11_runs_291 : decode cX11_runs 291 = .ok (.iload 4, 2) := by decide +kernel
theorem dX11_runs_293 : decode cX11_runs 293 = .ok (.iastore, 1) := by decide +kernel
theorem dX11_runs_294 : decode cX11_runs 294 = .ok (.iinc 6 1, 3) := by decide +kernel
theorem dX11_runs_297 : decode cX11_runs 297 = .ok (.goto (-265), 3) := by decide +kernel
theorem dX11_runs_300 : decode cX11_runs 300 = .ok (.aload_n 0, 1) := by decide +kernel
theorem dX11_runs_301 : decode cX11_runs 301 = .ok (.getfield 39, 3) := by decide +kernel
theorem dX11_runs_304 : decode cX11_runs 304 = .ok (.aload_n 0, 1) := by decide +kernel
theorem dX11_runs_305 : decode cX11_runs 305 = .ok (.getfield 218, 3) := by decide +kernel
theorem dX11_runs_308 : decode cX11_runs 308 = .ok (.iload_n 1, 1) := by decide +kernel
theorem dX11_runs_309 : decode cX11_runs 309 = .ok (.iastore, 1) := by decide +kernel
theorem dX11_runs_310 : decode cX11_runs 310 = .ok (.return_, 1) := by decide +kernel
theorem dX11_settles_0 : decode cX11_settles 0 = .ok (.aload_n 0, 1) := by decide +kernel
theorem dX11_settles_1 : decode cX11_settles 1 = .ok (.getfield 218, 3) := by decide +kernel
theorem dX11_settles_4 : decode cX11_settles 4 = .ok (.iconst 1, 1) := by decide +kernel
theorem dX11_settles_5 : decode cX11_settles 5 = .ok (.iadd, 1) := by decide +kernel
theorem dX11_settles_6 : decode cX11_settles 6 = .ok (.istore_n 1, 1) := by decide +kernel
theorem dX11_settles_7 : decode cX11_settles 7 = .ok (.iload_n 1, 1) := by decide +kernel
theorem dX11_settles_8 : decode cX11_settles 8 = .ok (.ifCond .le 30, 3) := by decide +kernel
theorem dX11_settles_11 : decode cX11_settles 11 = .ok (.aload_n 0, 1) := by decide +kernel
theorem dX11_settles_12 : decode cX11_settles 12 = .ok (.getfield 39, 3) := by decide +kernel
theorem dX11_settles_15 : decode cX11_settles 15 = .ok (.iload_n 1, 1) := by decide +kernel
theorem dX11_settles_16 : decode cX11_settles 16 = .ok (.iconst 1, 1) := by decide +kernel
theorem dX11_settles_17 : decode cX11_settles 17 = .ok (.isub, 1) := by decide +kernel
theorem dX11_settles_18 : decode cX11_settles 18 = .ok (.iaload, 1) := by decide +kernel
theorem dX11_settles_19 : decode cX11_settles 19 = .ok (.invokestatic 179, 3) := by decide +kernel
theorem dX11_settles_22 : decode cX11_settles 22 = .ok (.aload_n 0, 1) := by decide +kernel
theorem dX11_settles_23 : decode cX11_settles 23 = .ok (.getfield 13, 3) := by decide +kernel
theorem dX11_settles_26 : decode cX11_settles 26 = .ok (.bipush 14, 2) := by decide +kernel
theorem dX11_settles_28 : decode cX11_settles 28 = .ok (.iaload, 1) := by decide +kernel
theorem dX11_settles_29 : decode cX11_settles 29 = .ok (.if_icmp .gt 9, 3) := by decide +kernel
theorem dX11_settles_32 : decode cX11_settles 32 = .ok (.iinc 1 (-1), 3) := by decide +kernel
theorem dX11_settles_35 : decode cX11_settles 35 = .ok (.goto (-28), 3) := by decide +kernel
theorem dX11_settles_38 : decode cX11_settles 38 = .ok (.iload_n 1, 1) := by decide +kernel
theorem dX11_settles_39 : decode cX11_settles 39 = .ok (.aload_n 0, 1) := by decide +kernel
theorem dX11_settles_40 : decode cX11_settles 40 = .ok (.getfield 218, 3) := by decide +kernel
theorem dX11_settles_43 : decode cX11_settles 43 = .ok (.if_icmp .le 7, 3) := by decide +kernel
theorem dX11_settles_46 : decode cX11_settles 46 = .ok (.iconst (-1), 1) := by decide +kernel
theorem dX11_settles_47 : decode cX11_settles 47 = .ok (.goto 4, 3) := by decide +kernel
theorem dX11_settles_50 : decode cX11_settles 50 = .ok (.iload_n 1, 1) := by decide +kernel
theorem dX11_settles_51 : decode cX11_settles 51 = .ok (.ireturn, 1) := by decide +kernel
theorem dX11_measures_0 : decode cX11_measures 0 = .ok (.iconst 0, 1) := by decide +kernel
theorem dX11_measures_1 : decode cX11_measures 1 = .ok (.istore_n 2, 1) := by decide +kernel
theorem dX11_measures_2 : decode cX11_measures 2 = .ok (.aload_n 0, 1) := by decide +kernel
theorem dX11_measures_3 : decode cX11_measures 3 = .ok (.getfield 39, 3) := by decide +kernel
theorem dX11_measures_6 : decode cX11_measures 6 = .ok (.iconst 0, 1) := by decide +kernel
theorem dX11_measures_7 : decode cX11_measures 7 = .ok (.iaload, 1) := by decide +kernel
theorem dX11_measures_8 : decode cX11_measures 8 = .ok (.istore_n 3, 1) := by decide +kernel
theorem dX11_measures_9 : decode cX11_measures 9 = .ok (.iconst 0, 1) := by decide +kernel
theorem dX11_measures_10 : decode cX11_measures 10 = .ok (.istore 4, 2) := by decide +kernel
theorem dX11_measures_12 : decode cX11_measures 12 = .ok (.iload 4, 2) := by decide +kernel
theorem dX11_measures_14 : decode cX11_measures 14 = .ok (.aload_n 0, 1) := by decide +kernel
theorem dX11_measures_15 : decode cX11_measures 15 = .ok (.getfield 218, 3) := by decide +kernel
theorem dX11_measures_18 : decode cX11_measures 18 = .ok (.if_icmp .gt 206, 3) := by decide +kernel
theorem dX11_measures_21 : decode cX11_measures 21 = .ok (.aload_n 0, 1) := by decide +kernel
theorem dX11_measures_22 : decode cX11_measures 22 = .ok (.getfield 39, 3) := by decide +kernel
theorem dX11_measures_25 : decode cX11_measures 25 = .ok (.iload 4, 2) := by decide +kernel
theorem dX11_measures_27 : decode cX11_measures 27 = .ok (.iaload, 1) := by decide +kernel
theorem dX11_measures_28 : decode cX11_measures 28 = .ok (.istore 5, 2) := by decide +kernel
theorem dX11_measures_30 : decode cX11_measures 30 = .ok (.iload 5, 2) := by decide +kernel
theorem dX11_measures_32 : decode cX11_measures 32 = .ok (.ifCond .le 7, 3) := by decide +kernel
theorem dX11_measures_35 : decode cX11_measures 35 = .ok (.iload_n 3, 1) := by decide +kernel
theorem dX11_measures_36 : decode cX11_measures 36 = .ok (.ifCond .lt 12, 3) := by decide +kernel
theorem dX11_measures_39 : decode cX11_measures 39 = .ok (.iload 5, 2) := by decide +kernel
theorem dX11_measures_41 : decode cX11_measures 41 = .ok (.ifCond .ge 11, 3) := by decide +kernel
theorem dX11_measures_44 : decode cX11_measures 44 = .ok (.iload_n 3, 1) := by decide +kernel
theorem dX11_measures_45 : decode cX11_measures 45 = .ok (.ifCond .le 7, 3) := by decide +kernel
theorem dX11_measures_48 : decode cX11_measures 48 = .ok (.iconst 1, 1) := by decide +kernel
theorem dX11_measures_49 : decode cX11_measures 49 = .ok (.goto 4, 3) := by decide +kernel
theorem dX11_measures_52 : decode cX11_measures 52 = .ok (.iconst 0, 1) := by decide +kernel
theorem dX11_measures_53 : decode cX11_measures 53 = .ok (.istore 6, 2) := by decide +kernel
theorem dX11_measures_55 : decode cX11_measures 55 = .ok (.iload_n 1, 1) := by decide +kernel
theorem dX11_measures_56 : decode cX11_measures 56 = .ok (.ifCond .ne 11, 3) := by decide +kernel
theorem dX11_measures_59 : decode cX11_measures 59 = .ok (.iload_n 2, 1) := by decide +kernel
theorem dX11_measures_60 : decode cX11_measures 60 = .ok (.iload 5, 2) := by decide +kernel
theorem dX11_measures_62 : decode cX11_measures 62 = .ok (.invokestatic 179, 3) := by decide +kernel
theorem dX11_measures_65 : decode cX11_measures 65 = .ok (.iadd, 1) := by decide +kernel
theorem dX11_measures_66 : decode cX11_measures 66 = .ok (.istore_n 2, 1) := by decide +kernel
theorem dX11_measures_67 : decode cX11_measures 67 = .ok (.iload_n 1, 1) := by decide +kernel
theorem dX11_measures_68 : decode cX11_measures 68 = .ok (.iconst 1, 1) := by decide +kernel
theorem dX11_measures_69 : decode cX11_measures 69 = .ok (.if_icmp .ne 8, 3) := by decide +kernel
theorem dX11_measures_72 : decode cX11_measures 72 = .ok (.iload 4, 2) := by decide +kernel
theorem dX11_measures_74 : decode cX11_measures 74 = .ok (.ifCond .gt 13, 3) := by decide +kernel
theorem dX11_measures_77 : decode cX11_measures 77 = .ok (.iload_n 1, 1) := by decide +kernel
theorem dX11_measures_78 : decode cX11_measures 78 = .ok (.iconst 2, 1) := by decide +kernel
theorem dX11_measures_79 : decode cX11_measures 79 = .ok (.if_icmp .ne 27, 3) := by decide +kernel
theorem dX11_measures_82 : decode cX11_measures 82 = .ok (.iload 6, 2) := by decide +kernel
theorem dX11_measures_84 : decode cX11_measures 84 = .ok (.ifCond .eq 22, 3) := by decide +kernel
theorem dX11_measures_87 : decode cX11_measures 87 = .ok (.iload 5, 2) := by decide +kernel
theorem dX11_measures_89 : decode cX11_measures 89 = .ok (.invokestatic 179, 3) := by decide +kernel
theorem dX11_measures_92 : decode cX11_measures 92 = .ok (.iload_n 2, 1) := by decide +kernel
theorem dX11_measures_93 : decode cX11_measures 93 = .ok (.if_icmp .le 11, 3) := by decide +kernel
theorem dX11_measures_96 : decode cX11_measures 96 = .ok (.iload 5, 2) := by decide +kernel
theorem dX11_measures_98 : decode cX11_measures 98 = .ok (.invokestatic 179, 3) := by decide +kernel
theorem dX11_measures_101 : decode cX11_measures 101 = .ok (.goto 4, 3) := by decide +kernel
theorem dX11_measures_104 : decode cX11_measures 104 = .ok (.iload_n 2, 1) := by decide +kernel
theorem dX11_measures_105 : decode cX11_measures 105 = .ok (.istore_n 2, 1) := by decide +kernel
theorem dX11_measures_106 : decode cX11_measures 106 = .ok (.iload 4, 2) := by decide +kernel
theorem dX11_measures_108 : decode cX11_measures 108 = .ok (.aload_n 0, 1) := by decide +kernel
theorem dX11_measures_109 : decode cX11_measures 109 = .ok (.getfield 218, 3) := by decide +kernel
theorem dX11_measures_112 : decode cX11_measures 112 = .ok (.if_icmp .ne 6, 3) := by decide +kernel
theorem dX11_measures_115 : decode cX11_measures 115 = .ok (.goto 103, 3) := by decide +kernel
theorem dX11_measures_118 : decode cX11_measures 118 = .ok (.iload_n 1, 1) := by decide +kernel
theorem dX11_measures_119 : decode cX11_measures 119 = .ok (.iconst 4, 1) := by decide +kernel
theorem dX11_measures_120 : decode cX11_measures 120 = .ok (.if_icmp .ne 45, 3) := by decide +kernel
theorem dX11_measures_123 : decode cX11_measures 123 = .ok (.iload_n 2, 1) := by decide +kernel
theorem dX11_measures_124 : decode cX11_measures 124 = .ok (.iload 5, 2) := by decide +kernel
theorem dX11_measures_126 : decode cX11_measures 126 = .ok (.ifCond .le 15, 3) := by decide +kernel
theorem dX11_measures_129 : decode cX11_measures 129 = .ok (.aload_n 0, 1) := by decide +kernel
theorem dX11_measures_130 : decode cX11_measures 130 = .ok (.getfield 39, 3) := by decide +kernel
theorem dX11_measures_133 : decode cX11_measures 133 = .ok (.iload 4, 2) := by decide +kernel
theorem dX11_measures_135 : decode cX11_measures 135 = .ok (.iconst 1, 1) := by decide +kernel
theorem dX11_measures_136 : decode cX11_measures 136 = .ok (.iadd, 1) := by decide +kernel
theorem dX11_measures_137 : decode cX11_measures 137 = .ok (.iaload, 1) := by decide +kernel
theorem dX11_measures_138 : decode cX11_measures 138 = .ok (.ifCond .lt 20, 3) := by decide +kernel
theorem dX11_measures_141 : decode cX11_measures 141 = .ok (.iload 5, 2) := by decide +kernel
theorem dX11_measures_143 : decode cX11_measures 143 = .ok (.ifCond .ge 19, 3) := by decide +kernel
theorem dX11_measures_146 : decode cX11_measures 146 = .ok (.aload_n 0, 1) := by decide +kernel
theorem dX11_measures_147 : decode cX11_measures 147 = .ok (.getfield 39, 3) := by decide +kernel
theorem dX11_measures_150 : decode cX11_measures 150 = .ok (.iload 4, 2) := by decide +kernel
theorem dX11_measures_152 : decode cX11_measures 152 = .ok (.iconst 1, 1) := by decide +kernel
theorem dX11_measures_153 : decode cX11_measures 153 = .ok (.iadd, 1) := by decide +kernel
theorem dX11_measures_154 : decode cX11_measures 154 = .ok (.iaload, 1) := by decide +kernel
theorem dX11_measures_155 : decode cX11_measures 155 = .ok (.ifCond .le 7, 3) := by decide +kernel
theorem dX11_measures_158 : decode cX11_measures 158 = .ok (.iconst 1, 1) := by decide +kernel
theorem dX11_measures_159 : decode cX11_measures 159 = .ok (.goto 4, 3) := by decide +kernel
theorem dX11_measures_162 : decode cX11_measures 162 = .ok (.iconst 0, 1) := by decide +kernel
theorem dX11_measures_163 : decode cX11_measures 163 = .ok (.iadd, 1) := by decide +kernel
theorem dX11_measures_164 : decode cX11_measures 164 = .ok (.istore_n 2, 1) := by decide +kernel
theorem dX11_measures_165 : decode cX11_measures 165 = .ok (.iload_n 1, 1) := by decide +kernel
theorem dX11_measures_166 : decode cX11_measures 166 = .ok (.iconst 5, 1) := by decide +kernel
theorem dX11_measures_167 : decode cX11_measures 167 = .ok (.if_icmp .ne 13, 3) := by decide +kernel
theorem dX11_measures_170 : decode cX11_measures 170 = .ok (.iload_n 2, 1) := by decide +kernel
theorem dX11_measures_171 : decode cX11_measures 171 = .ok (.aload_n 0, 1) := by decide +kernel
theorem dX11_measures_172 : decode cX11_measures 172 = .ok (.getfield 57, 3) := by decide +kernel
theorem dX11_measures_175 : decode cX11_measures 175 = .ok (.iload 4, 2) := by decide +kernel
theorem dX11_measures_177 : decode cX11_measures 177 = .ok (.iaload, 1) := by decide +kernel
theorem dX11_measures_178 : decode cX11_measures 178 = .ok (.iadd, 1) := by decide +kernel
theorem dX11_measures_179 : decode cX11_measures 179 = .ok (.istore_n 2, 1) := by decide +kernel
theorem dX11_measures_180 : decode cX11_measures 180 = .ok (.iload_n 1, 1) := by decide +kernel
theorem dX11_measures_181 : decode cX11_measures 181 = .ok (.bipush 6, 2) := by decide +kernel
theorem dX11_measures_183 : decode cX11_measures 183 = .ok (.if_icmp .ne 35, 3) := by decide +kernel
theorem dX11_measures_186 : decode cX11_measures 186 = .ok (.iload_n 2, 1) := by decide +kernel
theorem dX11_measures_187 : decode cX11_measures 187 = .ok (.aload_n 0, 1) := by decide +kernel
theorem dX11_measures_188 : decode cX11_measures 188 = .ok (.getfield 51, 3) := by decide +kernel
theorem dX11_measures_191 : decode cX11_measures 191 = .ok (.iload 4, 2) := by decide +kernel
theorem dX11_measures_193 : decode cX11_measures 193 = .ok (.iaload, 1) := by decide +kernel
theorem dX11_measures_194 : decode cX11_measures 194 = .ok (.iload 4, 2) := by decide +kernel
theorem dX11_measures_196 : decode cX11_measures 196 = .ok (.ifCond .ne 7, 3) := by decide +kernel
theorem dX11_measures_199 : decode cX11_measures 199 = .ok (.iconst 0, 1) := by decide +kernel
theorem dX11_measures_200 : decode cX11_measures 200 = .ok (.goto 12, 3) := by decide +kernel
theorem dX11_measures_203 : decode cX11_measures 203 = .ok (.aload_n 0, 1) := by decide +kernel
theorem dX11_measures_204 : decode cX11_measures 204 = .ok (.getfield 51, 3) := by decide +kernel
theorem dX11_measures_207 : decode cX11_measures 207 = .ok (.iload 4, 2) := by decide +kernel
theorem dX11_measures_209 : decode cX11_measures 209 = .ok (.iconst 1, 1) := by decide +kernel
theorem dX11_measures_210 : decode cX11_measures 210 = .ok (.isub, 1) := by decide +kernel
theorem dX11_measures_211 : decode cX11_measures 211 = .ok (.iaload, 1) := by decide +kernel
theorem dX11_measures_212 : decode cX11_measures 212 = .ok (.isub, 1) := by decide +kernel
theorem dX11_measures_213 : decode cX11_measures 213 = .ok (.invokestatic 179, 3) := by decide +kernel
theorem dX11_measures_216 : decode cX11_measures 216 = .ok (.iadd, 1) := by decide +kernel
theorem dX11_measures_217 : decode cX11_measures 217 = .ok (.istore_n 2, 1) := by decide +kernel
theorem dX11_measures_218 : decode cX11_measures 218 = .ok (.iinc 4 1, 3) := by decide +kernel
theorem dX11_measures_221 : decode cX11_measures 221 = .ok (.goto (-209), 3) := by decide +kernel
theorem dX11_measures_224 : decode cX11_measures 224 = .ok (.iload_n 1, 1) := by decide +kernel
theorem dX11_measures_225 : decode cX11_measures 225 = .ok (.iconst 3, 1) := by decide +kernel
theorem dX11_measures_226 : decode cX11_measures 226 = .ok (.if_icmp .ne 10, 3) := by decide +kernel
theorem dX11_measures_229 : decode cX11_measures 229 = .ok (.aload_n 0, 1) := by decide +kernel
theorem dX11_measures_230 : decode cX11_measures 230 = .ok (.invokevirtual 229, 3) := by decide +kernel
theorem dX11_measures_233 : decode cX11_measures 233 = .ok (.goto 22, 3) := by decide +kernel
theorem dX11_measures_236 : decode cX11_measures 236 = .ok (.iload_n 1, 1) := by decide +kernel
theorem dX11_measures_237 : decode cX11_measures 237 = .ok (.bipush 7, 2) := by decide +kernel
theorem dX11_measures_239 : decode cX11_measures 239 = .ok (.if_icmp .ne 15, 3) := by decide +kernel
theorem dX11_measures_242 : decode cX11_measures 242 = .ok (.aload_n 0, 1) := by decide +kernel
theorem dX11_measures_243 : decode cX11_measures 243 = .ok (.getfield 39, 3) := by decide +kernel
theorem dX11_measures_246 : decode cX11_measures 246 = .ok (.aload_n 0, 1) := by decide +kernel
theorem dX11_measures_247 : decode cX11_measures 247 = .ok (.getfield 218, 3) := by decide +kernel
theorem dX11_measures_250 : decode cX11_measures 250 = .ok (.iaload, 1) := by decide +kernel
theorem dX11_measures_251 : decode cX11_measures 251 = .ok (.goto 4, 3) := by decide +kernel
theorem dX11_measures_254 : decode cX11_measures 254 = .ok (.iload_n 2, 1) := by decide +kernel
theorem dX11_measures_255 : decode cX11_measures 255 = .ok (.ireturn, 1) := by decide +kernel
theorem dX11_costs_0 : decode cX11_costs 0 = .ok (.aload_n 0, 1) := by decide +kernel
theorem dX11_costs_1 : decode cX11_costs 1 = .ok (.getfield 13, 3) := by decide +kernel
theorem dX11_costs_4 : decode cX11_costs 4 = .ok (.bipush 15, 2) := by decide +kernel
theorem dX11_costs_6 : decode cX11_costs 6 = .ok (.iaload, 1) := by decide +kernel
theorem dX11_costs_7 : decode cX11_costs 7 = .ok (.i2l, 1) := by decide +kernel
theorem dX11_costs_8 : decode cX11_costs 8 = .ok (.aload_n 0, 1) := by decide +kernel
theorem dX11_costs_9 : decode cX11_costs 9 = .ok (.iconst 0, 1) := by decide +kernel
theorem dX11_costs_10 : decode cX11_costs 10 = .ok (.invokevirtual 232, 3) := by decide +kernel
theorem dX11_costs_13 : decode cX11_costs 13 = .ok (.i2l, 1) := by decide +kernel
theorem dX11_costs_14 : decode cX11_costs 14 = .ok (.lmul, 1) := by decide +kernel
theorem dX11_costs_15 : decode cX11_costs 15 = .ok (.aload_n 0, 1) := by decide +kernel
theorem dX11_costs_16 : decode cX11_costs 16 = .ok (.getfield 13, 3) := by decide +kernel
theorem dX11_costs_19 : decode cX11_costs 19 = .ok (.bipush 16, 2) := by decide +kernel
theorem dX11_costs_21 : decode cX11_costs 21 = .ok (.iaload, 1) := by decide +kernel
theorem dX11_costs_22 : decode cX11_costs 22 = .ok (.i2l, 1) := by decide +kernel
theorem dX11_costs_23 : decode cX11_costs 23 = .ok (.aload_n 0, 1) := by decide +kernel
theorem dX11_costs_24 : decode cX11_costs 24 = .ok (.iconst 2, 1) := by decide +kernel
theorem dX11_costs_25 : decode cX11_costs 25 = .ok (.invokevirtual 232, 3) := by decide +kernel
theorem dX11_costs_28 : decode cX11_costs 28 = .ok (.i2l, 1) := by decide +kernel
theorem dX11_costs_29 : decode cX11_costs 29 = .ok (.lmul, 1) := by decide +kernel
theorem dX11_costs_30 : decode cX11_costs 30 = .ok (.ladd, 1) := by decide +kernel
theorem dX11_costs_31 : decode cX11_costs 31 = .ok (.aload_n 0, 1) := by decide +kernel
theorem dX11_costs_32 : decode cX11_costs 32 = .ok (.getfield 13, 3) := by decide +kernel
theorem dX11_costs_35 : decode cX11_costs 35 = .ok (.bipush 17, 2) := by decide +kernel
theorem dX11_costs_37 : decode cX11_costs 37 = .ok (.iaload, 1) := by decide +kernel
theorem dX11_costs_38 : decode cX11_costs 38 = .ok (.i2l, 1) := by decide +kernel
theorem dX11_costs_39 : decode cX11_costs 39 = .ok (.aload_n 0, 1) := by decide +kernel
theorem dX11_costs_40 : decode cX11_costs 40 = .ok (.iconst 5, 1) := by decide +kernel
theorem dX11_costs_41 : decode cX11_costs 41 = .ok (.invokevirtual 232, 3) := by decide +kernel
theorem dX11_costs_44 : decode cX11_costs 44 = .ok (.i2l, 1) := by decide +kernel
theorem dX11_costs_45 : decode cX11_costs 45 = .ok (.lmul, 1) := by decide +kernel
theorem dX11_costs_46 : decode cX11_costs 46 = .ok (.ladd, 1) := by decide +kernel
theorem dX11_costs_47 : decode cX11_costs 47 = .ok (.aload_n 0, 1) := by decide +kernel
theorem dX11_costs_48 : decode cX11_costs 48 = .ok (.getfield 13, 3) := by decide +kernel
theorem dX11_costs_51 : decode cX11_costs 51 = .ok (.bipush 18, 2) := by decide +kernel
theorem dX11_costs_53 : decode cX11_costs 53 = .ok (.iaload, 1) := by decide +kernel
theorem dX11_costs_54 : decode cX11_costs 54 = .ok (.i2l, 1) := by decide +kernel
theorem dX11_costs_55 : decode cX11_costs 55 = .ok (.aload_n 0, 1) := by decide +kernel
theorem dX11_costs_56 : decode cX11_costs 56 = .ok (.bipush 6, 2) := by decide +kernel
theorem dX11_costs_58 : decode cX11_costs 58 = .ok (.invokevirtual 232, 3) := by decide +kernel
theorem dX11_costs_61 : decode cX11_costs 61 = .ok (.i2l, 1) := by decide +kernel
theorem dX11_costs_62 : decode cX11_costs 62 = .ok (.lmul, 1) := by decide +kernel
theorem dX11_costs_63 : decode cX11_costs 63 = .ok (.ladd, 1) := by decide +kernel
theorem dX11_costs_64 : decode cX11_costs 64 = .ok (.lstore_n 1, 1) := by decide +kernel
theorem dX11_costs_65 : decode cX11_costs 65 = .ok (.aload_n 0, 1) := by decide +kernel
theorem dX11_costs_66 : decode cX11_costs 66 = .ok (.invokevirtual 229, 3) := by decide +kernel
theorem dX11_costs_69 : decode cX11_costs 69 = .ok (.istore_n 3, 1) := by decide +kernel
theorem dX11_costs_70 : decode cX11_costs 70 = .ok (.lload_n 1, 1) := by decide +kernel
theorem dX11_costs_71 : decode cX11_costs 71 = .ok (.aload_n 0, 1) := by decide +kernel
theorem dX11_costs_72 : decode cX11_costs 72 = .ok (.getfield 13, 3) := by decide +kernel
theorem dX11_costs_75 : decode cX11_costs 75 = .ok (.bipush 19, 2) := by decide +kernel
theorem dX11_costs_77 : decode cX11_costs 77 = .ok (.iaload, 1) := by decide +kernel
theorem dX11_costs_78 : decode cX11_costs 78 = .ok (.i2l, 1) := by decide +kernel
theorem dX11_costs_79 : decode cX11_costs 79 = .ok (.iload_n 3, 1) := by decide +kernel
theorem dX11_costs_80 : decode cX11_costs 80 = .ok (.ifCond .ge 9, 3) := by decide +kernel
theorem dX11_costs_83 : decode cX11_costs 83 = .ok (.sipush 1000, 3) := by decide +kernel
theorem dX11_costs_86 : decode cX11_costs 86 = .ok (.goto 4, 3) := by decide +kernel
theorem dX11_costs_89 : decode cX11_costs 89 = .ok (.iload_n 3, 1) := by decide +kernel
theorem dX11_costs_90 : decode cX11_costs 90 = .ok (.i2l, 1) := by decide +kernel
theorem dX11_costs_91 : decode cX11_costs 91 = .ok (.lmul, 1) := by decide +kernel
theorem dX11_costs_92 : decode cX11_costs 92 = .ok (.ladd, 1) := by decide +kernel
theorem dX11_costs_93 : decode cX11_costs 93 = .ok (.lreturn, 1) := by decide +kernel
theorem dX11_laysTrace_0 : decode cX11_laysTrace 0 = .ok (.aload_n 0, 1) := by decide +kernel
theorem dX11_laysTrace_1 : decode cX11_laysTrace 1 = .ok (.iconst 1, 1) := by decide +kernel
theorem dX11_laysTrace_2 : decode cX11_laysTrace 2 = .ok (.putfield 235, 3) := by decide +kernel
theorem dX11_laysTrace_5 : decode cX11_laysTrace 5 = .ok (.aload_n 0, 1) := by decide +kernel
theorem dX11_laysTrace_6 : decode cX11_laysTrace 6 = .ok (.aload_n 0, 1) := by decide +kernel
theorem dX11_laysTrace_7 : decode cX11_laysTrace 7 = .ok (.getfield 218, 3) := by decide +kernel
theorem dX11_laysTrace_10 : decode cX11_laysTrace 10 = .ok (.putfield 239, 3) := by decide +kernel
theorem dX11_laysTrace_13 : decode cX11_laysTrace 13 = .ok (.iconst 0, 1) := by decide +kernel
theorem dX11_laysTrace_14 : decode cX11_laysTrace 14 = .ok (.istore_n 1, 1) := by decide +kernel
theorem dX11_laysTrace_15 : decode cX11_laysTrace 15 = .ok (.iload_n 1, 1) := by decide +kernel
theorem dX11_laysTrace_16 : decode cX11_laysTrace 16 = .ok (.aload_n 0, 1) := by decide +kernel
theorem dX11_laysTrace_17 : decode cX11_laysTrace 17 = .ok (.getfield 218, 3) := by decide +kernel
theorem dX11_laysTrace_20 : decode cX11_laysTrace 20 = .ok (.if_icmp .gt 112, 3) := by decide +kernel
theorem dX11_laysTrace_23 : decode cX11_laysTrace 23 = .ok (.aload_n 0, 1) := by decide +kernel
theorem dX11_laysTrace_24 : decode cX11_laysTrace 24 = .ok (.getfield 60, 3) := by decide +kernel
theorem dX11_laysTrace_27 : decode cX11_laysTrace 27 = .ok (.iload_n 1, 1) := by decide +kernel
theorem dX11_laysTrace_28 : decode cX11_laysTrace 28 = .ok (.aload_n 0, 1) := by decide +kernel
theorem dX11_laysTrace_29 : decode cX11_laysTrace 29 = .ok (.getfield 39, 3) := by decide +kernel
theorem dX11_laysTrace_32 : decode cX11_laysTrace 32 = .ok (.iload_n 1, 1) := by decide +kernel
theorem dX11_laysTrace_33 : decode cX11_laysTrace 33 = .ok (.iaload, 1) := by decide +kernel
theorem dX11_laysTrace_34 : decode cX11_laysTrace 34 = .ok (.iastore, 1) := by decide +kernel
theorem dX11_laysTrace_35 : decode cX11_laysTrace 35 = .ok (.iload_n 1, 1) := by decide +kernel
theorem dX11_laysTrace_36 : decode cX11_laysTrace 36 = .ok (.aload_n 0, 1) := by decide +kernel
theorem dX11_laysTrace_37 : decode cX11_laysTrace 37 = .ok (.getfield 218, 3) := by decide +kernel
theorem dX11_laysTrace_40 : decode cX11_laysTrace 40 = .ok (.if_icmp .ne 6, 3) := by decide +kernel
theorem dX11_laysTrace_43 : decode cX11_laysTrace 43 = .ok (.goto 83, 3) := by decide +kernel
theorem dX11_laysTrace_46 : decode cX11_laysTrace 46 = .ok (.aload_n 0, 1) := by decide +kernel
theorem dX11_laysTrace_47 : decode cX11_laysTrace 47 = .ok (.getfield 60, 3) := by decide +kernel
theorem dX11_laysTrace_50 : decode cX11_laysTrace 50 = .ok (.sipush 201, 3) := by decide +kernel
theorem dX11_laysTrace_53 : decode cX11_laysTrace 53 = .ok (.iload_n 1, 1) := by decide +kernel
theorem dX11_laysTrace_54 : decode cX11_laysTrace 54 = .ok (.iadd, 1) := by decide +kernel
theorem dX11_laysTrace_55 : decode cX11_laysTrace 55 = .ok (.aload_n 0, 1) := by decide +kernel
theorem dX11_laysTrace_56 : decode cX11_laysTrace 56 = .ok (.getfield 45, 3) := by decide +kernel
theorem dX11_laysTrace_59 : decode cX11_laysTrace 59 = .ok (.iload_n 1, 1) := by decide +kernel
theorem dX11_laysTrace_60 : decode cX11_laysTrace 60 = .ok (.iaload, 1) := by decide +kernel
theorem dX11_laysTrace_61 : decode cX11_laysTrace 61 = .ok (.iastore, 1) := by decide +kernel
theorem dX11_laysTrace_62 : decode cX11_laysTrace 62 = .ok (.aload_n 0, 1) := by decide +kernel
theorem dX11_laysTrace_63 : decode cX11_laysTrace 63 = .ok (.getfield 60, 3) := by decide +kernel
theorem dX11_laysTrace_66 : decode cX11_laysTrace 66 = .ok (.sipush 402, 3) := by decide +kernel
theorem dX11_laysTrace_69 : decode cX11_laysTrace 69 = .ok (.iload_n 1, 1) := by decide +kernel
theorem dX11_laysTrace_70 : decode cX11_laysTrace 70 = .ok (.iadd, 1) := by decide +kernel
theorem dX11_laysTrace_71 : decode cX11_laysTrace 71 = .ok (.aload_n 0, 1) := by decide +kernel
theorem dX11_laysTrace_72 : decode cX11_laysTrace 72 = .ok (.getfield 48, 3) := by decide +kernel
theorem dX11_laysTrace_75 : decode cX11_laysTrace 75 = .ok (.iload_n 1, 1) := by decide +kernel
theorem dX11_laysTrace_76 : decode cX11_laysTrace 76 = .ok (.iaload, 1) := by decide +kernel
theorem dX11_laysTrace_77 : decode cX11_laysTrace 77 = .ok (.iastore, 1) := by decide +kernel
theorem dX11_laysTrace_78 : decode cX11_laysTrace 78 = .ok (.aload_n 0, 1) := by decide +kernel
theorem dX11_laysTrace_79 : decode cX11_laysTrace 79 = .ok (.getfield 60, 3) := by decide +kernel
theorem dX11_laysTrace_82 : decode cX11_laysTrace 82 = .ok (.sipush 603, 3) := by decide +kernel
theorem dX11_laysTrace_85 : decode cX11_laysTrace 85 = .ok (.iload_n 1, 1) := by decide +kernel
theorem dX11_laysTrace_86 : decode cX11_laysTrace 86 = .ok (.iadd, 1) := by decide +kernel
theorem dX11_laysTrace_87 : decode cX11_laysTrace 87 = .ok (.aload_n 0, 1) := by decide +kernel
theorem dX11_laysTrace_88 : decode cX11_laysTrace 88 = .ok (.getfield 51, 3) := by decide +kernel
theorem dX11_laysTrace_91 : decode cX11_laysTrace 91 = .ok (.iload_n 1, 1) := by decide +kernel
theorem dX11_laysTrace_92 : decode cX11_laysTrace 92 = .ok (.iaload, 1) := by decide +kernel
theorem dX11_laysTrace_93 : decode cX11_laysTrace 93 = .ok (.iastore, 1) := by decide +kernel
theorem dX11_laysTrace_94 : decode cX11_laysTrace 94 = .ok (.aload_n 0, 1) := by decide +kernel
theorem dX11_laysTrace_95 : decode cX11_laysTrace 95 = .ok (.getfield 60, 3) := by decide +kernel
theorem dX11_laysTrace_98 : decode cX11_laysTrace 98 = .ok (.sipush 804, 3) := by decide +kernel
theorem dX11_laysTrace_101 : decode cX11_laysTrace 101 = .ok (.iload_n 1, 1) := by decide +kernel
theorem dX11_laysTrace_102 : decode cX11_laysTrace 102 = .ok (.iadd, 1) := by decide +kernel
theorem dX11_laysTrace_103 : decode cX11_laysTrace 103 = .ok (.aload_n 0, 1) := by decide +kernel
theorem dX11_laysTrace_104 : decode cX11_laysTrace 104 = .ok (.getfield 54, 3) := by decide +kernel
theorem dX11_laysTrace_107 : decode cX11_laysTrace 107 = .ok (.iload_n 1, 1) := by decide +kernel
theorem dX11_laysTrace_108 : decode cX11_laysTrace 108 = .ok (.iaload, 1) := by decide +kernel
theorem dX11_laysTrace_109 : decode cX11_laysTrace 109 = .ok (.iastore, 1) := by decide +kernel
theorem dX11_laysTrace_110 : decode cX11_laysTrace 110 = .ok (.aload_n 0, 1) := by decide +kernel
theorem dX11_laysTrace_111 : decode cX11_laysTrace 111 = .ok (.getfield 60, 3) := by decide +kernel
theorem dX11_laysTrace_114 : decode cX11_laysTrace 114 = .ok (.sipush 1005, 3) := by decide +kernel
theorem dX11_laysTrace_117 : decode cX11_laysTrace 117 = .ok (.iload_n 1, 1) := by decide +kernel
theorem dX11_laysTrace_118 : decode cX11_laysTrace 118 = .ok (.iadd, 1) := by decide +kernel
theorem dX11_laysTrace_119 : decode cX11_laysTrace 119 = .ok (.aload_n 0, 1) := by decide +kernel
theorem dX11_laysTrace_120 : decode cX11_laysTrace 120 = .ok (.getfield 57, 3) := by decide +kernel
theorem dX11_laysTrace_123 : decode cX11_laysTrace 123 = .ok (.iload_n 1, 1) := by decide +kernel
theorem dX11_laysTrace_124 : decode cX11_laysTrace 124 = .ok (.iaload, 1) := by decide +kernel
theorem dX11_laysTrace_125 : decode cX11_laysTrace 125 = .ok (.iastore, 1) := by decide +kernel
theorem dX11_laysTrace_126 : decode cX11_laysTrace 126 = .ok (.iinc 1 1, 3) := by decide +kernel
theorem dX11_laysTrace_129 : decode cX11_laysTrace 129 = .ok (.goto (-114), 3) := by decide +kernel
theorem dX11_laysTrace_132 : decode cX11_laysTrace 132 = .ok (.return_, 1) := by decide +kernel
theorem dX11_takesTrace_0 : decode cX11_takesTrace 0 = .ok (.aload_n 0, 1) := by decide +kernel
theorem dX11_takesTrace_1 : decode cX11_takesTrace 1 = .ok (.aload_n 0, 1) := by decide +kernel
theorem dX11_takesTrace_2 : decode cX11_takesTrace 2 = .ok (.getfield 239, 3) := by decide +kernel
theorem dX11_takesTrace_5 : decode cX11_takesTrace 5 = .ok (.putfield 218, 3) := by decide +kernel
theorem dX11_takesTrace_8 : decode cX11_takesTrace 8 = .ok (.iconst 0, 1) := by decide +kernel
theorem dX11_takesTrace_9 : decode cX11_takesTrace 9 = .ok (.istore_n 1, 1) := by decide +kernel
theorem dX11_takesTrace_10 : decode cX11_takesTrace 10 = .ok (.iload_n 1, 1) := by decide +kernel
theorem dX11_takesTrace_11 : decode cX11_takesTrace 11 = .ok (.aload_n 0, 1) := by decide +kernel
theorem dX11_takesTrace_12 : decode cX11_takesTrace 12 = .ok (.getfield 218, 3) := by decide +kernel
theorem dX11_takesTrace_15 : decode cX11_takesTrace 15 = .ok (.if_icmp .gt 112, 3) := by decide +kernel
theorem dX11_takesTrace_18 : decode cX11_takesTrace 18 = .ok (.aload_n 0, 1) := by decide +kernel
theorem dX11_takesTrace_19 : decode cX11_takesTrace 19 = .ok (.getfield 39, 3) := by decide +kernel
theorem dX11_takesTrace_22 : decode cX11_takesTrace 22 = .ok (.iload_n 1, 1) := by decide +kernel
theorem dX11_takesTrace_23 : decode cX11_takesTrace 23 = .ok (.aload_n 0, 1) := by decide +kernel
theorem dX11_takesTrace_24 : decode cX11_takesTrace 24 = .ok (.getfield 60, 3) := by decide +kernel
theorem dX11_takesTrace_27 : decode cX11_takesTrace 27 = .ok (.iload_n 1, 1) := by decide +kernel
theorem dX11_takesTrace_28 : decode cX11_takesTrace 28 = .ok (.iaload, 1) := by decide +kernel
theorem dX11_takesTrace_29 : decode cX11_takesTrace 29 = .ok (.iastore, 1) := by decide +kernel
theorem dX11_takesTrace_30 : decode cX11_takesTrace 30 = .ok (.iload_n 1, 1) := by decide +kernel
theorem dX11_takesTrace_31 : decode cX11_takesTrace 31 = .ok (.aload_n 0, 1) := by decide +kernel
theorem dX11_takesTrace_32 : decode cX11_takesTrace 32 = .ok (.getfield 218, 3) := by decide +kernel
theorem dX11_takesTrace_35 : decode cX11_takesTrace 35 = .ok (.if_icmp .ne 6, 3) := by decide +kernel
theorem dX11_takesTrace_38 : decode cX11_takesTrace 38 = .ok (.goto 83, 3) := by decide +kernel
theorem dX11_takesTrace_41 : decode cX11_takesTrace 41 = .ok (.aload_n 0, 1) := by decide +kernel
theorem dX11_takesTrace_42 : decode cX11_takesTrace 42 = .ok (.getfield 45, 3) := by decide +kernel
theorem dX11_takesTrace_45 : decode cX11_takesTrace 45 = .ok (.iload_n 1, 1) := by decide +kernel
theorem dX11_takesTrace_46 : decode cX11_takesTrace 46 = .ok (.aload_n 0, 1) := by decide +kernel
theorem dX11_takesTrace_47 : decode cX11_takesTrace 47 = .ok (.getfield 60, 3) := by decide +kernel
theorem dX11_takesTrace_50 : decode cX11_takesTrace 50 = .ok (.sipush 201, 3) := by decide +kernel
theorem dX11_takesTrace_53 : decode cX11_takesTrace 53 = .ok (.iload_n 1, 1) := by decide +kernel
theorem dX11_takesTrace_54 : decode cX11_takesTrace 54 = .ok (.iadd, 1) := by decide +kernel
theorem dX11_takesTrace_55 : decode cX11_takesTrace 55 = .ok (.iaload, 1) := by decide +kernel
theorem dX11_takesTrace_56 : decode cX11_takesTrace 56 = .ok (.iastore, 1) := by decide +kernel
theorem dX11_takesTrace_57 : decode cX11_takesTrace 57 = .ok (.aload_n 0, 1) := by decide +kernel
theorem dX11_takesTrace_58 : decode cX11_takesTrace 58 = .ok (.getfield 48, 3) := by decide +kernel
theorem dX11_takesTrace_61 : decode cX11_takesTrace 61 = .ok (.iload_n 1, 1) := by decide +kernel
theorem dX11_takesTrace_62 : decode cX11_takesTrace 62 = .ok (.aload_n 0, 1) := by decide +kernel
theorem dX11_takesTrace_63 : decode cX11_takesTrace 63 = .ok (.getfield 60, 3) := by decide +kernel
theorem dX11_takesTrace_66 : decode cX11_takesTrace 66 = .ok (.sipush 402, 3) := by decide +kernel
theorem dX11_takesTrace_69 : decode cX11_takesTrace 69 = .ok (.iload_n 1, 1) := by decide +kernel
theorem dX11_takesTrace_70 : decode cX11_takesTrace 70 = .ok (.iadd, 1) := by decide +kernel
theorem dX11_takesTrace_71 : decode cX11_takesTrace 71 = .ok (.iaload, 1) := by decide +kernel
theorem dX11_takesTrace_72 : decode cX11_takesTrace 72 = .ok (.iastore, 1) := by decide +kernel
theorem dX11_takesTrace_73 : decode cX11_takesTrace 73 = .ok (.aload_n 0, 1) := by decide +kernel
theorem dX11_takesTrace_74 : decode cX11_takesTrace 74 = .ok (.getfield 51, 3) := by decide +kernel
theorem dX11_takesTrace_77 : decode cX11_takesTrace 77 = .ok (.iload_n 1, 1) := by decide +kernel
theorem dX11_takesTrace_78 : decode cX11_takesTrace 78 = .ok (.aload_n 0, 1) := by decide +kernel
theorem dX11_takesTrace_79 : decode cX11_takesTrace 79 = .ok (.getfield 60, 3) := by decide +kernel
theorem dX11_takesTrace_82 : decode cX11_takesTrace 82 = .ok (.sipush 603, 3) := by decide +kernel
theorem dX11_takesTrace_85 : decode cX11_takesTrace 85 = .ok (.iload_n 1, 1) := by decide +kernel
theorem dX11_takesTrace_86 : decode cX11_takesTrace 86 = .ok (.iadd, 1) := by decide +kernel
theorem dX11_takesTrace_87 : decode cX11_takesTrace 87 = .ok (.iaload, 1) := by decide +kernel
theorem dX11_takesTrace_88 : decode cX11_takesTrace 88 = .ok (.iastore, 1) := by decide +kernel
theorem dX11_takesTrace_89 : decode cX11_takesTrace 89 = .ok (.aload_n 0, 1) := by decide +kernel
theorem dX11_takesTrace_90 : decode cX11_takesTrace 90 = .ok (.getfield 54, 3) := by decide +kernel
theorem dX11_takesTrace_93 : decode cX11_takesTrace 93 = .ok (.iload_n 1, 1) := by decide +kernel
theorem dX11_takesTrace_94 : decode cX11_takesTrace 94 = .ok (.aload_n 0, 1) := by decide +kernel
theorem dX11_takesTrace_95 : decode cX11_takesTrace 95 = .ok (.getfield 60, 3) := by decide +kernel
theorem dX11_takesTrace_98 : decode cX11_takesTrace 98 = .ok (.sipush 804, 3) := by decide +kernel
theorem dX11_takesTrace_101 : decode cX11_takesTrace 101 = .ok (.iload_n 1, 1) := by decide +kernel
theorem dX11_takesTrace_102 : decode cX11_takesTrace 102 = .ok (.iadd, 1) := by decide +kernel
theorem dX11_takesTrace_103 : decode cX11_takesTrace 103 = .ok (.iaload, 1) := by decide +kernel
theorem dX11_takesTrace_104 : decode cX11_takesTrace 104 = .ok (.iastore, 1) := by decide +kernel
theorem dX11_takesTrace_105 : decode cX11_takesTrace 105 = .ok (.aload_n 0, 1) := by decide +kernel
theorem dX11_takesTrace_106 : decode cX11_takesTrace 106 = .ok (.getfield 57, 3) := by decide +kernel
theorem dX11_takesTrace_109 : decode cX11_takesTrace 109 = .ok (.iload_n 1, 1) := by decide +kernel
theorem dX11_takesTrace_110 : decode cX11_takesTrace 110 = .ok (.aload_n 0, 1) := by decide +kernel
theorem dX11_takesTrace_111 : decode cX11_takesTrace 111 = .ok (.getfield 60, 3) := by decide +kernel
theorem dX11_takesTrace_114 : decode cX11_takesTrace 114 = .ok (.sipush 1005, 3) := by decide +kernel
theorem dX11_takesTrace_117 : decode cX11_takesTrace 117 = .ok (.iload_n 1, 1) := by decide +kernel
theorem dX11_takesTrace_118 : decode cX11_takesTrace 118 = .ok (.iadd, 1) := by decide +kernel
theorem dX11_takesTrace_119 : decode cX11_takesTrace 119 = .ok (.iaload, 1) := by decide +kernel
theorem dX11_takesTrace_120 : decode cX11_takesTrace 120 = .ok (.iastore, 1) := by decide +kernel
theorem dX11_takesTrace_121 : decode cX11_takesTrace 121 = .ok (.iinc 1 1, 3) := by decide +kernel
theorem dX11_takesTrace_124 : decode cX11_takesTrace 124 = .ok (.goto (-114), 3) := by decide +kernel
theorem dX11_takesTrace_127 : decode cX11_takesTrace 127 = .ok (.return_, 1) := by decide +kernel
theorem dX11_run_0 : decode cX11_run 0 = .ok (.aload_n 0, 1) := by decide +kernel
theorem dX11_run_1 : decode cX11_run 1 = .ok (.iconst 0, 1) := by decide +kernel
theorem dX11_run_2 : decode cX11_run 2 = .ok (.putfield 3, 3) := by decide +kernel
theorem dX11_run_5 : decode cX11_run 5 = .ok (.aload_n 0, 1) := by decide +kernel
theorem dX11_run_6 : decode cX11_run 6 = .ok (.invokevirtual 242, 3) := by decide +kernel
theorem dX11_run_9 : decode cX11_run 9 = .ok (.aload_n 0, 1) := by decide +kernel
theorem dX11_run_10 : decode cX11_run 10 = .ok (.invokevirtual 245, 3) := by decide +kernel
theorem dX11_run_13 : decode cX11_run 13 = .ok (.aload_n 0, 1) := by decide +kernel
theorem dX11_run_14 : decode cX11_run 14 = .ok (.getfield 39, 3) := by decide +kernel
theorem dX11_run_17 : decode cX11_run 17 = .ok (.aload_n 0, 1) := by decide +kernel
theorem dX11_run_18 : decode cX11_run 18 = .ok (.getfield 218, 3) := by decide +kernel
theorem dX11_run_21 : decode cX11_run 21 = .ok (.iaload, 1) := by decide +kernel
theorem dX11_run_22 : decode cX11_run 22 = .ok (.ireturn, 1) := by decide +kernel
theorem dX11_trace_0 : decode cX11_trace 0 = .ok (.aload_n 0, 1) := by decide +kernel
theorem dX11_trace_1 : decode cX11_trace 1 = .ok (.aload_n 0, 1) := by decide +kernel
theorem dX11_trace_2 : decode cX11_trace 2 = .ok (.getfield 235, 3) := by decide +kernel
theorem dX11_trace_5 : decode cX11_trace 5 = .ok (.ifCond .ne 7, 3) := by decide +kernel
theorem dX11_trace_8 : decode cX11_trace 8 = .ok (.iconst 1, 1) := by decide +kernel
theorem dX11_trace_9 : decode cX11_trace 9 = .ok (.goto 50, 3) := by decide +kernel
theorem dX11_trace_12 : decode cX11_trace 12 = .ok (.iload_n 1, 1) := by decide +kernel
theorem dX11_trace_13 : decode cX11_trace 13 = .ok (.i2l, 1) := by decide +kernel
theorem dX11_trace_14 : decode cX11_trace 14 = .ok (.lconst 0, 1) := by decide +kernel
theorem dX11_trace_15 : decode cX11_trace 15 = .ok (.aload_n 0, 1) := by decide +kernel
theorem dX11_trace_16 : decode cX11_trace 16 = .ok (.getfield 239, 3) := by decide +kernel
theorem dX11_trace_19 : decode cX11_trace 19 = .ok (.i2l, 1) := by decide +kernel
theorem dX11_trace_20 : decode cX11_trace 20 = .ok (.invokestatic 92, 3) := by decide +kernel
theorem dX11_trace_23 : decode cX11_trace 23 = .ok (.ifCond .ne 7, 3) := by decide +kernel
theorem dX11_trace_26 : decode cX11_trace 26 = .ok (.iconst 2, 1) := by decide +kernel
theorem dX11_trace_27 : decode cX11_trace 27 = .ok (.goto 32, 3) := by decide +kernel
theorem dX11_trace_30 : decode cX11_trace 30 = .ok (.iload_n 2, 1) := by decide +kernel
theorem dX11_trace_31 : decode cX11_trace 31 = .ok (.i2l, 1) := by decide +kernel
theorem dX11_trace_32 : decode cX11_trace 32 = .ok (.lconst 0, 1) := by decide +kernel
theorem dX11_trace_33 : decode cX11_trace 33 = .ok (.ldc2_w 248, 3) := by decide +kernel
theorem dX11_trace_36 : decode cX11_trace 36 = .ok (.invokestatic 92, 3) := by decide +kernel
theorem dX11_trace_39 : decode cX11_trace 39 = .ok (.ifCond .eq 15, 3) := by decide +kernel
theorem dX11_trace_42 : decode cX11_trace 42 = .ok (.iload_n 1, 1) := by decide +kernel
theorem dX11_trace_43 : decode cX11_trace 43 = .ok (.aload_n 0, 1) := by decide +kernel
theorem dX11_trace_44 : decode cX11_trace 44 = .ok (.getfield 239, 3) := by decide +kernel
theorem dX11_trace_47 : decode cX11_trace 47 = .ok (.if_icmp .ne 11, 3) := by decide +kernel
theorem dX11_trace_50 : decode cX11_trace 50 = .ok (.iload_n 2, 1) := by decide +kernel
theorem dX11_trace_51 : decode cX11_trace 51 = .ok (.ifCond .le 7, 3) := by decide +kernel
theorem dX11_trace_54 : decode cX11_trace 54 = .ok (.iconst 3, 1) := by decide +kernel
theorem dX11_trace_55 : decode cX11_trace 55 = .ok (.goto 4, 3) := by decide +kernel
theorem dX11_trace_58 : decode cX11_trace 58 = .ok (.iconst 0, 1) := by decide +kernel
theorem dX11_trace_59 : decode cX11_trace 59 = .ok (.putfield 3, 3) := by decide +kernel
theorem dX11_trace_62 : decode cX11_trace 62 = .ok (.aload_n 0, 1) := by decide +kernel
theorem dX11_trace_63 : decode cX11_trace 63 = .ok (.getfield 3, 3) := by decide +kernel
theorem dX11_trace_66 : decode cX11_trace 66 = .ok (.ifCond .ne 18, 3) := by decide +kernel
theorem dX11_trace_69 : decode cX11_trace 69 = .ok (.aload_n 0, 1) := by decide +kernel
theorem dX11_trace_70 : decode cX11_trace 70 = .ok (.getfield 60, 3) := by decide +kernel
theorem dX11_trace_73 : decode cX11_trace 73 = .ok (.sipush 201, 3) := by decide +kernel
theorem dX11_trace_76 : decode cX11_trace 76 = .ok (.iload_n 2, 1) := by decide +kernel
theorem dX11_trace_77 : decode cX11_trace 77 = .ok (.imul, 1) := by decide +kernel
theorem dX11_trace_78 : decode cX11_trace 78 = .ok (.iload_n 1, 1) := by decide +kernel
theorem dX11_trace_79 : decode cX11_trace 79 = .ok (.iadd, 1) := by decide +kernel
theorem dX11_trace_80 : decode cX11_trace 80 = .ok (.iaload, 1) := by decide +kernel
theorem dX11_trace_81 : decode cX11_trace 81 = .ok (.goto 4, 3) := by decide +kernel
theorem dX11_trace_84 : decode cX11_trace 84 = .ok (.iconst 0, 1) := by decide +kernel
theorem dX11_trace_85 : decode cX11_trace 85 = .ok (.ireturn, 1) := by decide +kernel
theorem dX11_measure_0 : decode cX11_measure 0 = .ok (.aload_n 0, 1) := by decide +kernel
theorem dX11_measure_1 : decode cX11_measure 1 = .ok (.aload_n 0, 1) := by decide +kernel
theorem dX11_measure_2 : decode cX11_measure 2 = .ok (.getfield 235, 3) := by decide +kernel
theorem dX11_measure_5 : decode cX11_measure 5 = .ok (.ifCond .ne 7, 3) := by decide +kernel
theorem dX11_measure_8 : decode cX11_measure 8 = .ok (.iconst 1, 1) := by decide +kernel
theorem dX11_measure_9 : decode cX11_measure 9 = .ok (.goto 20, 3) := by decide +kernel
theorem dX11_measure_12 : decode cX11_measure 12 = .ok (.iload_n 1, 1) := by decide +kernel
theorem dX11_measure_13 : decode cX11_measure 13 = .ok (.i2l, 1) := by decide +kernel
theorem dX11_measure_14 : decode cX11_measure 14 = .ok (.lconst 0, 1) := by decide +kernel
theorem dX11_measure_15 : decode cX11_measure 15 = .ok (.ldc2_w 250, 3) := by decide +kernel
theorem dX11_measure_18 : decode cX11_measure 18 = .ok (.invokestatic 92, 3) := by decide +kernel
theorem dX11_measure_21 : decode cX11_measure 21 = .ok (.ifCond .eq 7, 3) := by decide +kernel
theorem dX11_measure_24 : decode cX11_measure 24 = .ok (.iconst 0, 1) := by decide +kernel
theorem dX11_measure_25 : decode cX11_measure 25 = .ok (.goto 4, 3) := by decide +kernel
theorem dX11_measure_28 : decode cX11_measure 28 = .ok (.iconst 2, 1) := by decide +kernel
theorem dX11_measure_29 : decode cX11_measure 29 = .ok (.putfield 3, 3) := by decide +kernel
theorem dX11_measure_32 : decode cX11_measure 32 = .ok (.aload_n 0, 1) := by decide +kernel
theorem dX11_measure_33 : decode cX11_measure 33 = .ok (.getfield 3, 3) := by decide +kernel
theorem dX11_measure_36 : decode cX11_measure 36 = .ok (.ifCond .eq 5, 3) := by decide +kernel
theorem dX11_measure_39 : decode cX11_measure 39 = .ok (.iconst 0, 1) := by decide +kernel
theorem dX11_measure_40 : decode cX11_measure 40 = .ok (.ireturn, 1) := by decide +kernel
theorem dX11_measure_41 : decode cX11_measure 41 = .ok (.aload_n 0, 1) := by decide +kernel
theorem dX11_measure_42 : decode cX11_measure 42 = .ok (.invokevirtual 252, 3) := by decide +kernel
theorem dX11_measure_45 : decode cX11_measure 45 = .ok (.aload_n 0, 1) := by decide +kernel
theorem dX11_measure_46 : decode cX11_measure 46 = .ok (.iload_n 1, 1) := by decide +kernel
theorem dX11_measure_47 : decode cX11_measure 47 = .ok (.invokevirtual 232, 3) := by decide +kernel
theorem dX11_measure_50 : decode cX11_measure 50 = .ok (.ireturn, 1) := by decide +kernel
theorem dX11_cost_0 : decode cX11_cost 0 = .ok (.aload_n 0, 1) := by decide +kernel
theorem dX11_cost_1 : decode cX11_cost 1 = .ok (.aload_n 0, 1) := by decide +kernel
theorem dX11_cost_2 : decode cX11_cost 2 = .ok (.getfield 235, 3) := by decide +kernel
theorem dX11_cost_5 : decode cX11_cost 5 = .ok (.ifCond .eq 7, 3) := by decide +kernel
theorem dX11_cost_8 : decode cX11_cost 8 = .ok (.iconst 0, 1) := by decide +kernel
theorem dX11_cost_9 : decode cX11_cost 9 = .ok (.goto 4, 3) := by decide +kernel
theorem dX11_cost_12 : decode cX11_cost 12 = .ok (.iconst 1, 1) := by decide +kernel
theorem dX11_cost_13 : decode cX11_cost 13 = .ok (.putfield 3, 3) := by decide +kernel
theorem dX11_cost_16 : decode cX11_cost 16 = .ok (.aload_n 0, 1) := by decide +kernel
theorem dX11_cost_17 : decode cX11_cost 17 = .ok (.getfield 3, 3) := by decide +kernel
theorem dX11_cost_20 : decode cX11_cost 20 = .ok (.ifCond .eq 5, 3) := by decide +kernel
theorem dX11_cost_23 : decode cX11_cost 23 = .ok (.lconst 0, 1) := by decide +kernel
theorem dX11_cost_24 : decode cX11_cost 24 = .ok (.lreturn, 1) := by decide +kernel
theorem dX11_cost_25 : decode cX11_cost 25 = .ok (.aload_n 0, 1) := by decide +kernel
theorem dX11_cost_26 : decode cX11_cost 26 = .ok (.invokevirtual 252, 3) := by decide +kernel
theorem dX11_cost_29 : decode cX11_cost 29 = .ok (.aload_n 0, 1) := by decide +kernel
theorem dX11_cost_30 : decode cX11_cost 30 = .ok (.invokevirtual 255, 3) := by decide +kernel
theorem dX11_cost_33 : decode cX11_cost 33 = .ok (.lreturn, 1) := by decide +kernel
theorem dX11_reason_0 : decode cX11_reason 0 = .ok (.aload_n 0, 1) := by decide +kernel
theorem dX11_reason_1 : decode cX11_reason 1 = .ok (.aload_n 0, 1) := by decide +kernel
theorem dX11_reason_2 : decode cX11_reason 2 = .ok (.getfield 235, 3) := by decide +kernel
theorem dX11_reason_5 : decode cX11_reason 5 = .ok (.ifCond .ne 7, 3) := by decide +kernel
theorem dX11_reason_8 : decode cX11_reason 8 = .ok (.iconst 1, 1) := by decide +kernel
theorem dX11_reason_9 : decode cX11_reason 9 = .ok (.goto 24, 3) := by decide +kernel
theorem dX11_reason_12 : decode cX11_reason 12 = .ok (.iload_n 1, 1) := by decide +kernel
theorem dX11_reason_13 : decode cX11_reason 13 = .ok (.i2l, 1) := by decide +kernel
theorem dX11_reason_14 : decode cX11_reason 14 = .ok (.lconst 0, 1) := by decide +kernel
theorem dX11_reason_15 : decode cX11_reason 15 = .ok (.aload_n 0, 1) := by decide +kernel
theorem dX11_reason_16 : decode cX11_reason 16 = .ok (.getfield 239, 3) := by decide +kernel
theorem dX11_reason_19 : decode cX11_reason 19 = .ok (.iconst 1, 1) := by decide +kernel
theorem dX11_reason_20 : decode cX11_reason 20 = .ok (.isub, 1) := by decide +kernel
theorem dX11_reason_21 : decode cX11_reason 21 = .ok (.i2l, 1) := by decide +kernel
theorem dX11_reason_22 : decode cX11_reason 22 = .ok (.invokestatic 92, 3) := by decide +kernel
theorem dX11_reason_25 : decode cX11_reason 25 = .ok (.ifCond .eq 7, 3) := by decide +kernel
theorem dX11_reason_28 : decode cX11_reason 28 = .ok (.iconst 0, 1) := by decide +kernel
theorem dX11_reason_29 : decode cX11_reason 29 = .ok (.goto 4, 3) := by decide +kernel
theorem dX11_reason_32 : decode cX11_reason 32 = .ok (.iconst 2, 1) := by decide +kernel
theorem dX11_reason_33 : decode cX11_reason 33 = .ok (.putfield 3, 3) := by decide +kernel
theorem dX11_reason_36 : decode cX11_reason 36 = .ok (.aload_n 0, 1) := by decide +kernel
theorem dX11_reason_37 : decode cX11_reason 37 = .ok (.getfield 3, 3) := by decide +kernel
theorem dX11_reason_40 : decode cX11_reason 40 = .ok (.ifCond .eq 5, 3) := by decide +kernel
theorem dX11_reason_43 : decode cX11_reason 43 = .ok (.iconst 0, 1) := by decide +kernel
theorem dX11_reason_44 : decode cX11_reason 44 = .ok (.ireturn, 1) := by decide +kernel
theorem dX11_reason_45 : decode cX11_reason 45 = .ok (.aload_n 0, 1) := by decide +kernel
theorem dX11_reason_46 : decode cX11_reason 46 = .ok (.getfield 60, 3) := by decide +kernel
theorem dX11_reason_49 : decode cX11_reason 49 = .ok (.sipush 201, 3) := by decide +kernel
theorem dX11_reason_52 : decode cX11_reason 52 = .ok (.iload_n 1, 1) := by decide +kernel
theorem dX11_reason_53 : decode cX11_reason 53 = .ok (.iadd, 1) := by decide +kernel
theorem dX11_reason_54 : decode cX11_reason 54 = .ok (.iaload, 1) := by decide +kernel
theorem dX11_reason_55 : decode cX11_reason 55 = .ok (.istore_n 2, 1) := by decide +kernel
theorem dX11_reason_56 : decode cX11_reason 56 = .ok (.iload_n 1, 1) := by decide +kernel
theorem dX11_reason_57 : decode cX11_reason 57 = .ok (.ifCond .ne 7, 3) := by decide +kernel
theorem dX11_reason_60 : decode cX11_reason 60 = .ok (.iconst 0, 1) := by decide +kernel
theorem dX11_reason_61 : decode cX11_reason 61 = .ok (.goto 17, 3) := by decide +kernel
theorem dX11_reason_64 : decode cX11_reason 64 = .ok (.iload_n 2, 1) := by decide +kernel
theorem dX11_reason_65 : decode cX11_reason 65 = .ok (.aload_n 0, 1) := by decide +kernel
theorem dX11_reason_66 : decode cX11_reason 66 = .ok (.getfield 60, 3) := by decide +kernel
theorem dX11_reason_69 : decode cX11_reason 69 = .ok (.sipush 201, 3) := by decide +kernel
theorem dX11_reason_72 : decode cX11_reason 72 = .ok (.iload_n 1, 1) := by decide +kernel
theorem dX11_reason_73 : decode cX11_reason 73 = .ok (.iadd, 1) := by decide +kernel
theorem dX11_reason_74 : decode cX11_reason 74 = .ok (.iconst 1, 1) := by decide +kernel
theorem dX11_reason_75 : decode cX11_reason 75 = .ok (.isub, 1) := by decide +kernel
theorem dX11_reason_76 : decode cX11_reason 76 = .ok (.iaload, 1) := by decide +kernel
theorem dX11_reason_77 : decode cX11_reason 77 = .ok (.isub, 1) := by decide +kernel
theorem dX11_reason_78 : decode cX11_reason 78 = .ok (.istore_n 3, 1) := by decide +kernel
theorem dX11_reason_79 : decode cX11_reason 79 = .ok (.aload_n 0, 1) := by decide +kernel
theorem dX11_reason_80 : decode cX11_reason 80 = .ok (.getfield 13, 3) := by decide +kernel
theorem dX11_reason_83 : decode cX11_reason 83 = .ok (.iconst 0, 1) := by decide +kernel
theorem dX11_reason_84 : decode cX11_reason 84 = .ok (.iaload, 1) := by decide +kernel
theorem dX11_reason_85 : decode cX11_reason 85 = .ok (.i2l, 1) := by decide +kernel
theorem dX11_reason_86 : decode cX11_reason 86 = .ok (.iload_n 2, 1) := by decide +kernel
theorem dX11_reason_87 : decode cX11_reason 87 = .ok (.i2l, 1) := by decide +kernel
theorem dX11_reason_88 : decode cX11_reason 88 = .ok (.lmul, 1) := by decide +kernel
theorem dX11_reason_89 : decode cX11_reason 89 = .ok (.lstore 4, 2) := by decide +kernel
theorem dX11_reason_91 : decode cX11_reason 91 = .ok (.aload_n 0, 1) := by decide +kernel
theorem dX11_reason_92 : decode cX11_reason 92 = .ok (.getfield 13, 3) := by decide +kernel
theorem dX11_reason_95 : decode cX11_reason 95 = .ok (.iconst 1, 1) := by decide +kernel
theorem dX11_reason_96 : decode cX11_reason 96 = .ok (.iaload, 1) := by decide +kernel
theorem dX11_reason_97 : decode cX11_reason 97 = .ok (.i2l, 1) := by decide +kernel
theorem dX11_reason_98 : decode cX11_reason 98 = .ok (.aload_n 0, 1) := by decide +kernel
theorem dX11_reason_99 : decode cX11_reason 99 = .ok (.getfield 60, 3) := by decide +kernel
theorem dX11_reason_102 : decode cX11_reason 102 = .ok (.sipush 804, 3) := by decide +kernel
theorem dX11_reason_105 : decode cX11_reason 105 = .ok (.iload_n 1, 1) := by decide +kernel
theorem dX11_reason_106 : decode cX11_reason 106 = .ok (.iadd, 1) := by decide +kernel
theorem dX11_reason_107 : decode cX11_reason 107 = .ok (.iaload, 1) := by decide +kernel
theorem dX11_reason_108 : decode cX11_reason 108 = .ok (.i2l, 1) := by decide +kernel
theorem dX11_reason_109 : decode cX11_reason 109 = .ok (.lmul, 1) := by decide +kernel
theorem dX11_reason_110 : decode cX11_reason 110 = .ok (.lstore 6, 2) := by decide +kernel
theorem dX11_reason_112 : decode cX11_reason 112 = .ok (.aload_n 0, 1) := by decide +kernel
theorem dX11_reason_113 : decode cX11_reason 113 = .ok (.getfield 13, 3) := by decide +kernel
theorem dX11_reason_116 : decode cX11_reason 116 = .ok (.iconst 2, 1) := by decide +kernel
theorem dX11_reason_117 : decode cX11_reason 117 = .ok (.iaload, 1) := by decide +kernel
theorem dX11_reason_118 : decode cX11_reason 118 = .ok (.i2l, 1) := by decide +kernel
theorem dX11_reason_119 : decode cX11_reason 119 = .ok (.iload_n 3, 1) := by decide +kernel
theorem dX11_reason_120 : decode cX11_reason 120 = .ok (.i2l, 1) := by decide +kernel
theorem dX11_reason_121 : decode cX11_reason 121 = .ok (.lmul, 1) := by decide +kernel
theorem dX11_reason_122 : decode cX11_reason 122 = .ok (.lstore 8, 2) := by decide +kernel
theorem dX11_reason_124 : decode cX11_reason 124 = .ok (.lload 4, 2) := by decide +kernel
theorem dX11_reason_126 : decode cX11_reason 126 = .ok (.lconst 0, 1) := by decide +kernel
theorem dX11_reason_127 : decode cX11_reason 127 = .ok (.lcmp, 1) := by decide +kernel
theorem dX11_reason_128 : decode cX11_reason 128 = .ok (.ifCond .ge 9, 3) := by decide +kernel
theorem dX11_reason_131 : decode cX11_reason 131 = .ok (.lload 4, 2) := by decide +kernel
theorem dX11_reason_133 : decode cX11_reason 133 = .ok (.lneg, 1) := by decide +kernel
theorem dX11_reason_134 : decode cX11_reason 134 = .ok (.goto 5, 3) := by decide +kernel
theorem dX11_reason_137 : decode cX11_reason 137 = .ok (.lload 4, 2) := by decide +kernel
theorem dX11_reason_139 : decode cX11_reason 139 = .ok (.lstore 4, 2) := by decide +kernel
theorem dX11_reason_141 : decode cX11_reason 141 = .ok (.lload 6, 2) := by decide +kernel
theorem dX11_reason_143 : decode cX11_reason 143 = .ok (.lconst 0, 1) := by decide +kernel
theorem dX11_reason_144 : decode cX11_reason 144 = .ok (.lcmp, 1) := by decide +kernel
theorem dX11_reason_145 : decode cX11_reason 145 = .ok (.ifCond .ge 9, 3) := by decide +kernel
theorem dX11_reason_148 : decode cX11_reason 148 = .ok (.lload 6, 2) := by decide +kernel
theorem dX11_reason_150 : decode cX11_reason 150 = .ok (.lneg, 1) := by decide +kernel
theorem dX11_reason_151 : decode cX11_reason 151 = .ok (.goto 5, 3) := by decide +kernel
theorem dX11_reason_154 : decode cX11_reason 154 = .ok (.lload 6, 2) := by decide +kernel
theorem dX11_reason_156 : decode cX11_reason 156 = .ok (.lstore 6, 2) := by decide +kernel
theorem dX11_reason_158 : decode cX11_reason 158 = .ok (.lload 8, 2) := by decide +kernel
theorem dX11_reason_160 : decode cX11_reason 160 = .ok (.lconst 0, 1) := by decide +kernel
theorem dX11_reason_161 : decode cX11_reason 161 = .ok (.lcmp, 1) := by decide +kernel
theorem dX11_reason_162 : decode cX11_reason 162 = .ok (.ifCond .ge 9, 3) := by decide +kernel
theorem dX11_reason_165 : decode cX11_reason 165 = .ok (.lload 8, 2) := by decide +kernel
theorem dX11_reason_167 : decode cX11_reason 167 = .ok (.lneg, 1) := by decide +kernel
theorem dX11_reason_168 : decode cX11_reason 168 = .ok (.goto 5, 3) := by decide +kernel
theorem dX11_reason_171 : decode cX11_reason 171 = .ok (.lload 8, 2) := by decide +kernel
theorem dX11_reason_173 : decode cX11_reason 173 = .ok (.lstore 8, 2) := by decide +kernel
theorem dX11_reason_175 : decode cX11_reason 175 = .ok (.lload 4, 2) := by decide +kernel
theorem dX11_reason_177 : decode cX11_reason 177 = .ok (.lconst 0, 1) := by decide +kernel
theorem dX11_reason_178 : decode cX11_reason 178 = .ok (.lcmp, 1) := by decide +kernel
theorem dX11_reason_179 : decode cX11_reason 179 = .ok (.ifCond .ne 21, 3) := by decide +kernel
theorem dX11_reason_182 : decode cX11_reason 182 = .ok (.lload 6, 2) := by decide +kernel
theorem dX11_reason_184 : decode cX11_reason 184 = .ok (.lconst 0, 1) := by decide +kernel
theorem dX11_reason_185 : decode cX11_reason 185 = .ok (.lcmp, 1) := by decide +kernel
theorem dX11_reason_186 : decode cX11_reason 186 = .ok (.ifCond .ne 14, 3) := by decide +kernel
theorem dX11_reason_189 : decode cX11_reason 189 = .ok (.lload 8, 2) := by decide +kernel
theorem dX11_reason_191 : decode cX11_reason 191 = .ok (.lconst 0, 1) := by decide +kernel
theorem dX11_reason_192 : decode cX11_reason 192 = .ok (.lcmp, 1) := by decide +kernel
theorem dX11_reason_193 : decode cX11_reason 193 = .ok (.ifCond .ne 7, 3) := by decide +kernel
theorem dX11_reason_196 : decode cX11_reason 196 = .ok (.iconst (-1), 1) := by decide +kernel
theorem dX11_reason_197 : decode cX11_reason 197 = .ok (.goto 36, 3) := by decide +kernel
theorem dX11_reason_200 : decode cX11_reason 200 = .ok (.lload 4, 2) := by decide +kernel
theorem dX11_reason_202 : decode cX11_reason 202 = .ok (.lload 6, 2) := by decide +kernel
theorem dX11_reason_204 : decode cX11_reason 204 = .ok (.lcmp, 1) := by decide +kernel
theorem dX11_reason_205 : decode cX11_reason 205 = .ok (.ifCond .lt 15, 3) := by decide +kernel
theorem dX11_reason_208 : decode cX11_reason 208 = .ok (.lload 4, 2) := by decide +kernel
theorem dX11_reason_210 : decode cX11_reason 210 = .ok (.lload 8, 2) := by decide +kernel
theorem dX11_reason_212 : decode cX11_reason 212 = .ok (.lcmp, 1) := by decide +kernel
theorem dX11_reason_213 : decode cX11_reason 213 = .ok (.ifCond .lt 7, 3) := by decide +kernel
theorem dX11_reason_216 : decode cX11_reason 216 = .ok (.iconst 0, 1) := by decide +kernel
theorem dX11_reason_217 : decode cX11_reason 217 = .ok (.goto 16, 3) := by decide +kernel
theorem dX11_reason_220 : decode cX11_reason 220 = .ok (.lload 6, 2) := by decide +kernel
theorem dX11_reason_222 : decode cX11_reason 222 = .ok (.lload 8, 2) := by decide +kernel
theorem dX11_reason_224 : decode cX11_reason 224 = .ok (.lcmp, 1) := by decide +kernel
theorem dX11_reason_225 : decode cX11_reason 225 = .ok (.ifCond .lt 7, 3) := by decide +kernel
theorem dX11_reason_228 : decode cX11_reason 228 = .ok (.iconst 1, 1) := by decide +kernel
theorem dX11_reason_229 : decode cX11_reason 229 = .ok (.goto 4, 3) := by decide +kernel
theorem dX11_reason_232 : decode cX11_reason 232 = .ok (.iconst 2, 1) := by decide +kernel
theorem dX11_reason_233 : decode cX11_reason 233 = .ok (.ireturn, 1) := by decide +kernel
theorem dX11_meanSquareBits_0 : decode cX11_meanSquareBits 0 = .ok (.aload_n 0, 1) := by decide +kernel
theorem dX11_meanSquareBits_1 : decode cX11_meanSquareBits 1 = .ok (.aload_n 0, 1) := by decide +kernel
theorem dX11_meanSquareBits_2 : decode cX11_meanSquareBits 2 = .ok (.getfield 235, 3) := by decide +kernel
theorem dX11_meanSquareBits_5 : decode cX11_meanSquareBits 5 = .ok (.ifCond .eq 7, 3) := by decide +kernel
theorem dX11_meanSquareBits_8 : decode cX11_meanSquareBits 8 = .ok (.iconst 0, 1) := by decide +kernel
theorem dX11_meanSquareBits_9 : decode cX11_meanSquareBits 9 = .ok (.goto 4, 3) := by decide +kernel
theorem dX11_meanSquareBits_12 : decode cX11_meanSquareBits 12 = .ok (.iconst 1, 1) := by decide +kernel
theorem dX11_meanSquareBits_13 : decode cX11_meanSquareBits 13 = .ok (.putfield 3, 3) := by decide +kernel
theorem dX11_meanSquareBits_16 : decode cX11_meanSquareBits 16 = .ok (.aload_n 0, 1) := by decide +kernel
theorem dX11_meanSquareBits_17 : decode cX11_meanSquareBits 17 = .ok (.getfield 3, 3) := by decide +kernel
theorem dX11_meanSquareBits_20 : decode cX11_meanSquareBits 20 = .ok (.ifCond .eq 5, 3) := by decide +kernel
theorem dX11_meanSquareBits_23 : decode cX11_meanSquareBits 23 = .ok (.lconst 0, 1) := by decide +kernel
theorem dX11_meanSquareBits_24 : decode cX11_meanSquareBits 24 = .ok (.lreturn, 1) := by decide +kernel
theorem dX11_meanSquareBits_25 : decode cX11_meanSquareBits 25 = .ok (.dconst 0, 1) := by decide +kernel
theorem dX11_meanSquareBits_26 : decode cX11_meanSquareBits 26 = .ok (.dstore_n 1, 1) := by decide +kernel
theorem dX11_meanSquareBits_27 : decode cX11_meanSquareBits 27 = .ok (.iconst 0, 1) := by decide +kernel
theorem dX11_meanSquareBits_28 : decode cX11_meanSquareBits 28 = .ok (.istore_n 3, 1) := by decide +kernel
theorem dX11_meanSquareBits_29 : decode cX11_meanSquareBits 29 = .ok (.iload_n 3, 1) := by decide +kernel
theorem dX11_meanSquareBits_30 : decode cX11_meanSquareBits 30 = .ok (.aload_n 0, 1) := by decide +kernel
theorem dX11_meanSquareBits_31 : decode cX11_meanSquareBits 31 = .ok (.getfield 239, 3) := by decide +kernel
theorem dX11_meanSquareBits_34 : decode cX11_meanSquareBits 34 = .ok (.if_icmp .gt 26, 3) := by decide +kernel
theorem dX11_meanSquareBits_37 : decode cX11_meanSquareBits 37 = .ok (.aload_n 0, 1) := by decide +kernel
theorem dX11_meanSquareBits_38 : decode cX11_meanSquareBits 38 = .ok (.getfield 60, 3) := by decide +kernel
theorem dX11_meanSquareBits_41 : decode cX11_meanSquareBits 41 = .ok (.iload_n 3, 1) := by decide +kernel
theorem dX11_meanSquareBits_42 : decode cX11_meanSquareBits 42 = .ok (.iaload, 1) := by decide +kernel
theorem dX11_meanSquareBits_43 : decode cX11_meanSquareBits 43 = .ok (.i2d, 1) := by decide +kernel
theorem dX11_meanSquareBits_44 : decode cX11_meanSquareBits 44 = .ok (.dstore 4, 2) := by decide +kernel
theorem dX11_meanSquareBits_46 : decode cX11_meanSquareBits 46 = .ok (.dload_n 1, 1) := by decide +kernel
theorem dX11_meanSquareBits_47 : decode cX11_meanSquareBits 47 = .ok (.dload 4, 2) := by decide +kernel
theorem dX11_meanSquareBits_49 : decode cX11_meanSquareBits 49 = .ok (.dload 4, 2) := by decide +kernel
theorem dX11_meanSquareBits_51 : decode cX11_meanSquareBits 51 = .ok (.dmul, 1) := by decide +kernel
theorem dX11_meanSquareBits_52 : decode cX11_meanSquareBits 52 = .ok (.dadd, 1) := by decide +kernel
theorem dX11_meanSquareBits_53 : decode cX11_meanSquareBits 53 = .ok (.dstore_n 1, 1) := by decide +kernel
theorem dX11_meanSquareBits_54 : decode cX11_meanSquareBits 54 = .ok (.iinc 3 1, 3) := by decide +kernel
theorem dX11_meanSquareBits_57 : decode cX11_meanSquareBits 57 = .ok (.goto (-28), 3) := by decide +kernel
theorem dX11_meanSquareBits_60 : decode cX11_meanSquareBits 60 = .ok (.dload_n 1, 1) := by decide +kernel
theorem dX11_meanSquareBits_61 : decode cX11_meanSquareBits 61 = .ok (.aload_n 0, 1) := by decide +kernel
theorem dX11_meanSquareBits_62 : decode cX11_meanSquareBits 62 = .ok (.getfield 239, 3) := by decide +kernel
theorem dX11_meanSquareBits_65 : decode cX11_meanSquareBits 65 = .ok (.iconst 1, 1) := by decide +kernel
theorem dX11_meanSquareBits_66 : decode cX11_meanSquareBits 66 = .ok (.iadd, 1) := by decide +kernel
theorem dX11_meanSquareBits_67 : decode cX11_meanSquareBits 67 = .ok (.i2d, 1) := by decide +kernel
theorem dX11_meanSquareBits_68 : decode cX11_meanSquareBits 68 = .ok (.ddiv, 1) := by decide +kernel
theorem dX11_meanSquareBits_69 : decode cX11_meanSquareBits 69 = .ok (.invokestatic 259, 3) := by decide +kernel
theorem dX11_meanSquareBits_72 : decode cX11_meanSquareBits 72 = .ok (.lreturn, 1) := by decide +kernel
theorem dX11_saturatedBits_0 : decode cX11_saturatedBits 0 = .ok (.aload_n 0, 1) := by decide +kernel
theorem dX11_saturatedBits_1 : decode cX11_saturatedBits 1 = .ok (.aload_n 0, 1) := by decide +kernel
theorem dX11_saturatedBits_2 : decode cX11_saturatedBits 2 = .ok (.getfield 235, 3) := by decide +kernel
theorem dX11_saturatedBits_5 : decode cX11_saturatedBits 5 = .ok (.ifCond .eq 7, 3) := by decide +kernel
theorem dX11_saturatedBits_8 : decode cX11_saturatedBits 8 = .ok (.iconst 0, 1) := by decide +kernel
theorem dX11_saturatedBits_9 : decode cX11_saturatedBits 9 = .ok (.goto 4, 3) := by decide +kernel
theorem dX11_saturatedBits_12 : decode cX11_saturatedBits 12 = .ok (.iconst 1, 1) := by decide +kernel
theorem dX11_saturatedBits_13 : decode cX11_saturatedBits 13 = .ok (.putfield 3, 3) := by decide +kernel
theorem dX11_saturatedBits_16 : decode cX11_saturatedBits 16 = .ok (.aload_n 0, 1) := by decide +kernel
theorem dX11_saturatedBits_17 : decode cX11_saturatedBits 17 = .ok (.getfield 3, 3) := by decide +kernel
theorem dX11_saturatedBits_20 : decode cX11_saturatedBits 20 = .ok (.ifCond .eq 5, 3) := by decide +kernel
theorem dX11_saturatedBits_23 : decode cX11_saturatedBits 23 = .ok (.iconst 0, 1) := by decide +kernel
theorem dX11_saturatedBits_24 : decode cX11_saturatedBits 24 = .ok (.ireturn, 1) := by decide +kernel
theorem dX11_saturatedBits_25 : decode cX11_saturatedBits 25 = .ok (.iconst 0, 1) := by decide +kernel
theorem dX11_saturatedBits_26 : decode cX11_saturatedBits 26 = .ok (.istore_n 1, 1) := by decide +kernel
theorem dX11_saturatedBits_27 : decode cX11_saturatedBits 27 = .ok (.iconst 0, 1) := by decide +kernel
theorem dX11_saturatedBits_28 : decode cX11_saturatedBits 28 = .ok (.istore_n 2, 1) := by decide +kernel
theorem dX11_saturatedBits_29 : decode cX11_saturatedBits 29 = .ok (.iload_n 2, 1) := by decide +kernel
theorem dX11_saturatedBits_30 : decode cX11_saturatedBits 30 = .ok (.aload_n 0, 1) := by decide +kernel
theorem dX11_saturatedBits_31 : decode cX11_saturatedBits 31 = .ok (.getfield 239, 3) := by decide +kernel
theorem dX11_saturatedBits_34 : decode cX11_saturatedBits 34 = .ok (.if_icmp .ge 22, 3) := by decide +kernel
theorem dX11_saturatedBits_37 : decode cX11_saturatedBits 37 = .ok (.iload_n 1, 1) := by decide +kernel
theorem dX11_saturatedBits_38 : decode cX11_saturatedBits 38 = .ok (.aload_n 0, 1) := by decide +kernel
theorem dX11_saturatedBits_39 : decode cX11_saturatedBits 39 = .ok (.getfield 60, 3) := by decide +kernel
theorem dX11_saturatedBits_42 : decode cX11_saturatedBits 42 = .ok (.sipush 1005, 3) := by decide +kernel
theorem dX11_saturatedBits_45 : decode cX11_saturatedBits 45 = .ok (.iload_n 2, 1) := by decide +kernel
theorem dX11_saturatedBits_46 : decode cX11_saturatedBits 46 = .ok (.iadd, 1) := by decide +kernel
theorem dX11_saturatedBits_47 : decode cX11_saturatedBits 47 = .ok (.iaload, 1) := by decide +kernel
theorem dX11_saturatedBits_48 : decode cX11_saturatedBits 48 = .ok (.iadd, 1) := by decide +kernel
theorem dX11_saturatedBits_49 : decode cX11_saturatedBits 49 = .ok (.istore_n 1, 1) := by decide +kernel
theorem dX11_saturatedBits_50 : decode cX11_saturatedBits 50 = .ok (.iinc 2 1, 3) := by decide +kernel
theorem dX11_saturatedBits_53 : decode cX11_saturatedBits 53 = .ok (.goto (-24), 3) := by decide +kernel
theorem dX11_saturatedBits_56 : decode cX11_saturatedBits 56 = .ok (.iload_n 1, 1) := by decide +kernel
theorem dX11_saturatedBits_57 : decode cX11_saturatedBits 57 = .ok (.i2f, 1) := by decide +kernel
theorem dX11_saturatedBits_58 : decode cX11_saturatedBits 58 = .ok (.aload_n 0, 1) := by decide +kernel
theorem dX11_saturatedBits_59 : decode cX11_saturatedBits 59 = .ok (.getfield 239, 3) := by decide +kernel
theorem dX11_saturatedBits_62 : decode cX11_saturatedBits 62 = .ok (.i2f, 1) := by decide +kernel
theorem dX11_saturatedBits_63 : decode cX11_saturatedBits 63 = .ok (.fdiv, 1) := by decide +kernel
theorem dX11_saturatedBits_64 : decode cX11_saturatedBits 64 = .ok (.invokestatic 265, 3) := by decide +kernel
theorem dX11_saturatedBits_67 : decode cX11_saturatedBits 67 = .ok (.ireturn, 1) := by decide +kernel
theorem dX11_hold_0 : decode cX11_hold 0 = .ok (.aload_n 0, 1) := by decide +kernel
theorem dX11_hold_1 : decode cX11_hold 1 = .ok (.aload_n 0, 1) := by decide +kernel
theorem dX11_hold_2 : decode cX11_hold 2 = .ok (.getfield 235, 3) := by decide +kernel
theorem dX11_hold_5 : decode cX11_hold 5 = .ok (.ifCond .eq 7, 3) := by decide +kernel
theorem dX11_hold_8 : decode cX11_hold 8 = .ok (.iconst 0, 1) := by decide +kernel
theorem dX11_hold_9 : decode cX11_hold 9 = .ok (.goto 4, 3) := by decide +kernel
theorem dX11_hold_12 : decode cX11_hold 12 = .ok (.iconst 1, 1) := by decide +kernel
theorem dX11_hold_13 : decode cX11_hold 13 = .ok (.putfield 3, 3) := by decide +kernel
theorem dX11_hold_16 : decode cX11_hold 16 = .ok (.aload_n 0, 1) := by decide +kernel
theorem dX11_hold_17 : decode cX11_hold 17 = .ok (.getfield 3, 3) := by decide +kernel
theorem dX11_hold_20 : decode cX11_hold 20 = .ok (.ifCond .eq 5, 3) := by decide +kernel
theorem dX11_hold_23 : decode cX11_hold 23 = .ok (.iconst 0, 1) := by decide +kernel
theorem dX11_hold_24 : decode cX11_hold 24 = .ok (.ireturn, 1) := by decide +kernel
theorem dX11_hold_25 : decode cX11_hold 25 = .ok (.aload_n 0, 1) := by decide +kernel
theorem dX11_hold_26 : decode cX11_hold 26 = .ok (.iconst 1, 1) := by decide +kernel
theorem dX11_hold_27 : decode cX11_hold 27 = .ok (.putfield 271, 3) := by decide +kernel
theorem dX11_hold_30 : decode cX11_hold 30 = .ok (.aload_n 0, 1) := by decide +kernel
theorem dX11_hold_31 : decode cX11_hold 31 = .ok (.aload_n 0, 1) := by decide +kernel
theorem dX11_hold_32 : decode cX11_hold 32 = .ok (.getfield 239, 3) := by decide +kernel
theorem dX11_hold_35 : decode cX11_hold 35 = .ok (.putfield 274, 3) := by decide +kernel
theorem dX11_hold_38 : decode cX11_hold 38 = .ok (.iconst 0, 1) := by decide +kernel
theorem dX11_hold_39 : decode cX11_hold 39 = .ok (.istore_n 1, 1) := by decide +kernel
theorem dX11_hold_40 : decode cX11_hold 40 = .ok (.iload_n 1, 1) := by decide +kernel
theorem dX11_hold_41 : decode cX11_hold 41 = .ok (.aload_n 0, 1) := by decide +kernel
theorem dX11_hold_42 : decode cX11_hold 42 = .ok (.getfield 239, 3) := by decide +kernel
theorem dX11_hold_45 : decode cX11_hold 45 = .ok (.if_icmp .gt 21, 3) := by decide +kernel
theorem dX11_hold_48 : decode cX11_hold 48 = .ok (.aload_n 0, 1) := by decide +kernel
theorem dX11_hold_49 : decode cX11_hold 49 = .ok (.getfield 63, 3) := by decide +kernel
theorem dX11_hold_52 : decode cX11_hold 52 = .ok (.iload_n 1, 1) := by decide +kernel
theorem dX11_hold_53 : decode cX11_hold 53 = .ok (.aload_n 0, 1) := by decide +kernel
theorem dX11_hold_54 : decode cX11_hold 54 = .ok (.getfield 60, 3) := by decide +kernel
theorem dX11_hold_57 : decode cX11_hold 57 = .ok (.iload_n 1, 1) := by decide +kernel
theorem dX11_hold_58 : decode cX11_hold 58 = .ok (.iaload, 1) := by decide +kernel
theorem dX11_hold_59 : decode cX11_hold 59 = .ok (.iastore, 1) := by decide +kernel
theorem dX11_hold_60 : decode cX11_hold 60 = .ok (.iinc 1 1, 3) := by decide +kernel
theorem dX11_hold_63 : decode cX11_hold 63 = .ok (.goto (-23), 3) := by decide +kernel
theorem dX11_hold_66 : decode cX11_hold 66 = .ok (.aload_n 0, 1) := by decide +kernel
theorem dX11_hold_67 : decode cX11_hold 67 = .ok (.getfield 274, 3) := by decide +kernel
theorem dX11_hold_70 : decode cX11_hold 70 = .ok (.ireturn, 1) := by decide +kernel
theorem dX11_compare_0 : decode cX11_compare 0 = .ok (.aload_n 0, 1) := by decide +kernel
theorem dX11_compare_1 : decode cX11_compare 1 = .ok (.aload_n 0, 1) := by decide +kernel
theorem dX11_compare_2 : decode cX11_compare 2 = .ok (.getfield 235, 3) := by decide +kernel
theorem dX11_compare_5 : decode cX11_compare 5 = .ok (.ifCond .eq 10, 3) := by decide +kernel
theorem dX11_compare_8 : decode cX11_compare 8 = .ok (.aload_n 0, 1) := by decide +kernel
theorem dX11_compare_9 : decode cX11_compare 9 = .ok (.getfield 271, 3) := by decide +kernel
theorem dX11_compare_12 : decode cX11_compare 12 = .ok (.ifCond .ne 7, 3) := by decide +kernel
theorem dX11_compare_15 : decode cX11_compare 15 = .ok (.iconst 1, 1) := by decide +kernel
theorem dX11_compare_16 : decode cX11_compare 16 = .ok (.goto 20, 3) := by decide +kernel
theorem dX11_compare_19 : decode cX11_compare 19 = .ok (.iload_n 1, 1) := by decide +kernel
theorem dX11_compare_20 : decode cX11_compare 20 = .ok (.i2l, 1) := by decide +kernel
theorem dX11_compare_21 : decode cX11_compare 21 = .ok (.lconst 0, 1) := by decide +kernel
theorem dX11_compare_22 : decode cX11_compare 22 = .ok (.ldc2_w 131, 3) := by decide +kernel
theorem dX11_compare_25 : decode cX11_compare 25 = .ok (.invokestatic 92, 3) := by decide +kernel
theorem dX11_compare_28 : decode cX11_compare 28 = .ok (.ifCond .eq 7, 3) := by decide +kernel
theorem dX11_compare_31 : decode cX11_compare 31 = .ok (.iconst 0, 1) := by decide +kernel
theorem dX11_compare_32 : decode cX11_compare 32 = .ok (.goto 4, 3) := by decide +kernel
theorem dX11_compare_35 : decode cX11_compare 35 = .ok (.iconst 2, 1) := by decide +kernel
theorem dX11_compare_36 : decode cX11_compare 36 = .ok (.putfield 3, 3) := by decide +kernel
theorem dX11_compare_39 : decode cX11_compare 39 = .ok (.aload_n 0, 1) := by decide +kernel
theorem dX11_compare_40 : decode cX11_compare 40 = .ok (.getfield 3, 3) := by decide +kernel
theorem dX11_compare_43 : decode cX11_compare 43 = .ok (.ifCond .eq 5, 3) := by decide +kernel
theorem dX11_compare_46 : decode cX11_compare 46 = .ok (.iconst 0, 1) := by decide +kernel
theorem dX11_compare_47 : decode cX11_compare 47 = .ok (.ireturn, 1) := by decide +kernel
theorem dX11_compare_48 : decode cX11_compare 48 = .ok (.iconst 0, 1) := by decide +kernel
theorem dX11_compare_49 : decode cX11_compare 49 = .ok (.istore_n 2, 1) := by decide +kernel
theorem dX11_compare_50 : decode cX11_compare 50 = .ok (.iconst (-1), 1) := by decide +kernel
theorem dX11_compare_51 : decode cX11_compare 51 = .ok (.istore_n 3, 1) := by decide +kernel
theorem dX11_compare_52 : decode cX11_compare 52 = .ok (.iconst 0, 1) := by decide +kernel
theorem dX11_compare_53 : decode cX11_compare 53 = .ok (.istore 4, 2) := by decide +kernel
theorem dX11_compare_55 : decode cX11_compare 55 = .ok (.iconst 0, 1) := by decide +kernel
theorem dX11_compare_56 : decode cX11_compare 56 = .ok (.istore 5, 2) := by decide +kernel
theorem dX11_compare_58 : decode cX11_compare 58 = .ok (.iload 5, 2) := by decide +kernel
theorem dX11_compare_60 : decode cX11_compare 60 = .ok (.aload_n 0, 1) := by decide +kernel
theorem dX11_compare_61 : decode cX11_compare 61 = .ok (.getfield 239, 3) := by decide +kernel
theorem dX11_compare_64 : decode cX11_compare 64 = .ok (.if_icmp .gt 100, 3) := by decide +kernel
theorem dX11_compare_67 : decode cX11_compare 67 = .ok (.iload 5, 2) := by decide +kernel
theorem dX11_compare_69 : decode cX11_compare 69 = .ok (.aload_n 0, 1) := by decide +kernel
theorem dX11_compare_70 : decode cX11_compare 70 = .ok (.getfield 274, 3) := by decide +kernel
theorem dX11_compare_73 : decode cX11_compare 73 = .ok (.if_icmp .gt 91, 3) := by decide +kernel
theorem dX11_compare_76 : decode cX11_compare 76 = .ok (.aload_n 0, 1) := by decide +kernel
theorem dX11_compare_77 : decode cX11_compare 77 = .ok (.getfield 60, 3) := by decide +kernel
theorem dX11_compare_80 : decode cX11_compare 80 = .ok (.iload 5, 2) := by decide +kernel
theorem dX11_compare_82 : decode cX11_compare 82 = .ok (.iaload, 1) := by decide +kernel
theorem dX11_compare_83 : decode cX11_compare 83 = .ok (.aload_n 0, 1) := by decide +kernel
theorem dX11_compare_84 : decode cX11_compare 84 = .ok (.getfield 63, 3) := by decide +kernel
theorem dX11_compare_87 : decode cX11_compare 87 = .ok (.iload 5, 2) := by decide +kernel
theorem dX11_compare_89 : decode cX11_compare 89 = .ok (.iaload, 1) := by decide +kernel
theorem dX11_compare_90 : decode cX11_compare 90 = .ok (.isub, 1) := by decide +kernel
theorem dX11_compare_91 : decode cX11_compare 91 = .ok (.invokestatic 179, 3) := by decide +kernel
theorem dX11_compare_94 : decode cX11_compare 94 = .ok (.istore 6, 2) := by decide +kernel
theorem dX11_compare_96 : decode cX11_compare 96 = .ok (.iload 6, 2) := by decide +kernel
theorem dX11_compare_98 : decode cX11_compare 98 = .ok (.iload_n 2, 1) := by decide +kernel
theorem dX11_compare_99 : decode cX11_compare 99 = .ok (.if_icmp .le 8, 3) := by decide +kernel
theorem dX11_compare_102 : decode cX11_compare 102 = .ok (.iload 6, 2) := by decide +kernel
theorem dX11_compare_104 : decode cX11_compare 104 = .ok (.goto 4, 3) := by decide +kernel
theorem dX11_compare_107 : decode cX11_compare 107 = .ok (.iload_n 2, 1) := by decide +kernel
theorem dX11_compare_108 : decode cX11_compare 108 = .ok (.istore_n 2, 1) := by decide +kernel
theorem dX11_compare_109 : decode cX11_compare 109 = .ok (.iload_n 3, 1) := by decide +kernel
theorem dX11_compare_110 : decode cX11_compare 110 = .ok (.ifCond .ge 13, 3) := by decide +kernel
theorem dX11_compare_113 : decode cX11_compare 113 = .ok (.iload 6, 2) := by decide +kernel
theorem dX11_compare_115 : decode cX11_compare 115 = .ok (.ifCond .le 8, 3) := by decide +kernel
theorem dX11_compare_118 : decode cX11_compare 118 = .ok (.iload 5, 2) := by decide +kernel
theorem dX11_compare_120 : decode cX11_compare 120 = .ok (.goto 4, 3) := by decide +kernel
theorem dX11_compare_123 : decode cX11_compare 123 = .ok (.iload_n 3, 1) := by decide +kernel
theorem dX11_compare_124 : decode cX11_compare 124 = .ok (.istore_n 3, 1) := by decide +kernel
theorem dX11_compare_125 : decode cX11_compare 125 = .ok (.iload 4, 2) := by decide +kernel
theorem dX11_compare_127 : decode cX11_compare 127 = .ok (.aload_n 0, 1) := by decide +kernel
theorem dX11_compare_128 : decode cX11_compare 128 = .ok (.getfield 60, 3) := by decide +kernel
theorem dX11_compare_131 : decode cX11_compare 131 = .ok (.iload 5, 2) := by decide +kernel
theorem dX11_compare_133 : decode cX11_compare 133 = .ok (.iaload, 1) := by decide +kernel
theorem dX11_compare_134 : decode cX11_compare 134 = .ok (.invokestatic 179, 3) := by decide +kernel
theorem dX11_compare_137 : decode cX11_compare 137 = .ok (.aload_n 0, 1) := by decide +kernel
theorem dX11_compare_138 : decode cX11_compare 138 = .ok (.getfield 63, 3) := by decide +kernel
theorem dX11_compare_141 : decode cX11_compare 141 = .ok (.iload 5, 2) := by decide +kernel
theorem dX11_compare_143 : decode cX11_compare 143 = .ok (.iaload, 1) := by decide +kernel
theorem dX11_compare_144 : decode cX11_compare 144 = .ok (.invokestatic 179, 3) := by decide +kernel
theorem dX11_compare_147 : decode cX11_compare 147 = .ok (.if_icmp .ge 7, 3) := by decide +kernel
theorem dX11_compare_150 : decode cX11_compare 150 = .ok (.iconst 1, 1) := by decide +kernel
theorem dX11_compare_151 : decode cX11_compare 151 = .ok (.goto 4, 3) := by decide +kernel
theorem dX11_compare_154 : decode cX11_compare 154 = .ok (.iconst 0, 1) := by decide +kernel
theorem dX11_compare_155 : decode cX11_compare 155 = .ok (.iadd, 1) := by decide +kernel
theorem dX11_compare_156 : decode cX11_compare 156 = .ok (.istore 4, 2) := by decide +kernel
theorem dX11_compare_158 : decode cX11_compare 158 = .ok (.iinc 5 1, 3) := by decide +kernel
theorem dX11_compare_161 : decode cX11_compare 161 = .ok (.goto (-103), 3) := by decide +kernel
theorem dX11_compare_164 : decode cX11_compare 164 = .ok (.iload_n 1, 1) := by decide +kernel
theorem dX11_compare_165 : decode cX11_compare 165 = .ok (.ifCond .ne 7, 3) := by decide +kernel
theorem dX11_compare_168 : decode cX11_compare 168 = .ok (.iload_n 2, 1) := by decide +kernel
theorem dX11_compare_169 : decode cX11_compare 169 = .ok (.goto 14, 3) := by decide +kernel
theorem dX11_compare_172 : decode cX11_compare 172 = .ok (.iload_n 1, 1) := by decide +kernel
theorem dX11_compare_173 : decode cX11_compare 173 = .ok (.iconst 1, 1) := by decide +kernel
theorem dX11_compare_174 : decode cX11_compare 174 = .ok (.if_icmp .ne 7, 3) := by decide +kernel
theorem dX11_compare_177 : decode cX11_compare 177 = .ok (.iload_n 3, 1) := by decide +kernel
theorem dX11_compare_178 : decode cX11_compare 178 = .ok (.goto 5, 3) := by decide +kernel
theorem dX11_compare_181 : decode cX11_compare 181 = .ok (.iload 4, 2) := by decide +kernel
theorem dX11_compare_183 : decode cX11_compare 183 = .ok (.ireturn, 1) := by decide +kernel
theorem dX11_costWith_0 : decode cX11_costWith 0 = .ok (.aload_n 0, 1) := by decide +kernel
theorem dX11_costWith_1 : decode cX11_costWith 1 = .ok (.getfield 13, 3) := by decide +kernel
theorem dX11_costWith_4 : decode cX11_costWith 4 = .ok (.iconst 0, 1) := by decide +kernel
theorem dX11_costWith_5 : decode cX11_costWith 5 = .ok (.iaload, 1) := by decide +kernel
theorem dX11_costWith_6 : decode cX11_costWith 6 = .ok (.istore 4, 2) := by decide +kernel
theorem dX11_costWith_8 : decode cX11_costWith 8 = .ok (.aload_n 0, 1) := by decide +kernel
theorem dX11_costWith_9 : decode cX11_costWith 9 = .ok (.getfield 13, 3) := by decide +kernel
theorem dX11_costWith_12 : decode cX11_costWith 12 = .ok (.iconst 1, 1) := by decide +kernel
theorem dX11_costWith_13 : decode cX11_costWith 13 = .ok (.iaload, 1) := by decide +kernel
theorem dX11_costWith_14 : decode cX11_costWith 14 = .ok (.istore 5, 2) := by decide +kernel
theorem dX11_costWith_16 : decode cX11_costWith 16 = .ok (.aload_n 0, 1) := by decide +kernel
theorem dX11_costWith_17 : decode cX11_costWith 17 = .ok (.getfield 13, 3) := by decide +kernel
theorem dX11_costWith_20 : decode cX11_costWith 20 = .ok (.iconst 2, 1) := by decide +kernel
theorem dX11_costWith_21 : decode cX11_costWith 21 = .ok (.iaload, 1) := by decide +kernel
theorem dX11_costWith_22 : decode cX11_costWith 22 = .ok (.istore 6, 2) := by decide +kernel
theorem dX11_costWith_24 : decode cX11_costWith 24 = .ok (.aload_n 0, 1) := by decide +kernel
theorem dX11_costWith_25 : decode cX11_costWith 25 = .ok (.getfield 13, 3) := by decide +kernel
theorem dX11_costWith_28 : decode cX11_costWith 28 = .ok (.iconst 0, 1) := by decide +kernel
theorem dX11_costWith_29 : decode cX11_costWith 29 = .ok (.iload_n 1, 1) := by decide +kernel
theorem dX11_costWith_30 : decode cX11_costWith 30 = .ok (.iastore, 1) := by decide +kernel
theorem dX11_costWith_31 : decode cX11_costWith 31 = .ok (.aload_n 0, 1) := by decide +kernel
theorem dX11_costWith_32 : decode cX11_costWith 32 = .ok (.getfield 13, 3) := by decide +kernel
theorem dX11_costWith_35 : decode cX11_costWith 35 = .ok (.iconst 1, 1) := by decide +kernel
theorem dX11_costWith_36 : decode cX11_costWith 36 = .ok (.iload_n 2, 1) := by decide +kernel
theorem dX11_costWith_37 : decode cX11_costWith 37 = .ok (.iastore, 1) := by decide +kernel
theorem dX11_costWith_38 : decode cX11_costWith 38 = .ok (.aload_n 0, 1) := by decide +kernel
theorem dX11_costWith_39 : decode cX11_costWith 39 = .ok (.getfield 13, 3) := by decide +kernel
theorem dX11_costWith_42 : decode cX11_costWith 42 = .ok (.iconst 2, 1) := by decide +kernel
theorem dX11_costWith_43 : decode cX11_costWith 43 = .ok (.iload_n 3, 1) := by decide +kernel
theorem dX11_costWith_44 : decode cX11_costWith 44 = .ok (.iastore, 1) := by decide +kernel
theorem dX11_costWith_45 : decode cX11_costWith 45 = .ok (.aload_n 0, 1) := by decide +kernel
theorem dX11_costWith_46 : decode cX11_costWith 46 = .ok (.invokevirtual 242, 3) := by decide +kernel
theorem dX11_costWith_49 : decode cX11_costWith 49 = .ok (.aload_n 0, 1) := by decide +kernel
theorem dX11_costWith_50 : decode cX11_costWith 50 = .ok (.invokevirtual 255, 3) := by decide +kernel
theorem dX11_costWith_53 : decode cX11_costWith 53 = .ok (.lstore 7, 2) := by decide +kernel
theorem dX11_costWith_55 : decode cX11_costWith 55 = .ok (.aload_n 0, 1) := by decide +kernel
theorem dX11_costWith_56 : decode cX11_costWith 56 = .ok (.getfield 13, 3) := by decide +kernel
theorem dX11_costWith_59 : decode cX11_costWith 59 = .ok (.iconst 0, 1) := by decide +kernel
theorem dX11_costWith_60 : decode cX11_costWith 60 = .ok (.iload 4, 2) := by decide +kernel
theorem dX11_costWith_62 : decode cX11_costWith 62 = .ok (.iastore, 1) := by decide +kernel
theorem dX11_costWith_63 : decode cX11_costWith 63 = .ok (.aload_n 0, 1) := by decide +kernel
theorem dX11_costWith_64 : decode cX11_costWith 64 = .ok (.getfield 13, 3) := by decide +kernel
theorem dX11_costWith_67 : decode cX11_costWith 67 = .ok (.iconst 1, 1) := by decide +kernel
theorem dX11_costWith_68 : decode cX11_costWith 68 = .ok (.iload 5, 2) := by decide +kernel
theorem dX11_costWith_70 : decode cX11_costWith 70 = .ok (.iastore, 1) := by decide +kernel
theorem dX11_costWith_71 : decode cX11_costWith 71 = .ok (.aload_n 0, 1) := by decide +kernel
theorem dX11_costWith_72 : decode cX11_costWith 72 = .ok (.getfield 13, 3) := by decide +kernel
theorem dX11_costWith_75 : decode cX11_costWith 75 = .ok (.iconst 2, 1) := by decide +kernel
theorem dX11_costWith_76 : decode cX11_costWith 76 = .ok (.iload 6, 2) := by decide +kernel
theorem dX11_costWith_78 : decode cX11_costWith 78 = .ok (.iastore, 1) := by decide +kernel
theorem dX11_costWith_79 : decode cX11_costWith 79 = .ok (.lload 7, 2) := by decide +kernel
theorem dX11_costWith_81 : decode cX11_costWith 81 = .ok (.lreturn, 1) := by decide +kernel
theorem dX11_gridValue_0 : decode cX11_gridValue 0 = .ok (.aload_n 0, 1) := by decide +kernel
theorem dX11_gridValue_1 : decode cX11_gridValue 1 = .ok (.iload_n 1, 1) := by decide +kernel
theorem dX11_gridValue_2 : decode cX11_gridValue 2 = .ok (.invokevirtual 277, 3) := by decide +kernel
theorem dX11_gridValue_5 : decode cX11_gridValue 5 = .ok (.aload_n 0, 1) := by decide +kernel
theorem dX11_gridValue_6 : decode cX11_gridValue 6 = .ok (.iload_n 1, 1) := by decide +kernel
theorem dX11_gridValue_7 : decode cX11_gridValue 7 = .ok (.invokevirtual 280, 3) := by decide +kernel
theorem dX11_gridValue_10 : decode cX11_gridValue 10 = .ok (.iload_n 2, 1) := by decide +kernel
theorem dX11_gridValue_11 : decode cX11_gridValue 11 = .ok (.imul, 1) := by decide +kernel
theorem dX11_gridValue_12 : decode cX11_gridValue 12 = .ok (.iadd, 1) := by decide +kernel
theorem dX11_gridValue_13 : decode cX11_gridValue 13 = .ok (.ireturn, 1) := by decide +kernel
theorem dX11_finds_0 : decode cX11_finds 0 = .ok (.aload_n 0, 1) := by decide +kernel
theorem dX11_finds_1 : decode cX11_finds 1 = .ok (.getfield 66, 3) := by decide +kernel
theorem dX11_finds_4 : decode cX11_finds 4 = .ok (.iload_n 1, 1) := by decide +kernel
theorem dX11_finds_5 : decode cX11_finds 5 = .ok (.iconst 1, 1) := by decide +kernel
theorem dX11_finds_6 : decode cX11_finds 6 = .ok (.bastore, 1) := by decide +kernel
theorem dX11_finds_7 : decode cX11_finds 7 = .ok (.aload_n 0, 1) := by decide +kernel
theorem dX11_finds_8 : decode cX11_finds 8 = .ok (.getfield 70, 3) := by decide +kernel
theorem dX11_finds_11 : decode cX11_finds 11 = .ok (.iconst 3, 1) := by decide +kernel
theorem dX11_finds_12 : decode cX11_finds 12 = .ok (.iload_n 1, 1) := by decide +kernel
theorem dX11_finds_13 : decode cX11_finds 13 = .ok (.imul, 1) := by decide +kernel
theorem dX11_finds_14 : decode cX11_finds 14 = .ok (.iload_n 2, 1) := by decide +kernel
theorem dX11_finds_15 : decode cX11_finds 15 = .ok (.iastore, 1) := by decide +kernel
theorem dX11_finds_16 : decode cX11_finds 16 = .ok (.aload_n 0, 1) := by decide +kernel
theorem dX11_finds_17 : decode cX11_finds 17 = .ok (.getfield 70, 3) := by decide +kernel
theorem dX11_finds_20 : decode cX11_finds 20 = .ok (.iconst 3, 1) := by decide +kernel
theorem dX11_finds_21 : decode cX11_finds 21 = .ok (.iload_n 1, 1) := by decide +kernel
theorem dX11_finds_22 : decode cX11_finds 22 = .ok (.imul, 1) := by decide +kernel
theorem dX11_finds_23 : decode cX11_finds 23 = .ok (.iconst 1, 1) := by decide +kernel
theorem dX11_finds_24 : decode cX11_finds 24 = .ok (.iadd, 1) := by decide +kernel
theorem dX11_finds_25 : decode cX11_finds 25 = .ok (.iload_n 3, 1) := by decide +kernel
theorem dX11_finds_26 : decode cX11_finds 26 = .ok (.iastore, 1) := by decide +kernel
theorem dX11_finds_27 : decode cX11_finds 27 = .ok (.aload_n 0, 1) := by decide +kernel
theorem dX11_finds_28 : decode cX11_finds 28 = .ok (.getfield 70, 3) := by decide +kernel
theorem dX11_finds_31 : decode cX11_finds 31 = .ok (.iconst 3, 1) := by decide +kernel
theorem dX11_finds_32 : decode cX11_finds 32 = .ok (.iload_n 1, 1) := by decide +kernel
theorem dX11_finds_33 : decode cX11_finds 33 = .ok (.imul, 1) := by decide +kernel
theorem dX11_finds_34 : decode cX11_finds 34 = .ok (.iconst 2, 1) := by decide +kernel
theorem dX11_finds_35 : decode cX11_finds 35 = .ok (.iadd, 1) := by decide +kernel
theorem dX11_finds_36 : decode cX11_finds 36 = .ok (.iload 4, 2) := by decide +kernel
theorem dX11_finds_38 : decode cX11_finds 38 = .ok (.iastore, 1) := by decide +kernel
theorem dX11_finds_39 : decode cX11_finds 39 = .ok (.aload_n 0, 1) := by decide +kernel
theorem dX11_finds_40 : decode cX11_finds 40 = .ok (.getfield 73, 3) := by decide +kernel
theorem dX11_finds_43 : decode cX11_finds 43 = .ok (.iload_n 1, 1) := by decide +kernel
theorem dX11_finds_44 : decode cX11_finds 44 = .ok (.lload 5, 2) := by decide +kernel
theorem dX11_finds_46 : decode cX11_finds 46 = .ok (.lastore, 1) := by decide +kernel
theorem dX11_finds_47 : decode cX11_finds 47 = .ok (.iconst 0, 1) := by decide +kernel
theorem dX11_finds_48 : decode cX11_finds 48 = .ok (.istore 7, 2) := by decide +kernel
theorem dX11_finds_50 : decode cX11_finds 50 = .ok (.iconst 0, 1) := by decide +kernel
theorem dX11_finds_51 : decode cX11_finds 51 = .ok (.istore 8, 2) := by decide +kernel
theorem dX11_finds_53 : decode cX11_finds 53 = .ok (.iload 8, 2) := by decide +kernel
theorem dX11_finds_55 : decode cX11_finds 55 = .ok (.aload_n 0, 1) := by decide +kernel
theorem dX11_finds_56 : decode cX11_finds 56 = .ok (.iconst 0, 1) := by decide +kernel
theorem dX11_finds_57 : decode cX11_finds 57 = .ok (.invokevirtual 128, 3) := by decide +kernel
theorem dX11_finds_60 : decode cX11_finds 60 = .ok (.if_icmp .ge 88, 3) := by decide +kernel
theorem dX11_finds_63 : decode cX11_finds 63 = .ok (.iconst 0, 1) := by decide +kernel
theorem dX11_finds_64 : decode cX11_finds 64 = .ok (.istore 9, 2) := by decide +kernel
theorem dX11_finds_66 : decode cX11_finds 66 = .ok (.iload 9, 2) := by decide +kernel
theorem dX11_finds_68 : decode cX11_finds 68 = .ok (.aload_n 0, 1) := by decide +kernel
theorem dX11_finds_69 : decode cX11_finds 69 = .ok (.iconst 1, 1) := by decide +kernel
theorem dX11_finds_70 : decode cX11_finds 70 = .ok (.invokevirtual 128, 3) := by decide +kernel
theorem dX11_finds_73 : decode cX11_finds 73 = .ok (.if_icmp .ge 69, 3) := by decide +kernel
theorem dX11_finds_76 : decode cX11_finds 76 = .ok (.iconst 0, 1) := by decide +kernel
theorem dX11_finds_77 : decode cX11_finds 77 = .ok (.istore 10, 2) := by decide +kernel
theorem dX11_finds_79 : decode cX11_finds 79 = .ok (.iload 10, 2) := by decide +kernel
theorem dX11_finds_81 : decode cX11_finds 81 = .ok (.aload_n 0, 1) := by decide +kernel
theorem dX11_finds_82 : decode cX11_finds 82 = .ok (.iconst 2, 1) := by decide +kernel
theorem dX11_finds_83 : decode cX11_finds 83 = .ok (.invokevirtual 128, 3) := by decide +kernel
theorem dX11_finds_86 : decode cX11_finds 86 = .ok (.if_icmp .ge 50, 3) := by decide +kernel
theorem dX11_finds_89 : decode cX11_finds 89 = .ok (.iload 7, 2) := by decide +kernel
theorem dX11_finds_91 : decode cX11_finds 91 = .ok (.aload_n 0, 1) := by decide +kernel
theorem dX11_finds_92 : decode cX11_finds 92 = .ok (.aload_n 0, 1) := by decide +kernel
theorem dX11_finds_93 : decode cX11_finds 93 = .ok (.iconst 0, 1) := by decide +kernel
theorem dX11_finds_94 : decode cX11_finds 94 = .ok (.iload 8, 2) := by decide +kernel
theorem dX11_finds_96 : decode cX11_finds 96 = .ok (.invokevirtual 283, 3) := by decide +kernel
theorem dX11_finds_99 : decode cX11_finds 99 = .ok (.aload_n 0, 1) := by decide +kernel
theorem dX11_finds_100 : decode cX11_finds 100 = .ok (.iconst 1, 1) := by decide +kernel
theorem dX11_finds_101 : decode cX11_finds 101 = .ok (.iload 9, 2) := by decide +kernel
theorem dX11_finds_103 : decode cX11_finds 103 = .ok (.invokevirtual 283, 3) := by decide +kernel
theorem dX11_finds_106 : decode cX11_finds 106 = .ok (.aload_n 0, 1) := by decide +kernel
theorem dX11_finds_107 : decode cX11_finds 107 = .ok (.iconst 2, 1) := by decide +kernel
theorem dX11_finds_108 : decode cX11_finds 108 = .ok (.iload 10, 2) := by decide +kernel
theorem dX11_finds_110 : decode cX11_finds 110 = .ok (.invokevirtual 283, 3) := by decide +kernel
theorem dX11_finds_113 : decode cX11_finds 113 = .ok (.invokevirtual 286, 3) := by decide +kernel
theorem dX11_finds_116 : decode cX11_finds 116 = .ok (.lload 5, 2) := by decide +kernel
theorem dX11_finds_118 : decode cX11_finds 118 = .ok (.lcmp, 1) := by decide +kernel
theorem dX11_finds_119 : decode cX11_finds 119 = .ok (.ifCond .le 7, 3) := by decide +kernel
theorem dX11_finds_122 : decode cX11_finds 122 = .ok (.iconst 1, 1) := by decide +kernel
theorem dX11_finds_123 : decode cX11_finds 123 = .ok (.goto 4, 3) := by decide +kernel
theorem dX11_finds_126 : decode cX11_finds 126 = .ok (.iconst 0, 1) := by decide +kernel
theorem dX11_finds_127 : decode cX11_finds 127 = .ok (.iadd, 1) := by decide +kernel
theorem dX11_finds_128 : decode cX11_finds 128 = .ok (.istore 7, 2) := by decide +kernel
theorem dX11_finds_130 : decode cX11_finds 130 = .ok (.iinc 10 1, 3) := by decide +kernel
theorem dX11_finds_133 : decode cX11_finds 133 = .ok (.goto (-54), 3) := by decide +kernel
theorem dX11_finds_136 : decode cX11_finds 136 = .ok (.iinc 9 1, 3) := by decide +kernel
