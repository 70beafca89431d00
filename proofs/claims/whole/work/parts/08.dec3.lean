theorem dX11_finds_139 : decode cX11_finds 139 = .ok (.goto (-73), 3) := by decide +kernel
theorem dX11_finds_142 : decode cX11_finds 142 = .ok (.iinc 8 1, 3) := by decide +kernel
theorem dX11_finds_145 : decode cX11_finds 145 = .ok (.goto (-92), 3) := by decide +kernel
theorem dX11_finds_148 : decode cX11_finds 148 = .ok (.aload_n 0, 1) := by decide +kernel
theorem dX11_finds_149 : decode cX11_finds 149 = .ok (.getfield 77, 3) := by decide +kernel
theorem dX11_finds_152 : decode cX11_finds 152 = .ok (.iload_n 1, 1) := by decide +kernel
theorem dX11_finds_153 : decode cX11_finds 153 = .ok (.iload 7, 2) := by decide +kernel
theorem dX11_finds_155 : decode cX11_finds 155 = .ok (.iastore, 1) := by decide +kernel
theorem dX11_finds_156 : decode cX11_finds 156 = .ok (.return_, 1) := by decide +kernel
theorem dX11_search_0 : decode cX11_search 0 = .ok (.aload_n 0, 1) := by decide +kernel
theorem dX11_search_1 : decode cX11_search 1 = .ok (.iconst 0, 1) := by decide +kernel
theorem dX11_search_2 : decode cX11_search 2 = .ok (.putfield 3, 3) := by decide +kernel
theorem dX11_search_5 : decode cX11_search 5 = .ok (.ldc2_w 188, 3) := by decide +kernel
theorem dX11_search_8 : decode cX11_search 8 = .ok (.lstore_n 1, 1) := by decide +kernel
theorem dX11_search_9 : decode cX11_search 9 = .ok (.iconst 0, 1) := by decide +kernel
theorem dX11_search_10 : decode cX11_search 10 = .ok (.istore_n 3, 1) := by decide +kernel
theorem dX11_search_11 : decode cX11_search 11 = .ok (.iload_n 3, 1) := by decide +kernel
theorem dX11_search_12 : decode cX11_search 12 = .ok (.aload_n 0, 1) := by decide +kernel
theorem dX11_search_13 : decode cX11_search 13 = .ok (.iconst 0, 1) := by decide +kernel
theorem dX11_search_14 : decode cX11_search 14 = .ok (.invokevirtual 128, 3) := by decide +kernel
theorem dX11_search_17 : decode cX11_search 17 = .ok (.if_icmp .ge 130, 3) := by decide +kernel
theorem dX11_search_20 : decode cX11_search 20 = .ok (.iconst 0, 1) := by decide +kernel
theorem dX11_search_21 : decode cX11_search 21 = .ok (.istore 4, 2) := by decide +kernel
theorem dX11_search_23 : decode cX11_search 23 = .ok (.iload 4, 2) := by decide +kernel
theorem dX11_search_25 : decode cX11_search 25 = .ok (.aload_n 0, 1) := by decide +kernel
theorem dX11_search_26 : decode cX11_search 26 = .ok (.iconst 1, 1) := by decide +kernel
theorem dX11_search_27 : decode cX11_search 27 = .ok (.invokevirtual 128, 3) := by decide +kernel
theorem dX11_search_30 : decode cX11_search 30 = .ok (.if_icmp .ge 111, 3) := by decide +kernel
theorem dX11_search_33 : decode cX11_search 33 = .ok (.iconst 0, 1) := by decide +kernel
theorem dX11_search_34 : decode cX11_search 34 = .ok (.istore 5, 2) := by decide +kernel
theorem dX11_search_36 : decode cX11_search 36 = .ok (.iload 5, 2) := by decide +kernel
theorem dX11_search_38 : decode cX11_search 38 = .ok (.aload_n 0, 1) := by decide +kernel
theorem dX11_search_39 : decode cX11_search 39 = .ok (.iconst 2, 1) := by decide +kernel
theorem dX11_search_40 : decode cX11_search 40 = .ok (.invokevirtual 128, 3) := by decide +kernel
theorem dX11_search_43 : decode cX11_search 43 = .ok (.if_icmp .ge 92, 3) := by decide +kernel
theorem dX11_search_46 : decode cX11_search 46 = .ok (.aload_n 0, 1) := by decide +kernel
theorem dX11_search_47 : decode cX11_search 47 = .ok (.aload_n 0, 1) := by decide +kernel
theorem dX11_search_48 : decode cX11_search 48 = .ok (.iconst 0, 1) := by decide +kernel
theorem dX11_search_49 : decode cX11_search 49 = .ok (.iload_n 3, 1) := by decide +kernel
theorem dX11_search_50 : decode cX11_search 50 = .ok (.invokevirtual 283, 3) := by decide +kernel
theorem dX11_search_53 : decode cX11_search 53 = .ok (.aload_n 0, 1) := by decide +kernel
theorem dX11_search_54 : decode cX11_search 54 = .ok (.iconst 1, 1) := by decide +kernel
theorem dX11_search_55 : decode cX11_search 55 = .ok (.iload 4, 2) := by decide +kernel
theorem dX11_search_57 : decode cX11_search 57 = .ok (.invokevirtual 283, 3) := by decide +kernel
theorem dX11_search_60 : decode cX11_search 60 = .ok (.aload_n 0, 1) := by decide +kernel
theorem dX11_search_61 : decode cX11_search 61 = .ok (.iconst 2, 1) := by decide +kernel
theorem dX11_search_62 : decode cX11_search 62 = .ok (.iload 5, 2) := by decide +kernel
theorem dX11_search_64 : decode cX11_search 64 = .ok (.invokevirtual 283, 3) := by decide +kernel
theorem dX11_search_67 : decode cX11_search 67 = .ok (.invokevirtual 286, 3) := by decide +kernel
theorem dX11_search_70 : decode cX11_search 70 = .ok (.lstore 6, 2) := by decide +kernel
theorem dX11_search_72 : decode cX11_search 72 = .ok (.lload_n 1, 1) := by decide +kernel
theorem dX11_search_73 : decode cX11_search 73 = .ok (.lconst 0, 1) := by decide +kernel
theorem dX11_search_74 : decode cX11_search 74 = .ok (.lcmp, 1) := by decide +kernel
theorem dX11_search_75 : decode cX11_search 75 = .ok (.ifCond .lt 13, 3) := by decide +kernel
theorem dX11_search_78 : decode cX11_search 78 = .ok (.lload 6, 2) := by decide +kernel
theorem dX11_search_80 : decode cX11_search 80 = .ok (.lload_n 1, 1) := by decide +kernel
theorem dX11_search_81 : decode cX11_search 81 = .ok (.lcmp, 1) := by decide +kernel
theorem dX11_search_82 : decode cX11_search 82 = .ok (.ifCond .lt 6, 3) := by decide +kernel
theorem dX11_search_85 : decode cX11_search 85 = .ok (.goto 44, 3) := by decide +kernel
theorem dX11_search_88 : decode cX11_search 88 = .ok (.lload 6, 2) := by decide +kernel
theorem dX11_search_90 : decode cX11_search 90 = .ok (.lstore_n 1, 1) := by decide +kernel
theorem dX11_search_91 : decode cX11_search 91 = .ok (.aload_n 0, 1) := by decide +kernel
theorem dX11_search_92 : decode cX11_search 92 = .ok (.getfield 80, 3) := by decide +kernel
theorem dX11_search_95 : decode cX11_search 95 = .ok (.iconst 0, 1) := by decide +kernel
theorem dX11_search_96 : decode cX11_search 96 = .ok (.aload_n 0, 1) := by decide +kernel
theorem dX11_search_97 : decode cX11_search 97 = .ok (.iconst 0, 1) := by decide +kernel
theorem dX11_search_98 : decode cX11_search 98 = .ok (.iload_n 3, 1) := by decide +kernel
theorem dX11_search_99 : decode cX11_search 99 = .ok (.invokevirtual 283, 3) := by decide +kernel
theorem dX11_search_102 : decode cX11_search 102 = .ok (.iastore, 1) := by decide +kernel
theorem dX11_search_103 : decode cX11_search 103 = .ok (.aload_n 0, 1) := by decide +kernel
theorem dX11_search_104 : decode cX11_search 104 = .ok (.getfield 80, 3) := by decide +kernel
theorem dX11_search_107 : decode cX11_search 107 = .ok (.iconst 1, 1) := by decide +kernel
theorem dX11_search_108 : decode cX11_search 108 = .ok (.aload_n 0, 1) := by decide +kernel
theorem dX11_search_109 : decode cX11_search 109 = .ok (.iconst 1, 1) := by decide +kernel
theorem dX11_search_110 : decode cX11_search 110 = .ok (.iload 4, 2) := by decide +kernel
theorem dX11_search_112 : decode cX11_search 112 = .ok (.invokevirtual 283, 3) := by decide +kernel
theorem dX11_search_115 : decode cX11_search 115 = .ok (.iastore, 1) := by decide +kernel
theorem dX11_search_116 : decode cX11_search 116 = .ok (.aload_n 0, 1) := by decide +kernel
theorem dX11_search_117 : decode cX11_search 117 = .ok (.getfield 80, 3) := by decide +kernel
theorem dX11_search_120 : decode cX11_search 120 = .ok (.iconst 2, 1) := by decide +kernel
theorem dX11_search_121 : decode cX11_search 121 = .ok (.aload_n 0, 1) := by decide +kernel
theorem dX11_search_122 : decode cX11_search 122 = .ok (.iconst 2, 1) := by decide +kernel
theorem dX11_search_123 : decode cX11_search 123 = .ok (.iload 5, 2) := by decide +kernel
theorem dX11_search_125 : decode cX11_search 125 = .ok (.invokevirtual 283, 3) := by decide +kernel
theorem dX11_search_128 : decode cX11_search 128 = .ok (.iastore, 1) := by decide +kernel
theorem dX11_search_129 : decode cX11_search 129 = .ok (.iinc 5 1, 3) := by decide +kernel
theorem dX11_search_132 : decode cX11_search 132 = .ok (.goto (-96), 3) := by decide +kernel
theorem dX11_search_135 : decode cX11_search 135 = .ok (.iinc 4 1, 3) := by decide +kernel
theorem dX11_search_138 : decode cX11_search 138 = .ok (.goto (-115), 3) := by decide +kernel
theorem dX11_search_141 : decode cX11_search 141 = .ok (.iinc 3 1, 3) := by decide +kernel
theorem dX11_search_144 : decode cX11_search 144 = .ok (.goto (-133), 3) := by decide +kernel
theorem dX11_search_147 : decode cX11_search 147 = .ok (.aload_n 0, 1) := by decide +kernel
theorem dX11_search_148 : decode cX11_search 148 = .ok (.iconst 0, 1) := by decide +kernel
theorem dX11_search_149 : decode cX11_search 149 = .ok (.aload_n 0, 1) := by decide +kernel
theorem dX11_search_150 : decode cX11_search 150 = .ok (.getfield 80, 3) := by decide +kernel
theorem dX11_search_153 : decode cX11_search 153 = .ok (.iconst 0, 1) := by decide +kernel
theorem dX11_search_154 : decode cX11_search 154 = .ok (.iaload, 1) := by decide +kernel
theorem dX11_search_155 : decode cX11_search 155 = .ok (.aload_n 0, 1) := by decide +kernel
theorem dX11_search_156 : decode cX11_search 156 = .ok (.getfield 80, 3) := by decide +kernel
theorem dX11_search_159 : decode cX11_search 159 = .ok (.iconst 1, 1) := by decide +kernel
theorem dX11_search_160 : decode cX11_search 160 = .ok (.iaload, 1) := by decide +kernel
theorem dX11_search_161 : decode cX11_search 161 = .ok (.aload_n 0, 1) := by decide +kernel
theorem dX11_search_162 : decode cX11_search 162 = .ok (.getfield 80, 3) := by decide +kernel
theorem dX11_search_165 : decode cX11_search 165 = .ok (.iconst 2, 1) := by decide +kernel
theorem dX11_search_166 : decode cX11_search 166 = .ok (.iaload, 1) := by decide +kernel
theorem dX11_search_167 : decode cX11_search 167 = .ok (.lload_n 1, 1) := by decide +kernel
theorem dX11_search_168 : decode cX11_search 168 = .ok (.invokevirtual 290, 3) := by decide +kernel
theorem dX11_search_171 : decode cX11_search 171 = .ok (.aload_n 0, 1) := by decide +kernel
theorem dX11_search_172 : decode cX11_search 172 = .ok (.invokevirtual 139, 3) := by decide +kernel
theorem dX11_search_175 : decode cX11_search 175 = .ok (.ireturn, 1) := by decide +kernel
theorem dX11_costOfOne_0 : decode cX11_costOfOne 0 = .ok (.aload_n 0, 1) := by decide +kernel
theorem dX11_costOfOne_1 : decode cX11_costOfOne 1 = .ok (.aload_n 0, 1) := by decide +kernel
theorem dX11_costOfOne_2 : decode cX11_costOfOne 2 = .ok (.getfield 80, 3) := by decide +kernel
theorem dX11_costOfOne_5 : decode cX11_costOfOne 5 = .ok (.iconst 0, 1) := by decide +kernel
theorem dX11_costOfOne_6 : decode cX11_costOfOne 6 = .ok (.iaload, 1) := by decide +kernel
theorem dX11_costOfOne_7 : decode cX11_costOfOne 7 = .ok (.aload_n 0, 1) := by decide +kernel
theorem dX11_costOfOne_8 : decode cX11_costOfOne 8 = .ok (.getfield 80, 3) := by decide +kernel
theorem dX11_costOfOne_11 : decode cX11_costOfOne 11 = .ok (.iconst 1, 1) := by decide +kernel
theorem dX11_costOfOne_12 : decode cX11_costOfOne 12 = .ok (.iaload, 1) := by decide +kernel
theorem dX11_costOfOne_13 : decode cX11_costOfOne 13 = .ok (.aload_n 0, 1) := by decide +kernel
theorem dX11_costOfOne_14 : decode cX11_costOfOne 14 = .ok (.getfield 80, 3) := by decide +kernel
theorem dX11_costOfOne_17 : decode cX11_costOfOne 17 = .ok (.iconst 2, 1) := by decide +kernel
theorem dX11_costOfOne_18 : decode cX11_costOfOne 18 = .ok (.iaload, 1) := by decide +kernel
theorem dX11_costOfOne_19 : decode cX11_costOfOne 19 = .ok (.invokevirtual 286, 3) := by decide +kernel
theorem dX11_costOfOne_22 : decode cX11_costOfOne 22 = .ok (.lreturn, 1) := by decide +kernel
theorem dX11_climb_0 : decode cX11_climb 0 = .ok (.aload_n 0, 1) := by decide +kernel
theorem dX11_climb_1 : decode cX11_climb 1 = .ok (.iconst 0, 1) := by decide +kernel
theorem dX11_climb_2 : decode cX11_climb 2 = .ok (.putfield 3, 3) := by decide +kernel
theorem dX11_climb_5 : decode cX11_climb 5 = .ok (.iconst 0, 1) := by decide +kernel
theorem dX11_climb_6 : decode cX11_climb 6 = .ok (.istore_n 1, 1) := by decide +kernel
theorem dX11_climb_7 : decode cX11_climb 7 = .ok (.iload_n 1, 1) := by decide +kernel
theorem dX11_climb_8 : decode cX11_climb 8 = .ok (.iconst 3, 1) := by decide +kernel
theorem dX11_climb_9 : decode cX11_climb 9 = .ok (.if_icmp .ge 20, 3) := by decide +kernel
theorem dX11_climb_12 : decode cX11_climb 12 = .ok (.aload_n 0, 1) := by decide +kernel
theorem dX11_climb_13 : decode cX11_climb 13 = .ok (.getfield 80, 3) := by decide +kernel
theorem dX11_climb_16 : decode cX11_climb 16 = .ok (.iload_n 1, 1) := by decide +kernel
theorem dX11_climb_17 : decode cX11_climb 17 = .ok (.aload_n 0, 1) := by decide +kernel
theorem dX11_climb_18 : decode cX11_climb 18 = .ok (.iload_n 1, 1) := by decide +kernel
theorem dX11_climb_19 : decode cX11_climb 19 = .ok (.invokevirtual 277, 3) := by decide +kernel
theorem dX11_climb_22 : decode cX11_climb 22 = .ok (.iastore, 1) := by decide +kernel
theorem dX11_climb_23 : decode cX11_climb 23 = .ok (.iinc 1 1, 3) := by decide +kernel
theorem dX11_climb_26 : decode cX11_climb 26 = .ok (.goto (-19), 3) := by decide +kernel
theorem dX11_climb_29 : decode cX11_climb 29 = .ok (.aload_n 0, 1) := by decide +kernel
theorem dX11_climb_30 : decode cX11_climb 30 = .ok (.invokevirtual 294, 3) := by decide +kernel
theorem dX11_climb_33 : decode cX11_climb 33 = .ok (.lstore_n 1, 1) := by decide +kernel
theorem dX11_climb_34 : decode cX11_climb 34 = .ok (.iconst 0, 1) := by decide +kernel
theorem dX11_climb_35 : decode cX11_climb 35 = .ok (.istore_n 3, 1) := by decide +kernel
theorem dX11_climb_36 : decode cX11_climb 36 = .ok (.iconst 0, 1) := by decide +kernel
theorem dX11_climb_37 : decode cX11_climb 37 = .ok (.istore 4, 2) := by decide +kernel
theorem dX11_climb_39 : decode cX11_climb 39 = .ok (.iload_n 3, 1) := by decide +kernel
theorem dX11_climb_40 : decode cX11_climb 40 = .ok (.iconst 3, 1) := by decide +kernel
theorem dX11_climb_41 : decode cX11_climb 41 = .ok (.if_icmp .ge 122, 3) := by decide +kernel
theorem dX11_climb_44 : decode cX11_climb 44 = .ok (.iload 4, 2) := by decide +kernel
theorem dX11_climb_46 : decode cX11_climb 46 = .ok (.iconst 3, 1) := by decide +kernel
theorem dX11_climb_47 : decode cX11_climb 47 = .ok (.irem, 1) := by decide +kernel
theorem dX11_climb_48 : decode cX11_climb 48 = .ok (.istore 5, 2) := by decide +kernel
theorem dX11_climb_50 : decode cX11_climb 50 = .ok (.iconst 0, 1) := by decide +kernel
theorem dX11_climb_51 : decode cX11_climb 51 = .ok (.istore 6, 2) := by decide +kernel
theorem dX11_climb_53 : decode cX11_climb 53 = .ok (.ldc2_w 188, 3) := by decide +kernel
theorem dX11_climb_56 : decode cX11_climb 56 = .ok (.lstore 7, 2) := by decide +kernel
theorem dX11_climb_58 : decode cX11_climb 58 = .ok (.iconst 0, 1) := by decide +kernel
theorem dX11_climb_59 : decode cX11_climb 59 = .ok (.istore 9, 2) := by decide +kernel
theorem dX11_climb_61 : decode cX11_climb 61 = .ok (.iload 9, 2) := by decide +kernel
theorem dX11_climb_63 : decode cX11_climb 63 = .ok (.aload_n 0, 1) := by decide +kernel
theorem dX11_climb_64 : decode cX11_climb 64 = .ok (.iload 5, 2) := by decide +kernel
theorem dX11_climb_66 : decode cX11_climb 66 = .ok (.invokevirtual 128, 3) := by decide +kernel
theorem dX11_climb_69 : decode cX11_climb 69 = .ok (.if_icmp .ge 61, 3) := by decide +kernel
theorem dX11_climb_72 : decode cX11_climb 72 = .ok (.aload_n 0, 1) := by decide +kernel
theorem dX11_climb_73 : decode cX11_climb 73 = .ok (.getfield 80, 3) := by decide +kernel
theorem dX11_climb_76 : decode cX11_climb 76 = .ok (.iload 5, 2) := by decide +kernel
theorem dX11_climb_78 : decode cX11_climb 78 = .ok (.aload_n 0, 1) := by decide +kernel
theorem dX11_climb_79 : decode cX11_climb 79 = .ok (.iload 5, 2) := by decide +kernel
theorem dX11_climb_81 : decode cX11_climb 81 = .ok (.iload 9, 2) := by decide +kernel
theorem dX11_climb_83 : decode cX11_climb 83 = .ok (.invokevirtual 283, 3) := by decide +kernel
theorem dX11_climb_86 : decode cX11_climb 86 = .ok (.iastore, 1) := by decide +kernel
theorem dX11_climb_87 : decode cX11_climb 87 = .ok (.aload_n 0, 1) := by decide +kernel
theorem dX11_climb_88 : decode cX11_climb 88 = .ok (.invokevirtual 294, 3) := by decide +kernel
theorem dX11_climb_91 : decode cX11_climb 91 = .ok (.lstore 10, 2) := by decide +kernel
theorem dX11_climb_93 : decode cX11_climb 93 = .ok (.lload 7, 2) := by decide +kernel
theorem dX11_climb_95 : decode cX11_climb 95 = .ok (.lconst 0, 1) := by decide +kernel
theorem dX11_climb_96 : decode cX11_climb 96 = .ok (.lcmp, 1) := by decide +kernel
theorem dX11_climb_97 : decode cX11_climb 97 = .ok (.ifCond .lt 14, 3) := by decide +kernel
theorem dX11_climb_100 : decode cX11_climb 100 = .ok (.lload 10, 2) := by decide +kernel
theorem dX11_climb_102 : decode cX11_climb 102 = .ok (.lload 7, 2) := by decide +kernel
theorem dX11_climb_104 : decode cX11_climb 104 = .ok (.lcmp, 1) := by decide +kernel
theorem dX11_climb_105 : decode cX11_climb 105 = .ok (.ifCond .lt 6, 3) := by decide +kernel
theorem dX11_climb_108 : decode cX11_climb 108 = .ok (.goto 16, 3) := by decide +kernel
theorem dX11_climb_111 : decode cX11_climb 111 = .ok (.lload 10, 2) := by decide +kernel
theorem dX11_climb_113 : decode cX11_climb 113 = .ok (.lstore 7, 2) := by decide +kernel
theorem dX11_climb_115 : decode cX11_climb 115 = .ok (.aload_n 0, 1) := by decide +kernel
theorem dX11_climb_116 : decode cX11_climb 116 = .ok (.getfield 80, 3) := by decide +kernel
theorem dX11_climb_119 : decode cX11_climb 119 = .ok (.iload 5, 2) := by decide +kernel
theorem dX11_climb_121 : decode cX11_climb 121 = .ok (.iaload, 1) := by decide +kernel
theorem dX11_climb_122 : decode cX11_climb 122 = .ok (.istore 6, 2) := by decide +kernel
theorem dX11_climb_124 : decode cX11_climb 124 = .ok (.iinc 9 1, 3) := by decide +kernel
theorem dX11_climb_127 : decode cX11_climb 127 = .ok (.goto (-66), 3) := by decide +kernel
theorem dX11_climb_130 : decode cX11_climb 130 = .ok (.aload_n 0, 1) := by decide +kernel
theorem dX11_climb_131 : decode cX11_climb 131 = .ok (.getfield 80, 3) := by decide +kernel
theorem dX11_climb_134 : decode cX11_climb 134 = .ok (.iload 5, 2) := by decide +kernel
theorem dX11_climb_136 : decode cX11_climb 136 = .ok (.iload 6, 2) := by decide +kernel
theorem dX11_climb_138 : decode cX11_climb 138 = .ok (.iastore, 1) := by decide +kernel
theorem dX11_climb_139 : decode cX11_climb 139 = .ok (.lload 7, 2) := by decide +kernel
theorem dX11_climb_141 : decode cX11_climb 141 = .ok (.lload_n 1, 1) := by decide +kernel
theorem dX11_climb_142 : decode cX11_climb 142 = .ok (.lcmp, 1) := by decide +kernel
theorem dX11_climb_143 : decode cX11_climb 143 = .ok (.ifCond .ne 9, 3) := by decide +kernel
theorem dX11_climb_146 : decode cX11_climb 146 = .ok (.iload_n 3, 1) := by decide +kernel
theorem dX11_climb_147 : decode cX11_climb 147 = .ok (.iconst 1, 1) := by decide +kernel
theorem dX11_climb_148 : decode cX11_climb 148 = .ok (.iadd, 1) := by decide +kernel
theorem dX11_climb_149 : decode cX11_climb 149 = .ok (.goto 4, 3) := by decide +kernel
theorem dX11_climb_152 : decode cX11_climb 152 = .ok (.iconst 0, 1) := by decide +kernel
theorem dX11_climb_153 : decode cX11_climb 153 = .ok (.istore_n 3, 1) := by decide +kernel
theorem dX11_climb_154 : decode cX11_climb 154 = .ok (.lload 7, 2) := by decide +kernel
theorem dX11_climb_156 : decode cX11_climb 156 = .ok (.lstore_n 1, 1) := by decide +kernel
theorem dX11_climb_157 : decode cX11_climb 157 = .ok (.iinc 4 1, 3) := by decide +kernel
theorem dX11_climb_160 : decode cX11_climb 160 = .ok (.goto (-121), 3) := by decide +kernel
theorem dX11_climb_163 : decode cX11_climb 163 = .ok (.aload_n 0, 1) := by decide +kernel
theorem dX11_climb_164 : decode cX11_climb 164 = .ok (.iconst 1, 1) := by decide +kernel
theorem dX11_climb_165 : decode cX11_climb 165 = .ok (.aload_n 0, 1) := by decide +kernel
theorem dX11_climb_166 : decode cX11_climb 166 = .ok (.getfield 80, 3) := by decide +kernel
theorem dX11_climb_169 : decode cX11_climb 169 = .ok (.iconst 0, 1) := by decide +kernel
theorem dX11_climb_170 : decode cX11_climb 170 = .ok (.iaload, 1) := by decide +kernel
theorem dX11_climb_171 : decode cX11_climb 171 = .ok (.aload_n 0, 1) := by decide +kernel
theorem dX11_climb_172 : decode cX11_climb 172 = .ok (.getfield 80, 3) := by decide +kernel
theorem dX11_climb_175 : decode cX11_climb 175 = .ok (.iconst 1, 1) := by decide +kernel
theorem dX11_climb_176 : decode cX11_climb 176 = .ok (.iaload, 1) := by decide +kernel
theorem dX11_climb_177 : decode cX11_climb 177 = .ok (.aload_n 0, 1) := by decide +kernel
theorem dX11_climb_178 : decode cX11_climb 178 = .ok (.getfield 80, 3) := by decide +kernel
theorem dX11_climb_181 : decode cX11_climb 181 = .ok (.iconst 2, 1) := by decide +kernel
theorem dX11_climb_182 : decode cX11_climb 182 = .ok (.iaload, 1) := by decide +kernel
theorem dX11_climb_183 : decode cX11_climb 183 = .ok (.lload_n 1, 1) := by decide +kernel
theorem dX11_climb_184 : decode cX11_climb 184 = .ok (.invokevirtual 290, 3) := by decide +kernel
theorem dX11_climb_187 : decode cX11_climb 187 = .ok (.iload 4, 2) := by decide +kernel
theorem dX11_climb_189 : decode cX11_climb 189 = .ok (.ireturn, 1) := by decide +kernel
theorem dX11_found_0 : decode cX11_found 0 = .ok (.iload_n 1, 1) := by decide +kernel
theorem dX11_found_1 : decode cX11_found 1 = .ok (.ifCond .eq 7, 3) := by decide +kernel
theorem dX11_found_4 : decode cX11_found 4 = .ok (.iconst 1, 1) := by decide +kernel
theorem dX11_found_5 : decode cX11_found 5 = .ok (.goto 4, 3) := by decide +kernel
theorem dX11_found_8 : decode cX11_found 8 = .ok (.iconst 0, 1) := by decide +kernel
theorem dX11_found_9 : decode cX11_found 9 = .ok (.istore_n 3, 1) := by decide +kernel
theorem dX11_found_10 : decode cX11_found 10 = .ok (.aload_n 0, 1) := by decide +kernel
theorem dX11_found_11 : decode cX11_found 11 = .ok (.aload_n 0, 1) := by decide +kernel
theorem dX11_found_12 : decode cX11_found 12 = .ok (.getfield 66, 3) := by decide +kernel
theorem dX11_found_15 : decode cX11_found 15 = .ok (.iload_n 3, 1) := by decide +kernel
theorem dX11_found_16 : decode cX11_found 16 = .ok (.baload, 1) := by decide +kernel
theorem dX11_found_17 : decode cX11_found 17 = .ok (.ifCond .ne 7, 3) := by decide +kernel
theorem dX11_found_20 : decode cX11_found 20 = .ok (.iconst 1, 1) := by decide +kernel
theorem dX11_found_21 : decode cX11_found 21 = .ok (.goto 20, 3) := by decide +kernel
theorem dX11_found_24 : decode cX11_found 24 = .ok (.iload_n 2, 1) := by decide +kernel
theorem dX11_found_25 : decode cX11_found 25 = .ok (.i2l, 1) := by decide +kernel
theorem dX11_found_26 : decode cX11_found 26 = .ok (.lconst 0, 1) := by decide +kernel
theorem dX11_found_27 : decode cX11_found 27 = .ok (.ldc2_w 297, 3) := by decide +kernel
theorem dX11_found_30 : decode cX11_found 30 = .ok (.invokestatic 92, 3) := by decide +kernel
theorem dX11_found_33 : decode cX11_found 33 = .ok (.ifCond .eq 7, 3) := by decide +kernel
theorem dX11_found_36 : decode cX11_found 36 = .ok (.iconst 0, 1) := by decide +kernel
theorem dX11_found_37 : decode cX11_found 37 = .ok (.goto 4, 3) := by decide +kernel
theorem dX11_found_40 : decode cX11_found 40 = .ok (.iconst 2, 1) := by decide +kernel
theorem dX11_found_41 : decode cX11_found 41 = .ok (.putfield 3, 3) := by decide +kernel
theorem dX11_found_44 : decode cX11_found 44 = .ok (.aload_n 0, 1) := by decide +kernel
theorem dX11_found_45 : decode cX11_found 45 = .ok (.getfield 3, 3) := by decide +kernel
theorem dX11_found_48 : decode cX11_found 48 = .ok (.ifCond .eq 7, 3) := by decide +kernel
theorem dX11_found_51 : decode cX11_found 51 = .ok (.iconst 0, 1) := by decide +kernel
theorem dX11_found_52 : decode cX11_found 52 = .ok (.goto 27, 3) := by decide +kernel
theorem dX11_found_55 : decode cX11_found 55 = .ok (.iload_n 2, 1) := by decide +kernel
theorem dX11_found_56 : decode cX11_found 56 = .ok (.iconst 3, 1) := by decide +kernel
theorem dX11_found_57 : decode cX11_found 57 = .ok (.if_icmp .ne 12, 3) := by decide +kernel
theorem dX11_found_60 : decode cX11_found 60 = .ok (.aload_n 0, 1) := by decide +kernel
theorem dX11_found_61 : decode cX11_found 61 = .ok (.getfield 77, 3) := by decide +kernel
theorem dX11_found_64 : decode cX11_found 64 = .ok (.iload_n 3, 1) := by decide +kernel
theorem dX11_found_65 : decode cX11_found 65 = .ok (.iaload, 1) := by decide +kernel
theorem dX11_found_66 : decode cX11_found 66 = .ok (.goto 13, 3) := by decide +kernel
theorem dX11_found_69 : decode cX11_found 69 = .ok (.aload_n 0, 1) := by decide +kernel
theorem dX11_found_70 : decode cX11_found 70 = .ok (.getfield 70, 3) := by decide +kernel
theorem dX11_found_73 : decode cX11_found 73 = .ok (.iconst 3, 1) := by decide +kernel
theorem dX11_found_74 : decode cX11_found 74 = .ok (.iload_n 3, 1) := by decide +kernel
theorem dX11_found_75 : decode cX11_found 75 = .ok (.imul, 1) := by decide +kernel
theorem dX11_found_76 : decode cX11_found 76 = .ok (.iload_n 2, 1) := by decide +kernel
theorem dX11_found_77 : decode cX11_found 77 = .ok (.iadd, 1) := by decide +kernel
theorem dX11_found_78 : decode cX11_found 78 = .ok (.iaload, 1) := by decide +kernel
theorem dX11_found_79 : decode cX11_found 79 = .ok (.ireturn, 1) := by decide +kernel
theorem dX11_foundCost_0 : decode cX11_foundCost 0 = .ok (.iload_n 1, 1) := by decide +kernel
theorem dX11_foundCost_1 : decode cX11_foundCost 1 = .ok (.ifCond .eq 7, 3) := by decide +kernel
theorem dX11_foundCost_4 : decode cX11_foundCost 4 = .ok (.iconst 1, 1) := by decide +kernel
theorem dX11_foundCost_5 : decode cX11_foundCost 5 = .ok (.goto 4, 3) := by decide +kernel
theorem dX11_foundCost_8 : decode cX11_foundCost 8 = .ok (.iconst 0, 1) := by decide +kernel
theorem dX11_foundCost_9 : decode cX11_foundCost 9 = .ok (.istore_n 2, 1) := by decide +kernel
theorem dX11_foundCost_10 : decode cX11_foundCost 10 = .ok (.aload_n 0, 1) := by decide +kernel
theorem dX11_foundCost_11 : decode cX11_foundCost 11 = .ok (.aload_n 0, 1) := by decide +kernel
theorem dX11_foundCost_12 : decode cX11_foundCost 12 = .ok (.getfield 66, 3) := by decide +kernel
theorem dX11_foundCost_15 : decode cX11_foundCost 15 = .ok (.iload_n 2, 1) := by decide +kernel
theorem dX11_foundCost_16 : decode cX11_foundCost 16 = .ok (.baload, 1) := by decide +kernel
theorem dX11_foundCost_17 : decode cX11_foundCost 17 = .ok (.ifCond .eq 7, 3) := by decide +kernel
theorem dX11_foundCost_20 : decode cX11_foundCost 20 = .ok (.iconst 0, 1) := by decide +kernel
theorem dX11_foundCost_21 : decode cX11_foundCost 21 = .ok (.goto 4, 3) := by decide +kernel
theorem dX11_foundCost_24 : decode cX11_foundCost 24 = .ok (.iconst 1, 1) := by decide +kernel
theorem dX11_foundCost_25 : decode cX11_foundCost 25 = .ok (.putfield 3, 3) := by decide +kernel
theorem dX11_foundCost_28 : decode cX11_foundCost 28 = .ok (.aload_n 0, 1) := by decide +kernel
theorem dX11_foundCost_29 : decode cX11_foundCost 29 = .ok (.getfield 3, 3) := by decide +kernel
theorem dX11_foundCost_32 : decode cX11_foundCost 32 = .ok (.ifCond .ne 12, 3) := by decide +kernel
theorem dX11_foundCost_35 : decode cX11_foundCost 35 = .ok (.aload_n 0, 1) := by decide +kernel
theorem dX11_foundCost_36 : decode cX11_foundCost 36 = .ok (.getfield 73, 3) := by decide +kernel
theorem dX11_foundCost_39 : decode cX11_foundCost 39 = .ok (.iload_n 2, 1) := by decide +kernel
theorem dX11_foundCost_40 : decode cX11_foundCost 40 = .ok (.laload, 1) := by decide +kernel
theorem dX11_foundCost_41 : decode cX11_foundCost 41 = .ok (.goto 4, 3) := by decide +kernel
theorem dX11_foundCost_44 : decode cX11_foundCost 44 = .ok (.lconst 0, 1) := by decide +kernel
theorem dX11_foundCost_45 : decode cX11_foundCost 45 = .ok (.lreturn, 1) := by decide +kernel
theorem dX11_apply_0 : decode cX11_apply 0 = .ok (.iload_n 1, 1) := by decide +kernel
theorem dX11_apply_1 : decode cX11_apply 1 = .ok (.ifCond .eq 7, 3) := by decide +kernel
theorem dX11_apply_4 : decode cX11_apply 4 = .ok (.iconst 1, 1) := by decide +kernel
theorem dX11_apply_5 : decode cX11_apply 5 = .ok (.goto 4, 3) := by decide +kernel
theorem dX11_apply_8 : decode cX11_apply 8 = .ok (.iconst 0, 1) := by decide +kernel
theorem dX11_apply_9 : decode cX11_apply 9 = .ok (.istore_n 2, 1) := by decide +kernel
theorem dX11_apply_10 : decode cX11_apply 10 = .ok (.aload_n 0, 1) := by decide +kernel
theorem dX11_apply_11 : decode cX11_apply 11 = .ok (.aload_n 0, 1) := by decide +kernel
theorem dX11_apply_12 : decode cX11_apply 12 = .ok (.getfield 66, 3) := by decide +kernel
theorem dX11_apply_15 : decode cX11_apply 15 = .ok (.iload_n 2, 1) := by decide +kernel
theorem dX11_apply_16 : decode cX11_apply 16 = .ok (.baload, 1) := by decide +kernel
theorem dX11_apply_17 : decode cX11_apply 17 = .ok (.ifCond .eq 7, 3) := by decide +kernel
theorem dX11_apply_20 : decode cX11_apply 20 = .ok (.iconst 0, 1) := by decide +kernel
theorem dX11_apply_21 : decode cX11_apply 21 = .ok (.goto 4, 3) := by decide +kernel
theorem dX11_apply_24 : decode cX11_apply 24 = .ok (.iconst 1, 1) := by decide +kernel
theorem dX11_apply_25 : decode cX11_apply 25 = .ok (.putfield 3, 3) := by decide +kernel
theorem dX11_apply_28 : decode cX11_apply 28 = .ok (.aload_n 0, 1) := by decide +kernel
theorem dX11_apply_29 : decode cX11_apply 29 = .ok (.getfield 3, 3) := by decide +kernel
theorem dX11_apply_32 : decode cX11_apply 32 = .ok (.ifCond .eq 5, 3) := by decide +kernel
theorem dX11_apply_35 : decode cX11_apply 35 = .ok (.iconst 0, 1) := by decide +kernel
theorem dX11_apply_36 : decode cX11_apply 36 = .ok (.ireturn, 1) := by decide +kernel
theorem dX11_apply_37 : decode cX11_apply 37 = .ok (.aload_n 0, 1) := by decide +kernel
theorem dX11_apply_38 : decode cX11_apply 38 = .ok (.invokevirtual 96, 3) := by decide +kernel
theorem dX11_apply_41 : decode cX11_apply 41 = .ok (.iconst 0, 1) := by decide +kernel
theorem dX11_apply_42 : decode cX11_apply 42 = .ok (.istore_n 3, 1) := by decide +kernel
theorem dX11_apply_43 : decode cX11_apply 43 = .ok (.iconst 0, 1) := by decide +kernel
theorem dX11_apply_44 : decode cX11_apply 44 = .ok (.istore 4, 2) := by decide +kernel
theorem dX11_apply_46 : decode cX11_apply 46 = .ok (.iload 4, 2) := by decide +kernel
theorem dX11_apply_48 : decode cX11_apply 48 = .ok (.iconst 3, 1) := by decide +kernel
theorem dX11_apply_49 : decode cX11_apply 49 = .ok (.if_icmp .ge 56, 3) := by decide +kernel
theorem dX11_apply_52 : decode cX11_apply 52 = .ok (.iload_n 3, 1) := by decide +kernel
theorem dX11_apply_53 : decode cX11_apply 53 = .ok (.aload_n 0, 1) := by decide +kernel
theorem dX11_apply_54 : decode cX11_apply 54 = .ok (.getfield 13, 3) := by decide +kernel
theorem dX11_apply_57 : decode cX11_apply 57 = .ok (.iload 4, 2) := by decide +kernel
theorem dX11_apply_59 : decode cX11_apply 59 = .ok (.iaload, 1) := by decide +kernel
theorem dX11_apply_60 : decode cX11_apply 60 = .ok (.aload_n 0, 1) := by decide +kernel
theorem dX11_apply_61 : decode cX11_apply 61 = .ok (.getfield 70, 3) := by decide +kernel
theorem dX11_apply_64 : decode cX11_apply 64 = .ok (.iconst 3, 1) := by decide +kernel
theorem dX11_apply_65 : decode cX11_apply 65 = .ok (.iload_n 2, 1) := by decide +kernel
theorem dX11_apply_66 : decode cX11_apply 66 = .ok (.imul, 1) := by decide +kernel
theorem dX11_apply_67 : decode cX11_apply 67 = .ok (.iload 4, 2) := by decide +kernel
theorem dX11_apply_69 : decode cX11_apply 69 = .ok (.iadd, 1) := by decide +kernel
theorem dX11_apply_70 : decode cX11_apply 70 = .ok (.iaload, 1) := by decide +kernel
theorem dX11_apply_71 : decode cX11_apply 71 = .ok (.if_icmp .ne 7, 3) := by decide +kernel
theorem dX11_apply_74 : decode cX11_apply 74 = .ok (.iconst 0, 1) := by decide +kernel
theorem dX11_apply_75 : decode cX11_apply 75 = .ok (.goto 4, 3) := by decide +kernel
theorem dX11_apply_78 : decode cX11_apply 78 = .ok (.iconst 1, 1) := by decide +kernel
theorem dX11_apply_79 : decode cX11_apply 79 = .ok (.iadd, 1) := by decide +kernel
theorem dX11_apply_80 : decode cX11_apply 80 = .ok (.istore_n 3, 1) := by decide +kernel
theorem dX11_apply_81 : decode cX11_apply 81 = .ok (.aload_n 0, 1) := by decide +kernel
theorem dX11_apply_82 : decode cX11_apply 82 = .ok (.getfield 13, 3) := by decide +kernel
theorem dX11_apply_85 : decode cX11_apply 85 = .ok (.iload 4, 2) := by decide +kernel
theorem dX11_apply_87 : decode cX11_apply 87 = .ok (.aload_n 0, 1) := by decide +kernel
theorem dX11_apply_88 : decode cX11_apply 88 = .ok (.getfield 70, 3) := by decide +kernel
theorem dX11_apply_91 : decode cX11_apply 91 = .ok (.iconst 3, 1) := by decide +kernel
theorem dX11_apply_92 : decode cX11_apply 92 = .ok (.iload_n 2, 1) := by decide +kernel
theorem dX11_apply_93 : decode cX11_apply 93 = .ok (.imul, 1) := by decide +kernel
theorem dX11_apply_94 : decode cX11_apply 94 = .ok (.iload 4, 2) := by decide +kernel
theorem dX11_apply_96 : decode cX11_apply 96 = .ok (.iadd, 1) := by decide +kernel
theorem dX11_apply_97 : decode cX11_apply 97 = .ok (.iaload, 1) := by decide +kernel
theorem dX11_apply_98 : decode cX11_apply 98 = .ok (.iastore, 1) := by decide +kernel
theorem dX11_apply_99 : decode cX11_apply 99 = .ok (.iinc 4 1, 3) := by decide +kernel
theorem dX11_apply_102 : decode cX11_apply 102 = .ok (.goto (-56), 3) := by decide +kernel
theorem dX11_apply_105 : decode cX11_apply 105 = .ok (.iload_n 3, 1) := by decide +kernel
theorem dX11_apply_106 : decode cX11_apply 106 = .ok (.ireturn, 1) := by decide +kernel
theorem dX11_lowest_0 : decode cX11_lowest 0 = .ok (.aload_n 0, 1) := by decide +kernel
theorem dX11_lowest_1 : decode cX11_lowest 1 = .ok (.iload_n 1, 1) := by decide +kernel
theorem dX11_lowest_2 : decode cX11_lowest 2 = .ok (.i2l, 1) := by decide +kernel
theorem dX11_lowest_3 : decode cX11_lowest 3 = .ok (.lconst 0, 1) := by decide +kernel
theorem dX11_lowest_4 : decode cX11_lowest 4 = .ok (.ldc2_w 297, 3) := by decide +kernel
theorem dX11_lowest_7 : decode cX11_lowest 7 = .ok (.invokestatic 92, 3) := by decide +kernel
theorem dX11_lowest_10 : decode cX11_lowest 10 = .ok (.ifCond .eq 7, 3) := by decide +kernel
theorem dX11_lowest_13 : decode cX11_lowest 13 = .ok (.iconst 0, 1) := by decide +kernel
theorem dX11_lowest_14 : decode cX11_lowest 14 = .ok (.goto 4, 3) := by decide +kernel
theorem dX11_lowest_17 : decode cX11_lowest 17 = .ok (.iconst 1, 1) := by decide +kernel
theorem dX11_lowest_18 : decode cX11_lowest 18 = .ok (.putfield 3, 3) := by decide +kernel
theorem dX11_lowest_21 : decode cX11_lowest 21 = .ok (.aload_n 0, 1) := by decide +kernel
theorem dX11_lowest_22 : decode cX11_lowest 22 = .ok (.getfield 3, 3) := by decide +kernel
theorem dX11_lowest_25 : decode cX11_lowest 25 = .ok (.ifCond .eq 5, 3) := by decide +kernel
theorem dX11_lowest_28 : decode cX11_lowest 28 = .ok (.iconst 0, 1) := by decide +kernel
theorem dX11_lowest_29 : decode cX11_lowest 29 = .ok (.ireturn, 1) := by decide +kernel
theorem dX11_lowest_30 : decode cX11_lowest 30 = .ok (.aload_n 0, 1) := by decide +kernel
theorem dX11_lowest_31 : decode cX11_lowest 31 = .ok (.getfield 13, 3) := by decide +kernel
theorem dX11_lowest_34 : decode cX11_lowest 34 = .ok (.iload_n 1, 1) := by decide +kernel
theorem dX11_lowest_35 : decode cX11_lowest 35 = .ok (.iaload, 1) := by decide +kernel
theorem dX11_lowest_36 : decode cX11_lowest 36 = .ok (.istore 4, 2) := by decide +kernel
theorem dX11_lowest_38 : decode cX11_lowest 38 = .ok (.iload 4, 2) := by decide +kernel
theorem dX11_lowest_40 : decode cX11_lowest 40 = .ok (.iconst 1, 1) := by decide +kernel
theorem dX11_lowest_41 : decode cX11_lowest 41 = .ok (.iadd, 1) := by decide +kernel
theorem dX11_lowest_42 : decode cX11_lowest 42 = .ok (.istore 5, 2) := by decide +kernel
theorem dX11_lowest_44 : decode cX11_lowest 44 = .ok (.iconst 1, 1) := by decide +kernel
theorem dX11_lowest_45 : decode cX11_lowest 45 = .ok (.istore 6, 2) := by decide +kernel
theorem dX11_lowest_47 : decode cX11_lowest 47 = .ok (.iload 6, 2) := by decide +kernel
theorem dX11_lowest_49 : decode cX11_lowest 49 = .ok (.ifCond .eq 62, 3) := by decide +kernel
theorem dX11_lowest_52 : decode cX11_lowest 52 = .ok (.iload 5, 2) := by decide +kernel
theorem dX11_lowest_54 : decode cX11_lowest 54 = .ok (.aload_n 0, 1) := by decide +kernel
theorem dX11_lowest_55 : decode cX11_lowest 55 = .ok (.getfield 17, 3) := by decide +kernel
theorem dX11_lowest_58 : decode cX11_lowest 58 = .ok (.iload_n 1, 1) := by decide +kernel
theorem dX11_lowest_59 : decode cX11_lowest 59 = .ok (.iaload, 1) := by decide +kernel
theorem dX11_lowest_60 : decode cX11_lowest 60 = .ok (.if_icmp .le 51, 3) := by decide +kernel
theorem dX11_lowest_63 : decode cX11_lowest 63 = .ok (.aload_n 0, 1) := by decide +kernel
theorem dX11_lowest_64 : decode cX11_lowest 64 = .ok (.getfield 13, 3) := by decide +kernel
theorem dX11_lowest_67 : decode cX11_lowest 67 = .ok (.iload_n 1, 1) := by decide +kernel
theorem dX11_lowest_68 : decode cX11_lowest 68 = .ok (.iload 5, 2) := by decide +kernel
theorem dX11_lowest_70 : decode cX11_lowest 70 = .ok (.iconst 1, 1) := by decide +kernel
theorem dX11_lowest_71 : decode cX11_lowest 71 = .ok (.isub, 1) := by decide +kernel
theorem dX11_lowest_72 : decode cX11_lowest 72 = .ok (.iastore, 1) := by decide +kernel
theorem dX11_lowest_73 : decode cX11_lowest 73 = .ok (.aload_n 0, 1) := by decide +kernel
theorem dX11_lowest_74 : decode cX11_lowest 74 = .ok (.invokevirtual 242, 3) := by decide +kernel
theorem dX11_lowest_77 : decode cX11_lowest 77 = .ok (.aload_n 0, 1) := by decide +kernel
theorem dX11_lowest_78 : decode cX11_lowest 78 = .ok (.invokevirtual 255, 3) := by decide +kernel
theorem dX11_lowest_81 : decode cX11_lowest 81 = .ok (.lload_n 2, 1) := by decide +kernel
theorem dX11_lowest_82 : decode cX11_lowest 82 = .ok (.lcmp, 1) := by decide +kernel
theorem dX11_lowest_83 : decode cX11_lowest 83 = .ok (.ifCond .gt 7, 3) := by decide +kernel
theorem dX11_lowest_86 : decode cX11_lowest 86 = .ok (.iconst 1, 1) := by decide +kernel
theorem dX11_lowest_87 : decode cX11_lowest 87 = .ok (.goto 4, 3) := by decide +kernel
theorem dX11_lowest_90 : decode cX11_lowest 90 = .ok (.iconst 0, 1) := by decide +kernel
theorem dX11_lowest_91 : decode cX11_lowest 91 = .ok (.istore 6, 2) := by decide +kernel
theorem dX11_lowest_93 : decode cX11_lowest 93 = .ok (.iload 5, 2) := by decide +kernel
theorem dX11_lowest_95 : decode cX11_lowest 95 = .ok (.iload 6, 2) := by decide +kernel
theorem dX11_lowest_97 : decode cX11_lowest 97 = .ok (.ifCond .eq 7, 3) := by decide +kernel
theorem dX11_lowest_100 : decode cX11_lowest 100 = .ok (.iconst 1, 1) := by decide +kernel
theorem dX11_lowest_101 : decode cX11_lowest 101 = .ok (.goto 4, 3) := by decide +kernel
theorem dX11_lowest_104 : decode cX11_lowest 104 = .ok (.iconst 0, 1) := by decide +kernel
theorem dX11_lowest_105 : decode cX11_lowest 105 = .ok (.isub, 1) := by decide +kernel
theorem dX11_lowest_106 : decode cX11_lowest 106 = .ok (.istore 5, 2) := by decide +kernel
theorem dX11_lowest_108 : decode cX11_lowest 108 = .ok (.goto (-61), 3) := by decide +kernel
theorem dX11_lowest_111 : decode cX11_lowest 111 = .ok (.aload_n 0, 1) := by decide +kernel
theorem dX11_lowest_112 : decode cX11_lowest 112 = .ok (.getfield 13, 3) := by decide +kernel
theorem dX11_lowest_115 : decode cX11_lowest 115 = .ok (.iload_n 1, 1) := by decide +kernel
theorem dX11_lowest_116 : decode cX11_lowest 116 = .ok (.iload 4, 2) := by decide +kernel
theorem dX11_lowest_118 : decode cX11_lowest 118 = .ok (.iastore, 1) := by decide +kernel
theorem dX11_lowest_119 : decode cX11_lowest 119 = .ok (.aload_n 0, 1) := by decide +kernel
theorem dX11_lowest_120 : decode cX11_lowest 120 = .ok (.iload 5, 2) := by decide +kernel
theorem dX11_lowest_122 : decode cX11_lowest 122 = .ok (.iload 4, 2) := by decide +kernel
theorem dX11_lowest_124 : decode cX11_lowest 124 = .ok (.if_icmp .le 7, 3) := by decide +kernel
theorem dX11_lowest_127 : decode cX11_lowest 127 = .ok (.iconst 2, 1) := by decide +kernel
theorem dX11_lowest_128 : decode cX11_lowest 128 = .ok (.goto 4, 3) := by decide +kernel
theorem dX11_lowest_131 : decode cX11_lowest 131 = .ok (.iconst 0, 1) := by decide +kernel
theorem dX11_lowest_132 : decode cX11_lowest 132 = .ok (.putfield 3, 3) := by decide +kernel
theorem dX11_lowest_135 : decode cX11_lowest 135 = .ok (.aload_n 0, 1) := by decide +kernel
theorem dX11_lowest_136 : decode cX11_lowest 136 = .ok (.getfield 3, 3) := by decide +kernel
theorem dX11_lowest_139 : decode cX11_lowest 139 = .ok (.ifCond .ne 8, 3) := by decide +kernel
theorem dX11_lowest_142 : decode cX11_lowest 142 = .ok (.iload 5, 2) := by decide +kernel
theorem dX11_lowest_144 : decode cX11_lowest 144 = .ok (.goto 4, 3) := by decide +kernel
theorem dX11_lowest_147 : decode cX11_lowest 147 = .ok (.iconst 0, 1) := by decide +kernel
theorem dX11_lowest_148 : decode cX11_lowest 148 = .ok (.ireturn, 1) := by decide +kernel
theorem dX11_count_0 : decode cX11_count 0 = .ok (.aload_n 0, 1) := by decide +kernel
theorem dX11_count_1 : decode cX11_count 1 = .ok (.iload_n 1, 1) := by decide +kernel
theorem dX11_count_2 : decode cX11_count 2 = .ok (.i2l, 1) := by decide +kernel
theorem dX11_count_3 : decode cX11_count 3 = .ok (.lconst 0, 1) := by decide +kernel
theorem dX11_count_4 : decode cX11_count 4 = .ok (.ldc2_w 250, 3) := by decide +kernel
theorem dX11_count_7 : decode cX11_count 7 = .ok (.invokestatic 92, 3) := by decide +kernel
theorem dX11_count_10 : decode cX11_count 10 = .ok (.ifCond .eq 7, 3) := by decide +kernel
theorem dX11_count_13 : decode cX11_count 13 = .ok (.iconst 0, 1) := by decide +kernel
theorem dX11_count_14 : decode cX11_count 14 = .ok (.goto 4, 3) := by decide +kernel
theorem dX11_count_17 : decode cX11_count 17 = .ok (.iconst 1, 1) := by decide +kernel
theorem dX11_count_18 : decode cX11_count 18 = .ok (.putfield 3, 3) := by decide +kernel
theorem dX11_count_21 : decode cX11_count 21 = .ok (.aload_n 0, 1) := by decide +kernel
theorem dX11_count_22 : decode cX11_count 22 = .ok (.getfield 3, 3) := by decide +kernel
theorem dX11_count_25 : decode cX11_count 25 = .ok (.ifCond .eq 5, 3) := by decide +kernel
theorem dX11_count_28 : decode cX11_count 28 = .ok (.iconst 0, 1) := by decide +kernel
theorem dX11_count_29 : decode cX11_count 29 = .ok (.ireturn, 1) := by decide +kernel
theorem dX11_count_30 : decode cX11_count 30 = .ok (.iconst 0, 1) := by decide +kernel
theorem dX11_count_31 : decode cX11_count 31 = .ok (.istore_n 2, 1) := by decide +kernel
theorem dX11_count_32 : decode cX11_count 32 = .ok (.iconst 0, 1) := by decide +kernel
theorem dX11_count_33 : decode cX11_count 33 = .ok (.istore_n 3, 1) := by decide +kernel
theorem dX11_count_34 : decode cX11_count 34 = .ok (.iload_n 3, 1) := by decide +kernel
theorem dX11_count_35 : decode cX11_count 35 = .ok (.aload_n 0, 1) := by decide +kernel
theorem dX11_count_36 : decode cX11_count 36 = .ok (.getfield 13, 3) := by decide +kernel
theorem dX11_count_39 : decode cX11_count 39 = .ok (.bipush 40, 2) := by decide +kernel
theorem dX11_count_41 : decode cX11_count 41 = .ok (.iaload, 1) := by decide +kernel
theorem dX11_count_42 : decode cX11_count 42 = .ok (.if_icmp .ge 25, 3) := by decide +kernel
theorem dX11_count_45 : decode cX11_count 45 = .ok (.iload_n 2, 1) := by decide +kernel
theorem dX11_count_46 : decode cX11_count 46 = .ok (.aload_n 0, 1) := by decide +kernel
theorem dX11_count_47 : decode cX11_count 47 = .ok (.getfield 13, 3) := by decide +kernel
theorem dX11_count_50 : decode cX11_count 50 = .ok (.bipush 41, 2) := by decide +kernel
theorem dX11_count_52 : decode cX11_count 52 = .ok (.iconst 3, 1) := by decide +kernel
theorem dX11_count_53 : decode cX11_count 53 = .ok (.iload_n 3, 1) := by decide +kernel
theorem dX11_count_54 : decode cX11_count 54 = .ok (.imul, 1) := by decide +kernel
theorem dX11_count_55 : decode cX11_count 55 = .ok (.iadd, 1) := by decide +kernel
theorem dX11_count_56 : decode cX11_count 56 = .ok (.iconst 1, 1) := by decide +kernel
theorem dX11_count_57 : decode cX11_count 57 = .ok (.iadd, 1) := by decide +kernel
theorem dX11_count_58 : decode cX11_count 58 = .ok (.iaload, 1) := by decide +kernel
theorem dX11_count_59 : decode cX11_count 59 = .ok (.iadd, 1) := by decide +kernel
theorem dX11_count_60 : decode cX11_count 60 = .ok (.istore_n 2, 1) := by decide +kernel
theorem dX11_count_61 : decode cX11_count 61 = .ok (.iinc 3 1, 3) := by decide +kernel
theorem dX11_count_64 : decode cX11_count 64 = .ok (.goto (-30), 3) := by decide +kernel
theorem dX11_count_67 : decode cX11_count 67 = .ok (.iload_n 1, 1) := by decide +kernel
theorem dX11_count_68 : decode cX11_count 68 = .ok (.tableswitch 82 0 6 #[44, 52, 60, 65, 70, 72, 77], 44) := by decide +kernel
theorem dX11_count_112 : decode cX11_count 112 = .ok (.aload_n 0, 1) := by decide +kernel
theorem dX11_count_113 : decode cX11_count 113 = .ok (.getfield 13, 3) := by decide +kernel
theorem dX11_count_116 : decode cX11_count 116 = .ok (.bipush 40, 2) := by decide +kernel
theorem dX11_count_118 : decode cX11_count 118 = .ok (.iaload, 1) := by decide +kernel
theorem dX11_count_119 : decode cX11_count 119 = .ok (.ireturn, 1) := by decide +kernel
theorem dX11_count_120 : decode cX11_count 120 = .ok (.aload_n 0, 1) := by decide +kernel
theorem dX11_count_121 : decode cX11_count 121 = .ok (.getfield 13, 3) := by decide +kernel
theorem dX11_count_124 : decode cX11_count 124 = .ok (.bipush 65, 2) := by decide +kernel
theorem dX11_count_126 : decode cX11_count 126 = .ok (.iaload, 1) := by decide +kernel
theorem dX11_count_127 : decode cX11_count 127 = .ok (.ireturn, 1) := by decide +kernel
theorem dX11_count_128 : decode cX11_count 128 = .ok (.aload_n 0, 1) := by decide +kernel
theorem dX11_count_129 : decode cX11_count 129 = .ok (.invokevirtual 99, 3) := by decide +kernel
theorem dX11_count_132 : decode cX11_count 132 = .ok (.ireturn, 1) := by decide +kernel
theorem dX11_count_133 : decode cX11_count 133 = .ok (.aload_n 0, 1) := by decide +kernel
theorem dX11_count_134 : decode cX11_count 134 = .ok (.invokevirtual 139, 3) := by decide +kernel
theorem dX11_count_137 : decode cX11_count 137 = .ok (.ireturn, 1) := by decide +kernel
theorem dX11_count_138 : decode cX11_count 138 = .ok (.iload_n 2, 1) := by decide +kernel
theorem dX11_count_139 : decode cX11_count 139 = .ok (.ireturn, 1) := by decide +kernel
theorem dX11_count_140 : decode cX11_count 140 = .ok (.aload_n 0, 1) := by decide +kernel
theorem dX11_count_141 : decode cX11_count 141 = .ok (.getfield 146, 3) := by decide +kernel
theorem dX11_count_144 : decode cX11_count 144 = .ok (.ireturn, 1) := by decide +kernel
theorem dX11_count_145 : decode cX11_count 145 = .ok (.aload_n 0, 1) := by decide +kernel
theorem dX11_count_146 : decode cX11_count 146 = .ok (.getfield 83, 3) := by decide +kernel
theorem dX11_count_149 : decode cX11_count 149 = .ok (.ireturn, 1) := by decide +kernel
theorem dX11_count_150 : decode cX11_count 150 = .ok (.aload_n 0, 1) := by decide +kernel
theorem dX11_count_151 : decode cX11_count 151 = .ok (.getfield 235, 3) := by decide +kernel
theorem dX11_count_154 : decode cX11_count 154 = .ok (.ifCond .eq 10, 3) := by decide +kernel
theorem dX11_count_157 : decode cX11_count 157 = .ok (.aload_n 0, 1) := by decide +kernel
theorem dX11_count_158 : decode cX11_count 158 = .ok (.getfield 239, 3) := by decide +kernel
theorem dX11_count_161 : decode cX11_count 161 = .ok (.goto 4, 3) := by decide +kernel
theorem dX11_count_164 : decode cX11_count 164 = .ok (.iconst 0, 1) := by decide +kernel
theorem dX11_count_165 : decode cX11_count 165 = .ok (.ireturn, 1) := by decide +kernel
theorem dX11_undo_0 : decode cX11_undo 0 = .ok (.aload_n 0, 1) := by decide +kernel
theorem dX11_undo_1 : decode cX11_undo 1 = .ok (.aload_n 0, 1) := by decide +kernel
theorem dX11_undo_2 : decode cX11_undo 2 = .ok (.getfield 83, 3) := by decide +kernel
theorem dX11_undo_5 : decode cX11_undo 5 = .ok (.ifCond .ne 7, 3) := by decide +kernel
theorem dX11_undo_8 : decode cX11_undo 8 = .ok (.iconst 1, 1) := by decide +kernel
theorem dX11_undo_9 : decode cX11_undo 9 = .ok (.goto 4, 3) := by decide +kernel
theorem dX11_undo_12 : decode cX11_undo 12 = .ok (.iconst 0, 1) := by decide +kernel
theorem dX11_undo_13 : decode cX11_undo 13 = .ok (.putfield 3, 3) := by decide +kernel
theorem dX11_undo_16 : decode cX11_undo 16 = .ok (.aload_n 0, 1) := by decide +kernel
theorem dX11_undo_17 : decode cX11_undo 17 = .ok (.getfield 3, 3) := by decide +kernel
theorem dX11_undo_20 : decode cX11_undo 20 = .ok (.ifCond .eq 5, 3) := by decide +kernel
theorem dX11_undo_23 : decode cX11_undo 23 = .ok (.iconst 0, 1) := by decide +kernel
theorem dX11_undo_24 : decode cX11_undo 24 = .ok (.ireturn, 1) := by decide +kernel
theorem dX11_undo_25 : decode cX11_undo 25 = .ok (.aload_n 0, 1) := by decide +kernel
theorem dX11_undo_26 : decode cX11_undo 26 = .ok (.aload_n 0, 1) := by decide +kernel
theorem dX11_undo_27 : decode cX11_undo 27 = .ok (.getfield 83, 3) := by decide +kernel
theorem dX11_undo_30 : decode cX11_undo 30 = .ok (.iconst 0, 1) := by decide +kernel
theorem dX11_undo_31 : decode cX11_undo 31 = .ok (.invokevirtual 86, 3) := by decide +kernel
theorem dX11_undo_34 : decode cX11_undo 34 = .ok (.aload_n 0, 1) := by decide +kernel
theorem dX11_undo_35 : decode cX11_undo 35 = .ok (.dup, 1) := by decide +kernel
theorem dX11_undo_36 : decode cX11_undo 36 = .ok (.getfield 83, 3) := by decide +kernel
theorem dX11_undo_39 : decode cX11_undo 39 = .ok (.iconst 1, 1) := by decide +kernel
theorem dX11_undo_40 : decode cX11_undo 40 = .ok (.isub, 1) := by decide +kernel
theorem dX11_undo_41 : decode cX11_undo 41 = .ok (.putfield 83, 3) := by decide +kernel
theorem dX11_undo_44 : decode cX11_undo 44 = .ok (.aload_n 0, 1) := by decide +kernel
theorem dX11_undo_45 : decode cX11_undo 45 = .ok (.getfield 83, 3) := by decide +kernel
theorem dX11_undo_48 : decode cX11_undo 48 = .ok (.ireturn, 1) := by decide +kernel
theorem dX11_save_0 : decode cX11_save 0 = .ok (.aload_n 0, 1) := by decide +kernel
theorem dX11_save_1 : decode cX11_save 1 = .ok (.iconst 0, 1) := by decide +kernel
theorem dX11_save_2 : decode cX11_save 2 = .ok (.putfield 3, 3) := by decide +kernel
theorem dX11_save_5 : decode cX11_save 5 = .ok (.aload_n 0, 1) := by decide +kernel
theorem dX11_save_6 : decode cX11_save 6 = .ok (.iconst 1, 1) := by decide +kernel
theorem dX11_save_7 : decode cX11_save 7 = .ok (.putfield 299, 3) := by decide +kernel
theorem dX11_save_10 : decode cX11_save 10 = .ok (.aload_n 0, 1) := by decide +kernel
theorem dX11_save_11 : decode cX11_save 11 = .ok (.iconst 0, 1) := by decide +kernel
theorem dX11_save_12 : decode cX11_save 12 = .ok (.bipush 7, 2) := by decide +kernel
theorem dX11_save_14 : decode cX11_save 14 = .ok (.invokevirtual 86, 3) := by decide +kernel
theorem dX11_save_17 : decode cX11_save 17 = .ok (.aload_n 0, 1) := by decide +kernel
theorem dX11_save_18 : decode cX11_save 18 = .ok (.getfield 13, 3) := by decide +kernel
theorem dX11_save_21 : decode cX11_save 21 = .ok (.bipush 40, 2) := by decide +kernel
theorem dX11_save_23 : decode cX11_save 23 = .ok (.iaload, 1) := by decide +kernel
theorem dX11_save_24 : decode cX11_save 24 = .ok (.ireturn, 1) := by decide +kernel
theorem dX11_restore_0 : decode cX11_restore 0 = .ok (.aload_n 0, 1) := by decide +kernel
theorem dX11_restore_1 : decode cX11_restore 1 = .ok (.aload_n 0, 1) := by decide +kernel
theorem dX11_restore_2 : decode cX11_restore 2 = .ok (.getfield 299, 3) := by decide +kernel
theorem dX11_restore_5 : decode cX11_restore 5 = .ok (.ifCond .eq 7, 3) := by decide +kernel
theorem dX11_restore_8 : decode cX11_restore 8 = .ok (.iconst 0, 1) := by decide +kernel
theorem dX11_restore_9 : decode cX11_restore 9 = .ok (.goto 4, 3) := by decide +kernel
theorem dX11_restore_12 : decode cX11_restore 12 = .ok (.iconst 1, 1) := by decide +kernel
theorem dX11_restore_13 : decode cX11_restore 13 = .ok (.putfield 3, 3) := by decide +kernel
theorem dX11_restore_16 : decode cX11_restore 16 = .ok (.aload_n 0, 1) := by decide +kernel
theorem dX11_restore_17 : decode cX11_restore 17 = .ok (.getfield 3, 3) := by decide +kernel
theorem dX11_restore_20 : decode cX11_restore 20 = .ok (.ifCond .eq 5, 3) := by decide +kernel
theorem dX11_restore_23 : decode cX11_restore 23 = .ok (.iconst 0, 1) := by decide +kernel
theorem dX11_restore_24 : decode cX11_restore 24 = .ok (.ireturn, 1) := by decide +kernel
theorem dX11_restore_25 : decode cX11_restore 25 = .ok (.aload_n 0, 1) := by decide +kernel
theorem dX11_restore_26 : decode cX11_restore 26 = .ok (.invokevirtual 96, 3) := by decide +kernel
theorem dX11_restore_29 : decode cX11_restore 29 = .ok (.aload_n 0, 1) := by decide +kernel
theorem dX11_restore_30 : decode cX11_restore 30 = .ok (.bipush 7, 2) := by decide +kernel
theorem dX11_restore_32 : decode cX11_restore 32 = .ok (.iconst 0, 1) := by decide +kernel
theorem dX11_restore_33 : decode cX11_restore 33 = .ok (.invokevirtual 86, 3) := by decide +kernel
theorem dX11_restore_36 : decode cX11_restore 36 = .ok (.aload_n 0, 1) := by decide +kernel
theorem dX11_restore_37 : decode cX11_restore 37 = .ok (.getfield 13, 3) := by decide +kernel
theorem dX11_restore_40 : decode cX11_restore 40 = .ok (.bipush 40, 2) := by decide +kernel
theorem dX11_restore_42 : decode cX11_restore 42 = .ok (.iaload, 1) := by decide +kernel
theorem dX11_restore_43 : decode cX11_restore 43 = .ok (.ireturn, 1) := by decide +kernel
theorem dL_set_0 : decode cL_set 0 = .ok (.aload_n 3, 1) := by decide +kernel
theorem dL_set_1 : decode cL_set 1 = .ok (.iconst 0, 1) := by decide +kernel
theorem dL_set_2 : decode cL_set 2 = .ok (.aload_n 0, 1) := by decide +kernel
theorem dL_set_3 : decode cL_set 3 = .ok (.iload_n 1, 1) := by decide +kernel
theorem dL_set_4 : decode cL_set 4 = .ok (.iload_n 2, 1) := by decide +kernel
theorem dL_set_5 : decode cL_set 5 = .ok (.invokevirtual 7, 3) := by decide +kernel
theorem dL_set_8 : decode cL_set 8 = .ok (.i2l, 1) := by decide +kernel
theorem dL_set_9 : decode cL_set 9 = .ok (.lastore, 1) := by decide +kernel
theorem dL_set_10 : decode cL_set 10 = .ok (.goto 11, 3) := by decide +kernel
theorem dL_set_13 : decode cL_set 13 = .ok (.astore 4, 2) := by decide +kernel
theorem dL_set_15 : decode cL_set 15 = .ok (.iconst 1, 1) := by decide +kernel
theorem dL_set_16 : decode cL_set 16 = .ok (.ireturn, 1) := by decide +kernel
theorem dL_set_17 : decode cL_set 17 = .ok (.astore 4, 2) := by decide +kernel
theorem dL_set_19 : decode cL_set 19 = .ok (.iconst 2, 1) := by decide +kernel
theorem dL_set_20 : decode cL_set 20 = .ok (.ireturn, 1) := by decide +kernel
theorem dL_set_21 : decode cL_set 21 = .ok (.iconst 0, 1) := by decide +kernel
theorem dL_set_22 : decode cL_set 22 = .ok (.ireturn, 1) := by decide +kernel
theorem dL_setting_0 : decode cL_setting 0 = .ok (.aload_n 2, 1) := by decide +kernel
theorem dL_setting_1 : decode cL_setting 1 = .ok (.iconst 0, 1) := by decide +kernel
theorem dL_setting_2 : decode cL_setting 2 = .ok (.aload_n 0, 1) := by decide +kernel
theorem dL_setting_3 : decode cL_setting 3 = .ok (.iload_n 1, 1) := by decide +kernel
theorem dL_setting_4 : decode cL_setting 4 = .ok (.invokevirtual 17, 3) := by decide +kernel
theorem dL_setting_7 : decode cL_setting 7 = .ok (.i2l, 1) := by decide +kernel
theorem dL_setting_8 : decode cL_setting 8 = .ok (.lastore, 1) := by decide +kernel
theorem dL_setting_9 : decode cL_setting 9 = .ok (.goto 6, 3) := by decide +kernel
theorem dL_setting_12 : decode cL_setting 12 = .ok (.astore_n 3, 1) := by decide +kernel
theorem dL_setting_13 : decode cL_setting 13 = .ok (.iconst 1, 1) := by decide +kernel
theorem dL_setting_14 : decode cL_setting 14 = .ok (.ireturn, 1) := by decide +kernel
theorem dL_setting_15 : decode cL_setting 15 = .ok (.iconst 0, 1) := by decide +kernel
theorem dL_setting_16 : decode cL_setting 16 = .ok (.ireturn, 1) := by decide +kernel
theorem dL_setPoint_0 : decode cL_setPoint 0 = .ok (.aload_n 3, 1) := by decide +kernel
theorem dL_setPoint_1 : decode cL_setPoint 1 = .ok (.iconst 0, 1) := by decide +kernel
theorem dL_setPoint_2 : decode cL_setPoint 2 = .ok (.aload_n 0, 1) := by decide +kernel
theorem dL_setPoint_3 : decode cL_setPoint 3 = .ok (.iload_n 1, 1) := by decide +kernel
theorem dL_setPoint_4 : decode cL_setPoint 4 = .ok (.iload_n 2, 1) := by decide +kernel
theorem dL_setPoint_5 : decode cL_setPoint 5 = .ok (.invokevirtual 21, 3) := by decide +kernel
theorem dL_setPoint_8 : decode cL_setPoint 8 = .ok (.i2l, 1) := by decide +kernel
theorem dL_setPoint_9 : decode cL_setPoint 9 = .ok (.lastore, 1) := by decide +kernel
theorem dL_setPoint_10 : decode cL_setPoint 10 = .ok (.goto 11, 3) := by decide +kernel
theorem dL_setPoint_13 : decode cL_setPoint 13 = .ok (.astore 4, 2) := by decide +kernel
theorem dL_setPoint_15 : decode cL_setPoint 15 = .ok (.iconst 1, 1) := by decide +kernel
theorem dL_setPoint_16 : decode cL_setPoint 16 = .ok (.ireturn, 1) := by decide +kernel
theorem dL_setPoint_17 : decode cL_setPoint 17 = .ok (.astore 4, 2) := by decide +kernel
theorem dL_setPoint_19 : decode cL_setPoint 19 = .ok (.iconst 2, 1) := by decide +kernel
theorem dL_setPoint_20 : decode cL_setPoint 20 = .ok (.ireturn, 1) := by decide +kernel
theorem dL_setPoint_21 : decode cL_setPoint 21 = .ok (.iconst 0, 1) := by decide +kernel
theorem dL_setPoint_22 : decode cL_setPoint 22 = .ok (.ireturn, 1) := by decide +kernel
theorem dL_removePoint_0 : decode cL_removePoint 0 = .ok (.aload_n 2, 1) := by decide +kernel
theorem dL_removePoint_1 : decode cL_removePoint 1 = .ok (.iconst 0, 1) := by decide +kernel
theorem dL_removePoint_2 : decode cL_removePoint 2 = .ok (.aload_n 0, 1) := by decide +kernel
theorem dL_removePoint_3 : decode cL_removePoint 3 = .ok (.iload_n 1, 1) := by decide +kernel
theorem dL_removePoint_4 : decode cL_removePoint 4 = .ok (.invokevirtual 26, 3) := by decide +kernel
theorem dL_removePoint_7 : decode cL_removePoint 7 = .ok (.i2l, 1) := by decide +kernel
theorem dL_removePoint_8 : decode cL_removePoint 8 = .ok (.lastore, 1) := by decide +kernel
theorem dL_removePoint_9 : decode cL_removePoint 9 = .ok (.goto 6, 3) := by decide +kernel
theorem dL_removePoint_12 : decode cL_removePoint 12 = .ok (.astore_n 3, 1) := by decide +kernel
theorem dL_removePoint_13 : decode cL_removePoint 13 = .ok (.iconst 1, 1) := by decide +kernel
theorem dL_removePoint_14 : decode cL_removePoint 14 = .ok (.ireturn, 1) := by decide +kernel
theorem dL_removePoint_15 : decode cL_removePoint 15 = .ok (.iconst 0, 1) := by decide +kernel
theorem dL_removePoint_16 : decode cL_removePoint 16 = .ok (.ireturn, 1) := by decide +kernel
theorem dL_point_0 : decode cL_point 0 = .ok (.aload_n 3, 1) := by decide +kernel
theorem dL_point_1 : decode cL_point 1 = .ok (.iconst 0, 1) := by decide +kernel
theorem dL_point_2 : decode cL_point 2 = .ok (.aload_n 0, 1) := by decide +kernel
theorem dL_point_3 : decode cL_point 3 = .ok (.iload_n 1, 1) := by decide +kernel
theorem dL_point_4 : decode cL_point 4 = .ok (.iload_n 2, 1) := by decide +kernel
theorem dL_point_5 : decode cL_point 5 = .ok (.invokevirtual 31, 3) := by decide +kernel
theorem dL_point_8 : decode cL_point 8 = .ok (.i2l, 1) := by decide +kernel
theorem dL_point_9 : decode cL_point 9 = .ok (.lastore, 1) := by decide +kernel
theorem dL_point_10 : decode cL_point 10 = .ok (.goto 11, 3) := by decide +kernel
theorem dL_point_13 : decode cL_point 13 = .ok (.astore 4, 2) := by decide +kernel
theorem dL_point_15 : decode cL_point 15 = .ok (.iconst 1, 1) := by decide +kernel
theorem dL_point_16 : decode cL_point 16 = .ok (.ireturn, 1) := by decide +kernel
theorem dL_point_17 : decode cL_point 17 = .ok (.astore 4, 2) := by decide +kernel
theorem dL_point_19 : decode cL_point 19 = .ok (.iconst 2, 1) := by decide +kernel
theorem dL_point_20 : decode cL_point 20 = .ok (.ireturn, 1) := by decide +kernel
theorem dL_point_21 : decode cL_point 21 = .ok (.iconst 0, 1) := by decide +kernel
theorem dL_point_22 : decode cL_point 22 = .ok (.ireturn, 1) := by decide +kernel
theorem dL_table_0 : decode cL_table 0 = .ok (.aload_n 2, 1) := by decide +kernel
theorem dL_table_1 : decode cL_table 1 = .ok (.iconst 0, 1) := by decide +kernel
theorem dL_table_2 : decode cL_table 2 = .ok (.aload_n 0, 1) := by decide +kernel
theorem dL_table_3 : decode cL_table 3 = .ok (.iload_n 1, 1) := by decide +kernel
theorem dL_table_4 : decode cL_table 4 = .ok (.invokevirtual 34, 3) := by decide +kernel
theorem dL_table_7 : decode cL_table 7 = .ok (.i2l, 1) := by decide +kernel
theorem dL_table_8 : decode cL_table 8 = .ok (.lastore, 1) := by decide +kernel
theorem dL_table_9 : decode cL_table 9 = .ok (.goto 6, 3) := by decide +kernel
theorem dL_table_12 : decode cL_table 12 = .ok (.astore_n 3, 1) := by decide +kernel
theorem dL_table_13 : decode cL_table 13 = .ok (.iconst 1, 1) := by decide +kernel
theorem dL_table_14 : decode cL_table 14 = .ok (.ireturn, 1) := by decide +kernel
theorem dL_table_15 : decode cL_table 15 = .ok (.iconst 0, 1) := by decide +kernel
theorem dL_table_16 : decode cL_table 16 = .ok (.ireturn, 1) := by decide +kernel
theorem dL_setWeight_0 : decode cL_setWeight 0 = .ok (.aload_n 3, 1) := by decide +kernel
theorem dL_setWeight_1 : decode cL_setWeight 1 = .ok (.iconst 0, 1) := by decide +kernel
theorem dL_setWeight_2 : decode cL_setWeight 2 = .ok (.aload_n 0, 1) := by decide +kernel
theorem dL_setWeight_3 : decode cL_setWeight 3 = .ok (.iload_n 1, 1) := by decide +kernel
theorem dL_setWeight_4 : decode cL_setWeight 4 = .ok (.iload_n 2, 1) := by decide +kernel
theorem dL_setWeight_5 : decode cL_setWeight 5 = .ok (.invokevirtual 37, 3) := by decide +kernel
theorem dL_setWeight_8 : decode cL_setWeight 8 = .ok (.i2l, 1) := by decide +kernel
theorem dL_setWeight_9 : decode cL_setWeight 9 = .ok (.lastore, 1) := by decide +kernel
theorem dL_setWeight_10 : decode cL_setWeight 10 = .ok (.goto 11, 3) := by decide +kernel
theorem dL_setWeight_13 : decode cL_setWeight 13 = .ok (.astore 4, 2) := by decide +kernel
theorem dL_setWeight_15 : decode cL_setWeight 15 = .ok (.iconst 1, 1) := by decide +kernel
theorem dL_setWeight_16 : decode cL_setWeight 16 = .ok (.ireturn, 1) := by decide +kernel
theorem dL_setWeight_17 : decode cL_setWeight 17 = .ok (.astore 4, 2) := by decide +kernel
theorem dL_setWeight_19 : decode cL_setWeight 19 = .ok (.iconst 2, 1) := by decide +kernel
theorem dL_setWeight_20 : decode cL_setWeight 20 = .ok (.ireturn, 1) := by decide +kernel
theorem dL_setWeight_21 : decode cL_setWeight 21 = .ok (.iconst 0, 1) := by decide +kernel
theorem dL_setWeight_22 : decode cL_setWeight 22 = .ok (.ireturn, 1) := by decide +kernel
theorem dL_setGrid_0 : decode cL_setGrid 0 = .ok (.aload 5, 2) := by decide +kernel
theorem dL_setGrid_2 : decode cL_setGrid 2 = .ok (.iconst 0, 1) := by decide +kernel
theorem dL_setGrid_3 : decode cL_setGrid 3 = .ok (.aload_n 0, 1) := by decide +kernel
theorem dL_setGrid_4 : decode cL_setGrid 4 = .ok (.iload_n 1, 1) := by decide +kernel
theorem dL_setGrid_5 : decode cL_setGrid 5 = .ok (.iload_n 2, 1) := by decide +kernel
theorem dL_setGrid_6 : decode cL_setGrid 6 = .ok (.iload_n 3, 1) := by decide +kernel
theorem dL_setGrid_7 : decode cL_setGrid 7 = .ok (.iload 4, 2) := by decide +kernel
theorem dL_setGrid_9 : decode cL_setGrid 9 = .ok (.invokevirtual 40, 3) := by decide +kernel
theorem dL_setGrid_12 : decode cL_setGrid 12 = .ok (.i2l, 1) := by decide +kernel
theorem dL_setGrid_13 : decode cL_setGrid 13 = .ok (.lastore, 1) := by decide +kernel
theorem dL_setGrid_14 : decode cL_setGrid 14 = .ok (.goto 11, 3) := by decide +kernel
theorem dL_setGrid_17 : decode cL_setGrid 17 = .ok (.astore 6, 2) := by decide +kernel
theorem dL_setGrid_19 : decode cL_setGrid 19 = .ok (.iconst 1, 1) := by decide +kernel
theorem dL_setGrid_20 : decode cL_setGrid 20 = .ok (.ireturn, 1) := by decide +kernel
theorem dL_setGrid_21 : decode cL_setGrid 21 = .ok (.astore 6, 2) := by decide +kernel
theorem dL_setGrid_23 : decode cL_setGrid 23 = .ok (.iconst 2, 1) := by decide +kernel
theorem dL_setGrid_24 : decode cL_setGrid 24 = .ok (.ireturn, 1) := by decide +kernel
theorem dL_setGrid_25 : decode cL_setGrid 25 = .ok (.iconst 0, 1) := by decide +kernel
theorem dL_setGrid_26 : decode cL_setGrid 26 = .ok (.ireturn, 1) := by decide +kernel
theorem dL_append_0 : decode cL_append 0 = .ok (.aload_n 2, 1) := by decide +kernel
theorem dL_append_1 : decode cL_append 1 = .ok (.iconst 0, 1) := by decide +kernel
theorem dL_append_2 : decode cL_append 2 = .ok (.aload_n 0, 1) := by decide +kernel
theorem dL_append_3 : decode cL_append 3 = .ok (.iload_n 1, 1) := by decide +kernel
theorem dL_append_4 : decode cL_append 4 = .ok (.invokevirtual 44, 3) := by decide +kernel
theorem dL_append_7 : decode cL_append 7 = .ok (.i2l, 1) := by decide +kernel
theorem dL_append_8 : decode cL_append 8 = .ok (.lastore, 1) := by decide +kernel
theorem dL_append_9 : decode cL_append 9 = .ok (.goto 9, 3) := by decide +kernel
theorem dL_append_12 : decode cL_append 12 = .ok (.astore_n 3, 1) := by decide +kernel
theorem dL_append_13 : decode cL_append 13 = .ok (.iconst 1, 1) := by decide +kernel
theorem dL_append_14 : decode cL_append 14 = .ok (.ireturn, 1) := by decide +kernel
theorem dL_append_15 : decode cL_append 15 = .ok (.astore_n 3, 1) := by decide +kernel
theorem dL_append_16 : decode cL_append 16 = .ok (.iconst 2, 1) := by decide +kernel
theorem dL_append_17 : decode cL_append 17 = .ok (.ireturn, 1) := by decide +kernel
theorem dL_append_18 : decode cL_append 18 = .ok (.iconst 0, 1) := by decide +kernel
theorem dL_append_19 : decode cL_append 19 = .ok (.ireturn, 1) := by decide +kernel
theorem dL_load_0 : decode cL_load 0 = .ok (.aload_n 1, 1) := by decide +kernel
theorem dL_load_1 : decode cL_load 1 = .ok (.iconst 0, 1) := by decide +kernel
theorem dL_load_2 : decode cL_load 2 = .ok (.aload_n 0, 1) := by decide +kernel
theorem dL_load_3 : decode cL_load 3 = .ok (.invokevirtual 47, 3) := by decide +kernel
theorem dL_load_6 : decode cL_load 6 = .ok (.i2l, 1) := by decide +kernel
theorem dL_load_7 : decode cL_load 7 = .ok (.lastore, 1) := by decide +kernel
theorem dL_load_8 : decode cL_load 8 = .ok (.goto 6, 3) := by decide +kernel
theorem dL_load_11 : decode cL_load 11 = .ok (.astore_n 2, 1) := by decide +kernel
theorem dL_load_12 : decode cL_load 12 = .ok (.iconst 1, 1) := by decide +kernel
theorem dL_load_13 : decode cL_load 13 = .ok (.ireturn, 1) := by decide +kernel
theorem dL_load_14 : decode cL_load 14 = .ok (.iconst 0, 1) := by decide +kernel
theorem dL_load_15 : decode cL_load 15 = .ok (.ireturn, 1) := by decide +kernel
theorem dL_describe_0 : decode cL_describe 0 = .ok (.aload_n 2, 1) := by decide +kernel
theorem dL_describe_1 : decode cL_describe 1 = .ok (.iconst 0, 1) := by decide +kernel
theorem dL_describe_2 : decode cL_describe 2 = .ok (.aload_n 0, 1) := by decide +kernel
theorem dL_describe_3 : decode cL_describe 3 = .ok (.iload_n 1, 1) := by decide +kernel
theorem dL_describe_4 : decode cL_describe 4 = .ok (.invokevirtual 51, 3) := by decide +kernel
theorem dL_describe_7 : decode cL_describe 7 = .ok (.i2l, 1) := by decide +kernel
theorem dL_describe_8 : decode cL_describe 8 = .ok (.lastore, 1) := by decide +kernel
theorem dL_describe_9 : decode cL_describe 9 = .ok (.goto 6, 3) := by decide +kernel
theorem dL_describe_12 : decode cL_describe 12 = .ok (.astore_n 3, 1) := by decide +kernel
theorem dL_describe_13 : decode cL_describe 13 = .ok (.iconst 1, 1) := by decide +kernel
theorem dL_describe_14 : decode cL_describe 14 = .ok (.ireturn, 1) := by decide +kernel
theorem dL_describe_15 : decode cL_describe 15 = .ok (.iconst 0, 1) := by decide +kernel
theorem dL_describe_16 : decode cL_describe 16 = .ok (.ireturn, 1) := by decide +kernel
theorem dL_curvature_0 : decode cL_curvature 0 = .ok (.aload_n 2, 1) := by decide +kernel
theorem dL_curvature_1 : decode cL_curvature 1 = .ok (.iconst 0, 1) := by decide +kernel
theorem dL_curvature_2 : decode cL_curvature 2 = .ok (.aload_n 0, 1) := by decide +kernel
theorem dL_curvature_3 : decode cL_curvature 3 = .ok (.iload_n 1, 1) := by decide +kernel
theorem dL_curvature_4 : decode cL_curvature 4 = .ok (.invokevirtual 54, 3) := by decide +kernel
theorem dL_curvature_7 : decode cL_curvature 7 = .ok (.i2l, 1) := by decide +kernel
theorem dL_curvature_8 : decode cL_curvature 8 = .ok (.lastore, 1) := by decide +kernel
theorem dL_curvature_9 : decode cL_curvature 9 = .ok (.goto 6, 3) := by decide +kernel
theorem dL_curvature_12 : decode cL_curvature 12 = .ok (.astore_n 3, 1) := by decide +kernel
theorem dL_curvature_13 : decode cL_curvature 13 = .ok (.iconst 1, 1) := by decide +kernel
theorem dL_curvature_14 : decode cL_curvature 14 = .ok (.ireturn, 1) := by decide +kernel
theorem dL_curvature_15 : decode cL_curvature 15 = .ok (.iconst 0, 1) := by decide +kernel
theorem dL_curvature_16 : decode cL_curvature 16 = .ok (.ireturn, 1) := by decide +kernel
theorem dL_push_0 : decode cL_push 0 = .ok (.aload_n 2, 1) := by decide +kernel
theorem dL_push_1 : decode cL_push 1 = .ok (.iconst 0, 1) := by decide +kernel
theorem dL_push_2 : decode cL_push 2 = .ok (.aload_n 0, 1) := by decide +kernel
theorem dL_push_3 : decode cL_push 3 = .ok (.iload_n 1, 1) := by decide +kernel
theorem dL_push_4 : decode cL_push 4 = .ok (.invokevirtual 57, 3) := by decide +kernel
theorem dL_push_7 : decode cL_push 7 = .ok (.i2l, 1) := by decide +kernel
theorem dL_push_8 : decode cL_push 8 = .ok (.lastore, 1) := by decide +kernel
theorem dL_push_9 : decode cL_push 9 = .ok (.goto 6, 3) := by decide +kernel
theorem dL_push_12 : decode cL_push 12 = .ok (.astore_n 3, 1) := by decide +kernel
theorem dL_push_13 : decode cL_push 13 = .ok (.iconst 1, 1) := by decide +kernel
theorem dL_push_14 : decode cL_push 14 = .ok (.ireturn, 1) := by decide +kernel
theorem dL_push_15 : decode cL_push 15 = .ok (.iconst 0, 1) := by decide +kernel
theorem dL_push_16 : decode cL_push 16 = .ok (.ireturn, 1) := by decide +kernel
theorem dL_trace_0 : decode cL_trace 0 = .ok (.aload_n 3, 1) := by decide +kernel
theorem dL_trace_1 : decode cL_trace 1 = .ok (.iconst 0, 1) := by decide +kernel
theorem dL_trace_2 : decode cL_trace 2 = .ok (.aload_n 0, 1) := by decide +kernel
theorem dL_trace_3 : decode cL_trace 3 = .ok (.iload_n 1, 1) := by decide +kernel
theorem dL_trace_4 : decode cL_trace 4 = .ok (.iload_n 2, 1) := by decide +kernel
theorem dL_trace_5 : decode cL_trace 5 = .ok (.invokevirtual 60, 3) := by decide +kernel
theorem dL_trace_8 : decode cL_trace 8 = .ok (.i2l, 1) := by decide +kernel
theorem dL_trace_9 : decode cL_trace 9 = .ok (.lastore, 1) := by decide +kernel
theorem dL_trace_10 : decode cL_trace 10 = .ok (.goto 15, 3) := by decide +kernel
theorem dL_trace_13 : decode cL_trace 13 = .ok (.astore 4, 2) := by decide +kernel
theorem dL_trace_15 : decode cL_trace 15 = .ok (.iconst 1, 1) := by decide +kernel
theorem dL_trace_16 : decode cL_trace 16 = .ok (.ireturn, 1) := by decide +kernel
theorem dL_trace_17 : decode cL_trace 17 = .ok (.astore 4, 2) := by decide +kernel
theorem dL_trace_19 : decode cL_trace 19 = .ok (.iconst 2, 1) := by decide +kernel
theorem dL_trace_20 : decode cL_trace 20 = .ok (.ireturn, 1) := by decide +kernel
theorem dL_trace_21 : decode cL_trace 21 = .ok (.astore 4, 2) := by decide +kernel
theorem dL_trace_23 : decode cL_trace 23 = .ok (.iconst 3, 1) := by decide +kernel
theorem dL_trace_24 : decode cL_trace 24 = .ok (.ireturn, 1) := by decide +kernel
theorem dL_trace_25 : decode cL_trace 25 = .ok (.iconst 0, 1) := by decide +kernel
theorem dL_trace_26 : decode cL_trace 26 = .ok (.ireturn, 1) := by decide +kernel
theorem dL_measure_0 : decode cL_measure 0 = .ok (.aload_n 2, 1) := by decide +kernel
theorem dL_measure_1 : decode cL_measure 1 = .ok (.iconst 0, 1) := by decide +kernel
theorem dL_measure_2 : decode cL_measure 2 = .ok (.aload_n 0, 1) := by decide +kernel
theorem dL_measure_3 : decode cL_measure 3 = .ok (.iload_n 1, 1) := by decide +kernel
theorem dL_measure_4 : decode cL_measure 4 = .ok (.invokevirtual 63, 3) := by decide +kernel
theorem dL_measure_7 : decode cL_measure 7 = .ok (.i2l, 1) := by decide +kernel
theorem dL_measure_8 : decode cL_measure 8 = .ok (.lastore, 1) := by decide +kernel
theorem dL_measure_9 : decode cL_measure 9 = .ok (.goto 9, 3) := by decide +kernel
theorem dL_measure_12 : decode cL_measure 12 = .ok (.astore_n 3, 1) := by decide +kernel
theorem dL_measure_13 : decode cL_measure 13 = .ok (.iconst 1, 1) := by decide +kernel
theorem dL_measure_14 : decode cL_measure 14 = .ok (.ireturn, 1) := by decide +kernel
theorem dL_measure_15 : decode cL_measure 15 = .ok (.astore_n 3, 1) := by decide +kernel
theorem dL_measure_16 : decode cL_measure 16 = .ok (.iconst 2, 1) := by decide +kernel
theorem dL_measure_17 : decode cL_measure 17 = .ok (.ireturn, 1) := by decide +kernel
theorem dL_measure_18 : decode cL_measure 18 = .ok (.iconst 0, 1) := by decide +kernel
theorem dL_measure_19 : decode cL_measure 19 = .ok (.ireturn, 1) := by decide +kernel
theorem dL_cost_0 : decode cL_cost 0 = .ok (.aload_n 1, 1) := by decide +kernel
theorem dL_cost_1 : decode cL_cost 1 = .ok (.iconst 0, 1) := by decide +kernel
theorem dL_cost_2 : decode cL_cost 2 = .ok (.aload_n 0, 1) := by decide +kernel
theorem dL_cost_3 : decode cL_cost 3 = .ok (.invokevirtual 66, 3) := by decide +kernel
theorem dL_cost_6 : decode cL_cost 6 = .ok (.lastore, 1) := by decide +kernel
theorem dL_cost_7 : decode cL_cost 7 = .ok (.goto 6, 3) := by decide +kernel
theorem dL_cost_10 : decode cL_cost 10 = .ok (.astore_n 2, 1) := by decide +kernel
theorem dL_cost_11 : decode cL_cost 11 = .ok (.iconst 1, 1) := by decide +kernel
theorem dL_cost_12 : decode cL_cost 12 = .ok (.ireturn, 1) := by decide +kernel
theorem dL_cost_13 : decode cL_cost 13 = .ok (.iconst 0, 1) := by decide +kernel
theorem dL_cost_14 : decode cL_cost 14 = .ok (.ireturn, 1) := by decide +kernel
theorem dL_reason_0 : decode cL_reason 0 = .ok (.aload_n 2, 1) := by decide +kernel
theorem dL_reason_1 : decode cL_reason 1 = .ok (.iconst 0, 1) := by decide +kernel
theorem dL_reason_2 : decode cL_reason 2 = .ok (.aload_n 0, 1) := by decide +kernel
theorem dL_reason_3 : decode cL_reason 3 = .ok (.iload_n 1, 1) := by decide +kernel
theorem dL_reason_4 : decode cL_reason 4 = .ok (.invokevirtual 70, 3) := by decide +kernel
theorem dL_reason_7 : decode cL_reason 7 = .ok (.i2l, 1) := by decide +kernel
theorem dL_reason_8 : decode cL_reason 8 = .ok (.lastore, 1) := by decide +kernel
theorem dL_reason_9 : decode cL_reason 9 = .ok (.goto 9, 3) := by decide +kernel
theorem dL_reason_12 : decode cL_reason 12 = .ok (.astore_n 3, 1) := by decide +kernel
theorem dL_reason_13 : decode cL_reason 13 = .ok (.iconst 1, 1) := by decide +kernel
theorem dL_reason_14 : decode cL_reason 14 = .ok (.ireturn, 1) := by decide +kernel
theorem dL_reason_15 : decode cL_reason 15 = .ok (.astore_n 3, 1) := by decide +kernel
theorem dL_reason_16 : decode cL_reason 16 = .ok (.iconst 2, 1) := by decide +kernel
theorem dL_reason_17 : decode cL_reason 17 = .ok (.ireturn, 1) := by decide +kernel
theorem dL_reason_18 : decode cL_reason 18 = .ok (.iconst 0, 1) := by decide +kernel
theorem dL_reason_19 : decode cL_reason 19 = .ok (.ireturn, 1) := by decide +kernel
theorem dL_meanSquareBits_0 : decode cL_meanSquareBits 0 = .ok (.aload_n 1, 1) := by decide +kernel
theorem dL_meanSquareBits_1 : decode cL_meanSquareBits 1 = .ok (.iconst 0, 1) := by decide +kernel
theorem dL_meanSquareBits_2 : decode cL_meanSquareBits 2 = .ok (.aload_n 0, 1) := by decide +kernel
theorem dL_meanSquareBits_3 : decode cL_meanSquareBits 3 = .ok (.invokevirtual 73, 3) := by decide +kernel
theorem dL_meanSquareBits_6 : decode cL_meanSquareBits 6 = .ok (.lastore, 1) := by decide +kernel
theorem dL_meanSquareBits_7 : decode cL_meanSquareBits 7 = .ok (.goto 6, 3) := by decide +kernel
theorem dL_meanSquareBits_10 : decode cL_meanSquareBits 10 = .ok (.astore_n 2, 1) := by decide +kernel
theorem dL_meanSquareBits_11 : decode cL_meanSquareBits 11 = .ok (.iconst 1, 1) := by decide +kernel
theorem dL_meanSquareBits_12 : decode cL_meanSquareBits 12 = .ok (.ireturn, 1) := by decide +kernel
theorem dL_meanSquareBits_13 : decode cL_meanSquareBits 13 = .ok (.iconst 0, 1) := by decide +kernel
theorem dL_meanSquareBits_14 : decode cL_meanSquareBits 14 = .ok (.ireturn, 1) := by decide +kernel
theorem dL_saturatedBits_0 : decode cL_saturatedBits 0 = .ok (.aload_n 1, 1) := by decide +kernel
theorem dL_saturatedBits_1 : decode cL_saturatedBits 1 = .ok (.iconst 0, 1) := by decide +kernel
theorem dL_saturatedBits_2 : decode cL_saturatedBits 2 = .ok (.aload_n 0, 1) := by decide +kernel
theorem dL_saturatedBits_3 : decode cL_saturatedBits 3 = .ok (.invokevirtual 76, 3) := by decide +kernel
theorem dL_saturatedBits_6 : decode cL_saturatedBits 6 = .ok (.i2l, 1) := by decide +kernel
theorem dL_saturatedBits_7 : decode cL_saturatedBits 7 = .ok (.lastore, 1) := by decide +kernel
theorem dL_saturatedBits_8 : decode cL_saturatedBits 8 = .ok (.goto 6, 3) := by decide +kernel
theorem dL_saturatedBits_11 : decode cL_saturatedBits 11 = .ok (.astore_n 2, 1) := by decide +kernel
theorem dL_saturatedBits_12 : decode cL_saturatedBits 12 = .ok (.iconst 1, 1) := by decide +kernel
theorem dL_saturatedBits_13 : decode cL_saturatedBits 13 = .ok (.ireturn, 1) := by decide +kernel
theorem dL_saturatedBits_14 : decode cL_saturatedBits 14 = .ok (.iconst 0, 1) := by decide +kernel
theorem dL_saturatedBits_15 : decode cL_saturatedBits 15 = .ok (.ireturn, 1) := by decide +kernel
theorem dL_hold_0 : decode cL_hold 0 = .ok (.aload_n 1, 1) := by decide +kernel
theorem dL_hold_1 : decode cL_hold 1 = .ok (.iconst 0, 1) := by decide +kernel
theorem dL_hold_2 : decode cL_hold 2 = .ok (.aload_n 0, 1) := by decide +kernel
theorem dL_hold_3 : decode cL_hold 3 = .ok (.invokevirtual 79, 3) := by decide +kernel
theorem dL_hold_6 : decode cL_hold 6 = .ok (.i2l, 1) := by decide +kernel
theorem dL_hold_7 : decode cL_hold 7 = .ok (.lastore, 1) := by decide +kernel
theorem dL_hold_8 : decode cL_hold 8 = .ok (.goto 6, 3) := by decide +kernel
theorem dL_hold_11 : decode cL_hold 11 = .ok (.astore_n 2, 1) := by decide +kernel
theorem dL_hold_12 : decode cL_hold 12 = .ok (.iconst 1, 1) := by decide +kernel
theorem dL_hold_13 : decode cL_hold 13 = .ok (.ireturn, 1) := by decide +kernel
theorem dL_hold_14 : decode cL_hold 14 = .ok (.iconst 0, 1) := by decide +kernel
theorem dL_hold_15 : decode cL_hold 15 = .ok (.ireturn, 1) := by decide +kernel
theorem dL_compare_0 : decode cL_compare 0 = .ok (.aload_n 2, 1) := by decide +kernel
theorem dL_compare_1 : decode cL_compare 1 = .ok (.iconst 0, 1) := by decide +kernel
theorem dL_compare_2 : decode cL_compare 2 = .ok (.aload_n 0, 1) := by decide +kernel
theorem dL_compare_3 : decode cL_compare 3 = .ok (.iload_n 1, 1) := by decide +kernel
theorem dL_compare_4 : decode cL_compare 4 = .ok (.invokevirtual 82, 3) := by decide +kernel
theorem dL_compare_7 : decode cL_compare 7 = .ok (.i2l, 1) := by decide +kernel
theorem dL_compare_8 : decode cL_compare 8 = .ok (.lastore, 1) := by decide +kernel
theorem dL_compare_9 : decode cL_compare 9 = .ok (.goto 9, 3) := by decide +kernel
theorem dL_compare_12 : decode cL_compare 12 = .ok (.astore_n 3, 1) := by decide +kernel
theorem dL_compare_13 : decode cL_compare 13 = .ok (.iconst 1, 1) := by decide +kernel
theorem dL_compare_14 : decode cL_compare 14 = .ok (.ireturn, 1) := by decide +kernel
theorem dL_compare_15 : decode cL_compare 15 = .ok (.astore_n 3, 1) := by decide +kernel
theorem dL_compare_16 : decode cL_compare 16 = .ok (.iconst 2, 1) := by decide +kernel
theorem dL_compare_17 : decode cL_compare 17 = .ok (.ireturn, 1) := by decide +kernel
theorem dL_compare_18 : decode cL_compare 18 = .ok (.iconst 0, 1) := by decide +kernel
theorem dL_compare_19 : decode cL_compare 19 = .ok (.ireturn, 1) := by decide +kernel
theorem dL_found_0 : decode cL_found 0 = .ok (.aload_n 3, 1) := by decide +kernel
theorem dL_found_1 : decode cL_found 1 = .ok (.iconst 0, 1) := by decide +kernel
theorem dL_found_2 : decode cL_found 2 = .ok (.aload_n 0, 1) := by decide +kernel
theorem dL_found_3 : decode cL_found 3 = .ok (.iload_n 1, 1) := by decide +kernel
theorem dL_found_4 : decode cL_found 4 = .ok (.iload_n 2, 1) := by decide +kernel
theorem dL_found_5 : decode cL_found 5 = .ok (.invokevirtual 85, 3) := by decide +kernel
theorem dL_found_8 : decode cL_found 8 = .ok (.i2l, 1) := by decide +kernel
theorem dL_found_9 : decode cL_found 9 = .ok (.lastore, 1) := by decide +kernel
theorem dL_found_10 : decode cL_found 10 = .ok (.goto 11, 3) := by decide +kernel
theorem dL_found_13 : decode cL_found 13 = .ok (.astore 4, 2) := by decide +kernel
theorem dL_found_15 : decode cL_found 15 = .ok (.iconst 1, 1) := by decide +kernel
theorem dL_found_16 : decode cL_found 16 = .ok (.ireturn, 1) := by decide +kernel
theorem dL_found_17 : decode cL_found 17 = .ok (.astore 4, 2) := by decide +kernel
theorem dL_found_19 : decode cL_found 19 = .ok (.iconst 2, 1) := by decide +kernel
theorem dL_found_20 : decode cL_found 20 = .ok (.ireturn, 1) := by decide +kernel
theorem dL_found_21 : decode cL_found 21 = .ok (.iconst 0, 1) := by decide +kernel
theorem dL_found_22 : decode cL_found 22 = .ok (.ireturn, 1) := by decide +kernel
theorem dL_foundCost_0 : decode cL_foundCost 0 = .ok (.aload_n 2, 1) := by decide +kernel
theorem dL_foundCost_1 : decode cL_foundCost 1 = .ok (.iconst 0, 1) := by decide +kernel
theorem dL_foundCost_2 : decode cL_foundCost 2 = .ok (.aload_n 0, 1) := by decide +kernel
theorem dL_foundCost_3 : decode cL_foundCost 3 = .ok (.iload_n 1, 1) := by decide +kernel
theorem dL_foundCost_4 : decode cL_foundCost 4 = .ok (.invokevirtual 89, 3) := by decide +kernel
theorem dL_foundCost_7 : decode cL_foundCost 7 = .ok (.lastore, 1) := by decide +kernel
theorem dL_foundCost_8 : decode cL_foundCost 8 = .ok (.goto 6, 3) := by decide +kernel
theorem dL_foundCost_11 : decode cL_foundCost 11 = .ok (.astore_n 3, 1) := by decide +kernel
theorem dL_foundCost_12 : decode cL_foundCost 12 = .ok (.iconst 1, 1) := by decide +kernel
theorem dL_foundCost_13 : decode cL_foundCost 13 = .ok (.ireturn, 1) := by decide +kernel
theorem dL_foundCost_14 : decode cL_foundCost 14 = .ok (.iconst 0, 1) := by decide +kernel
theorem dL_foundCost_15 : decode cL_foundCost 15 = .ok (.ireturn, 1) := by decide +kernel
theorem dL_apply_0 : decode cL_apply 0 = .ok (.aload_n 2, 1) := by decide +kernel
theorem dL_apply_1 : decode cL_apply 1 = .ok (.iconst 0, 1) := by decide +kernel
theorem dL_apply_2 : decode cL_apply 2 = .ok (.aload_n 0, 1) := by decide +kernel
theorem dL_apply_3 : decode cL_apply 3 = .ok (.iload_n 1, 1) := by decide +kernel
theorem dL_apply_4 : decode cL_apply 4 = .ok (.invokevirtual 93, 3) := by decide +kernel
theorem dL_apply_7 : decode cL_apply 7 = .ok (.i2l, 1) := by decide +kernel
theorem dL_apply_8 : decode cL_apply 8 = .ok (.lastore, 1) := by decide +kernel
theorem dL_apply_9 : decode cL_apply 9 = .ok (.goto 6, 3) := by decide +kernel
theorem dL_apply_12 : decode cL_apply 12 = .ok (.astore_n 3, 1) := by decide +kernel
theorem dL_apply_13 : decode cL_apply 13 = .ok (.iconst 1, 1) := by decide +kernel
theorem dL_apply_14 : decode cL_apply 14 = .ok (.ireturn, 1) := by decide +kernel
theorem dL_apply_15 : decode cL_apply 15 = .ok (.iconst 0, 1) := by decide +kernel
theorem dL_apply_16 : decode cL_apply 16 = .ok (.ireturn, 1) := by decide +kernel
theorem dL_lowest_0 : decode cL_lowest 0 = .ok (.aload 4, 2) := by decide +kernel
theorem dL_lowest_2 : decode cL_lowest 2 = .ok (.iconst 0, 1) := by decide +kernel
theorem dL_lowest_3 : decode cL_lowest 3 = .ok (.aload_n 0, 1) := by decide +kernel
theorem dL_lowest_4 : decode cL_lowest 4 = .ok (.iload_n 1, 1) := by decide +kernel
theorem dL_lowest_5 : decode cL_lowest 5 = .ok (.lload_n 2, 1) := by decide +kernel
theorem dL_lowest_6 : decode cL_lowest 6 = .ok (.invokevirtual 97, 3) := by decide +kernel
theorem dL_lowest_9 : decode cL_lowest 9 = .ok (.i2l, 1) := by decide +kernel
theorem dL_lowest_10 : decode cL_lowest 10 = .ok (.lastore, 1) := by decide +kernel
theorem dL_lowest_11 : decode cL_lowest 11 = .ok (.goto 11, 3) := by decide +kernel
theorem dL_lowest_14 : decode cL_lowest 14 = .ok (.astore 5, 2) := by decide +kernel
theorem dL_lowest_16 : decode cL_lowest 16 = .ok (.iconst 1, 1) := by decide +kernel
theorem dL_lowest_17 : decode cL_lowest 17 = .ok (.ireturn, 1) := by decide +kernel
theorem dL_lowest_18 : decode cL_lowest 18 = .ok (.astore 5, 2) := by decide +kernel
theorem dL_lowest_20 : decode cL_lowest 20 = .ok (.iconst 2, 1) := by decide +kernel
theorem dL_lowest_21 : decode cL_lowest 21 = .ok (.ireturn, 1) := by decide +kernel
theorem dL_lowest_22 : decode cL_lowest 22 = .ok (.iconst 0, 1) := by decide +kernel
theorem dL_lowest_23 : decode cL_lowest 23 = .ok (.ireturn, 1) := by decide +kernel
theorem dL_count_0 : decode cL_count 0 = .ok (.aload_n 2, 1) := by decide +kernel
theorem dL_count_1 : decode cL_count 1 = .ok (.iconst 0, 1) := by decide +kernel
theorem dL_count_2 : decode cL_count 2 = .ok (.aload_n 0, 1) := by decide +kernel
theorem dL_count_3 : decode cL_count 3 = .ok (.iload_n 1, 1) := by decide +kernel
theorem dL_count_4 : decode cL_count 4 = .ok (.invokevirtual 101, 3) := by decide +kernel
theorem dL_count_7 : decode cL_count 7 = .ok (.i2l, 1) := by decide +kernel
theorem dL_count_8 : decode cL_count 8 = .ok (.lastore, 1) := by decide +kernel
theorem dL_count_9 : decode cL_count 9 = .ok (.goto 6, 3) := by decide +kernel
theorem dL_count_12 : decode cL_count 12 = .ok (.astore_n 3, 1) := by decide +kernel
theorem dL_count_13 : decode cL_count 13 = .ok (.iconst 1, 1) := by decide +kernel
theorem dL_count_14 : decode cL_count 14 = .ok (.ireturn, 1) := by decide +kernel
theorem dL_count_15 : decode cL_count 15 = .ok (.iconst 0, 1) := by decide +kernel
theorem dL_count_16 : decode cL_count 16 = .ok (.ireturn, 1) := by decide +kernel
theorem dL_undo_0 : decode cL_undo 0 = .ok (.aload_n 1, 1) := by decide +kernel
theorem dL_undo_1 : decode cL_undo 1 = .ok (.iconst 0, 1) := by decide +kernel
theorem dL_undo_2 : decode cL_undo 2 = .ok (.aload_n 0, 1) := by decide +kernel
theorem dL_undo_3 : decode cL_undo 3 = .ok (.invokevirtual 104, 3) := by decide +kernel
theorem dL_undo_6 : decode cL_undo 6 = .ok (.i2l, 1) := by decide +kernel
theorem dL_undo_7 : decode cL_undo 7 = .ok (.lastore, 1) := by decide +kernel
theorem dL_undo_8 : decode cL_undo 8 = .ok (.goto 6, 3) := by decide +kernel
theorem dL_undo_11 : decode cL_undo 11 = .ok (.astore_n 2, 1) := by decide +kernel
theorem dL_undo_12 : decode cL_undo 12 = .ok (.iconst 1, 1) := by decide +kernel
theorem dL_undo_13 : decode cL_undo 13 = .ok (.ireturn, 1) := by decide +kernel
theorem dL_undo_14 : decode cL_undo 14 = .ok (.iconst 0, 1) := by decide +kernel
theorem dL_undo_15 : decode cL_undo 15 = .ok (.ireturn, 1) := by decide +kernel
theorem dL_restore_0 : decode cL_restore 0 = .ok (.aload_n 1, 1) := by decide +kernel
theorem dL_restore_1 : decode cL_restore 1 = .ok (.iconst 0, 1) := by decide +kernel
theorem dL_restore_2 : decode cL_restore 2 = .ok (.aload_n 0, 1) := by decide +kernel
theorem dL_restore_3 : decode cL_restore 3 = .ok (.invokevirtual 107, 3) := by decide +kernel
theorem dL_restore_6 : decode cL_restore 6 = .ok (.i2l, 1) := by decide +kernel
theorem dL_restore_7 : decode cL_restore 7 = .ok (.lastore, 1) := by decide +kernel
theorem dL_restore_8 : decode cL_restore 8 = .ok (.goto 6, 3) := by decide +kernel
theorem dL_restore_11 : decode cL_restore 11 = .ok (.astore_n 2, 1) := by decide +kernel
theorem dL_restore_12 : decode cL_restore 12 = .ok (.iconst 1, 1) := by decide +kernel
theorem dL_restore_13 : decode cL_restore 13 = .ok (.ireturn, 1) := by decide +kernel
theorem dL_restore_14 : decode cL_restore 14 = .ok (.iconst 0, 1) := by decide +kernel
theorem dL_restore_15 : decode cL_restore 15 = .ok (.ireturn, 1) := by decide +kernel
theorem dL_law_0 : decode cL_law 0 = .ok (.new 8, 3) := by decide +kernel
theorem dL_law_3 : decode cL_law 3 = .ok (.dup, 1) := by decide +kernel
theorem dL_law_4 : decode cL_law 4 = .ok (.invokespecial 110, 3) := by decide +kernel
theorem dL_law_7 : decode cL_law 7 = .ok (.astore_n 1, 1) := by decide +kernel
theorem dL_law_8 : decode cL_law 8 = .ok (.new 111, 3) := by decide +kernel
theorem dL_law_11 : decode cL_law 11 = .ok (.dup, 1) := by decide +kernel
theorem dL_law_12 : decode cL_law 12 = .ok (.invokespecial 113, 3) := by decide +kernel
theorem dL_law_15 : decode cL_law 15 = .ok (.astore_n 2, 1) := by decide +kernel
theorem dL_law_16 : decode cL_law 16 = .ok (.iconst 1, 1) := by decide +kernel
theorem dL_law_17 : decode cL_law 17 = .ok (.newarray .long, 2) := by decide +kernel
theorem dL_law_19 : decode cL_law 19 = .ok (.astore_n 3, 1) := by decide +kernel
theorem dL_law_20 : decode cL_law 20 = .ok (.iconst 0, 1) := by decide +kernel
theorem dL_law_21 : decode cL_law 21 = .ok (.istore 4, 2) := by decide +kernel
theorem dL_law_23 : decode cL_law 23 = .ok (.iload 4, 2) := by decide +kernel
theorem dL_law_25 : decode cL_law 25 = .ok (.aload_n 0, 1) := by decide +kernel
theorem dL_law_26 : decode cL_law 26 = .ok (.arraylength, 1) := by decide +kernel
theorem dL_law_27 : decode cL_law 27 = .ok (.iconst 5, 1) := by decide +kernel
theorem dL_law_28 : decode cL_law 28 = .ok (.isub, 1) := by decide +kernel
theorem dL_law_29 : decode cL_law 29 = .ok (.if_icmp .gt 1907, 3) := by decide +kernel
theorem dL_law_32 : decode cL_law 32 = .ok (.aload_n 0, 1) := by decide +kernel
theorem dL_law_33 : decode cL_law 33 = .ok (.iload 4, 2) := by decide +kernel
theorem dL_law_35 : decode cL_law 35 = .ok (.iaload, 1) := by decide +kernel
theorem dL_law_36 : decode cL_law 36 = .ok (.bipush 63, 2) := by decide +kernel
theorem dL_law_38 : decode cL_law 38 = .ok (.iand, 1) := by decide +kernel
theorem dL_law_39 : decode cL_law 39 = .ok (.tableswitch 1891 0 32 #[145, 213, 269, 337, 393, 461, 517, 585, 677, 733, 777, 790, 846, 902, 958, 971, 1039, 1095, 1138, 1194, 1237, 1281, 1325, 1381, 1394, 1407, 1491, 1562, 1634, 1734, 1790, 1834, 1847], 145) := by decide +kernel
theorem dL_law_184 : decode cL_law 184 = .ok (.aload_n 1, 1) := by decide +kernel
theorem dL_law_185 : decode cL_law 185 = .ok (.aload_n 0, 1) := by decide +kernel
theorem dL_law_186 : decode cL_law 186 = .ok (.iload 4, 2) := by decide +kernel
theorem dL_law_188 : decode cL_law 188 = .ok (.iconst 1, 1) := by decide +kernel
theorem dL_law_189 : decode cL_law 189 = .ok (.iadd, 1) := by decide +kernel
theorem dL_law_190 : decode cL_law 190 = .ok (.iaload, 1) := by decide +kernel
theorem dL_law_191 : decode cL_law 191 = .ok (.aload_n 0, 1) := by decide +kernel
theorem dL_law_192 : decode cL_law 192 = .ok (.iload 4, 2) := by decide +kernel
theorem dL_law_194 : decode cL_law 194 = .ok (.iconst 2, 1) := by decide +kernel
theorem dL_law_195 : decode cL_law 195 = .ok (.iadd, 1) := by decide +kernel
theorem dL_law_196 : decode cL_law 196 = .ok (.iaload, 1) := by decide +kernel
theorem dL_law_197 : decode cL_law 197 = .ok (.aload_n 3, 1) := by decide +kernel
theorem dL_law_198 : decode cL_law 198 = .ok (.invokestatic 114, 3) := by decide +kernel
theorem dL_law_201 : decode cL_law 201 = .ok (.istore 5, 2) := by decide +kernel
theorem dL_law_203 : decode cL_law 203 = .ok (.aload_n 2, 1) := by decide +kernel
theorem dL_law_204 : decode cL_law 204 = .ok (.aload_n 0, 1) := by decide +kernel
theorem dL_law_205 : decode cL_law 205 = .ok (.iload 4, 2) := by decide +kernel
theorem dL_law_207 : decode cL_law 207 = .ok (.iconst 1, 1) := by decide +kernel
theorem dL_law_208 : decode cL_law 208 = .ok (.iadd, 1) := by decide +kernel
theorem dL_law_209 : decode cL_law 209 = .ok (.iaload, 1) := by decide +kernel
theorem dL_law_210 : decode cL_law 210 = .ok (.aload_n 0, 1) := by decide +kernel
theorem dL_law_211 : decode cL_law 211 = .ok (.iload 4, 2) := by decide +kernel
theorem dL_law_213 : decode cL_law 213 = .ok (.iconst 2, 1) := by decide +kernel
theorem dL_law_214 : decode cL_law 214 = .ok (.iadd, 1) := by decide +kernel
theorem dL_law_215 : decode cL_law 215 = .ok (.iaload, 1) := by decide +kernel
theorem dL_law_216 : decode cL_law 216 = .ok (.invokevirtual 119, 3) := by decide +kernel
theorem dL_law_219 : decode cL_law 219 = .ok (.istore 6, 2) := by decide +kernel
theorem dL_law_221 : decode cL_law 221 = .ok (.aload_n 2, 1) := by decide +kernel
theorem dL_law_222 : decode cL_law 222 = .ok (.invokevirtual 120, 3) := by decide +kernel
theorem dL_law_225 : decode cL_law 225 = .ok (.iload 5, 2) := by decide +kernel
theorem dL_law_227 : decode cL_law 227 = .ok (.if_icmp .eq 5, 3) := by decide +kernel
theorem dL_law_230 : decode cL_law 230 = .ok (.iconst 0, 1) := by decide +kernel
theorem dL_law_231 : decode cL_law 231 = .ok (.ireturn, 1) := by decide +kernel
theorem dL_law_232 : decode cL_law 232 = .ok (.iload 5, 2) := by decide +kernel
theorem dL_law_234 : decode cL_law 234 = .ok (.ifCond .ne 15, 3) := by decide +kernel
theorem dL_law_237 : decode cL_law 237 = .ok (.aload_n 3, 1) := by decide +kernel
theorem dL_law_238 : decode cL_law 238 = .ok (.iconst 0, 1) := by decide +kernel
theorem dL_law_239 : decode cL_law 239 = .ok (.laload, 1) := by decide +kernel
theorem dL_law_240 : decode cL_law 240 = .ok (.iload 6, 2) := by decide +kernel
theorem dL_law_242 : decode cL_law 242 = .ok (.i2l, 1) := by decide +kernel
theorem dL_law_243 : decode cL_law 243 = .ok (.lcmp, 1) := by decide +kernel
theorem dL_law_244 : decode cL_law 244 = .ok (.ifCond .eq 5, 3) := by decide +kernel
theorem dL_law_247 : decode cL_law 247 = .ok (.iconst 0, 1) := by decide +kernel
theorem dL_law_248 : decode cL_law 248 = .ok (.ireturn, 1) := by decide +kernel
theorem dL_law_249 : decode cL_law 249 = .ok (.goto 1681, 3) := by decide +kernel
theorem dL_law_252 : decode cL_law 252 = .ok (.aload_n 1, 1) := by decide +kernel
theorem dL_law_253 : decode cL_law 253 = .ok (.aload_n 0, 1) := by decide +kernel
theorem dL_law_254 : decode cL_law 254 = .ok (.iload 4, 2) := by decide +kernel
theorem dL_law_256 : decode cL_law 256 = .ok (.iconst 1, 1) := by decide +kernel
theorem dL_law_257 : decode cL_law 257 = .ok (.iadd, 1) := by decide +kernel
theorem dL_law_258 : decode cL_law 258 = .ok (.iaload, 1) := by decide +kernel
theorem dL_law_259 : decode cL_law 259 = .ok (.aload_n 3, 1) := by decide +kernel
theorem dL_law_260 : decode cL_law 260 = .ok (.invokestatic 123, 3) := by decide +kernel
theorem dL_law_263 : decode cL_law 263 = .ok (.istore 5, 2) := by decide +kernel
theorem dL_law_265 : decode cL_law 265 = .ok (.aload_n 2, 1) := by decide +kernel
theorem dL_law_266 : decode cL_law 266 = .ok (.aload_n 0, 1) := by decide +kernel
theorem dL_law_267 : decode cL_law 267 = .ok (.iload 4, 2) := by decide +kernel
theorem dL_law_269 : decode cL_law 269 = .ok (.iconst 1, 1) := by decide +kernel
theorem dL_law_270 : decode cL_law 270 = .ok (.iadd, 1) := by decide +kernel
theorem dL_law_271 : decode cL_law 271 = .ok (.iaload, 1) := by decide +kernel
theorem dL_law_272 : decode cL_law 272 = .ok (.invokevirtual 126, 3) := by decide +kernel
theorem dL_law_275 : decode cL_law 275 = .ok (.istore 6, 2) := by decide +kernel
theorem dL_law_277 : decode cL_law 277 = .ok (.aload_n 2, 1) := by decide +kernel
theorem dL_law_278 : decode cL_law 278 = .ok (.invokevirtual 120, 3) := by decide +kernel
theorem dL_law_281 : decode cL_law 281 = .ok (.iload 5, 2) := by decide +kernel
theorem dL_law_283 : decode cL_law 283 = .ok (.if_icmp .eq 5, 3) := by decide +kernel
theorem dL_law_286 : decode cL_law 286 = .ok (.iconst 0, 1) := by decide +kernel
theorem dL_law_287 : decode cL_law 287 = .ok (.ireturn, 1) := by decide +kernel
theorem dL_law_288 : decode cL_law 288 = .ok (.iload 5, 2) := by decide +kernel
theorem dL_law_290 : decode cL_law 290 = .ok (.ifCond .ne 15, 3) := by decide +kernel
theorem dL_law_293 : decode cL_law 293 = .ok (.aload_n 3, 1) := by decide +kernel
theorem dL_law_294 : decode cL_law 294 = .ok (.iconst 0, 1) := by decide +kernel
theorem dL_law_295 : decode cL_law 295 = .ok (.laload, 1) := by decide +kernel
theorem dL_law_296 : decode cL_law 296 = .ok (.iload 6, 2) := by decide +kernel
theorem dL_law_298 : decode cL_law 298 = .ok (.i2l, 1) := by decide +kernel
theorem dL_law_299 : decode cL_law 299 = .ok (.lcmp, 1) := by decide +kernel
theorem dL_law_300 : decode cL_law 300 = .ok (.ifCond .eq 5, 3) := by decide +kernel
theorem dL_law_303 : decode cL_law 303 = .ok (.iconst 0, 1) := by decide +kernel
theorem dL_law_304 : decode cL_law 304 = .ok (.ireturn, 1) := by decide +kernel
theorem dL_law_305 : decode cL_law 305 = .ok (.goto 1625, 3) := by decide +kernel
theorem dL_law_308 : decode cL_law 308 = .ok (.aload_n 1, 1) := by decide +kernel
theorem dL_law_309 : decode cL_law 309 = .ok (.aload_n 0, 1) := by decide +kernel
theorem dL_law_310 : decode cL_law 310 = .ok (.iload 4, 2) := by decide +kernel
theorem dL_law_312 : decode cL_law 312 = .ok (.iconst 1, 1) := by decide +kernel
theorem dL_law_313 : decode cL_law 313 = .ok (.iadd, 1) := by decide +kernel
theorem dL_law_314 : decode cL_law 314 = .ok (.iaload, 1) := by decide +kernel
theorem dL_law_315 : decode cL_law 315 = .ok (.aload_n 0, 1) := by decide +kernel
theorem dL_law_316 : decode cL_law 316 = .ok (.iload 4, 2) := by decide +kernel
theorem dL_law_318 : decode cL_law 318 = .ok (.iconst 2, 1) := by decide +kernel
theorem dL_law_319 : decode cL_law 319 = .ok (.iadd, 1) := by decide +kernel
theorem dL_law_320 : decode cL_law 320 = .ok (.iaload, 1) := by decide +kernel
theorem dL_law_321 : decode cL_law 321 = .ok (.aload_n 3, 1) := by decide +kernel
theorem dL_law_322 : decode cL_law 322 = .ok (.invokestatic 127, 3) := by decide +kernel
theorem dL_law_325 : decode cL_law 325 = .ok (.istore 5, 2) := by decide +kernel
theorem dL_law_327 : decode cL_law 327 = .ok (.aload_n 2, 1) := by decide +kernel
theorem dL_law_328 : decode cL_law 328 = .ok (.aload_n 0, 1) := by decide +kernel
theorem dL_law_329 : decode cL_law 329 = .ok (.iload 4, 2) := by decide +kernel
theorem dL_law_331 : decode cL_law 331 = .ok (.iconst 1, 1) := by decide +kernel
theorem dL_law_332 : decode cL_law 332 = .ok (.iadd, 1) := by decide +kernel
theorem dL_law_333 : decode cL_law 333 = .ok (.iaload, 1) := by decide +kernel
theorem dL_law_334 : decode cL_law 334 = .ok (.aload_n 0, 1) := by decide +kernel
theorem dL_law_335 : decode cL_law 335 = .ok (.iload 4, 2) := by decide +kernel
theorem dL_law_337 : decode cL_law 337 = .ok (.iconst 2, 1) := by decide +kernel
theorem dL_law_338 : decode cL_law 338 = .ok (.iadd, 1) := by decide +kernel
theorem dL_law_339 : decode cL_law 339 = .ok (.iaload, 1) := by decide +kernel
theorem dL_law_340 : decode cL_law 340 = .ok (.invokevirtual 129, 3) := by decide +kernel
theorem dL_law_343 : decode cL_law 343 = .ok (.istore 6, 2) := by decide +kernel
theorem dL_law_345 : decode cL_law 345 = .ok (.aload_n 2, 1) := by decide +kernel
theorem dL_law_346 : decode cL_law 346 = .ok (.invokevirtual 120, 3) := by decide +kernel
theorem dL_law_349 : decode cL_law 349 = .ok (.iload 5, 2) := by decide +kernel
theorem dL_law_351 : decode cL_law 351 = .ok (.if_icmp .eq 5, 3) := by decide +kernel
theorem dL_law_354 : decode cL_law 354 = .ok (.iconst 0, 1) := by decide +kernel
theorem dL_law_355 : decode cL_law 355 = .ok (.ireturn, 1) := by decide +kernel
theorem dL_law_356 : decode cL_law 356 = .ok (.iload 5, 2) := by decide +kernel
theorem dL_law_358 : decode cL_law 358 = .ok (.ifCond .ne 15, 3) := by decide +kernel
theorem dL_law_361 : decode cL_law 361 = .ok (.aload_n 3, 1) := by decide +kernel
theorem dL_law_362 : decode cL_law 362 = .ok (.iconst 0, 1) := by decide +kernel
theorem dL_law_363 : decode cL_law 363 = .ok (.laload, 1) := by decide +kernel
theorem dL_law_364 : decode cL_law 364 = .ok (.iload 6, 2) := by decide +kernel
theorem dL_law_366 : decode cL_law 366 = .ok (.i2l, 1) := by decide +kernel
theorem dL_law_367 : decode cL_law 367 = .ok (.lcmp, 1) := by decide +kernel
theorem dL_law_368 : decode cL_law 368 = .ok (.ifCond .eq 5, 3) := by decide +kernel
theorem dL_law_371 : decode cL_law 371 = .ok (.iconst 0, 1) := by decide +kernel
theorem dL_law_372 : decode cL_law 372 = .ok (.ireturn, 1) := by decide +kernel
theorem dL_law_373 : decode cL_law 373 = .ok (.goto 1557, 3) := by decide +kernel
theorem dL_law_376 : decode cL_law 376 = .ok (.aload_n 1, 1) := by decide +kernel
theorem dL_law_377 : decode cL_law 377 = .ok (.aload_n 0, 1) := by decide +kernel
theorem dL_law_378 : decode cL_law 378 = .ok (.iload 4, 2) := by decide +kernel
theorem dL_law_380 : decode cL_law 380 = .ok (.iconst 1, 1) := by decide +kernel
theorem dL_law_381 : decode cL_law 381 = .ok (.iadd, 1) := by decide +kernel
theorem dL_law_382 : decode cL_law 382 = .ok (.iaload, 1) := by decide +kernel
theorem dL_law_383 : decode cL_law 383 = .ok (.aload_n 3, 1) := by decide +kernel
theorem dL_law_384 : decode cL_law 384 = .ok (.invokestatic 130, 3) := by decide +kernel
theorem dL_law_387 : decode cL_law 387 = .ok (.istore 5, 2) := by decide +kernel
theorem dL_law_389 : decode cL_law 389 = .ok (.aload_n 2, 1) := by decide +kernel
theorem dL_law_390 : decode cL_law 390 = .ok (.aload_n 0, 1) := by decide +kernel
theorem dL_law_391 : decode cL_law 391 = .ok (.iload 4, 2) := by decide +kernel
theorem dL_law_393 : decode cL_law 393 = .ok (.iconst 1, 1) := by decide +kernel
theorem dL_law_394 : decode cL_law 394 = .ok (.iadd, 1) := by decide +kernel
theorem dL_law_395 : decode cL_law 395 = .ok (.iaload, 1) := by decide +kernel
theorem dL_law_396 : decode cL_law 396 = .ok (.invokevirtual 132, 3) := by decide +kernel
theorem dL_law_399 : decode cL_law 399 = .ok (.istore 6, 2) := by decide +kernel
theorem dL_law_401 : decode cL_law 401 = .ok (.aload_n 2, 1) := by decide +kernel
theorem dL_law_402 : decode cL_law 402 = .ok (.invokevirtual 120, 3) := by decide +kernel
theorem dL_law_405 : decode cL_law 405 = .ok (.iload 5, 2) := by decide +kernel
theorem dL_law_407 : decode cL_law 407 = .ok (.if_icmp .eq 5, 3) := by decide +kernel
theorem dL_law_410 : decode cL_law 410 = .ok (.iconst 0, 1) := by decide +kernel
theorem dL_law_411 : decode cL_law 411 = .ok (.ireturn, 1) := by decide +kernel
theorem dL_law_412 : decode cL_law 412 = .ok (.iload 5, 2) := by decide +kernel
theorem dL_law_414 : decode cL_law 414 = .ok (.ifCond .ne 15, 3) := by decide +kernel
theorem dL_law_417 : decode cL_law 417 = .ok (.aload_n 3, 1) := by decide +kernel
theorem dL_law_418 : decode cL_law 418 = .ok (.iconst 0, 1) := by decide +kernel
theorem dL_law_419 : decode cL_law 419 = .ok (.laload, 1) := by decide +kernel
theorem dL_law_420 : decode cL_law 420 = .ok (.iload 6, 2) := by decide +kernel
theorem dL_law_422 : decode cL_law 422 = .ok (.i2l, 1) := by decide +kernel
theorem dL_law_423 : decode cL_law 423 = .ok (.lcmp, 1) := by decide +kernel
theorem dL_law_424 : decode cL_law 424 = .ok (.ifCond .eq 5, 3) := by decide +kernel
theorem dL_law_427 : decode cL_law 427 = .ok (.iconst 0, 1) := by decide +kernel
theorem dL_law_428 : decode cL_law 428 = .ok (.ireturn, 1) := by decide +kernel
theorem dL_law_429 : decode cL_law 429 = .ok (.goto 1501, 3) := by decide +kernel
theorem dL_law_432 : decode cL_law 432 = .ok (.aload_n 1, 1) := by decide +kernel
theorem dL_law_433 : decode cL_law 433 = .ok (.aload_n 0, 1) := by decide +kernel
theorem dL_law_434 : decode cL_law 434 = .ok (.iload 4, 2) := by decide +kernel
theorem dL_law_436 : decode cL_law 436 = .ok (.iconst 1, 1) := by decide +kernel
theorem dL_law_437 : decode cL_law 437 = .ok (.iadd, 1) := by decide +kernel
theorem dL_law_438 : decode cL_law 438 = .ok (.iaload, 1) := by decide +kernel
theorem dL_law_439 : decode cL_law 439 = .ok (.aload_n 0, 1) := by decide +kernel
theorem dL_law_440 : decode cL_law 440 = .ok (.iload 4, 2) := by decide +kernel
theorem dL_law_442 : decode cL_law 442 = .ok (.iconst 2, 1) := by decide +kernel
theorem dL_law_443 : decode cL_law 443 = .ok (.iadd, 1) := by decide +kernel
theorem dL_law_444 : decode cL_law 444 = .ok (.iaload, 1) := by decide +kernel
theorem dL_law_445 : decode cL_law 445 = .ok (.aload_n 3, 1) := by decide +kernel
theorem dL_law_446 : decode cL_law 446 = .ok (.invokestatic 133, 3) := by decide +kernel
theorem dL_law_449 : decode cL_law 449 = .ok (.istore 5, 2) := by decide +kernel
theorem dL_law_451 : decode cL_law 451 = .ok (.aload_n 2, 1) := by decide +kernel
theorem dL_law_452 : decode cL_law 452 = .ok (.aload_n 0, 1) := by decide +kernel
theorem dL_law_453 : decode cL_law 453 = .ok (.iload 4, 2) := by decide +kernel
theorem dL_law_455 : decode cL_law 455 = .ok (.iconst 1, 1) := by decide +kernel
theorem dL_law_456 : decode cL_law 456 = .ok (.iadd, 1) := by decide +kernel
theorem dL_law_457 : decode cL_law 457 = .ok (.iaload, 1) := by decide +kernel
theorem dL_law_458 : decode cL_law 458 = .ok (.aload_n 0, 1) := by decide +kernel
theorem dL_law_459 : decode cL_law 459 = .ok (.iload 4, 2) := by decide +kernel
theorem dL_law_461 : decode cL_law 461 = .ok (.iconst 2, 1) := by decide +kernel
theorem dL_law_462 : decode cL_law 462 = .ok (.iadd, 1) := by decide +kernel
theorem dL_law_463 : decode cL_law 463 = .ok (.iaload, 1) := by decide +kernel
theorem dL_law_464 : decode cL_law 464 = .ok (.invokevirtual 135, 3) := by decide +kernel
theorem dL_law_467 : decode cL_law 467 = .ok (.istore 6, 2) := by decide +kernel
theorem dL_law_469 : decode cL_law 469 = .ok (.aload_n 2, 1) := by decide +kernel
theorem dL_law_470 : decode cL_law 470 = .ok (.invokevirtual 120, 3) := by decide +kernel
theorem dL_law_473 : decode cL_law 473 = .ok (.iload 5, 2) := by decide +kernel
theorem dL_law_475 : decode cL_law 475 = .ok (.if_icmp .eq 5, 3) := by decide +kernel
theorem dL_law_478 : decode cL_law 478 = .ok (.iconst 0, 1) := by decide +kernel
theorem dL_law_479 : decode cL_law 479 = .ok (.ireturn, 1) := by decide +kernel
theorem dL_law_480 : decode cL_law 480 = .ok (.iload 5, 2) := by decide +kernel
theorem dL_law_482 : decode cL_law 482 = .ok (.ifCond .ne 15, 3) := by decide +kernel
theorem dL_law_485 : decode cL_law 485 = .ok (.aload_n 3, 1) := by decide +kernel
theorem dL_law_486 : decode cL_law 486 = .ok (.iconst 0, 1) := by decide +kernel
theorem dL_law_487 : decode cL_law 487 = .ok (.laload, 1) := by decide +kernel
theorem dL_law_488 : decode cL_law 488 = .ok (.iload 6, 2) := by decide +kernel
theorem dL_law_490 : decode cL_law 490 = .ok (.i2l, 1) := by decide +kernel
theorem dL_law_491 : decode cL_law 491 = .ok (.lcmp, 1) := by decide +kernel
theorem dL_law_492 : decode cL_law 492 = .ok (.ifCond .eq 5, 3) := by decide +kernel
theorem dL_law_495 : decode cL_law 495 = .ok (.iconst 0, 1) := by decide +kernel
theorem dL_law_496 : decode cL_law 496 = .ok (.ireturn, 1) := by decide +kernel
theorem dL_law_497 : decode cL_law 497 = .ok (.goto 1433, 3) := by decide +kernel
theorem dL_law_500 : decode cL_law 500 = .ok (.aload_n 1, 1) := by decide +kernel
theorem dL_law_501 : decode cL_law 501 = .ok (.aload_n 0, 1) := by decide +kernel
theorem dL_law_502 : decode cL_law 502 = .ok (.iload 4, 2) := by decide +kernel
theorem dL_law_504 : decode cL_law 504 = .ok (.iconst 1, 1) := by decide +kernel
theorem dL_law_505 : decode cL_law 505 = .ok (.iadd, 1) := by decide +kernel
theorem dL_law_506 : decode cL_law 506 = .ok (.iaload, 1) := by decide +kernel
theorem dL_law_507 : decode cL_law 507 = .ok (.aload_n 3, 1) := by decide +kernel
theorem dL_law_508 : decode cL_law 508 = .ok (.invokestatic 136, 3) := by decide +kernel
theorem dL_law_511 : decode cL_law 511 = .ok (.istore 5, 2) := by decide +kernel
theorem dL_law_513 : decode cL_law 513 = .ok (.aload_n 2, 1) := by decide +kernel
theorem dL_law_514 : decode cL_law 514 = .ok (.aload_n 0, 1) := by decide +kernel
theorem dL_law_515 : decode cL_law 515 = .ok (.iload 4, 2) := by decide +kernel
theorem dL_law_517 : decode cL_law 517 = .ok (.iconst 1, 1) := by decide +kernel
theorem dL_law_518 : decode cL_law 518 = .ok (.iadd, 1) := by decide +kernel
theorem dL_law_519 : decode cL_law 519 = .ok (.iaload, 1) := by decide +kernel
theorem dL_law_520 : decode cL_law 520 = .ok (.invokevirtual 138, 3) := by decide +kernel
theorem dL_law_523 : decode cL_law 523 = .ok (.istore 6, 2) := by decide +kernel
theorem dL_law_525 : decode cL_law 525 = .ok (.aload_n 2, 1) := by decide +kernel
theorem dL_law_526 : decode cL_law 526 = .ok (.invokevirtual 120, 3) := by decide +kernel
theorem dL_law_529 : decode cL_law 529 = .ok (.iload 5, 2) := by decide +kernel
theorem dL_law_531 : decode cL_law 531 = .ok (.if_icmp .eq 5, 3) := by decide +kernel
theorem dL_law_534 : decode cL_law 534 = .ok (.iconst 0, 1) := by decide +kernel
theorem dL_law_535 : decode cL_law 535 = .ok (.ireturn, 1) := by decide +kernel
theorem dL_law_536 : decode cL_law 536 = .ok (.iload 5, 2) := by decide +kernel
theorem dL_law_538 : decode cL_law 538 = .ok (.ifCond .ne 15, 3) := by decide +kernel
theorem dL_law_541 : decode cL_law 541 = .ok (.aload_n 3, 1) := by decide +kernel
theorem dL_law_542 : decode cL_law 542 = .ok (.iconst 0, 1) := by decide +kernel
theorem dL_law_543 : decode cL_law 543 = .ok (.laload, 1) := by decide +kernel
theorem dL_law_544 : decode cL_law 544 = .ok (.iload 6, 2) := by decide +kernel
theorem dL_law_546 : decode cL_law 546 = .ok (.i2l, 1) := by decide +kernel
theorem dL_law_547 : decode cL_law 547 = .ok (.lcmp, 1) := by decide +kernel
theorem dL_law_548 : decode cL_law 548 = .ok (.ifCond .eq 5, 3) := by decide +kernel
theorem dL_law_551 : decode cL_law 551 = .ok (.iconst 0, 1) := by decide +kernel
theorem dL_law_552 : decode cL_law 552 = .ok (.ireturn, 1) := by decide +kernel
theorem dL_law_553 : decode cL_law 553 = .ok (.goto 1377, 3) := by decide +kernel
theorem dL_law_556 : decode cL_law 556 = .ok (.aload_n 1, 1) := by decide +kernel
theorem dL_law_557 : decode cL_law 557 = .ok (.aload_n 0, 1) := by decide +kernel
theorem dL_law_558 : decode cL_law 558 = .ok (.iload 4, 2) := by decide +kernel
theorem dL_law_560 : decode cL_law 560 = .ok (.iconst 1, 1) := by decide +kernel
theorem dL_law_561 : decode cL_law 561 = .ok (.iadd, 1) := by decide +kernel
theorem dL_law_562 : decode cL_law 562 = .ok (.iaload, 1) := by decide +kernel
theorem dL_law_563 : decode cL_law 563 = .ok (.aload_n 0, 1) := by decide +kernel
theorem dL_law_564 : decode cL_law 564 = .ok (.iload 4, 2) := by decide +kernel
theorem dL_law_566 : decode cL_law 566 = .ok (.iconst 2, 1) := by decide +kernel
theorem dL_law_567 : decode cL_law 567 = .ok (.iadd, 1) := by decide +kernel
theorem dL_law_568 : decode cL_law 568 = .ok (.iaload, 1) := by decide +kernel
theorem dL_law_569 : decode cL_law 569 = .ok (.aload_n 3, 1) := by decide +kernel
theorem dL_law_570 : decode cL_law 570 = .ok (.invokestatic 139, 3) := by decide +kernel
theorem dL_law_573 : decode cL_law 573 = .ok (.istore 5, 2) := by decide +kernel
theorem dL_law_575 : decode cL_law 575 = .ok (.aload_n 2, 1) := by decide +kernel
theorem dL_law_576 : decode cL_law 576 = .ok (.aload_n 0, 1) := by decide +kernel
theorem dL_law_577 : decode cL_law 577 = .ok (.iload 4, 2) := by decide +kernel
theorem dL_law_579 : decode cL_law 579 = .ok (.iconst 1, 1) := by decide +kernel
theorem dL_law_580 : decode cL_law 580 = .ok (.iadd, 1) := by decide +kernel
theorem dL_law_581 : decode cL_law 581 = .ok (.iaload, 1) := by decide +kernel
theorem dL_law_582 : decode cL_law 582 = .ok (.aload_n 0, 1) := by decide +kernel
theorem dL_law_583 : decode cL_law 583 = .ok (.iload 4, 2) := by decide +kernel
theorem dL_law_585 : decode cL_law 585 = .ok (.iconst 2, 1) := by decide +kernel
theorem dL_law_586 : decode cL_law 586 = .ok (.iadd, 1) := by decide +kernel
theorem dL_law_587 : decode cL_law 587 = .ok (.iaload, 1) := by decide +kernel
theorem dL_law_588 : decode cL_law 588 = .ok (.invokevirtual 141, 3) := by decide +kernel
theorem dL_law_591 : decode cL_law 591 = .ok (.istore 6, 2) := by decide +kernel
theorem dL_law_593 : decode cL_law 593 = .ok (.aload_n 2, 1) := by decide +kernel
theorem dL_law_594 : decode cL_law 594 = .ok (.invokevirtual 120, 3) := by decide +kernel
theorem dL_law_597 : decode cL_law 597 = .ok (.iload 5, 2) := by decide +kernel
theorem dL_law_599 : decode cL_law 599 = .ok (.if_icmp .eq 5, 3) := by decide +kernel
theorem dL_law_602 : decode cL_law 602 = .ok (.iconst 0, 1) := by decide +kernel
theorem dL_law_603 : decode cL_law 603 = .ok (.ireturn, 1) := by decide +kernel
theorem dL_law_604 : decode cL_law 604 = .ok (.iload 5, 2) := by decide +kernel
theorem dL_law_606 : decode cL_law 606 = .ok (.ifCond .ne 15, 3) := by decide +kernel
theorem dL_law_609 : decode cL_law 609 = .ok (.aload_n 3, 1) := by decide +kernel
theorem dL_law_610 : decode cL_law 610 = .ok (.iconst 0, 1) := by decide +kernel
theorem dL_law_611 : decode cL_law 611 = .ok (.laload, 1) := by decide +kernel
theorem dL_law_612 : decode cL_law 612 = .ok (.iload 6, 2) := by decide +kernel
theorem dL_law_614 : decode cL_law 614 = .ok (.i2l, 1) := by decide +kernel
theorem dL_law_615 : decode cL_law 615 = .ok (.lcmp, 1) := by decide +kernel
theorem dL_law_616 : decode cL_law 616 = .ok (.ifCond .eq 5, 3) := by decide +kernel
theorem dL_law_619 : decode cL_law 619 = .ok (.iconst 0, 1) := by decide +kernel
theorem dL_law_620 : decode cL_law 620 = .ok (.ireturn, 1) := by decide +kernel
theorem dL_law_621 : decode cL_law 621 = .ok (.goto 1309, 3) := by decide +kernel
theorem dL_law_624 : decode cL_law 624 = .ok (.aload_n 1, 1) := by decide +kernel
theorem dL_law_625 : decode cL_law 625 = .ok (.aload_n 0, 1) := by decide +kernel
theorem dL_law_626 : decode cL_law 626 = .ok (.iload 4, 2) := by decide +kernel
theorem dL_law_628 : decode cL_law 628 = .ok (.iconst 1, 1) := by decide +kernel
theorem dL_law_629 : decode cL_law 629 = .ok (.iadd, 1) := by decide +kernel
theorem dL_law_630 : decode cL_law 630 = .ok (.iaload, 1) := by decide +kernel
theorem dL_law_631 : decode cL_law 631 = .ok (.aload_n 0, 1) := by decide +kernel
theorem dL_law_632 : decode cL_law 632 = .ok (.iload 4, 2) := by decide +kernel
theorem dL_law_634 : decode cL_law 634 = .ok (.iconst 2, 1) := by decide +kernel
theorem dL_law_635 : decode cL_law 635 = .ok (.iadd, 1) := by decide +kernel
theorem dL_law_636 : decode cL_law 636 = .ok (.iaload, 1) := by decide +kernel
theorem dL_law_637 : decode cL_law 637 = .ok (.aload_n 0, 1) := by decide +kernel
theorem dL_law_638 : decode cL_law 638 = .ok (.iload 4, 2) := by decide +kernel
theorem dL_law_640 : decode cL_law 640 = .ok (.iconst 3, 1) := by decide +kernel
theorem dL_law_641 : decode cL_law 641 = .ok (.iadd, 1) := by decide +kernel
theorem dL_law_642 : decode cL_law 642 = .ok (.iaload, 1) := by decide +kernel
theorem dL_law_643 : decode cL_law 643 = .ok (.aload_n 0, 1) := by decide +kernel
theorem dL_law_644 : decode cL_law 644 = .ok (.iload 4, 2) := by decide +kernel
theorem dL_law_646 : decode cL_law 646 = .ok (.iconst 4, 1) := by decide +kernel
theorem dL_law_647 : decode cL_law 647 = .ok (.iadd, 1) := by decide +kernel
theorem dL_law_648 : decode cL_law 648 = .ok (.iaload, 1) := by decide +kernel
theorem dL_law_649 : decode cL_law 649 = .ok (.aload_n 3, 1) := by decide +kernel
theorem dL_law_650 : decode cL_law 650 = .ok (.invokestatic 142, 3) := by decide +kernel
theorem dL_law_653 : decode cL_law 653 = .ok (.istore 5, 2) := by decide +kernel
theorem dL_law_655 : decode cL_law 655 = .ok (.aload_n 2, 1) := by decide +kernel
theorem dL_law_656 : decode cL_law 656 = .ok (.aload_n 0, 1) := by decide +kernel
theorem dL_law_657 : decode cL_law 657 = .ok (.iload 4, 2) := by decide +kernel
theorem dL_law_659 : decode cL_law 659 = .ok (.iconst 1, 1) := by decide +kernel
theorem dL_law_660 : decode cL_law 660 = .ok (.iadd, 1) := by decide +kernel
theorem dL_law_661 : decode cL_law 661 = .ok (.iaload, 1) := by decide +kernel
theorem dL_law_662 : decode cL_law 662 = .ok (.aload_n 0, 1) := by decide +kernel
theorem dL_law_663 : decode cL_law 663 = .ok (.iload 4, 2) := by decide +kernel
theorem dL_law_665 : decode cL_law 665 = .ok (.iconst 2, 1) := by decide +kernel
theorem dL_law_666 : decode cL_law 666 = .ok (.iadd, 1) := by decide +kernel
theorem dL_law_667 : decode cL_law 667 = .ok (.iaload, 1) := by decide +kernel
theorem dL_law_668 : decode cL_law 668 = .ok (.aload_n 0, 1) := by decide +kernel
theorem dL_law_669 : decode cL_law 669 = .ok (.iload 4, 2) := by decide +kernel
theorem dL_law_671 : decode cL_law 671 = .ok (.iconst 3, 1) := by decide +kernel
theorem dL_law_672 : decode cL_law 672 = .ok (.iadd, 1) := by decide +kernel
theorem dL_law_673 : decode cL_law 673 = .ok (.iaload, 1) := by decide +kernel
theorem dL_law_674 : decode cL_law 674 = .ok (.aload_n 0, 1) := by decide +kernel
theorem dL_law_675 : decode cL_law 675 = .ok (.iload 4, 2) := by decide +kernel
theorem dL_law_677 : decode cL_law 677 = .ok (.iconst 4, 1) := by decide +kernel
theorem dL_law_678 : decode cL_law 678 = .ok (.iadd, 1) := by decide +kernel
theorem dL_law_679 : decode cL_law 679 = .ok (.iaload, 1) := by decide +kernel
theorem dL_law_680 : decode cL_law 680 = .ok (.invokevirtual 145, 3) := by decide +kernel
theorem dL_law_683 : decode cL_law 683 = .ok (.istore 6, 2) := by decide +kernel
theorem dL_law_685 : decode cL_law 685 = .ok (.aload_n 2, 1) := by decide +kernel
theorem dL_law_686 : decode cL_law 686 = .ok (.invokevirtual 120, 3) := by decide +kernel
theorem dL_law_689 : decode cL_law 689 = .ok (.iload 5, 2) := by decide +kernel
theorem dL_law_691 : decode cL_law 691 = .ok (.if_icmp .eq 5, 3) := by decide +kernel
theorem dL_law_694 : decode cL_law 694 = .ok (.iconst 0, 1) := by decide +kernel
theorem dL_law_695 : decode cL_law 695 = .ok (.ireturn, 1) := by decide +kernel
theorem dL_law_696 : decode cL_law 696 = .ok (.iload 5, 2) := by decide +kernel
theorem dL_law_698 : decode cL_law 698 = .ok (.ifCond .ne 15, 3) := by decide +kernel
theorem dL_law_701 : decode cL_law 701 = .ok (.aload_n 3, 1) := by decide +kernel
theorem dL_law_702 : decode cL_law 702 = .ok (.iconst 0, 1) := by decide +kernel
theorem dL_law_703 : decode cL_law 703 = .ok (.laload, 1) := by decide +kernel
theorem dL_law_704 : decode cL_law 704 = .ok (.iload 6, 2) := by decide +kernel
theorem dL_law_706 : decode cL_law 706 = .ok (.i2l, 1) := by decide +kernel
theorem dL_law_707 : decode cL_law 707 = .ok (.lcmp, 1) := by decide +kernel
theorem dL_law_708 : decode cL_law 708 = .ok (.ifCond .eq 5, 3) := by decide +kernel
theorem dL_law_711 : decode cL_law 711 = .ok (.iconst 0, 1) := by decide +kernel
theorem dL_law_712 : decode cL_law 712 = .ok (.ireturn, 1) := by decide +kernel
theorem dL_law_713 : decode cL_law 713 = .ok (.goto 1217, 3) := by decide +kernel
theorem dL_law_716 : decode cL_law 716 = .ok (.aload_n 1, 1) := by decide +kernel
theorem dL_law_717 : decode cL_law 717 = .ok (.aload_n 0, 1) := by decide +kernel
theorem dL_law_718 : decode cL_law 718 = .ok (.iload 4, 2) := by decide +kernel
theorem dL_law_720 : decode cL_law 720 = .ok (.iconst 1, 1) := by decide +kernel
theorem dL_law_721 : decode cL_law 721 = .ok (.iadd, 1) := by decide +kernel
theorem dL_law_722 : decode cL_law 722 = .ok (.iaload, 1) := by decide +kernel
theorem dL_law_723 : decode cL_law 723 = .ok (.aload_n 3, 1) := by decide +kernel
theorem dL_law_724 : decode cL_law 724 = .ok (.invokestatic 146, 3) := by decide +kernel
theorem dL_law_727 : decode cL_law 727 = .ok (.istore 5, 2) := by decide +kernel
theorem dL_law_729 : decode cL_law 729 = .ok (.aload_n 2, 1) := by decide +kernel
theorem dL_law_730 : decode cL_law 730 = .ok (.aload_n 0, 1) := by decide +kernel
theorem dL_law_731 : decode cL_law 731 = .ok (.iload 4, 2) := by decide +kernel
theorem dL_law_733 : decode cL_law 733 = .ok (.iconst 1, 1) := by decide +kernel
theorem dL_law_734 : decode cL_law 734 = .ok (.iadd, 1) := by decide +kernel
theorem dL_law_735 : decode cL_law 735 = .ok (.iaload, 1) := by decide +kernel
theorem dL_law_736 : decode cL_law 736 = .ok (.invokevirtual 148, 3) := by decide +kernel
theorem dL_law_739 : decode cL_law 739 = .ok (.istore 6, 2) := by decide +kernel
theorem dL_law_741 : decode cL_law 741 = .ok (.aload_n 2, 1) := by decide +kernel
theorem dL_law_742 : decode cL_law 742 = .ok (.invokevirtual 120, 3) := by decide +kernel
theorem dL_law_745 : decode cL_law 745 = .ok (.iload 5, 2) := by decide +kernel
theorem dL_law_747 : decode cL_law 747 = .ok (.if_icmp .eq 5, 3) := by decide +kernel
theorem dL_law_750 : decode cL_law 750 = .ok (.iconst 0, 1) := by decide +kernel
theorem dL_law_751 : decode cL_law 751 = .ok (.ireturn, 1) := by decide +kernel
theorem dL_law_752 : decode cL_law 752 = .ok (.iload 5, 2) := by decide +kernel
theorem dL_law_754 : decode cL_law 754 = .ok (.ifCond .ne 15, 3) := by decide +kernel
theorem dL_law_757 : decode cL_law 757 = .ok (.aload_n 3, 1) := by decide +kernel
theorem dL_law_758 : decode cL_law 758 = .ok (.iconst 0, 1) := by decide +kernel
theorem dL_law_759 : decode cL_law 759 = .ok (.laload, 1) := by decide +kernel
theorem dL_law_760 : decode cL_law 760 = .ok (.iload 6, 2) := by decide +kernel
theorem dL_law_762 : decode cL_law 762 = .ok (.i2l, 1) := by decide +kernel
theorem dL_law_763 : decode cL_law 763 = .ok (.lcmp, 1) := by decide +kernel
theorem dL_law_764 : decode cL_law 764 = .ok (.ifCond .eq 5, 3) := by decide +kernel
theorem dL_law_767 : decode cL_law 767 = .ok (.iconst 0, 1) := by decide +kernel
theorem dL_law_768 : decode cL_law 768 = .ok (.ireturn, 1) := by decide +kernel
theorem dL_law_769 : decode cL_law 769 = .ok (.goto 1161, 3) := by decide +kernel
theorem dL_law_772 : decode cL_law 772 = .ok (.aload_n 1, 1) := by decide +kernel
theorem dL_law_773 : decode cL_law 773 = .ok (.aload_n 3, 1) := by decide +kernel
theorem dL_law_774 : decode cL_law 774 = .ok (.invokestatic 149, 3) := by decide +kernel
theorem dL_law_777 : decode cL_law 777 = .ok (.istore 5, 2) := by decide +kernel
theorem dL_law_779 : decode cL_law 779 = .ok (.aload_n 2, 1) := by decide +kernel
theorem dL_law_780 : decode cL_law 780 = .ok (.invokevirtual 152, 3) := by decide +kernel
theorem dL_law_783 : decode cL_law 783 = .ok (.istore 6, 2) := by decide +kernel
theorem dL_law_785 : decode cL_law 785 = .ok (.aload_n 2, 1) := by decide +kernel
theorem dL_law_786 : decode cL_law 786 = .ok (.invokevirtual 120, 3) := by decide +kernel
theorem dL_law_789 : decode cL_law 789 = .ok (.iload 5, 2) := by decide +kernel
theorem dL_law_791 : decode cL_law 791 = .ok (.if_icmp .eq 5, 3) := by decide +kernel
theorem dL_law_794 : decode cL_law 794 = .ok (.iconst 0, 1) := by decide +kernel
theorem dL_law_795 : decode cL_law 795 = .ok (.ireturn, 1) := by decide +kernel
theorem dL_law_796 : decode cL_law 796 = .ok (.iload 5, 2) := by decide +kernel
theorem dL_law_798 : decode cL_law 798 = .ok (.ifCond .ne 15, 3) := by decide +kernel
theorem dL_law_801 : decode cL_law 801 = .ok (.aload_n 3, 1) := by decide +kernel
theorem dL_law_802 : decode cL_law 802 = .ok (.iconst 0, 1) := by decide +kernel
theorem dL_law_803 : decode cL_law 803 = .ok (.laload, 1) := by decide +kernel
theorem dL_law_804 : decode cL_law 804 = .ok (.iload 6, 2) := by decide +kernel
theorem dL_law_806 : decode cL_law 806 = .ok (.i2l, 1) := by decide +kernel
theorem dL_law_807 : decode cL_law 807 = .ok (.lcmp, 1) := by decide +kernel
theorem dL_law_808 : decode cL_law 808 = .ok (.ifCond .eq 5, 3) := by decide +kernel
theorem dL_law_811 : decode cL_law 811 = .ok (.iconst 0, 1) := by decide +kernel
theorem dL_law_812 : decode cL_law 812 = .ok (.ireturn, 1) := by decide +kernel
theorem dL_law_813 : decode cL_law 813 = .ok (.goto 1117, 3) := by decide +kernel
theorem dL_law_816 : decode cL_law 816 = .ok (.aload_n 1, 1) := by decide +kernel
theorem dL_law_817 : decode cL_law 817 = .ok (.invokevirtual 153, 3) := by decide +kernel
theorem dL_law_820 : decode cL_law 820 = .ok (.aload_n 2, 1) := by decide +kernel
theorem dL_law_821 : decode cL_law 821 = .ok (.invokevirtual 156, 3) := by decide +kernel
theorem dL_law_824 : decode cL_law 824 = .ok (.if_icmp .eq 1106, 3) := by decide +kernel
theorem dL_law_827 : decode cL_law 827 = .ok (.iconst 0, 1) := by decide +kernel
theorem dL_law_828 : decode cL_law 828 = .ok (.ireturn, 1) := by decide +kernel
theorem dL_law_829 : decode cL_law 829 = .ok (.aload_n 1, 1) := by decide +kernel
theorem dL_law_830 : decode cL_law 830 = .ok (.aload_n 0, 1) := by decide +kernel
theorem dL_law_831 : decode cL_law 831 = .ok (.iload 4, 2) := by decide +kernel
theorem dL_law_833 : decode cL_law 833 = .ok (.iconst 1, 1) := by decide +kernel
theorem dL_law_834 : decode cL_law 834 = .ok (.iadd, 1) := by decide +kernel
theorem dL_law_835 : decode cL_law 835 = .ok (.iaload, 1) := by decide +kernel
theorem dL_law_836 : decode cL_law 836 = .ok (.aload_n 3, 1) := by decide +kernel
theorem dL_law_837 : decode cL_law 837 = .ok (.invokestatic 157, 3) := by decide +kernel
theorem dL_law_840 : decode cL_law 840 = .ok (.istore 5, 2) := by decide +kernel
theorem dL_law_842 : decode cL_law 842 = .ok (.aload_n 2, 1) := by decide +kernel
theorem dL_law_843 : decode cL_law 843 = .ok (.aload_n 0, 1) := by decide +kernel
theorem dL_law_844 : decode cL_law 844 = .ok (.iload 4, 2) := by decide +kernel
theorem dL_law_846 : decode cL_law 846 = .ok (.iconst 1, 1) := by decide +kernel
theorem dL_law_847 : decode cL_law 847 = .ok (.iadd, 1) := by decide +kernel
theorem dL_law_848 : decode cL_law 848 = .ok (.iaload, 1) := by decide +kernel
theorem dL_law_849 : decode cL_law 849 = .ok (.invokevirtual 159, 3) := by decide +kernel
theorem dL_law_852 : decode cL_law 852 = .ok (.istore 6, 2) := by decide +kernel
theorem dL_law_854 : decode cL_law 854 = .ok (.aload_n 2, 1) := by decide +kernel
theorem dL_law_855 : decode cL_law 855 = .ok (.invokevirtual 120, 3) := by decide +kernel
theorem dL_law_858 : decode cL_law 858 = .ok (.iload 5, 2) := by decide +kernel
theorem dL_law_860 : decode cL_law 860 = .ok (.if_icmp .eq 5, 3) := by decide +kernel
theorem dL_law_863 : decode cL_law 863 = .ok (.iconst 0, 1) := by decide +kernel
theorem dL_law_864 : decode cL_law 864 = .ok (.ireturn, 1) := by decide +kernel
theorem dL_law_865 : decode cL_law 865 = .ok (.iload 5, 2) := by decide +kernel
theorem dL_law_867 : decode cL_law 867 = .ok (.ifCond .ne 15, 3) := by decide +kernel
theorem dL_law_870 : decode cL_law 870 = .ok (.aload_n 3, 1) := by decide +kernel
theorem dL_law_871 : decode cL_law 871 = .ok (.iconst 0, 1) := by decide +kernel
theorem dL_law_872 : decode cL_law 872 = .ok (.laload, 1) := by decide +kernel
theorem dL_law_873 : decode cL_law 873 = .ok (.iload 6, 2) := by decide +kernel
theorem dL_law_875 : decode cL_law 875 = .ok (.i2l, 1) := by decide +kernel
theorem dL_law_876 : decode cL_law 876 = .ok (.lcmp, 1) := by decide +kernel
theorem dL_law_877 : decode cL_law 877 = .ok (.ifCond .eq 5, 3) := by decide +kernel
theorem dL_law_880 : decode cL_law 880 = .ok (.iconst 0, 1) := by decide +kernel
theorem dL_law_881 : decode cL_law 881 = .ok (.ireturn, 1) := by decide +kernel
theorem dL_law_882 : decode cL_law 882 = .ok (.goto 1048, 3) := by decide +kernel
theorem dL_law_885 : decode cL_law 885 = .ok (.aload_n 1, 1) := by decide +kernel
theorem dL_law_886 : decode cL_law 886 = .ok (.aload_n 0, 1) := by decide +kernel
theorem dL_law_887 : decode cL_law 887 = .ok (.iload 4, 2) := by decide +kernel
theorem dL_law_889 : decode cL_law 889 = .ok (.iconst 1, 1) := by decide +kernel
theorem dL_law_890 : decode cL_law 890 = .ok (.iadd, 1) := by decide +kernel
theorem dL_law_891 : decode cL_law 891 = .ok (.iaload, 1) := by decide +kernel
theorem dL_law_892 : decode cL_law 892 = .ok (.aload_n 3, 1) := by decide +kernel
theorem dL_law_893 : decode cL_law 893 = .ok (.invokestatic 160, 3) := by decide +kernel
theorem dL_law_896 : decode cL_law 896 = .ok (.istore 5, 2) := by decide +kernel
theorem dL_law_898 : decode cL_law 898 = .ok (.aload_n 2, 1) := by decide +kernel
theorem dL_law_899 : decode cL_law 899 = .ok (.aload_n 0, 1) := by decide +kernel
theorem dL_law_900 : decode cL_law 900 = .ok (.iload 4, 2) := by decide +kernel
theorem dL_law_902 : decode cL_law 902 = .ok (.iconst 1, 1) := by decide +kernel
theorem dL_law_903 : decode cL_law 903 = .ok (.iadd, 1) := by decide +kernel
theorem dL_law_904 : decode cL_law 904 = .ok (.iaload, 1) := by decide +kernel
theorem dL_law_905 : decode cL_law 905 = .ok (.invokevirtual 162, 3) := by decide +kernel
theorem dL_law_908 : decode cL_law 908 = .ok (.istore 6, 2) := by decide +kernel
theorem dL_law_910 : decode cL_law 910 = .ok (.aload_n 2, 1) := by decide +kernel
theorem dL_law_911 : decode cL_law 911 = .ok (.invokevirtual 120, 3) := by decide +kernel
theorem dL_law_914 : decode cL_law 914 = .ok (.iload 5, 2) := by decide +kernel
theorem dL_law_916 : decode cL_law 916 = .ok (.if_icmp .eq 5, 3) := by decide +kernel
theorem dL_law_919 : decode cL_law 919 = .ok (.iconst 0, 1) := by decide +kernel
theorem dL_law_920 : decode cL_law 920 = .ok (.ireturn, 1) := by decide +kernel
theorem dL_law_921 : decode cL_law 921 = .ok (.iload 5, 2) := by decide +kernel
theorem dL_law_923 : decode cL_law 923 = .ok (.ifCond .ne 15, 3) := by decide +kernel
theorem dL_law_926 : decode cL_law 926 = .ok (.aload_n 3, 1) := by decide +kernel
theorem dL_law_927 : decode cL_law 927 = .ok (.iconst 0, 1) := by decide +kernel
theorem dL_law_928 : decode cL_law 928 = .ok (.laload, 1) := by decide +kernel
theorem dL_law_929 : decode cL_law 929 = .ok (.iload 6, 2) := by decide +kernel
theorem dL_law_931 : decode cL_law 931 = .ok (.i2l, 1) := by decide +kernel
theorem dL_law_932 : decode cL_law 932 = .ok (.lcmp, 1) := by decide +kernel
theorem dL_law_933 : decode cL_law 933 = .ok (.ifCond .eq 5, 3) := by decide +kernel
theorem dL_law_936 : decode cL_law 936 = .ok (.iconst 0, 1) := by decide +kernel
theorem dL_law_937 : decode cL_law 937 = .ok (.ireturn, 1) := by decide +kernel
theorem dL_law_938 : decode cL_law 938 = .ok (.goto 992, 3) := by decide +kernel
theorem dL_law_941 : decode cL_law 941 = .ok (.aload_n 1, 1) := by decide +kernel
theorem dL_law_942 : decode cL_law 942 = .ok (.aload_n 0, 1) := by decide +kernel
theorem dL_law_943 : decode cL_law 943 = .ok (.iload 4, 2) := by decide +kernel
theorem dL_law_945 : decode cL_law 945 = .ok (.iconst 1, 1) := by decide +kernel
theorem dL_law_946 : decode cL_law 946 = .ok (.iadd, 1) := by decide +kernel
theorem dL_law_947 : decode cL_law 947 = .ok (.iaload, 1) := by decide +kernel
theorem dL_law_948 : decode cL_law 948 = .ok (.aload_n 3, 1) := by decide +kernel
theorem dL_law_949 : decode cL_law 949 = .ok (.invokestatic 163, 3) := by decide +kernel
theorem dL_law_952 : decode cL_law 952 = .ok (.istore 5, 2) := by decide +kernel
theorem dL_law_954 : decode cL_law 954 = .ok (.aload_n 2, 1) := by decide +kernel
theorem dL_law_955 : decode cL_law 955 = .ok (.aload_n 0, 1) := by decide +kernel
theorem dL_law_956 : decode cL_law 956 = .ok (.iload 4, 2) := by decide +kernel
theorem dL_law_958 : decode cL_law 958 = .ok (.iconst 1, 1) := by decide +kernel
theorem dL_law_959 : decode cL_law 959 = .ok (.iadd, 1) := by decide +kernel
theorem dL_law_960 : decode cL_law 960 = .ok (.iaload, 1) := by decide +kernel
theorem dL_law_961 : decode cL_law 961 = .ok (.invokevirtual 165, 3) := by decide +kernel
theorem dL_law_964 : decode cL_law 964 = .ok (.istore 6, 2) := by decide +kernel
theorem dL_law_966 : decode cL_law 966 = .ok (.aload_n 2, 1) := by decide +kernel
theorem dL_law_967 : decode cL_law 967 = .ok (.invokevirtual 120, 3) := by decide +kernel
theorem dL_law_970 : decode cL_law 970 = .ok (.iload 5, 2) := by decide +kernel
theorem dL_law_972 : decode cL_law 972 = .ok (.if_icmp .eq 5, 3) := by decide +kernel
theorem dL_law_975 : decode cL_law 975 = .ok (.iconst 0, 1) := by decide +kernel
theorem dL_law_976 : decode cL_law 976 = .ok (.ireturn, 1) := by decide +kernel
theorem dL_law_977 : decode cL_law 977 = .ok (.iload 5, 2) := by decide +kernel
theorem dL_law_979 : decode cL_law 979 = .ok (.ifCond .ne 15, 3) := by decide +kernel
theorem dL_law_982 : decode cL_law 982 = .ok (.aload_n 3, 1) := by decide +kernel
theorem dL_law_983 : decode cL_law 983 = .ok (.iconst 0, 1) := by decide +kernel
theorem dL_law_984 : decode cL_law 984 = .ok (.laload, 1) := by decide +kernel
theorem dL_law_985 : decode cL_law 985 = .ok (.iload 6, 2) := by decide +kernel
theorem dL_law_987 : decode cL_law 987 = .ok (.i2l, 1) := by decide +kernel
theorem dL_law_988 : decode cL_law 988 = .ok (.lcmp, 1) := by decide +kernel
theorem dL_law_989 : decode cL_law 989 = .ok (.ifCond .eq 5, 3) := by decide +kernel
theorem dL_law_992 : decode cL_law 992 = .ok (.iconst 0, 1) := by decide +kernel
theorem dL_law_993 : decode cL_law 993 = .ok (.ireturn, 1) := by decide +kernel
theorem dL_law_994 : decode cL_law 994 = .ok (.goto 936, 3) := by decide +kernel
theorem dL_law_997 : decode cL_law 997 = .ok (.aload_n 1, 1) := by decide +kernel
theorem dL_law_998 : decode cL_law 998 = .ok (.invokevirtual 166, 3) := by decide +kernel
theorem dL_law_1001 : decode cL_law 1001 = .ok (.aload_n 2, 1) := by decide +kernel
theorem dL_law_1002 : decode cL_law 1002 = .ok (.invokevirtual 169, 3) := by decide +kernel
theorem dL_law_1005 : decode cL_law 1005 = .ok (.if_icmp .eq 925, 3) := by decide +kernel
theorem dL_law_1008 : decode cL_law 1008 = .ok (.iconst 0, 1) := by decide +kernel
theorem dL_law_1009 : decode cL_law 1009 = .ok (.ireturn, 1) := by decide +kernel
theorem dL_law_1010 : decode cL_law 1010 = .ok (.aload_n 1, 1) := by decide +kernel
theorem dL_law_1011 : decode cL_law 1011 = .ok (.aload_n 0, 1) := by decide +kernel
theorem dL_law_1012 : decode cL_law 1012 = .ok (.iload 4, 2) := by decide +kernel
theorem dL_law_1014 : decode cL_law 1014 = .ok (.iconst 1, 1) := by decide +kernel
theorem dL_law_1015 : decode cL_law 1015 = .ok (.iadd, 1) := by decide +kernel
theorem dL_law_1016 : decode cL_law 1016 = .ok (.iaload, 1) := by decide +kernel
theorem dL_law_1017 : decode cL_law 1017 = .ok (.aload_n 0, 1) := by decide +kernel
theorem dL_law_1018 : decode cL_law 1018 = .ok (.iload 4, 2) := by decide +kernel
theorem dL_law_1020 : decode cL_law 1020 = .ok (.iconst 2, 1) := by decide +kernel
theorem dL_law_1021 : decode cL_law 1021 = .ok (.iadd, 1) := by decide +kernel
theorem dL_law_1022 : decode cL_law 1022 = .ok (.iaload, 1) := by decide +kernel
theorem dL_law_1023 : decode cL_law 1023 = .ok (.aload_n 3, 1) := by decide +kernel
theorem dL_law_1024 : decode cL_law 1024 = .ok (.invokestatic 170, 3) := by decide +kernel
theorem dL_law_1027 : decode cL_law 1027 = .ok (.istore 5, 2) := by decide +kernel
theorem dL_law_1029 : decode cL_law 1029 = .ok (.aload_n 2, 1) := by decide +kernel
theorem dL_law_1030 : decode cL_law 1030 = .ok (.aload_n 0, 1) := by decide +kernel
theorem dL_law_1031 : decode cL_law 1031 = .ok (.iload 4, 2) := by decide +kernel
theorem dL_law_1033 : decode cL_law 1033 = .ok (.iconst 1, 1) := by decide +kernel
theorem dL_law_1034 : decode cL_law 1034 = .ok (.iadd, 1) := by decide +kernel
theorem dL_law_1035 : decode cL_law 1035 = .ok (.iaload, 1) := by decide +kernel
theorem dL_law_1036 : decode cL_law 1036 = .ok (.aload_n 0, 1) := by decide +kernel
theorem dL_law_1037 : decode cL_law 1037 = .ok (.iload 4, 2) := by decide +kernel
theorem dL_law_1039 : decode cL_law 1039 = .ok (.iconst 2, 1) := by decide +kernel
theorem dL_law_1040 : decode cL_law 1040 = .ok (.iadd, 1) := by decide +kernel
theorem dL_law_1041 : decode cL_law 1041 = .ok (.iaload, 1) := by decide +kernel
theorem dL_law_1042 : decode cL_law 1042 = .ok (.invokevirtual 172, 3) := by decide +kernel
theorem dL_law_1045 : decode cL_law 1045 = .ok (.istore 6, 2) := by decide +kernel
theorem dL_law_1047 : decode cL_law 1047 = .ok (.aload_n 2, 1) := by decide +kernel
theorem dL_law_1048 : decode cL_law 1048 = .ok (.invokevirtual 120, 3) := by decide +kernel
theorem dL_law_1051 : decode cL_law 1051 = .ok (.iload 5, 2) := by decide +kernel
theorem dL_law_1053 : decode cL_law 1053 = .ok (.if_icmp .eq 5, 3) := by decide +kernel
theorem dL_law_1056 : decode cL_law 1056 = .ok (.iconst 0, 1) := by decide +kernel
theorem dL_law_1057 : decode cL_law 1057 = .ok (.ireturn, 1) := by decide +kernel
theorem dL_law_1058 : decode cL_law 1058 = .ok (.iload 5, 2) := by decide +kernel
theorem dL_law_1060 : decode cL_law 1060 = .ok (.ifCond .ne 15, 3) := by decide +kernel
theorem dL_law_1063 : decode cL_law 1063 = .ok (.aload_n 3, 1) := by decide +kernel
theorem dL_law_1064 : decode cL_law 1064 = .ok (.iconst 0, 1) := by decide +kernel
theorem dL_law_1065 : decode cL_law 1065 = .ok (.laload, 1) := by decide +kernel
theorem dL_law_1066 : decode cL_law 1066 = .ok (.iload 6, 2) := by decide +kernel
theorem dL_law_1068 : decode cL_law 1068 = .ok (.i2l, 1) := by decide +kernel
theorem dL_law_1069 : decode cL_law 1069 = .ok (.lcmp, 1) := by decide +kernel
theorem dL_law_1070 : decode cL_law 1070 = .ok (.ifCond .eq 5, 3) := by decide +kernel
theorem dL_law_1073 : decode cL_law 1073 = .ok (.iconst 0, 1) := by decide +kernel
theorem dL_law_1074 : decode cL_law 1074 = .ok (.ireturn, 1) := by decide +kernel
theorem dL_law_1075 : decode cL_law 1075 = .ok (.goto 855, 3) := by decide +kernel
theorem dL_law_1078 : decode cL_law 1078 = .ok (.aload_n 1, 1) := by decide +kernel
theorem dL_law_1079 : decode cL_law 1079 = .ok (.aload_n 0, 1) := by decide +kernel
theorem dL_law_1080 : decode cL_law 1080 = .ok (.iload 4, 2) := by decide +kernel
theorem dL_law_1082 : decode cL_law 1082 = .ok (.iconst 1, 1) := by decide +kernel
theorem dL_law_1083 : decode cL_law 1083 = .ok (.iadd, 1) := by decide +kernel
theorem dL_law_1084 : decode cL_law 1084 = .ok (.iaload, 1) := by decide +kernel
theorem dL_law_1085 : decode cL_law 1085 = .ok (.aload_n 3, 1) := by decide +kernel
theorem dL_law_1086 : decode cL_law 1086 = .ok (.invokestatic 173, 3) := by decide +kernel
theorem dL_law_1089 : decode cL_law 1089 = .ok (.istore 5, 2) := by decide +kernel
theorem dL_law_1091 : decode cL_law 1091 = .ok (.aload_n 2, 1) := by decide +kernel
theorem dL_law_1092 : decode cL_law 1092 = .ok (.aload_n 0, 1) := by decide +kernel
theorem dL_law_1093 : decode cL_law 1093 = .ok (.iload 4, 2) := by decide +kernel
theorem dL_law_1095 : decode cL_law 1095 = .ok (.iconst 1, 1) := by decide +kernel
theorem dL_law_1096 : decode cL_law 1096 = .ok (.iadd, 1) := by decide +kernel
theorem dL_law_1097 : decode cL_law 1097 = .ok (.iaload, 1) := by decide +kernel
theorem dL_law_1098 : decode cL_law 1098 = .ok (.invokevirtual 175, 3) := by decide +kernel
theorem dL_law_1101 : decode cL_law 1101 = .ok (.istore 6, 2) := by decide +kernel
theorem dL_law_1103 : decode cL_law 1103 = .ok (.aload_n 2, 1) := by decide +kernel
theorem dL_law_1104 : decode cL_law 1104 = .ok (.invokevirtual 120, 3) := by decide +kernel
theorem dL_law_1107 : decode cL_law 1107 = .ok (.iload 5, 2) := by decide +kernel
theorem dL_law_1109 : decode cL_law 1109 = .ok (.if_icmp .eq 5, 3) := by decide +kernel
theorem dL_law_1112 : decode cL_law 1112 = .ok (.iconst 0, 1) := by decide +kernel
theorem dL_law_1113 : decode cL_law 1113 = .ok (.ireturn, 1) := by decide +kernel
theorem dL_law_1114 : decode cL_law 1114 = .ok (.iload 5, 2) := by decide +kernel
theorem dL_law_1116 : decode cL_law 1116 = .ok (.ifCond .ne 15, 3) := by decide +kernel
theorem dL_law_1119 : decode cL_law 1119 = .ok (.aload_n 3, 1) := by decide +kernel
theorem dL_law_1120 : decode cL_law 1120 = .ok (.iconst 0, 1) := by decide +kernel
theorem dL_law_1121 : decode cL_law 1121 = .ok (.laload, 1) := by decide +kernel
theorem dL_law_1122 : decode cL_law 1122 = .ok (.iload 6, 2) := by decide +kernel
theorem dL_law_1124 : decode cL_law 1124 = .ok (.i2l, 1) := by decide +kernel
theorem dL_law_1125 : decode cL_law 1125 = .ok (.lcmp, 1) := by decide +kernel
theorem dL_law_1126 : decode cL_law 1126 = .ok (.ifCond .eq 5, 3) := by decide +kernel
theorem dL_law_1129 : decode cL_law 1129 = .ok (.iconst 0, 1) := by decide +kernel
theorem dL_law_1130 : decode cL_law 1130 = .ok (.ireturn, 1) := by decide +kernel
theorem dL_law_1131 : decode cL_law 1131 = .ok (.goto 799, 3) := by decide +kernel
theorem dL_law_1134 : decode cL_law 1134 = .ok (.aload_n 1, 1) := by decide +kernel
theorem dL_law_1135 : decode cL_law 1135 = .ok (.aload_n 3, 1) := by decide +kernel
theorem dL_law_1136 : decode cL_law 1136 = .ok (.invokestatic 176, 3) := by decide +kernel
theorem dL_law_1139 : decode cL_law 1139 = .ok (.istore 5, 2) := by decide +kernel
theorem dL_law_1141 : decode cL_law 1141 = .ok (.aload_n 2, 1) := by decide +kernel
theorem dL_law_1142 : decode cL_law 1142 = .ok (.invokevirtual 178, 3) := by decide +kernel
theorem dL_law_1145 : decode cL_law 1145 = .ok (.lstore 6, 2) := by decide +kernel
theorem dL_law_1147 : decode cL_law 1147 = .ok (.aload_n 2, 1) := by decide +kernel
theorem dL_law_1148 : decode cL_law 1148 = .ok (.invokevirtual 120, 3) := by decide +kernel
theorem dL_law_1151 : decode cL_law 1151 = .ok (.iload 5, 2) := by decide +kernel
theorem dL_law_1153 : decode cL_law 1153 = .ok (.if_icmp .eq 5, 3) := by decide +kernel
theorem dL_law_1156 : decode cL_law 1156 = .ok (.iconst 0, 1) := by decide +kernel
theorem dL_law_1157 : decode cL_law 1157 = .ok (.ireturn, 1) := by decide +kernel
theorem dL_law_1158 : decode cL_law 1158 = .ok (.iload 5, 2) := by decide +kernel
theorem dL_law_1160 : decode cL_law 1160 = .ok (.ifCond .ne 14, 3) := by decide +kernel
theorem dL_law_1163 : decode cL_law 1163 = .ok (.aload_n 3, 1) := by decide +kernel
theorem dL_law_1164 : decode cL_law 1164 = .ok (.iconst 0, 1) := by decide +kernel
theorem dL_law_1165 : decode cL_law 1165 = .ok (.laload, 1) := by decide +kernel
theorem dL_law_1166 : decode cL_law 1166 = .ok (.lload 6, 2) := by decide +kernel
theorem dL_law_1168 : decode cL_law 1168 = .ok (.lcmp, 1) := by decide +kernel
theorem dL_law_1169 : decode cL_law 1169 = .ok (.ifCond .eq 5, 3) := by decide +kernel
theorem dL_law_1172 : decode cL_law 1172 = .ok (.iconst 0, 1) := by decide +kernel
theorem dL_law_1173 : decode cL_law 1173 = .ok (.ireturn, 1) := by decide +kernel
theorem dL_law_1174 : decode cL_law 1174 = .ok (.goto 756, 3) := by decide +kernel
theorem dL_law_1177 : decode cL_law 1177 = .ok (.aload_n 1, 1) := by decide +kernel
theorem dL_law_1178 : decode cL_law 1178 = .ok (.aload_n 0, 1) := by decide +kernel
theorem dL_law_1179 : decode cL_law 1179 = .ok (.iload 4, 2) := by decide +kernel
theorem dL_law_1181 : decode cL_law 1181 = .ok (.iconst 1, 1) := by decide +kernel
theorem dL_law_1182 : decode cL_law 1182 = .ok (.iadd, 1) := by decide +kernel
theorem dL_law_1183 : decode cL_law 1183 = .ok (.iaload, 1) := by decide +kernel
theorem dL_law_1184 : decode cL_law 1184 = .ok (.aload_n 3, 1) := by decide +kernel
theorem dL_law_1185 : decode cL_law 1185 = .ok (.invokestatic 179, 3) := by decide +kernel
theorem dL_law_1188 : decode cL_law 1188 = .ok (.istore 5, 2) := by decide +kernel
theorem dL_law_1190 : decode cL_law 1190 = .ok (.aload_n 2, 1) := by decide +kernel
theorem dL_law_1191 : decode cL_law 1191 = .ok (.aload_n 0, 1) := by decide +kernel
theorem dL_law_1192 : decode cL_law 1192 = .ok (.iload 4, 2) := by decide +kernel
theorem dL_law_1194 : decode cL_law 1194 = .ok (.iconst 1, 1) := by decide +kernel
theorem dL_law_1195 : decode cL_law 1195 = .ok (.iadd, 1) := by decide +kernel
theorem dL_law_1196 : decode cL_law 1196 = .ok (.iaload, 1) := by decide +kernel
theorem dL_law_1197 : decode cL_law 1197 = .ok (.invokevirtual 181, 3) := by decide +kernel
theorem dL_law_1200 : decode cL_law 1200 = .ok (.istore 6, 2) := by decide +kernel
theorem dL_law_1202 : decode cL_law 1202 = .ok (.aload_n 2, 1) := by decide +kernel
theorem dL_law_1203 : decode cL_law 1203 = .ok (.invokevirtual 120, 3) := by decide +kernel
theorem dL_law_1206 : decode cL_law 1206 = .ok (.iload 5, 2) := by decide +kernel
theorem dL_law_1208 : decode cL_law 1208 = .ok (.if_icmp .eq 5, 3) := by decide +kernel
theorem dL_law_1211 : decode cL_law 1211 = .ok (.iconst 0, 1) := by decide +kernel
theorem dL_law_1212 : decode cL_law 1212 = .ok (.ireturn, 1) := by decide +kernel
theorem dL_law_1213 : decode cL_law 1213 = .ok (.iload 5, 2) := by decide +kernel
theorem dL_law_1215 : decode cL_law 1215 = .ok (.ifCond .ne 15, 3) := by decide +kernel
theorem dL_law_1218 : decode cL_law 1218 = .ok (.aload_n 3, 1) := by decide +kernel
theorem dL_law_1219 : decode cL_law 1219 = .ok (.iconst 0, 1) := by decide +kernel
theorem dL_law_1220 : decode cL_law 1220 = .ok (.laload, 1) := by decide +kernel
theorem dL_law_1221 : decode cL_law 1221 = .ok (.iload 6, 2) := by decide +kernel
theorem dL_law_1223 : decode cL_law 1223 = .ok (.i2l, 1) := by decide +kernel
theorem dL_law_1224 : decode cL_law 1224 = .ok (.lcmp, 1) := by decide +kernel
theorem dL_law_1225 : decode cL_law 1225 = .ok (.ifCond .eq 5, 3) := by decide +kernel
theorem dL_law_1228 : decode cL_law 1228 = .ok (.iconst 0, 1) := by decide +kernel
theorem dL_law_1229 : decode cL_law 1229 = .ok (.ireturn, 1) := by decide +kernel
theorem dL_law_1230 : decode cL_law 1230 = .ok (.goto 700, 3) := by decide +kernel
theorem dL_law_1233 : decode cL_law 1233 = .ok (.aload_n 1, 1) := by decide +kernel
theorem dL_law_1234 : decode cL_law 1234 = .ok (.aload_n 3, 1) := by decide +kernel
theorem dL_law_1235 : decode cL_law 1235 = .ok (.invokestatic 182, 3) := by decide +kernel
theorem dL_law_1238 : decode cL_law 1238 = .ok (.istore 5, 2) := by decide +kernel
theorem dL_law_1240 : decode cL_law 1240 = .ok (.aload_n 2, 1) := by decide +kernel
theorem dL_law_1241 : decode cL_law 1241 = .ok (.invokevirtual 184, 3) := by decide +kernel
theorem dL_law_1244 : decode cL_law 1244 = .ok (.lstore 6, 2) := by decide +kernel
theorem dL_law_1246 : decode cL_law 1246 = .ok (.aload_n 2, 1) := by decide +kernel
theorem dL_law_1247 : decode cL_law 1247 = .ok (.invokevirtual 120, 3) := by decide +kernel
theorem dL_law_1250 : decode cL_law 1250 = .ok (.iload 5, 2) := by decide +kernel
theorem dL_law_1252 : decode cL_law 1252 = .ok (.if_icmp .eq 5, 3) := by decide +kernel
theorem dL_law_1255 : decode cL_law 1255 = .ok (.iconst 0, 1) := by decide +kernel
theorem dL_law_1256 : decode cL_law 1256 = .ok (.ireturn, 1) := by decide +kernel
theorem dL_law_1257 : decode cL_law 1257 = .ok (.iload 5, 2) := by decide +kernel
theorem dL_law_1259 : decode cL_law 1259 = .ok (.ifCond .ne 14, 3) := by decide +kernel
theorem dL_law_1262 : decode cL_law 1262 = .ok (.aload_n 3, 1) := by decide +kernel
theorem dL_law_1263 : decode cL_law 1263 = .ok (.iconst 0, 1) := by decide +kernel
theorem dL_law_1264 : decode cL_law 1264 = .ok (.laload, 1) := by decide +kernel
theorem dL_law_1265 : decode cL_law 1265 = .ok (.lload 6, 2) := by decide +kernel
theorem dL_law_1267 : decode cL_law 1267 = .ok (.lcmp, 1) := by decide +kernel
theorem dL_law_1268 : decode cL_law 1268 = .ok (.ifCond .eq 5, 3) := by decide +kernel
theorem dL_law_1271 : decode cL_law 1271 = .ok (.iconst 0, 1) := by decide +kernel
theorem dL_law_1272 : decode cL_law 1272 = .ok (.ireturn, 1) := by decide +kernel
theorem dL_law_1273 : decode cL_law 1273 = .ok (.goto 657, 3) := by decide +kernel
theorem dL_law_1276 : decode cL_law 1276 = .ok (.aload_n 1, 1) := by decide +kernel
theorem dL_law_1277 : decode cL_law 1277 = .ok (.aload_n 3, 1) := by decide +kernel
theorem dL_law_1278 : decode cL_law 1278 = .ok (.invokestatic 185, 3) := by decide +kernel
theorem dL_law_1281 : decode cL_law 1281 = .ok (.istore 5, 2) := by decide +kernel
theorem dL_law_1283 : decode cL_law 1283 = .ok (.aload_n 2, 1) := by decide +kernel
theorem dL_law_1284 : decode cL_law 1284 = .ok (.invokevirtual 187, 3) := by decide +kernel
theorem dL_law_1287 : decode cL_law 1287 = .ok (.istore 6, 2) := by decide +kernel
theorem dL_law_1289 : decode cL_law 1289 = .ok (.aload_n 2, 1) := by decide +kernel
theorem dL_law_1290 : decode cL_law 1290 = .ok (.invokevirtual 120, 3) := by decide +kernel
theorem dL_law_1293 : decode cL_law 1293 = .ok (.iload 5, 2) := by decide +kernel
theorem dL_law_1295 : decode cL_law 1295 = .ok (.if_icmp .eq 5, 3) := by decide +kernel
theorem dL_law_1298 : decode cL_law 1298 = .ok (.iconst 0, 1) := by decide +kernel
theorem dL_law_1299 : decode cL_law 1299 = .ok (.ireturn, 1) := by decide +kernel
theorem dL_law_1300 : decode cL_law 1300 = .ok (.iload 5, 2) := by decide +kernel
theorem dL_law_1302 : decode cL_law 1302 = .ok (.ifCond .ne 15, 3) := by decide +kernel
theorem dL_law_1305 : decode cL_law 1305 = .ok (.aload_n 3, 1) := by decide +kernel
theorem dL_law_1306 : decode cL_law 1306 = .ok (.iconst 0, 1) := by decide +kernel
theorem dL_law_1307 : decode cL_law 1307 = .ok (.laload, 1) := by decide +kernel
theorem dL_law_1308 : decode cL_law 1308 = .ok (.iload 6, 2) := by decide +kernel
theorem dL_law_1310 : decode cL_law 1310 = .ok (.i2l, 1) := by decide +kernel
theorem dL_law_1311 : decode cL_law 1311 = .ok (.lcmp, 1) := by decide +kernel
theorem dL_law_1312 : decode cL_law 1312 = .ok (.ifCond .eq 5, 3) := by decide +kernel
theorem dL_law_1315 : decode cL_law 1315 = .ok (.iconst 0, 1) := by decide +kernel
theorem dL_law_1316 : decode cL_law 1316 = .ok (.ireturn, 1) := by decide +kernel
theorem dL_law_1317 : decode cL_law 1317 = .ok (.goto 613, 3) := by decide +kernel
theorem dL_law_1320 : decode cL_law 1320 = .ok (.aload_n 1, 1) := by decide +kernel
theorem dL_law_1321 : decode cL_law 1321 = .ok (.aload_n 3, 1) := by decide +kernel
theorem dL_law_1322 : decode cL_law 1322 = .ok (.invokestatic 188, 3) := by decide +kernel
theorem dL_law_1325 : decode cL_law 1325 = .ok (.istore 5, 2) := by decide +kernel
theorem dL_law_1327 : decode cL_law 1327 = .ok (.aload_n 2, 1) := by decide +kernel
theorem dL_law_1328 : decode cL_law 1328 = .ok (.invokevirtual 190, 3) := by decide +kernel
theorem dL_law_1331 : decode cL_law 1331 = .ok (.istore 6, 2) := by decide +kernel
theorem dL_law_1333 : decode cL_law 1333 = .ok (.aload_n 2, 1) := by decide +kernel
theorem dL_law_1334 : decode cL_law 1334 = .ok (.invokevirtual 120, 3) := by decide +kernel
theorem dL_law_1337 : decode cL_law 1337 = .ok (.iload 5, 2) := by decide +kernel
theorem dL_law_1339 : decode cL_law 1339 = .ok (.if_icmp .eq 5, 3) := by decide +kernel
theorem dL_law_1342 : decode cL_law 1342 = .ok (.iconst 0, 1) := by decide +kernel
theorem dL_law_1343 : decode cL_law 1343 = .ok (.ireturn, 1) := by decide +kernel
theorem dL_law_1344 : decode cL_law 1344 = .ok (.iload 5, 2) := by decide +kernel
theorem dL_law_1346 : decode cL_law 1346 = .ok (.ifCond .ne 15, 3) := by decide +kernel
theorem dL_law_1349 : decode cL_law 1349 = .ok (.aload_n 3, 1) := by decide +kernel
theorem dL_law_1350 : decode cL_law 1350 = .ok (.iconst 0, 1) := by decide +kernel
theorem dL_law_1351 : decode cL_law 1351 = .ok (.laload, 1) := by decide +kernel
theorem dL_law_1352 : decode cL_law 1352 = .ok (.iload 6, 2) := by decide +kernel
theorem dL_law_1354 : decode cL_law 1354 = .ok (.i2l, 1) := by decide +kernel
theorem dL_law_1355 : decode cL_law 1355 = .ok (.lcmp, 1) := by decide +kernel
theorem dL_law_1356 : decode cL_law 1356 = .ok (.ifCond .eq 5, 3) := by decide +kernel
theorem dL_law_1359 : decode cL_law 1359 = .ok (.iconst 0, 1) := by decide +kernel
theorem dL_law_1360 : decode cL_law 1360 = .ok (.ireturn, 1) := by decide +kernel
theorem dL_law_1361 : decode cL_law 1361 = .ok (.goto 569, 3) := by decide +kernel
theorem dL_law_1364 : decode cL_law 1364 = .ok (.aload_n 1, 1) := by decide +kernel
theorem dL_law_1365 : decode cL_law 1365 = .ok (.aload_n 0, 1) := by decide +kernel
theorem dL_law_1366 : decode cL_law 1366 = .ok (.iload 4, 2) := by decide +kernel
theorem dL_law_1368 : decode cL_law 1368 = .ok (.iconst 1, 1) := by decide +kernel
theorem dL_law_1369 : decode cL_law 1369 = .ok (.iadd, 1) := by decide +kernel
theorem dL_law_1370 : decode cL_law 1370 = .ok (.iaload, 1) := by decide +kernel
theorem dL_law_1371 : decode cL_law 1371 = .ok (.aload_n 3, 1) := by decide +kernel
theorem dL_law_1372 : decode cL_law 1372 = .ok (.invokestatic 191, 3) := by decide +kernel
theorem dL_law_1375 : decode cL_law 1375 = .ok (.istore 5, 2) := by decide +kernel
theorem dL_law_1377 : decode cL_law 1377 = .ok (.aload_n 2, 1) := by decide +kernel
theorem dL_law_1378 : decode cL_law 1378 = .ok (.aload_n 0, 1) := by decide +kernel
theorem dL_law_1379 : decode cL_law 1379 = .ok (.iload 4, 2) := by decide +kernel
theorem dL_law_1381 : decode cL_law 1381 = .ok (.iconst 1, 1) := by decide +kernel
theorem dL_law_1382 : decode cL_law 1382 = .ok (.iadd, 1) := by decide +kernel
theorem dL_law_1383 : decode cL_law 1383 = .ok (.iaload, 1) := by decide +kernel
theorem dL_law_1384 : decode cL_law 1384 = .ok (.invokevirtual 193, 3) := by decide +kernel
theorem dL_law_1387 : decode cL_law 1387 = .ok (.istore 6, 2) := by decide +kernel
theorem dL_law_1389 : decode cL_law 1389 = .ok (.aload_n 2, 1) := by decide +kernel
theorem dL_law_1390 : decode cL_law 1390 = .ok (.invokevirtual 120, 3) := by decide +kernel
theorem dL_law_1393 : decode cL_law 1393 = .ok (.iload 5, 2) := by decide +kernel
theorem dL_law_1395 : decode cL_law 1395 = .ok (.if_icmp .eq 5, 3) := by decide +kernel
theorem dL_law_1398 : decode cL_law 1398 = .ok (.iconst 0, 1) := by decide +kernel
theorem dL_law_1399 : decode cL_law 1399 = .ok (.ireturn, 1) := by decide +kernel
theorem dL_law_1400 : decode cL_law 1400 = .ok (.iload 5, 2) := by decide +kernel
theorem dL_law_1402 : decode cL_law 1402 = .ok (.ifCond .ne 15, 3) := by decide +kernel
theorem dL_law_1405 : decode cL_law 1405 = .ok (.aload_n 3, 1) := by decide +kernel
theorem dL_law_1406 : decode cL_law 1406 = .ok (.iconst 0, 1) := by decide +kernel
theorem dL_law_1407 : decode cL_law 1407 = .ok (.laload, 1) := by decide +kernel
theorem dL_law_1408 : decode cL_law 1408 = .ok (.iload 6, 2) := by decide +kernel
theorem dL_law_1410 : decode cL_law 1410 = .ok (.i2l, 1) := by decide +kernel
theorem dL_law_1411 : decode cL_law 1411 = .ok (.lcmp, 1) := by decide +kernel
theorem dL_law_1412 : decode cL_law 1412 = .ok (.ifCond .eq 5, 3) := by decide +kernel
theorem dL_law_1415 : decode cL_law 1415 = .ok (.iconst 0, 1) := by decide +kernel
theorem dL_law_1416 : decode cL_law 1416 = .ok (.ireturn, 1) := by decide +kernel
theorem dL_law_1417 : decode cL_law 1417 = .ok (.goto 513, 3) := by decide +kernel
theorem dL_law_1420 : decode cL_law 1420 = .ok (.aload_n 1, 1) := by decide +kernel
theorem dL_law_1421 : decode cL_law 1421 = .ok (.invokevirtual 194, 3) := by decide +kernel
theorem dL_law_1424 : decode cL_law 1424 = .ok (.aload_n 2, 1) := by decide +kernel
theorem dL_law_1425 : decode cL_law 1425 = .ok (.invokevirtual 197, 3) := by decide +kernel
theorem dL_law_1428 : decode cL_law 1428 = .ok (.if_icmp .eq 502, 3) := by decide +kernel
theorem dL_law_1431 : decode cL_law 1431 = .ok (.iconst 0, 1) := by decide +kernel
theorem dL_law_1432 : decode cL_law 1432 = .ok (.ireturn, 1) := by decide +kernel
theorem dL_law_1433 : decode cL_law 1433 = .ok (.aload_n 1, 1) := by decide +kernel
theorem dL_law_1434 : decode cL_law 1434 = .ok (.invokevirtual 198, 3) := by decide +kernel
theorem dL_law_1437 : decode cL_law 1437 = .ok (.aload_n 2, 1) := by decide +kernel
theorem dL_law_1438 : decode cL_law 1438 = .ok (.invokevirtual 201, 3) := by decide +kernel
theorem dL_law_1441 : decode cL_law 1441 = .ok (.if_icmp .eq 489, 3) := by decide +kernel
theorem dL_law_1444 : decode cL_law 1444 = .ok (.iconst 0, 1) := by decide +kernel
theorem dL_law_1445 : decode cL_law 1445 = .ok (.ireturn, 1) := by decide +kernel
theorem dL_law_1446 : decode cL_law 1446 = .ok (.aload_n 1, 1) := by decide +kernel
theorem dL_law_1447 : decode cL_law 1447 = .ok (.aload_n 0, 1) := by decide +kernel
theorem dL_law_1448 : decode cL_law 1448 = .ok (.iload 4, 2) := by decide +kernel
theorem dL_law_1450 : decode cL_law 1450 = .ok (.iconst 1, 1) := by decide +kernel
theorem dL_law_1451 : decode cL_law 1451 = .ok (.iadd, 1) := by decide +kernel
theorem dL_law_1452 : decode cL_law 1452 = .ok (.iaload, 1) := by decide +kernel
theorem dL_law_1453 : decode cL_law 1453 = .ok (.ifCond .eq 7, 3) := by decide +kernel
theorem dL_law_1456 : decode cL_law 1456 = .ok (.iconst 1, 1) := by decide +kernel
theorem dL_law_1457 : decode cL_law 1457 = .ok (.goto 4, 3) := by decide +kernel
theorem dL_law_1460 : decode cL_law 1460 = .ok (.iconst 0, 1) := by decide +kernel
theorem dL_law_1461 : decode cL_law 1461 = .ok (.aload_n 0, 1) := by decide +kernel
theorem dL_law_1462 : decode cL_law 1462 = .ok (.iload 4, 2) := by decide +kernel
theorem dL_law_1464 : decode cL_law 1464 = .ok (.iconst 2, 1) := by decide +kernel
theorem dL_law_1465 : decode cL_law 1465 = .ok (.iadd, 1) := by decide +kernel
theorem dL_law_1466 : decode cL_law 1466 = .ok (.iaload, 1) := by decide +kernel
theorem dL_law_1467 : decode cL_law 1467 = .ok (.aload_n 3, 1) := by decide +kernel
theorem dL_law_1468 : decode cL_law 1468 = .ok (.invokestatic 202, 3) := by decide +kernel
theorem dL_law_1471 : decode cL_law 1471 = .ok (.istore 5, 2) := by decide +kernel
theorem dL_law_1473 : decode cL_law 1473 = .ok (.aload_n 2, 1) := by decide +kernel
theorem dL_law_1474 : decode cL_law 1474 = .ok (.aload_n 0, 1) := by decide +kernel
theorem dL_law_1475 : decode cL_law 1475 = .ok (.iload 4, 2) := by decide +kernel
theorem dL_law_1477 : decode cL_law 1477 = .ok (.iconst 1, 1) := by decide +kernel
theorem dL_law_1478 : decode cL_law 1478 = .ok (.iadd, 1) := by decide +kernel
theorem dL_law_1479 : decode cL_law 1479 = .ok (.iaload, 1) := by decide +kernel
theorem dL_law_1480 : decode cL_law 1480 = .ok (.ifCond .eq 7, 3) := by decide +kernel
theorem dL_law_1483 : decode cL_law 1483 = .ok (.iconst 1, 1) := by decide +kernel
theorem dL_law_1484 : decode cL_law 1484 = .ok (.goto 4, 3) := by decide +kernel
theorem dL_law_1487 : decode cL_law 1487 = .ok (.iconst 0, 1) := by decide +kernel
theorem dL_law_1488 : decode cL_law 1488 = .ok (.aload_n 0, 1) := by decide +kernel
theorem dL_law_1489 : decode cL_law 1489 = .ok (.iload 4, 2) := by decide +kernel
theorem dL_law_1491 : decode cL_law 1491 = .ok (.iconst 2, 1) := by decide +kernel
theorem dL_law_1492 : decode cL_law 1492 = .ok (.iadd, 1) := by decide +kernel
theorem dL_law_1493 : decode cL_law 1493 = .ok (.iaload, 1) := by decide +kernel
theorem dL_law_1494 : decode cL_law 1494 = .ok (.invokevirtual 205, 3) := by decide +kernel
theorem dL_law_1497 : decode cL_law 1497 = .ok (.istore 6, 2) := by decide +kernel
theorem dL_law_1499 : decode cL_law 1499 = .ok (.aload_n 2, 1) := by decide +kernel
theorem dL_law_1500 : decode cL_law 1500 = .ok (.invokevirtual 120, 3) := by decide +kernel
theorem dL_law_1503 : decode cL_law 1503 = .ok (.iload 5, 2) := by decide +kernel
theorem dL_law_1505 : decode cL_law 1505 = .ok (.if_icmp .eq 5, 3) := by decide +kernel
theorem dL_law_1508 : decode cL_law 1508 = .ok (.iconst 0, 1) := by decide +kernel
theorem dL_law_1509 : decode cL_law 1509 = .ok (.ireturn, 1) := by decide +kernel
theorem dL_law_1510 : decode cL_law 1510 = .ok (.iload 5, 2) := by decide +kernel
theorem dL_law_1512 : decode cL_law 1512 = .ok (.ifCond .ne 15, 3) := by decide +kernel
theorem dL_law_1515 : decode cL_law 1515 = .ok (.aload_n 3, 1) := by decide +kernel
theorem dL_law_1516 : decode cL_law 1516 = .ok (.iconst 0, 1) := by decide +kernel
theorem dL_law_1517 : decode cL_law 1517 = .ok (.laload, 1) := by decide +kernel
theorem dL_law_1518 : decode cL_law 1518 = .ok (.iload 6, 2) := by decide +kernel
theorem dL_law_1520 : decode cL_law 1520 = .ok (.i2l, 1) := by decide +kernel
theorem dL_law_1521 : decode cL_law 1521 = .ok (.lcmp, 1) := by decide +kernel
theorem dL_law_1522 : decode cL_law 1522 = .ok (.ifCond .eq 5, 3) := by decide +kernel
theorem dL_law_1525 : decode cL_law 1525 = .ok (.iconst 0, 1) := by decide +kernel
theorem dL_law_1526 : decode cL_law 1526 = .ok (.ireturn, 1) := by decide +kernel
theorem dL_law_1527 : decode cL_law 1527 = .ok (.goto 403, 3) := by decide +kernel
theorem dL_law_1530 : decode cL_law 1530 = .ok (.aload_n 1, 1) := by decide +kernel
theorem dL_law_1531 : decode cL_law 1531 = .ok (.aload_n 0, 1) := by decide +kernel
theorem dL_law_1532 : decode cL_law 1532 = .ok (.iload 4, 2) := by decide +kernel
theorem dL_law_1534 : decode cL_law 1534 = .ok (.iconst 1, 1) := by decide +kernel
theorem dL_law_1535 : decode cL_law 1535 = .ok (.iadd, 1) := by decide +kernel
theorem dL_law_1536 : decode cL_law 1536 = .ok (.iaload, 1) := by decide +kernel
theorem dL_law_1537 : decode cL_law 1537 = .ok (.ifCond .eq 7, 3) := by decide +kernel
theorem dL_law_1540 : decode cL_law 1540 = .ok (.iconst 1, 1) := by decide +kernel
theorem dL_law_1541 : decode cL_law 1541 = .ok (.goto 4, 3) := by decide +kernel
theorem dL_law_1544 : decode cL_law 1544 = .ok (.iconst 0, 1) := by decide +kernel
theorem dL_law_1545 : decode cL_law 1545 = .ok (.aload_n 3, 1) := by decide +kernel
theorem dL_law_1546 : decode cL_law 1546 = .ok (.invokestatic 206, 3) := by decide +kernel
theorem dL_law_1549 : decode cL_law 1549 = .ok (.istore 5, 2) := by decide +kernel
theorem dL_law_1551 : decode cL_law 1551 = .ok (.aload_n 2, 1) := by decide +kernel
theorem dL_law_1552 : decode cL_law 1552 = .ok (.aload_n 0, 1) := by decide +kernel
theorem dL_law_1553 : decode cL_law 1553 = .ok (.iload 4, 2) := by decide +kernel
theorem dL_law_1555 : decode cL_law 1555 = .ok (.iconst 1, 1) := by decide +kernel
theorem dL_law_1556 : decode cL_law 1556 = .ok (.iadd, 1) := by decide +kernel
theorem dL_law_1557 : decode cL_law 1557 = .ok (.iaload, 1) := by decide +kernel
theorem dL_law_1558 : decode cL_law 1558 = .ok (.ifCond .eq 7, 3) := by decide +kernel
theorem dL_law_1561 : decode cL_law 1561 = .ok (.iconst 1, 1) := by decide +kernel
theorem dL_law_1562 : decode cL_law 1562 = .ok (.goto 4, 3) := by decide +kernel
theorem dL_law_1565 : decode cL_law 1565 = .ok (.iconst 0, 1) := by decide +kernel
theorem dL_law_1566 : decode cL_law 1566 = .ok (.invokevirtual 209, 3) := by decide +kernel
theorem dL_law_1569 : decode cL_law 1569 = .ok (.lstore 6, 2) := by decide +kernel
theorem dL_law_1571 : decode cL_law 1571 = .ok (.aload_n 2, 1) := by decide +kernel
theorem dL_law_1572 : decode cL_law 1572 = .ok (.invokevirtual 120, 3) := by decide +kernel
theorem dL_law_1575 : decode cL_law 1575 = .ok (.iload 5, 2) := by decide +kernel
theorem dL_law_1577 : decode cL_law 1577 = .ok (.if_icmp .eq 5, 3) := by decide +kernel
theorem dL_law_1580 : decode cL_law 1580 = .ok (.iconst 0, 1) := by decide +kernel
theorem dL_law_1581 : decode cL_law 1581 = .ok (.ireturn, 1) := by decide +kernel
theorem dL_law_1582 : decode cL_law 1582 = .ok (.iload 5, 2) := by decide +kernel
theorem dL_law_1584 : decode cL_law 1584 = .ok (.ifCond .ne 14, 3) := by decide +kernel
theorem dL_law_1587 : decode cL_law 1587 = .ok (.aload_n 3, 1) := by decide +kernel
theorem dL_law_1588 : decode cL_law 1588 = .ok (.iconst 0, 1) := by decide +kernel
theorem dL_law_1589 : decode cL_law 1589 = .ok (.laload, 1) := by decide +kernel
theorem dL_law_1590 : decode cL_law 1590 = .ok (.lload 6, 2) := by decide +kernel
theorem dL_law_1592 : decode cL_law 1592 = .ok (.lcmp, 1) := by decide +kernel
theorem dL_law_1593 : decode cL_law 1593 = .ok (.ifCond .eq 5, 3) := by decide +kernel
theorem dL_law_1596 : decode cL_law 1596 = .ok (.iconst 0, 1) := by decide +kernel
theorem dL_law_1597 : decode cL_law 1597 = .ok (.ireturn, 1) := by decide +kernel
theorem dL_law_1598 : decode cL_law 1598 = .ok (.goto 332, 3) := by decide +kernel
theorem dL_law_1601 : decode cL_law 1601 = .ok (.aload_n 1, 1) := by decide +kernel
theorem dL_law_1602 : decode cL_law 1602 = .ok (.aload_n 0, 1) := by decide +kernel
theorem dL_law_1603 : decode cL_law 1603 = .ok (.iload 4, 2) := by decide +kernel
theorem dL_law_1605 : decode cL_law 1605 = .ok (.iconst 1, 1) := by decide +kernel
theorem dL_law_1606 : decode cL_law 1606 = .ok (.iadd, 1) := by decide +kernel
theorem dL_law_1607 : decode cL_law 1607 = .ok (.iaload, 1) := by decide +kernel
theorem dL_law_1608 : decode cL_law 1608 = .ok (.ifCond .eq 7, 3) := by decide +kernel
theorem dL_law_1611 : decode cL_law 1611 = .ok (.iconst 1, 1) := by decide +kernel
theorem dL_law_1612 : decode cL_law 1612 = .ok (.goto 4, 3) := by decide +kernel
theorem dL_law_1615 : decode cL_law 1615 = .ok (.iconst 0, 1) := by decide +kernel
theorem dL_law_1616 : decode cL_law 1616 = .ok (.aload_n 3, 1) := by decide +kernel
theorem dL_law_1617 : decode cL_law 1617 = .ok (.invokestatic 210, 3) := by decide +kernel
theorem dL_law_1620 : decode cL_law 1620 = .ok (.istore 5, 2) := by decide +kernel
theorem dL_law_1622 : decode cL_law 1622 = .ok (.aload_n 2, 1) := by decide +kernel
theorem dL_law_1623 : decode cL_law 1623 = .ok (.aload_n 0, 1) := by decide +kernel
theorem dL_law_1624 : decode cL_law 1624 = .ok (.iload 4, 2) := by decide +kernel
theorem dL_law_1626 : decode cL_law 1626 = .ok (.iconst 1, 1) := by decide +kernel
theorem dL_law_1627 : decode cL_law 1627 = .ok (.iadd, 1) := by decide +kernel
theorem dL_law_1628 : decode cL_law 1628 = .ok (.iaload, 1) := by decide +kernel
theorem dL_law_1629 : decode cL_law 1629 = .ok (.ifCond .eq 7, 3) := by decide +kernel
theorem dL_law_1632 : decode cL_law 1632 = .ok (.iconst 1, 1) := by decide +kernel
theorem dL_law_1633 : decode cL_law 1633 = .ok (.goto 4, 3) := by decide +kernel
theorem dL_law_1636 : decode cL_law 1636 = .ok (.iconst 0, 1) := by decide +kernel
theorem dL_law_1637 : decode cL_law 1637 = .ok (.invokevirtual 212, 3) := by decide +kernel
theorem dL_law_1640 : decode cL_law 1640 = .ok (.istore 6, 2) := by decide +kernel
theorem dL_law_1642 : decode cL_law 1642 = .ok (.aload_n 2, 1) := by decide +kernel
theorem dL_law_1643 : decode cL_law 1643 = .ok (.invokevirtual 120, 3) := by decide +kernel
theorem dL_law_1646 : decode cL_law 1646 = .ok (.iload 5, 2) := by decide +kernel
theorem dL_law_1648 : decode cL_law 1648 = .ok (.if_icmp .eq 5, 3) := by decide +kernel
theorem dL_law_1651 : decode cL_law 1651 = .ok (.iconst 0, 1) := by decide +kernel
theorem dL_law_1652 : decode cL_law 1652 = .ok (.ireturn, 1) := by decide +kernel
theorem dL_law_1653 : decode cL_law 1653 = .ok (.iload 5, 2) := by decide +kernel
theorem dL_law_1655 : decode cL_law 1655 = .ok (.ifCond .ne 15, 3) := by decide +kernel
theorem dL_law_1658 : decode cL_law 1658 = .ok (.aload_n 3, 1) := by decide +kernel
theorem dL_law_1659 : decode cL_law 1659 = .ok (.iconst 0, 1) := by decide +kernel
theorem dL_law_1660 : decode cL_law 1660 = .ok (.laload, 1) := by decide +kernel
theorem dL_law_1661 : decode cL_law 1661 = .ok (.iload 6, 2) := by decide +kernel
theorem dL_law_1663 : decode cL_law 1663 = .ok (.i2l, 1) := by decide +kernel
theorem dL_law_1664 : decode cL_law 1664 = .ok (.lcmp, 1) := by decide +kernel
theorem dL_law_1665 : decode cL_law 1665 = .ok (.ifCond .eq 5, 3) := by decide +kernel
theorem dL_law_1668 : decode cL_law 1668 = .ok (.iconst 0, 1) := by decide +kernel
theorem dL_law_1669 : decode cL_law 1669 = .ok (.ireturn, 1) := by decide +kernel
theorem dL_law_1670 : decode cL_law 1670 = .ok (.goto 260, 3) := by decide +kernel
theorem dL_law_1673 : decode cL_law 1673 = .ok (.aload_n 1, 1) := by decide +kernel
theorem dL_law_1674 : decode cL_law 1674 = .ok (.aload_n 0, 1) := by decide +kernel
theorem dL_law_1675 : decode cL_law 1675 = .ok (.iload 4, 2) := by decide +kernel
theorem dL_law_1677 : decode cL_law 1677 = .ok (.iconst 1, 1) := by decide +kernel
theorem dL_law_1678 : decode cL_law 1678 = .ok (.iadd, 1) := by decide +kernel
theorem dL_law_1679 : decode cL_law 1679 = .ok (.iaload, 1) := by decide +kernel
theorem dL_law_1680 : decode cL_law 1680 = .ok (.aload_n 0, 1) := by decide +kernel
theorem dL_law_1681 : decode cL_law 1681 = .ok (.iload 4, 2) := by decide +kernel
theorem dL_law_1683 : decode cL_law 1683 = .ok (.iconst 2, 1) := by decide +kernel
theorem dL_law_1684 : decode cL_law 1684 = .ok (.iadd, 1) := by decide +kernel
theorem dL_law_1685 : decode cL_law 1685 = .ok (.iaload, 1) := by decide +kernel
theorem dL_law_1686 : decode cL_law 1686 = .ok (.i2l, 1) := by decide +kernel
theorem dL_law_1687 : decode cL_law 1687 = .ok (.bipush 32, 2) := by decide +kernel
theorem dL_law_1689 : decode cL_law 1689 = .ok (.lshl, 1) := by decide +kernel
theorem dL_law_1690 : decode cL_law 1690 = .ok (.aload_n 0, 1) := by decide +kernel
theorem dL_law_1691 : decode cL_law 1691 = .ok (.iload 4, 2) := by decide +kernel
theorem dL_law_1693 : decode cL_law 1693 = .ok (.iconst 3, 1) := by decide +kernel
theorem dL_law_1694 : decode cL_law 1694 = .ok (.iadd, 1) := by decide +kernel
theorem dL_law_1695 : decode cL_law 1695 = .ok (.iaload, 1) := by decide +kernel
theorem dL_law_1696 : decode cL_law 1696 = .ok (.i2l, 1) := by decide +kernel
theorem dL_law_1697 : decode cL_law 1697 = .ok (.ldc2_w 213, 3) := by decide +kernel
theorem dL_law_1700 : decode cL_law 1700 = .ok (.land, 1) := by decide +kernel
theorem dL_law_1701 : decode cL_law 1701 = .ok (.lor, 1) := by decide +kernel
theorem dL_law_1702 : decode cL_law 1702 = .ok (.aload_n 3, 1) := by decide +kernel
theorem dL_law_1703 : decode cL_law 1703 = .ok (.invokestatic 215, 3) := by decide +kernel
theorem dL_law_1706 : decode cL_law 1706 = .ok (.istore 5, 2) := by decide +kernel
theorem dL_law_1708 : decode cL_law 1708 = .ok (.aload_n 2, 1) := by decide +kernel
theorem dL_law_1709 : decode cL_law 1709 = .ok (.aload_n 0, 1) := by decide +kernel
theorem dL_law_1710 : decode cL_law 1710 = .ok (.iload 4, 2) := by decide +kernel
theorem dL_law_1712 : decode cL_law 1712 = .ok (.iconst 1, 1) := by decide +kernel
theorem dL_law_1713 : decode cL_law 1713 = .ok (.iadd, 1) := by decide +kernel
theorem dL_law_1714 : decode cL_law 1714 = .ok (.iaload, 1) := by decide +kernel
theorem dL_law_1715 : decode cL_law 1715 = .ok (.aload_n 0, 1) := by decide +kernel
theorem dL_law_1716 : decode cL_law 1716 = .ok (.iload 4, 2) := by decide +kernel
theorem dL_law_1718 : decode cL_law 1718 = .ok (.iconst 2, 1) := by decide +kernel
theorem dL_law_1719 : decode cL_law 1719 = .ok (.iadd, 1) := by decide +kernel
theorem dL_law_1720 : decode cL_law 1720 = .ok (.iaload, 1) := by decide +kernel
theorem dL_law_1721 : decode cL_law 1721 = .ok (.i2l, 1) := by decide +kernel
theorem dL_law_1722 : decode cL_law 1722 = .ok (.bipush 32, 2) := by decide +kernel
theorem dL_law_1724 : decode cL_law 1724 = .ok (.lshl, 1) := by decide +kernel
theorem dL_law_1725 : decode cL_law 1725 = .ok (.aload_n 0, 1) := by decide +kernel
theorem dL_law_1726 : decode cL_law 1726 = .ok (.iload 4, 2) := by decide +kernel
theorem dL_law_1728 : decode cL_law 1728 = .ok (.iconst 3, 1) := by decide +kernel
theorem dL_law_1729 : decode cL_law 1729 = .ok (.iadd, 1) := by decide +kernel
theorem dL_law_1730 : decode cL_law 1730 = .ok (.iaload, 1) := by decide +kernel
theorem dL_law_1731 : decode cL_law 1731 = .ok (.i2l, 1) := by decide +kernel
theorem dL_law_1732 : decode cL_law 1732 = .ok (.ldc2_w 213, 3) := by decide +kernel
theorem dL_law_1735 : decode cL_law 1735 = .ok (.land, 1) := by decide +kernel
theorem dL_law_1736 : decode cL_law 1736 = .ok (.lor, 1) := by decide +kernel
theorem dL_law_1737 : decode cL_law 1737 = .ok (.invokevirtual 218, 3) := by decide +kernel
theorem dL_law_1740 : decode cL_law 1740 = .ok (.istore 6, 2) := by decide +kernel
theorem dL_law_1742 : decode cL_law 1742 = .ok (.aload_n 2, 1) := by decide +kernel
theorem dL_law_1743 : decode cL_law 1743 = .ok (.invokevirtual 120, 3) := by decide +kernel
theorem dL_law_1746 : decode cL_law 1746 = .ok (.iload 5, 2) := by decide +kernel
theorem dL_law_1748 : decode cL_law 1748 = .ok (.if_icmp .eq 5, 3) := by decide +kernel
theorem dL_law_1751 : decode cL_law 1751 = .ok (.iconst 0, 1) := by decide +kernel
theorem dL_law_1752 : decode cL_law 1752 = .ok (.ireturn, 1) := by decide +kernel
theorem dL_law_1753 : decode cL_law 1753 = .ok (.iload 5, 2) := by decide +kernel
theorem dL_law_1755 : decode cL_law 1755 = .ok (.ifCond .ne 15, 3) := by decide +kernel
theorem dL_law_1758 : decode cL_law 1758 = .ok (.aload_n 3, 1) := by decide +kernel
theorem dL_law_1759 : decode cL_law 1759 = .ok (.iconst 0, 1) := by decide +kernel
theorem dL_law_1760 : decode cL_law 1760 = .ok (.laload, 1) := by decide +kernel
theorem dL_law_1761 : decode cL_law 1761 = .ok (.iload 6, 2) := by decide +kernel
theorem dL_law_1763 : decode cL_law 1763 = .ok (.i2l, 1) := by decide +kernel
theorem dL_law_1764 : decode cL_law 1764 = .ok (.lcmp, 1) := by decide +kernel
theorem dL_law_1765 : decode cL_law 1765 = .ok (.ifCond .eq 5, 3) := by decide +kernel
theorem dL_law_1768 : decode cL_law 1768 = .ok (.iconst 0, 1) := by decide +kernel
theorem dL_law_1769 : decode cL_law 1769 = .ok (.ireturn, 1) := by decide +kernel
theorem dL_law_1770 : decode cL_law 1770 = .ok (.goto 160, 3) := by decide +kernel
theorem dL_law_1773 : decode cL_law 1773 = .ok (.aload_n 1, 1) := by decide +kernel
theorem dL_law_1774 : decode cL_law 1774 = .ok (.aload_n 0, 1) := by decide +kernel
theorem dL_law_1775 : decode cL_law 1775 = .ok (.iload 4, 2) := by decide +kernel
theorem dL_law_1777 : decode cL_law 1777 = .ok (.iconst 1, 1) := by decide +kernel
theorem dL_law_1778 : decode cL_law 1778 = .ok (.iadd, 1) := by decide +kernel
theorem dL_law_1779 : decode cL_law 1779 = .ok (.iaload, 1) := by decide +kernel
theorem dL_law_1780 : decode cL_law 1780 = .ok (.aload_n 3, 1) := by decide +kernel
theorem dL_law_1781 : decode cL_law 1781 = .ok (.invokestatic 219, 3) := by decide +kernel
theorem dL_law_1784 : decode cL_law 1784 = .ok (.istore 5, 2) := by decide +kernel
theorem dL_law_1786 : decode cL_law 1786 = .ok (.aload_n 2, 1) := by decide +kernel
theorem dL_law_1787 : decode cL_law 1787 = .ok (.aload_n 0, 1) := by decide +kernel
theorem dL_law_1788 : decode cL_law 1788 = .ok (.iload 4, 2) := by decide +kernel
theorem dL_law_1790 : decode cL_law 1790 = .ok (.iconst 1, 1) := by decide +kernel
theorem dL_law_1791 : decode cL_law 1791 = .ok (.iadd, 1) := by decide +kernel
theorem dL_law_1792 : decode cL_law 1792 = .ok (.iaload, 1) := by decide +kernel
theorem dL_law_1793 : decode cL_law 1793 = .ok (.invokevirtual 221, 3) := by decide +kernel
theorem dL_law_1796 : decode cL_law 1796 = .ok (.istore 6, 2) := by decide +kernel
theorem dL_law_1798 : decode cL_law 1798 = .ok (.aload_n 2, 1) := by decide +kernel
theorem dL_law_1799 : decode cL_law 1799 = .ok (.invokevirtual 120, 3) := by decide +kernel
theorem dL_law_1802 : decode cL_law 1802 = .ok (.iload 5, 2) := by decide +kernel
theorem dL_law_1804 : decode cL_law 1804 = .ok (.if_icmp .eq 5, 3) := by decide +kernel
theorem dL_law_1807 : decode cL_law 1807 = .ok (.iconst 0, 1) := by decide +kernel
theorem dL_law_1808 : decode cL_law 1808 = .ok (.ireturn, 1) := by decide +kernel
theorem dL_law_1809 : decode cL_law 1809 = .ok (.iload 5, 2) := by decide +kernel
theorem dL_law_1811 : decode cL_law 1811 = .ok (.ifCond .ne 15, 3) := by decide +kernel
theorem dL_law_1814 : decode cL_law 1814 = .ok (.aload_n 3, 1) := by decide +kernel
theorem dL_law_1815 : decode cL_law 1815 = .ok (.iconst 0, 1) := by decide +kernel
theorem dL_law_1816 : decode cL_law 1816 = .ok (.laload, 1) := by decide +kernel
theorem dL_law_1817 : decode cL_law 1817 = .ok (.iload 6, 2) := by decide +kernel
theorem dL_law_1819 : decode cL_law 1819 = .ok (.i2l, 1) := by decide +kernel
theorem dL_law_1820 : decode cL_law 1820 = .ok (.lcmp, 1) := by decide +kernel
theorem dL_law_1821 : decode cL_law 1821 = .ok (.ifCond .eq 5, 3) := by decide +kernel
theorem dL_law_1824 : decode cL_law 1824 = .ok (.iconst 0, 1) := by decide +kernel
theorem dL_law_1825 : decode cL_law 1825 = .ok (.ireturn, 1) := by decide +kernel
theorem dL_law_1826 : decode cL_law 1826 = .ok (.goto 104, 3) := by decide +kernel
theorem dL_law_1829 : decode cL_law 1829 = .ok (.aload_n 1, 1) := by decide +kernel
theorem dL_law_1830 : decode cL_law 1830 = .ok (.aload_n 3, 1) := by decide +kernel
theorem dL_law_1831 : decode cL_law 1831 = .ok (.invokestatic 222, 3) := by decide +kernel
theorem dL_law_1834 : decode cL_law 1834 = .ok (.istore 5, 2) := by decide +kernel
theorem dL_law_1836 : decode cL_law 1836 = .ok (.aload_n 2, 1) := by decide +kernel
theorem dL_law_1837 : decode cL_law 1837 = .ok (.invokevirtual 224, 3) := by decide +kernel
theorem dL_law_1840 : decode cL_law 1840 = .ok (.istore 6, 2) := by decide +kernel
theorem dL_law_1842 : decode cL_law 1842 = .ok (.aload_n 2, 1) := by decide +kernel
theorem dL_law_1843 : decode cL_law 1843 = .ok (.invokevirtual 120, 3) := by decide +kernel
theorem dL_law_1846 : decode cL_law 1846 = .ok (.iload 5, 2) := by decide +kernel
theorem dL_law_1848 : decode cL_law 1848 = .ok (.if_icmp .eq 5, 3) := by decide +kernel
theorem dL_law_1851 : decode cL_law 1851 = .ok (.iconst 0, 1) := by decide +kernel
theorem dL_law_1852 : decode cL_law 1852 = .ok (.ireturn, 1) := by decide +kernel
theorem dL_law_1853 : decode cL_law 1853 = .ok (.iload 5, 2) := by decide +kernel
theorem dL_law_1855 : decode cL_law 1855 = .ok (.ifCond .ne 15, 3) := by decide +kernel
theorem dL_law_1858 : decode cL_law 1858 = .ok (.aload_n 3, 1) := by decide +kernel
theorem dL_law_1859 : decode cL_law 1859 = .ok (.iconst 0, 1) := by decide +kernel
theorem dL_law_1860 : decode cL_law 1860 = .ok (.laload, 1) := by decide +kernel
theorem dL_law_1861 : decode cL_law 1861 = .ok (.iload 6, 2) := by decide +kernel
theorem dL_law_1863 : decode cL_law 1863 = .ok (.i2l, 1) := by decide +kernel
theorem dL_law_1864 : decode cL_law 1864 = .ok (.lcmp, 1) := by decide +kernel
theorem dL_law_1865 : decode cL_law 1865 = .ok (.ifCond .eq 5, 3) := by decide +kernel
theorem dL_law_1868 : decode cL_law 1868 = .ok (.iconst 0, 1) := by decide +kernel
theorem dL_law_1869 : decode cL_law 1869 = .ok (.ireturn, 1) := by decide +kernel
theorem dL_law_1870 : decode cL_law 1870 = .ok (.goto 60, 3) := by decide +kernel
theorem dL_law_1873 : decode cL_law 1873 = .ok (.aload_n 1, 1) := by decide +kernel
theorem dL_law_1874 : decode cL_law 1874 = .ok (.invokevirtual 225, 3) := by decide +kernel
theorem dL_law_1877 : decode cL_law 1877 = .ok (.aload_n 2, 1) := by decide +kernel
theorem dL_law_1878 : decode cL_law 1878 = .ok (.invokevirtual 228, 3) := by decide +kernel
theorem dL_law_1881 : decode cL_law 1881 = .ok (.if_icmp .eq 49, 3) := by decide +kernel
theorem dL_law_1884 : decode cL_law 1884 = .ok (.iconst 0, 1) := by decide +kernel
theorem dL_law_1885 : decode cL_law 1885 = .ok (.ireturn, 1) := by decide +kernel
theorem dL_law_1886 : decode cL_law 1886 = .ok (.aload_n 1, 1) := by decide +kernel
theorem dL_law_1887 : decode cL_law 1887 = .ok (.aload_n 3, 1) := by decide +kernel
theorem dL_law_1888 : decode cL_law 1888 = .ok (.invokestatic 229, 3) := by decide +kernel
theorem dL_law_1891 : decode cL_law 1891 = .ok (.istore 5, 2) := by decide +kernel
theorem dL_law_1893 : decode cL_law 1893 = .ok (.aload_n 2, 1) := by decide +kernel
theorem dL_law_1894 : decode cL_law 1894 = .ok (.invokevirtual 231, 3) := by decide +kernel
theorem dL_law_1897 : decode cL_law 1897 = .ok (.istore 6, 2) := by decide +kernel
theorem dL_law_1899 : decode cL_law 1899 = .ok (.aload_n 2, 1) := by decide +kernel
theorem dL_law_1900 : decode cL_law 1900 = .ok (.invokevirtual 120, 3) := by decide +kernel
theorem dL_law_1903 : decode cL_law 1903 = .ok (.iload 5, 2) := by decide +kernel
theorem dL_law_1905 : decode cL_law 1905 = .ok (.if_icmp .eq 5, 3) := by decide +kernel
theorem dL_law_1908 : decode cL_law 1908 = .ok (.iconst 0, 1) := by decide +kernel
theorem dL_law_1909 : decode cL_law 1909 = .ok (.ireturn, 1) := by decide +kernel
theorem dL_law_1910 : decode cL_law 1910 = .ok (.iload 5, 2) := by decide +kernel
theorem dL_law_1912 : decode cL_law 1912 = .ok (.ifCond .ne 15, 3) := by decide +kernel
theorem dL_law_1915 : decode cL_law 1915 = .ok (.aload_n 3, 1) := by decide +kernel
theorem dL_law_1916 : decode cL_law 1916 = .ok (.iconst 0, 1) := by decide +kernel
theorem dL_law_1917 : decode cL_law 1917 = .ok (.laload, 1) := by decide +kernel
theorem dL_law_1918 : decode cL_law 1918 = .ok (.iload 6, 2) := by decide +kernel
theorem dL_law_1920 : decode cL_law 1920 = .ok (.i2l, 1) := by decide +kernel
theorem dL_law_1921 : decode cL_law 1921 = .ok (.lcmp, 1) := by decide +kernel
theorem dL_law_1922 : decode cL_law 1922 = .ok (.ifCond .eq 5, 3) := by decide +kernel
theorem dL_law_1925 : decode cL_law 1925 = .ok (.iconst 0, 1) := by decide +kernel
theorem dL_law_1926 : decode cL_law 1926 = .ok (.ireturn, 1) := by decide +kernel
theorem dL_law_1927 : decode cL_law 1927 = .ok (.goto 3, 3) := by decide +kernel
theorem dL_law_1930 : decode cL_law 1930 = .ok (.iinc 4 5, 3) := by decide +kernel
theorem dL_law_1933 : decode cL_law 1933 = .ok (.goto (-1910), 3) := by decide +kernel
theorem dL_law_1936 : decode cL_law 1936 = .ok (.iconst 1, 1) := by decide +kernel
theorem dL_law_1937 : decode cL_law 1937 = .ok (.ireturn, 1) := by decide +kernel
