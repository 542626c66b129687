theorem dL_cell_0 : decode cL_cell 0 = .ok (.iload_n 1, 1) := by decide +kernel
theorem dL_cell_1 : decode cL_cell 1 = .ok (.aload_n 0, 1) := by decide +kernel
theorem dL_cell_2 : decode cL_cell 2 = .ok (.arraylength, 1) := by decide +kernel
theorem dL_cell_3 : decode cL_cell 3 = .ok (.if_icmp .ge 9, 3) := by decide +kernel
theorem dL_cell_6 : decode cL_cell 6 = .ok (.aload_n 0, 1) := by decide +kernel
theorem dL_cell_7 : decode cL_cell 7 = .ok (.iload_n 1, 1) := by decide +kernel
theorem dL_cell_8 : decode cL_cell 8 = .ok (.iaload, 1) := by decide +kernel
theorem dL_cell_9 : decode cL_cell 9 = .ok (.goto 12, 3) := by decide +kernel
theorem dL_cell_12 : decode cL_cell 12 = .ok (.ldc 7, 2) := by decide +kernel
theorem dL_cell_14 : decode cL_cell 14 = .ok (.iload_n 1, 1) := by decide +kernel
theorem dL_cell_15 : decode cL_cell 15 = .ok (.iconst 1, 1) := by decide +kernel
theorem dL_cell_16 : decode cL_cell 16 = .ok (.iadd, 1) := by decide +kernel
theorem dL_cell_17 : decode cL_cell 17 = .ok (.imul, 1) := by decide +kernel
theorem dL_cell_18 : decode cL_cell 18 = .ok (.ldc 8, 2) := by decide +kernel
theorem dL_cell_20 : decode cL_cell 20 = .ok (.iadd, 1) := by decide +kernel
theorem dL_cell_21 : decode cL_cell 21 = .ok (.ireturn, 1) := by decide +kernel
theorem dL_low_0 : decode cL_low 0 = .ok (.iload_n 0, 1) := by decide +kernel
theorem dL_low_1 : decode cL_low 1 = .ok (.ldc 9, 2) := by decide +kernel
theorem dL_low_3 : decode cL_low 3 = .ok (.iand, 1) := by decide +kernel
theorem dL_low_4 : decode cL_low 4 = .ok (.iload_n 1, 1) := by decide +kernel
theorem dL_low_5 : decode cL_low 5 = .ok (.irem, 1) := by decide +kernel
theorem dL_low_6 : decode cL_low 6 = .ok (.ireturn, 1) := by decide +kernel
theorem dL_weight_0 : decode cL_weight 0 = .ok (.lconst 0, 1) := by decide +kernel
theorem dL_weight_1 : decode cL_weight 1 = .ok (.lstore 6, 2) := by decide +kernel
theorem dL_weight_3 : decode cL_weight 3 = .ok (.bipush 100, 2) := by decide +kernel
theorem dL_weight_5 : decode cL_weight 5 = .ok (.iload 5, 2) := by decide +kernel
theorem dL_weight_7 : decode cL_weight 7 = .ok (.imul, 1) := by decide +kernel
theorem dL_weight_8 : decode cL_weight 8 = .ok (.istore 8, 2) := by decide +kernel
theorem dL_weight_10 : decode cL_weight 10 = .ok (.iload 8, 2) := by decide +kernel
theorem dL_weight_12 : decode cL_weight 12 = .ok (.bipush 100, 2) := by decide +kernel
theorem dL_weight_14 : decode cL_weight 14 = .ok (.iload 5, 2) := by decide +kernel
theorem dL_weight_16 : decode cL_weight 16 = .ok (.imul, 1) := by decide +kernel
theorem dL_weight_17 : decode cL_weight 17 = .ok (.bipush 100, 2) := by decide +kernel
theorem dL_weight_19 : decode cL_weight 19 = .ok (.iadd, 1) := by decide +kernel
theorem dL_weight_20 : decode cL_weight 20 = .ok (.if_icmp .ge 80, 3) := by decide +kernel
theorem dL_weight_23 : decode cL_weight 23 = .ok (.iconst 0, 1) := by decide +kernel
theorem dL_weight_24 : decode cL_weight 24 = .ok (.istore 9, 2) := by decide +kernel
theorem dL_weight_26 : decode cL_weight 26 = .ok (.iload 9, 2) := by decide +kernel
theorem dL_weight_28 : decode cL_weight 28 = .ok (.iload_n 1, 1) := by decide +kernel
theorem dL_weight_29 : decode cL_weight 29 = .ok (.if_icmp .ge 65, 3) := by decide +kernel
theorem dL_weight_32 : decode cL_weight 32 = .ok (.aload_n 2, 1) := by decide +kernel
theorem dL_weight_33 : decode cL_weight 33 = .ok (.aload_n 0, 1) := by decide +kernel
theorem dL_weight_34 : decode cL_weight 34 = .ok (.iconst 3, 1) := by decide +kernel
theorem dL_weight_35 : decode cL_weight 35 = .ok (.iload 9, 2) := by decide +kernel
theorem dL_weight_37 : decode cL_weight 37 = .ok (.imul, 1) := by decide +kernel
theorem dL_weight_38 : decode cL_weight 38 = .ok (.iaload, 1) := by decide +kernel
theorem dL_weight_39 : decode cL_weight 39 = .ok (.iaload, 1) := by decide +kernel
theorem dL_weight_40 : decode cL_weight 40 = .ok (.iload 4, 2) := by decide +kernel
theorem dL_weight_42 : decode cL_weight 42 = .ok (.if_icmp .ne 46, 3) := by decide +kernel
theorem dL_weight_45 : decode cL_weight 45 = .ok (.iload 8, 2) := by decide +kernel
theorem dL_weight_47 : decode cL_weight 47 = .ok (.aload_n 0, 1) := by decide +kernel
theorem dL_weight_48 : decode cL_weight 48 = .ok (.iconst 3, 1) := by decide +kernel
theorem dL_weight_49 : decode cL_weight 49 = .ok (.iload 9, 2) := by decide +kernel
theorem dL_weight_51 : decode cL_weight 51 = .ok (.imul, 1) := by decide +kernel
theorem dL_weight_52 : decode cL_weight 52 = .ok (.iconst 1, 1) := by decide +kernel
theorem dL_weight_53 : decode cL_weight 53 = .ok (.iadd, 1) := by decide +kernel
theorem dL_weight_54 : decode cL_weight 54 = .ok (.iaload, 1) := by decide +kernel
theorem dL_weight_55 : decode cL_weight 55 = .ok (.if_icmp .lt 33, 3) := by decide +kernel
theorem dL_weight_58 : decode cL_weight 58 = .ok (.iload 8, 2) := by decide +kernel
theorem dL_weight_60 : decode cL_weight 60 = .ok (.aload_n 0, 1) := by decide +kernel
theorem dL_weight_61 : decode cL_weight 61 = .ok (.iconst 3, 1) := by decide +kernel
theorem dL_weight_62 : decode cL_weight 62 = .ok (.iload 9, 2) := by decide +kernel
theorem dL_weight_64 : decode cL_weight 64 = .ok (.imul, 1) := by decide +kernel
theorem dL_weight_65 : decode cL_weight 65 = .ok (.iconst 2, 1) := by decide +kernel
theorem dL_weight_66 : decode cL_weight 66 = .ok (.iadd, 1) := by decide +kernel
theorem dL_weight_67 : decode cL_weight 67 = .ok (.iaload, 1) := by decide +kernel
theorem dL_weight_68 : decode cL_weight 68 = .ok (.if_icmp .ge 20, 3) := by decide +kernel
theorem dL_weight_71 : decode cL_weight 71 = .ok (.lload 6, 2) := by decide +kernel
theorem dL_weight_73 : decode cL_weight 73 = .ok (.aload_n 2, 1) := by decide +kernel
theorem dL_weight_74 : decode cL_weight 74 = .ok (.bipush 8, 2) := by decide +kernel
theorem dL_weight_76 : decode cL_weight 76 = .ok (.aload_n 0, 1) := by decide +kernel
theorem dL_weight_77 : decode cL_weight 77 = .ok (.iconst 3, 1) := by decide +kernel
theorem dL_weight_78 : decode cL_weight 78 = .ok (.iload 9, 2) := by decide +kernel
theorem dL_weight_80 : decode cL_weight 80 = .ok (.imul, 1) := by decide +kernel
theorem dL_weight_81 : decode cL_weight 81 = .ok (.iaload, 1) := by decide +kernel
theorem dL_weight_82 : decode cL_weight 82 = .ok (.iadd, 1) := by decide +kernel
theorem dL_weight_83 : decode cL_weight 83 = .ok (.iaload, 1) := by decide +kernel
theorem dL_weight_84 : decode cL_weight 84 = .ok (.i2l, 1) := by decide +kernel
theorem dL_weight_85 : decode cL_weight 85 = .ok (.ladd, 1) := by decide +kernel
theorem dL_weight_86 : decode cL_weight 86 = .ok (.lstore 6, 2) := by decide +kernel
theorem dL_weight_88 : decode cL_weight 88 = .ok (.iinc 9 1, 3) := by decide +kernel
theorem dL_weight_91 : decode cL_weight 91 = .ok (.goto (-65), 3) := by decide +kernel
theorem dL_weight_94 : decode cL_weight 94 = .ok (.iinc 8 1, 3) := by decide +kernel
theorem dL_weight_97 : decode cL_weight 97 = .ok (.goto (-87), 3) := by decide +kernel
theorem dL_weight_100 : decode cL_weight 100 = .ok (.lload 6, 2) := by decide +kernel
theorem dL_weight_102 : decode cL_weight 102 = .ok (.aload_n 3, 1) := by decide +kernel
theorem dL_weight_103 : decode cL_weight 103 = .ok (.iconst 3, 1) := by decide +kernel
theorem dL_weight_104 : decode cL_weight 104 = .ok (.iload 4, 2) := by decide +kernel
theorem dL_weight_106 : decode cL_weight 106 = .ok (.imul, 1) := by decide +kernel
theorem dL_weight_107 : decode cL_weight 107 = .ok (.iload 5, 2) := by decide +kernel
theorem dL_weight_109 : decode cL_weight 109 = .ok (.iadd, 1) := by decide +kernel
theorem dL_weight_110 : decode cL_weight 110 = .ok (.iaload, 1) := by decide +kernel
theorem dL_weight_111 : decode cL_weight 111 = .ok (.i2l, 1) := by decide +kernel
theorem dL_weight_112 : decode cL_weight 112 = .ok (.lmul, 1) := by decide +kernel
theorem dL_weight_113 : decode cL_weight 113 = .ok (.ldc2_w 10, 3) := by decide +kernel
theorem dL_weight_116 : decode cL_weight 116 = .ok (.ldiv, 1) := by decide +kernel
theorem dL_weight_117 : decode cL_weight 117 = .ok (.lreturn, 1) := by decide +kernel
theorem dL_covered_0 : decode cL_covered 0 = .ok (.aload_n 3, 1) := by decide +kernel
theorem dL_covered_1 : decode cL_covered 1 = .ok (.bipush 6, 2) := by decide +kernel
theorem dL_covered_3 : decode cL_covered 3 = .ok (.iload 5, 2) := by decide +kernel
theorem dL_covered_5 : decode cL_covered 5 = .ok (.imul, 1) := by decide +kernel
theorem dL_covered_6 : decode cL_covered 6 = .ok (.iconst 2, 1) := by decide +kernel
theorem dL_covered_7 : decode cL_covered 7 = .ok (.iadd, 1) := by decide +kernel
theorem dL_covered_8 : decode cL_covered 8 = .ok (.iaload, 1) := by decide +kernel
theorem dL_covered_9 : decode cL_covered 9 = .ok (.bipush 100, 2) := by decide +kernel
theorem dL_covered_11 : decode cL_covered 11 = .ok (.idiv, 1) := by decide +kernel
theorem dL_covered_12 : decode cL_covered 12 = .ok (.aload 4, 2) := by decide +kernel
theorem dL_covered_14 : decode cL_covered 14 = .ok (.bipush 12, 2) := by decide +kernel
theorem dL_covered_16 : decode cL_covered 16 = .ok (.iaload, 1) := by decide +kernel
theorem dL_covered_17 : decode cL_covered 17 = .ok (.if_icmp .ge 23, 3) := by decide +kernel
theorem dL_covered_20 : decode cL_covered 20 = .ok (.aload_n 3, 1) := by decide +kernel
theorem dL_covered_21 : decode cL_covered 21 = .ok (.bipush 6, 2) := by decide +kernel
theorem dL_covered_23 : decode cL_covered 23 = .ok (.iload 5, 2) := by decide +kernel
theorem dL_covered_25 : decode cL_covered 25 = .ok (.imul, 1) := by decide +kernel
theorem dL_covered_26 : decode cL_covered 26 = .ok (.iconst 5, 1) := by decide +kernel
theorem dL_covered_27 : decode cL_covered 27 = .ok (.iadd, 1) := by decide +kernel
theorem dL_covered_28 : decode cL_covered 28 = .ok (.iaload, 1) := by decide +kernel
theorem dL_covered_29 : decode cL_covered 29 = .ok (.iconst 4, 1) := by decide +kernel
theorem dL_covered_30 : decode cL_covered 30 = .ok (.iand, 1) := by decide +kernel
theorem dL_covered_31 : decode cL_covered 31 = .ok (.ifCond .le 7, 3) := by decide +kernel
theorem dL_covered_34 : decode cL_covered 34 = .ok (.iconst 1, 1) := by decide +kernel
theorem dL_covered_35 : decode cL_covered 35 = .ok (.goto 4, 3) := by decide +kernel
theorem dL_covered_38 : decode cL_covered 38 = .ok (.iconst 0, 1) := by decide +kernel
theorem dL_covered_39 : decode cL_covered 39 = .ok (.ireturn, 1) := by decide +kernel
theorem dL_covered_40 : decode cL_covered 40 = .ok (.aload 4, 2) := by decide +kernel
theorem dL_covered_42 : decode cL_covered 42 = .ok (.bipush 9, 2) := by decide +kernel
theorem dL_covered_44 : decode cL_covered 44 = .ok (.aload_n 2, 1) := by decide +kernel
theorem dL_covered_45 : decode cL_covered 45 = .ok (.aload_n 3, 1) := by decide +kernel
theorem dL_covered_46 : decode cL_covered 46 = .ok (.bipush 6, 2) := by decide +kernel
theorem dL_covered_48 : decode cL_covered 48 = .ok (.iload 5, 2) := by decide +kernel
theorem dL_covered_50 : decode cL_covered 50 = .ok (.imul, 1) := by decide +kernel
theorem dL_covered_51 : decode cL_covered 51 = .ok (.iaload, 1) := by decide +kernel
theorem dL_covered_52 : decode cL_covered 52 = .ok (.iaload, 1) := by decide +kernel
theorem dL_covered_53 : decode cL_covered 53 = .ok (.iadd, 1) := by decide +kernel
theorem dL_covered_54 : decode cL_covered 54 = .ok (.iaload, 1) := by decide +kernel
theorem dL_covered_55 : decode cL_covered 55 = .ok (.ifCond .lt 32, 3) := by decide +kernel
theorem dL_covered_58 : decode cL_covered 58 = .ok (.aload 4, 2) := by decide +kernel
theorem dL_covered_60 : decode cL_covered 60 = .ok (.bipush 9, 2) := by decide +kernel
theorem dL_covered_62 : decode cL_covered 62 = .ok (.aload_n 2, 1) := by decide +kernel
theorem dL_covered_63 : decode cL_covered 63 = .ok (.aload_n 3, 1) := by decide +kernel
theorem dL_covered_64 : decode cL_covered 64 = .ok (.bipush 6, 2) := by decide +kernel
theorem dL_covered_66 : decode cL_covered 66 = .ok (.iload 5, 2) := by decide +kernel
theorem dL_covered_68 : decode cL_covered 68 = .ok (.imul, 1) := by decide +kernel
theorem dL_covered_69 : decode cL_covered 69 = .ok (.iaload, 1) := by decide +kernel
theorem dL_covered_70 : decode cL_covered 70 = .ok (.iaload, 1) := by decide +kernel
theorem dL_covered_71 : decode cL_covered 71 = .ok (.iadd, 1) := by decide +kernel
theorem dL_covered_72 : decode cL_covered 72 = .ok (.iaload, 1) := by decide +kernel
theorem dL_covered_73 : decode cL_covered 73 = .ok (.aload_n 3, 1) := by decide +kernel
theorem dL_covered_74 : decode cL_covered 74 = .ok (.bipush 6, 2) := by decide +kernel
theorem dL_covered_76 : decode cL_covered 76 = .ok (.iload 5, 2) := by decide +kernel
theorem dL_covered_78 : decode cL_covered 78 = .ok (.imul, 1) := by decide +kernel
theorem dL_covered_79 : decode cL_covered 79 = .ok (.iconst 2, 1) := by decide +kernel
theorem dL_covered_80 : decode cL_covered 80 = .ok (.iadd, 1) := by decide +kernel
theorem dL_covered_81 : decode cL_covered 81 = .ok (.iaload, 1) := by decide +kernel
theorem dL_covered_82 : decode cL_covered 82 = .ok (.if_icmp .gt 5, 3) := by decide +kernel
theorem dL_covered_85 : decode cL_covered 85 = .ok (.iconst 0, 1) := by decide +kernel
theorem dL_covered_86 : decode cL_covered 86 = .ok (.ireturn, 1) := by decide +kernel
theorem dL_covered_87 : decode cL_covered 87 = .ok (.iconst 0, 1) := by decide +kernel
theorem dL_covered_88 : decode cL_covered 88 = .ok (.istore 6, 2) := by decide +kernel
theorem dL_covered_90 : decode cL_covered 90 = .ok (.iload 6, 2) := by decide +kernel
theorem dL_covered_92 : decode cL_covered 92 = .ok (.iload_n 1, 1) := by decide +kernel
theorem dL_covered_93 : decode cL_covered 93 = .ok (.if_icmp .ge 67, 3) := by decide +kernel
theorem dL_covered_96 : decode cL_covered 96 = .ok (.aload_n 0, 1) := by decide +kernel
theorem dL_covered_97 : decode cL_covered 97 = .ok (.iconst 3, 1) := by decide +kernel
theorem dL_covered_98 : decode cL_covered 98 = .ok (.iload 6, 2) := by decide +kernel
theorem dL_covered_100 : decode cL_covered 100 = .ok (.imul, 1) := by decide +kernel
theorem dL_covered_101 : decode cL_covered 101 = .ok (.iaload, 1) := by decide +kernel
theorem dL_covered_102 : decode cL_covered 102 = .ok (.aload_n 3, 1) := by decide +kernel
theorem dL_covered_103 : decode cL_covered 103 = .ok (.bipush 6, 2) := by decide +kernel
theorem dL_covered_105 : decode cL_covered 105 = .ok (.iload 5, 2) := by decide +kernel
theorem dL_covered_107 : decode cL_covered 107 = .ok (.imul, 1) := by decide +kernel
theorem dL_covered_108 : decode cL_covered 108 = .ok (.iaload, 1) := by decide +kernel
theorem dL_covered_109 : decode cL_covered 109 = .ok (.if_icmp .ne 45, 3) := by decide +kernel
theorem dL_covered_112 : decode cL_covered 112 = .ok (.aload_n 3, 1) := by decide +kernel
theorem dL_covered_113 : decode cL_covered 113 = .ok (.bipush 6, 2) := by decide +kernel
theorem dL_covered_115 : decode cL_covered 115 = .ok (.iload 5, 2) := by decide +kernel
theorem dL_covered_117 : decode cL_covered 117 = .ok (.imul, 1) := by decide +kernel
theorem dL_covered_118 : decode cL_covered 118 = .ok (.iconst 2, 1) := by decide +kernel
theorem dL_covered_119 : decode cL_covered 119 = .ok (.iadd, 1) := by decide +kernel
theorem dL_covered_120 : decode cL_covered 120 = .ok (.iaload, 1) := by decide +kernel
theorem dL_covered_121 : decode cL_covered 121 = .ok (.aload_n 0, 1) := by decide +kernel
theorem dL_covered_122 : decode cL_covered 122 = .ok (.iconst 3, 1) := by decide +kernel
theorem dL_covered_123 : decode cL_covered 123 = .ok (.iload 6, 2) := by decide +kernel
theorem dL_covered_125 : decode cL_covered 125 = .ok (.imul, 1) := by decide +kernel
theorem dL_covered_126 : decode cL_covered 126 = .ok (.iconst 1, 1) := by decide +kernel
theorem dL_covered_127 : decode cL_covered 127 = .ok (.iadd, 1) := by decide +kernel
theorem dL_covered_128 : decode cL_covered 128 = .ok (.iaload, 1) := by decide +kernel
theorem dL_covered_129 : decode cL_covered 129 = .ok (.if_icmp .lt 25, 3) := by decide +kernel
theorem dL_covered_132 : decode cL_covered 132 = .ok (.aload_n 3, 1) := by decide +kernel
theorem dL_covered_133 : decode cL_covered 133 = .ok (.bipush 6, 2) := by decide +kernel
theorem dL_covered_135 : decode cL_covered 135 = .ok (.iload 5, 2) := by decide +kernel
theorem dL_covered_137 : decode cL_covered 137 = .ok (.imul, 1) := by decide +kernel
theorem dL_covered_138 : decode cL_covered 138 = .ok (.iconst 2, 1) := by decide +kernel
theorem dL_covered_139 : decode cL_covered 139 = .ok (.iadd, 1) := by decide +kernel
theorem dL_covered_140 : decode cL_covered 140 = .ok (.iaload, 1) := by decide +kernel
theorem dL_covered_141 : decode cL_covered 141 = .ok (.aload_n 0, 1) := by decide +kernel
theorem dL_covered_142 : decode cL_covered 142 = .ok (.iconst 3, 1) := by decide +kernel
theorem dL_covered_143 : decode cL_covered 143 = .ok (.iload 6, 2) := by decide +kernel
theorem dL_covered_145 : decode cL_covered 145 = .ok (.imul, 1) := by decide +kernel
theorem dL_covered_146 : decode cL_covered 146 = .ok (.iconst 2, 1) := by decide +kernel
theorem dL_covered_147 : decode cL_covered 147 = .ok (.iadd, 1) := by decide +kernel
theorem dL_covered_148 : decode cL_covered 148 = .ok (.iaload, 1) := by decide +kernel
theorem dL_covered_149 : decode cL_covered 149 = .ok (.if_icmp .ge 5, 3) := by decide +kernel
theorem dL_covered_152 : decode cL_covered 152 = .ok (.iconst 1, 1) := by decide +kernel
theorem dL_covered_153 : decode cL_covered 153 = .ok (.ireturn, 1) := by decide +kernel
theorem dL_covered_154 : decode cL_covered 154 = .ok (.iinc 6 1, 3) := by decide +kernel
theorem dL_covered_157 : decode cL_covered 157 = .ok (.goto (-67), 3) := by decide +kernel
theorem dL_covered_160 : decode cL_covered 160 = .ok (.iconst 0, 1) := by decide +kernel
theorem dL_covered_161 : decode cL_covered 161 = .ok (.ireturn, 1) := by decide +kernel
set_option maxRecDepth 20000 in
theorem ggL_bears_L_covered : GoodIn wsL_bears wsL_covered := goodIn_r _ [6] (by decide +kernel) (by decide +kernel)
set_option maxRecDepth 20000 in
theorem gL_bears_L_covered : GoodIn wsL_bears (va_wsS RL 12 yL_covered wsL_covered) := goodIn_app (goodIn_of _ (by decide +kernel)) ggL_bears_L_covered
theorem dL_bears_0 : decode cL_bears 0 = .ok (.lconst 0, 1) := by decide +kernel
theorem dL_bears_1 : decode cL_bears 1 = .ok (.lstore 9, 2) := by decide +kernel
theorem dL_bears_3 : decode cL_bears 3 = .ok (.iconst 0, 1) := by decide +kernel
theorem dL_bears_4 : decode cL_bears 4 = .ok (.istore 11, 2) := by decide +kernel
theorem dL_bears_6 : decode cL_bears 6 = .ok (.iconst 0, 1) := by decide +kernel
theorem dL_bears_7 : decode cL_bears 7 = .ok (.istore 12, 2) := by decide +kernel
theorem dL_bears_9 : decode cL_bears 9 = .ok (.iload 12, 2) := by decide +kernel
theorem dL_bears_11 : decode cL_bears 11 = .ok (.iconst 5, 1) := by decide +kernel
theorem dL_bears_12 : decode cL_bears 12 = .ok (.if_icmp .ge 305, 3) := by decide +kernel
theorem dL_bears_15 : decode cL_bears 15 = .ok (.iconst 0, 1) := by decide +kernel
theorem dL_bears_16 : decode cL_bears 16 = .ok (.istore 13, 2) := by decide +kernel
theorem dL_bears_18 : decode cL_bears 18 = .ok (.iload 13, 2) := by decide +kernel
theorem dL_bears_20 : decode cL_bears 20 = .ok (.iconst 4, 1) := by decide +kernel
theorem dL_bears_21 : decode cL_bears 21 = .ok (.if_icmp .ge 290, 3) := by decide +kernel
theorem dL_bears_24 : decode cL_bears 24 = .ok (.lconst 0, 1) := by decide +kernel
theorem dL_bears_25 : decode cL_bears 25 = .ok (.lstore 14, 2) := by decide +kernel
theorem dL_bears_27 : decode cL_bears 27 = .ok (.iconst 0, 1) := by decide +kernel
theorem dL_bears_28 : decode cL_bears 28 = .ok (.istore 16, 2) := by decide +kernel
theorem dL_bears_30 : decode cL_bears 30 = .ok (.iconst 0, 1) := by decide +kernel
theorem dL_bears_31 : decode cL_bears 31 = .ok (.istore 17, 2) := by decide +kernel
theorem dL_bears_33 : decode cL_bears 33 = .ok (.iload 17, 2) := by decide +kernel
theorem dL_bears_35 : decode cL_bears 35 = .ok (.iload 4, 2) := by decide +kernel
theorem dL_bears_37 : decode cL_bears 37 = .ok (.if_icmp .ge 153, 3) := by decide +kernel
theorem dL_bears_40 : decode cL_bears 40 = .ok (.aload_n 3, 1) := by decide +kernel
theorem dL_bears_41 : decode cL_bears 41 = .ok (.bipush 6, 2) := by decide +kernel
theorem dL_bears_43 : decode cL_bears 43 = .ok (.iload 17, 2) := by decide +kernel
theorem dL_bears_45 : decode cL_bears 45 = .ok (.imul, 1) := by decide +kernel
theorem dL_bears_46 : decode cL_bears 46 = .ok (.iconst 4, 1) := by decide +kernel
theorem dL_bears_47 : decode cL_bears 47 = .ok (.iadd, 1) := by decide +kernel
theorem dL_bears_48 : decode cL_bears 48 = .ok (.iaload, 1) := by decide +kernel
theorem dL_bears_49 : decode cL_bears 49 = .ok (.iload 8, 2) := by decide +kernel
theorem dL_bears_51 : decode cL_bears 51 = .ok (.if_icmp .eq 6, 3) := by decide +kernel
theorem dL_bears_54 : decode cL_bears 54 = .ok (.goto 130, 3) := by decide +kernel
theorem dL_bears_57 : decode cL_bears 57 = .ok (.aload_n 3, 1) := by decide +kernel
theorem dL_bears_58 : decode cL_bears 58 = .ok (.bipush 6, 2) := by decide +kernel
theorem dL_bears_60 : decode cL_bears 60 = .ok (.iload 17, 2) := by decide +kernel
theorem dL_bears_62 : decode cL_bears 62 = .ok (.imul, 1) := by decide +kernel
theorem dL_bears_63 : decode cL_bears 63 = .ok (.iconst 2, 1) := by decide +kernel
theorem dL_bears_64 : decode cL_bears 64 = .ok (.iadd, 1) := by decide +kernel
theorem dL_bears_65 : decode cL_bears 65 = .ok (.iaload, 1) := by decide +kernel
theorem dL_bears_66 : decode cL_bears 66 = .ok (.bipush 100, 2) := by decide +kernel
theorem dL_bears_68 : decode cL_bears 68 = .ok (.idiv, 1) := by decide +kernel
theorem dL_bears_69 : decode cL_bears 69 = .ok (.istore 11, 2) := by decide +kernel
theorem dL_bears_71 : decode cL_bears 71 = .ok (.aload_n 3, 1) := by decide +kernel
theorem dL_bears_72 : decode cL_bears 72 = .ok (.bipush 6, 2) := by decide +kernel
theorem dL_bears_74 : decode cL_bears 74 = .ok (.iload 17, 2) := by decide +kernel
theorem dL_bears_76 : decode cL_bears 76 = .ok (.imul, 1) := by decide +kernel
theorem dL_bears_77 : decode cL_bears 77 = .ok (.iaload, 1) := by decide +kernel
theorem dL_bears_78 : decode cL_bears 78 = .ok (.iload 12, 2) := by decide +kernel
theorem dL_bears_80 : decode cL_bears 80 = .ok (.if_icmp .ne 104, 3) := by decide +kernel
theorem dL_bears_83 : decode cL_bears 83 = .ok (.aload_n 3, 1) := by decide +kernel
theorem dL_bears_84 : decode cL_bears 84 = .ok (.bipush 6, 2) := by decide +kernel
theorem dL_bears_86 : decode cL_bears 86 = .ok (.iload 17, 2) := by decide +kernel
theorem dL_bears_88 : decode cL_bears 88 = .ok (.imul, 1) := by decide +kernel
theorem dL_bears_89 : decode cL_bears 89 = .ok (.iconst 1, 1) := by decide +kernel
theorem dL_bears_90 : decode cL_bears 90 = .ok (.iadd, 1) := by decide +kernel
theorem dL_bears_91 : decode cL_bears 91 = .ok (.iaload, 1) := by decide +kernel
theorem dL_bears_92 : decode cL_bears 92 = .ok (.iload 13, 2) := by decide +kernel
theorem dL_bears_94 : decode cL_bears 94 = .ok (.if_icmp .ne 90, 3) := by decide +kernel
theorem dL_bears_97 : decode cL_bears 97 = .ok (.aload_n 0, 1) := by decide +kernel
theorem dL_bears_98 : decode cL_bears 98 = .ok (.iload_n 1, 1) := by decide +kernel
theorem dL_bears_99 : decode cL_bears 99 = .ok (.aload_n 2, 1) := by decide +kernel
theorem dL_bears_100 : decode cL_bears 100 = .ok (.aload_n 3, 1) := by decide +kernel
theorem dL_bears_101 : decode cL_bears 101 = .ok (.aload 7, 2) := by decide +kernel
theorem dL_bears_103 : decode cL_bears 103 = .ok (.iload 17, 2) := by decide +kernel
theorem dL_bears_105 : decode cL_bears 105 = .ok (.invokestatic 12, 3) := by decide +kernel
theorem dL_bears_108 : decode cL_bears 108 = .ok (.ifCond .ne 6, 3) := by decide +kernel
theorem dL_bears_111 : decode cL_bears 111 = .ok (.goto 73, 3) := by decide +kernel
theorem dL_bears_114 : decode cL_bears 114 = .ok (.iconst 1, 1) := by decide +kernel
theorem dL_bears_115 : decode cL_bears 115 = .ok (.istore 16, 2) := by decide +kernel
theorem dL_bears_117 : decode cL_bears 117 = .ok (.lload 14, 2) := by decide +kernel
theorem dL_bears_119 : decode cL_bears 119 = .ok (.aload_n 3, 1) := by decide +kernel
theorem dL_bears_120 : decode cL_bears 120 = .ok (.bipush 6, 2) := by decide +kernel
theorem dL_bears_122 : decode cL_bears 122 = .ok (.iload 17, 2) := by decide +kernel
theorem dL_bears_124 : decode cL_bears 124 = .ok (.imul, 1) := by decide +kernel
theorem dL_bears_125 : decode cL_bears 125 = .ok (.iconst 5, 1) := by decide +kernel
theorem dL_bears_126 : decode cL_bears 126 = .ok (.iadd, 1) := by decide +kernel
theorem dL_bears_127 : decode cL_bears 127 = .ok (.iaload, 1) := by decide +kernel
theorem dL_bears_128 : decode cL_bears 128 = .ok (.iconst 2, 1) := by decide +kernel
theorem dL_bears_129 : decode cL_bears 129 = .ok (.iand, 1) := by decide +kernel
theorem dL_bears_130 : decode cL_bears 130 = .ok (.ifCond .gt 26, 3) := by decide +kernel
theorem dL_bears_133 : decode cL_bears 133 = .ok (.aload_n 3, 1) := by decide +kernel
theorem dL_bears_134 : decode cL_bears 134 = .ok (.bipush 6, 2) := by decide +kernel
theorem dL_bears_136 : decode cL_bears 136 = .ok (.iload 17, 2) := by decide +kernel
theorem dL_bears_138 : decode cL_bears 138 = .ok (.imul, 1) := by decide +kernel
theorem dL_bears_139 : decode cL_bears 139 = .ok (.iconst 3, 1) := by decide +kernel
theorem dL_bears_140 : decode cL_bears 140 = .ok (.iadd, 1) := by decide +kernel
theorem dL_bears_141 : decode cL_bears 141 = .ok (.iaload, 1) := by decide +kernel
theorem dL_bears_142 : decode cL_bears 142 = .ok (.sipush 5000, 3) := by decide +kernel
theorem dL_bears_145 : decode cL_bears 145 = .ok (.aload_n 2, 1) := by decide +kernel
theorem dL_bears_146 : decode cL_bears 146 = .ok (.bipush 8, 2) := by decide +kernel
theorem dL_bears_148 : decode cL_bears 148 = .ok (.iload 12, 2) := by decide +kernel
theorem dL_bears_150 : decode cL_bears 150 = .ok (.iadd, 1) := by decide +kernel
theorem dL_bears_151 : decode cL_bears 151 = .ok (.iaload, 1) := by decide +kernel
theorem dL_bears_152 : decode cL_bears 152 = .ok (.imul, 1) := by decide +kernel
theorem dL_bears_153 : decode cL_bears 153 = .ok (.if_icmp .ge 16, 3) := by decide +kernel
theorem dL_bears_156 : decode cL_bears 156 = .ok (.aload_n 3, 1) := by decide +kernel
theorem dL_bears_157 : decode cL_bears 157 = .ok (.bipush 6, 2) := by decide +kernel
theorem dL_bears_159 : decode cL_bears 159 = .ok (.iload 17, 2) := by decide +kernel
theorem dL_bears_161 : decode cL_bears 161 = .ok (.imul, 1) := by decide +kernel
theorem dL_bears_162 : decode cL_bears 162 = .ok (.iconst 3, 1) := by decide +kernel
theorem dL_bears_163 : decode cL_bears 163 = .ok (.iadd, 1) := by decide +kernel
theorem dL_bears_164 : decode cL_bears 164 = .ok (.iaload, 1) := by decide +kernel
theorem dL_bears_165 : decode cL_bears 165 = .ok (.i2l, 1) := by decide +kernel
theorem dL_bears_166 : decode cL_bears 166 = .ok (.goto 15, 3) := by decide +kernel
theorem dL_bears_169 : decode cL_bears 169 = .ok (.sipush 5000, 3) := by decide +kernel
theorem dL_bears_172 : decode cL_bears 172 = .ok (.aload_n 2, 1) := by decide +kernel
theorem dL_bears_173 : decode cL_bears 173 = .ok (.bipush 8, 2) := by decide +kernel
theorem dL_bears_175 : decode cL_bears 175 = .ok (.iload 12, 2) := by decide +kernel
theorem dL_bears_177 : decode cL_bears 177 = .ok (.iadd, 1) := by decide +kernel
theorem dL_bears_178 : decode cL_bears 178 = .ok (.iaload, 1) := by decide +kernel
theorem dL_bears_179 : decode cL_bears 179 = .ok (.imul, 1) := by decide +kernel
theorem dL_bears_180 : decode cL_bears 180 = .ok (.i2l, 1) := by decide +kernel
theorem dL_bears_181 : decode cL_bears 181 = .ok (.ladd, 1) := by decide +kernel
theorem dL_bears_182 : decode cL_bears 182 = .ok (.lstore 14, 2) := by decide +kernel
theorem dL_bears_184 : decode cL_bears 184 = .ok (.iinc 17 1, 3) := by decide +kernel
theorem dL_bears_187 : decode cL_bears 187 = .ok (.goto (-154), 3) := by decide +kernel
theorem dL_bears_190 : decode cL_bears 190 = .ok (.iload 16, 2) := by decide +kernel
theorem dL_bears_192 : decode cL_bears 192 = .ok (.ifCond .ne 6, 3) := by decide +kernel
theorem dL_bears_195 : decode cL_bears 195 = .ok (.goto 110, 3) := by decide +kernel
theorem dL_bears_198 : decode cL_bears 198 = .ok (.ldc2_w 18, 3) := by decide +kernel
theorem dL_bears_201 : decode cL_bears 201 = .ok (.lstore 17, 2) := by decide +kernel
theorem dL_bears_203 : decode cL_bears 203 = .ok (.lconst 0, 1) := by decide +kernel
theorem dL_bears_204 : decode cL_bears 204 = .ok (.lstore 19, 2) := by decide +kernel
theorem dL_bears_206 : decode cL_bears 206 = .ok (.iconst 0, 1) := by decide +kernel
theorem dL_bears_207 : decode cL_bears 207 = .ok (.istore 21, 2) := by decide +kernel
theorem dL_bears_209 : decode cL_bears 209 = .ok (.iload 21, 2) := by decide +kernel
theorem dL_bears_211 : decode cL_bears 211 = .ok (.iload 11, 2) := by decide +kernel
theorem dL_bears_213 : decode cL_bears 213 = .ok (.if_icmp .gt 62, 3) := by decide +kernel
theorem dL_bears_216 : decode cL_bears 216 = .ok (.aload 5, 2) := by decide +kernel
theorem dL_bears_218 : decode cL_bears 218 = .ok (.bipush 6, 2) := by decide +kernel
theorem dL_bears_220 : decode cL_bears 220 = .ok (.iload 13, 2) := by decide +kernel
theorem dL_bears_222 : decode cL_bears 222 = .ok (.imul, 1) := by decide +kernel
theorem dL_bears_223 : decode cL_bears 223 = .ok (.iconst 2, 1) := by decide +kernel
theorem dL_bears_224 : decode cL_bears 224 = .ok (.iload 21, 2) := by decide +kernel
theorem dL_bears_226 : decode cL_bears 226 = .ok (.imul, 1) := by decide +kernel
theorem dL_bears_227 : decode cL_bears 227 = .ok (.iadd, 1) := by decide +kernel
theorem dL_bears_228 : decode cL_bears 228 = .ok (.iaload, 1) := by decide +kernel
theorem dL_bears_229 : decode cL_bears 229 = .ok (.ifCond .ge 6, 3) := by decide +kernel
theorem dL_bears_232 : decode cL_bears 232 = .ok (.goto 37, 3) := by decide +kernel
theorem dL_bears_235 : decode cL_bears 235 = .ok (.aload 5, 2) := by decide +kernel
theorem dL_bears_237 : decode cL_bears 237 = .ok (.bipush 6, 2) := by decide +kernel
theorem dL_bears_239 : decode cL_bears 239 = .ok (.iload 13, 2) := by decide +kernel
theorem dL_bears_241 : decode cL_bears 241 = .ok (.imul, 1) := by decide +kernel
theorem dL_bears_242 : decode cL_bears 242 = .ok (.iconst 2, 1) := by decide +kernel
theorem dL_bears_243 : decode cL_bears 243 = .ok (.iload 21, 2) := by decide +kernel
theorem dL_bears_245 : decode cL_bears 245 = .ok (.imul, 1) := by decide +kernel
theorem dL_bears_246 : decode cL_bears 246 = .ok (.iadd, 1) := by decide +kernel
theorem dL_bears_247 : decode cL_bears 247 = .ok (.iaload, 1) := by decide +kernel
theorem dL_bears_248 : decode cL_bears 248 = .ok (.i2l, 1) := by decide +kernel
theorem dL_bears_249 : decode cL_bears 249 = .ok (.lstore 19, 2) := by decide +kernel
theorem dL_bears_251 : decode cL_bears 251 = .ok (.aload 5, 2) := by decide +kernel
theorem dL_bears_253 : decode cL_bears 253 = .ok (.bipush 6, 2) := by decide +kernel
theorem dL_bears_255 : decode cL_bears 255 = .ok (.iload 13, 2) := by decide +kernel
theorem dL_bears_257 : decode cL_bears 257 = .ok (.imul, 1) := by decide +kernel
theorem dL_bears_258 : decode cL_bears 258 = .ok (.iconst 2, 1) := by decide +kernel
theorem dL_bears_259 : decode cL_bears 259 = .ok (.iload 21, 2) := by decide +kernel
theorem dL_bears_261 : decode cL_bears 261 = .ok (.imul, 1) := by decide +kernel
theorem dL_bears_262 : decode cL_bears 262 = .ok (.iadd, 1) := by decide +kernel
theorem dL_bears_263 : decode cL_bears 263 = .ok (.iconst 1, 1) := by decide +kernel
theorem dL_bears_264 : decode cL_bears 264 = .ok (.iadd, 1) := by decide +kernel
theorem dL_bears_265 : decode cL_bears 265 = .ok (.iaload, 1) := by decide +kernel
theorem dL_bears_266 : decode cL_bears 266 = .ok (.i2l, 1) := by decide +kernel
theorem dL_bears_267 : decode cL_bears 267 = .ok (.lstore 17, 2) := by decide +kernel
theorem dL_bears_269 : decode cL_bears 269 = .ok (.iinc 21 1, 3) := by decide +kernel
theorem dL_bears_272 : decode cL_bears 272 = .ok (.goto (-63), 3) := by decide +kernel
theorem dL_bears_275 : decode cL_bears 275 = .ok (.lload 14, 2) := by decide +kernel
theorem dL_bears_277 : decode cL_bears 277 = .ok (.lload 17, 2) := by decide +kernel
theorem dL_bears_279 : decode cL_bears 279 = .ok (.lcmp, 1) := by decide +kernel
theorem dL_bears_280 : decode cL_bears 280 = .ok (.ifCond .le 7, 3) := by decide +kernel
theorem dL_bears_283 : decode cL_bears 283 = .ok (.lload 17, 2) := by decide +kernel
theorem dL_bears_285 : decode cL_bears 285 = .ok (.lstore 14, 2) := by decide +kernel
theorem dL_bears_287 : decode cL_bears 287 = .ok (.lload 14, 2) := by decide +kernel
theorem dL_bears_289 : decode cL_bears 289 = .ok (.lload 19, 2) := by decide +kernel
theorem dL_bears_291 : decode cL_bears 291 = .ok (.lcmp, 1) := by decide +kernel
theorem dL_bears_292 : decode cL_bears 292 = .ok (.ifCond .le 13, 3) := by decide +kernel
theorem dL_bears_295 : decode cL_bears 295 = .ok (.lload 9, 2) := by decide +kernel
theorem dL_bears_297 : decode cL_bears 297 = .ok (.lload 14, 2) := by decide +kernel
theorem dL_bears_299 : decode cL_bears 299 = .ok (.lload 19, 2) := by decide +kernel
theorem dL_bears_301 : decode cL_bears 301 = .ok (.lsub, 1) := by decide +kernel
theorem dL_bears_302 : decode cL_bears 302 = .ok (.ladd, 1) := by decide +kernel
theorem dL_bears_303 : decode cL_bears 303 = .ok (.lstore 9, 2) := by decide +kernel
theorem dL_bears_305 : decode cL_bears 305 = .ok (.iinc 13 1, 3) := by decide +kernel
theorem dL_bears_308 : decode cL_bears 308 = .ok (.goto (-290), 3) := by decide +kernel
theorem dL_bears_311 : decode cL_bears 311 = .ok (.iinc 12 1, 3) := by decide +kernel
theorem dL_bears_314 : decode cL_bears 314 = .ok (.goto (-305), 3) := by decide +kernel
theorem dL_bears_317 : decode cL_bears 317 = .ok (.aload 6, 2) := by decide +kernel
theorem dL_bears_319 : decode cL_bears 319 = .ok (.iconst 3, 1) := by decide +kernel
theorem dL_bears_320 : decode cL_bears 320 = .ok (.iload 11, 2) := by decide +kernel
theorem dL_bears_322 : decode cL_bears 322 = .ok (.imul, 1) := by decide +kernel
theorem dL_bears_323 : decode cL_bears 323 = .ok (.iaload, 1) := by decide +kernel
theorem dL_bears_324 : decode cL_bears 324 = .ok (.ifCond .lt 17, 3) := by decide +kernel
theorem dL_bears_327 : decode cL_bears 327 = .ok (.lload 9, 2) := by decide +kernel
theorem dL_bears_329 : decode cL_bears 329 = .ok (.aload 6, 2) := by decide +kernel
theorem dL_bears_331 : decode cL_bears 331 = .ok (.iconst 3, 1) := by decide +kernel
theorem dL_bears_332 : decode cL_bears 332 = .ok (.iload 11, 2) := by decide +kernel
theorem dL_bears_334 : decode cL_bears 334 = .ok (.imul, 1) := by decide +kernel
theorem dL_bears_335 : decode cL_bears 335 = .ok (.iaload, 1) := by decide +kernel
theorem dL_bears_336 : decode cL_bears 336 = .ok (.i2l, 1) := by decide +kernel
theorem dL_bears_337 : decode cL_bears 337 = .ok (.lcmp, 1) := by decide +kernel
theorem dL_bears_338 : decode cL_bears 338 = .ok (.ifCond .gt 6, 3) := by decide +kernel
theorem dL_bears_341 : decode cL_bears 341 = .ok (.lload 9, 2) := by decide +kernel
theorem dL_bears_343 : decode cL_bears 343 = .ok (.lreturn, 1) := by decide +kernel
theorem dL_bears_344 : decode cL_bears 344 = .ok (.lload 9, 2) := by decide +kernel
theorem dL_bears_346 : decode cL_bears 346 = .ok (.aload 6, 2) := by decide +kernel
theorem dL_bears_348 : decode cL_bears 348 = .ok (.iconst 3, 1) := by decide +kernel
theorem dL_bears_349 : decode cL_bears 349 = .ok (.iload 11, 2) := by decide +kernel
theorem dL_bears_351 : decode cL_bears 351 = .ok (.imul, 1) := by decide +kernel
theorem dL_bears_352 : decode cL_bears 352 = .ok (.iconst 1, 1) := by decide +kernel
theorem dL_bears_353 : decode cL_bears 353 = .ok (.iadd, 1) := by decide +kernel
theorem dL_bears_354 : decode cL_bears 354 = .ok (.iaload, 1) := by decide +kernel
theorem dL_bears_355 : decode cL_bears 355 = .ok (.i2l, 1) := by decide +kernel
theorem dL_bears_356 : decode cL_bears 356 = .ok (.lcmp, 1) := by decide +kernel
theorem dL_bears_357 : decode cL_bears 357 = .ok (.ifCond .le 16, 3) := by decide +kernel
theorem dL_bears_360 : decode cL_bears 360 = .ok (.aload 6, 2) := by decide +kernel
theorem dL_bears_362 : decode cL_bears 362 = .ok (.iconst 3, 1) := by decide +kernel
theorem dL_bears_363 : decode cL_bears 363 = .ok (.iload 11, 2) := by decide +kernel
theorem dL_bears_365 : decode cL_bears 365 = .ok (.imul, 1) := by decide +kernel
theorem dL_bears_366 : decode cL_bears 366 = .ok (.iconst 1, 1) := by decide +kernel
theorem dL_bears_367 : decode cL_bears 367 = .ok (.iadd, 1) := by decide +kernel
theorem dL_bears_368 : decode cL_bears 368 = .ok (.iaload, 1) := by decide +kernel
theorem dL_bears_369 : decode cL_bears 369 = .ok (.i2l, 1) := by decide +kernel
theorem dL_bears_370 : decode cL_bears 370 = .ok (.goto 5, 3) := by decide +kernel
theorem dL_bears_373 : decode cL_bears 373 = .ok (.lload 9, 2) := by decide +kernel
theorem dL_bears_375 : decode cL_bears 375 = .ok (.lstore 12, 2) := by decide +kernel
theorem dL_bears_377 : decode cL_bears 377 = .ok (.aload 6, 2) := by decide +kernel
theorem dL_bears_379 : decode cL_bears 379 = .ok (.iconst 3, 1) := by decide +kernel
theorem dL_bears_380 : decode cL_bears 380 = .ok (.iload 11, 2) := by decide +kernel
theorem dL_bears_382 : decode cL_bears 382 = .ok (.imul, 1) := by decide +kernel
theorem dL_bears_383 : decode cL_bears 383 = .ok (.iaload, 1) := by decide +kernel
theorem dL_bears_384 : decode cL_bears 384 = .ok (.i2l, 1) := by decide +kernel
theorem dL_bears_385 : decode cL_bears 385 = .ok (.lload 12, 2) := by decide +kernel
theorem dL_bears_387 : decode cL_bears 387 = .ok (.aload 6, 2) := by decide +kernel
theorem dL_bears_389 : decode cL_bears 389 = .ok (.iconst 3, 1) := by decide +kernel
theorem dL_bears_390 : decode cL_bears 390 = .ok (.iload 11, 2) := by decide +kernel
theorem dL_bears_392 : decode cL_bears 392 = .ok (.imul, 1) := by decide +kernel
theorem dL_bears_393 : decode cL_bears 393 = .ok (.iaload, 1) := by decide +kernel
theorem dL_bears_394 : decode cL_bears 394 = .ok (.i2l, 1) := by decide +kernel
theorem dL_bears_395 : decode cL_bears 395 = .ok (.lsub, 1) := by decide +kernel
theorem dL_bears_396 : decode cL_bears 396 = .ok (.aload 6, 2) := by decide +kernel
theorem dL_bears_398 : decode cL_bears 398 = .ok (.iconst 3, 1) := by decide +kernel
theorem dL_bears_399 : decode cL_bears 399 = .ok (.iload 11, 2) := by decide +kernel
theorem dL_bears_401 : decode cL_bears 401 = .ok (.imul, 1) := by decide +kernel
theorem dL_bears_402 : decode cL_bears 402 = .ok (.iconst 2, 1) := by decide +kernel
theorem dL_bears_403 : decode cL_bears 403 = .ok (.iadd, 1) := by decide +kernel
theorem dL_bears_404 : decode cL_bears 404 = .ok (.iaload, 1) := by decide +kernel
theorem dL_bears_405 : decode cL_bears 405 = .ok (.i2l, 1) := by decide +kernel
theorem dL_bears_406 : decode cL_bears 406 = .ok (.lmul, 1) := by decide +kernel
theorem dL_bears_407 : decode cL_bears 407 = .ok (.ldc2_w 10, 3) := by decide +kernel
theorem dL_bears_410 : decode cL_bears 410 = .ok (.ldiv, 1) := by decide +kernel
theorem dL_bears_411 : decode cL_bears 411 = .ok (.ladd, 1) := by decide +kernel
theorem dL_bears_412 : decode cL_bears 412 = .ok (.lload 9, 2) := by decide +kernel
theorem dL_bears_414 : decode cL_bears 414 = .ok (.ladd, 1) := by decide +kernel
theorem dL_bears_415 : decode cL_bears 415 = .ok (.lload 12, 2) := by decide +kernel
theorem dL_bears_417 : decode cL_bears 417 = .ok (.lsub, 1) := by decide +kernel
theorem dL_bears_418 : decode cL_bears 418 = .ok (.lreturn, 1) := by decide +kernel
set_option maxRecDepth 20000 in
theorem ggL_cost_L_bears : GoodIn wsL_cost wsL_bears := goodIn_r _ [4, 5, 6, 7, 8, 3, 9] (by decide +kernel) (by decide +kernel)
set_option maxRecDepth 20000 in
theorem gL_cost_L_bears : GoodIn wsL_cost (va_wsS RL 20 yL_bears wsL_bears) := goodIn_app (goodIn_of _ (by decide +kernel)) ggL_cost_L_bears
theorem dL_cost_0 : decode cL_cost 0 = .ok (.lconst 0, 1) := by decide +kernel
theorem dL_cost_1 : decode cL_cost 1 = .ok (.lstore 10, 2) := by decide +kernel
theorem dL_cost_3 : decode cL_cost 3 = .ok (.iconst 0, 1) := by decide +kernel
theorem dL_cost_4 : decode cL_cost 4 = .ok (.istore 12, 2) := by decide +kernel
theorem dL_cost_6 : decode cL_cost 6 = .ok (.iload 12, 2) := by decide +kernel
theorem dL_cost_8 : decode cL_cost 8 = .ok (.iload 8, 2) := by decide +kernel
theorem dL_cost_10 : decode cL_cost 10 = .ok (.if_icmp .ge 89, 3) := by decide +kernel
theorem dL_cost_13 : decode cL_cost 13 = .ok (.iconst 0, 1) := by decide +kernel
theorem dL_cost_14 : decode cL_cost 14 = .ok (.istore 13, 2) := by decide +kernel
theorem dL_cost_16 : decode cL_cost 16 = .ok (.iconst 0, 1) := by decide +kernel
theorem dL_cost_17 : decode cL_cost 17 = .ok (.istore 14, 2) := by decide +kernel
theorem dL_cost_19 : decode cL_cost 19 = .ok (.iload 14, 2) := by decide +kernel
theorem dL_cost_21 : decode cL_cost 21 = .ok (.iload 4, 2) := by decide +kernel
theorem dL_cost_23 : decode cL_cost 23 = .ok (.if_icmp .ge 43, 3) := by decide +kernel
theorem dL_cost_26 : decode cL_cost 26 = .ok (.aload_n 3, 1) := by decide +kernel
theorem dL_cost_27 : decode cL_cost 27 = .ok (.bipush 6, 2) := by decide +kernel
theorem dL_cost_29 : decode cL_cost 29 = .ok (.iload 14, 2) := by decide +kernel
theorem dL_cost_31 : decode cL_cost 31 = .ok (.imul, 1) := by decide +kernel
theorem dL_cost_32 : decode cL_cost 32 = .ok (.iconst 4, 1) := by decide +kernel
theorem dL_cost_33 : decode cL_cost 33 = .ok (.iadd, 1) := by decide +kernel
theorem dL_cost_34 : decode cL_cost 34 = .ok (.iaload, 1) := by decide +kernel
theorem dL_cost_35 : decode cL_cost 35 = .ok (.iload 12, 2) := by decide +kernel
theorem dL_cost_37 : decode cL_cost 37 = .ok (.if_icmp .ne 23, 3) := by decide +kernel
theorem dL_cost_40 : decode cL_cost 40 = .ok (.aload_n 3, 1) := by decide +kernel
theorem dL_cost_41 : decode cL_cost 41 = .ok (.bipush 6, 2) := by decide +kernel
theorem dL_cost_43 : decode cL_cost 43 = .ok (.iload 14, 2) := by decide +kernel
theorem dL_cost_45 : decode cL_cost 45 = .ok (.imul, 1) := by decide +kernel
theorem dL_cost_46 : decode cL_cost 46 = .ok (.iconst 2, 1) := by decide +kernel
theorem dL_cost_47 : decode cL_cost 47 = .ok (.iadd, 1) := by decide +kernel
theorem dL_cost_48 : decode cL_cost 48 = .ok (.iaload, 1) := by decide +kernel
theorem dL_cost_49 : decode cL_cost 49 = .ok (.bipush 100, 2) := by decide +kernel
theorem dL_cost_51 : decode cL_cost 51 = .ok (.idiv, 1) := by decide +kernel
theorem dL_cost_52 : decode cL_cost 52 = .ok (.iload 9, 2) := by decide +kernel
theorem dL_cost_54 : decode cL_cost 54 = .ok (.if_icmp .ne 6, 3) := by decide +kernel
theorem dL_cost_57 : decode cL_cost 57 = .ok (.iconst 1, 1) := by decide +kernel
theorem dL_cost_58 : decode cL_cost 58 = .ok (.istore 13, 2) := by decide +kernel
theorem dL_cost_60 : decode cL_cost 60 = .ok (.iinc 14 1, 3) := by decide +kernel
theorem dL_cost_63 : decode cL_cost 63 = .ok (.goto (-44), 3) := by decide +kernel
theorem dL_cost_66 : decode cL_cost 66 = .ok (.iload 13, 2) := by decide +kernel
theorem dL_cost_68 : decode cL_cost 68 = .ok (.ifCond .eq 25, 3) := by decide +kernel
theorem dL_cost_71 : decode cL_cost 71 = .ok (.lload 10, 2) := by decide +kernel
theorem dL_cost_73 : decode cL_cost 73 = .ok (.aload_n 0, 1) := by decide +kernel
theorem dL_cost_74 : decode cL_cost 74 = .ok (.iload_n 1, 1) := by decide +kernel
theorem dL_cost_75 : decode cL_cost 75 = .ok (.aload_n 2, 1) := by decide +kernel
theorem dL_cost_76 : decode cL_cost 76 = .ok (.aload_n 3, 1) := by decide +kernel
theorem dL_cost_77 : decode cL_cost 77 = .ok (.iload 4, 2) := by decide +kernel
theorem dL_cost_79 : decode cL_cost 79 = .ok (.aload 5, 2) := by decide +kernel
theorem dL_cost_81 : decode cL_cost 81 = .ok (.aload 6, 2) := by decide +kernel
theorem dL_cost_83 : decode cL_cost 83 = .ok (.aload 7, 2) := by decide +kernel
theorem dL_cost_85 : decode cL_cost 85 = .ok (.iload 12, 2) := by decide +kernel
theorem dL_cost_87 : decode cL_cost 87 = .ok (.invokestatic 20, 3) := by decide +kernel
theorem dL_cost_90 : decode cL_cost 90 = .ok (.ladd, 1) := by decide +kernel
theorem dL_cost_91 : decode cL_cost 91 = .ok (.lstore 10, 2) := by decide +kernel
theorem dL_cost_93 : decode cL_cost 93 = .ok (.iinc 12 1, 3) := by decide +kernel
theorem dL_cost_96 : decode cL_cost 96 = .ok (.goto (-90), 3) := by decide +kernel
theorem dL_cost_99 : decode cL_cost 99 = .ok (.lload 10, 2) := by decide +kernel
theorem dL_cost_101 : decode cL_cost 101 = .ok (.lreturn, 1) := by decide +kernel
set_option maxRecDepth 20000 in
theorem ggL_due_L_weight : GoodIn wsL_due wsL_weight := goodIn_r _ [6, 2] (by decide +kernel) (by decide +kernel)
set_option maxRecDepth 20000 in
theorem gL_due_L_weight : GoodIn wsL_due (va_wsS RL 24 yL_weight wsL_weight) := goodIn_app (goodIn_of _ (by decide +kernel)) ggL_due_L_weight
theorem dL_due_0 : decode cL_due 0 = .ok (.aload 6, 2) := by decide +kernel
theorem dL_due_2 : decode cL_due 2 = .ok (.iconst 3, 1) := by decide +kernel
theorem dL_due_3 : decode cL_due 3 = .ok (.iload 7, 2) := by decide +kernel
theorem dL_due_5 : decode cL_due 5 = .ok (.imul, 1) := by decide +kernel
theorem dL_due_6 : decode cL_due 6 = .ok (.iload 8, 2) := by decide +kernel
theorem dL_due_8 : decode cL_due 8 = .ok (.iadd, 1) := by decide +kernel
theorem dL_due_9 : decode cL_due 9 = .ok (.iaload, 1) := by decide +kernel
theorem dL_due_10 : decode cL_due 10 = .ok (.ifCond .le 14, 3) := by decide +kernel
theorem dL_due_13 : decode cL_due 13 = .ok (.aload 5, 2) := by decide +kernel
theorem dL_due_15 : decode cL_due 15 = .ok (.iconst 3, 1) := by decide +kernel
theorem dL_due_16 : decode cL_due 16 = .ok (.iload 7, 2) := by decide +kernel
theorem dL_due_18 : decode cL_due 18 = .ok (.imul, 1) := by decide +kernel
theorem dL_due_19 : decode cL_due 19 = .ok (.iload 8, 2) := by decide +kernel
theorem dL_due_21 : decode cL_due 21 = .ok (.iadd, 1) := by decide +kernel
theorem dL_due_22 : decode cL_due 22 = .ok (.laload, 1) := by decide +kernel
theorem dL_due_23 : decode cL_due 23 = .ok (.lreturn, 1) := by decide +kernel
theorem dL_due_24 : decode cL_due 24 = .ok (.iload 8, 2) := by decide +kernel
theorem dL_due_26 : decode cL_due 26 = .ok (.aload 6, 2) := by decide +kernel
theorem dL_due_28 : decode cL_due 28 = .ok (.bipush 12, 2) := by decide +kernel
theorem dL_due_30 : decode cL_due 30 = .ok (.iaload, 1) := by decide +kernel
theorem dL_due_31 : decode cL_due 31 = .ok (.if_icmp .ge 5, 3) := by decide +kernel
theorem dL_due_34 : decode cL_due 34 = .ok (.lconst 0, 1) := by decide +kernel
theorem dL_due_35 : decode cL_due 35 = .ok (.lreturn, 1) := by decide +kernel
theorem dL_due_36 : decode cL_due 36 = .ok (.aload_n 0, 1) := by decide +kernel
theorem dL_due_37 : decode cL_due 37 = .ok (.iload_n 1, 1) := by decide +kernel
theorem dL_due_38 : decode cL_due 38 = .ok (.aload_n 2, 1) := by decide +kernel
theorem dL_due_39 : decode cL_due 39 = .ok (.aload_n 3, 1) := by decide +kernel
theorem dL_due_40 : decode cL_due 40 = .ok (.iload 7, 2) := by decide +kernel
theorem dL_due_42 : decode cL_due 42 = .ok (.iload 8, 2) := by decide +kernel
theorem dL_due_44 : decode cL_due 44 = .ok (.invokestatic 24, 3) := by decide +kernel
theorem dL_due_47 : decode cL_due 47 = .ok (.aload 4, 2) := by decide +kernel
theorem dL_due_49 : decode cL_due 49 = .ok (.iload 8, 2) := by decide +kernel
theorem dL_due_51 : decode cL_due 51 = .ok (.iaload, 1) := by decide +kernel
theorem dL_due_52 : decode cL_due 52 = .ok (.i2l, 1) := by decide +kernel
theorem dL_due_53 : decode cL_due 53 = .ok (.lmul, 1) := by decide +kernel
theorem dL_due_54 : decode cL_due 54 = .ok (.ldc2_w 28, 3) := by decide +kernel
theorem dL_due_57 : decode cL_due 57 = .ok (.ldiv, 1) := by decide +kernel
theorem dL_due_58 : decode cL_due 58 = .ok (.lstore 9, 2) := by decide +kernel
theorem dL_due_60 : decode cL_due 60 = .ok (.lload 9, 2) := by decide +kernel
theorem dL_due_62 : decode cL_due 62 = .ok (.lload 9, 2) := by decide +kernel
theorem dL_due_64 : decode cL_due 64 = .ok (.aload 4, 2) := by decide +kernel
theorem dL_due_66 : decode cL_due 66 = .ok (.iconst 3, 1) := by decide +kernel
theorem dL_due_67 : decode cL_due 67 = .ok (.iload 8, 2) := by decide +kernel
theorem dL_due_69 : decode cL_due 69 = .ok (.iadd, 1) := by decide +kernel
theorem dL_due_70 : decode cL_due 70 = .ok (.iaload, 1) := by decide +kernel
theorem dL_due_71 : decode cL_due 71 = .ok (.i2l, 1) := by decide +kernel
theorem dL_due_72 : decode cL_due 72 = .ok (.lmul, 1) := by decide +kernel
theorem dL_due_73 : decode cL_due 73 = .ok (.ldc2_w 10, 3) := by decide +kernel
theorem dL_due_76 : decode cL_due 76 = .ok (.ldiv, 1) := by decide +kernel
theorem dL_due_77 : decode cL_due 77 = .ok (.ladd, 1) := by decide +kernel
theorem dL_due_78 : decode cL_due 78 = .ok (.lreturn, 1) := by decide +kernel
set_option maxRecDepth 20000 in
theorem ggL_closed_X7_close : GoodIn wsL_closed wsX7_close := goodIn_ca (goodIn_ca (goodIn_r _ [7, 8, 9, 10, 11, 12, 13, 14, 15, 16, 6, 17, 18, 19, 20, 21, 22, 23, 24, 25, 26, 27, 28, 29, 30, 31, 32, 33, 34, 35, 36, 37, 38, 39, 40, 41, 42, 43, 44, 45, 46, 47, 48, 49, 50, 51, 52, 53, 54, 55, 56, 57, 58, 59, 60, 61, 62, 63, 64, 65, 66, 67, 68, 69, 70, 71, 72, 73, 74, 75, 76, 77, 78, 79, 80, 81, 82, 83, 84, 85, 86, 87, 88, 89, 90, 91, 92, 93, 94, 95, 96, 97, 98, 99, 100, 101, 102, 103, 104, 105, 106, 107, 108, 109, 110, 111, 112, 113, 114, 115, 116, 117, 118, 119, 120, 121, 122, 123, 124, 125, 126, 127, 128, 129, 130, 131, 132, 133, 134, 135, 136, 137, 138, 139, 140, 141, 142, 143, 144, 145, 146, 147, 148, 149, 150, 151, 152, 153, 154, 155, 156, 157, 158, 159, 160, 161, 162, 163, 164, 165, 166, 167, 168, 169, 170, 171, 172, 173, 174, 175, 176, 177, 178, 179, 180, 181, 182, 183, 184, 185, 186, 187, 188, 189, 190, 191, 192, 193, 194, 195, 196, 197, 198, 199, 200, 201, 202, 203, 204, 205, 206, 207, 208, 209, 210, 211, 212, 213, 214, 215, 216, 217, 218, 219, 220, 221, 222] (by decide +kernel) (by decide +kernel)) (goodIn_sub (fun _ h => List.mem_cons_of_mem _ (List.mem_append_left _ (List.mem_append_right _ h))) (by decide +kernel))) (goodIn_sub (fun _ h => List.mem_cons_of_mem _ (List.mem_append_right _ h)) (by decide +kernel))
set_option maxRecDepth 20000 in
theorem gL_closed_X7_close : GoodIn wsL_closed (wsV RL 30 RX7 yX7_close wsX7_close) := goodIn_app (goodIn_of _ (by decide +kernel)) ggL_closed_X7_close
theorem dL_closed_0 : decode cL_closed 0 = .ok (.aload_n 0, 1) := by decide +kernel
theorem dL_closed_1 : decode cL_closed 1 = .ok (.iload_n 1, 1) := by decide +kernel
theorem dL_closed_2 : decode cL_closed 2 = .ok (.invokevirtual 30, 3) := by decide +kernel
theorem dL_closed_5 : decode cL_closed 5 = .ok (.lreturn, 1) := by decide +kernel
theorem dL_closed_6 : decode cL_closed 6 = .ok (.astore_n 2, 1) := by decide +kernel
theorem dL_closed_7 : decode cL_closed 7 = .ok (.ldc2_w 38, 3) := by decide +kernel
theorem dL_closed_10 : decode cL_closed 10 = .ok (.lreturn, 1) := by decide +kernel
set_option maxRecDepth 20000 in
theorem ggL_tried_X7_release : GoodIn wsL_tried wsX7_release := goodIn_ca (goodIn_ca (goodIn_ca (goodIn_r _ [6, 7, 8, 9, 10, 11, 12, 13, 5, 14, 15, 16, 17, 18, 19, 20, 21, 22, 23, 24, 25, 26, 27, 28, 29, 30, 31, 32, 33, 34, 35, 36, 37, 38, 39, 40, 41, 42, 43, 44, 45, 46, 47, 48, 49, 50, 51, 52, 53, 54, 55, 56, 57, 58, 59, 60, 61, 62, 63, 64, 65, 66, 67, 68, 69, 70, 71, 72, 73, 74, 75, 76, 77, 78, 79, 80, 81, 82, 124, 125, 126, 127, 128, 129, 130, 131, 132, 133, 134, 135, 136, 137, 138, 139, 140, 141, 142, 143, 144, 145, 146, 147, 148, 149, 150, 151, 152, 153, 154, 155, 156] (by decide +kernel) (by decide +kernel)) (goodIn_sub (fun _ h => List.mem_cons_of_mem _ (List.mem_append_left _ (List.mem_append_left _ (List.mem_append_right _ h)))) (by decide +kernel))) (goodIn_sub (fun _ h => List.mem_cons_of_mem _ (List.mem_append_left _ (List.mem_append_right _ h))) (by decide +kernel))) (goodIn_sub (fun _ h => List.mem_cons_of_mem _ (List.mem_append_right _ h)) (by decide +kernel))
set_option maxRecDepth 20000 in
theorem gL_tried_X7_release : GoodIn wsL_tried (wsV RL 40 RX7 yX7_release wsX7_release) := goodIn_app (goodIn_of _ (by decide +kernel)) ggL_tried_X7_release
set_option maxRecDepth 20000 in
theorem ggL_tried_X7_stop : GoodIn wsL_tried wsX7_stop := goodIn_ca (goodIn_ca (goodIn_ca (goodIn_r _ [86, 7, 8, 87, 88, 11, 12, 13, 5, 14, 15, 16, 17, 18, 19, 20, 21, 22, 23, 89, 90, 91, 92, 93, 78, 79, 80, 81, 9, 10, 36, 71, 82, 70, 72, 73, 74, 75, 76, 77, 37, 38, 39, 40, 41, 42, 43, 30, 44, 45, 46, 47, 48, 49, 50, 51, 52, 53, 54, 55, 56, 57, 58, 59, 60, 61, 62, 63, 64, 65, 124, 125, 126, 127, 128, 129, 130, 131, 132, 133, 134, 135, 136, 137, 149, 150, 151, 152, 153, 138, 139, 140, 141, 142, 143, 144, 154, 155, 156, 145, 146, 147, 148] (by decide +kernel) (by decide +kernel)) (goodIn_sub (fun _ h => List.mem_cons_of_mem _ (List.mem_append_left _ (List.mem_append_left _ (List.mem_append_right _ h)))) (by decide +kernel))) (goodIn_sub (fun _ h => List.mem_cons_of_mem _ (List.mem_append_left _ (List.mem_append_right _ h))) (by decide +kernel))) (goodIn_sub (fun _ h => List.mem_cons_of_mem _ (List.mem_append_right _ h)) (by decide +kernel))
set_option maxRecDepth 20000 in
theorem gL_tried_X7_stop : GoodIn wsL_tried (wsV RL 44 RX7 yX7_stop wsX7_stop) := goodIn_app (goodIn_of _ (by decide +kernel)) ggL_tried_X7_stop
set_option maxRecDepth 20000 in
theorem ggL_tried_L_entered : GoodIn wsL_tried wsL_entered := goodIn_ca (goodIn_ca (goodIn_r _ [97, 98, 99, 100, 5, 101, 7, 8, 31, 30, 36, 87, 41, 102, 103, 48, 42, 104, 105, 106, 107, 15, 16, 28, 29, 108, 109, 110, 111, 112, 113, 114, 115, 116, 55, 117, 50, 145, 146, 147, 148, 149, 150, 151, 152, 153, 124, 125, 126, 127, 128, 129, 130, 131, 132, 133, 134, 135, 136, 137, 154, 155, 156] (by decide +kernel) (by decide +kernel)) (goodIn_sub (fun _ h => List.mem_cons_of_mem _ (List.mem_append_left _ (List.mem_append_left _ (List.mem_append_right _ h)))) (by decide +kernel))) (goodIn_sub (fun _ h => List.mem_cons_of_mem _ (List.mem_append_left _ (List.mem_append_right _ h))) (by decide +kernel))
set_option maxRecDepth 20000 in
theorem gL_tried_L_entered : GoodIn wsL_tried (va_wsS RL 47 yL_entered wsL_entered) := goodIn_app (goodIn_of _ (by decide +kernel)) ggL_tried_L_entered
set_option maxRecDepth 20000 in
theorem ggL_tried_X7_leave : GoodIn wsL_tried wsX7_leave := goodIn_ca (goodIn_ca (goodIn_r _ [121, 7, 8, 31, 87, 122, 123, 104, 105, 106, 5, 107, 15, 16, 28, 29, 145, 146, 147, 148, 124, 125, 126, 127, 128, 129, 130, 131, 132, 133, 134, 135, 136, 137, 154, 155, 156] (by decide +kernel) (by decide +kernel)) (goodIn_sub (fun _ h => List.mem_cons_of_mem _ (List.mem_append_left _ (List.mem_append_left _ (List.mem_append_right _ h)))) (by decide +kernel))) (goodIn_sub (fun _ h => List.mem_cons_of_mem _ (List.mem_append_left _ (List.mem_append_right _ h))) (by decide +kernel))
set_option maxRecDepth 20000 in
theorem gL_tried_X7_leave : GoodIn wsL_tried (wsV RL 51 RX7 yX7_leave wsX7_leave) := goodIn_app (goodIn_of _ (by decide +kernel)) ggL_tried_X7_leave
theorem dL_tried_0 : decode cL_tried 0 = .ok (.iload_n 1, 1) := by decide +kernel
theorem dL_tried_1 : decode cL_tried 1 = .ok (.ifCond .ne 12, 3) := by decide +kernel
theorem dL_tried_4 : decode cL_tried 4 = .ok (.aload_n 0, 1) := by decide +kernel
theorem dL_tried_5 : decode cL_tried 5 = .ok (.iload_n 2, 1) := by decide +kernel
theorem dL_tried_6 : decode cL_tried 6 = .ok (.iload_n 3, 1) := by decide +kernel
theorem dL_tried_7 : decode cL_tried 7 = .ok (.invokevirtual 40, 3) := by decide +kernel
theorem dL_tried_10 : decode cL_tried 10 = .ok (.goto 35, 3) := by decide +kernel
theorem dL_tried_13 : decode cL_tried 13 = .ok (.iload_n 1, 1) := by decide +kernel
theorem dL_tried_14 : decode cL_tried 14 = .ok (.iconst 1, 1) := by decide +kernel
theorem dL_tried_15 : decode cL_tried 15 = .ok (.if_icmp .ne 12, 3) := by decide +kernel
theorem dL_tried_18 : decode cL_tried 18 = .ok (.aload_n 0, 1) := by decide +kernel
theorem dL_tried_19 : decode cL_tried 19 = .ok (.iload_n 2, 1) := by decide +kernel
theorem dL_tried_20 : decode cL_tried 20 = .ok (.iload_n 3, 1) := by decide +kernel
theorem dL_tried_21 : decode cL_tried 21 = .ok (.invokevirtual 44, 3) := by decide +kernel
theorem dL_tried_24 : decode cL_tried 24 = .ok (.goto 21, 3) := by decide +kernel
theorem dL_tried_27 : decode cL_tried 27 = .ok (.iload_n 1, 1) := by decide +kernel
theorem dL_tried_28 : decode cL_tried 28 = .ok (.iconst 2, 1) := by decide +kernel
theorem dL_tried_29 : decode cL_tried 29 = .ok (.if_icmp .ne 11, 3) := by decide +kernel
theorem dL_tried_32 : decode cL_tried 32 = .ok (.aload_n 0, 1) := by decide +kernel
theorem dL_tried_33 : decode cL_tried 33 = .ok (.iload_n 2, 1) := by decide +kernel
theorem dL_tried_34 : decode cL_tried 34 = .ok (.invokestatic 47, 3) := by decide +kernel
theorem dL_tried_37 : decode cL_tried 37 = .ok (.goto 8, 3) := by decide +kernel
theorem dL_tried_40 : decode cL_tried 40 = .ok (.aload_n 0, 1) := by decide +kernel
theorem dL_tried_41 : decode cL_tried 41 = .ok (.iload_n 2, 1) := by decide +kernel
theorem dL_tried_42 : decode cL_tried 42 = .ok (.invokevirtual 51, 3) := by decide +kernel
theorem dL_tried_45 : decode cL_tried 45 = .ok (.ireturn, 1) := by decide +kernel
theorem dL_tried_46 : decode cL_tried 46 = .ok (.astore 4, 2) := by decide +kernel
theorem dL_tried_48 : decode cL_tried 48 = .ok (.bipush (-9), 2) := by decide +kernel
theorem dL_tried_50 : decode cL_tried 50 = .ok (.ireturn, 1) := by decide +kernel
set_option maxRecDepth 20000 in
theorem ggL_entered_X7_enter : GoodIn wsL_entered wsX7_enter := goodIn_ca (goodIn_ca (goodIn_r _ [5, 6, 7, 8, 9, 10, 11, 12, 13, 14, 15, 16, 17, 18, 19, 4, 20, 21, 22, 23, 24, 25, 26, 27, 28, 29, 30, 31, 32, 33, 34, 35, 36, 37, 38, 39, 40, 41, 42, 43, 44, 45, 46, 47, 48, 49, 50, 51, 52, 53, 54, 55, 56, 57, 58, 59, 60, 61, 62] (by decide +kernel) (by decide +kernel)) (goodIn_sub (fun _ h => List.mem_cons_of_mem _ (List.mem_append_left _ (List.mem_append_right _ h))) (by decide +kernel))) (goodIn_sub (fun _ h => List.mem_cons_of_mem _ (List.mem_append_right _ h)) (by decide +kernel))
set_option maxRecDepth 20000 in
theorem gL_entered_X7_enter : GoodIn wsL_entered (wsV RL 55 RX7 yX7_enter wsX7_enter) := goodIn_app (goodIn_of _ (by decide +kernel)) ggL_entered_X7_enter
theorem dL_entered_0 : decode cL_entered 0 = .ok (.aload_n 0, 1) := by decide +kernel
theorem dL_entered_1 : decode cL_entered 1 = .ok (.iload_n 1, 1) := by decide +kernel
theorem dL_entered_2 : decode cL_entered 2 = .ok (.invokevirtual 55, 3) := by decide +kernel
theorem dL_entered_5 : decode cL_entered 5 = .ok (.iconst 0, 1) := by decide +kernel
theorem dL_entered_6 : decode cL_entered 6 = .ok (.ireturn, 1) := by decide +kernel
