theorem dL_cell_0 : decode cL_cell 0 = .ok (.iload_n 1, 1) := by decide +kernel
theorem dL_cell_1 : decode cL_cell 1 = .ok (.aload_n 0, 1) := by decide +kernel
theorem dL_cell_2 : decode cL_cell 2 = .ok (.arraylength, 1) := by decide +kernel
theorem dL_cell_3 : decode cL_cell 3 = .ok (.if_icmp .ge 9, 3) := by decide +kernel
theorem dL_cell_6 : decode cL_cell 6 = .ok (.aload_n 0, 1) := by decide +kernel
theorem dL_cell_7 : decode cL_cell 7 = .ok (.iload_n 1, 1) := by decide +kernel
theorem dL_cell_8 : decode cL_cell 8 = .ok (.iaload, 1) := by decide +kernel
theorem dL_cell_9 : decode cL_cell 9 = .ok (.goto 11, 3) := by decide +kernel
theorem dL_cell_12 : decode cL_cell 12 = .ok (.sipush 7177, 3) := by decide +kernel
theorem dL_cell_15 : decode cL_cell 15 = .ok (.iload_n 1, 1) := by decide +kernel
theorem dL_cell_16 : decode cL_cell 16 = .ok (.bipush 39, 2) := by decide +kernel
theorem dL_cell_18 : decode cL_cell 18 = .ok (.iadd, 1) := by decide +kernel
theorem dL_cell_19 : decode cL_cell 19 = .ok (.imul, 1) := by decide +kernel
theorem dL_cell_20 : decode cL_cell 20 = .ok (.istore_n 2, 1) := by decide +kernel
theorem dL_cell_21 : decode cL_cell 21 = .ok (.iload_n 2, 1) := by decide +kernel
theorem dL_cell_22 : decode cL_cell 22 = .ok (.iload_n 2, 1) := by decide +kernel
theorem dL_cell_23 : decode cL_cell 23 = .ok (.bipush 14, 2) := by decide +kernel
theorem dL_cell_25 : decode cL_cell 25 = .ok (.iushr, 1) := by decide +kernel
theorem dL_cell_26 : decode cL_cell 26 = .ok (.ixor, 1) := by decide +kernel
theorem dL_cell_27 : decode cL_cell 27 = .ok (.ldc 7, 2) := by decide +kernel
theorem dL_cell_29 : decode cL_cell 29 = .ok (.imul, 1) := by decide +kernel
theorem dL_cell_30 : decode cL_cell 30 = .ok (.sipush 141, 3) := by decide +kernel
theorem dL_cell_33 : decode cL_cell 33 = .ok (.iload_n 1, 1) := by decide +kernel
theorem dL_cell_34 : decode cL_cell 34 = .ok (.imul, 1) := by decide +kernel
theorem dL_cell_35 : decode cL_cell 35 = .ok (.iadd, 1) := by decide +kernel
theorem dL_cell_36 : decode cL_cell 36 = .ok (.ireturn, 1) := by decide +kernel
theorem dL_some_0 : decode cL_some 0 = .ok (.iload_n 0, 1) := by decide +kernel
theorem dL_some_1 : decode cL_some 1 = .ok (.iconst 1, 1) := by decide +kernel
theorem dL_some_2 : decode cL_some 2 = .ok (.iushr, 1) := by decide +kernel
theorem dL_some_3 : decode cL_some 3 = .ok (.iload_n 1, 1) := by decide +kernel
theorem dL_some_4 : decode cL_some 4 = .ok (.irem, 1) := by decide +kernel
theorem dL_some_5 : decode cL_some 5 = .ok (.ireturn, 1) := by decide +kernel
theorem dL_call_0 : decode cL_call 0 = .ok (.aload_n 0, 1) := by decide +kernel
theorem dL_call_1 : decode cL_call 1 = .ok (.iload_n 1, 1) := by decide +kernel
theorem dL_call_2 : decode cL_call 2 = .ok (.iload_n 2, 1) := by decide +kernel
theorem dL_call_3 : decode cL_call 3 = .ok (.iload_n 3, 1) := by decide +kernel
theorem dL_call_4 : decode cL_call 4 = .ok (.iload 4, 2) := by decide +kernel
theorem dL_call_6 : decode cL_call 6 = .ok (.iload 5, 2) := by decide +kernel
theorem dL_call_8 : decode cL_call 8 = .ok (.invokestatic 8, 3) := by decide +kernel
theorem dL_call_11 : decode cL_call 11 = .ok (.ireturn, 1) := by decide +kernel
theorem dL_call_12 : decode cL_call 12 = .ok (.astore 6, 2) := by decide +kernel
theorem dL_call_14 : decode cL_call 14 = .ok (.bipush (-61), 2) := by decide +kernel
theorem dL_call_16 : decode cL_call 16 = .ok (.ireturn, 1) := by decide +kernel
theorem dL_call_17 : decode cL_call 17 = .ok (.astore 6, 2) := by decide +kernel
theorem dL_call_19 : decode cL_call 19 = .ok (.bipush (-62), 2) := by decide +kernel
theorem dL_call_21 : decode cL_call 21 = .ok (.ireturn, 1) := by decide +kernel
theorem dL_call_22 : decode cL_call 22 = .ok (.astore 6, 2) := by decide +kernel
theorem dL_call_24 : decode cL_call 24 = .ok (.bipush (-63), 2) := by decide +kernel
theorem dL_call_26 : decode cL_call 26 = .ok (.ireturn, 1) := by decide +kernel
theorem dL_does_0 : decode cL_does 0 = .ok (.iload_n 1, 1) := by decide +kernel
theorem dL_does_1 : decode cL_does 1 = .ok (.tableswitch 204 0 14 #[75, 91, 102, 113, 120, 126, 133, 148, 154, 161, 168, 174, 184, 192, 198], 75) := by decide +kernel
theorem dL_does_76 : decode cL_does 76 = .ok (.aload_n 0, 1) := by decide +kernel
theorem dL_does_77 : decode cL_does 77 = .ok (.iload_n 2, 1) := by decide +kernel
theorem dL_does_78 : decode cL_does 78 = .ok (.iload_n 3, 1) := by decide +kernel
theorem dL_does_79 : decode cL_does 79 = .ok (.iconst 1, 1) := by decide +kernel
theorem dL_does_80 : decode cL_does 80 = .ok (.if_icmp .ne 7, 3) := by decide +kernel
theorem dL_does_83 : decode cL_does 83 = .ok (.iconst 1, 1) := by decide +kernel
theorem dL_does_84 : decode cL_does 84 = .ok (.goto 4, 3) := by decide +kernel
theorem dL_does_87 : decode cL_does 87 = .ok (.iconst 0, 1) := by decide +kernel
theorem dL_does_88 : decode cL_does 88 = .ok (.invokevirtual 20, 3) := by decide +kernel
theorem dL_does_91 : decode cL_does 91 = .ok (.ireturn, 1) := by decide +kernel
theorem dL_does_92 : decode cL_does 92 = .ok (.aload_n 0, 1) := by decide +kernel
theorem dL_does_93 : decode cL_does 93 = .ok (.iload_n 2, 1) := by decide +kernel
theorem dL_does_94 : decode cL_does 94 = .ok (.iload_n 3, 1) := by decide +kernel
theorem dL_does_95 : decode cL_does 95 = .ok (.iload 4, 2) := by decide +kernel
theorem dL_does_97 : decode cL_does 97 = .ok (.iload 5, 2) := by decide +kernel
theorem dL_does_99 : decode cL_does 99 = .ok (.invokevirtual 26, 3) := by decide +kernel
theorem dL_does_102 : decode cL_does 102 = .ok (.ireturn, 1) := by decide +kernel
theorem dL_does_103 : decode cL_does 103 = .ok (.aload_n 0, 1) := by decide +kernel
theorem dL_does_104 : decode cL_does 104 = .ok (.iload_n 2, 1) := by decide +kernel
theorem dL_does_105 : decode cL_does 105 = .ok (.iload_n 3, 1) := by decide +kernel
theorem dL_does_106 : decode cL_does 106 = .ok (.iload 4, 2) := by decide +kernel
theorem dL_does_108 : decode cL_does 108 = .ok (.iload 5, 2) := by decide +kernel
theorem dL_does_110 : decode cL_does 110 = .ok (.invokevirtual 30, 3) := by decide +kernel
theorem dL_does_113 : decode cL_does 113 = .ok (.ireturn, 1) := by decide +kernel
theorem dL_does_114 : decode cL_does 114 = .ok (.aload_n 0, 1) := by decide +kernel
theorem dL_does_115 : decode cL_does 115 = .ok (.iload_n 2, 1) := by decide +kernel
theorem dL_does_116 : decode cL_does 116 = .ok (.iload_n 3, 1) := by decide +kernel
theorem dL_does_117 : decode cL_does 117 = .ok (.invokevirtual 33, 3) := by decide +kernel
theorem dL_does_120 : decode cL_does 120 = .ok (.ireturn, 1) := by decide +kernel
theorem dL_does_121 : decode cL_does 121 = .ok (.aload_n 0, 1) := by decide +kernel
theorem dL_does_122 : decode cL_does 122 = .ok (.iload_n 2, 1) := by decide +kernel
theorem dL_does_123 : decode cL_does 123 = .ok (.invokevirtual 37, 3) := by decide +kernel
theorem dL_does_126 : decode cL_does 126 = .ok (.ireturn, 1) := by decide +kernel
theorem dL_does_127 : decode cL_does 127 = .ok (.aload_n 0, 1) := by decide +kernel
theorem dL_does_128 : decode cL_does 128 = .ok (.iload_n 2, 1) := by decide +kernel
theorem dL_does_129 : decode cL_does 129 = .ok (.iload_n 3, 1) := by decide +kernel
theorem dL_does_130 : decode cL_does 130 = .ok (.invokevirtual 41, 3) := by decide +kernel
theorem dL_does_133 : decode cL_does 133 = .ok (.ireturn, 1) := by decide +kernel
theorem dL_does_134 : decode cL_does 134 = .ok (.aload_n 0, 1) := by decide +kernel
theorem dL_does_135 : decode cL_does 135 = .ok (.iload_n 2, 1) := by decide +kernel
theorem dL_does_136 : decode cL_does 136 = .ok (.iload_n 3, 1) := by decide +kernel
theorem dL_does_137 : decode cL_does 137 = .ok (.invokevirtual 44, 3) := by decide +kernel
theorem dL_does_140 : decode cL_does 140 = .ok (.ifCond .eq 7, 3) := by decide +kernel
theorem dL_does_143 : decode cL_does 143 = .ok (.iconst 1, 1) := by decide +kernel
theorem dL_does_144 : decode cL_does 144 = .ok (.goto 4, 3) := by decide +kernel
theorem dL_does_147 : decode cL_does 147 = .ok (.iconst 0, 1) := by decide +kernel
theorem dL_does_148 : decode cL_does 148 = .ok (.ireturn, 1) := by decide +kernel
theorem dL_does_149 : decode cL_does 149 = .ok (.aload_n 0, 1) := by decide +kernel
theorem dL_does_150 : decode cL_does 150 = .ok (.iload_n 2, 1) := by decide +kernel
theorem dL_does_151 : decode cL_does 151 = .ok (.invokevirtual 48, 3) := by decide +kernel
theorem dL_does_154 : decode cL_does 154 = .ok (.ireturn, 1) := by decide +kernel
theorem dL_does_155 : decode cL_does 155 = .ok (.aload_n 0, 1) := by decide +kernel
theorem dL_does_156 : decode cL_does 156 = .ok (.iload_n 2, 1) := by decide +kernel
theorem dL_does_157 : decode cL_does 157 = .ok (.iload_n 3, 1) := by decide +kernel
theorem dL_does_158 : decode cL_does 158 = .ok (.invokevirtual 51, 3) := by decide +kernel
theorem dL_does_161 : decode cL_does 161 = .ok (.ireturn, 1) := by decide +kernel
theorem dL_does_162 : decode cL_does 162 = .ok (.aload_n 0, 1) := by decide +kernel
theorem dL_does_163 : decode cL_does 163 = .ok (.iload_n 2, 1) := by decide +kernel
theorem dL_does_164 : decode cL_does 164 = .ok (.iload_n 3, 1) := by decide +kernel
theorem dL_does_165 : decode cL_does 165 = .ok (.invokevirtual 54, 3) := by decide +kernel
theorem dL_does_168 : decode cL_does 168 = .ok (.ireturn, 1) := by decide +kernel
theorem dL_does_169 : decode cL_does 169 = .ok (.aload_n 0, 1) := by decide +kernel
theorem dL_does_170 : decode cL_does 170 = .ok (.iload_n 2, 1) := by decide +kernel
theorem dL_does_171 : decode cL_does 171 = .ok (.invokevirtual 57, 3) := by decide +kernel
theorem dL_does_174 : decode cL_does 174 = .ok (.ireturn, 1) := by decide +kernel
theorem dL_does_175 : decode cL_does 175 = .ok (.aload_n 0, 1) := by decide +kernel
theorem dL_does_176 : decode cL_does 176 = .ok (.iload_n 2, 1) := by decide +kernel
theorem dL_does_177 : decode cL_does 177 = .ok (.iload_n 3, 1) := by decide +kernel
theorem dL_does_178 : decode cL_does 178 = .ok (.iload 4, 2) := by decide +kernel
theorem dL_does_180 : decode cL_does 180 = .ok (.invokevirtual 60, 3) := by decide +kernel
theorem dL_does_183 : decode cL_does 183 = .ok (.iconst 0, 1) := by decide +kernel
theorem dL_does_184 : decode cL_does 184 = .ok (.ireturn, 1) := by decide +kernel
theorem dL_does_185 : decode cL_does 185 = .ok (.aload_n 0, 1) := by decide +kernel
theorem dL_does_186 : decode cL_does 186 = .ok (.iload_n 2, 1) := by decide +kernel
theorem dL_does_187 : decode cL_does 187 = .ok (.iload_n 3, 1) := by decide +kernel
theorem dL_does_188 : decode cL_does 188 = .ok (.invokevirtual 64, 3) := by decide +kernel
theorem dL_does_191 : decode cL_does 191 = .ok (.iconst 0, 1) := by decide +kernel
theorem dL_does_192 : decode cL_does 192 = .ok (.ireturn, 1) := by decide +kernel
theorem dL_does_193 : decode cL_does 193 = .ok (.aload_n 0, 1) := by decide +kernel
theorem dL_does_194 : decode cL_does 194 = .ok (.iload_n 2, 1) := by decide +kernel
theorem dL_does_195 : decode cL_does 195 = .ok (.invokevirtual 68, 3) := by decide +kernel
theorem dL_does_198 : decode cL_does 198 = .ok (.ireturn, 1) := by decide +kernel
theorem dL_does_199 : decode cL_does 199 = .ok (.aload_n 0, 1) := by decide +kernel
theorem dL_does_200 : decode cL_does 200 = .ok (.iload_n 2, 1) := by decide +kernel
theorem dL_does_201 : decode cL_does 201 = .ok (.invokevirtual 71, 3) := by decide +kernel
theorem dL_does_204 : decode cL_does 204 = .ok (.ireturn, 1) := by decide +kernel
theorem dL_does_205 : decode cL_does 205 = .ok (.aload_n 0, 1) := by decide +kernel
theorem dL_does_206 : decode cL_does 206 = .ok (.iload_n 2, 1) := by decide +kernel
theorem dL_does_207 : decode cL_does 207 = .ok (.invokevirtual 74, 3) := by decide +kernel
theorem dL_does_210 : decode cL_does 210 = .ok (.ireturn, 1) := by decide +kernel
theorem dL_all_0 : decode cL_all 0 = .ok (.aload_n 0, 1) := by decide +kernel
theorem dL_all_1 : decode cL_all 1 = .ok (.invokevirtual 77, 3) := by decide +kernel
theorem dL_all_4 : decode cL_all 4 = .ok (.i2l, 1) := by decide +kernel
theorem dL_all_5 : decode cL_all 5 = .ok (.ldc2_w 81, 3) := by decide +kernel
theorem dL_all_8 : decode cL_all 8 = .ok (.lmul, 1) := by decide +kernel
theorem dL_all_9 : decode cL_all 9 = .ok (.aload_n 0, 1) := by decide +kernel
theorem dL_all_10 : decode cL_all 10 = .ok (.invokevirtual 83, 3) := by decide +kernel
theorem dL_all_13 : decode cL_all 13 = .ok (.i2l, 1) := by decide +kernel
theorem dL_all_14 : decode cL_all 14 = .ok (.ladd, 1) := by decide +kernel
theorem dL_all_15 : decode cL_all 15 = .ok (.ldc2_w 86, 3) := by decide +kernel
theorem dL_all_18 : decode cL_all 18 = .ok (.lmul, 1) := by decide +kernel
theorem dL_all_19 : decode cL_all 19 = .ok (.aload_n 0, 1) := by decide +kernel
theorem dL_all_20 : decode cL_all 20 = .ok (.invokevirtual 88, 3) := by decide +kernel
theorem dL_all_23 : decode cL_all 23 = .ok (.i2l, 1) := by decide +kernel
theorem dL_all_24 : decode cL_all 24 = .ok (.ladd, 1) := by decide +kernel
theorem dL_all_25 : decode cL_all 25 = .ok (.lstore_n 1, 1) := by decide +kernel
theorem dL_all_26 : decode cL_all 26 = .ok (.iconst 0, 1) := by decide +kernel
theorem dL_all_27 : decode cL_all 27 = .ok (.istore_n 3, 1) := by decide +kernel
theorem dL_all_28 : decode cL_all 28 = .ok (.iload_n 3, 1) := by decide +kernel
theorem dL_all_29 : decode cL_all 29 = .ok (.aload_n 0, 1) := by decide +kernel
theorem dL_all_30 : decode cL_all 30 = .ok (.invokevirtual 77, 3) := by decide +kernel
theorem dL_all_33 : decode cL_all 33 = .ok (.if_icmp .ge 96, 3) := by decide +kernel
theorem dL_all_36 : decode cL_all 36 = .ok (.lload_n 1, 1) := by decide +kernel
theorem dL_all_37 : decode cL_all 37 = .ok (.ldc2_w 91, 3) := by decide +kernel
theorem dL_all_40 : decode cL_all 40 = .ok (.lmul, 1) := by decide +kernel
theorem dL_all_41 : decode cL_all 41 = .ok (.aload_n 0, 1) := by decide +kernel
theorem dL_all_42 : decode cL_all 42 = .ok (.iload_n 3, 1) := by decide +kernel
theorem dL_all_43 : decode cL_all 43 = .ok (.invokevirtual 57, 3) := by decide +kernel
theorem dL_all_46 : decode cL_all 46 = .ok (.i2l, 1) := by decide +kernel
theorem dL_all_47 : decode cL_all 47 = .ok (.ladd, 1) := by decide +kernel
theorem dL_all_48 : decode cL_all 48 = .ok (.ldc2_w 86, 3) := by decide +kernel
theorem dL_all_51 : decode cL_all 51 = .ok (.lmul, 1) := by decide +kernel
theorem dL_all_52 : decode cL_all 52 = .ok (.aload_n 0, 1) := by decide +kernel
theorem dL_all_53 : decode cL_all 53 = .ok (.iload_n 3, 1) := by decide +kernel
theorem dL_all_54 : decode cL_all 54 = .ok (.invokevirtual 71, 3) := by decide +kernel
theorem dL_all_57 : decode cL_all 57 = .ok (.i2l, 1) := by decide +kernel
theorem dL_all_58 : decode cL_all 58 = .ok (.ladd, 1) := by decide +kernel
theorem dL_all_59 : decode cL_all 59 = .ok (.ldc2_w 86, 3) := by decide +kernel
theorem dL_all_62 : decode cL_all 62 = .ok (.lmul, 1) := by decide +kernel
theorem dL_all_63 : decode cL_all 63 = .ok (.aload_n 0, 1) := by decide +kernel
theorem dL_all_64 : decode cL_all 64 = .ok (.iload_n 3, 1) := by decide +kernel
theorem dL_all_65 : decode cL_all 65 = .ok (.invokevirtual 74, 3) := by decide +kernel
theorem dL_all_68 : decode cL_all 68 = .ok (.i2l, 1) := by decide +kernel
theorem dL_all_69 : decode cL_all 69 = .ok (.ladd, 1) := by decide +kernel
theorem dL_all_70 : decode cL_all 70 = .ok (.lstore_n 1, 1) := by decide +kernel
theorem dL_all_71 : decode cL_all 71 = .ok (.iconst 0, 1) := by decide +kernel
theorem dL_all_72 : decode cL_all 72 = .ok (.istore 4, 2) := by decide +kernel
theorem dL_all_74 : decode cL_all 74 = .ok (.iload 4, 2) := by decide +kernel
theorem dL_all_76 : decode cL_all 76 = .ok (.bipush 60, 2) := by decide +kernel
theorem dL_all_78 : decode cL_all 78 = .ok (.if_icmp .ge 45, 3) := by decide +kernel
theorem dL_all_81 : decode cL_all 81 = .ok (.lload_n 1, 1) := by decide +kernel
theorem dL_all_82 : decode cL_all 82 = .ok (.ldc2_w 93, 3) := by decide +kernel
theorem dL_all_85 : decode cL_all 85 = .ok (.lmul, 1) := by decide +kernel
theorem dL_all_86 : decode cL_all 86 = .ok (.aload_n 0, 1) := by decide +kernel
theorem dL_all_87 : decode cL_all 87 = .ok (.iload_n 3, 1) := by decide +kernel
theorem dL_all_88 : decode cL_all 88 = .ok (.iload 4, 2) := by decide +kernel
theorem dL_all_90 : decode cL_all 90 = .ok (.invokevirtual 41, 3) := by decide +kernel
theorem dL_all_93 : decode cL_all 93 = .ok (.i2l, 1) := by decide +kernel
theorem dL_all_94 : decode cL_all 94 = .ok (.ladd, 1) := by decide +kernel
theorem dL_all_95 : decode cL_all 95 = .ok (.ldc2_w 95, 3) := by decide +kernel
theorem dL_all_98 : decode cL_all 98 = .ok (.lmul, 1) := by decide +kernel
theorem dL_all_99 : decode cL_all 99 = .ok (.aload_n 0, 1) := by decide +kernel
theorem dL_all_100 : decode cL_all 100 = .ok (.iload_n 3, 1) := by decide +kernel
theorem dL_all_101 : decode cL_all 101 = .ok (.iload 4, 2) := by decide +kernel
theorem dL_all_103 : decode cL_all 103 = .ok (.invokevirtual 44, 3) := by decide +kernel
theorem dL_all_106 : decode cL_all 106 = .ok (.ifCond .eq 7, 3) := by decide +kernel
theorem dL_all_109 : decode cL_all 109 = .ok (.iconst 1, 1) := by decide +kernel
theorem dL_all_110 : decode cL_all 110 = .ok (.goto 4, 3) := by decide +kernel
theorem dL_all_113 : decode cL_all 113 = .ok (.iconst 0, 1) := by decide +kernel
theorem dL_all_114 : decode cL_all 114 = .ok (.i2l, 1) := by decide +kernel
theorem dL_all_115 : decode cL_all 115 = .ok (.ladd, 1) := by decide +kernel
theorem dL_all_116 : decode cL_all 116 = .ok (.lstore_n 1, 1) := by decide +kernel
theorem dL_all_117 : decode cL_all 117 = .ok (.iinc 4 4, 3) := by decide +kernel
theorem dL_all_120 : decode cL_all 120 = .ok (.goto (-46), 3) := by decide +kernel
theorem dL_all_123 : decode cL_all 123 = .ok (.iinc 3 1, 3) := by decide +kernel
theorem dL_all_126 : decode cL_all 126 = .ok (.goto (-98), 3) := by decide +kernel
theorem dL_all_129 : decode cL_all 129 = .ok (.lload_n 1, 1) := by decide +kernel
theorem dL_all_130 : decode cL_all 130 = .ok (.lreturn, 1) := by decide +kernel
theorem dL_kept_0 : decode cL_kept 0 = .ok (.aload_n 0, 1) := by decide +kernel
theorem dL_kept_1 : decode cL_kept 1 = .ok (.invokevirtual 77, 3) := by decide +kernel
theorem dL_kept_4 : decode cL_kept 4 = .ok (.istore_n 1, 1) := by decide +kernel
theorem dL_kept_5 : decode cL_kept 5 = .ok (.aload_n 0, 1) := by decide +kernel
theorem dL_kept_6 : decode cL_kept 6 = .ok (.invokevirtual 83, 3) := by decide +kernel
theorem dL_kept_9 : decode cL_kept 9 = .ok (.istore_n 2, 1) := by decide +kernel
theorem dL_kept_10 : decode cL_kept 10 = .ok (.iload_n 1, 1) := by decide +kernel
theorem dL_kept_11 : decode cL_kept 11 = .ok (.bipush 9, 2) := by decide +kernel
theorem dL_kept_13 : decode cL_kept 13 = .ok (.if_icmp .ge 126, 3) := by decide +kernel
theorem dL_kept_16 : decode cL_kept 16 = .ok (.aload_n 0, 1) := by decide +kernel
theorem dL_kept_17 : decode cL_kept 17 = .ok (.iconst 5, 1) := by decide +kernel
theorem dL_kept_18 : decode cL_kept 18 = .ok (.iload_n 1, 1) := by decide +kernel
theorem dL_kept_19 : decode cL_kept 19 = .ok (.iconst 0, 1) := by decide +kernel
theorem dL_kept_20 : decode cL_kept 20 = .ok (.iconst 0, 1) := by decide +kernel
theorem dL_kept_21 : decode cL_kept 21 = .ok (.iconst 0, 1) := by decide +kernel
theorem dL_kept_22 : decode cL_kept 22 = .ok (.invokestatic 97, 3) := by decide +kernel
theorem dL_kept_25 : decode cL_kept 25 = .ok (.bipush (-61), 2) := by decide +kernel
theorem dL_kept_27 : decode cL_kept 27 = .ok (.if_icmp .ne 112, 3) := by decide +kernel
theorem dL_kept_30 : decode cL_kept 30 = .ok (.aload_n 0, 1) := by decide +kernel
theorem dL_kept_31 : decode cL_kept 31 = .ok (.bipush 6, 2) := by decide +kernel
theorem dL_kept_33 : decode cL_kept 33 = .ok (.iconst (-1), 1) := by decide +kernel
theorem dL_kept_34 : decode cL_kept 34 = .ok (.iconst 0, 1) := by decide +kernel
theorem dL_kept_35 : decode cL_kept 35 = .ok (.iconst 0, 1) := by decide +kernel
theorem dL_kept_36 : decode cL_kept 36 = .ok (.iconst 0, 1) := by decide +kernel
theorem dL_kept_37 : decode cL_kept 37 = .ok (.invokestatic 97, 3) := by decide +kernel
theorem dL_kept_40 : decode cL_kept 40 = .ok (.bipush (-61), 2) := by decide +kernel
theorem dL_kept_42 : decode cL_kept 42 = .ok (.if_icmp .ne 97, 3) := by decide +kernel
theorem dL_kept_45 : decode cL_kept 45 = .ok (.aload_n 0, 1) := by decide +kernel
theorem dL_kept_46 : decode cL_kept 46 = .ok (.bipush 10, 2) := by decide +kernel
theorem dL_kept_48 : decode cL_kept 48 = .ok (.iload_n 1, 1) := by decide +kernel
theorem dL_kept_49 : decode cL_kept 49 = .ok (.iconst 0, 1) := by decide +kernel
theorem dL_kept_50 : decode cL_kept 50 = .ok (.iconst 0, 1) := by decide +kernel
theorem dL_kept_51 : decode cL_kept 51 = .ok (.iconst 0, 1) := by decide +kernel
theorem dL_kept_52 : decode cL_kept 52 = .ok (.invokestatic 97, 3) := by decide +kernel
theorem dL_kept_55 : decode cL_kept 55 = .ok (.bipush (-61), 2) := by decide +kernel
theorem dL_kept_57 : decode cL_kept 57 = .ok (.if_icmp .ne 82, 3) := by decide +kernel
theorem dL_kept_60 : decode cL_kept 60 = .ok (.aload_n 0, 1) := by decide +kernel
theorem dL_kept_61 : decode cL_kept 61 = .ok (.bipush 14, 2) := by decide +kernel
theorem dL_kept_63 : decode cL_kept 63 = .ok (.iconst (-1), 1) := by decide +kernel
theorem dL_kept_64 : decode cL_kept 64 = .ok (.iconst 0, 1) := by decide +kernel
theorem dL_kept_65 : decode cL_kept 65 = .ok (.iconst 0, 1) := by decide +kernel
theorem dL_kept_66 : decode cL_kept 66 = .ok (.iconst 0, 1) := by decide +kernel
theorem dL_kept_67 : decode cL_kept 67 = .ok (.invokestatic 97, 3) := by decide +kernel
theorem dL_kept_70 : decode cL_kept 70 = .ok (.bipush (-61), 2) := by decide +kernel
theorem dL_kept_72 : decode cL_kept 72 = .ok (.if_icmp .ne 67, 3) := by decide +kernel
theorem dL_kept_75 : decode cL_kept 75 = .ok (.aload_n 0, 1) := by decide +kernel
theorem dL_kept_76 : decode cL_kept 76 = .ok (.bipush 15, 2) := by decide +kernel
theorem dL_kept_78 : decode cL_kept 78 = .ok (.iload_n 1, 1) := by decide +kernel
theorem dL_kept_79 : decode cL_kept 79 = .ok (.iconst 0, 1) := by decide +kernel
theorem dL_kept_80 : decode cL_kept 80 = .ok (.iconst 0, 1) := by decide +kernel
theorem dL_kept_81 : decode cL_kept 81 = .ok (.iconst 0, 1) := by decide +kernel
theorem dL_kept_82 : decode cL_kept 82 = .ok (.invokestatic 97, 3) := by decide +kernel
theorem dL_kept_85 : decode cL_kept 85 = .ok (.bipush (-61), 2) := by decide +kernel
theorem dL_kept_87 : decode cL_kept 87 = .ok (.if_icmp .ne 52, 3) := by decide +kernel
theorem dL_kept_90 : decode cL_kept 90 = .ok (.aload_n 0, 1) := by decide +kernel
theorem dL_kept_91 : decode cL_kept 91 = .ok (.bipush 13, 2) := by decide +kernel
theorem dL_kept_93 : decode cL_kept 93 = .ok (.iload_n 2, 1) := by decide +kernel
theorem dL_kept_94 : decode cL_kept 94 = .ok (.iconst 0, 1) := by decide +kernel
theorem dL_kept_95 : decode cL_kept 95 = .ok (.iconst 0, 1) := by decide +kernel
theorem dL_kept_96 : decode cL_kept 96 = .ok (.iconst 0, 1) := by decide +kernel
theorem dL_kept_97 : decode cL_kept 97 = .ok (.invokestatic 97, 3) := by decide +kernel
theorem dL_kept_100 : decode cL_kept 100 = .ok (.bipush (-62), 2) := by decide +kernel
theorem dL_kept_102 : decode cL_kept 102 = .ok (.if_icmp .ne 37, 3) := by decide +kernel
theorem dL_kept_105 : decode cL_kept 105 = .ok (.aload_n 0, 1) := by decide +kernel
theorem dL_kept_106 : decode cL_kept 106 = .ok (.bipush 7, 2) := by decide +kernel
theorem dL_kept_108 : decode cL_kept 108 = .ok (.iconst 0, 1) := by decide +kernel
theorem dL_kept_109 : decode cL_kept 109 = .ok (.iconst 0, 1) := by decide +kernel
theorem dL_kept_110 : decode cL_kept 110 = .ok (.iconst 0, 1) := by decide +kernel
theorem dL_kept_111 : decode cL_kept 111 = .ok (.iconst 0, 1) := by decide +kernel
theorem dL_kept_112 : decode cL_kept 112 = .ok (.invokestatic 97, 3) := by decide +kernel
theorem dL_kept_115 : decode cL_kept 115 = .ok (.bipush (-62), 2) := by decide +kernel
theorem dL_kept_117 : decode cL_kept 117 = .ok (.if_icmp .ne 22, 3) := by decide +kernel
theorem dL_kept_120 : decode cL_kept 120 = .ok (.aload_n 0, 1) := by decide +kernel
theorem dL_kept_121 : decode cL_kept 121 = .ok (.iconst 4, 1) := by decide +kernel
theorem dL_kept_122 : decode cL_kept 122 = .ok (.bipush 101, 2) := by decide +kernel
theorem dL_kept_124 : decode cL_kept 124 = .ok (.iconst 0, 1) := by decide +kernel
theorem dL_kept_125 : decode cL_kept 125 = .ok (.iconst 0, 1) := by decide +kernel
theorem dL_kept_126 : decode cL_kept 126 = .ok (.iconst 0, 1) := by decide +kernel
theorem dL_kept_127 : decode cL_kept 127 = .ok (.invokestatic 97, 3) := by decide +kernel
theorem dL_kept_130 : decode cL_kept 130 = .ok (.bipush (-62), 2) := by decide +kernel
theorem dL_kept_132 : decode cL_kept 132 = .ok (.if_icmp .ne 7, 3) := by decide +kernel
theorem dL_kept_135 : decode cL_kept 135 = .ok (.iconst 1, 1) := by decide +kernel
theorem dL_kept_136 : decode cL_kept 136 = .ok (.goto 4, 3) := by decide +kernel
theorem dL_kept_139 : decode cL_kept 139 = .ok (.iconst 0, 1) := by decide +kernel
theorem dL_kept_140 : decode cL_kept 140 = .ok (.istore_n 3, 1) := by decide +kernel
theorem dL_kept_141 : decode cL_kept 141 = .ok (.iconst 0, 1) := by decide +kernel
theorem dL_kept_142 : decode cL_kept 142 = .ok (.istore 4, 2) := by decide +kernel
theorem dL_kept_144 : decode cL_kept 144 = .ok (.iconst 0, 1) := by decide +kernel
theorem dL_kept_145 : decode cL_kept 145 = .ok (.istore 5, 2) := by decide +kernel
theorem dL_kept_147 : decode cL_kept 147 = .ok (.iload 5, 2) := by decide +kernel
theorem dL_kept_149 : decode cL_kept 149 = .ok (.iload_n 1, 1) := by decide +kernel
theorem dL_kept_150 : decode cL_kept 150 = .ok (.if_icmp .ge 220, 3) := by decide +kernel
theorem dL_kept_153 : decode cL_kept 153 = .ok (.iload_n 3, 1) := by decide +kernel
theorem dL_kept_154 : decode cL_kept 154 = .ok (.ifCond .eq 216, 3) := by decide +kernel
theorem dL_kept_157 : decode cL_kept 157 = .ok (.aload_n 0, 1) := by decide +kernel
theorem dL_kept_158 : decode cL_kept 158 = .ok (.iload 5, 2) := by decide +kernel
theorem dL_kept_160 : decode cL_kept 160 = .ok (.invokevirtual 71, 3) := by decide +kernel
theorem dL_kept_163 : decode cL_kept 163 = .ok (.ineg, 1) := by decide +kernel
theorem dL_kept_164 : decode cL_kept 164 = .ok (.istore 6, 2) := by decide +kernel
theorem dL_kept_166 : decode cL_kept 166 = .ok (.iconst 0, 1) := by decide +kernel
theorem dL_kept_167 : decode cL_kept 167 = .ok (.istore 7, 2) := by decide +kernel
theorem dL_kept_169 : decode cL_kept 169 = .ok (.iconst 0, 1) := by decide +kernel
theorem dL_kept_170 : decode cL_kept 170 = .ok (.istore 8, 2) := by decide +kernel
theorem dL_kept_172 : decode cL_kept 172 = .ok (.iload 8, 2) := by decide +kernel
theorem dL_kept_174 : decode cL_kept 174 = .ok (.iload_n 2, 1) := by decide +kernel
theorem dL_kept_175 : decode cL_kept 175 = .ok (.if_icmp .ge 104, 3) := by decide +kernel
theorem dL_kept_178 : decode cL_kept 178 = .ok (.iload_n 3, 1) := by decide +kernel
theorem dL_kept_179 : decode cL_kept 179 = .ok (.ifCond .eq 100, 3) := by decide +kernel
theorem dL_kept_182 : decode cL_kept 182 = .ok (.aload_n 0, 1) := by decide +kernel
theorem dL_kept_183 : decode cL_kept 183 = .ok (.iload 5, 2) := by decide +kernel
theorem dL_kept_185 : decode cL_kept 185 = .ok (.iload 8, 2) := by decide +kernel
theorem dL_kept_187 : decode cL_kept 187 = .ok (.invokevirtual 51, 3) := by decide +kernel
theorem dL_kept_190 : decode cL_kept 190 = .ok (.istore 9, 2) := by decide +kernel
theorem dL_kept_192 : decode cL_kept 192 = .ok (.aload_n 0, 1) := by decide +kernel
theorem dL_kept_193 : decode cL_kept 193 = .ok (.iload 5, 2) := by decide +kernel
theorem dL_kept_195 : decode cL_kept 195 = .ok (.iload 8, 2) := by decide +kernel
theorem dL_kept_197 : decode cL_kept 197 = .ok (.invokevirtual 54, 3) := by decide +kernel
theorem dL_kept_200 : decode cL_kept 200 = .ok (.istore 10, 2) := by decide +kernel
theorem dL_kept_202 : decode cL_kept 202 = .ok (.iload 6, 2) := by decide +kernel
theorem dL_kept_204 : decode cL_kept 204 = .ok (.iload 9, 2) := by decide +kernel
theorem dL_kept_206 : decode cL_kept 206 = .ok (.iload 10, 2) := by decide +kernel
theorem dL_kept_208 : decode cL_kept 208 = .ok (.iadd, 1) := by decide +kernel
theorem dL_kept_209 : decode cL_kept 209 = .ok (.iadd, 1) := by decide +kernel
theorem dL_kept_210 : decode cL_kept 210 = .ok (.istore 6, 2) := by decide +kernel
theorem dL_kept_212 : decode cL_kept 212 = .ok (.iload 7, 2) := by decide +kernel
theorem dL_kept_214 : decode cL_kept 214 = .ok (.aload_n 0, 1) := by decide +kernel
theorem dL_kept_215 : decode cL_kept 215 = .ok (.iload 5, 2) := by decide +kernel
theorem dL_kept_217 : decode cL_kept 217 = .ok (.iload 8, 2) := by decide +kernel
theorem dL_kept_219 : decode cL_kept 219 = .ok (.invokevirtual 41, 3) := by decide +kernel
theorem dL_kept_222 : decode cL_kept 222 = .ok (.ifCond .le 15, 3) := by decide +kernel
theorem dL_kept_225 : decode cL_kept 225 = .ok (.iload 9, 2) := by decide +kernel
theorem dL_kept_227 : decode cL_kept 227 = .ok (.iload 10, 2) := by decide +kernel
theorem dL_kept_229 : decode cL_kept 229 = .ok (.iadd, 1) := by decide +kernel
theorem dL_kept_230 : decode cL_kept 230 = .ok (.ifCond .le 7, 3) := by decide +kernel
theorem dL_kept_233 : decode cL_kept 233 = .ok (.iconst 1, 1) := by decide +kernel
theorem dL_kept_234 : decode cL_kept 234 = .ok (.goto 4, 3) := by decide +kernel
theorem dL_kept_237 : decode cL_kept 237 = .ok (.iconst 0, 1) := by decide +kernel
theorem dL_kept_238 : decode cL_kept 238 = .ok (.iadd, 1) := by decide +kernel
theorem dL_kept_239 : decode cL_kept 239 = .ok (.istore 7, 2) := by decide +kernel
theorem dL_kept_241 : decode cL_kept 241 = .ok (.iload 9, 2) := by decide +kernel
theorem dL_kept_243 : decode cL_kept 243 = .ok (.ifCond .lt 28, 3) := by decide +kernel
theorem dL_kept_246 : decode cL_kept 246 = .ok (.iload 10, 2) := by decide +kernel
theorem dL_kept_248 : decode cL_kept 248 = .ok (.ifCond .lt 23, 3) := by decide +kernel
theorem dL_kept_251 : decode cL_kept 251 = .ok (.aload_n 0, 1) := by decide +kernel
theorem dL_kept_252 : decode cL_kept 252 = .ok (.iload 5, 2) := by decide +kernel
theorem dL_kept_254 : decode cL_kept 254 = .ok (.iload 8, 2) := by decide +kernel
theorem dL_kept_256 : decode cL_kept 256 = .ok (.invokevirtual 41, 3) := by decide +kernel
theorem dL_kept_259 : decode cL_kept 259 = .ok (.ifCond .gt 8, 3) := by decide +kernel
theorem dL_kept_262 : decode cL_kept 262 = .ok (.iload 10, 2) := by decide +kernel
theorem dL_kept_264 : decode cL_kept 264 = .ok (.ifCond .ne 7, 3) := by decide +kernel
theorem dL_kept_267 : decode cL_kept 267 = .ok (.iconst 1, 1) := by decide +kernel
theorem dL_kept_268 : decode cL_kept 268 = .ok (.goto 4, 3) := by decide +kernel
theorem dL_kept_271 : decode cL_kept 271 = .ok (.iconst 0, 1) := by decide +kernel
theorem dL_kept_272 : decode cL_kept 272 = .ok (.istore_n 3, 1) := by decide +kernel
theorem dL_kept_273 : decode cL_kept 273 = .ok (.iinc 8 1, 3) := by decide +kernel
theorem dL_kept_276 : decode cL_kept 276 = .ok (.goto (-104), 3) := by decide +kernel
theorem dL_kept_279 : decode cL_kept 279 = .ok (.iload 4, 2) := by decide +kernel
theorem dL_kept_281 : decode cL_kept 281 = .ok (.aload_n 0, 1) := by decide +kernel
theorem dL_kept_282 : decode cL_kept 282 = .ok (.iload 5, 2) := by decide +kernel
theorem dL_kept_284 : decode cL_kept 284 = .ok (.invokevirtual 71, 3) := by decide +kernel
theorem dL_kept_287 : decode cL_kept 287 = .ok (.iadd, 1) := by decide +kernel
theorem dL_kept_288 : decode cL_kept 288 = .ok (.istore 4, 2) := by decide +kernel
theorem dL_kept_290 : decode cL_kept 290 = .ok (.iload_n 3, 1) := by decide +kernel
theorem dL_kept_291 : decode cL_kept 291 = .ok (.ifCond .eq 71, 3) := by decide +kernel
theorem dL_kept_294 : decode cL_kept 294 = .ok (.iload 6, 2) := by decide +kernel
theorem dL_kept_296 : decode cL_kept 296 = .ok (.aload_n 0, 1) := by decide +kernel
theorem dL_kept_297 : decode cL_kept 297 = .ok (.iload 5, 2) := by decide +kernel
theorem dL_kept_299 : decode cL_kept 299 = .ok (.invokevirtual 74, 3) := by decide +kernel
theorem dL_kept_302 : decode cL_kept 302 = .ok (.if_icmp .ne 60, 3) := by decide +kernel
theorem dL_kept_305 : decode cL_kept 305 = .ok (.aload_n 0, 1) := by decide +kernel
theorem dL_kept_306 : decode cL_kept 306 = .ok (.iload 5, 2) := by decide +kernel
theorem dL_kept_308 : decode cL_kept 308 = .ok (.invokevirtual 57, 3) := by decide +kernel
theorem dL_kept_311 : decode cL_kept 311 = .ok (.iload 7, 2) := by decide +kernel
theorem dL_kept_313 : decode cL_kept 313 = .ok (.if_icmp .lt 49, 3) := by decide +kernel
theorem dL_kept_316 : decode cL_kept 316 = .ok (.aload_n 0, 1) := by decide +kernel
theorem dL_kept_317 : decode cL_kept 317 = .ok (.iload 5, 2) := by decide +kernel
theorem dL_kept_319 : decode cL_kept 319 = .ok (.invokevirtual 57, 3) := by decide +kernel
theorem dL_kept_322 : decode cL_kept 322 = .ok (.iload_n 2, 1) := by decide +kernel
theorem dL_kept_323 : decode cL_kept 323 = .ok (.if_icmp .gt 39, 3) := by decide +kernel
theorem dL_kept_326 : decode cL_kept 326 = .ok (.aload_n 0, 1) := by decide +kernel
theorem dL_kept_327 : decode cL_kept 327 = .ok (.bipush 8, 2) := by decide +kernel
theorem dL_kept_329 : decode cL_kept 329 = .ok (.iload 5, 2) := by decide +kernel
theorem dL_kept_331 : decode cL_kept 331 = .ok (.iload_n 2, 1) := by decide +kernel
theorem dL_kept_332 : decode cL_kept 332 = .ok (.iconst 0, 1) := by decide +kernel
theorem dL_kept_333 : decode cL_kept 333 = .ok (.iconst 0, 1) := by decide +kernel
theorem dL_kept_334 : decode cL_kept 334 = .ok (.invokestatic 97, 3) := by decide +kernel
theorem dL_kept_337 : decode cL_kept 337 = .ok (.bipush (-62), 2) := by decide +kernel
theorem dL_kept_339 : decode cL_kept 339 = .ok (.if_icmp .ne 23, 3) := by decide +kernel
theorem dL_kept_342 : decode cL_kept 342 = .ok (.aload_n 0, 1) := by decide +kernel
theorem dL_kept_343 : decode cL_kept 343 = .ok (.bipush 9, 2) := by decide +kernel
theorem dL_kept_345 : decode cL_kept 345 = .ok (.iload 5, 2) := by decide +kernel
theorem dL_kept_347 : decode cL_kept 347 = .ok (.iconst (-1), 1) := by decide +kernel
theorem dL_kept_348 : decode cL_kept 348 = .ok (.iconst 0, 1) := by decide +kernel
theorem dL_kept_349 : decode cL_kept 349 = .ok (.iconst 0, 1) := by decide +kernel
theorem dL_kept_350 : decode cL_kept 350 = .ok (.invokestatic 97, 3) := by decide +kernel
theorem dL_kept_353 : decode cL_kept 353 = .ok (.bipush (-62), 2) := by decide +kernel
theorem dL_kept_355 : decode cL_kept 355 = .ok (.if_icmp .ne 7, 3) := by decide +kernel
theorem dL_kept_358 : decode cL_kept 358 = .ok (.iconst 1, 1) := by decide +kernel
theorem dL_kept_359 : decode cL_kept 359 = .ok (.goto 4, 3) := by decide +kernel
theorem dL_kept_362 : decode cL_kept 362 = .ok (.iconst 0, 1) := by decide +kernel
theorem dL_kept_363 : decode cL_kept 363 = .ok (.istore_n 3, 1) := by decide +kernel
theorem dL_kept_364 : decode cL_kept 364 = .ok (.iinc 5 1, 3) := by decide +kernel
theorem dL_kept_367 : decode cL_kept 367 = .ok (.goto (-220), 3) := by decide +kernel
theorem dL_kept_370 : decode cL_kept 370 = .ok (.iload_n 3, 1) := by decide +kernel
theorem dL_kept_371 : decode cL_kept 371 = .ok (.ifCond .eq 16, 3) := by decide +kernel
theorem dL_kept_374 : decode cL_kept 374 = .ok (.aload_n 0, 1) := by decide +kernel
theorem dL_kept_375 : decode cL_kept 375 = .ok (.invokevirtual 88, 3) := by decide +kernel
theorem dL_kept_378 : decode cL_kept 378 = .ok (.iload 4, 2) := by decide +kernel
theorem dL_kept_380 : decode cL_kept 380 = .ok (.if_icmp .lt 7, 3) := by decide +kernel
theorem dL_kept_383 : decode cL_kept 383 = .ok (.iconst 1, 1) := by decide +kernel
theorem dL_kept_384 : decode cL_kept 384 = .ok (.goto 4, 3) := by decide +kernel
theorem dL_kept_387 : decode cL_kept 387 = .ok (.iconst 0, 1) := by decide +kernel
theorem dL_kept_388 : decode cL_kept 388 = .ok (.ireturn, 1) := by decide +kernel
theorem dL_notices_0 : decode cL_notices 0 = .ok (.aload_n 0, 1) := by decide +kernel
theorem dL_notices_1 : decode cL_notices 1 = .ok (.invokevirtual 77, 3) := by decide +kernel
theorem dL_notices_4 : decode cL_notices 4 = .ok (.istore 4, 2) := by decide +kernel
theorem dL_notices_6 : decode cL_notices 6 = .ok (.aload_n 0, 1) := by decide +kernel
theorem dL_notices_7 : decode cL_notices 7 = .ok (.invokevirtual 83, 3) := by decide +kernel
theorem dL_notices_10 : decode cL_notices 10 = .ok (.istore 5, 2) := by decide +kernel
theorem dL_notices_12 : decode cL_notices 12 = .ok (.iload_n 3, 1) := by decide +kernel
theorem dL_notices_13 : decode cL_notices 13 = .ok (.ifCond .eq 16, 3) := by decide +kernel
theorem dL_notices_16 : decode cL_notices 16 = .ok (.iload_n 1, 1) := by decide +kernel
theorem dL_notices_17 : decode cL_notices 17 = .ok (.iload 4, 2) := by decide +kernel
theorem dL_notices_19 : decode cL_notices 19 = .ok (.iconst 2, 1) := by decide +kernel
theorem dL_notices_20 : decode cL_notices 20 = .ok (.iadd, 1) := by decide +kernel
theorem dL_notices_21 : decode cL_notices 21 = .ok (.invokestatic 100, 3) := by decide +kernel
theorem dL_notices_24 : decode cL_notices 24 = .ok (.iconst 1, 1) := by decide +kernel
theorem dL_notices_25 : decode cL_notices 25 = .ok (.isub, 1) := by decide +kernel
theorem dL_notices_26 : decode cL_notices 26 = .ok (.goto 18, 3) := by decide +kernel
theorem dL_notices_29 : decode cL_notices 29 = .ok (.iload_n 1, 1) := by decide +kernel
theorem dL_notices_30 : decode cL_notices 30 = .ok (.iload 4, 2) := by decide +kernel
theorem dL_notices_32 : decode cL_notices 32 = .ok (.ifCond .ne 7, 3) := by decide +kernel
theorem dL_notices_35 : decode cL_notices 35 = .ok (.iconst 1, 1) := by decide +kernel
theorem dL_notices_36 : decode cL_notices 36 = .ok (.goto 5, 3) := by decide +kernel
theorem dL_notices_39 : decode cL_notices 39 = .ok (.iload 4, 2) := by decide +kernel
theorem dL_notices_41 : decode cL_notices 41 = .ok (.invokestatic 100, 3) := by decide +kernel
theorem dL_notices_44 : decode cL_notices 44 = .ok (.istore 6, 2) := by decide +kernel
theorem dL_notices_46 : decode cL_notices 46 = .ok (.iload_n 3, 1) := by decide +kernel
theorem dL_notices_47 : decode cL_notices 47 = .ok (.ifCond .eq 15, 3) := by decide +kernel
theorem dL_notices_50 : decode cL_notices 50 = .ok (.iload_n 2, 1) := by decide +kernel
theorem dL_notices_51 : decode cL_notices 51 = .ok (.sipush 204, 3) := by decide +kernel
theorem dL_notices_54 : decode cL_notices 54 = .ok (.invokestatic 100, 3) := by decide +kernel
theorem dL_notices_57 : decode cL_notices 57 = .ok (.iconst 2, 1) := by decide +kernel
theorem dL_notices_58 : decode cL_notices 58 = .ok (.isub, 1) := by decide +kernel
theorem dL_notices_59 : decode cL_notices 59 = .ok (.goto 14, 3) := by decide +kernel
theorem dL_notices_62 : decode cL_notices 62 = .ok (.iload 5, 2) := by decide +kernel
theorem dL_notices_64 : decode cL_notices 64 = .ok (.iconst 1, 1) := by decide +kernel
theorem dL_notices_65 : decode cL_notices 65 = .ok (.iadd, 1) := by decide +kernel
theorem dL_notices_66 : decode cL_notices 66 = .ok (.iload_n 2, 1) := by decide +kernel
theorem dL_notices_67 : decode cL_notices 67 = .ok (.bipush 8, 2) := by decide +kernel
theorem dL_notices_69 : decode cL_notices 69 = .ok (.invokestatic 100, 3) := by decide +kernel
theorem dL_notices_72 : decode cL_notices 72 = .ok (.iadd, 1) := by decide +kernel
theorem dL_notices_73 : decode cL_notices 73 = .ok (.istore 7, 2) := by decide +kernel
theorem dL_notices_75 : decode cL_notices 75 = .ok (.iload 7, 2) := by decide +kernel
theorem dL_notices_77 : decode cL_notices 77 = .ok (.iload_n 3, 1) := by decide +kernel
theorem dL_notices_78 : decode cL_notices 78 = .ok (.ifCond .eq 16, 3) := by decide +kernel
theorem dL_notices_81 : decode cL_notices 81 = .ok (.iload_n 2, 1) := by decide +kernel
theorem dL_notices_82 : decode cL_notices 82 = .ok (.iconst 4, 1) := by decide +kernel
theorem dL_notices_83 : decode cL_notices 83 = .ok (.ishr, 1) := by decide +kernel
theorem dL_notices_84 : decode cL_notices 84 = .ok (.bipush 24, 2) := by decide +kernel
theorem dL_notices_86 : decode cL_notices 86 = .ok (.invokestatic 100, 3) := by decide +kernel
theorem dL_notices_89 : decode cL_notices 89 = .ok (.iconst 2, 1) := by decide +kernel
theorem dL_notices_90 : decode cL_notices 90 = .ok (.isub, 1) := by decide +kernel
theorem dL_notices_91 : decode cL_notices 91 = .ok (.goto 11, 3) := by decide +kernel
theorem dL_notices_94 : decode cL_notices 94 = .ok (.iload_n 2, 1) := by decide +kernel
theorem dL_notices_95 : decode cL_notices 95 = .ok (.iconst 4, 1) := by decide +kernel
theorem dL_notices_96 : decode cL_notices 96 = .ok (.ishr, 1) := by decide +kernel
theorem dL_notices_97 : decode cL_notices 97 = .ok (.bipush 12, 2) := by decide +kernel
theorem dL_notices_99 : decode cL_notices 99 = .ok (.invokestatic 100, 3) := by decide +kernel
theorem dL_notices_102 : decode cL_notices 102 = .ok (.iadd, 1) := by decide +kernel
theorem dL_notices_103 : decode cL_notices 103 = .ok (.istore 8, 2) := by decide +kernel
theorem dL_notices_105 : decode cL_notices 105 = .ok (.iload_n 3, 1) := by decide +kernel
theorem dL_notices_106 : decode cL_notices 106 = .ok (.ifCond .eq 17, 3) := by decide +kernel
theorem dL_notices_109 : decode cL_notices 109 = .ok (.iload_n 2, 1) := by decide +kernel
theorem dL_notices_110 : decode cL_notices 110 = .ok (.bipush 9, 2) := by decide +kernel
theorem dL_notices_112 : decode cL_notices 112 = .ok (.ishr, 1) := by decide +kernel
theorem dL_notices_113 : decode cL_notices 113 = .ok (.bipush 44, 2) := by decide +kernel
theorem dL_notices_115 : decode cL_notices 115 = .ok (.invokestatic 100, 3) := by decide +kernel
theorem dL_notices_118 : decode cL_notices 118 = .ok (.iconst 2, 1) := by decide +kernel
theorem dL_notices_119 : decode cL_notices 119 = .ok (.isub, 1) := by decide +kernel
theorem dL_notices_120 : decode cL_notices 120 = .ok (.goto 12, 3) := by decide +kernel
theorem dL_notices_123 : decode cL_notices 123 = .ok (.iload_n 2, 1) := by decide +kernel
theorem dL_notices_124 : decode cL_notices 124 = .ok (.bipush 9, 2) := by decide +kernel
theorem dL_notices_126 : decode cL_notices 126 = .ok (.ishr, 1) := by decide +kernel
theorem dL_notices_127 : decode cL_notices 127 = .ok (.bipush 41, 2) := by decide +kernel
theorem dL_notices_129 : decode cL_notices 129 = .ok (.invokestatic 100, 3) := by decide +kernel
theorem dL_notices_132 : decode cL_notices 132 = .ok (.istore 9, 2) := by decide +kernel
theorem dL_notices_134 : decode cL_notices 134 = .ok (.aload_n 0, 1) := by decide +kernel
theorem dL_notices_135 : decode cL_notices 135 = .ok (.invokestatic 103, 3) := by decide +kernel
theorem dL_notices_138 : decode cL_notices 138 = .ok (.lstore 10, 2) := by decide +kernel
theorem dL_notices_140 : decode cL_notices 140 = .ok (.iload 6, 2) := by decide +kernel
theorem dL_notices_142 : decode cL_notices 142 = .ok (.ifCond .lt 10, 3) := by decide +kernel
theorem dL_notices_145 : decode cL_notices 145 = .ok (.iload 6, 2) := by decide +kernel
theorem dL_notices_147 : decode cL_notices 147 = .ok (.iload 4, 2) := by decide +kernel
theorem dL_notices_149 : decode cL_notices 149 = .ok (.if_icmp .lt 7, 3) := by decide +kernel
theorem dL_notices_152 : decode cL_notices 152 = .ok (.iconst 1, 1) := by decide +kernel
theorem dL_notices_153 : decode cL_notices 153 = .ok (.goto 4, 3) := by decide +kernel
theorem dL_notices_156 : decode cL_notices 156 = .ok (.iconst 0, 1) := by decide +kernel
theorem dL_notices_157 : decode cL_notices 157 = .ok (.istore 12, 2) := by decide +kernel
theorem dL_notices_159 : decode cL_notices 159 = .ok (.iload 7, 2) := by decide +kernel
theorem dL_notices_161 : decode cL_notices 161 = .ok (.ifCond .lt 38, 3) := by decide +kernel
theorem dL_notices_164 : decode cL_notices 164 = .ok (.iload 7, 2) := by decide +kernel
theorem dL_notices_166 : decode cL_notices 166 = .ok (.sipush 200, 3) := by decide +kernel
theorem dL_notices_169 : decode cL_notices 169 = .ok (.if_icmp .gt 30, 3) := by decide +kernel
theorem dL_notices_172 : decode cL_notices 172 = .ok (.iload 8, 2) := by decide +kernel
theorem dL_notices_174 : decode cL_notices 174 = .ok (.iload 7, 2) := by decide +kernel
theorem dL_notices_176 : decode cL_notices 176 = .ok (.if_icmp .lt 23, 3) := by decide +kernel
theorem dL_notices_179 : decode cL_notices 179 = .ok (.iload 8, 2) := by decide +kernel
theorem dL_notices_181 : decode cL_notices 181 = .ok (.sipush 200, 3) := by decide +kernel
theorem dL_notices_184 : decode cL_notices 184 = .ok (.if_icmp .gt 15, 3) := by decide +kernel
theorem dL_notices_187 : decode cL_notices 187 = .ok (.iload 9, 2) := by decide +kernel
theorem dL_notices_189 : decode cL_notices 189 = .ok (.ifCond .lt 10, 3) := by decide +kernel
theorem dL_notices_192 : decode cL_notices 192 = .ok (.iload 9, 2) := by decide +kernel
theorem dL_notices_194 : decode cL_notices 194 = .ok (.bipush 40, 2) := by decide +kernel
theorem dL_notices_196 : decode cL_notices 196 = .ok (.if_icmp .le 7, 3) := by decide +kernel
theorem dL_notices_199 : decode cL_notices 199 = .ok (.iconst 1, 1) := by decide +kernel
theorem dL_notices_200 : decode cL_notices 200 = .ok (.goto 4, 3) := by decide +kernel
theorem dL_notices_203 : decode cL_notices 203 = .ok (.iconst 0, 1) := by decide +kernel
theorem dL_notices_204 : decode cL_notices 204 = .ok (.istore 13, 2) := by decide +kernel
theorem dL_notices_206 : decode cL_notices 206 = .ok (.iload 12, 2) := by decide +kernel
theorem dL_notices_208 : decode cL_notices 208 = .ok (.ifCond .ne 13, 3) := by decide +kernel
theorem dL_notices_211 : decode cL_notices 211 = .ok (.iload 13, 2) := by decide +kernel
theorem dL_notices_213 : decode cL_notices 213 = .ok (.ifCond .ne 8, 3) := by decide +kernel
theorem dL_notices_216 : decode cL_notices 216 = .ok (.iload 7, 2) := by decide +kernel
theorem dL_notices_218 : decode cL_notices 218 = .ok (.ifCond .ne 7, 3) := by decide +kernel
theorem dL_notices_221 : decode cL_notices 221 = .ok (.iconst 0, 1) := by decide +kernel
theorem dL_notices_222 : decode cL_notices 222 = .ok (.goto 13, 3) := by decide +kernel
theorem dL_notices_225 : decode cL_notices 225 = .ok (.aload_n 0, 1) := by decide +kernel
theorem dL_notices_226 : decode cL_notices 226 = .ok (.iload 6, 2) := by decide +kernel
theorem dL_notices_228 : decode cL_notices 228 = .ok (.iload 7, 2) := by decide +kernel
theorem dL_notices_230 : decode cL_notices 230 = .ok (.iconst 1, 1) := by decide +kernel
theorem dL_notices_231 : decode cL_notices 231 = .ok (.isub, 1) := by decide +kernel
theorem dL_notices_232 : decode cL_notices 232 = .ok (.invokevirtual 41, 3) := by decide +kernel
theorem dL_notices_235 : decode cL_notices 235 = .ok (.istore 14, 2) := by decide +kernel
theorem dL_notices_237 : decode cL_notices 237 = .ok (.iload 12, 2) := by decide +kernel
theorem dL_notices_239 : decode cL_notices 239 = .ok (.ifCond .ne 16, 3) := by decide +kernel
theorem dL_notices_242 : decode cL_notices 242 = .ok (.iload 13, 2) := by decide +kernel
theorem dL_notices_244 : decode cL_notices 244 = .ok (.ifCond .ne 11, 3) := by decide +kernel
theorem dL_notices_247 : decode cL_notices 247 = .ok (.iload 8, 2) := by decide +kernel
theorem dL_notices_249 : decode cL_notices 249 = .ok (.sipush 200, 3) := by decide +kernel
theorem dL_notices_252 : decode cL_notices 252 = .ok (.if_icmp .ne 7, 3) := by decide +kernel
theorem dL_notices_255 : decode cL_notices 255 = .ok (.iconst 0, 1) := by decide +kernel
theorem dL_notices_256 : decode cL_notices 256 = .ok (.goto 13, 3) := by decide +kernel
theorem dL_notices_259 : decode cL_notices 259 = .ok (.aload_n 0, 1) := by decide +kernel
theorem dL_notices_260 : decode cL_notices 260 = .ok (.iload 6, 2) := by decide +kernel
theorem dL_notices_262 : decode cL_notices 262 = .ok (.iload 8, 2) := by decide +kernel
theorem dL_notices_264 : decode cL_notices 264 = .ok (.iconst 1, 1) := by decide +kernel
theorem dL_notices_265 : decode cL_notices 265 = .ok (.iadd, 1) := by decide +kernel
theorem dL_notices_266 : decode cL_notices 266 = .ok (.invokevirtual 41, 3) := by decide +kernel
theorem dL_notices_269 : decode cL_notices 269 = .ok (.istore 15, 2) := by decide +kernel
theorem dL_notices_271 : decode cL_notices 271 = .ok (.aload_n 0, 1) := by decide +kernel
theorem dL_notices_272 : decode cL_notices 272 = .ok (.iconst 1, 1) := by decide +kernel
theorem dL_notices_273 : decode cL_notices 273 = .ok (.iload 6, 2) := by decide +kernel
theorem dL_notices_275 : decode cL_notices 275 = .ok (.iload 7, 2) := by decide +kernel
theorem dL_notices_277 : decode cL_notices 277 = .ok (.iload 8, 2) := by decide +kernel
theorem dL_notices_279 : decode cL_notices 279 = .ok (.iload 9, 2) := by decide +kernel
theorem dL_notices_281 : decode cL_notices 281 = .ok (.invokestatic 97, 3) := by decide +kernel
theorem dL_notices_284 : decode cL_notices 284 = .ok (.istore 16, 2) := by decide +kernel
theorem dL_notices_286 : decode cL_notices 286 = .ok (.iload 16, 2) := by decide +kernel
theorem dL_notices_288 : decode cL_notices 288 = .ok (.ifCond .ge 46, 3) := by decide +kernel
theorem dL_notices_291 : decode cL_notices 291 = .ok (.aload_n 0, 1) := by decide +kernel
theorem dL_notices_292 : decode cL_notices 292 = .ok (.invokestatic 103, 3) := by decide +kernel
theorem dL_notices_295 : decode cL_notices 295 = .ok (.lload 10, 2) := by decide +kernel
theorem dL_notices_297 : decode cL_notices 297 = .ok (.lcmp, 1) := by decide +kernel
theorem dL_notices_298 : decode cL_notices 298 = .ok (.ifCond .ne 34, 3) := by decide +kernel
theorem dL_notices_301 : decode cL_notices 301 = .ok (.iload 16, 2) := by decide +kernel
theorem dL_notices_303 : decode cL_notices 303 = .ok (.iload 12, 2) := by decide +kernel
theorem dL_notices_305 : decode cL_notices 305 = .ok (.ifCond .eq 8, 3) := by decide +kernel
theorem dL_notices_308 : decode cL_notices 308 = .ok (.bipush (-61), 2) := by decide +kernel
theorem dL_notices_310 : decode cL_notices 310 = .ok (.goto 15, 3) := by decide +kernel
theorem dL_notices_313 : decode cL_notices 313 = .ok (.iload 13, 2) := by decide +kernel
theorem dL_notices_315 : decode cL_notices 315 = .ok (.ifCond .eq 8, 3) := by decide +kernel
theorem dL_notices_318 : decode cL_notices 318 = .ok (.bipush (-62), 2) := by decide +kernel
theorem dL_notices_320 : decode cL_notices 320 = .ok (.goto 5, 3) := by decide +kernel
theorem dL_notices_323 : decode cL_notices 323 = .ok (.bipush (-63), 2) := by decide +kernel
theorem dL_notices_325 : decode cL_notices 325 = .ok (.if_icmp .ne 7, 3) := by decide +kernel
theorem dL_notices_328 : decode cL_notices 328 = .ok (.iconst 1, 1) := by decide +kernel
theorem dL_notices_329 : decode cL_notices 329 = .ok (.goto 4, 3) := by decide +kernel
theorem dL_notices_332 : decode cL_notices 332 = .ok (.iconst 0, 1) := by decide +kernel
theorem dL_notices_333 : decode cL_notices 333 = .ok (.ireturn, 1) := by decide +kernel
theorem dL_notices_334 : decode cL_notices 334 = .ok (.iload 12, 2) := by decide +kernel
theorem dL_notices_336 : decode cL_notices 336 = .ok (.ifCond .ne 76, 3) := by decide +kernel
theorem dL_notices_339 : decode cL_notices 339 = .ok (.iload 13, 2) := by decide +kernel
theorem dL_notices_341 : decode cL_notices 341 = .ok (.ifCond .ne 71, 3) := by decide +kernel
theorem dL_notices_344 : decode cL_notices 344 = .ok (.iload 16, 2) := by decide +kernel
theorem dL_notices_346 : decode cL_notices 346 = .ok (.ifCond .le 66, 3) := by decide +kernel
theorem dL_notices_349 : decode cL_notices 349 = .ok (.iload 16, 2) := by decide +kernel
theorem dL_notices_351 : decode cL_notices 351 = .ok (.bipush 31, 2) := by decide +kernel
theorem dL_notices_353 : decode cL_notices 353 = .ok (.if_icmp .ge 59, 3) := by decide +kernel
theorem dL_notices_356 : decode cL_notices 356 = .ok (.iload 7, 2) := by decide +kernel
theorem dL_notices_358 : decode cL_notices 358 = .ok (.iload 5, 2) := by decide +kernel
theorem dL_notices_360 : decode cL_notices 360 = .ok (.iconst 2, 1) := by decide +kernel
theorem dL_notices_361 : decode cL_notices 361 = .ok (.iadd, 1) := by decide +kernel
theorem dL_notices_362 : decode cL_notices 362 = .ok (.if_icmp .lt 50, 3) := by decide +kernel
theorem dL_notices_365 : decode cL_notices 365 = .ok (.iload 7, 2) := by decide +kernel
theorem dL_notices_367 : decode cL_notices 367 = .ok (.ifCond .eq 18, 3) := by decide +kernel
theorem dL_notices_370 : decode cL_notices 370 = .ok (.aload_n 0, 1) := by decide +kernel
theorem dL_notices_371 : decode cL_notices 371 = .ok (.iload 6, 2) := by decide +kernel
theorem dL_notices_373 : decode cL_notices 373 = .ok (.iload 7, 2) := by decide +kernel
theorem dL_notices_375 : decode cL_notices 375 = .ok (.iconst 1, 1) := by decide +kernel
theorem dL_notices_376 : decode cL_notices 376 = .ok (.isub, 1) := by decide +kernel
theorem dL_notices_377 : decode cL_notices 377 = .ok (.invokevirtual 41, 3) := by decide +kernel
theorem dL_notices_380 : decode cL_notices 380 = .ok (.iload 14, 2) := by decide +kernel
theorem dL_notices_382 : decode cL_notices 382 = .ok (.if_icmp .ne 30, 3) := by decide +kernel
theorem dL_notices_385 : decode cL_notices 385 = .ok (.iload 8, 2) := by decide +kernel
theorem dL_notices_387 : decode cL_notices 387 = .ok (.sipush 200, 3) := by decide +kernel
theorem dL_notices_390 : decode cL_notices 390 = .ok (.if_icmp .eq 18, 3) := by decide +kernel
theorem dL_notices_393 : decode cL_notices 393 = .ok (.aload_n 0, 1) := by decide +kernel
theorem dL_notices_394 : decode cL_notices 394 = .ok (.iload 6, 2) := by decide +kernel
theorem dL_notices_396 : decode cL_notices 396 = .ok (.iload 8, 2) := by decide +kernel
theorem dL_notices_398 : decode cL_notices 398 = .ok (.iconst 1, 1) := by decide +kernel
theorem dL_notices_399 : decode cL_notices 399 = .ok (.iadd, 1) := by decide +kernel
theorem dL_notices_400 : decode cL_notices 400 = .ok (.invokevirtual 41, 3) := by decide +kernel
theorem dL_notices_403 : decode cL_notices 403 = .ok (.iload 15, 2) := by decide +kernel
theorem dL_notices_405 : decode cL_notices 405 = .ok (.if_icmp .ne 7, 3) := by decide +kernel
theorem dL_notices_408 : decode cL_notices 408 = .ok (.iconst 1, 1) := by decide +kernel
theorem dL_notices_409 : decode cL_notices 409 = .ok (.goto 4, 3) := by decide +kernel
theorem dL_notices_412 : decode cL_notices 412 = .ok (.iconst 0, 1) := by decide +kernel
theorem dL_notices_413 : decode cL_notices 413 = .ok (.istore 17, 2) := by decide +kernel
theorem dL_notices_415 : decode cL_notices 415 = .ok (.iload 7, 2) := by decide +kernel
theorem dL_notices_417 : decode cL_notices 417 = .ok (.istore 18, 2) := by decide +kernel
theorem dL_notices_419 : decode cL_notices 419 = .ok (.iload 18, 2) := by decide +kernel
theorem dL_notices_421 : decode cL_notices 421 = .ok (.iload 8, 2) := by decide +kernel
theorem dL_notices_423 : decode cL_notices 423 = .ok (.if_icmp .gt 34, 3) := by decide +kernel
theorem dL_notices_426 : decode cL_notices 426 = .ok (.iload 17, 2) := by decide +kernel
theorem dL_notices_428 : decode cL_notices 428 = .ok (.ifCond .eq 29, 3) := by decide +kernel
theorem dL_notices_431 : decode cL_notices 431 = .ok (.aload_n 0, 1) := by decide +kernel
theorem dL_notices_432 : decode cL_notices 432 = .ok (.iload 6, 2) := by decide +kernel
theorem dL_notices_434 : decode cL_notices 434 = .ok (.iload 18, 2) := by decide +kernel
theorem dL_notices_436 : decode cL_notices 436 = .ok (.invokevirtual 41, 3) := by decide +kernel
theorem dL_notices_439 : decode cL_notices 439 = .ok (.iload 9, 2) := by decide +kernel
theorem dL_notices_441 : decode cL_notices 441 = .ok (.if_icmp .ne 7, 3) := by decide +kernel
theorem dL_notices_444 : decode cL_notices 444 = .ok (.iconst 1, 1) := by decide +kernel
theorem dL_notices_445 : decode cL_notices 445 = .ok (.goto 4, 3) := by decide +kernel
theorem dL_notices_448 : decode cL_notices 448 = .ok (.iconst 0, 1) := by decide +kernel
theorem dL_notices_449 : decode cL_notices 449 = .ok (.istore 17, 2) := by decide +kernel
theorem dL_notices_451 : decode cL_notices 451 = .ok (.iinc 18 1, 3) := by decide +kernel
theorem dL_notices_454 : decode cL_notices 454 = .ok (.goto (-35), 3) := by decide +kernel
theorem dL_notices_457 : decode cL_notices 457 = .ok (.iload 17, 2) := by decide +kernel
theorem dL_notices_459 : decode cL_notices 459 = .ok (.ireturn, 1) := by decide +kernel
theorem dL_courses_0 : decode cL_courses 0 = .ok (.aload_n 0, 1) := by decide +kernel
theorem dL_courses_1 : decode cL_courses 1 = .ok (.invokestatic 103, 3) := by decide +kernel
theorem dL_courses_4 : decode cL_courses 4 = .ok (.lstore 5, 2) := by decide +kernel
theorem dL_courses_6 : decode cL_courses 6 = .ok (.aload_n 0, 1) := by decide +kernel
theorem dL_courses_7 : decode cL_courses 7 = .ok (.invokevirtual 77, 3) := by decide +kernel
theorem dL_courses_10 : decode cL_courses 10 = .ok (.istore 7, 2) := by decide +kernel
theorem dL_courses_12 : decode cL_courses 12 = .ok (.iload_n 2, 1) := by decide +kernel
theorem dL_courses_13 : decode cL_courses 13 = .ok (.iconst 3, 1) := by decide +kernel
theorem dL_courses_14 : decode cL_courses 14 = .ok (.invokestatic 100, 3) := by decide +kernel
theorem dL_courses_17 : decode cL_courses 17 = .ok (.ifCond .ne 263, 3) := by decide +kernel
theorem dL_courses_20 : decode cL_courses 20 = .ok (.iload 4, 2) := by decide +kernel
theorem dL_courses_22 : decode cL_courses 22 = .ok (.ifCond .eq 12, 3) := by decide +kernel
theorem dL_courses_25 : decode cL_courses 25 = .ok (.iload_n 3, 1) := by decide +kernel
theorem dL_courses_26 : decode cL_courses 26 = .ok (.bipush 10, 2) := by decide +kernel
theorem dL_courses_28 : decode cL_courses 28 = .ok (.invokestatic 100, 3) := by decide +kernel
theorem dL_courses_31 : decode cL_courses 31 = .ok (.goto 10, 3) := by decide +kernel
theorem dL_courses_34 : decode cL_courses 34 = .ok (.iconst 1, 1) := by decide +kernel
theorem dL_courses_35 : decode cL_courses 35 = .ok (.iload_n 3, 1) := by decide +kernel
theorem dL_courses_36 : decode cL_courses 36 = .ok (.iconst 3, 1) := by decide +kernel
theorem dL_courses_37 : decode cL_courses 37 = .ok (.invokestatic 100, 3) := by decide +kernel
theorem dL_courses_40 : decode cL_courses 40 = .ok (.iadd, 1) := by decide +kernel
theorem dL_courses_41 : decode cL_courses 41 = .ok (.istore 8, 2) := by decide +kernel
theorem dL_courses_43 : decode cL_courses 43 = .ok (.iload 4, 2) := by decide +kernel
theorem dL_courses_45 : decode cL_courses 45 = .ok (.ifCond .eq 17, 3) := by decide +kernel
theorem dL_courses_48 : decode cL_courses 48 = .ok (.iload_n 3, 1) := by decide +kernel
theorem dL_courses_49 : decode cL_courses 49 = .ok (.iconst 3, 1) := by decide +kernel
theorem dL_courses_50 : decode cL_courses 50 = .ok (.ishr, 1) := by decide +kernel
theorem dL_courses_51 : decode cL_courses 51 = .ok (.sipush 204, 3) := by decide +kernel
theorem dL_courses_54 : decode cL_courses 54 = .ok (.invokestatic 100, 3) := by decide +kernel
theorem dL_courses_57 : decode cL_courses 57 = .ok (.iconst 2, 1) := by decide +kernel
theorem dL_courses_58 : decode cL_courses 58 = .ok (.isub, 1) := by decide +kernel
theorem dL_courses_59 : decode cL_courses 59 = .ok (.goto 11, 3) := by decide +kernel
theorem dL_courses_62 : decode cL_courses 62 = .ok (.iload_n 3, 1) := by decide +kernel
theorem dL_courses_63 : decode cL_courses 63 = .ok (.iconst 3, 1) := by decide +kernel
theorem dL_courses_64 : decode cL_courses 64 = .ok (.ishr, 1) := by decide +kernel
theorem dL_courses_65 : decode cL_courses 65 = .ok (.bipush 50, 2) := by decide +kernel
theorem dL_courses_67 : decode cL_courses 67 = .ok (.invokestatic 100, 3) := by decide +kernel
theorem dL_courses_70 : decode cL_courses 70 = .ok (.istore 9, 2) := by decide +kernel
theorem dL_courses_72 : decode cL_courses 72 = .ok (.iload 9, 2) := by decide +kernel
theorem dL_courses_74 : decode cL_courses 74 = .ok (.iload 4, 2) := by decide +kernel
theorem dL_courses_76 : decode cL_courses 76 = .ok (.ifCond .eq 17, 3) := by decide +kernel
theorem dL_courses_79 : decode cL_courses 79 = .ok (.iload_n 3, 1) := by decide +kernel
theorem dL_courses_80 : decode cL_courses 80 = .ok (.bipush 6, 2) := by decide +kernel
theorem dL_courses_82 : decode cL_courses 82 = .ok (.ishr, 1) := by decide +kernel
theorem dL_courses_83 : decode cL_courses 83 = .ok (.bipush 24, 2) := by decide +kernel
theorem dL_courses_85 : decode cL_courses 85 = .ok (.invokestatic 100, 3) := by decide +kernel
theorem dL_courses_88 : decode cL_courses 88 = .ok (.iconst 2, 1) := by decide +kernel
theorem dL_courses_89 : decode cL_courses 89 = .ok (.isub, 1) := by decide +kernel
theorem dL_courses_90 : decode cL_courses 90 = .ok (.goto 12, 3) := by decide +kernel
theorem dL_courses_93 : decode cL_courses 93 = .ok (.iload_n 3, 1) := by decide +kernel
theorem dL_courses_94 : decode cL_courses 94 = .ok (.bipush 6, 2) := by decide +kernel
theorem dL_courses_96 : decode cL_courses 96 = .ok (.ishr, 1) := by decide +kernel
theorem dL_courses_97 : decode cL_courses 97 = .ok (.bipush 9, 2) := by decide +kernel
theorem dL_courses_99 : decode cL_courses 99 = .ok (.invokestatic 100, 3) := by decide +kernel
theorem dL_courses_102 : decode cL_courses 102 = .ok (.iadd, 1) := by decide +kernel
theorem dL_courses_103 : decode cL_courses 103 = .ok (.istore 10, 2) := by decide +kernel
theorem dL_courses_105 : decode cL_courses 105 = .ok (.iload 4, 2) := by decide +kernel
theorem dL_courses_107 : decode cL_courses 107 = .ok (.ifCond .eq 17, 3) := by decide +kernel
theorem dL_courses_110 : decode cL_courses 110 = .ok (.iload_n 3, 1) := by decide +kernel
theorem dL_courses_111 : decode cL_courses 111 = .ok (.bipush 9, 2) := by decide +kernel
theorem dL_courses_113 : decode cL_courses 113 = .ok (.ishr, 1) := by decide +kernel
theorem dL_courses_114 : decode cL_courses 114 = .ok (.bipush 44, 2) := by decide +kernel
theorem dL_courses_116 : decode cL_courses 116 = .ok (.invokestatic 100, 3) := by decide +kernel
theorem dL_courses_119 : decode cL_courses 119 = .ok (.iconst 2, 1) := by decide +kernel
theorem dL_courses_120 : decode cL_courses 120 = .ok (.isub, 1) := by decide +kernel
theorem dL_courses_121 : decode cL_courses 121 = .ok (.goto 14, 3) := by decide +kernel
theorem dL_courses_124 : decode cL_courses 124 = .ok (.iconst 1, 1) := by decide +kernel
theorem dL_courses_125 : decode cL_courses 125 = .ok (.iload_n 3, 1) := by decide +kernel
theorem dL_courses_126 : decode cL_courses 126 = .ok (.bipush 9, 2) := by decide +kernel
theorem dL_courses_128 : decode cL_courses 128 = .ok (.ishr, 1) := by decide +kernel
theorem dL_courses_129 : decode cL_courses 129 = .ok (.bipush 22, 2) := by decide +kernel
theorem dL_courses_131 : decode cL_courses 131 = .ok (.invokestatic 100, 3) := by decide +kernel
theorem dL_courses_134 : decode cL_courses 134 = .ok (.iadd, 1) := by decide +kernel
theorem dL_courses_135 : decode cL_courses 135 = .ok (.istore 11, 2) := by decide +kernel
theorem dL_courses_137 : decode cL_courses 137 = .ok (.iload 8, 2) := by decide +kernel
theorem dL_courses_139 : decode cL_courses 139 = .ok (.iconst 1, 1) := by decide +kernel
theorem dL_courses_140 : decode cL_courses 140 = .ok (.if_icmp .lt 51, 3) := by decide +kernel
theorem dL_courses_143 : decode cL_courses 143 = .ok (.iload 8, 2) := by decide +kernel
theorem dL_courses_145 : decode cL_courses 145 = .ok (.bipush 8, 2) := by decide +kernel
theorem dL_courses_147 : decode cL_courses 147 = .ok (.if_icmp .gt 44, 3) := by decide +kernel
theorem dL_courses_150 : decode cL_courses 150 = .ok (.iload 9, 2) := by decide +kernel
theorem dL_courses_152 : decode cL_courses 152 = .ok (.ifCond .lt 39, 3) := by decide +kernel
theorem dL_courses_155 : decode cL_courses 155 = .ok (.iload 9, 2) := by decide +kernel
theorem dL_courses_157 : decode cL_courses 157 = .ok (.sipush 200, 3) := by decide +kernel
theorem dL_courses_160 : decode cL_courses 160 = .ok (.if_icmp .gt 31, 3) := by decide +kernel
theorem dL_courses_163 : decode cL_courses 163 = .ok (.iload 10, 2) := by decide +kernel
theorem dL_courses_165 : decode cL_courses 165 = .ok (.iload 9, 2) := by decide +kernel
theorem dL_courses_167 : decode cL_courses 167 = .ok (.if_icmp .lt 24, 3) := by decide +kernel
theorem dL_courses_170 : decode cL_courses 170 = .ok (.iload 10, 2) := by decide +kernel
theorem dL_courses_172 : decode cL_courses 172 = .ok (.sipush 200, 3) := by decide +kernel
theorem dL_courses_175 : decode cL_courses 175 = .ok (.if_icmp .gt 16, 3) := by decide +kernel
theorem dL_courses_178 : decode cL_courses 178 = .ok (.iload 11, 2) := by decide +kernel
theorem dL_courses_180 : decode cL_courses 180 = .ok (.iconst 1, 1) := by decide +kernel
theorem dL_courses_181 : decode cL_courses 181 = .ok (.if_icmp .lt 10, 3) := by decide +kernel
theorem dL_courses_184 : decode cL_courses 184 = .ok (.iload 11, 2) := by decide +kernel
theorem dL_courses_186 : decode cL_courses 186 = .ok (.bipush 40, 2) := by decide +kernel
theorem dL_courses_188 : decode cL_courses 188 = .ok (.if_icmp .le 7, 3) := by decide +kernel
theorem dL_courses_191 : decode cL_courses 191 = .ok (.iconst 1, 1) := by decide +kernel
theorem dL_courses_192 : decode cL_courses 192 = .ok (.goto 4, 3) := by decide +kernel
theorem dL_courses_195 : decode cL_courses 195 = .ok (.iconst 0, 1) := by decide +kernel
theorem dL_courses_196 : decode cL_courses 196 = .ok (.istore 12, 2) := by decide +kernel
theorem dL_courses_198 : decode cL_courses 198 = .ok (.aload_n 0, 1) := by decide +kernel
theorem dL_courses_199 : decode cL_courses 199 = .ok (.iconst 2, 1) := by decide +kernel
theorem dL_courses_200 : decode cL_courses 200 = .ok (.iload 8, 2) := by decide +kernel
theorem dL_courses_202 : decode cL_courses 202 = .ok (.iload 9, 2) := by decide +kernel
theorem dL_courses_204 : decode cL_courses 204 = .ok (.iload 10, 2) := by decide +kernel
theorem dL_courses_206 : decode cL_courses 206 = .ok (.iload 11, 2) := by decide +kernel
theorem dL_courses_208 : decode cL_courses 208 = .ok (.invokestatic 97, 3) := by decide +kernel
theorem dL_courses_211 : decode cL_courses 211 = .ok (.istore 13, 2) := by decide +kernel
theorem dL_courses_213 : decode cL_courses 213 = .ok (.aload_n 0, 1) := by decide +kernel
theorem dL_courses_214 : decode cL_courses 214 = .ok (.invokestatic 103, 3) := by decide +kernel
theorem dL_courses_217 : decode cL_courses 217 = .ok (.lload 5, 2) := by decide +kernel
theorem dL_courses_219 : decode cL_courses 219 = .ok (.lcmp, 1) := by decide +kernel
theorem dL_courses_220 : decode cL_courses 220 = .ok (.ifCond .ne 38, 3) := by decide +kernel
theorem dL_courses_223 : decode cL_courses 223 = .ok (.iload 13, 2) := by decide +kernel
theorem dL_courses_225 : decode cL_courses 225 = .ok (.iload 12, 2) := by decide +kernel
theorem dL_courses_227 : decode cL_courses 227 = .ok (.ifCond .eq 8, 3) := by decide +kernel
theorem dL_courses_230 : decode cL_courses 230 = .ok (.bipush (-62), 2) := by decide +kernel
theorem dL_courses_232 : decode cL_courses 232 = .ok (.goto 19, 3) := by decide +kernel
theorem dL_courses_235 : decode cL_courses 235 = .ok (.aload_n 1, 1) := by decide +kernel
theorem dL_courses_236 : decode cL_courses 236 = .ok (.iconst 0, 1) := by decide +kernel
theorem dL_courses_237 : decode cL_courses 237 = .ok (.iaload, 1) := by decide +kernel
theorem dL_courses_238 : decode cL_courses 238 = .ok (.bipush 10, 2) := by decide +kernel
theorem dL_courses_240 : decode cL_courses 240 = .ok (.if_icmp .ne 8, 3) := by decide +kernel
theorem dL_courses_243 : decode cL_courses 243 = .ok (.bipush (-63), 2) := by decide +kernel
