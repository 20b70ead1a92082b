/-! the reference: ones, fewAt, isOver, fewest -/
theorem dd_M_ones_0 : decode prog_14_method_96_code 0 = .ok (.iconst 0, 1) := by decide +kernel
theorem dd_M_ones_1 : decode prog_14_method_96_code 1 = .ok (.istore_n 1, 1) := by decide +kernel
theorem dd_M_ones_2 : decode prog_14_method_96_code 2 = .ok (.iconst 0, 1) := by decide +kernel
theorem dd_M_ones_3 : decode prog_14_method_96_code 3 = .ok (.istore_n 2, 1) := by decide +kernel
theorem dd_M_ones_4 : decode prog_14_method_96_code 4 = .ok (.iload_n 2, 1) := by decide +kernel
theorem dd_M_ones_5 : decode prog_14_method_96_code 5 = .ok (.bipush 12, 2) := by decide +kernel
theorem dd_M_ones_7 : decode prog_14_method_96_code 7 = .ok (.if_icmp .ge 17, 3) := by decide +kernel
theorem dd_M_ones_10 : decode prog_14_method_96_code 10 = .ok (.iload_n 1, 1) := by decide +kernel
theorem dd_M_ones_11 : decode prog_14_method_96_code 11 = .ok (.iload_n 0, 1) := by decide +kernel
theorem dd_M_ones_12 : decode prog_14_method_96_code 12 = .ok (.iload_n 2, 1) := by decide +kernel
theorem dd_M_ones_13 : decode prog_14_method_96_code 13 = .ok (.ishr, 1) := by decide +kernel
theorem dd_M_ones_14 : decode prog_14_method_96_code 14 = .ok (.iconst 1, 1) := by decide +kernel
theorem dd_M_ones_15 : decode prog_14_method_96_code 15 = .ok (.iand, 1) := by decide +kernel
theorem dd_M_ones_16 : decode prog_14_method_96_code 16 = .ok (.iadd, 1) := by decide +kernel
theorem dd_M_ones_17 : decode prog_14_method_96_code 17 = .ok (.istore_n 1, 1) := by decide +kernel
theorem dd_M_ones_18 : decode prog_14_method_96_code 18 = .ok (.iinc 2 1, 3) := by decide +kernel
theorem dd_M_ones_21 : decode prog_14_method_96_code 21 = .ok (.goto (-17), 3) := by decide +kernel
theorem dd_M_ones_24 : decode prog_14_method_96_code 24 = .ok (.iload_n 1, 1) := by decide +kernel
theorem dd_M_ones_25 : decode prog_14_method_96_code 25 = .ok (.ireturn, 1) := by decide +kernel
theorem kb8_30 : (Int8.ofInt 30).toInt32 = Int32.ofInt 30 := by decide
theorem kt_30 : (Int32.ofInt 30).toInt = 30 := by decide
theorem kb16_759 : (Int16.ofInt 759).toInt32 = Int32.ofInt 759 := by decide
theorem kt_759 : (Int32.ofInt 759).toInt = 759 := by decide
theorem dd_M_fewAt_0 : decode prog_14_method_88_code 0 = .ok (.iload_n 0, 1) := by decide +kernel
theorem dd_M_fewAt_1 : decode prog_14_method_88_code 1 = .ok (.iconst 2, 1) := by decide +kernel
theorem dd_M_fewAt_2 : decode prog_14_method_88_code 2 = .ok (.if_icmp .ne 7, 3) := by decide +kernel
theorem dd_M_fewAt_5 : decode prog_14_method_88_code 5 = .ok (.iconst 0, 1) := by decide +kernel
theorem dd_M_fewAt_6 : decode prog_14_method_88_code 6 = .ok (.goto 25, 3) := by decide +kernel
theorem dd_M_fewAt_9 : decode prog_14_method_88_code 9 = .ok (.iload_n 0, 1) := by decide +kernel
theorem dd_M_fewAt_10 : decode prog_14_method_88_code 10 = .ok (.iconst 3, 1) := by decide +kernel
theorem dd_M_fewAt_11 : decode prog_14_method_88_code 11 = .ok (.if_icmp .ne 7, 3) := by decide +kernel
theorem dd_M_fewAt_14 : decode prog_14_method_88_code 14 = .ok (.iconst 3, 1) := by decide +kernel
theorem dd_M_fewAt_15 : decode prog_14_method_88_code 15 = .ok (.goto 16, 3) := by decide +kernel
theorem dd_M_fewAt_18 : decode prog_14_method_88_code 18 = .ok (.iload_n 0, 1) := by decide +kernel
theorem dd_M_fewAt_19 : decode prog_14_method_88_code 19 = .ok (.iconst 4, 1) := by decide +kernel
theorem dd_M_fewAt_20 : decode prog_14_method_88_code 20 = .ok (.if_icmp .ne 8, 3) := by decide +kernel
theorem dd_M_fewAt_23 : decode prog_14_method_88_code 23 = .ok (.bipush 30, 2) := by decide +kernel
theorem dd_M_fewAt_25 : decode prog_14_method_88_code 25 = .ok (.goto 6, 3) := by decide +kernel
theorem dd_M_fewAt_28 : decode prog_14_method_88_code 28 = .ok (.sipush 759, 3) := by decide +kernel
theorem dd_M_fewAt_31 : decode prog_14_method_88_code 31 = .ok (.ireturn, 1) := by decide +kernel
theorem dd_M_isOver_0 : decode prog_14_method_69_code 0 = .ok (.aload_n 0, 1) := by decide +kernel
theorem dd_M_isOver_1 : decode prog_14_method_69_code 1 = .ok (.getfield 52, 3) := by decide +kernel
theorem dd_M_isOver_4 : decode prog_14_method_69_code 4 = .ok (.iload_n 1, 1) := by decide +kernel
theorem dd_M_isOver_5 : decode prog_14_method_69_code 5 = .ok (.iaload, 1) := by decide +kernel
theorem dd_M_isOver_6 : decode prog_14_method_69_code 6 = .ok (.iload_n 2, 1) := by decide +kernel
theorem dd_M_isOver_7 : decode prog_14_method_69_code 7 = .ok (.ishr, 1) := by decide +kernel
theorem dd_M_isOver_8 : decode prog_14_method_69_code 8 = .ok (.iconst 1, 1) := by decide +kernel
theorem dd_M_isOver_9 : decode prog_14_method_69_code 9 = .ok (.iand, 1) := by decide +kernel
theorem dd_M_isOver_10 : decode prog_14_method_69_code 10 = .ok (.iconst 1, 1) := by decide +kernel
theorem dd_M_isOver_11 : decode prog_14_method_69_code 11 = .ok (.if_icmp .ne 7, 3) := by decide +kernel
theorem dd_M_isOver_14 : decode prog_14_method_69_code 14 = .ok (.iconst 1, 1) := by decide +kernel
theorem dd_M_isOver_15 : decode prog_14_method_69_code 15 = .ok (.goto 4, 3) := by decide +kernel
theorem dd_M_isOver_18 : decode prog_14_method_69_code 18 = .ok (.iconst 0, 1) := by decide +kernel
theorem dd_M_isOver_19 : decode prog_14_method_69_code 19 = .ok (.ireturn, 1) := by decide +kernel
theorem dd_M_fewest_0 : decode prog_14_method_97_code 0 = .ok (.iload_n 1, 1) := by decide +kernel
theorem dd_M_fewest_1 : decode prog_14_method_97_code 1 = .ok (.ifCond .lt 34, 3) := by decide +kernel
theorem dd_M_fewest_4 : decode prog_14_method_97_code 4 = .ok (.iload_n 1, 1) := by decide +kernel
theorem dd_M_fewest_5 : decode prog_14_method_97_code 5 = .ok (.iconst 1, 1) := by decide +kernel
theorem dd_M_fewest_6 : decode prog_14_method_97_code 6 = .ok (.aload_n 0, 1) := by decide +kernel
theorem dd_M_fewest_7 : decode prog_14_method_97_code 7 = .ok (.invokevirtual 103, 3) := by decide +kernel
theorem dd_M_fewest_10 : decode prog_14_method_97_code 10 = .ok (.ishl, 1) := by decide +kernel
theorem dd_M_fewest_11 : decode prog_14_method_97_code 11 = .ok (.if_icmp .ge 24, 3) := by decide +kernel
theorem dd_M_fewest_14 : decode prog_14_method_97_code 14 = .ok (.iload_n 1, 1) := by decide +kernel
theorem dd_M_fewest_15 : decode prog_14_method_97_code 15 = .ok (.invokestatic 360, 3) := by decide +kernel
theorem dd_M_fewest_18 : decode prog_14_method_97_code 18 = .ok (.iconst 2, 1) := by decide +kernel
theorem dd_M_fewest_19 : decode prog_14_method_97_code 19 = .ok (.iconst 5, 1) := by decide +kernel
theorem dd_M_fewest_20 : decode prog_14_method_97_code 20 = .ok (.invokestatic 92, 3) := by decide +kernel
theorem dd_M_fewest_23 : decode prog_14_method_97_code 23 = .ok (.ifCond .eq 12, 3) := by decide +kernel
theorem dd_M_fewest_26 : decode prog_14_method_97_code 26 = .ok (.iload_n 2, 1) := by decide +kernel
theorem dd_M_fewest_27 : decode prog_14_method_97_code 27 = .ok (.iconst 0, 1) := by decide +kernel
theorem dd_M_fewest_28 : decode prog_14_method_97_code 28 = .ok (.iconst 1, 1) := by decide +kernel
theorem dd_M_fewest_29 : decode prog_14_method_97_code 29 = .ok (.invokestatic 92, 3) := by decide +kernel
theorem dd_M_fewest_32 : decode prog_14_method_97_code 32 = .ok (.ifCond .ne 5, 3) := by decide +kernel
theorem dd_M_fewest_35 : decode prog_14_method_97_code 35 = .ok (.iconst (-1), 1) := by decide +kernel
theorem dd_M_fewest_36 : decode prog_14_method_97_code 36 = .ok (.ireturn, 1) := by decide +kernel
theorem dd_M_fewest_37 : decode prog_14_method_97_code 37 = .ok (.aload_n 0, 1) := by decide +kernel
theorem dd_M_fewest_38 : decode prog_14_method_97_code 38 = .ok (.invokevirtual 300, 3) := by decide +kernel
theorem dd_M_fewest_41 : decode prog_14_method_97_code 41 = .ok (.iconst 0, 1) := by decide +kernel
theorem dd_M_fewest_42 : decode prog_14_method_97_code 42 = .ok (.istore_n 3, 1) := by decide +kernel
theorem dd_M_fewest_43 : decode prog_14_method_97_code 43 = .ok (.iconst 0, 1) := by decide +kernel
theorem dd_M_fewest_44 : decode prog_14_method_97_code 44 = .ok (.istore 4, 2) := by decide +kernel
theorem dd_M_fewest_46 : decode prog_14_method_97_code 46 = .ok (.iload 4, 2) := by decide +kernel
theorem dd_M_fewest_48 : decode prog_14_method_97_code 48 = .ok (.aload_n 0, 1) := by decide +kernel
theorem dd_M_fewest_49 : decode prog_14_method_97_code 49 = .ok (.invokevirtual 103, 3) := by decide +kernel
theorem dd_M_fewest_52 : decode prog_14_method_97_code 52 = .ok (.if_icmp .ge 45, 3) := by decide +kernel
theorem dd_M_fewest_55 : decode prog_14_method_97_code 55 = .ok (.iload_n 1, 1) := by decide +kernel
theorem dd_M_fewest_56 : decode prog_14_method_97_code 56 = .ok (.iload 4, 2) := by decide +kernel
theorem dd_M_fewest_58 : decode prog_14_method_97_code 58 = .ok (.ishr, 1) := by decide +kernel
theorem dd_M_fewest_59 : decode prog_14_method_97_code 59 = .ok (.iconst 1, 1) := by decide +kernel
theorem dd_M_fewest_60 : decode prog_14_method_97_code 60 = .ok (.iand, 1) := by decide +kernel
theorem dd_M_fewest_61 : decode prog_14_method_97_code 61 = .ok (.ifCond .ne 6, 3) := by decide +kernel
theorem dd_M_fewest_64 : decode prog_14_method_97_code 64 = .ok (.goto 27, 3) := by decide +kernel
theorem dd_M_fewest_67 : decode prog_14_method_97_code 67 = .ok (.aload_n 0, 1) := by decide +kernel
theorem dd_M_fewest_68 : decode prog_14_method_97_code 68 = .ok (.iload 4, 2) := by decide +kernel
theorem dd_M_fewest_70 : decode prog_14_method_97_code 70 = .ok (.iload 4, 2) := by decide +kernel
theorem dd_M_fewest_72 : decode prog_14_method_97_code 72 = .ok (.invokevirtual 303, 3) := by decide +kernel
theorem dd_M_fewest_75 : decode prog_14_method_97_code 75 = .ok (.ifCond .eq 5, 3) := by decide +kernel
theorem dd_M_fewest_78 : decode prog_14_method_97_code 78 = .ok (.iconst (-1), 1) := by decide +kernel
theorem dd_M_fewest_79 : decode prog_14_method_97_code 79 = .ok (.ireturn, 1) := by decide +kernel
theorem dd_M_fewest_80 : decode prog_14_method_97_code 80 = .ok (.aload_n 0, 1) := by decide +kernel
theorem dd_M_fewest_81 : decode prog_14_method_97_code 81 = .ok (.getfield 83, 3) := by decide +kernel
theorem dd_M_fewest_84 : decode prog_14_method_97_code 84 = .ok (.iload_n 3, 1) := by decide +kernel
theorem dd_M_fewest_85 : decode prog_14_method_97_code 85 = .ok (.iload 4, 2) := by decide +kernel
theorem dd_M_fewest_87 : decode prog_14_method_97_code 87 = .ok (.iastore, 1) := by decide +kernel
theorem dd_M_fewest_88 : decode prog_14_method_97_code 88 = .ok (.iinc 3 1, 3) := by decide +kernel
theorem dd_M_fewest_91 : decode prog_14_method_97_code 91 = .ok (.iinc 4 1, 3) := by decide +kernel
theorem dd_M_fewest_94 : decode prog_14_method_97_code 94 = .ok (.goto (-48), 3) := by decide +kernel
theorem dd_M_fewest_97 : decode prog_14_method_97_code 97 = .ok (.iconst 0, 1) := by decide +kernel
theorem dd_M_fewest_98 : decode prog_14_method_97_code 98 = .ok (.istore 4, 2) := by decide +kernel
theorem dd_M_fewest_100 : decode prog_14_method_97_code 100 = .ok (.iload 4, 2) := by decide +kernel
theorem dd_M_fewest_102 : decode prog_14_method_97_code 102 = .ok (.iload_n 3, 1) := by decide +kernel
theorem dd_M_fewest_103 : decode prog_14_method_97_code 103 = .ok (.if_icmp .ge 87, 3) := by decide +kernel
theorem dd_M_fewest_106 : decode prog_14_method_97_code 106 = .ok (.iconst 0, 1) := by decide +kernel
theorem dd_M_fewest_107 : decode prog_14_method_97_code 107 = .ok (.istore 5, 2) := by decide +kernel
theorem dd_M_fewest_109 : decode prog_14_method_97_code 109 = .ok (.iload 5, 2) := by decide +kernel
theorem dd_M_fewest_111 : decode prog_14_method_97_code 111 = .ok (.iload_n 3, 1) := by decide +kernel
theorem dd_M_fewest_112 : decode prog_14_method_97_code 112 = .ok (.if_icmp .ge 72, 3) := by decide +kernel
theorem dd_M_fewest_115 : decode prog_14_method_97_code 115 = .ok (.aload_n 0, 1) := by decide +kernel
theorem dd_M_fewest_116 : decode prog_14_method_97_code 116 = .ok (.getfield 80, 3) := by decide +kernel
theorem dd_M_fewest_119 : decode prog_14_method_97_code 119 = .ok (.iconst 5, 1) := by decide +kernel
theorem dd_M_fewest_120 : decode prog_14_method_97_code 120 = .ok (.iload 4, 2) := by decide +kernel
theorem dd_M_fewest_122 : decode prog_14_method_97_code 122 = .ok (.imul, 1) := by decide +kernel
theorem dd_M_fewest_123 : decode prog_14_method_97_code 123 = .ok (.iload 5, 2) := by decide +kernel
theorem dd_M_fewest_125 : decode prog_14_method_97_code 125 = .ok (.iadd, 1) := by decide +kernel
theorem dd_M_fewest_126 : decode prog_14_method_97_code 126 = .ok (.aload_n 0, 1) := by decide +kernel
theorem dd_M_fewest_127 : decode prog_14_method_97_code 127 = .ok (.aload_n 0, 1) := by decide +kernel
theorem dd_M_fewest_128 : decode prog_14_method_97_code 128 = .ok (.getfield 83, 3) := by decide +kernel
theorem dd_M_fewest_131 : decode prog_14_method_97_code 131 = .ok (.iload 4, 2) := by decide +kernel
theorem dd_M_fewest_133 : decode prog_14_method_97_code 133 = .ok (.iaload, 1) := by decide +kernel
theorem dd_M_fewest_134 : decode prog_14_method_97_code 134 = .ok (.aload_n 0, 1) := by decide +kernel
theorem dd_M_fewest_135 : decode prog_14_method_97_code 135 = .ok (.getfield 83, 3) := by decide +kernel
theorem dd_M_fewest_138 : decode prog_14_method_97_code 138 = .ok (.iload 5, 2) := by decide +kernel
theorem dd_M_fewest_140 : decode prog_14_method_97_code 140 = .ok (.iaload, 1) := by decide +kernel
theorem dd_M_fewest_141 : decode prog_14_method_97_code 141 = .ok (.invokevirtual 303, 3) := by decide +kernel
theorem dd_M_fewest_144 : decode prog_14_method_97_code 144 = .ok (.ifCond .eq 7, 3) := by decide +kernel
theorem dd_M_fewest_147 : decode prog_14_method_97_code 147 = .ok (.iconst 1, 1) := by decide +kernel
theorem dd_M_fewest_148 : decode prog_14_method_97_code 148 = .ok (.goto 29, 3) := by decide +kernel
theorem dd_M_fewest_151 : decode prog_14_method_97_code 151 = .ok (.aload_n 0, 1) := by decide +kernel
theorem dd_M_fewest_152 : decode prog_14_method_97_code 152 = .ok (.aload_n 0, 1) := by decide +kernel
theorem dd_M_fewest_153 : decode prog_14_method_97_code 153 = .ok (.getfield 83, 3) := by decide +kernel
theorem dd_M_fewest_156 : decode prog_14_method_97_code 156 = .ok (.iload 5, 2) := by decide +kernel
theorem dd_M_fewest_158 : decode prog_14_method_97_code 158 = .ok (.iaload, 1) := by decide +kernel
theorem dd_M_fewest_159 : decode prog_14_method_97_code 159 = .ok (.aload_n 0, 1) := by decide +kernel
theorem dd_M_fewest_160 : decode prog_14_method_97_code 160 = .ok (.getfield 83, 3) := by decide +kernel
theorem dd_M_fewest_163 : decode prog_14_method_97_code 163 = .ok (.iload 4, 2) := by decide +kernel
theorem dd_M_fewest_165 : decode prog_14_method_97_code 165 = .ok (.iaload, 1) := by decide +kernel
theorem dd_M_fewest_166 : decode prog_14_method_97_code 166 = .ok (.invokevirtual 303, 3) := by decide +kernel
theorem dd_M_fewest_169 : decode prog_14_method_97_code 169 = .ok (.ifCond .eq 7, 3) := by decide +kernel
theorem dd_M_fewest_172 : decode prog_14_method_97_code 172 = .ok (.iconst (-1), 1) := by decide +kernel
theorem dd_M_fewest_173 : decode prog_14_method_97_code 173 = .ok (.goto 4, 3) := by decide +kernel
theorem dd_M_fewest_176 : decode prog_14_method_97_code 176 = .ok (.iconst 0, 1) := by decide +kernel
theorem dd_M_fewest_177 : decode prog_14_method_97_code 177 = .ok (.iastore, 1) := by decide +kernel
theorem dd_M_fewest_178 : decode prog_14_method_97_code 178 = .ok (.iinc 5 1, 3) := by decide +kernel
theorem dd_M_fewest_181 : decode prog_14_method_97_code 181 = .ok (.goto (-72), 3) := by decide +kernel
theorem dd_M_fewest_184 : decode prog_14_method_97_code 184 = .ok (.iinc 4 1, 3) := by decide +kernel
theorem dd_M_fewest_187 : decode prog_14_method_97_code 187 = .ok (.goto (-87), 3) := by decide +kernel
theorem dd_M_fewest_190 : decode prog_14_method_97_code 190 = .ok (.aload_n 0, 1) := by decide +kernel
theorem dd_M_fewest_191 : decode prog_14_method_97_code 191 = .ok (.iload_n 3, 1) := by decide +kernel
theorem dd_M_fewest_192 : decode prog_14_method_97_code 192 = .ok (.invokevirtual 341, 3) := by decide +kernel
theorem dd_M_fewest_195 : decode prog_14_method_97_code 195 = .ok (.istore 4, 2) := by decide +kernel
theorem dd_M_fewest_197 : decode prog_14_method_97_code 197 = .ok (.aload_n 0, 1) := by decide +kernel
theorem dd_M_fewest_198 : decode prog_14_method_97_code 198 = .ok (.iload_n 3, 1) := by decide +kernel
theorem dd_M_fewest_199 : decode prog_14_method_97_code 199 = .ok (.invokevirtual 363, 3) := by decide +kernel
theorem dd_M_fewest_202 : decode prog_14_method_97_code 202 = .ok (.aload_n 0, 1) := by decide +kernel
theorem dd_M_fewest_203 : decode prog_14_method_97_code 203 = .ok (.getfield 74, 3) := by decide +kernel
theorem dd_M_fewest_206 : decode prog_14_method_97_code 206 = .ok (.iload_n 3, 1) := by decide +kernel
theorem dd_M_fewest_207 : decode prog_14_method_97_code 207 = .ok (.invokestatic 344, 3) := by decide +kernel
theorem dd_M_fewest_210 : decode prog_14_method_97_code 210 = .ok (.iload 4, 2) := by decide +kernel
theorem dd_M_fewest_212 : decode prog_14_method_97_code 212 = .ok (.iadd, 1) := by decide +kernel
theorem dd_M_fewest_213 : decode prog_14_method_97_code 213 = .ok (.baload, 1) := by decide +kernel
theorem dd_M_fewest_214 : decode prog_14_method_97_code 214 = .ok (.istore 5, 2) := by decide +kernel
theorem dd_M_fewest_216 : decode prog_14_method_97_code 216 = .ok (.iload_n 2, 1) := by decide +kernel
theorem dd_M_fewest_217 : decode prog_14_method_97_code 217 = .ok (.ifCond .eq 8, 3) := by decide +kernel
theorem dd_M_fewest_220 : decode prog_14_method_97_code 220 = .ok (.iload 5, 2) := by decide +kernel
theorem dd_M_fewest_222 : decode prog_14_method_97_code 222 = .ok (.ifCond .ne 14, 3) := by decide +kernel
theorem dd_M_fewest_225 : decode prog_14_method_97_code 225 = .ok (.iload_n 2, 1) := by decide +kernel
theorem dd_M_fewest_226 : decode prog_14_method_97_code 226 = .ok (.ifCond .ne 8, 3) := by decide +kernel
theorem dd_M_fewest_229 : decode prog_14_method_97_code 229 = .ok (.iload 5, 2) := by decide +kernel
theorem dd_M_fewest_231 : decode prog_14_method_97_code 231 = .ok (.goto 4, 3) := by decide +kernel
theorem dd_M_fewest_234 : decode prog_14_method_97_code 234 = .ok (.iconst (-1), 1) := by decide +kernel
theorem dd_M_fewest_235 : decode prog_14_method_97_code 235 = .ok (.ireturn, 1) := by decide +kernel
theorem dd_M_fewest_236 : decode prog_14_method_97_code 236 = .ok (.iconst 0, 1) := by decide +kernel
theorem dd_M_fewest_237 : decode prog_14_method_97_code 237 = .ok (.istore 6, 2) := by decide +kernel
theorem dd_M_fewest_239 : decode prog_14_method_97_code 239 = .ok (.iload 6, 2) := by decide +kernel
theorem dd_M_fewest_241 : decode prog_14_method_97_code 241 = .ok (.iload_n 3, 1) := by decide +kernel
theorem dd_M_fewest_242 : decode prog_14_method_97_code 242 = .ok (.if_icmp .ge 84, 3) := by decide +kernel
theorem dd_M_fewest_245 : decode prog_14_method_97_code 245 = .ok (.iload 6, 2) := by decide +kernel
theorem dd_M_fewest_247 : decode prog_14_method_97_code 247 = .ok (.iconst 1, 1) := by decide +kernel
theorem dd_M_fewest_248 : decode prog_14_method_97_code 248 = .ok (.iadd, 1) := by decide +kernel
theorem dd_M_fewest_249 : decode prog_14_method_97_code 249 = .ok (.istore 7, 2) := by decide +kernel
theorem dd_M_fewest_251 : decode prog_14_method_97_code 251 = .ok (.iload 7, 2) := by decide +kernel
theorem dd_M_fewest_253 : decode prog_14_method_97_code 253 = .ok (.iload_n 3, 1) := by decide +kernel
theorem dd_M_fewest_254 : decode prog_14_method_97_code 254 = .ok (.if_icmp .ge 66, 3) := by decide +kernel
theorem dd_M_fewest_257 : decode prog_14_method_97_code 257 = .ok (.aload_n 0, 1) := by decide +kernel
theorem dd_M_fewest_258 : decode prog_14_method_97_code 258 = .ok (.iload_n 3, 1) := by decide +kernel
theorem dd_M_fewest_259 : decode prog_14_method_97_code 259 = .ok (.iload 4, 2) := by decide +kernel
theorem dd_M_fewest_261 : decode prog_14_method_97_code 261 = .ok (.invokevirtual 337, 3) := by decide +kernel
theorem dd_M_fewest_264 : decode prog_14_method_97_code 264 = .ok (.aload_n 0, 1) := by decide +kernel
theorem dd_M_fewest_265 : decode prog_14_method_97_code 265 = .ok (.getfield 80, 3) := by decide +kernel
theorem dd_M_fewest_268 : decode prog_14_method_97_code 268 = .ok (.iconst 5, 1) := by decide +kernel
theorem dd_M_fewest_269 : decode prog_14_method_97_code 269 = .ok (.iload 6, 2) := by decide +kernel
theorem dd_M_fewest_271 : decode prog_14_method_97_code 271 = .ok (.imul, 1) := by decide +kernel
theorem dd_M_fewest_272 : decode prog_14_method_97_code 272 = .ok (.iload 7, 2) := by decide +kernel
theorem dd_M_fewest_274 : decode prog_14_method_97_code 274 = .ok (.iadd, 1) := by decide +kernel
theorem dd_M_fewest_275 : decode prog_14_method_97_code 275 = .ok (.iaload, 1) := by decide +kernel
theorem dd_M_fewest_276 : decode prog_14_method_97_code 276 = .ok (.ifCond .ne 38, 3) := by decide +kernel
theorem dd_M_fewest_279 : decode prog_14_method_97_code 279 = .ok (.aload_n 0, 1) := by decide +kernel
theorem dd_M_fewest_280 : decode prog_14_method_97_code 280 = .ok (.iload_n 3, 1) := by decide +kernel
theorem dd_M_fewest_281 : decode prog_14_method_97_code 281 = .ok (.iload 4, 2) := by decide +kernel
theorem dd_M_fewest_283 : decode prog_14_method_97_code 283 = .ok (.iload 6, 2) := by decide +kernel
theorem dd_M_fewest_285 : decode prog_14_method_97_code 285 = .ok (.iload 7, 2) := by decide +kernel
theorem dd_M_fewest_287 : decode prog_14_method_97_code 287 = .ok (.invokevirtual 357, 3) := by decide +kernel
theorem dd_M_fewest_290 : decode prog_14_method_97_code 290 = .ok (.iload 5, 2) := by decide +kernel
theorem dd_M_fewest_292 : decode prog_14_method_97_code 292 = .ok (.if_icmp .ne 22, 3) := by decide +kernel
theorem dd_M_fewest_295 : decode prog_14_method_97_code 295 = .ok (.bipush 12, 2) := by decide +kernel
theorem dd_M_fewest_297 : decode prog_14_method_97_code 297 = .ok (.aload_n 0, 1) := by decide +kernel
theorem dd_M_fewest_298 : decode prog_14_method_97_code 298 = .ok (.getfield 83, 3) := by decide +kernel
theorem dd_M_fewest_301 : decode prog_14_method_97_code 301 = .ok (.iload 6, 2) := by decide +kernel
theorem dd_M_fewest_303 : decode prog_14_method_97_code 303 = .ok (.iaload, 1) := by decide +kernel
theorem dd_M_fewest_304 : decode prog_14_method_97_code 304 = .ok (.imul, 1) := by decide +kernel
theorem dd_M_fewest_305 : decode prog_14_method_97_code 305 = .ok (.aload_n 0, 1) := by decide +kernel
theorem dd_M_fewest_306 : decode prog_14_method_97_code 306 = .ok (.getfield 83, 3) := by decide +kernel
theorem dd_M_fewest_309 : decode prog_14_method_97_code 309 = .ok (.iload 7, 2) := by decide +kernel
theorem dd_M_fewest_311 : decode prog_14_method_97_code 311 = .ok (.iaload, 1) := by decide +kernel
theorem dd_M_fewest_312 : decode prog_14_method_97_code 312 = .ok (.iadd, 1) := by decide +kernel
theorem dd_M_fewest_313 : decode prog_14_method_97_code 313 = .ok (.ireturn, 1) := by decide +kernel
theorem dd_M_fewest_314 : decode prog_14_method_97_code 314 = .ok (.iinc 7 1, 3) := by decide +kernel
theorem dd_M_fewest_317 : decode prog_14_method_97_code 317 = .ok (.goto (-66), 3) := by decide +kernel
theorem dd_M_fewest_320 : decode prog_14_method_97_code 320 = .ok (.iinc 6 1, 3) := by decide +kernel
theorem dd_M_fewest_323 : decode prog_14_method_97_code 323 = .ok (.goto (-84), 3) := by decide +kernel
theorem dd_M_fewest_326 : decode prog_14_method_97_code 326 = .ok (.iconst (-1), 1) := by decide +kernel
theorem dd_M_fewest_327 : decode prog_14_method_97_code 327 = .ok (.ireturn, 1) := by decide +kernel

theorem bs_pc_le (σ : Nat) : ∀ m, bs_pc σ m ≤ m
  | 0 => Nat.le_refl _
  | m + 1 => by
    have := bs_pc_le σ m
    show bs_pc σ m + (if σ.testBit m = true then 1 else 0) ≤ m + 1
    split <;> omega
theorem bs_pc_hi {σ M : Nat} (h : σ < 2 ^ M) : ∀ d, bs_pc σ (M + d) = bs_pc σ M
  | 0 => rfl
  | d + 1 => by
    show bs_pc σ (M + d) + (if σ.testBit (M + d) = true then 1 else 0) = bs_pc σ M
    rw [bs_pc_hi h d, Nat.testBit_lt_two_pow (Nat.lt_of_lt_of_le h (Nat.pow_le_pow_right (by decide) (by omega)))]
    rfl
theorem hh_ones_l {Rt : Option mm_v → mm_h → Nat × Nat → Prop} (x : Int32) (σ : Nat) (hx : x.toInt = σ) (h : mm_h) (K : ∀ v : Int32, v.toInt = bs_pc σ 12 → Rt (some (mm_I v)) h (0, 0)) :
    ∀ (d k : Nat) (n s : Int32) (L : List (Nat × mm_v)), k + d = 12 → s.toInt = k → n.toInt = bs_pc σ k → mm_sub L [(2, mm_I s), (1, mm_I n), (0, mm_I x)] → mm_W vwCl ck_dt ck_mts ck_T13 [] false 3 0 0 (0) (0) prog_14_method_96_code (some .int) Rt (4, L, [], h, 0, 0) := by
  intro d
  induction d with
  | zero =>
    intro k n s L hk hs hn hL
    refine mm_W.sub ?_ hL
    obtain rfl : k = 12 := by omega
    refine mm_go_ok [10] (N := fun z => mm_W vwCl ck_dt ck_mts ck_T13 [] false 3 0 0 (0) (0) prog_14_method_96_code (some .int) Rt z) (fun z h => h) 6 _ ?_
    simp only [mm_nn2, mm_one, mm_grp, mm_a, mm_b, mm_c, mm_bop, mm_d, mm_e, mm_ld, mm_sw, mm_k, mm_rt, mm_get, mm_put, mm_put2, mm_two, mm_rf, ck_tg, ck_chold, ck_cneg, List.elem_cons, List.elem_nil, List.find?_cons, List.filter_cons, List.filter_nil, Option.map_some, Nat.reduceBEq, Nat.reduceAdd, Bool.or_false, Bool.false_or, Bool.or_true, Bool.true_or, beq_self_eq_true, Bool.not_false, Bool.not_true, Bool.and_true, Bool.true_and, Bool.and_false, Bool.false_and, Bool.false_eq_true, ↓reduceIte, Fin.isValue, mm_f0, mm_f1, mm_f2, mm_f3, Nat.zero_mod, Nat.reduceMod, Option.some.injEq, Sum.inl.injEq, Sum.inr.injEq, exists_eq_left', List.find?_nil, List.length_cons, List.length_nil, true_and, and_true, Nat.reduceLT, Nat.reduceEqDiff, Int.reduceLE, Int.reduceAdd, Int.reduceToNat, Int.cast_ofNat_Int, Int.reduceNeg, Nat.reduceBeqDiff, Nat.zero_add, Prod.mk.injEq, mm_si_n, mm_si_s, mm_si_r, Option.toList_some, Option.toList_none, List.cons_append, List.nil_append, exists_eq', exists_eq, reduceCtorEq, false_and, and_false, false_or, or_false, exists_false, eq_self, and_self, mm_si_i, Int.reduceLT, mm_go_s dd_M_ones_0, mm_go_s dd_M_ones_1, mm_go_s dd_M_ones_2, mm_go_s dd_M_ones_3, mm_go_s dd_M_ones_4, mm_go_s dd_M_ones_5, mm_go_s dd_M_ones_7, mm_go_s dd_M_ones_10, mm_go_s dd_M_ones_11, mm_go_s dd_M_ones_12, mm_go_s dd_M_ones_13, mm_go_s dd_M_ones_14, mm_go_s dd_M_ones_15, mm_go_s dd_M_ones_16, mm_go_s dd_M_ones_17, mm_go_s dd_M_ones_18, mm_go_s dd_M_ones_21, mm_go_s dd_M_ones_24, mm_go_s dd_M_ones_25, kt_0, kt_1, kb8_12, kt_12]
    exact ⟨fun _ => ⟨rfl, K n hn⟩, fun z => by omega⟩
  | succ d ih =>
    intro k n s L hk hs hn hL
    refine mm_W.sub ?_ hL
    have m1 := in_up hs (by omega)
    have m2 := bs_bit hx hs (by omega)
    have m3 := bs_pc_le σ k
    refine mm_go_ok [4, 24] (N := fun z => mm_W vwCl ck_dt ck_mts ck_T13 [] false 3 0 0 (0) (0) prog_14_method_96_code (some .int) Rt z) (fun z h => h) 14 _ ?_
    simp only [mm_nn2, mm_one, mm_grp, mm_a, mm_b, mm_c, mm_bop, mm_d, mm_e, mm_ld, mm_sw, mm_k, mm_rt, mm_get, mm_put, mm_put2, mm_two, mm_rf, ck_tg, ck_chold, ck_cneg, List.elem_cons, List.elem_nil, List.find?_cons, List.filter_cons, List.filter_nil, Option.map_some, Nat.reduceBEq, Nat.reduceAdd, Bool.or_false, Bool.false_or, Bool.or_true, Bool.true_or, beq_self_eq_true, Bool.not_false, Bool.not_true, Bool.and_true, Bool.true_and, Bool.and_false, Bool.false_and, Bool.false_eq_true, ↓reduceIte, Fin.isValue, mm_f0, mm_f1, mm_f2, mm_f3, Nat.zero_mod, Nat.reduceMod, Option.some.injEq, Sum.inl.injEq, Sum.inr.injEq, exists_eq_left', List.find?_nil, List.length_cons, List.length_nil, true_and, and_true, Nat.reduceLT, Nat.reduceEqDiff, Int.reduceLE, Int.reduceAdd, Int.reduceToNat, Int.cast_ofNat_Int, Int.reduceNeg, Nat.reduceBeqDiff, Nat.zero_add, Prod.mk.injEq, mm_si_n, mm_si_s, mm_si_r, Option.toList_some, Option.toList_none, List.cons_append, List.nil_append, exists_eq', exists_eq, reduceCtorEq, false_and, and_false, false_or, or_false, exists_false, eq_self, and_self, mm_si_i, Int.reduceLT, mm_go_s dd_M_ones_0, mm_go_s dd_M_ones_1, mm_go_s dd_M_ones_2, mm_go_s dd_M_ones_3, mm_go_s dd_M_ones_4, mm_go_s dd_M_ones_5, mm_go_s dd_M_ones_7, mm_go_s dd_M_ones_10, mm_go_s dd_M_ones_11, mm_go_s dd_M_ones_12, mm_go_s dd_M_ones_13, mm_go_s dd_M_ones_14, mm_go_s dd_M_ones_15, mm_go_s dd_M_ones_16, mm_go_s dd_M_ones_17, mm_go_s dd_M_ones_18, mm_go_s dd_M_ones_21, mm_go_s dd_M_ones_24, mm_go_s dd_M_ones_25, kt_0, kt_1, kb8_12, kt_12]
    refine ⟨fun z => by omega, fun _ => ih (k + 1) _ _ _ (by omega) m1 ?_ (mm_sub_of rfl)⟩
    have e : (bs_pc σ (k + 1) : Int) = bs_pc σ k + (if σ.testBit k = true then 1 else 0) := by
      show ((bs_pc σ k + (if σ.testBit k = true then 1 else 0) : Nat) : Int) = _
      split <;> rfl
    rw [e, ck_addI (by rw [m2, hn]; split <;> omega) (by rw [m2, hn]; split <;> omega), m2, hn]
def hc_ones : mm_C := (260, (0, 0, 0, 0), (fun us _ => ∃ (x : Int32) (σ : Nat), us = [mm_I x] ∧ x.toInt = σ), fun us h r h' => h = h' ∧ match us with
  | [.inl x] => ∃ v : Int32, r = some (mm_I v) ∧ v.toInt = bs_pc x.toInt.toNat 12
  | _ => False)
theorem hh_ones {Rt : Option mm_v → mm_h → Nat × Nat → Prop} (x : Int32) (σ : Nat) (hx : x.toInt = σ) (h : mm_h) (K : ∀ v : Int32, v.toInt = bs_pc σ 12 → Rt (some (mm_I v)) h (0, 0)) :
    mm_W vwCl ck_dt ck_mts ck_T13 [] false 3 0 0 (0) (0) prog_14_method_96_code (some .int) Rt (0, [(0, mm_I x)], [], h, 0, 0) := by
  refine mm_go_ok [4] (N := fun z => mm_W vwCl ck_dt ck_mts ck_T13 [] false 3 0 0 (0) (0) prog_14_method_96_code (some .int) Rt z) (fun z h => h) 6 _ ?_
  simp only [mm_nn2, mm_one, mm_grp, mm_a, mm_b, mm_c, mm_bop, mm_d, mm_e, mm_ld, mm_sw, mm_k, mm_rt, mm_get, mm_put, mm_put2, mm_two, mm_rf, ck_tg, ck_chold, ck_cneg, List.elem_cons, List.elem_nil, List.find?_cons, List.filter_cons, List.filter_nil, Option.map_some, Nat.reduceBEq, Nat.reduceAdd, Bool.or_false, Bool.false_or, Bool.or_true, Bool.true_or, beq_self_eq_true, Bool.not_false, Bool.not_true, Bool.and_true, Bool.true_and, Bool.and_false, Bool.false_and, Bool.false_eq_true, ↓reduceIte, Fin.isValue, mm_f0, mm_f1, mm_f2, mm_f3, Nat.zero_mod, Nat.reduceMod, Option.some.injEq, Sum.inl.injEq, Sum.inr.injEq, exists_eq_left', List.find?_nil, List.length_cons, List.length_nil, true_and, and_true, Nat.reduceLT, Nat.reduceEqDiff, Int.reduceLE, Int.reduceAdd, Int.reduceToNat, Int.cast_ofNat_Int, Int.reduceNeg, Nat.reduceBeqDiff, Nat.zero_add, Prod.mk.injEq, mm_si_n, mm_si_s, mm_si_r, Option.toList_some, Option.toList_none, List.cons_append, List.nil_append, exists_eq', exists_eq, reduceCtorEq, false_and, and_false, false_or, or_false, exists_false, eq_self, and_self, mm_si_i, Int.reduceLT, mm_go_s dd_M_ones_0, mm_go_s dd_M_ones_1, mm_go_s dd_M_ones_2, mm_go_s dd_M_ones_3, mm_go_s dd_M_ones_4, mm_go_s dd_M_ones_5, mm_go_s dd_M_ones_7, mm_go_s dd_M_ones_10, mm_go_s dd_M_ones_11, mm_go_s dd_M_ones_12, mm_go_s dd_M_ones_13, mm_go_s dd_M_ones_14, mm_go_s dd_M_ones_15, mm_go_s dd_M_ones_16, mm_go_s dd_M_ones_17, mm_go_s dd_M_ones_18, mm_go_s dd_M_ones_21, mm_go_s dd_M_ones_24, mm_go_s dd_M_ones_25, kt_0, kt_1, kb8_12, kt_12]
  exact hh_ones_l x σ hx h K 12 0 _ _ _ (by omega) (by decide) (by rw [kt_0]; rfl) (mm_sub_of rfl)
theorem hk_ones (l : Launch) (D : va_G) (st : Nat → Nat)   : hh_Met l D st (hc_ones ) := by
  refine mm_sound (T := ck_T13) (cs := []) l ck_TSgood ck_okCl ck_okDt (M0 := ck_m260) rfl (by decide +kernel) ck_okT13 ck_nil ?_
  rintro us h - ⟨x, σ, rfl, hx⟩
  exact ⟨Nat.le_of_ble_eq_true rfl, hh_ones x σ hx h (fun v e => ⟨Nat.le_refl _, Nat.le_refl _, Nat.le_refl _, rfl, v, rfl, by rw [hx, Int.toNat_natCast]; exact e⟩)⟩

def hc_fewAt : mm_C := (267, (0, 0, 0, 0), (fun us _ => ∃ x : Int32, us = [mm_I x]), fun us h r h' => h = h' ∧ match us with
  | [.inl x] => ∃ v : Int32, r = some (mm_I v) ∧ ((x.toInt = 2 ∧ v.toInt = 0) ∨ (x.toInt = 3 ∧ v.toInt = 3) ∨ (x.toInt = 4 ∧ v.toInt = 30) ∨ (x.toInt ≠ 2 ∧ x.toInt ≠ 3 ∧ x.toInt ≠ 4 ∧ v.toInt = 759))
  | _ => False)
theorem hh_fewAt {Rt : Option mm_v → mm_h → Nat × Nat → Prop} (x : Int32) (h : mm_h) (K : ∀ v : Int32, ((x.toInt = 2 ∧ v.toInt = 0) ∨ (x.toInt = 3 ∧ v.toInt = 3) ∨ (x.toInt = 4 ∧ v.toInt = 30) ∨ (x.toInt ≠ 2 ∧ x.toInt ≠ 3 ∧ x.toInt ≠ 4 ∧ v.toInt = 759)) → Rt (some (mm_I v)) h (0, 0)) :
    mm_W vwCl ck_dt ck_mts ck_T13 [] false 1 0 0 (0) (0) prog_14_method_88_code (some .int) Rt (0, [(0, mm_I x)], [], h, 0, 0) := by
  refine mm_go_ok [] (N := fun z => mm_W vwCl ck_dt ck_mts ck_T13 [] false 1 0 0 (0) (0) prog_14_method_88_code (some .int) Rt z) (fun z h => h) 20 _ ?_
  simp only [mm_nn2, mm_one, mm_grp, mm_a, mm_b, mm_c, mm_bop, mm_d, mm_e, mm_ld, mm_sw, mm_k, mm_rt, mm_get, mm_put, mm_put2, mm_two, mm_rf, ck_tg, ck_chold, ck_cneg, List.elem_cons, List.elem_nil, List.find?_cons, List.filter_cons, List.filter_nil, Option.map_some, Nat.reduceBEq, Nat.reduceAdd, Bool.or_false, Bool.false_or, Bool.or_true, Bool.true_or, beq_self_eq_true, Bool.not_false, Bool.not_true, Bool.and_true, Bool.true_and, Bool.and_false, Bool.false_and, Bool.false_eq_true, ↓reduceIte, Fin.isValue, mm_f0, mm_f1, mm_f2, mm_f3, Nat.zero_mod, Nat.reduceMod, Option.some.injEq, Sum.inl.injEq, Sum.inr.injEq, exists_eq_left', List.find?_nil, List.length_cons, List.length_nil, true_and, and_true, Nat.reduceLT, Nat.reduceEqDiff, Int.reduceLE, Int.reduceAdd, Int.reduceToNat, Int.cast_ofNat_Int, Int.reduceNeg, Nat.reduceBeqDiff, Nat.zero_add, Prod.mk.injEq, mm_si_n, mm_si_s, mm_si_r, Option.toList_some, Option.toList_none, List.cons_append, List.nil_append, exists_eq', exists_eq, reduceCtorEq, false_and, and_false, false_or, or_false, exists_false, eq_self, and_self, mm_si_i, Int.reduceLT, mm_go_s dd_M_fewAt_0, mm_go_s dd_M_fewAt_1, mm_go_s dd_M_fewAt_2, mm_go_s dd_M_fewAt_5, mm_go_s dd_M_fewAt_6, mm_go_s dd_M_fewAt_9, mm_go_s dd_M_fewAt_10, mm_go_s dd_M_fewAt_11, mm_go_s dd_M_fewAt_14, mm_go_s dd_M_fewAt_15, mm_go_s dd_M_fewAt_18, mm_go_s dd_M_fewAt_19, mm_go_s dd_M_fewAt_20, mm_go_s dd_M_fewAt_23, mm_go_s dd_M_fewAt_25, mm_go_s dd_M_fewAt_28, mm_go_s dd_M_fewAt_31, kt_0, kt_2, kt_3, kt_4, kb8_30, kt_30, kb16_759, kt_759]
  exact ⟨fun a => ⟨fun b => ⟨fun c => ⟨rfl, K _ (Or.inr (Or.inr (Or.inr ⟨a, b, c, by decide⟩)))⟩, fun c => ⟨rfl, K _ (Or.inr (Or.inr (Or.inl ⟨c, by decide⟩)))⟩⟩, fun b => ⟨rfl, K _ (Or.inr (Or.inl ⟨b, by decide⟩))⟩⟩, fun a => ⟨rfl, K _ (Or.inl ⟨a, by decide⟩)⟩⟩
theorem hk_fewAt (l : Launch) (D : va_G) (st : Nat → Nat)   : hh_Met l D st (hc_fewAt ) := by
  refine mm_sound (T := ck_T13) (cs := []) l ck_TSgood ck_okCl ck_okDt (M0 := ck_m267) rfl (by decide +kernel) ck_okT13 ck_nil ?_
  rintro us h - ⟨x, rfl⟩
  exact ⟨Nat.le_of_ble_eq_true rfl, hh_fewAt x h (fun v e => ⟨Nat.le_refl _, Nat.le_refl _, Nat.le_refl _, rfl, v, rfl, e⟩)⟩

def hc_isOver : mm_C := (242, (0, 0, 0, 0), (fun us h => rr_A h ∧ ∃ a b : Int32, us = [mm_A (some 77), mm_I a, mm_I b] ∧ 0 ≤ a.toInt ∧ a.toInt ≤ 11), fun _ h r h' => h = h' ∧ ev_b r)
theorem hh_isOver {Rt : Option mm_v → mm_h → Nat × Nat → Prop} (a b : Int32) (h : mm_h) (hA : rr_A h) (ha : 0 ≤ a.toInt ∧ a.toInt ≤ 11) (K : ∀ r, ev_b r → Rt r h (0, 0)) :
    mm_W vwCl ck_dt ck_mts ck_T13 [] false 3 0 0 (0) (0) prog_14_method_69_code (some .boolean) Rt (0, [(0, mm_A (some 77)), (1, mm_I a), (2, mm_I b)], [], h, 0, 0) := by
  refine mm_go_ok [] (N := fun z => mm_W vwCl ck_dt ck_mts ck_T13 [] false 3 0 0 (0) (0) prog_14_method_69_code (some .boolean) Rt z) (fun z h => h) 20 _ ?_
  simp only [mm_nn2, mm_one, mm_grp, mm_a, mm_b, mm_c, mm_bop, mm_d, mm_e, mm_ld, mm_sw, mm_k, mm_rt, mm_get, mm_put, mm_put2, mm_two, mm_rf, ck_tg, ck_chold, ck_cneg, List.elem_cons, List.elem_nil, List.find?_cons, List.filter_cons, List.filter_nil, Option.map_some, Nat.reduceBEq, Nat.reduceAdd, Bool.or_false, Bool.false_or, Bool.or_true, Bool.true_or, beq_self_eq_true, Bool.not_false, Bool.not_true, Bool.and_true, Bool.true_and, Bool.and_false, Bool.false_and, Bool.false_eq_true, ↓reduceIte, Fin.isValue, mm_f0, mm_f1, mm_f2, mm_f3, Nat.zero_mod, Nat.reduceMod, Option.some.injEq, Sum.inl.injEq, Sum.inr.injEq, exists_eq_left', List.find?_nil, List.length_cons, List.length_nil, true_and, and_true, Nat.reduceLT, Nat.reduceEqDiff, Int.reduceLE, Int.reduceAdd, Int.reduceToNat, Int.cast_ofNat_Int, Int.reduceNeg, Nat.reduceBeqDiff, Nat.zero_add, Prod.mk.injEq, mm_si_n, mm_si_s, mm_si_r, Option.toList_some, Option.toList_none, List.cons_append, List.nil_append, exists_eq', exists_eq, reduceCtorEq, false_and, and_false, false_or, or_false, exists_false, eq_self, and_self, mm_si_i, Int.reduceLT, mm_go_s dd_M_isOver_0, mm_go_s dd_M_isOver_1, mm_go_s dd_M_isOver_4, mm_go_s dd_M_isOver_5, mm_go_s dd_M_isOver_6, mm_go_s dd_M_isOver_7, mm_go_s dd_M_isOver_8, mm_go_s dd_M_isOver_9, mm_go_s dd_M_isOver_10, mm_go_s dd_M_isOver_11, mm_go_s dd_M_isOver_14, mm_go_s dd_M_isOver_15, mm_go_s dd_M_isOver_18, mm_go_s dd_M_isOver_19, kt_0, kt_1, gf13_52, rr_lt hA, rr_s77 hA, rr_s78 hA, rr_s79 hA, rr_s80 hA, rr_s81 hA, rr_s82 hA, rr_s83 hA, rr_s84 hA, rr_s85 hA, rr_s86 hA, rr_s87 hA, rr_s88 hA, rr_s89 hA, rr_s90 hA, rr_s91 hA, rr_s92 hA, rr_s93 hA, rr_s94 hA, rr_s95 hA, rr_s96 hA, rr_s97 hA, rr_s98 hA, rr_s99 hA, rr_s100 hA, rr_r1 hA, rr_r2 hA, rr_r3 hA, rr_r4 hA, rr_r5 hA, rr_r6 hA, rr_r9 hA, rr_r10 hA, rr_r11 hA, rr_r19 hA, rr_r24 hA, rr_r25 hA, rr_r26 hA, rr_r27 hA, rr_r28 hA, rr_r30 hA, rr_r31 hA, rr_r35 hA, rr_r36 hA, rr_r37 hA, rr_r38 hA, rr_r39 hA, rr_r40 hA]
  exact ⟨by omega, by omega, fun _ => ⟨by decide, K _ ⟨_, rfl, Or.inl rfl⟩⟩, fun _ => ⟨by decide, K _ ⟨_, rfl, Or.inr rfl⟩⟩⟩
theorem hk_isOver (l : Launch) (D : va_G) (st : Nat → Nat)   : hh_Met l D st (hc_isOver ) := by
  refine mm_sound (T := ck_T13) (cs := []) l ck_TSgood ck_okCl ck_okDt (M0 := ck_m242) rfl (by decide +kernel) ck_okT13 ck_nil ?_
  rintro us h - ⟨hA, a, b, rfl, ha⟩
  exact ⟨Nat.le_of_ble_eq_true rfl, hh_isOver a b h hA ha (fun r e => ⟨Nat.le_refl _, Nat.le_refl _, Nat.le_refl _, rfl, e⟩)⟩

/-! what fews, lays, worst want and leave -/
def fw_I (h : mm_h) : Prop := ab_sh ck_sh 101 h ∧ rr_A h ∧ li_ok h ∧ (∀ t, t < 59808 → -128 ≤ (h.2.2.1 95 t).toInt ∧ (h.2.2.1 95 t).toInt ≤ 127) ∧ (∀ t, t < 6 → 0 ≤ (h.2.2.1 96 t).toInt ∧ (h.2.2.1 96 t).toInt ≤ 1)
def wr_few : List (Nat × ab_P) := [(95, (0, 1, 59808)), (96, (0, 1, 6)), (97, (0, 1, 25))]
def fw_R (h h' : mm_h) : Prop := ab_fr wr_few h h' ∧ fw_I h'
def fw_f (c : mm_C) : Prop := c.1 = 262 ∧ c.2.1 = (3, 76, 0, 0) ∧ (∀ (h : mm_h) (x : Int32), fw_I h → 2 ≤ x.toInt → x.toInt ≤ 5 → c.2.2.1 [mm_A (some 77), mm_I x] h) ∧ ∀ (h : mm_h) (x : Int32) (r : Option mm_v) (h' : mm_h), fw_I h → c.2.2.2 [mm_A (some 77), mm_I x] h r h' → r = none ∧ fw_R h h'
def fw_l (c : mm_C) : Prop := c.1 = 265 ∧ c.2.1 = (0, 0, 0, 0) ∧ (∀ (h : mm_h) (x k : Int32), fw_I h → 2 ≤ x.toInt → x.toInt ≤ 5 → 0 ≤ k.toInt → k.toInt ≤ 59048 → c.2.2.1 [mm_A (some 77), mm_I x, mm_I k] h) ∧ ∀ (h : mm_h) (x k : Int32) (r : Option mm_v) (h' : mm_h), fw_I h → c.2.2.2 [mm_A (some 77), mm_I x, mm_I k] h r h' → r = none ∧ fw_R h h'
def fw_w (c : mm_C) : Prop := c.1 = 266 ∧ c.2.1 = (2, 50, 0, 0) ∧ (∀ (h : mm_h) (x k a b : Int32), fw_I h → 2 ≤ x.toInt → x.toInt ≤ 5 → 0 ≤ k.toInt → k.toInt ≤ 59048 → 0 ≤ a.toInt → a.toInt ≤ 4 → 0 ≤ b.toInt → b.toInt ≤ 4 → c.2.2.1 [mm_A (some 77), mm_I x, mm_I k, mm_I a, mm_I b] h) ∧ ∀ (h : mm_h) (x k a b : Int32) (r : Option mm_v) (h' : mm_h), fw_I h → c.2.2.2 [mm_A (some 77), mm_I x, mm_I k, mm_I a, mm_I b] h r h' → (∃ v : Int32, r = some (mm_I v)) ∧ fw_R h h'
def wr_fx : List (Nat × ab_P) := [(95, (0, 1, 59808)), (96, (0, 1, 6)), (97, (0, 1, 25)), (98, (0, 1, 12))]
def fx (h0 h : mm_h) : Prop := ab_fr wr_fx h0 h ∧ fw_I h ∧ ∀ t, t < 12 → 0 ≤ (h.2.2.1 98 t).toInt ∧ (h.2.2.1 98 t).toInt ≤ 11
theorem fx.R {h0 h h' : mm_h} (f : fx h0 h) (r : fw_R h h') : fx h0 h' := ⟨f.1.trans (r.1.mono (by decide)), r.2, fun t ht => by
  rw [(r.1.2 98 t (by have := f.2.1.2.1.1.1; omega) (fun w m e => absurd e ((show ∀ w ∈ wr_few, w.1 ≠ 98 by decide) w m))).1]
  exact f.2.2 t ht⟩
theorem fx.m {h0 h : mm_h} (f : fx h0 h) (h78 : ∀ k, h0.2.2.1 78 k = h0.2.2.1 78 k) (hl : 101 ≤ h0.1) (k : Nat) : h.2.2.1 78 k = h0.2.2.1 78 k := (f.1.2 78 k (by omega) (fun w m e => absurd e ((show ∀ w ∈ wr_fx, w.1 ≠ 78 by decide) w m))).1
theorem fx.s97 {h0 h : mm_h} (f : fx h0 h) (k : Nat) (hk : k < 25) (y : Int32) (hy : -1 ≤ y.toInt ∧ y.toInt ≤ 1) : fx h0 (mm_si h 97 k y) := by
  have g : rr_fr li_F h (mm_si h 97 k y) := rr_fr.rf.si _ _ _ ⟨rfl, hk⟩
  refine ⟨f.1.trans (g.ab _ (fun c p q => ⟨(97, (0, 1, 25)), by decide, q.1.symm, ab_mem1 (Nat.zero_le _) (by have := q.2; omega)⟩)), ⟨g.sh f.2.1.1, g.A f.2.1.2.1, f.2.1.2.2.1.si _ _ hy, fun t ht => ?_, fun t ht => ?_⟩, fun t ht => ?_⟩
  · rw [g.2.2.2 95 t (by unfold li_F; omega)]; exact f.2.1.2.2.2.1 t ht
  · rw [g.2.2.2 96 t (by unfold li_F; omega)]; exact f.2.1.2.2.2.2 t ht
  · rw [g.2.2.2 98 t (by unfold li_F; omega)]; exact f.2.2 t ht
theorem fx.s98 {h0 h : mm_h} (f : fx h0 h) (k : Nat) (hk : k < 12) (y : Int32) (hy : 0 ≤ y.toInt ∧ y.toInt ≤ 11) : fx h0 (mm_si h 98 k y) := by
  have g : rr_fr (fun c p => c = 98 ∧ p < 12) h (mm_si h 98 k y) := rr_fr.rf.si _ _ _ ⟨rfl, hk⟩
  refine ⟨f.1.trans (g.ab _ (fun c p q => ⟨(98, (0, 1, 12)), by decide, q.1.symm, ab_mem1 (Nat.zero_le _) (by have := q.2; omega)⟩)), ⟨g.sh f.2.1.1, g.A f.2.1.2.1, fun t ht => ?_, fun t ht => ?_, fun t ht => ?_⟩, fun t ht => ?_⟩
  · rw [g.2.2.2 97 t (by omega)]; exact f.2.1.2.2.1 t ht
  · rw [g.2.2.2 95 t (by omega)]; exact f.2.1.2.2.2.1 t ht
  · rw [g.2.2.2 96 t (by omega)]; exact f.2.1.2.2.2.2 t ht
  · rw [mm_si_i]
    split
    · exact hy
    · exact f.2.2 t ht
theorem closed_pre {h : mm_h} (f : fw_I h) (x : Int32) (hx : 2 ≤ x.toInt ∧ x.toInt ≤ 5) : (ab_m gk_G ck_sh co_closed).2.2.1 [mm_A (some 77), mm_I x] h := by
  refine ⟨f.1, ⟨rfl, ⟨x, rfl, hx⟩, trivial⟩, fun y hy => ?_⟩
  rcases List.mem_cons.mp hy with rfl | hy
  · refine ab_gx.nn (fun t ht => ?_)
    rw [Nat.zero_add, Nat.one_mul]
    exact f.2.2.1 t ht
  · obtain ⟨q, hq, rfl⟩ := List.mem_map.mp hy
    exact ab_gx.c1 (f.2.1.2 q hq)
theorem closed_post {h h' : mm_h} {r : Option mm_v} {x : Int32} (f : fw_I h) (hp : (ab_m gk_G ck_sh co_closed).2.2.2 [mm_A (some 77), mm_I x] h r h') : (∃ v : Int32, r = some (mm_I v) ∧ 0 ≤ v.toInt ∧ ((x.toInt = 2 ∧ v.toInt ≤ 2) ∨ (x.toInt = 3 ∧ v.toInt ≤ 26) ∨ (x.toInt = 4 ∧ v.toInt ≤ 728) ∨ (x.toInt = 5 ∧ v.toInt ≤ 59048))) ∧ fw_R h h' := by
  obtain ⟨o, ho, hr, hz, hd, hs, hf⟩ := hp
  have hf' : ab_fr [(97, (0, 1, 25))] h h' := hf
  have e : ∀ i k, i < 101 → i ≠ 97 → h'.2.2.1 i k = h.2.2.1 i k := fun i k hi n1 => (hf'.2 i k (by have := f.2.1.1.1; omega) (fun w m e => by
    rcases List.mem_cons.mp m with rfl | m
    · exact absurd e.symm n1
    · cases m)).1
  have rest : ∀ D : ab_D, (((97, (0, 1, 25)), .inl (-1, 1)) : (Nat × ab_P) × ck_F) ∈ D → ab_gd gk_G h' D → ab_sh ck_sh 101 h' → fw_R h h' := fun D m hd hs => by
    refine ⟨hf'.mono (by decide), hs, hf'.A f.2.1 (by decide), fun t ht => ?_, fun t ht => ?_, fun t ht => ?_⟩
    · have := ab_gd.nums hd m t ht
      rw [Nat.zero_add, Nat.one_mul] at this
      exact this
    · rw [e 95 t (by decide) (by decide)]; exact f.2.2.2.1 t ht
    · rw [e 96 t (by decide) (by decide)]; exact f.2.2.2.2 t ht
  have val : ∀ a b c d : Int, ab_rv h' (some (.inl (a, b))) r → ck_iv [(c, d)] (mm_ints [mm_A (some 77), mm_I x]) → ∃ v : Int32, r = some (mm_I v) ∧ (a ≤ v.toInt ∧ v.toInt ≤ b) ∧ c ≤ x.toInt ∧ x.toInt ≤ d := fun a b c d hr hz => by
    cases r with
    | none => exact hr.elim
    | some w =>
      obtain ⟨v, e, q⟩ := hr
      exact ⟨v, by rw [e], q, hz.1, hz.2.1⟩
  rcases List.mem_cons.mp ho with rfl | ho
  · obtain ⟨v, e, q1, q2⟩ := val _ _ _ _ hr hz
    exact ⟨⟨v, e, q1.1, Or.inl ⟨by omega, q1.2⟩⟩, rest _ (.head _) hd hs⟩
  rcases List.mem_cons.mp ho with rfl | ho
  · obtain ⟨v, e, q1, q2⟩ := val _ _ _ _ hr hz
    exact ⟨⟨v, e, q1.1, Or.inr (Or.inl ⟨by omega, q1.2⟩)⟩, rest _ (.head _) hd hs⟩
  rcases List.mem_cons.mp ho with rfl | ho
  · obtain ⟨v, e, q1, q2⟩ := val _ _ _ _ hr hz
    exact ⟨⟨v, e, q1.1, Or.inr (Or.inr (Or.inl ⟨by omega, q1.2⟩))⟩, rest _ (.head _) hd hs⟩
  rcases List.mem_cons.mp ho with rfl | ho
  · obtain ⟨v, e, q1, q2⟩ := val _ _ _ _ hr hz
    exact ⟨⟨v, e, q1.1, Or.inr (Or.inr (Or.inr ⟨by omega, q1.2⟩))⟩, rest _ (.head _) hd hs⟩
  · cases ho
