theorem dJxdca23_of_064ba_0 : decode cJxdca23_of_064ba 0 = .ok (.iload_n 0, 1) := by decide +kernel
theorem dJxdca23_of_064ba_1 : decode cJxdca23_of_064ba 1 = .ok (.bipush 8, 2) := by decide +kernel
theorem dJxdca23_of_064ba_3 : decode cJxdca23_of_064ba 3 = .ok (.iushr, 1) := by decide +kernel
theorem dJxdca23_of_064ba_4 : decode cJxdca23_of_064ba 4 = .ok (.ifCond .ne 7, 3) := by decide +kernel
theorem dJxdca23_of_064ba_7 : decode cJxdca23_of_064ba 7 = .ok (.getstatic 13, 3) := by decide +kernel
theorem dJxdca23_of_064ba_10 : decode cJxdca23_of_064ba 10 = .ok (.areturn, 1) := by decide +kernel
theorem dJxdca23_of_064ba_11 : decode cJxdca23_of_064ba 11 = .ok (.iload_n 0, 1) := by decide +kernel
theorem dJxdca23_of_064ba_12 : decode cJxdca23_of_064ba 12 = .ok (.bipush 16, 2) := by decide +kernel
theorem dJxdca23_of_064ba_14 : decode cJxdca23_of_064ba 14 = .ok (.iushr, 1) := by decide +kernel
theorem dJxdca23_of_064ba_15 : decode cJxdca23_of_064ba 15 = .ok (.tableswitch 117 0 16 #[81, 87, 93, 99, 117, 117, 117, 117, 117, 117, 117, 117, 117, 117, 105, 111, 111], 81) := by decide +kernel
theorem dJxdca23_of_064ba_96 : decode cJxdca23_of_064ba 96 = .ok (.getstatic 19, 3) := by decide +kernel
theorem dJxdca23_of_064ba_99 : decode cJxdca23_of_064ba 99 = .ok (.goto 36, 3) := by decide +kernel
theorem dJxdca23_of_064ba_102 : decode cJxdca23_of_064ba 102 = .ok (.getstatic 24, 3) := by decide +kernel
theorem dJxdca23_of_064ba_105 : decode cJxdca23_of_064ba 105 = .ok (.goto 30, 3) := by decide +kernel
theorem dJxdca23_of_064ba_108 : decode cJxdca23_of_064ba 108 = .ok (.getstatic 29, 3) := by decide +kernel
theorem dJxdca23_of_064ba_111 : decode cJxdca23_of_064ba 111 = .ok (.goto 24, 3) := by decide +kernel
theorem dJxdca23_of_064ba_114 : decode cJxdca23_of_064ba 114 = .ok (.getstatic 32, 3) := by decide +kernel
theorem dJxdca23_of_064ba_117 : decode cJxdca23_of_064ba 117 = .ok (.goto 18, 3) := by decide +kernel
theorem dJxdca23_of_064ba_120 : decode cJxdca23_of_064ba 120 = .ok (.getstatic 35, 3) := by decide +kernel
theorem dJxdca23_of_064ba_123 : decode cJxdca23_of_064ba 123 = .ok (.goto 12, 3) := by decide +kernel
theorem dJxdca23_of_064ba_126 : decode cJxdca23_of_064ba 126 = .ok (.getstatic 38, 3) := by decide +kernel
theorem dJxdca23_of_064ba_129 : decode cJxdca23_of_064ba 129 = .ok (.goto 6, 3) := by decide +kernel
theorem dJxdca23_of_064ba_132 : decode cJxdca23_of_064ba 132 = .ok (.getstatic 41, 3) := by decide +kernel
theorem dJxdca23_of_064ba_135 : decode cJxdca23_of_064ba 135 = .ok (.areturn, 1) := by decide +kernel
theorem dJ12_digit_7cf53_0 : decode cJ12_digit_7cf53 0 = .ok (.getstatic 25, 3) := by decide +kernel
theorem dJ12_digit_7cf53_3 : decode cJ12_digit_7cf53 3 = .ok (.iload_n 1, 1) := by decide +kernel
theorem dJ12_digit_7cf53_4 : decode cJ12_digit_7cf53 4 = .ok (.baload, 1) := by decide +kernel
theorem dJ12_digit_7cf53_5 : decode cJ12_digit_7cf53 5 = .ok (.istore_n 3, 1) := by decide +kernel
theorem dJ12_digit_7cf53_6 : decode cJ12_digit_7cf53 6 = .ok (.iload_n 3, 1) := by decide +kernel
theorem dJ12_digit_7cf53_7 : decode cJ12_digit_7cf53 7 = .ok (.ifCond .lt 23, 3) := by decide +kernel
theorem dJ12_digit_7cf53_10 : decode cJ12_digit_7cf53 10 = .ok (.iload_n 3, 1) := by decide +kernel
theorem dJ12_digit_7cf53_11 : decode cJ12_digit_7cf53 11 = .ok (.iload_n 2, 1) := by decide +kernel
theorem dJ12_digit_7cf53_12 : decode cJ12_digit_7cf53 12 = .ok (.if_icmp .ge 18, 3) := by decide +kernel
theorem dJ12_digit_7cf53_15 : decode cJ12_digit_7cf53 15 = .ok (.iload_n 2, 1) := by decide +kernel
theorem dJ12_digit_7cf53_16 : decode cJ12_digit_7cf53 16 = .ok (.iconst 2, 1) := by decide +kernel
theorem dJ12_digit_7cf53_17 : decode cJ12_digit_7cf53 17 = .ok (.if_icmp .lt 13, 3) := by decide +kernel
theorem dJ12_digit_7cf53_20 : decode cJ12_digit_7cf53 20 = .ok (.iload_n 2, 1) := by decide +kernel
theorem dJ12_digit_7cf53_21 : decode cJ12_digit_7cf53 21 = .ok (.bipush 36, 2) := by decide +kernel
theorem dJ12_digit_7cf53_23 : decode cJ12_digit_7cf53 23 = .ok (.if_icmp .gt 7, 3) := by decide +kernel
theorem dJ12_digit_7cf53_26 : decode cJ12_digit_7cf53 26 = .ok (.iload_n 3, 1) := by decide +kernel
theorem dJ12_digit_7cf53_27 : decode cJ12_digit_7cf53 27 = .ok (.goto 4, 3) := by decide +kernel
theorem dJ12_digit_7cf53_30 : decode cJ12_digit_7cf53 30 = .ok (.iconst (-1), 1) := by decide +kernel
theorem dJ12_digit_7cf53_31 : decode cJ12_digit_7cf53 31 = .ok (.ireturn, 1) := by decide +kernel
theorem dJ11_digit_7cf53_0 : decode cJ11_digit_7cf53 0 = .ok (.iload_n 0, 1) := by decide +kernel
theorem dJ11_digit_7cf53_1 : decode cJ11_digit_7cf53 1 = .ok (.invokestatic 158, 3) := by decide +kernel
theorem dJ11_digit_7cf53_4 : decode cJ11_digit_7cf53 4 = .ok (.iload_n 0, 1) := by decide +kernel
theorem dJ11_digit_7cf53_5 : decode cJ11_digit_7cf53 5 = .ok (.iload_n 1, 1) := by decide +kernel
theorem dJ11_digit_7cf53_6 : decode cJ11_digit_7cf53 6 = .ok (.invokevirtual 252, 3) := by decide +kernel
theorem dJ11_digit_7cf53_9 : decode cJ11_digit_7cf53 9 = .ok (.ireturn, 1) := by decide +kernel
theorem dJ11_digit_89a06_0 : decode cJ11_digit_89a06 0 = .ok (.iload_n 0, 1) := by decide +kernel
theorem dJ11_digit_89a06_1 : decode cJ11_digit_89a06 1 = .ok (.iload_n 1, 1) := by decide +kernel
theorem dJ11_digit_89a06_2 : decode cJ11_digit_89a06 2 = .ok (.invokestatic 248, 3) := by decide +kernel
theorem dJ11_digit_89a06_5 : decode cJ11_digit_89a06 5 = .ok (.ireturn, 1) := by decide +kernel
theorem dJ6_parseInt_ccf00_0 : decode cJ6_parseInt_ccf00 0 = .ok (.aload_n 0, 1) := by decide +kernel
theorem dJ6_parseInt_ccf00_1 : decode cJ6_parseInt_ccf00 1 = .ok (.ifnonnull 13, 3) := by decide +kernel
theorem dJ6_parseInt_ccf00_4 : decode cJ6_parseInt_ccf00 4 = .ok (.new 90, 3) := by decide +kernel
theorem dJ6_parseInt_ccf00_7 : decode cJ6_parseInt_ccf00 7 = .ok (.dup, 1) := by decide +kernel
theorem dJ6_parseInt_ccf00_8 : decode cJ6_parseInt_ccf00 8 = .ok (.ldc 92, 2) := by decide +kernel
theorem dJ6_parseInt_ccf00_10 : decode cJ6_parseInt_ccf00 10 = .ok (.invokespecial 94, 3) := by decide +kernel
theorem dJ6_parseInt_ccf00_13 : decode cJ6_parseInt_ccf00 13 = .ok (.athrow, 1) := by decide +kernel
theorem dJ6_parseInt_ccf00_14 : decode cJ6_parseInt_ccf00 14 = .ok (.iload_n 1, 1) := by decide +kernel
theorem dJ6_parseInt_ccf00_15 : decode cJ6_parseInt_ccf00 15 = .ok (.iconst 2, 1) := by decide +kernel
theorem dJ6_parseInt_ccf00_16 : decode cJ6_parseInt_ccf00 16 = .ok (.if_icmp .ge 35, 3) := by decide +kernel
theorem dJ6_parseInt_ccf00_19 : decode cJ6_parseInt_ccf00 19 = .ok (.new 90, 3) := by decide +kernel
theorem dJ6_parseInt_ccf00_22 : decode cJ6_parseInt_ccf00 22 = .ok (.dup, 1) := by decide +kernel
theorem dJ6_parseInt_ccf00_23 : decode cJ6_parseInt_ccf00 23 = .ok (.new 97, 3) := by decide +kernel
theorem dJ6_parseInt_ccf00_26 : decode cJ6_parseInt_ccf00 26 = .ok (.dup, 1) := by decide +kernel
theorem dJ6_parseInt_ccf00_27 : decode cJ6_parseInt_ccf00 27 = .ok (.invokespecial 99, 3) := by decide +kernel
theorem dJ6_parseInt_ccf00_30 : decode cJ6_parseInt_ccf00 30 = .ok (.ldc 102, 2) := by decide +kernel
theorem dJ6_parseInt_ccf00_32 : decode cJ6_parseInt_ccf00 32 = .ok (.invokevirtual 104, 3) := by decide +kernel
theorem dJ6_parseInt_ccf00_35 : decode cJ6_parseInt_ccf00 35 = .ok (.iload_n 1, 1) := by decide +kernel
theorem dJ6_parseInt_ccf00_36 : decode cJ6_parseInt_ccf00 36 = .ok (.invokevirtual 108, 3) := by decide +kernel
theorem dJ6_parseInt_ccf00_39 : decode cJ6_parseInt_ccf00 39 = .ok (.ldc 111, 2) := by decide +kernel
theorem dJ6_parseInt_ccf00_41 : decode cJ6_parseInt_ccf00 41 = .ok (.invokevirtual 104, 3) := by decide +kernel
theorem dJ6_parseInt_ccf00_44 : decode cJ6_parseInt_ccf00 44 = .ok (.invokevirtual 113, 3) := by decide +kernel
theorem dJ6_parseInt_ccf00_47 : decode cJ6_parseInt_ccf00 47 = .ok (.invokespecial 94, 3) := by decide +kernel
theorem dJ6_parseInt_ccf00_50 : decode cJ6_parseInt_ccf00 50 = .ok (.athrow, 1) := by decide +kernel
theorem dJ6_parseInt_ccf00_51 : decode cJ6_parseInt_ccf00 51 = .ok (.iload_n 1, 1) := by decide +kernel
theorem dJ6_parseInt_ccf00_52 : decode cJ6_parseInt_ccf00 52 = .ok (.bipush 36, 2) := by decide +kernel
theorem dJ6_parseInt_ccf00_54 : decode cJ6_parseInt_ccf00 54 = .ok (.if_icmp .le 35, 3) := by decide +kernel
theorem dJ6_parseInt_ccf00_57 : decode cJ6_parseInt_ccf00 57 = .ok (.new 90, 3) := by decide +kernel
theorem dJ6_parseInt_ccf00_60 : decode cJ6_parseInt_ccf00 60 = .ok (.dup, 1) := by decide +kernel
theorem dJ6_parseInt_ccf00_61 : decode cJ6_parseInt_ccf00 61 = .ok (.new 97, 3) := by decide +kernel
theorem dJ6_parseInt_ccf00_64 : decode cJ6_parseInt_ccf00 64 = .ok (.dup, 1) := by decide +kernel
theorem dJ6_parseInt_ccf00_65 : decode cJ6_parseInt_ccf00 65 = .ok (.invokespecial 99, 3) := by decide +kernel
theorem dJ6_parseInt_ccf00_68 : decode cJ6_parseInt_ccf00 68 = .ok (.ldc 102, 2) := by decide +kernel
theorem dJ6_parseInt_ccf00_70 : decode cJ6_parseInt_ccf00 70 = .ok (.invokevirtual 104, 3) := by decide +kernel
theorem dJ6_parseInt_ccf00_73 : decode cJ6_parseInt_ccf00 73 = .ok (.iload_n 1, 1) := by decide +kernel
theorem dJ6_parseInt_ccf00_74 : decode cJ6_parseInt_ccf00 74 = .ok (.invokevirtual 108, 3) := by decide +kernel
theorem dJ6_parseInt_ccf00_77 : decode cJ6_parseInt_ccf00 77 = .ok (.ldc 116, 2) := by decide +kernel
theorem dJ6_parseInt_ccf00_79 : decode cJ6_parseInt_ccf00 79 = .ok (.invokevirtual 104, 3) := by decide +kernel
theorem dJ6_parseInt_ccf00_82 : decode cJ6_parseInt_ccf00 82 = .ok (.invokevirtual 113, 3) := by decide +kernel
theorem dJ6_parseInt_ccf00_85 : decode cJ6_parseInt_ccf00 85 = .ok (.invokespecial 94, 3) := by decide +kernel
theorem dJ6_parseInt_ccf00_88 : decode cJ6_parseInt_ccf00 88 = .ok (.athrow, 1) := by decide +kernel
theorem dJ6_parseInt_ccf00_89 : decode cJ6_parseInt_ccf00 89 = .ok (.iconst 0, 1) := by decide +kernel
theorem dJ6_parseInt_ccf00_90 : decode cJ6_parseInt_ccf00 90 = .ok (.istore_n 2, 1) := by decide +kernel
theorem dJ6_parseInt_ccf00_91 : decode cJ6_parseInt_ccf00 91 = .ok (.iconst 0, 1) := by decide +kernel
theorem dJ6_parseInt_ccf00_92 : decode cJ6_parseInt_ccf00 92 = .ok (.istore_n 3, 1) := by decide +kernel
theorem dJ6_parseInt_ccf00_93 : decode cJ6_parseInt_ccf00 93 = .ok (.aload_n 0, 1) := by decide +kernel
theorem dJ6_parseInt_ccf00_94 : decode cJ6_parseInt_ccf00 94 = .ok (.invokevirtual 118, 3) := by decide +kernel
theorem dJ6_parseInt_ccf00_97 : decode cJ6_parseInt_ccf00 97 = .ok (.istore 4, 2) := by decide +kernel
theorem dJ6_parseInt_ccf00_99 : decode cJ6_parseInt_ccf00 99 = .ok (.ldc 122, 2) := by decide +kernel
theorem dJ6_parseInt_ccf00_101 : decode cJ6_parseInt_ccf00 101 = .ok (.istore 5, 2) := by decide +kernel
theorem dJ6_parseInt_ccf00_103 : decode cJ6_parseInt_ccf00 103 = .ok (.iload 4, 2) := by decide +kernel
theorem dJ6_parseInt_ccf00_105 : decode cJ6_parseInt_ccf00 105 = .ok (.ifCond .le 153, 3) := by decide +kernel
theorem dJ6_parseInt_ccf00_108 : decode cJ6_parseInt_ccf00 108 = .ok (.aload_n 0, 1) := by decide +kernel
theorem dJ6_parseInt_ccf00_109 : decode cJ6_parseInt_ccf00 109 = .ok (.iconst 0, 1) := by decide +kernel
theorem dJ6_parseInt_ccf00_110 : decode cJ6_parseInt_ccf00 110 = .ok (.invokevirtual 123, 3) := by decide +kernel
theorem dJ6_parseInt_ccf00_113 : decode cJ6_parseInt_ccf00 113 = .ok (.istore 6, 2) := by decide +kernel
theorem dJ6_parseInt_ccf00_115 : decode cJ6_parseInt_ccf00 115 = .ok (.iload 6, 2) := by decide +kernel
theorem dJ6_parseInt_ccf00_117 : decode cJ6_parseInt_ccf00 117 = .ok (.bipush 48, 2) := by decide +kernel
theorem dJ6_parseInt_ccf00_119 : decode cJ6_parseInt_ccf00 119 = .ok (.if_icmp .ge 47, 3) := by decide +kernel
theorem dJ6_parseInt_ccf00_122 : decode cJ6_parseInt_ccf00 122 = .ok (.iload 6, 2) := by decide +kernel
theorem dJ6_parseInt_ccf00_124 : decode cJ6_parseInt_ccf00 124 = .ok (.bipush 45, 2) := by decide +kernel
theorem dJ6_parseInt_ccf00_126 : decode cJ6_parseInt_ccf00 126 = .ok (.if_icmp .ne 12, 3) := by decide +kernel
theorem dJ6_parseInt_ccf00_129 : decode cJ6_parseInt_ccf00 129 = .ok (.iconst 1, 1) := by decide +kernel
theorem dJ6_parseInt_ccf00_130 : decode cJ6_parseInt_ccf00 130 = .ok (.istore_n 2, 1) := by decide +kernel
theorem dJ6_parseInt_ccf00_131 : decode cJ6_parseInt_ccf00 131 = .ok (.ldc 127, 2) := by decide +kernel
theorem dJ6_parseInt_ccf00_133 : decode cJ6_parseInt_ccf00 133 = .ok (.istore 5, 2) := by decide +kernel
theorem dJ6_parseInt_ccf00_135 : decode cJ6_parseInt_ccf00 135 = .ok (.goto 16, 3) := by decide +kernel
theorem dJ6_parseInt_ccf00_138 : decode cJ6_parseInt_ccf00 138 = .ok (.iload 6, 2) := by decide +kernel
theorem dJ6_parseInt_ccf00_140 : decode cJ6_parseInt_ccf00 140 = .ok (.bipush 43, 2) := by decide +kernel
theorem dJ6_parseInt_ccf00_142 : decode cJ6_parseInt_ccf00 142 = .ok (.if_icmp .eq 9, 3) := by decide +kernel
theorem dJ6_parseInt_ccf00_145 : decode cJ6_parseInt_ccf00 145 = .ok (.aload_n 0, 1) := by decide +kernel
theorem dJ6_parseInt_ccf00_146 : decode cJ6_parseInt_ccf00 146 = .ok (.iload_n 1, 1) := by decide +kernel
theorem dJ6_parseInt_ccf00_147 : decode cJ6_parseInt_ccf00 147 = .ok (.invokestatic 128, 3) := by decide +kernel
theorem dJ6_parseInt_ccf00_150 : decode cJ6_parseInt_ccf00 150 = .ok (.athrow, 1) := by decide +kernel
theorem dJ6_parseInt_ccf00_151 : decode cJ6_parseInt_ccf00 151 = .ok (.iload 4, 2) := by decide +kernel
theorem dJ6_parseInt_ccf00_153 : decode cJ6_parseInt_ccf00 153 = .ok (.iconst 1, 1) := by decide +kernel
theorem dJ6_parseInt_ccf00_154 : decode cJ6_parseInt_ccf00 154 = .ok (.if_icmp .ne 9, 3) := by decide +kernel
theorem dJ6_parseInt_ccf00_157 : decode cJ6_parseInt_ccf00 157 = .ok (.aload_n 0, 1) := by decide +kernel
theorem dJ6_parseInt_ccf00_158 : decode cJ6_parseInt_ccf00 158 = .ok (.iload_n 1, 1) := by decide +kernel
theorem dJ6_parseInt_ccf00_159 : decode cJ6_parseInt_ccf00 159 = .ok (.invokestatic 128, 3) := by decide +kernel
theorem dJ6_parseInt_ccf00_162 : decode cJ6_parseInt_ccf00 162 = .ok (.athrow, 1) := by decide +kernel
theorem dJ6_parseInt_ccf00_163 : decode cJ6_parseInt_ccf00 163 = .ok (.iinc 3 1, 3) := by decide +kernel
theorem dJ6_parseInt_ccf00_166 : decode cJ6_parseInt_ccf00 166 = .ok (.iload 5, 2) := by decide +kernel
theorem dJ6_parseInt_ccf00_168 : decode cJ6_parseInt_ccf00 168 = .ok (.iload_n 1, 1) := by decide +kernel
theorem dJ6_parseInt_ccf00_169 : decode cJ6_parseInt_ccf00 169 = .ok (.idiv, 1) := by decide +kernel
theorem dJ6_parseInt_ccf00_170 : decode cJ6_parseInt_ccf00 170 = .ok (.istore 7, 2) := by decide +kernel
theorem dJ6_parseInt_ccf00_172 : decode cJ6_parseInt_ccf00 172 = .ok (.iconst 0, 1) := by decide +kernel
theorem dJ6_parseInt_ccf00_173 : decode cJ6_parseInt_ccf00 173 = .ok (.istore 8, 2) := by decide +kernel
theorem dJ6_parseInt_ccf00_175 : decode cJ6_parseInt_ccf00 175 = .ok (.iload_n 3, 1) := by decide +kernel
theorem dJ6_parseInt_ccf00_176 : decode cJ6_parseInt_ccf00 176 = .ok (.iload 4, 2) := by decide +kernel
theorem dJ6_parseInt_ccf00_178 : decode cJ6_parseInt_ccf00 178 = .ok (.if_icmp .ge 67, 3) := by decide +kernel
theorem dJ6_parseInt_ccf00_181 : decode cJ6_parseInt_ccf00 181 = .ok (.aload_n 0, 1) := by decide +kernel
theorem dJ6_parseInt_ccf00_182 : decode cJ6_parseInt_ccf00 182 = .ok (.iload_n 3, 1) := by decide +kernel
theorem dJ6_parseInt_ccf00_183 : decode cJ6_parseInt_ccf00 183 = .ok (.iinc 3 1, 3) := by decide +kernel
theorem dJ6_parseInt_ccf00_186 : decode cJ6_parseInt_ccf00 186 = .ok (.invokevirtual 123, 3) := by decide +kernel
theorem dJ6_parseInt_ccf00_189 : decode cJ6_parseInt_ccf00 189 = .ok (.iload_n 1, 1) := by decide +kernel
theorem dJ6_parseInt_ccf00_190 : decode cJ6_parseInt_ccf00 190 = .ok (.invokestatic 132, 3) := by decide +kernel
theorem dJ6_parseInt_ccf00_193 : decode cJ6_parseInt_ccf00 193 = .ok (.istore 9, 2) := by decide +kernel
theorem dJ6_parseInt_ccf00_195 : decode cJ6_parseInt_ccf00 195 = .ok (.iload 9, 2) := by decide +kernel
theorem dJ6_parseInt_ccf00_197 : decode cJ6_parseInt_ccf00 197 = .ok (.ifCond .lt 10, 3) := by decide +kernel
theorem dJ6_parseInt_ccf00_200 : decode cJ6_parseInt_ccf00 200 = .ok (.iload 8, 2) := by decide +kernel
theorem dJ6_parseInt_ccf00_202 : decode cJ6_parseInt_ccf00 202 = .ok (.iload 7, 2) := by decide +kernel
theorem dJ6_parseInt_ccf00_204 : decode cJ6_parseInt_ccf00 204 = .ok (.if_icmp .ge 9, 3) := by decide +kernel
theorem dJ6_parseInt_ccf00_207 : decode cJ6_parseInt_ccf00 207 = .ok (.aload_n 0, 1) := by decide +kernel
theorem dJ6_parseInt_ccf00_208 : decode cJ6_parseInt_ccf00 208 = .ok (.iload_n 1, 1) := by decide +kernel
theorem dJ6_parseInt_ccf00_209 : decode cJ6_parseInt_ccf00 209 = .ok (.invokestatic 128, 3) := by decide +kernel
theorem dJ6_parseInt_ccf00_212 : decode cJ6_parseInt_ccf00 212 = .ok (.athrow, 1) := by decide +kernel
theorem dJ6_parseInt_ccf00_213 : decode cJ6_parseInt_ccf00 213 = .ok (.iload 8, 2) := by decide +kernel
theorem dJ6_parseInt_ccf00_215 : decode cJ6_parseInt_ccf00 215 = .ok (.iload_n 1, 1) := by decide +kernel
theorem dJ6_parseInt_ccf00_216 : decode cJ6_parseInt_ccf00 216 = .ok (.imul, 1) := by decide +kernel
theorem dJ6_parseInt_ccf00_217 : decode cJ6_parseInt_ccf00 217 = .ok (.istore 8, 2) := by decide +kernel
theorem dJ6_parseInt_ccf00_219 : decode cJ6_parseInt_ccf00 219 = .ok (.iload 8, 2) := by decide +kernel
theorem dJ6_parseInt_ccf00_221 : decode cJ6_parseInt_ccf00 221 = .ok (.iload 5, 2) := by decide +kernel
theorem dJ6_parseInt_ccf00_223 : decode cJ6_parseInt_ccf00 223 = .ok (.iload 9, 2) := by decide +kernel
theorem dJ6_parseInt_ccf00_225 : decode cJ6_parseInt_ccf00 225 = .ok (.iadd, 1) := by decide +kernel
theorem dJ6_parseInt_ccf00_226 : decode cJ6_parseInt_ccf00 226 = .ok (.if_icmp .ge 9, 3) := by decide +kernel
theorem dJ6_parseInt_ccf00_229 : decode cJ6_parseInt_ccf00 229 = .ok (.aload_n 0, 1) := by decide +kernel
theorem dJ6_parseInt_ccf00_230 : decode cJ6_parseInt_ccf00 230 = .ok (.iload_n 1, 1) := by decide +kernel
theorem dJ6_parseInt_ccf00_231 : decode cJ6_parseInt_ccf00 231 = .ok (.invokestatic 128, 3) := by decide +kernel
theorem dJ6_parseInt_ccf00_234 : decode cJ6_parseInt_ccf00 234 = .ok (.athrow, 1) := by decide +kernel
theorem dJ6_parseInt_ccf00_235 : decode cJ6_parseInt_ccf00 235 = .ok (.iload 8, 2) := by decide +kernel
theorem dJ6_parseInt_ccf00_237 : decode cJ6_parseInt_ccf00 237 = .ok (.iload 9, 2) := by decide +kernel
theorem dJ6_parseInt_ccf00_239 : decode cJ6_parseInt_ccf00 239 = .ok (.isub, 1) := by decide +kernel
theorem dJ6_parseInt_ccf00_240 : decode cJ6_parseInt_ccf00 240 = .ok (.istore 8, 2) := by decide +kernel
theorem dJ6_parseInt_ccf00_242 : decode cJ6_parseInt_ccf00 242 = .ok (.goto (-67), 3) := by decide +kernel
theorem dJ6_parseInt_ccf00_245 : decode cJ6_parseInt_ccf00 245 = .ok (.iload_n 2, 1) := by decide +kernel
theorem dJ6_parseInt_ccf00_246 : decode cJ6_parseInt_ccf00 246 = .ok (.ifCond .eq 8, 3) := by decide +kernel
theorem dJ6_parseInt_ccf00_249 : decode cJ6_parseInt_ccf00 249 = .ok (.iload 8, 2) := by decide +kernel
theorem dJ6_parseInt_ccf00_251 : decode cJ6_parseInt_ccf00 251 = .ok (.goto 6, 3) := by decide +kernel
theorem dJ6_parseInt_ccf00_254 : decode cJ6_parseInt_ccf00 254 = .ok (.iload 8, 2) := by decide +kernel
theorem dJ6_parseInt_ccf00_256 : decode cJ6_parseInt_ccf00 256 = .ok (.ineg, 1) := by decide +kernel
theorem dJ6_parseInt_ccf00_257 : decode cJ6_parseInt_ccf00 257 = .ok (.ireturn, 1) := by decide +kernel
theorem dJ6_parseInt_ccf00_258 : decode cJ6_parseInt_ccf00 258 = .ok (.aload_n 0, 1) := by decide +kernel
theorem dJ6_parseInt_ccf00_259 : decode cJ6_parseInt_ccf00 259 = .ok (.iload_n 1, 1) := by decide +kernel
theorem dJ6_parseInt_ccf00_260 : decode cJ6_parseInt_ccf00 260 = .ok (.invokestatic 128, 3) := by decide +kernel
theorem dJ6_parseInt_ccf00_263 : decode cJ6_parseInt_ccf00 263 = .ok (.athrow, 1) := by decide +kernel
theorem dJ6_parseInt_2f485_0 : decode cJ6_parseInt_2f485 0 = .ok (.aload_n 0, 1) := by decide +kernel
theorem dJ6_parseInt_2f485_1 : decode cJ6_parseInt_2f485 1 = .ok (.bipush 10, 2) := by decide +kernel
theorem dJ6_parseInt_2f485_3 : decode cJ6_parseInt_2f485 3 = .ok (.invokestatic 156, 3) := by decide +kernel
theorem dJ6_parseInt_2f485_6 : decode cJ6_parseInt_2f485 6 = .ok (.ireturn, 1) := by decide +kernel
section SITES
variable {p : Program} {l : Launch} {e : Env} {R : Room} {s : State} {m : MethodId} {args : Array Value} {below : List Frame} {meth : Method} {c : Code} {H : Heap} {locs : List Loc} {cells slots : Nat} {Q : State → Prop}
variable {pc : Nat} {ls : Array Slot} {rest : List Value} {D : va_G} {ar : Nat → ClassId} {κ : Nat → Nat} {A : Nat → Prop} {a : Nat} {H0 : Heap} {G : gW} {nz nL : Nat} {cc : ByteArray}
theorem m_6_174 : (Cond.fieldLink RJxdca23 13 "java/lang/CharacterDataLatin1" "instance" "Ljava/lang/CharacterDataLatin1;") ∈ lwA := lwA_mk (ck_6 _ (List.mem_of_getElem? (i := 174) rfl)) rfl
theorem m_6_182 : (Cond.fieldLink RJ12 25 "java/lang/CharacterDataLatin1" "DIGITS" "[B") ∈ lwA := lwA_mk (ck_6 _ (List.mem_of_getElem? (i := 182) rfl)) rfl
theorem m_6_173 : (Cond.code yJxdca23_of_064ba cJxdca23_of_064ba 1 (some (.object "java/lang/CharacterData"))) ∈ lwA := lwA_mk (ck_6 _ (List.mem_of_getElem? (i := 173) rfl)) rfl
theorem m_1_34 : (Cond.initialized RJxdca23) ∈ lwA := lwA_mk (ck_1 _ (List.mem_of_getElem? (i := 34) rfl)) rfl
theorem m_6_171 : (Cond.methodLink RJ11 158 yJxdca23_of_064ba) ∈ lwA := lwA_mk (ck_6 _ (List.mem_of_getElem? (i := 171) rfl)) rfl
theorem m_6_172 : (Cond.static yJxdca23_of_064ba) ∈ lwA := lwA_mk (ck_6 _ (List.mem_of_getElem? (i := 172) rfl)) rfl
theorem k_RJ11_158 {args : Array Value} {s : State} {R rm : Room} (hts : ∀ w ∈ lwA, w.before args s = true) (hR : rm.frames + 1 ≤ R.frames ∧ 8 + (1 + 11) + rm.locals ≤ R.locals) : CallB R s args RJ11 158 yJxdca23_of_064ba cJxdca23_of_064ba 1 (some (.object "java/lang/CharacterData")) (lwC yJxdca23_of_064ba cJxdca23_of_064ba 1 (some (.object "java/lang/CharacterData"))) rm rm.cells rm.slots 1 ∧ (Cond.static yJxdca23_of_064ba).before args s = true := va_cwS 1 hts (gdT m_6_171 m_6_172 m_1_34 m_6_173) rfl rfl rfl (by decide +kernel) hR
theorem m_6_181 : (Cond.code yJ12_digit_7cf53 cJ12_digit_7cf53 4 (some .int)) ∈ lwA := lwA_mk (ck_6 _ (List.mem_of_getElem? (i := 181) rfl)) rfl
theorem m_1_35 : (Cond.initialized RJ12) ∈ lwA := lwA_mk (ck_1 _ (List.mem_of_getElem? (i := 35) rfl)) rfl
theorem m_6_176 : (Cond.methodLink RJ11 252 ⟨"java/lang/CharacterData", "digit", "(II)I"⟩) ∈ lwA := lwA_mk (ck_6 _ (List.mem_of_getElem? (i := 176) rfl)) rfl
theorem m_6_180 : (Cond.instanceMethod yJ12_digit_7cf53) ∈ lwA := lwA_mk (ck_6 _ (List.mem_of_getElem? (i := 180) rfl)) rfl
theorem m_6_179 : (Cond.selects RJ12 ⟨"java/lang/CharacterData", "digit", "(II)I"⟩ yJ12_digit_7cf53) ∈ lwA := lwA_mk (ck_6 _ (List.mem_of_getElem? (i := 179) rfl)) rfl
theorem m_6_178 : (Cond.sameMethod "java/lang/CharacterData" "java/lang/CharacterData" "digit" "(II)I") ∈ lwA := lwA_mk (ck_6 _ (List.mem_of_getElem? (i := 178) rfl)) rfl
theorem kU_RJ11_252 {args : Array Value} {s : State} {R rm : Room} (hts : ∀ w ∈ lwA, w.before args s = true) (hz : va_Nw (.declares ⟨"java/lang/CharacterData", "digit", "(II)I"⟩) s) (hR : rm.frames + 1 ≤ R.frames ∧ 8 + (4 + 11) + rm.locals ≤ R.locals) : va_CU R s args RJ11 RJ12 "java/lang/CharacterData" 252 ⟨"java/lang/CharacterData", "digit", "(II)I"⟩ yJ12_digit_7cf53 cJ12_digit_7cf53 4 (some .int) (lwC yJ12_digit_7cf53 cJ12_digit_7cf53 4 (some .int)) rm rm.cells rm.slots 2 := va_cwA 2 hts (gdU m_6_176 m_6_178 m_6_179 m_6_180 m_1_35 m_6_181) rfl rfl rfl hz (by decide +kernel) hR
theorem m_6_170 : (Cond.code yJ11_digit_7cf53 cJ11_digit_7cf53 2 (some .int)) ∈ lwA := lwA_mk (ck_6 _ (List.mem_of_getElem? (i := 170) rfl)) rfl
theorem m_1_30 : (Cond.initialized RJ11) ∈ lwA := lwA_mk (ck_1 _ (List.mem_of_getElem? (i := 30) rfl)) rfl
theorem m_6_168 : (Cond.methodLink RJ11 248 yJ11_digit_7cf53) ∈ lwA := lwA_mk (ck_6 _ (List.mem_of_getElem? (i := 168) rfl)) rfl
theorem m_6_169 : (Cond.static yJ11_digit_7cf53) ∈ lwA := lwA_mk (ck_6 _ (List.mem_of_getElem? (i := 169) rfl)) rfl
theorem k_RJ11_248 {args : Array Value} {s : State} {R rm : Room} (hts : ∀ w ∈ lwA, w.before args s = true) (hR : rm.frames + 1 ≤ R.frames ∧ 8 + (2 + 11) + rm.locals ≤ R.locals) : CallB R s args RJ11 248 yJ11_digit_7cf53 cJ11_digit_7cf53 2 (some .int) (lwC yJ11_digit_7cf53 cJ11_digit_7cf53 2 (some .int)) rm rm.cells rm.slots 2 ∧ (Cond.static yJ11_digit_7cf53).before args s = true := cwS 2 hts (gdS m_6_168 m_6_169 m_1_30 m_6_170) rfl rfl rfl (by decide +kernel) hR
theorem m_6_147 : (Cond.methodLink RJ6 118 yJ0_length_8abf5) ∈ lwA := lwA_mk (ck_6 _ (List.mem_of_getElem? (i := 147) rfl)) rfl
theorem k_RJ6_118 {args : Array Value} {s : State} {R rm : Room} (hts : ∀ w ∈ lwA, w.before args s = true) (hR : rm.frames + 1 ≤ R.frames ∧ 8 + (1 + 11) + rm.locals ≤ R.locals) : CallW R s args RJ6 RJ0 118 yJ0_length_8abf5 cJ0_length_8abf5 1 (some .int) (lwC yJ0_length_8abf5 cJ0_length_8abf5 1 (some .int)) rm rm.cells rm.slots 0 := cwV 0 hts (gdV m_6_147 m_5_5 m_5_6 m_1_17 m_5_7) rfl rfl rfl (by decide +kernel) hR
theorem m_6_148 : (Cond.constant RJ6 122 (-2147483647)) ∈ lwA := lwA_mk (ck_6 _ (List.mem_of_getElem? (i := 148) rfl)) rfl
theorem m_5_163 : (Cond.code yJ0_charAt_5068e cJ0_charAt_5068e 2 (some .char)) ∈ lwA := lwA_mk (ck_5 _ (List.mem_of_getElem? (i := 163) rfl)) rfl
theorem m_6_149 : (Cond.methodLink RJ6 123 yJ0_charAt_5068e) ∈ lwA := lwA_mk (ck_6 _ (List.mem_of_getElem? (i := 149) rfl)) rfl
theorem m_5_161 : (Cond.instanceMethod yJ0_charAt_5068e) ∈ lwA := lwA_mk (ck_5 _ (List.mem_of_getElem? (i := 161) rfl)) rfl
theorem m_5_162 : (Cond.selects RJ0 yJ0_charAt_5068e yJ0_charAt_5068e) ∈ lwA := lwA_mk (ck_5 _ (List.mem_of_getElem? (i := 162) rfl)) rfl
theorem k_RJ6_123 {args : Array Value} {s : State} {R rm : Room} (hts : ∀ w ∈ lwA, w.before args s = true) (hR : rm.frames + 1 ≤ R.frames ∧ 8 + (2 + 11) + rm.locals ≤ R.locals) : CallW R s args RJ6 RJ0 123 yJ0_charAt_5068e cJ0_charAt_5068e 2 (some .char) (lwC yJ0_charAt_5068e cJ0_charAt_5068e 2 (some .char)) rm rm.cells rm.slots 1 := cwV 1 hts (gdV m_6_149 m_5_161 m_5_162 m_1_17 m_5_163) rfl rfl rfl (by decide +kernel) hR
theorem m_6_167 : (Cond.code yJ11_digit_89a06 cJ11_digit_89a06 2 (some .int)) ∈ lwA := lwA_mk (ck_6 _ (List.mem_of_getElem? (i := 167) rfl)) rfl
theorem m_6_165 : (Cond.methodLink RJ6 132 yJ11_digit_89a06) ∈ lwA := lwA_mk (ck_6 _ (List.mem_of_getElem? (i := 165) rfl)) rfl
theorem m_6_166 : (Cond.static yJ11_digit_89a06) ∈ lwA := lwA_mk (ck_6 _ (List.mem_of_getElem? (i := 166) rfl)) rfl
theorem k_RJ6_132 {args : Array Value} {s : State} {R rm : Room} (hts : ∀ w ∈ lwA, w.before args s = true) (hR : rm.frames + 1 ≤ R.frames ∧ 8 + (2 + 11) + rm.locals ≤ R.locals) : CallB R s args RJ6 132 yJ11_digit_89a06 cJ11_digit_89a06 2 (some .int) (lwC yJ11_digit_89a06 cJ11_digit_89a06 2 (some .int)) rm rm.cells rm.slots 2 ∧ (Cond.static yJ11_digit_89a06).before args s = true := va_cwS 2 hts (gdT m_6_165 m_6_166 m_1_30 m_6_167) rfl rfl rfl (by decide +kernel) hR
theorem m_6_124 : (Cond.code yJ6_parseInt_ccf00 cJ6_parseInt_ccf00 10 (some .int)) ∈ lwA := lwA_mk (ck_6 _ (List.mem_of_getElem? (i := 124) rfl)) rfl
theorem m_1_29 : (Cond.initialized RJ6) ∈ lwA := lwA_mk (ck_1 _ (List.mem_of_getElem? (i := 29) rfl)) rfl
theorem m_6_122 : (Cond.methodLink RJ6 156 yJ6_parseInt_ccf00) ∈ lwA := lwA_mk (ck_6 _ (List.mem_of_getElem? (i := 122) rfl)) rfl
theorem m_6_123 : (Cond.static yJ6_parseInt_ccf00) ∈ lwA := lwA_mk (ck_6 _ (List.mem_of_getElem? (i := 123) rfl)) rfl
theorem k_RJ6_156 {args : Array Value} {s : State} {R rm : Room} (hts : ∀ w ∈ lwA, w.before args s = true) (hR : rm.frames + 1 ≤ R.frames ∧ 8 + (10 + 11) + rm.locals ≤ R.locals) : CallB R s args RJ6 156 yJ6_parseInt_ccf00 cJ6_parseInt_ccf00 10 (some .int) (lwC yJ6_parseInt_ccf00 cJ6_parseInt_ccf00 10 (some .int)) rm rm.cells rm.slots 2 ∧ (Cond.static yJ6_parseInt_ccf00).before args s = true := cwS 2 hts (gdS m_6_122 m_6_123 m_1_29 m_6_124) rfl rfl rfl (by decide +kernel) hR
end SITES
theorem g_runU {p : Program} {l : Launch} {e : Env} {R : Room} {s : State} {m : MethodId} {args : Array Value} {below : List Frame} {meth : Method} {c : Code} {H : Heap} {locs : List Loc} {cells slots mc ms : Nat} {pc : Nat} {ls : Array Slot} {rest st0 : List Value} {D : va_G} {A : Nat → Prop} {nz : Nat} {G : gW} {ar : Nat → ClassId} {κ : Nat → Nat} {cc : ByteArray}
    {x y : MethodName} {bytes : ByteArray} {maxL nL n index b : Nat} {ret : Option FieldType} {rm : Room} {Qc : Array Value → State → Outcome → State → Prop} {free : Addr → Prop} {own C owner : String} {As : List Value} {lv : List (Nat × Value)} (S : CallFix p m c cc nL s args lwA own) (hE : g_E D vwCl (gT ar) (EX1 κ) A s s.heap) (w : g_S D vwCl A s.heap G H locs nz) (hl : lv_has ls nL lv) (hM : Met l y (lwC y bytes maxL ret) rm (g_Pc D vwCl (gT ar) (EX1 κ) G nz (.ref b :: As)) Qc mc ms free) (cw : va_CU R s args own C owner index x y bytes maxL ret (lwC y bytes maxL ret) rm mc ms n)
    (hr : ∃ cell : Cell, H[b]? = some cell ∧ cell.vm.isStatics = false ∧ s.vm.findClass C = some cell.cls) (hn : As.length = n) (hst : st0 = As.reverse ++ .ref b :: rest) (hW : (rest.map fun v => v.category).sum ≤ 8) (hdg : decode cc pc = .ok (.invokevirtual index, 3)) (hf : cells + mc ≤ R.cells ∧ slots + ms ≤ R.slots) :
    va_Run p l e R s m args below meth c H locs cells slots mc ms (F0 m pc ls st0) rest (Qc (Value.ref b :: As).toArray) free :=
  va_runU S hM cw ⟨g_blind (EX1_cl κ), hr, (g_preS (EX1_cl κ) w hE).2⟩ rfl hn hl.1 hst (lv_room hW) hdg hf
set_option maxHeartbeats 4000000 in
set_option maxRecDepth 100000 in
theorem j_of (l : Launch) (D : va_G) (ar : Nat → ClassId) (κ : Nat → Nat) (G : gW) (sz : Nat) (k0 : Nat) (h1 : 48 ≤ k0) (h2 : k0 < 58) : Met l yJxdca23_of_064ba (lwC yJxdca23_of_064ba cJxdca23_of_064ba 1 (some (.object "java/lang/CharacterData"))) (rD 1 0 0) (g_Pc D vwCl (gT ar) (EX1 κ) G sz [.int (nI k0)]) (g_Qq D vwCl (g_A G sz) (fun r u => r = some (κ 5) ∧ u = (G, sz))) 0 0 (g_A G sz) := by
  refine g_ofW (by decide +kernel) (Nat.le_of_ble_eq_true rfl) ?_
  intro p e s m below meth c ls S hr hlk hin hE w hl
  have hx := S.1
  have hb := S.2.1
  have hl : lv_has ls 1 [(0, .int (nI k0))] := hl
  refine lv_iload_n hx hb dJxdca23_of_064ba_0 rfl (lv_at hl 0 rfl) ?_
  refine lv_bipush (v := 8) hx hb dJxdca23_of_064ba_1 (by decide) ?_
  refine lv_iushr (v := 0) hx hb dJxdca23_of_064ba_3 (by rw [pk_ushrN (by omega) 8 8 (by decide), show k0 / 2 ^ 8 = 0 by omega]; rfl) ?_
  refine lv_if_ne (tgt := 11) hx hb dJxdca23_of_064ba_4 (by decide) (fun c => absurd (by decide) c) (fun _ => ?_)
  refine va_gets hx hb hE.2.2.2.2.2.2.2.2.1.1 w.2.2.1 S.2.2.2.1 (S.2.2.2.2 _ m_6_174) (fun _ h => h) dJxdca23_of_064ba_7 ?_
  exact g_qret (r := (some (κ 5))) hx hb hr (Or.inl ⟨_, rfl⟩) hlk w (Nat.le_of_ble_eq_true rfl) (Nat.le_of_ble_eq_true rfl) dJxdca23_of_064ba_10 ⟨rfl, rfl⟩
set_option maxHeartbeats 4000000 in
set_option maxRecDepth 100000 in
theorem j_digitL1 (l : Launch) (D : va_G) (ar : Nat → ClassId) (κ : Nat → Nat) (G : gW) (sz : Nat) (k0 : Nat) (h1 : 48 ≤ k0) (h2 : k0 < 58) : Met l yJ12_digit_7cf53 (lwC yJ12_digit_7cf53 cJ12_digit_7cf53 4 (some .int)) (rD 1 0 0) (g_Pc D vwCl (gT ar) (EX1 κ) G sz [.ref (κ 5), .int (nI k0), .int 10]) (g_Qi D vwCl (g_A G sz) (fun r u => r = nI (k0 - 48) ∧ u = (G, sz))) 0 0 (g_A G sz) := by
  refine g_ofW (by decide +kernel) (Nat.le_of_ble_eq_true rfl) ?_
  intro p e s m below meth c ls S hr hlk hin hE w hl
  have hx := S.1
  have hb := S.2.1
  have hl : lv_has ls 4 [(0, .ref (κ 5)), (1, .int (nI k0)), (2, .int 10)] := hl
  refine va_gets hx hb hE.2.2.2.2.2.2.2.2.2.1.1 w.2.2.1 S.2.2.2.1 (S.2.2.2.2 _ m_6_182) (fun _ h => h) dJ12_digit_7cf53_0 ?_
  refine lv_iload_n hx hb dJ12_digit_7cf53_3 rfl (lv_at hl 1 rfl) ?_
  refine va_tb (v := .int (dgN.getD k0 0)) hx hb hE.2.2.2.2.2.2.2.2.2.1.2 w.2.2.1 (vp_in_nI (n := k0) (by omega) (by decide)) (by rw [nI_clamp (by omega)]) dJ12_digit_7cf53_4 ?_
  rw [dg_e k0 h1 h2]
  refine lv_istore_n (lv' := [(3, .int (nI (k0 - 48))), (0, .ref (κ 5)), (1, .int (nI k0)), (2, .int 10)]) hx hb dJ12_digit_7cf53_5 rfl hl (by decide) rfl (fun ls hl => ?_)
  refine lv_iload_n hx hb dJ12_digit_7cf53_6 rfl (lv_at hl 0 rfl) ?_
  refine lv_if_lt (tgt := 30) hx hb dJ12_digit_7cf53_7 (by decide) (fun c_7 => absurd c_7 (nI_pos (by omega))) (fun c_7 => ?_)
  refine lv_iload_n hx hb dJ12_digit_7cf53_10 rfl (lv_at hl 0 rfl) ?_
  refine lv_iload_n hx hb dJ12_digit_7cf53_11 rfl (lv_at hl 3 rfl) ?_
  refine lv_icmp_ge (tgt := 30) hx hb dJ12_digit_7cf53_12 (by decide) (fun c_12 => absurd c_12 (nI_ge (a := k0 - 48) (b := 10) (by omega) (by decide))) (fun c_12 => ?_)
  refine lv_iload_n hx hb dJ12_digit_7cf53_15 rfl (lv_at hl 3 rfl) ?_
  refine lv_iconst (v := 2) hx hb dJ12_digit_7cf53_16 (by decide) ?_
  refine lv_icmp_lt (tgt := 30) hx hb dJ12_digit_7cf53_17 (by decide) (fun c => absurd c (by decide)) (fun _ => ?_)
  refine lv_iload_n hx hb dJ12_digit_7cf53_20 rfl (lv_at hl 3 rfl) ?_
  refine lv_bipush (v := 36) hx hb dJ12_digit_7cf53_21 (by decide) ?_
  refine lv_icmp_gt (tgt := 30) hx hb dJ12_digit_7cf53_23 (by decide) (fun c => absurd c (by decide)) (fun _ => ?_)
  refine lv_iload_n hx hb dJ12_digit_7cf53_26 rfl (lv_at hl 0 rfl) ?_
  refine lv_goto (tgt := 31) hx hb dJ12_digit_7cf53_27 (by decide) ?_
  exact g_iret hx hb hr hlk w (Nat.le_of_ble_eq_true rfl) (Nat.le_of_ble_eq_true rfl) dJ12_digit_7cf53_31 ⟨rfl, rfl⟩
set_option maxHeartbeats 4000000 in
set_option maxRecDepth 100000 in
theorem j_digit2 (l : Launch) (D : va_G) (ar : Nat → ClassId) (κ : Nat → Nat) (G : gW) (sz : Nat) (k0 : Nat) (h1 : 48 ≤ k0) (h2 : k0 < 58) : Met l yJ11_digit_7cf53 (lwC yJ11_digit_7cf53 cJ11_digit_7cf53 2 (some .int)) (rD 2 0 0) (g_Pc D vwCl (gT ar) (EX1 κ) G sz [.int (nI k0), .int 10]) (g_Qi D vwCl (g_A G sz) (fun r u => r = nI (k0 - 48) ∧ u = (G, sz))) 0 0 (g_A G sz) := by
  refine g_ofW (by decide +kernel) (Nat.le_of_ble_eq_true rfl) ?_
  intro p e s m below meth c ls S hr hlk hin hE w hl
  have hx := S.1
  have hb := S.2.1
  have hl : lv_has ls 2 [(0, .int (nI k0)), (1, .int 10)] := hl
  refine lv_iload_n hx hb dJ11_digit_7cf53_0 rfl (lv_at hl 0 rfl) ?_
  refine g_callq w (g_runS (As := [.int (nI k0)]) (rest := []) S hE w hl (j_of l D ar κ G sz k0 (by omega) (by omega)) (k_RJ11_158 S.2.2.2.2 ⟨Nat.le_of_ble_eq_true rfl, Nat.le_of_ble_eq_true rfl⟩) rfl rfl (Nat.le_of_ble_eq_true rfl) dJ11_digit_7cf53_1 ⟨Nat.le_of_ble_eq_true rfl, Nat.le_of_ble_eq_true rfl⟩) (fun r u H locs hp hnz w => ?_)
  obtain ⟨rfl, rfl⟩ := hp
  try dsimp only at w
  refine lv_iload_n hx hb dJ11_digit_7cf53_4 rfl (lv_at hl 0 rfl) ?_
  refine lv_iload_n hx hb dJ11_digit_7cf53_5 rfl (lv_at hl 1 rfl) ?_
  refine g_calli w (g_runU (As := [.int (nI k0), .int 10]) (rest := []) S hE w hl (j_digitL1 l D ar κ G sz k0 (by omega) (by omega)) (kU_RJ11_252 S.2.2.2.2 (hE.2.1.1 _ (ckN_1 _ (List.mem_of_getElem? (i := 26) rfl))) ⟨Nat.le_of_ble_eq_true rfl, Nat.le_of_ble_eq_true rfl⟩) (g_out hE.2.2.2.2.2.2.2.2.1.2 w) rfl rfl (Nat.le_of_ble_eq_true rfl) dJ11_digit_7cf53_6 ⟨Nat.le_of_ble_eq_true rfl, Nat.le_of_ble_eq_true rfl⟩) (fun r u H locs hp hnz w => ?_)
  obtain ⟨rfl, rfl⟩ := hp
  try dsimp only at w
  exact g_iret hx hb hr hlk w (Nat.le_of_ble_eq_true rfl) (Nat.le_of_ble_eq_true rfl) dJ11_digit_7cf53_9 ⟨rfl, rfl⟩
set_option maxHeartbeats 4000000 in
set_option maxRecDepth 100000 in
theorem j_digit1 (l : Launch) (D : va_G) (ar : Nat → ClassId) (κ : Nat → Nat) (G : gW) (sz : Nat) (k0 : Nat) (h1 : 48 ≤ k0) (h2 : k0 < 58) : Met l yJ11_digit_89a06 (lwC yJ11_digit_89a06 cJ11_digit_89a06 2 (some .int)) (rD 3 0 0) (g_Pc D vwCl (gT ar) (EX1 κ) G sz [.int (nI k0), .int 10]) (g_Qi D vwCl (g_A G sz) (fun r u => r = nI (k0 - 48) ∧ u = (G, sz))) 0 0 (g_A G sz) := by
  refine g_ofW (by decide +kernel) (Nat.le_of_ble_eq_true rfl) ?_
  intro p e s m below meth c ls S hr hlk hin hE w hl
  have hx := S.1
  have hb := S.2.1
  have hl : lv_has ls 2 [(0, .int (nI k0)), (1, .int 10)] := hl
  refine lv_iload_n hx hb dJ11_digit_89a06_0 rfl (lv_at hl 0 rfl) ?_
  refine lv_iload_n hx hb dJ11_digit_89a06_1 rfl (lv_at hl 1 rfl) ?_
  refine g_calli w (g_runS (As := [.int (nI k0), .int 10]) (rest := []) S hE w hl (j_digit2 l D ar κ G sz k0 (by omega) (by omega)) (k_RJ11_248 S.2.2.2.2 ⟨Nat.le_of_ble_eq_true rfl, Nat.le_of_ble_eq_true rfl⟩) rfl rfl (Nat.le_of_ble_eq_true rfl) dJ11_digit_89a06_2 ⟨Nat.le_of_ble_eq_true rfl, Nat.le_of_ble_eq_true rfl⟩) (fun r u H locs hp hnz w => ?_)
  obtain ⟨rfl, rfl⟩ := hp
  try dsimp only at w
  exact g_iret hx hb hr hlk w (Nat.le_of_ble_eq_true rfl) (Nat.le_of_ble_eq_true rfl) dJ11_digit_89a06_5 ⟨rfl, rfl⟩
set_option maxHeartbeats 4000000 in
set_option maxRecDepth 100000 in
theorem j_parse1 (l : Launch) (D : va_G) (ar : Nat → ClassId) (κ : Nat → Nat) (G : gW) (sz : Nat) (a : Nat) (v : Nat) (bs : List Int32) (d : Nat) (ht : TX ar κ G a v bs) (hA : Asc bs) (hL : bs.length = 1) (h0 : bs.getD 0 0 = nI (48 + d)) (hd : d < 10) : Met l yJ6_parseInt_ccf00 (lwC yJ6_parseInt_ccf00 cJ6_parseInt_ccf00 10 (some .int)) (rD 5 0 0) (g_Pc D vwCl (gT ar) (EX1 κ) G sz [.ref a, .int 10]) (g_Qi D vwCl (g_A G sz) (fun r u => r = pD1 d ∧ u = (G, sz))) 0 0 (g_A G sz) := by
  refine g_ofW (by decide +kernel) (Nat.le_of_ble_eq_true rfl) ?_
  intro p e s m below meth c ls S hr hlk hin hE w hl
  have hx := S.1
  have hb := S.2.1
  have hl : lv_has ls 10 [(0, .ref a), (1, .int 10)] := hl
  refine lv_aload_n hx hb dJ6_parseInt_ccf00_0 rfl (lv_at hl 0 rfl) ?_
  refine lv_ifnonnull (tgt := 14) hx hb dJ6_parseInt_ccf00_1 (by decide) ?_
  refine lv_iload_n hx hb dJ6_parseInt_ccf00_14 rfl (lv_at hl 1 rfl) ?_
  refine lv_iconst (v := 2) hx hb dJ6_parseInt_ccf00_15 (by decide) ?_
  refine lv_icmp_ge (tgt := 51) hx hb dJ6_parseInt_ccf00_16 (by decide) (fun _ => ?_) (fun c => absurd (by decide) c)
  refine lv_iload_n hx hb dJ6_parseInt_ccf00_51 rfl (lv_at hl 1 rfl) ?_
  refine lv_bipush (v := 36) hx hb dJ6_parseInt_ccf00_52 (by decide) ?_
  refine lv_icmp_le (tgt := 89) hx hb dJ6_parseInt_ccf00_54 (by decide) (fun _ => ?_) (fun c => absurd (by decide) c)
  refine lv_iconst (v := 0) hx hb dJ6_parseInt_ccf00_89 (by decide) ?_
  refine lv_istore_n (lv' := [(2, .int 0), (0, .ref a), (1, .int 10)]) hx hb dJ6_parseInt_ccf00_90 rfl hl (by decide) rfl (fun ls hl => ?_)
  refine lv_iconst (v := 0) hx hb dJ6_parseInt_ccf00_91 (by decide) ?_
  refine lv_istore_n (lv' := [(3, .int 0), (2, .int 0), (0, .ref a), (1, .int 10)]) hx hb dJ6_parseInt_ccf00_92 rfl hl (by decide) rfl (fun ls hl => ?_)
  refine lv_aload_n hx hb dJ6_parseInt_ccf00_93 rfl (lv_at hl 2 rfl) ?_
  refine g_calli w (g_runT (As := []) (rest := []) S hE w hl (j_length l D ar κ G sz a v bs ht) (k_RJ6_118 S.2.2.2.2  ⟨Nat.le_of_ble_eq_true rfl, Nat.le_of_ble_eq_true rfl⟩) ht rfl rfl (Nat.le_of_ble_eq_true rfl) dJ6_parseInt_ccf00_94 ⟨Nat.le_of_ble_eq_true rfl, Nat.le_of_ble_eq_true rfl⟩) (fun r u H locs hp hnz w => ?_)
  obtain ⟨rfl, rfl⟩ := hp
  try dsimp only at w
  refine lv_istore (lv' := [(4, .int (nI bs.length)), (3, .int 0), (2, .int 0), (0, .ref a), (1, .int 10)]) hx hb dJ6_parseInt_ccf00_97 hl (by decide) rfl (fun ls hl => ?_)
  refine lv_ldc hx hb S.2.2.2.1 (S.2.2.2.2 _ m_6_148) dJ6_parseInt_ccf00_99 ?_
  refine lv_istore (lv' := [(5, .int (-2147483647)), (4, .int (nI bs.length)), (3, .int 0), (2, .int 0), (0, .ref a), (1, .int 10)]) hx hb dJ6_parseInt_ccf00_101 hl (by decide) rfl (fun ls hl => ?_)
  refine lv_iload hx hb dJ6_parseInt_ccf00_103 (lv_at hl 1 rfl) ?_
  refine lv_if_le (tgt := 258) hx hb dJ6_parseInt_ccf00_105 (by decide) (fun c_105 => absurd c_105 (by rw [hL]; decide +kernel)) (fun c_105 => ?_)
  refine lv_aload_n hx hb dJ6_parseInt_ccf00_108 rfl (lv_at hl 4 rfl) ?_
  refine lv_iconst (v := 0) hx hb dJ6_parseInt_ccf00_109 (by decide) ?_
  refine g_calli w (g_runT (As := [.int 0]) (rest := []) S hE w hl (j_charAt l D ar κ G sz a v bs 0 ht hA (by omega) (by omega)) (k_RJ6_123 S.2.2.2.2  ⟨Nat.le_of_ble_eq_true rfl, Nat.le_of_ble_eq_true rfl⟩) ht rfl rfl (Nat.le_of_ble_eq_true rfl) dJ6_parseInt_ccf00_110 ⟨Nat.le_of_ble_eq_true rfl, Nat.le_of_ble_eq_true rfl⟩) (fun r u H locs hp hnz w => ?_)
  obtain ⟨rfl, rfl⟩ := hp
  try dsimp only at w
  rw [h0]
  refine lv_istore (lv' := [(6, .int (nI (48 + d))), (5, .int (-2147483647)), (4, .int (nI bs.length)), (3, .int 0), (2, .int 0), (0, .ref a), (1, .int 10)]) hx hb dJ6_parseInt_ccf00_113 hl (by decide) rfl (fun ls hl => ?_)
  refine lv_iload hx hb dJ6_parseInt_ccf00_115 (lv_at hl 0 rfl) ?_
  refine lv_bipush (v := 48) hx hb dJ6_parseInt_ccf00_117 (by decide) ?_
  refine lv_icmp_ge (tgt := 166) hx hb dJ6_parseInt_ccf00_119 (by decide) (fun c_119 => ?_) (fun c_119 => absurd (nI_le (a := 48) (b := 48 + d) (by omega) (by omega)) c_119)
  refine lv_iload hx hb dJ6_parseInt_ccf00_166 (lv_at hl 1 rfl) ?_
  refine lv_iload_n hx hb dJ6_parseInt_ccf00_168 rfl (lv_at hl 6 rfl) ?_
  refine lv_idiv hx hb dJ6_parseInt_ccf00_169 (by decide) ?_
  rw [show ((-2147483647) / 10 : Int32) = (-214748364) from by decide +kernel]
  refine lv_istore (lv' := [(7, .int (-214748364)), (6, .int (nI (48 + d))), (5, .int (-2147483647)), (4, .int (nI bs.length)), (3, .int 0), (2, .int 0), (0, .ref a), (1, .int 10)]) hx hb dJ6_parseInt_ccf00_170 hl (by decide) rfl (fun ls hl => ?_)
  refine lv_iconst (v := 0) hx hb dJ6_parseInt_ccf00_172 (by decide) ?_
  refine lv_istore (lv' := [(8, .int 0), (7, .int (-214748364)), (6, .int (nI (48 + d))), (5, .int (-2147483647)), (4, .int (nI bs.length)), (3, .int 0), (2, .int 0), (0, .ref a), (1, .int 10)]) hx hb dJ6_parseInt_ccf00_173 hl (by decide) rfl (fun ls hl => ?_)
  refine lv_iload_n hx hb dJ6_parseInt_ccf00_175 rfl (lv_at hl 5 rfl) ?_
  refine lv_iload hx hb dJ6_parseInt_ccf00_176 (lv_at hl 4 rfl) ?_
  refine lv_icmp_ge (tgt := 245) hx hb dJ6_parseInt_ccf00_178 (by decide) (fun c_178 => absurd c_178 (by rw [hL]; decide +kernel)) (fun c_178 => ?_)
  refine lv_aload_n hx hb dJ6_parseInt_ccf00_181 rfl (lv_at hl 7 rfl) ?_
  refine lv_iload_n hx hb dJ6_parseInt_ccf00_182 rfl (lv_at hl 5 rfl) ?_
  refine lv_iinc (v := 1) (lv' := [(3, .int 1), (8, .int 0), (7, .int (-214748364)), (6, .int (nI (48 + d))), (5, .int (-2147483647)), (4, .int (nI bs.length)), (2, .int 0), (0, .ref a), (1, .int 10)]) hx hb dJ6_parseInt_ccf00_183 hl (k := 5) rfl (by decide) (by decide) rfl (fun ls hl => ?_)
  refine g_calli w (g_runT (As := [.int 0]) (rest := []) S hE w hl (j_charAt l D ar κ G sz a v bs 0 ht hA (by omega) (by omega)) (k_RJ6_123 S.2.2.2.2  ⟨Nat.le_of_ble_eq_true rfl, Nat.le_of_ble_eq_true rfl⟩) ht rfl rfl (Nat.le_of_ble_eq_true rfl) dJ6_parseInt_ccf00_186 ⟨Nat.le_of_ble_eq_true rfl, Nat.le_of_ble_eq_true rfl⟩) (fun r u H locs hp hnz w => ?_)
  obtain ⟨rfl, rfl⟩ := hp
  try dsimp only at w
  rw [h0]
  refine lv_iload_n hx hb dJ6_parseInt_ccf00_189 rfl (lv_at hl 8 rfl) ?_
  refine g_calli w (g_runS (As := [.int (nI (48 + d)), .int 10]) (rest := []) S hE w hl (j_digit1 l D ar κ G sz (48 + d) (by omega) (by omega)) (k_RJ6_132 S.2.2.2.2 ⟨Nat.le_of_ble_eq_true rfl, Nat.le_of_ble_eq_true rfl⟩) rfl rfl (Nat.le_of_ble_eq_true rfl) dJ6_parseInt_ccf00_190 ⟨Nat.le_of_ble_eq_true rfl, Nat.le_of_ble_eq_true rfl⟩) (fun r u H locs hp hnz w => ?_)
  obtain ⟨rfl, rfl⟩ := hp
  try dsimp only at w
  rw [show 48 + d - 48 = d by omega]
  refine lv_istore (lv' := [(9, .int (nI d)), (3, .int 1), (8, .int 0), (7, .int (-214748364)), (6, .int (nI (48 + d))), (5, .int (-2147483647)), (4, .int (nI bs.length)), (2, .int 0), (0, .ref a), (1, .int 10)]) hx hb dJ6_parseInt_ccf00_193 hl (by decide) rfl (fun ls hl => ?_)
  refine lv_iload hx hb dJ6_parseInt_ccf00_195 (lv_at hl 0 rfl) ?_
  refine lv_if_lt (tgt := 207) hx hb dJ6_parseInt_ccf00_197 (by decide) (fun c_197 => absurd c_197 (nI_pos (by omega))) (fun c_197 => ?_)
  refine lv_iload hx hb dJ6_parseInt_ccf00_200 (lv_at hl 2 rfl) ?_
  refine lv_iload hx hb dJ6_parseInt_ccf00_202 (lv_at hl 3 rfl) ?_
  refine lv_icmp_ge (tgt := 213) hx hb dJ6_parseInt_ccf00_204 (by decide) (fun _ => ?_) (fun c => absurd (by decide) c)
  refine lv_iload hx hb dJ6_parseInt_ccf00_213 (lv_at hl 2 rfl) ?_
  refine lv_iload_n hx hb dJ6_parseInt_ccf00_215 rfl (lv_at hl 9 rfl) ?_
  refine lv_imul hx hb dJ6_parseInt_ccf00_216 ?_
  rw [show (0 * 10 : Int32) = 0 by decide +kernel]
  refine lv_istore (lv' := [(8, .int 0), (9, .int (nI d)), (3, .int 1), (7, .int (-214748364)), (6, .int (nI (48 + d))), (5, .int (-2147483647)), (4, .int (nI bs.length)), (2, .int 0), (0, .ref a), (1, .int 10)]) hx hb dJ6_parseInt_ccf00_217 hl (by decide) rfl (fun ls hl => ?_)
  refine lv_iload hx hb dJ6_parseInt_ccf00_219 (lv_at hl 0 rfl) ?_
  refine lv_iload hx hb dJ6_parseInt_ccf00_221 (lv_at hl 5 rfl) ?_
  refine lv_iload hx hb dJ6_parseInt_ccf00_223 (lv_at hl 1 rfl) ?_
  refine lv_iadd hx hb dJ6_parseInt_ccf00_225 ?_
  refine lv_icmp_ge (tgt := 235) hx hb dJ6_parseInt_ccf00_226 (by decide) (fun c_226 => ?_) (fun c_226 => absurd (Int32.not_lt.mp (pd_1 d hd).1) c_226)
  refine lv_iload hx hb dJ6_parseInt_ccf00_235 (lv_at hl 0 rfl) ?_
  refine lv_iload hx hb dJ6_parseInt_ccf00_237 (lv_at hl 1 rfl) ?_
  refine lv_isub hx hb dJ6_parseInt_ccf00_239 ?_
  refine lv_istore (lv' := [(8, .int (0 - (nI d))), (9, .int (nI d)), (3, .int 1), (7, .int (-214748364)), (6, .int (nI (48 + d))), (5, .int (-2147483647)), (4, .int (nI bs.length)), (2, .int 0), (0, .ref a), (1, .int 10)]) hx hb dJ6_parseInt_ccf00_240 hl (by decide) rfl (fun ls hl => ?_)
  refine lv_goto (tgt := 175) hx hb dJ6_parseInt_ccf00_242 (by decide) ?_
  refine lv_iload_n hx hb dJ6_parseInt_ccf00_175 rfl (lv_at hl 2 rfl) ?_
  refine lv_iload hx hb dJ6_parseInt_ccf00_176 (lv_at hl 6 rfl) ?_
  refine lv_icmp_ge (tgt := 245) hx hb dJ6_parseInt_ccf00_178 (by decide) (fun c_178_1 => ?_) (fun c_178_1 => absurd (by rw [hL]; decide +kernel) c_178_1)
  refine lv_iload_n hx hb dJ6_parseInt_ccf00_245 rfl (lv_at hl 7 rfl) ?_
  refine lv_if_eq (tgt := 254) hx hb dJ6_parseInt_ccf00_246 (by decide) (fun _ => ?_) (fun c => absurd (by decide) c)
  refine lv_iload hx hb dJ6_parseInt_ccf00_254 (lv_at hl 0 rfl) ?_
  refine lv_ineg hx hb dJ6_parseInt_ccf00_256 ?_
  exact g_iret hx hb hr hlk w (Nat.le_of_ble_eq_true rfl) (Nat.le_of_ble_eq_true rfl) dJ6_parseInt_ccf00_257 ⟨rfl, rfl⟩
set_option maxHeartbeats 4000000 in
set_option maxRecDepth 100000 in
theorem j_parse2 (l : Launch) (D : va_G) (ar : Nat → ClassId) (κ : Nat → Nat) (G : gW) (sz : Nat) (a : Nat) (v : Nat) (bs : List Int32) (d : Nat) (d2 : Nat) (ht : TX ar κ G a v bs) (hA : Asc bs) (hL : bs.length = 2) (h0 : bs.getD 0 0 = nI (48 + d)) (hd : d < 10) (h1 : bs.getD 1 0 = nI (48 + d2)) (hd2 : d2 < 10) : Met l yJ6_parseInt_ccf00 (lwC yJ6_parseInt_ccf00 cJ6_parseInt_ccf00 10 (some .int)) (rD 5 0 0) (g_Pc D vwCl (gT ar) (EX1 κ) G sz [.ref a, .int 10]) (g_Qi D vwCl (g_A G sz) (fun r u => r = pD2 d d2 ∧ u = (G, sz))) 0 0 (g_A G sz) := by
  refine g_ofW (by decide +kernel) (Nat.le_of_ble_eq_true rfl) ?_
  intro p e s m below meth c ls S hr hlk hin hE w hl
  have hx := S.1
  have hb := S.2.1
  have hl : lv_has ls 10 [(0, .ref a), (1, .int 10)] := hl
  refine lv_aload_n hx hb dJ6_parseInt_ccf00_0 rfl (lv_at hl 0 rfl) ?_
  refine lv_ifnonnull (tgt := 14) hx hb dJ6_parseInt_ccf00_1 (by decide) ?_
  refine lv_iload_n hx hb dJ6_parseInt_ccf00_14 rfl (lv_at hl 1 rfl) ?_
  refine lv_iconst (v := 2) hx hb dJ6_parseInt_ccf00_15 (by decide) ?_
  refine lv_icmp_ge (tgt := 51) hx hb dJ6_parseInt_ccf00_16 (by decide) (fun _ => ?_) (fun c => absurd (by decide) c)
  refine lv_iload_n hx hb dJ6_parseInt_ccf00_51 rfl (lv_at hl 1 rfl) ?_
  refine lv_bipush (v := 36) hx hb dJ6_parseInt_ccf00_52 (by decide) ?_
  refine lv_icmp_le (tgt := 89) hx hb dJ6_parseInt_ccf00_54 (by decide) (fun _ => ?_) (fun c => absurd (by decide) c)
  refine lv_iconst (v := 0) hx hb dJ6_parseInt_ccf00_89 (by decide) ?_
  refine lv_istore_n (lv' := [(2, .int 0), (0, .ref a), (1, .int 10)]) hx hb dJ6_parseInt_ccf00_90 rfl hl (by decide) rfl (fun ls hl => ?_)
  refine lv_iconst (v := 0) hx hb dJ6_parseInt_ccf00_91 (by decide) ?_
  refine lv_istore_n (lv' := [(3, .int 0), (2, .int 0), (0, .ref a), (1, .int 10)]) hx hb dJ6_parseInt_ccf00_92 rfl hl (by decide) rfl (fun ls hl => ?_)
  refine lv_aload_n hx hb dJ6_parseInt_ccf00_93 rfl (lv_at hl 2 rfl) ?_
  refine g_calli w (g_runT (As := []) (rest := []) S hE w hl (j_length l D ar κ G sz a v bs ht) (k_RJ6_118 S.2.2.2.2  ⟨Nat.le_of_ble_eq_true rfl, Nat.le_of_ble_eq_true rfl⟩) ht rfl rfl (Nat.le_of_ble_eq_true rfl) dJ6_parseInt_ccf00_94 ⟨Nat.le_of_ble_eq_true rfl, Nat.le_of_ble_eq_true rfl⟩) (fun r u H locs hp hnz w => ?_)
  obtain ⟨rfl, rfl⟩ := hp
  try dsimp only at w
  refine lv_istore (lv' := [(4, .int (nI bs.length)), (3, .int 0), (2, .int 0), (0, .ref a), (1, .int 10)]) hx hb dJ6_parseInt_ccf00_97 hl (by decide) rfl (fun ls hl => ?_)
  refine lv_ldc hx hb S.2.2.2.1 (S.2.2.2.2 _ m_6_148) dJ6_parseInt_ccf00_99 ?_
  refine lv_istore (lv' := [(5, .int (-2147483647)), (4, .int (nI bs.length)), (3, .int 0), (2, .int 0), (0, .ref a), (1, .int 10)]) hx hb dJ6_parseInt_ccf00_101 hl (by decide) rfl (fun ls hl => ?_)
  refine lv_iload hx hb dJ6_parseInt_ccf00_103 (lv_at hl 1 rfl) ?_
  refine lv_if_le (tgt := 258) hx hb dJ6_parseInt_ccf00_105 (by decide) (fun c_105 => absurd c_105 (by rw [hL]; decide +kernel)) (fun c_105 => ?_)
  refine lv_aload_n hx hb dJ6_parseInt_ccf00_108 rfl (lv_at hl 4 rfl) ?_
  refine lv_iconst (v := 0) hx hb dJ6_parseInt_ccf00_109 (by decide) ?_
  refine g_calli w (g_runT (As := [.int 0]) (rest := []) S hE w hl (j_charAt l D ar κ G sz a v bs 0 ht hA (by omega) (by omega)) (k_RJ6_123 S.2.2.2.2  ⟨Nat.le_of_ble_eq_true rfl, Nat.le_of_ble_eq_true rfl⟩) ht rfl rfl (Nat.le_of_ble_eq_true rfl) dJ6_parseInt_ccf00_110 ⟨Nat.le_of_ble_eq_true rfl, Nat.le_of_ble_eq_true rfl⟩) (fun r u H locs hp hnz w => ?_)
  obtain ⟨rfl, rfl⟩ := hp
  try dsimp only at w
  rw [h0]
  refine lv_istore (lv' := [(6, .int (nI (48 + d))), (5, .int (-2147483647)), (4, .int (nI bs.length)), (3, .int 0), (2, .int 0), (0, .ref a), (1, .int 10)]) hx hb dJ6_parseInt_ccf00_113 hl (by decide) rfl (fun ls hl => ?_)
  refine lv_iload hx hb dJ6_parseInt_ccf00_115 (lv_at hl 0 rfl) ?_
  refine lv_bipush (v := 48) hx hb dJ6_parseInt_ccf00_117 (by decide) ?_
  refine lv_icmp_ge (tgt := 166) hx hb dJ6_parseInt_ccf00_119 (by decide) (fun c_119 => ?_) (fun c_119 => absurd (nI_le (a := 48) (b := 48 + d) (by omega) (by omega)) c_119)
  refine lv_iload hx hb dJ6_parseInt_ccf00_166 (lv_at hl 1 rfl) ?_
  refine lv_iload_n hx hb dJ6_parseInt_ccf00_168 rfl (lv_at hl 6 rfl) ?_
  refine lv_idiv hx hb dJ6_parseInt_ccf00_169 (by decide) ?_
  rw [show ((-2147483647) / 10 : Int32) = (-214748364) from by decide +kernel]
  refine lv_istore (lv' := [(7, .int (-214748364)), (6, .int (nI (48 + d))), (5, .int (-2147483647)), (4, .int (nI bs.length)), (3, .int 0), (2, .int 0), (0, .ref a), (1, .int 10)]) hx hb dJ6_parseInt_ccf00_170 hl (by decide) rfl (fun ls hl => ?_)
  refine lv_iconst (v := 0) hx hb dJ6_parseInt_ccf00_172 (by decide) ?_
  refine lv_istore (lv' := [(8, .int 0), (7, .int (-214748364)), (6, .int (nI (48 + d))), (5, .int (-2147483647)), (4, .int (nI bs.length)), (3, .int 0), (2, .int 0), (0, .ref a), (1, .int 10)]) hx hb dJ6_parseInt_ccf00_173 hl (by decide) rfl (fun ls hl => ?_)
  refine lv_iload_n hx hb dJ6_parseInt_ccf00_175 rfl (lv_at hl 5 rfl) ?_
  refine lv_iload hx hb dJ6_parseInt_ccf00_176 (lv_at hl 4 rfl) ?_
  refine lv_icmp_ge (tgt := 245) hx hb dJ6_parseInt_ccf00_178 (by decide) (fun c_178 => absurd c_178 (by rw [hL]; decide +kernel)) (fun c_178 => ?_)
  refine lv_aload_n hx hb dJ6_parseInt_ccf00_181 rfl (lv_at hl 7 rfl) ?_
  refine lv_iload_n hx hb dJ6_parseInt_ccf00_182 rfl (lv_at hl 5 rfl) ?_
  refine lv_iinc (v := 1) (lv' := [(3, .int 1), (8, .int 0), (7, .int (-214748364)), (6, .int (nI (48 + d))), (5, .int (-2147483647)), (4, .int (nI bs.length)), (2, .int 0), (0, .ref a), (1, .int 10)]) hx hb dJ6_parseInt_ccf00_183 hl (k := 5) rfl (by decide) (by decide) rfl (fun ls hl => ?_)
  refine g_calli w (g_runT (As := [.int 0]) (rest := []) S hE w hl (j_charAt l D ar κ G sz a v bs 0 ht hA (by omega) (by omega)) (k_RJ6_123 S.2.2.2.2  ⟨Nat.le_of_ble_eq_true rfl, Nat.le_of_ble_eq_true rfl⟩) ht rfl rfl (Nat.le_of_ble_eq_true rfl) dJ6_parseInt_ccf00_186 ⟨Nat.le_of_ble_eq_true rfl, Nat.le_of_ble_eq_true rfl⟩) (fun r u H locs hp hnz w => ?_)
  obtain ⟨rfl, rfl⟩ := hp
  try dsimp only at w
  rw [h0]
  refine lv_iload_n hx hb dJ6_parseInt_ccf00_189 rfl (lv_at hl 8 rfl) ?_
  refine g_calli w (g_runS (As := [.int (nI (48 + d)), .int 10]) (rest := []) S hE w hl (j_digit1 l D ar κ G sz (48 + d) (by omega) (by omega)) (k_RJ6_132 S.2.2.2.2 ⟨Nat.le_of_ble_eq_true rfl, Nat.le_of_ble_eq_true rfl⟩) rfl rfl (Nat.le_of_ble_eq_true rfl) dJ6_parseInt_ccf00_190 ⟨Nat.le_of_ble_eq_true rfl, Nat.le_of_ble_eq_true rfl⟩) (fun r u H locs hp hnz w => ?_)
  obtain ⟨rfl, rfl⟩ := hp
  try dsimp only at w
  rw [show 48 + d - 48 = d by omega]
  refine lv_istore (lv' := [(9, .int (nI d)), (3, .int 1), (8, .int 0), (7, .int (-214748364)), (6, .int (nI (48 + d))), (5, .int (-2147483647)), (4, .int (nI bs.length)), (2, .int 0), (0, .ref a), (1, .int 10)]) hx hb dJ6_parseInt_ccf00_193 hl (by decide) rfl (fun ls hl => ?_)
  refine lv_iload hx hb dJ6_parseInt_ccf00_195 (lv_at hl 0 rfl) ?_
  refine lv_if_lt (tgt := 207) hx hb dJ6_parseInt_ccf00_197 (by decide) (fun c_197 => absurd c_197 (nI_pos (by omega))) (fun c_197 => ?_)
  refine lv_iload hx hb dJ6_parseInt_ccf00_200 (lv_at hl 2 rfl) ?_
  refine lv_iload hx hb dJ6_parseInt_ccf00_202 (lv_at hl 3 rfl) ?_
  refine lv_icmp_ge (tgt := 213) hx hb dJ6_parseInt_ccf00_204 (by decide) (fun _ => ?_) (fun c => absurd (by decide) c)
  refine lv_iload hx hb dJ6_parseInt_ccf00_213 (lv_at hl 2 rfl) ?_
  refine lv_iload_n hx hb dJ6_parseInt_ccf00_215 rfl (lv_at hl 9 rfl) ?_
  refine lv_imul hx hb dJ6_parseInt_ccf00_216 ?_
  rw [show (0 * 10 : Int32) = 0 by decide +kernel]
  refine lv_istore (lv' := [(8, .int 0), (9, .int (nI d)), (3, .int 1), (7, .int (-214748364)), (6, .int (nI (48 + d))), (5, .int (-2147483647)), (4, .int (nI bs.length)), (2, .int 0), (0, .ref a), (1, .int 10)]) hx hb dJ6_parseInt_ccf00_217 hl (by decide) rfl (fun ls hl => ?_)
  refine lv_iload hx hb dJ6_parseInt_ccf00_219 (lv_at hl 0 rfl) ?_
  refine lv_iload hx hb dJ6_parseInt_ccf00_221 (lv_at hl 5 rfl) ?_
  refine lv_iload hx hb dJ6_parseInt_ccf00_223 (lv_at hl 1 rfl) ?_
  refine lv_iadd hx hb dJ6_parseInt_ccf00_225 ?_
  refine lv_icmp_ge (tgt := 235) hx hb dJ6_parseInt_ccf00_226 (by decide) (fun c_226 => ?_) (fun c_226 => absurd (Int32.not_lt.mp (pd_1 d hd).1) c_226)
  refine lv_iload hx hb dJ6_parseInt_ccf00_235 (lv_at hl 0 rfl) ?_
  refine lv_iload hx hb dJ6_parseInt_ccf00_237 (lv_at hl 1 rfl) ?_
  refine lv_isub hx hb dJ6_parseInt_ccf00_239 ?_
  refine lv_istore (lv' := [(8, .int (0 - (nI d))), (9, .int (nI d)), (3, .int 1), (7, .int (-214748364)), (6, .int (nI (48 + d))), (5, .int (-2147483647)), (4, .int (nI bs.length)), (2, .int 0), (0, .ref a), (1, .int 10)]) hx hb dJ6_parseInt_ccf00_240 hl (by decide) rfl (fun ls hl => ?_)
  refine lv_goto (tgt := 175) hx hb dJ6_parseInt_ccf00_242 (by decide) ?_
  refine lv_iload_n hx hb dJ6_parseInt_ccf00_175 rfl (lv_at hl 2 rfl) ?_
  refine lv_iload hx hb dJ6_parseInt_ccf00_176 (lv_at hl 6 rfl) ?_
  refine lv_icmp_ge (tgt := 245) hx hb dJ6_parseInt_ccf00_178 (by decide) (fun c_178_1 => absurd c_178_1 (by rw [hL]; decide +kernel)) (fun c_178_1 => ?_)
  refine lv_aload_n hx hb dJ6_parseInt_ccf00_181 rfl (lv_at hl 8 rfl) ?_
  refine lv_iload_n hx hb dJ6_parseInt_ccf00_182 rfl (lv_at hl 2 rfl) ?_
  refine lv_iinc (v := 2) (lv' := [(3, .int 2), (8, .int (0 - (nI d))), (9, .int (nI d)), (7, .int (-214748364)), (6, .int (nI (48 + d))), (5, .int (-2147483647)), (4, .int (nI bs.length)), (2, .int 0), (0, .ref a), (1, .int 10)]) hx hb dJ6_parseInt_ccf00_183 hl (k := 2) rfl (by decide) (by decide) rfl (fun ls hl => ?_)
  refine g_calli w (g_runT (As := [.int 1]) (rest := []) S hE w hl (j_charAt l D ar κ G sz a v bs 1 ht hA (by omega) (by omega)) (k_RJ6_123 S.2.2.2.2  ⟨Nat.le_of_ble_eq_true rfl, Nat.le_of_ble_eq_true rfl⟩) ht rfl rfl (Nat.le_of_ble_eq_true rfl) dJ6_parseInt_ccf00_186 ⟨Nat.le_of_ble_eq_true rfl, Nat.le_of_ble_eq_true rfl⟩) (fun r u H locs hp hnz w => ?_)
  obtain ⟨rfl, rfl⟩ := hp
  try dsimp only at w
  rw [h1]
  refine lv_iload_n hx hb dJ6_parseInt_ccf00_189 rfl (lv_at hl 9 rfl) ?_
  refine g_calli w (g_runS (As := [.int (nI (48 + d2)), .int 10]) (rest := []) S hE w hl (j_digit1 l D ar κ G sz (48 + d2) (by omega) (by omega)) (k_RJ6_132 S.2.2.2.2 ⟨Nat.le_of_ble_eq_true rfl, Nat.le_of_ble_eq_true rfl⟩) rfl rfl (Nat.le_of_ble_eq_true rfl) dJ6_parseInt_ccf00_190 ⟨Nat.le_of_ble_eq_true rfl, Nat.le_of_ble_eq_true rfl⟩) (fun r u H locs hp hnz w => ?_)
  obtain ⟨rfl, rfl⟩ := hp
  try dsimp only at w
  rw [show 48 + d2 - 48 = d2 by omega]
  refine lv_istore (lv' := [(9, .int (nI d2)), (3, .int 2), (8, .int (0 - (nI d))), (7, .int (-214748364)), (6, .int (nI (48 + d))), (5, .int (-2147483647)), (4, .int (nI bs.length)), (2, .int 0), (0, .ref a), (1, .int 10)]) hx hb dJ6_parseInt_ccf00_193 hl (by decide) rfl (fun ls hl => ?_)
  refine lv_iload hx hb dJ6_parseInt_ccf00_195 (lv_at hl 0 rfl) ?_
  refine lv_if_lt (tgt := 207) hx hb dJ6_parseInt_ccf00_197 (by decide) (fun c_197_1 => absurd c_197_1 (nI_pos (by omega))) (fun c_197_1 => ?_)
  refine lv_iload hx hb dJ6_parseInt_ccf00_200 (lv_at hl 2 rfl) ?_
  refine lv_iload hx hb dJ6_parseInt_ccf00_202 (lv_at hl 3 rfl) ?_
  refine lv_icmp_ge (tgt := 213) hx hb dJ6_parseInt_ccf00_204 (by decide) (fun c_204_1 => ?_) (fun c_204_1 => absurd (Int32.not_lt.mp (pd_1 d hd).2) c_204_1)
  refine lv_iload hx hb dJ6_parseInt_ccf00_213 (lv_at hl 2 rfl) ?_
  refine lv_iload_n hx hb dJ6_parseInt_ccf00_215 rfl (lv_at hl 9 rfl) ?_
  refine lv_imul hx hb dJ6_parseInt_ccf00_216 ?_
  refine lv_istore (lv' := [(8, .int ((0 - (nI d)) * 10)), (9, .int (nI d2)), (3, .int 2), (7, .int (-214748364)), (6, .int (nI (48 + d))), (5, .int (-2147483647)), (4, .int (nI bs.length)), (2, .int 0), (0, .ref a), (1, .int 10)]) hx hb dJ6_parseInt_ccf00_217 hl (by decide) rfl (fun ls hl => ?_)
  refine lv_iload hx hb dJ6_parseInt_ccf00_219 (lv_at hl 0 rfl) ?_
  refine lv_iload hx hb dJ6_parseInt_ccf00_221 (lv_at hl 5 rfl) ?_
  refine lv_iload hx hb dJ6_parseInt_ccf00_223 (lv_at hl 1 rfl) ?_
  refine lv_iadd hx hb dJ6_parseInt_ccf00_225 ?_
  refine lv_icmp_ge (tgt := 235) hx hb dJ6_parseInt_ccf00_226 (by decide) (fun c_226_1 => ?_) (fun c_226_1 => absurd (Int32.not_lt.mp (pd_2 d hd d2 hd2)) c_226_1)
  refine lv_iload hx hb dJ6_parseInt_ccf00_235 (lv_at hl 0 rfl) ?_
  refine lv_iload hx hb dJ6_parseInt_ccf00_237 (lv_at hl 1 rfl) ?_
  refine lv_isub hx hb dJ6_parseInt_ccf00_239 ?_
  refine lv_istore (lv' := [(8, .int (((0 - (nI d)) * 10) - (nI d2))), (9, .int (nI d2)), (3, .int 2), (7, .int (-214748364)), (6, .int (nI (48 + d))), (5, .int (-2147483647)), (4, .int (nI bs.length)), (2, .int 0), (0, .ref a), (1, .int 10)]) hx hb dJ6_parseInt_ccf00_240 hl (by decide) rfl (fun ls hl => ?_)
  refine lv_goto (tgt := 175) hx hb dJ6_parseInt_ccf00_242 (by decide) ?_
  refine lv_iload_n hx hb dJ6_parseInt_ccf00_175 rfl (lv_at hl 2 rfl) ?_
  refine lv_iload hx hb dJ6_parseInt_ccf00_176 (lv_at hl 6 rfl) ?_
  refine lv_icmp_ge (tgt := 245) hx hb dJ6_parseInt_ccf00_178 (by decide) (fun c_178_2 => ?_) (fun c_178_2 => absurd (by rw [hL]; decide +kernel) c_178_2)
  refine lv_iload_n hx hb dJ6_parseInt_ccf00_245 rfl (lv_at hl 7 rfl) ?_
  refine lv_if_eq (tgt := 254) hx hb dJ6_parseInt_ccf00_246 (by decide) (fun _ => ?_) (fun c => absurd (by decide) c)
  refine lv_iload hx hb dJ6_parseInt_ccf00_254 (lv_at hl 0 rfl) ?_
  refine lv_ineg hx hb dJ6_parseInt_ccf00_256 ?_
  exact g_iret hx hb hr hlk w (Nat.le_of_ble_eq_true rfl) (Nat.le_of_ble_eq_true rfl) dJ6_parseInt_ccf00_257 ⟨rfl, rfl⟩
theorem j_parse (l : Launch) (D : va_G) (ar : Nat → ClassId) (κ : Nat → Nat) (G : gW) (sz : Nat) (a v : Nat) (bs : List Int32) (ht : TX ar κ G a v bs) (hd : okD bs) : Met l yJ6_parseInt_ccf00 (lwC yJ6_parseInt_ccf00 cJ6_parseInt_ccf00 10 (some .int)) (rD 5 0 0) (g_Pc D vwCl (gT ar) (EX1 κ) G sz [.ref a, .int 10]) (g_Qi D vwCl (g_A G sz) (fun r u => r = pI bs ∧ u = (G, sz))) 0 0 (g_A G sz) := by
  have hA := hd.asc
  rcases hd with ⟨d, hd, rfl⟩ | ⟨d, e, hd, he, rfl⟩
  · have h := j_parse1 l D ar κ G sz a v [nI (48 + d)] d ht hA rfl rfl hd
    rw [show pD1 d = pI [nI (48 + d)] by show -(0 - nI d) = -(0 - (nI (48 + d) - 48)); rw [pd_s d hd]] at h
    exact h
  · have h := j_parse2 l D ar κ G sz a v [nI (48 + d), nI (48 + e)] d e ht hA rfl rfl hd rfl he
    rw [show pD2 d e = pI [nI (48 + d), nI (48 + e)] by show -((0 - nI d) * 10 - nI e) = -((0 - (nI (48 + d) - 48)) * 10 - (nI (48 + e) - 48)); rw [pd_s d hd, pd_s e he]] at h
    exact h
set_option maxHeartbeats 4000000 in
set_option maxRecDepth 100000 in
theorem j_parseInt (l : Launch) (D : va_G) (ar : Nat → ClassId) (κ : Nat → Nat) (G : gW) (sz : Nat) (a : Nat) (v : Nat) (bs : List Int32) (ht : TX ar κ G a v bs) (hD : okD bs) : Met l yJ6_parseInt_2f485 (lwC yJ6_parseInt_2f485 cJ6_parseInt_2f485 1 (some .int)) (rD 6 0 0) (g_Pc D vwCl (gT ar) (EX1 κ) G sz [.ref a]) (g_Qi D vwCl (g_A G sz) (fun r u => r = pI bs ∧ u = (G, sz))) 0 0 (g_A G sz) := by
  refine g_ofW (by decide +kernel) (Nat.le_of_ble_eq_true rfl) ?_
  intro p e s m below meth c ls S hr hlk hin hE w hl
  have hx := S.1
  have hb := S.2.1
  have hl : lv_has ls 1 [(0, .ref a)] := hl
  refine lv_aload_n hx hb dJ6_parseInt_2f485_0 rfl (lv_at hl 0 rfl) ?_
  refine lv_bipush (v := 10) hx hb dJ6_parseInt_2f485_1 (by decide) ?_
  refine g_calli w (g_runS (As := [.ref a, .int 10]) (rest := []) S hE w hl (j_parse l D ar κ G sz a v bs ht hD) (k_RJ6_156 S.2.2.2.2 ⟨Nat.le_of_ble_eq_true rfl, Nat.le_of_ble_eq_true rfl⟩) rfl rfl (Nat.le_of_ble_eq_true rfl) dJ6_parseInt_2f485_3 ⟨Nat.le_of_ble_eq_true rfl, Nat.le_of_ble_eq_true rfl⟩) (fun r u H locs hp hnz w => ?_)
  obtain ⟨rfl, rfl⟩ := hp
  try dsimp only at w
  exact g_iret hx hb hr hlk w (Nat.le_of_ble_eq_true rfl) (Nat.le_of_ble_eq_true rfl) dJ6_parseInt_2f485_6 ⟨rfl, rfl⟩
