theorem dX13_isEndLine_0 : decode cX13_isEndLine 0 = .ok (.iload_n 1, 1) := by decide +kernel
theorem dX13_isEndLine_1 : decode cX13_isEndLine 1 = .ok (.istore_n 3, 1) := by decide +kernel
theorem dX13_isEndLine_2 : decode cX13_isEndLine 2 = .ok (.iload_n 3, 1) := by decide +kernel
theorem dX13_isEndLine_3 : decode cX13_isEndLine 3 = .ok (.iload_n 2, 1) := by decide +kernel
theorem dX13_isEndLine_4 : decode cX13_isEndLine 4 = .ok (.if_icmp .ge 20, 3) := by decide +kernel
theorem dX13_isEndLine_7 : decode cX13_isEndLine 7 = .ok (.aload_n 0, 1) := by decide +kernel
theorem dX13_isEndLine_8 : decode cX13_isEndLine 8 = .ok (.getfield 46, 3) := by decide +kernel
theorem dX13_isEndLine_11 : decode cX13_isEndLine 11 = .ok (.iload_n 3, 1) := by decide +kernel
theorem dX13_isEndLine_12 : decode cX13_isEndLine 12 = .ok (.iaload, 1) := by decide +kernel
theorem dX13_isEndLine_13 : decode cX13_isEndLine 13 = .ok (.bipush 32, 2) := by decide +kernel
theorem dX13_isEndLine_15 : decode cX13_isEndLine 15 = .ok (.if_icmp .ne 9, 3) := by decide +kernel
theorem dX13_isEndLine_18 : decode cX13_isEndLine 18 = .ok (.iinc 3 1, 3) := by decide +kernel
theorem dX13_isEndLine_21 : decode cX13_isEndLine 21 = .ok (.goto (-19), 3) := by decide +kernel
theorem dX13_isEndLine_24 : decode cX13_isEndLine 24 = .ok (.iload_n 3, 1) := by decide +kernel
theorem dX13_isEndLine_25 : decode cX13_isEndLine 25 = .ok (.istore 4, 2) := by decide +kernel
theorem dX13_isEndLine_27 : decode cX13_isEndLine 27 = .ok (.iload 4, 2) := by decide +kernel
theorem dX13_isEndLine_29 : decode cX13_isEndLine 29 = .ok (.iload_n 2, 1) := by decide +kernel
theorem dX13_isEndLine_30 : decode cX13_isEndLine 30 = .ok (.if_icmp .ge 22, 3) := by decide +kernel
theorem dX13_isEndLine_33 : decode cX13_isEndLine 33 = .ok (.aload_n 0, 1) := by decide +kernel
theorem dX13_isEndLine_34 : decode cX13_isEndLine 34 = .ok (.getfield 46, 3) := by decide +kernel
theorem dX13_isEndLine_37 : decode cX13_isEndLine 37 = .ok (.iload 4, 2) := by decide +kernel
theorem dX13_isEndLine_39 : decode cX13_isEndLine 39 = .ok (.iaload, 1) := by decide +kernel
theorem dX13_isEndLine_40 : decode cX13_isEndLine 40 = .ok (.invokestatic 199, 3) := by decide +kernel
theorem dX13_isEndLine_43 : decode cX13_isEndLine 43 = .ok (.ifCond .eq 9, 3) := by decide +kernel
theorem dX13_isEndLine_46 : decode cX13_isEndLine 46 = .ok (.iinc 4 1, 3) := by decide +kernel
theorem dX13_isEndLine_49 : decode cX13_isEndLine 49 = .ok (.goto (-22), 3) := by decide +kernel
theorem dX13_isEndLine_52 : decode cX13_isEndLine 52 = .ok (.iload 4, 2) := by decide +kernel
theorem dX13_isEndLine_54 : decode cX13_isEndLine 54 = .ok (.iload_n 3, 1) := by decide +kernel
theorem dX13_isEndLine_55 : decode cX13_isEndLine 55 = .ok (.if_icmp .le 71, 3) := by decide +kernel
theorem dX13_isEndLine_58 : decode cX13_isEndLine 58 = .ok (.aload_n 0, 1) := by decide +kernel
theorem dX13_isEndLine_59 : decode cX13_isEndLine 59 = .ok (.getfield 46, 3) := by decide +kernel
theorem dX13_isEndLine_62 : decode cX13_isEndLine 62 = .ok (.iload_n 3, 1) := by decide +kernel
theorem dX13_isEndLine_63 : decode cX13_isEndLine 63 = .ok (.iaload, 1) := by decide +kernel
theorem dX13_isEndLine_64 : decode cX13_isEndLine 64 = .ok (.invokestatic 183, 3) := by decide +kernel
theorem dX13_isEndLine_67 : decode cX13_isEndLine 67 = .ok (.ifCond .eq 59, 3) := by decide +kernel
theorem dX13_isEndLine_70 : decode cX13_isEndLine 70 = .ok (.iload 4, 2) := by decide +kernel
theorem dX13_isEndLine_72 : decode cX13_isEndLine 72 = .ok (.iload_n 2, 1) := by decide +kernel
theorem dX13_isEndLine_73 : decode cX13_isEndLine 73 = .ok (.if_icmp .ge 53, 3) := by decide +kernel
theorem dX13_isEndLine_76 : decode cX13_isEndLine 76 = .ok (.aload_n 0, 1) := by decide +kernel
theorem dX13_isEndLine_77 : decode cX13_isEndLine 77 = .ok (.getfield 46, 3) := by decide +kernel
theorem dX13_isEndLine_80 : decode cX13_isEndLine 80 = .ok (.iload 4, 2) := by decide +kernel
theorem dX13_isEndLine_82 : decode cX13_isEndLine 82 = .ok (.iaload, 1) := by decide +kernel
theorem dX13_isEndLine_83 : decode cX13_isEndLine 83 = .ok (.bipush 58, 2) := by decide +kernel
theorem dX13_isEndLine_85 : decode cX13_isEndLine 85 = .ok (.if_icmp .ne 41, 3) := by decide +kernel
theorem dX13_isEndLine_88 : decode cX13_isEndLine 88 = .ok (.iload 4, 2) := by decide +kernel
theorem dX13_isEndLine_90 : decode cX13_isEndLine 90 = .ok (.iload_n 3, 1) := by decide +kernel
theorem dX13_isEndLine_91 : decode cX13_isEndLine 91 = .ok (.isub, 1) := by decide +kernel
theorem dX13_isEndLine_92 : decode cX13_isEndLine 92 = .ok (.bipush 10, 2) := by decide +kernel
theorem dX13_isEndLine_94 : decode cX13_isEndLine 94 = .ok (.if_icmp .le 5, 3) := by decide +kernel
theorem dX13_isEndLine_97 : decode cX13_isEndLine 97 = .ok (.iconst 0, 1) := by decide +kernel
theorem dX13_isEndLine_98 : decode cX13_isEndLine 98 = .ok (.ireturn, 1) := by decide +kernel
theorem dX13_isEndLine_99 : decode cX13_isEndLine 99 = .ok (.iload 4, 2) := by decide +kernel
theorem dX13_isEndLine_101 : decode cX13_isEndLine 101 = .ok (.iconst 1, 1) := by decide +kernel
theorem dX13_isEndLine_102 : decode cX13_isEndLine 102 = .ok (.iadd, 1) := by decide +kernel
theorem dX13_isEndLine_103 : decode cX13_isEndLine 103 = .ok (.istore_n 3, 1) := by decide +kernel
theorem dX13_isEndLine_104 : decode cX13_isEndLine 104 = .ok (.iload_n 3, 1) := by decide +kernel
theorem dX13_isEndLine_105 : decode cX13_isEndLine 105 = .ok (.iload_n 2, 1) := by decide +kernel
theorem dX13_isEndLine_106 : decode cX13_isEndLine 106 = .ok (.if_icmp .ge 20, 3) := by decide +kernel
theorem dX13_isEndLine_109 : decode cX13_isEndLine 109 = .ok (.aload_n 0, 1) := by decide +kernel
theorem dX13_isEndLine_110 : decode cX13_isEndLine 110 = .ok (.getfield 46, 3) := by decide +kernel
theorem dX13_isEndLine_113 : decode cX13_isEndLine 113 = .ok (.iload_n 3, 1) := by decide +kernel
theorem dX13_isEndLine_114 : decode cX13_isEndLine 114 = .ok (.iaload, 1) := by decide +kernel
theorem dX13_isEndLine_115 : decode cX13_isEndLine 115 = .ok (.bipush 32, 2) := by decide +kernel
theorem dX13_isEndLine_117 : decode cX13_isEndLine 117 = .ok (.if_icmp .ne 9, 3) := by decide +kernel
theorem dX13_isEndLine_120 : decode cX13_isEndLine 120 = .ok (.iinc 3 1, 3) := by decide +kernel
theorem dX13_isEndLine_123 : decode cX13_isEndLine 123 = .ok (.goto (-19), 3) := by decide +kernel
theorem dX13_isEndLine_126 : decode cX13_isEndLine 126 = .ok (.iload_n 3, 1) := by decide +kernel
theorem dX13_isEndLine_127 : decode cX13_isEndLine 127 = .ok (.iconst 4, 1) := by decide +kernel
theorem dX13_isEndLine_128 : decode cX13_isEndLine 128 = .ok (.iadd, 1) := by decide +kernel
theorem dX13_isEndLine_129 : decode cX13_isEndLine 129 = .ok (.iload_n 2, 1) := by decide +kernel
theorem dX13_isEndLine_130 : decode cX13_isEndLine 130 = .ok (.if_icmp .gt 57, 3) := by decide +kernel
theorem dX13_isEndLine_133 : decode cX13_isEndLine 133 = .ok (.aload_n 0, 1) := by decide +kernel
theorem dX13_isEndLine_134 : decode cX13_isEndLine 134 = .ok (.getfield 46, 3) := by decide +kernel
theorem dX13_isEndLine_137 : decode cX13_isEndLine 137 = .ok (.iload_n 3, 1) := by decide +kernel
theorem dX13_isEndLine_138 : decode cX13_isEndLine 138 = .ok (.iaload, 1) := by decide +kernel
theorem dX13_isEndLine_139 : decode cX13_isEndLine 139 = .ok (.bipush 46, 2) := by decide +kernel
theorem dX13_isEndLine_141 : decode cX13_isEndLine 141 = .ok (.if_icmp .ne 46, 3) := by decide +kernel
theorem dX13_isEndLine_144 : decode cX13_isEndLine 144 = .ok (.aload_n 0, 1) := by decide +kernel
theorem dX13_isEndLine_145 : decode cX13_isEndLine 145 = .ok (.getfield 46, 3) := by decide +kernel
theorem dX13_isEndLine_148 : decode cX13_isEndLine 148 = .ok (.iload_n 3, 1) := by decide +kernel
theorem dX13_isEndLine_149 : decode cX13_isEndLine 149 = .ok (.iconst 1, 1) := by decide +kernel
theorem dX13_isEndLine_150 : decode cX13_isEndLine 150 = .ok (.iadd, 1) := by decide +kernel
theorem dX13_isEndLine_151 : decode cX13_isEndLine 151 = .ok (.iaload, 1) := by decide +kernel
theorem dX13_isEndLine_152 : decode cX13_isEndLine 152 = .ok (.bipush 101, 2) := by decide +kernel
theorem dX13_isEndLine_154 : decode cX13_isEndLine 154 = .ok (.if_icmp .ne 33, 3) := by decide +kernel
theorem dX13_isEndLine_157 : decode cX13_isEndLine 157 = .ok (.aload_n 0, 1) := by decide +kernel
theorem dX13_isEndLine_158 : decode cX13_isEndLine 158 = .ok (.getfield 46, 3) := by decide +kernel
theorem dX13_isEndLine_161 : decode cX13_isEndLine 161 = .ok (.iload_n 3, 1) := by decide +kernel
theorem dX13_isEndLine_162 : decode cX13_isEndLine 162 = .ok (.iconst 2, 1) := by decide +kernel
theorem dX13_isEndLine_163 : decode cX13_isEndLine 163 = .ok (.iadd, 1) := by decide +kernel
theorem dX13_isEndLine_164 : decode cX13_isEndLine 164 = .ok (.iaload, 1) := by decide +kernel
theorem dX13_isEndLine_165 : decode cX13_isEndLine 165 = .ok (.bipush 110, 2) := by decide +kernel
theorem dX13_isEndLine_167 : decode cX13_isEndLine 167 = .ok (.if_icmp .ne 20, 3) := by decide +kernel
theorem dX13_isEndLine_170 : decode cX13_isEndLine 170 = .ok (.aload_n 0, 1) := by decide +kernel
theorem dX13_isEndLine_171 : decode cX13_isEndLine 171 = .ok (.getfield 46, 3) := by decide +kernel
theorem dX13_isEndLine_174 : decode cX13_isEndLine 174 = .ok (.iload_n 3, 1) := by decide +kernel
theorem dX13_isEndLine_175 : decode cX13_isEndLine 175 = .ok (.iconst 3, 1) := by decide +kernel
theorem dX13_isEndLine_176 : decode cX13_isEndLine 176 = .ok (.iadd, 1) := by decide +kernel
theorem dX13_isEndLine_177 : decode cX13_isEndLine 177 = .ok (.iaload, 1) := by decide +kernel
theorem dX13_isEndLine_178 : decode cX13_isEndLine 178 = .ok (.bipush 100, 2) := by decide +kernel
theorem dX13_isEndLine_180 : decode cX13_isEndLine 180 = .ok (.if_icmp .ne 7, 3) := by decide +kernel
theorem dX13_isEndLine_183 : decode cX13_isEndLine 183 = .ok (.iconst 1, 1) := by decide +kernel
theorem dX13_isEndLine_184 : decode cX13_isEndLine 184 = .ok (.goto 4, 3) := by decide +kernel
theorem dX13_isEndLine_187 : decode cX13_isEndLine 187 = .ok (.iconst 0, 1) := by decide +kernel
theorem dX13_isEndLine_188 : decode cX13_isEndLine 188 = .ok (.istore 5, 2) := by decide +kernel
theorem dX13_isEndLine_190 : decode cX13_isEndLine 190 = .ok (.iload 5, 2) := by decide +kernel
theorem dX13_isEndLine_192 : decode cX13_isEndLine 192 = .ok (.ifCond .eq 40, 3) := by decide +kernel
theorem dX13_isEndLine_195 : decode cX13_isEndLine 195 = .ok (.iload_n 3, 1) := by decide +kernel
theorem dX13_isEndLine_196 : decode cX13_isEndLine 196 = .ok (.iconst 4, 1) := by decide +kernel
theorem dX13_isEndLine_197 : decode cX13_isEndLine 197 = .ok (.iadd, 1) := by decide +kernel
theorem dX13_isEndLine_198 : decode cX13_isEndLine 198 = .ok (.iload_n 2, 1) := by decide +kernel
theorem dX13_isEndLine_199 : decode cX13_isEndLine 199 = .ok (.if_icmp .eq 29, 3) := by decide +kernel
theorem dX13_isEndLine_202 : decode cX13_isEndLine 202 = .ok (.aload_n 0, 1) := by decide +kernel
theorem dX13_isEndLine_203 : decode cX13_isEndLine 203 = .ok (.getfield 46, 3) := by decide +kernel
theorem dX13_isEndLine_206 : decode cX13_isEndLine 206 = .ok (.iload_n 3, 1) := by decide +kernel
theorem dX13_isEndLine_207 : decode cX13_isEndLine 207 = .ok (.iconst 4, 1) := by decide +kernel
theorem dX13_isEndLine_208 : decode cX13_isEndLine 208 = .ok (.iadd, 1) := by decide +kernel
theorem dX13_isEndLine_209 : decode cX13_isEndLine 209 = .ok (.iaload, 1) := by decide +kernel
theorem dX13_isEndLine_210 : decode cX13_isEndLine 210 = .ok (.bipush 32, 2) := by decide +kernel
theorem dX13_isEndLine_212 : decode cX13_isEndLine 212 = .ok (.if_icmp .eq 16, 3) := by decide +kernel
theorem dX13_isEndLine_215 : decode cX13_isEndLine 215 = .ok (.aload_n 0, 1) := by decide +kernel
theorem dX13_isEndLine_216 : decode cX13_isEndLine 216 = .ok (.getfield 46, 3) := by decide +kernel
theorem dX13_isEndLine_219 : decode cX13_isEndLine 219 = .ok (.iload_n 3, 1) := by decide +kernel
theorem dX13_isEndLine_220 : decode cX13_isEndLine 220 = .ok (.iconst 4, 1) := by decide +kernel
theorem dX13_isEndLine_221 : decode cX13_isEndLine 221 = .ok (.iadd, 1) := by decide +kernel
theorem dX13_isEndLine_222 : decode cX13_isEndLine 222 = .ok (.iaload, 1) := by decide +kernel
theorem dX13_isEndLine_223 : decode cX13_isEndLine 223 = .ok (.bipush 59, 2) := by decide +kernel
theorem dX13_isEndLine_225 : decode cX13_isEndLine 225 = .ok (.if_icmp .ne 7, 3) := by decide +kernel
theorem dX13_isEndLine_228 : decode cX13_isEndLine 228 = .ok (.iconst 1, 1) := by decide +kernel
theorem dX13_isEndLine_229 : decode cX13_isEndLine 229 = .ok (.goto 4, 3) := by decide +kernel
theorem dX13_isEndLine_232 : decode cX13_isEndLine 232 = .ok (.iconst 0, 1) := by decide +kernel
theorem dX13_isEndLine_233 : decode cX13_isEndLine 233 = .ok (.ireturn, 1) := by decide +kernel

