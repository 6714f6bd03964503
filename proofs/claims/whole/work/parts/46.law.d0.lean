theorem d_LW_law_0 : decode b_LW_law 0 = .ok (.new 8, 3) := by decide +kernel
theorem d_LW_law_3 : decode b_LW_law 3 = .ok (.dup, 1) := by decide +kernel
theorem d_LW_law_4 : decode b_LW_law 4 = .ok (.aload_n 0, 1) := by decide +kernel
theorem d_LW_law_5 : decode b_LW_law 5 = .ok (.iconst 0, 1) := by decide +kernel
theorem d_LW_law_6 : decode b_LW_law 6 = .ok (.invokestatic 44, 3) := by decide +kernel
theorem d_LW_law_9 : decode b_LW_law 9 = .ok (.aload_n 0, 1) := by decide +kernel
theorem d_LW_law_10 : decode b_LW_law 10 = .ok (.iconst 1, 1) := by decide +kernel
theorem d_LW_law_11 : decode b_LW_law 11 = .ok (.invokestatic 44, 3) := by decide +kernel
theorem d_LW_law_14 : decode b_LW_law 14 = .ok (.invokespecial 50, 3) := by decide +kernel
theorem d_LW_law_17 : decode b_LW_law 17 = .ok (.astore_n 1, 1) := by decide +kernel
theorem d_LW_law_18 : decode b_LW_law 18 = .ok (.new 53, 3) := by decide +kernel
theorem d_LW_law_21 : decode b_LW_law 21 = .ok (.dup, 1) := by decide +kernel
theorem d_LW_law_22 : decode b_LW_law 22 = .ok (.aload_n 0, 1) := by decide +kernel
theorem d_LW_law_23 : decode b_LW_law 23 = .ok (.iconst 0, 1) := by decide +kernel
theorem d_LW_law_24 : decode b_LW_law 24 = .ok (.invokestatic 44, 3) := by decide +kernel
theorem d_LW_law_27 : decode b_LW_law 27 = .ok (.aload_n 0, 1) := by decide +kernel
theorem d_LW_law_28 : decode b_LW_law 28 = .ok (.iconst 1, 1) := by decide +kernel
theorem d_LW_law_29 : decode b_LW_law 29 = .ok (.invokestatic 44, 3) := by decide +kernel
theorem d_LW_law_32 : decode b_LW_law 32 = .ok (.invokespecial 55, 3) := by decide +kernel
theorem d_LW_law_35 : decode b_LW_law 35 = .ok (.astore_n 2, 1) := by decide +kernel
theorem d_LW_law_36 : decode b_LW_law 36 = .ok (.iconst 1, 1) := by decide +kernel
theorem d_LW_law_37 : decode b_LW_law 37 = .ok (.newarray .long, 2) := by decide +kernel
theorem d_LW_law_39 : decode b_LW_law 39 = .ok (.astore_n 3, 1) := by decide +kernel
theorem d_LW_law_40 : decode b_LW_law 40 = .ok (.iconst 2, 1) := by decide +kernel
theorem d_LW_law_41 : decode b_LW_law 41 = .ok (.istore 4, 2) := by decide +kernel
theorem d_LW_law_43 : decode b_LW_law 43 = .ok (.iload 4, 2) := by decide +kernel
theorem d_LW_law_45 : decode b_LW_law 45 = .ok (.aload_n 0, 1) := by decide +kernel
theorem d_LW_law_46 : decode b_LW_law 46 = .ok (.arraylength, 1) := by decide +kernel
theorem d_LW_law_47 : decode b_LW_law 47 = .ok (.bipush 6, 2) := by decide +kernel
theorem d_LW_law_49 : decode b_LW_law 49 = .ok (.isub, 1) := by decide +kernel
theorem d_LW_law_50 : decode b_LW_law 50 = .ok (.if_icmp .gt 797, 3) := by decide +kernel
theorem d_LW_law_53 : decode b_LW_law 53 = .ok (.aload_n 0, 1) := by decide +kernel
theorem d_LW_law_54 : decode b_LW_law 54 = .ok (.iload 4, 2) := by decide +kernel
theorem d_LW_law_56 : decode b_LW_law 56 = .ok (.iaload, 1) := by decide +kernel
theorem d_LW_law_57 : decode b_LW_law 57 = .ok (.bipush 31, 2) := by decide +kernel
theorem d_LW_law_59 : decode b_LW_law 59 = .ok (.iand, 1) := by decide +kernel
theorem d_LW_law_60 : decode b_LW_law 60 = .ok (.tableswitch 781 0 16 #[84, 171, 275, 343, 430, 443, 456, 512, 525, 593, 606, 662, 706, 719, 732, 745, 770], 84) := by decide +kernel
theorem d_LW_law_144 : decode b_LW_law 144 = .ok (.aload_n 1, 1) := by decide +kernel
theorem d_LW_law_145 : decode b_LW_law 145 = .ok (.aload_n 0, 1) := by decide +kernel
theorem d_LW_law_146 : decode b_LW_law 146 = .ok (.iload 4, 2) := by decide +kernel
theorem d_LW_law_148 : decode b_LW_law 148 = .ok (.iconst 1, 1) := by decide +kernel
theorem d_LW_law_149 : decode b_LW_law 149 = .ok (.iadd, 1) := by decide +kernel
theorem d_LW_law_150 : decode b_LW_law 150 = .ok (.iaload, 1) := by decide +kernel
theorem d_LW_law_151 : decode b_LW_law 151 = .ok (.aload_n 0, 1) := by decide +kernel
theorem d_LW_law_152 : decode b_LW_law 152 = .ok (.iload 4, 2) := by decide +kernel
theorem d_LW_law_154 : decode b_LW_law 154 = .ok (.iconst 2, 1) := by decide +kernel
theorem d_LW_law_155 : decode b_LW_law 155 = .ok (.iadd, 1) := by decide +kernel
theorem d_LW_law_156 : decode b_LW_law 156 = .ok (.iaload, 1) := by decide +kernel
theorem d_LW_law_157 : decode b_LW_law 157 = .ok (.aload_n 0, 1) := by decide +kernel
theorem d_LW_law_158 : decode b_LW_law 158 = .ok (.iload 4, 2) := by decide +kernel
theorem d_LW_law_160 : decode b_LW_law 160 = .ok (.iconst 3, 1) := by decide +kernel
theorem d_LW_law_161 : decode b_LW_law 161 = .ok (.iadd, 1) := by decide +kernel
theorem d_LW_law_162 : decode b_LW_law 162 = .ok (.iaload, 1) := by decide +kernel
theorem d_LW_law_163 : decode b_LW_law 163 = .ok (.aload_n 3, 1) := by decide +kernel
theorem d_LW_law_164 : decode b_LW_law 164 = .ok (.invokestatic 56, 3) := by decide +kernel
theorem d_LW_law_167 : decode b_LW_law 167 = .ok (.istore 5, 2) := by decide +kernel
theorem d_LW_law_169 : decode b_LW_law 169 = .ok (.aload_n 2, 1) := by decide +kernel
theorem d_LW_law_170 : decode b_LW_law 170 = .ok (.aload_n 0, 1) := by decide +kernel
theorem d_LW_law_171 : decode b_LW_law 171 = .ok (.iload 4, 2) := by decide +kernel
theorem d_LW_law_173 : decode b_LW_law 173 = .ok (.iconst 1, 1) := by decide +kernel
theorem d_LW_law_174 : decode b_LW_law 174 = .ok (.iadd, 1) := by decide +kernel
theorem d_LW_law_175 : decode b_LW_law 175 = .ok (.iaload, 1) := by decide +kernel
theorem d_LW_law_176 : decode b_LW_law 176 = .ok (.aload_n 0, 1) := by decide +kernel
theorem d_LW_law_177 : decode b_LW_law 177 = .ok (.iload 4, 2) := by decide +kernel
theorem d_LW_law_179 : decode b_LW_law 179 = .ok (.iconst 2, 1) := by decide +kernel
theorem d_LW_law_180 : decode b_LW_law 180 = .ok (.iadd, 1) := by decide +kernel
theorem d_LW_law_181 : decode b_LW_law 181 = .ok (.iaload, 1) := by decide +kernel
theorem d_LW_law_182 : decode b_LW_law 182 = .ok (.aload_n 0, 1) := by decide +kernel
theorem d_LW_law_183 : decode b_LW_law 183 = .ok (.iload 4, 2) := by decide +kernel
theorem d_LW_law_185 : decode b_LW_law 185 = .ok (.iconst 3, 1) := by decide +kernel
theorem d_LW_law_186 : decode b_LW_law 186 = .ok (.iadd, 1) := by decide +kernel
theorem d_LW_law_187 : decode b_LW_law 187 = .ok (.iaload, 1) := by decide +kernel
theorem d_LW_law_188 : decode b_LW_law 188 = .ok (.invokevirtual 59, 3) := by decide +kernel
theorem d_LW_law_191 : decode b_LW_law 191 = .ok (.istore 6, 2) := by decide +kernel
theorem d_LW_law_193 : decode b_LW_law 193 = .ok (.aload_n 2, 1) := by decide +kernel
theorem d_LW_law_194 : decode b_LW_law 194 = .ok (.invokevirtual 60, 3) := by decide +kernel
theorem d_LW_law_197 : decode b_LW_law 197 = .ok (.iload 5, 2) := by decide +kernel
theorem d_LW_law_199 : decode b_LW_law 199 = .ok (.if_icmp .eq 5, 3) := by decide +kernel
theorem d_LW_law_202 : decode b_LW_law 202 = .ok (.iconst 0, 1) := by decide +kernel
theorem d_LW_law_203 : decode b_LW_law 203 = .ok (.ireturn, 1) := by decide +kernel
theorem d_LW_law_204 : decode b_LW_law 204 = .ok (.iload 5, 2) := by decide +kernel
theorem d_LW_law_206 : decode b_LW_law 206 = .ok (.ifCond .ne 22, 3) := by decide +kernel
theorem d_LW_law_209 : decode b_LW_law 209 = .ok (.aload_n 3, 1) := by decide +kernel
theorem d_LW_law_210 : decode b_LW_law 210 = .ok (.iconst 0, 1) := by decide +kernel
theorem d_LW_law_211 : decode b_LW_law 211 = .ok (.laload, 1) := by decide +kernel
theorem d_LW_law_212 : decode b_LW_law 212 = .ok (.iload 6, 2) := by decide +kernel
theorem d_LW_law_214 : decode b_LW_law 214 = .ok (.ifCond .eq 7, 3) := by decide +kernel
theorem d_LW_law_217 : decode b_LW_law 217 = .ok (.lconst 1, 1) := by decide +kernel
theorem d_LW_law_218 : decode b_LW_law 218 = .ok (.goto 4, 3) := by decide +kernel
theorem d_LW_law_221 : decode b_LW_law 221 = .ok (.lconst 0, 1) := by decide +kernel
theorem d_LW_law_222 : decode b_LW_law 222 = .ok (.lcmp, 1) := by decide +kernel
theorem d_LW_law_223 : decode b_LW_law 223 = .ok (.ifCond .eq 5, 3) := by decide +kernel
theorem d_LW_law_226 : decode b_LW_law 226 = .ok (.iconst 0, 1) := by decide +kernel
theorem d_LW_law_227 : decode b_LW_law 227 = .ok (.ireturn, 1) := by decide +kernel
theorem d_LW_law_228 : decode b_LW_law 228 = .ok (.goto 613, 3) := by decide +kernel
theorem d_LW_law_231 : decode b_LW_law 231 = .ok (.aload_n 1, 1) := by decide +kernel
theorem d_LW_law_232 : decode b_LW_law 232 = .ok (.aload_n 0, 1) := by decide +kernel
theorem d_LW_law_233 : decode b_LW_law 233 = .ok (.iload 4, 2) := by decide +kernel
theorem d_LW_law_235 : decode b_LW_law 235 = .ok (.iconst 1, 1) := by decide +kernel
theorem d_LW_law_236 : decode b_LW_law 236 = .ok (.iadd, 1) := by decide +kernel
