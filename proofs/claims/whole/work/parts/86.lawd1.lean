/-! the law: its bytes, read, 1 of 4 -/
theorem d_L_law_20 : decode code 20 = .ok (.iconst 0, 1) := by decide +kernel
theorem d_L_law_21 : decode code 21 = .ok (.istore 4, 2) := by decide +kernel
theorem d_L_law_23 : decode code 23 = .ok (.iload 4, 2) := by decide +kernel
theorem d_L_law_25 : decode code 25 = .ok (.aload_n 0, 1) := by decide +kernel
theorem d_L_law_26 : decode code 26 = .ok (.arraylength, 1) := by decide +kernel
theorem d_L_law_27 : decode code 27 = .ok (.iconst 3, 1) := by decide +kernel
theorem d_L_law_28 : decode code 28 = .ok (.isub, 1) := by decide +kernel
theorem d_L_law_29 : decode code 29 = .ok (.if_icmp .gt 834, 3) := by decide +kernel
theorem d_L_law_32 : decode code 32 = .ok (.aload_n 0, 1) := by decide +kernel
theorem d_L_law_33 : decode code 33 = .ok (.iload 4, 2) := by decide +kernel
theorem d_L_law_35 : decode code 35 = .ok (.iaload, 1) := by decide +kernel
theorem d_L_law_36 : decode code 36 = .ok (.bipush 15, 2) := by decide +kernel
theorem d_L_law_38 : decode code 38 = .ok (.iand, 1) := by decide +kernel
theorem d_L_law_39 : decode code 39 = .ok (.tableswitch 818 0 13 #[69, 117, 185, 233, 277, 345, 370, 414, 498, 582, 595, 651, 707, 763], 69) := by decide +kernel
theorem d_L_law_108 : decode code 108 = .ok (.aload_n 1, 1) := by decide +kernel
theorem d_L_law_109 : decode code 109 = .ok (.aload_n 0, 1) := by decide +kernel
theorem d_L_law_110 : decode code 110 = .ok (.iload 4, 2) := by decide +kernel
theorem d_L_law_112 : decode code 112 = .ok (.iconst 1, 1) := by decide +kernel
theorem d_L_law_113 : decode code 113 = .ok (.iadd, 1) := by decide +kernel
theorem d_L_law_114 : decode code 114 = .ok (.iaload, 1) := by decide +kernel
theorem d_L_law_115 : decode code 115 = .ok (.aload_n 0, 1) := by decide +kernel
theorem d_L_law_116 : decode code 116 = .ok (.iload 4, 2) := by decide +kernel
theorem d_L_law_118 : decode code 118 = .ok (.iconst 2, 1) := by decide +kernel
theorem d_L_law_119 : decode code 119 = .ok (.iadd, 1) := by decide +kernel
theorem d_L_law_120 : decode code 120 = .ok (.iaload, 1) := by decide +kernel
theorem d_L_law_121 : decode code 121 = .ok (.invokestatic 64, 3) := by decide +kernel
theorem d_L_law_124 : decode code 124 = .ok (.istore 5, 2) := by decide +kernel
theorem d_L_law_126 : decode code 126 = .ok (.aload_n 2, 1) := by decide +kernel
theorem d_L_law_127 : decode code 127 = .ok (.aload_n 0, 1) := by decide +kernel
theorem d_L_law_128 : decode code 128 = .ok (.iload 4, 2) := by decide +kernel
theorem d_L_law_130 : decode code 130 = .ok (.iconst 1, 1) := by decide +kernel
theorem d_L_law_131 : decode code 131 = .ok (.iadd, 1) := by decide +kernel
theorem d_L_law_132 : decode code 132 = .ok (.iaload, 1) := by decide +kernel
theorem d_L_law_133 : decode code 133 = .ok (.aload_n 0, 1) := by decide +kernel
theorem d_L_law_134 : decode code 134 = .ok (.iload 4, 2) := by decide +kernel
theorem d_L_law_136 : decode code 136 = .ok (.iconst 2, 1) := by decide +kernel
theorem d_L_law_137 : decode code 137 = .ok (.iadd, 1) := by decide +kernel
theorem d_L_law_138 : decode code 138 = .ok (.iaload, 1) := by decide +kernel
theorem d_L_law_139 : decode code 139 = .ok (.invokevirtual 69, 3) := by decide +kernel
theorem d_L_law_142 : decode code 142 = .ok (.aload_n 2, 1) := by decide +kernel
theorem d_L_law_143 : decode code 143 = .ok (.invokevirtual 70, 3) := by decide +kernel
theorem d_L_law_146 : decode code 146 = .ok (.iload 5, 2) := by decide +kernel
theorem d_L_law_148 : decode code 148 = .ok (.if_icmp .eq 5, 3) := by decide +kernel
theorem d_L_law_151 : decode code 151 = .ok (.iconst 0, 1) := by decide +kernel
theorem d_L_law_152 : decode code 152 = .ok (.ireturn, 1) := by decide +kernel
theorem d_L_law_153 : decode code 153 = .ok (.goto 704, 3) := by decide +kernel
theorem d_L_law_156 : decode code 156 = .ok (.aload_n 1, 1) := by decide +kernel
theorem d_L_law_157 : decode code 157 = .ok (.aload_n 0, 1) := by decide +kernel
theorem d_L_law_158 : decode code 158 = .ok (.iload 4, 2) := by decide +kernel
theorem d_L_law_160 : decode code 160 = .ok (.iconst 1, 1) := by decide +kernel
theorem d_L_law_161 : decode code 161 = .ok (.iadd, 1) := by decide +kernel
theorem d_L_law_162 : decode code 162 = .ok (.iaload, 1) := by decide +kernel
theorem d_L_law_163 : decode code 163 = .ok (.aload_n 0, 1) := by decide +kernel
theorem d_L_law_164 : decode code 164 = .ok (.iload 4, 2) := by decide +kernel
theorem d_L_law_166 : decode code 166 = .ok (.iconst 2, 1) := by decide +kernel
theorem d_L_law_167 : decode code 167 = .ok (.iadd, 1) := by decide +kernel
theorem d_L_law_168 : decode code 168 = .ok (.iaload, 1) := by decide +kernel
theorem d_L_law_169 : decode code 169 = .ok (.aload_n 3, 1) := by decide +kernel
theorem d_L_law_170 : decode code 170 = .ok (.invokestatic 73, 3) := by decide +kernel
theorem d_L_law_173 : decode code 173 = .ok (.istore 5, 2) := by decide +kernel
theorem d_L_law_175 : decode code 175 = .ok (.aload_n 2, 1) := by decide +kernel
theorem d_L_law_176 : decode code 176 = .ok (.aload_n 0, 1) := by decide +kernel
theorem d_L_law_177 : decode code 177 = .ok (.iload 4, 2) := by decide +kernel
theorem d_L_law_179 : decode code 179 = .ok (.iconst 1, 1) := by decide +kernel
theorem d_L_law_180 : decode code 180 = .ok (.iadd, 1) := by decide +kernel
theorem d_L_law_181 : decode code 181 = .ok (.iaload, 1) := by decide +kernel
theorem d_L_law_182 : decode code 182 = .ok (.aload_n 0, 1) := by decide +kernel
theorem d_L_law_183 : decode code 183 = .ok (.iload 4, 2) := by decide +kernel
theorem d_L_law_185 : decode code 185 = .ok (.iconst 2, 1) := by decide +kernel
theorem d_L_law_186 : decode code 186 = .ok (.iadd, 1) := by decide +kernel
theorem d_L_law_187 : decode code 187 = .ok (.iaload, 1) := by decide +kernel
theorem d_L_law_188 : decode code 188 = .ok (.invokevirtual 76, 3) := by decide +kernel
theorem d_L_law_191 : decode code 191 = .ok (.istore 6, 2) := by decide +kernel
theorem d_L_law_193 : decode code 193 = .ok (.aload_n 2, 1) := by decide +kernel
theorem d_L_law_194 : decode code 194 = .ok (.invokevirtual 70, 3) := by decide +kernel
theorem d_L_law_197 : decode code 197 = .ok (.iload 5, 2) := by decide +kernel
theorem d_L_law_199 : decode code 199 = .ok (.if_icmp .eq 5, 3) := by decide +kernel
theorem d_L_law_202 : decode code 202 = .ok (.iconst 0, 1) := by decide +kernel
theorem d_L_law_203 : decode code 203 = .ok (.ireturn, 1) := by decide +kernel
theorem d_L_law_204 : decode code 204 = .ok (.iload 5, 2) := by decide +kernel
theorem d_L_law_206 : decode code 206 = .ok (.ifCond .ne 15, 3) := by decide +kernel
theorem d_L_law_209 : decode code 209 = .ok (.aload_n 3, 1) := by decide +kernel
theorem d_L_law_210 : decode code 210 = .ok (.iconst 0, 1) := by decide +kernel
theorem d_L_law_211 : decode code 211 = .ok (.laload, 1) := by decide +kernel
theorem d_L_law_212 : decode code 212 = .ok (.iload 6, 2) := by decide +kernel
theorem d_L_law_214 : decode code 214 = .ok (.i2l, 1) := by decide +kernel
theorem d_L_law_215 : decode code 215 = .ok (.lcmp, 1) := by decide +kernel
theorem d_L_law_216 : decode code 216 = .ok (.ifCond .eq 5, 3) := by decide +kernel
theorem d_L_law_219 : decode code 219 = .ok (.iconst 0, 1) := by decide +kernel
theorem d_L_law_220 : decode code 220 = .ok (.ireturn, 1) := by decide +kernel
theorem d_L_law_221 : decode code 221 = .ok (.goto 636, 3) := by decide +kernel
theorem d_L_law_224 : decode code 224 = .ok (.aload_n 1, 1) := by decide +kernel
theorem d_L_law_225 : decode code 225 = .ok (.aload_n 0, 1) := by decide +kernel
theorem d_L_law_226 : decode code 226 = .ok (.iload 4, 2) := by decide +kernel
theorem d_L_law_228 : decode code 228 = .ok (.iconst 1, 1) := by decide +kernel
theorem d_L_law_229 : decode code 229 = .ok (.iadd, 1) := by decide +kernel
theorem d_L_law_230 : decode code 230 = .ok (.iaload, 1) := by decide +kernel
theorem d_L_law_231 : decode code 231 = .ok (.aload_n 0, 1) := by decide +kernel
theorem d_L_law_232 : decode code 232 = .ok (.iload 4, 2) := by decide +kernel
theorem d_L_law_234 : decode code 234 = .ok (.iconst 2, 1) := by decide +kernel
theorem d_L_law_235 : decode code 235 = .ok (.iadd, 1) := by decide +kernel
theorem d_L_law_236 : decode code 236 = .ok (.iaload, 1) := by decide +kernel
theorem d_L_law_237 : decode code 237 = .ok (.invokestatic 77, 3) := by decide +kernel
theorem d_L_law_240 : decode code 240 = .ok (.istore 5, 2) := by decide +kernel
theorem d_L_law_242 : decode code 242 = .ok (.aload_n 2, 1) := by decide +kernel
theorem d_L_law_243 : decode code 243 = .ok (.aload_n 0, 1) := by decide +kernel
theorem d_L_law_244 : decode code 244 = .ok (.iload 4, 2) := by decide +kernel
theorem d_L_law_246 : decode code 246 = .ok (.iconst 1, 1) := by decide +kernel
theorem d_L_law_247 : decode code 247 = .ok (.iadd, 1) := by decide +kernel
theorem d_L_law_248 : decode code 248 = .ok (.iaload, 1) := by decide +kernel
theorem d_L_law_249 : decode code 249 = .ok (.aload_n 0, 1) := by decide +kernel
theorem d_L_law_250 : decode code 250 = .ok (.iload 4, 2) := by decide +kernel
theorem d_L_law_252 : decode code 252 = .ok (.iconst 2, 1) := by decide +kernel
theorem d_L_law_253 : decode code 253 = .ok (.iadd, 1) := by decide +kernel
theorem d_L_law_254 : decode code 254 = .ok (.iaload, 1) := by decide +kernel
theorem d_L_law_255 : decode code 255 = .ok (.invokevirtual 79, 3) := by decide +kernel
theorem d_L_law_258 : decode code 258 = .ok (.aload_n 2, 1) := by decide +kernel
theorem d_L_law_259 : decode code 259 = .ok (.invokevirtual 70, 3) := by decide +kernel
theorem d_L_law_262 : decode code 262 = .ok (.iload 5, 2) := by decide +kernel
theorem d_L_law_264 : decode code 264 = .ok (.if_icmp .eq 5, 3) := by decide +kernel
theorem d_L_law_267 : decode code 267 = .ok (.iconst 0, 1) := by decide +kernel
theorem d_L_law_268 : decode code 268 = .ok (.ireturn, 1) := by decide +kernel
theorem d_L_law_269 : decode code 269 = .ok (.goto 588, 3) := by decide +kernel
