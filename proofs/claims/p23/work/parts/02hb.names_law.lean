theorem dL_law_129 : decode cL_law 129 = .ok (.goto 4, 3) := by decide +kernel
theorem dL_law_132 : decode cL_law 132 = .ok (.iconst 0, 1) := by decide +kernel
theorem dL_law_133 : decode cL_law 133 = .ok (.istore 5, 2) := by decide +kernel
theorem dL_law_135 : decode cL_law 135 = .ok (.iconst 0, 1) := by decide +kernel
theorem dL_law_136 : decode cL_law 136 = .ok (.istore 6, 2) := by decide +kernel
theorem dL_law_138 : decode cL_law 138 = .ok (.iload 6, 2) := by decide +kernel
theorem dL_law_140 : decode cL_law 140 = .ok (.bipush 100, 2) := by decide +kernel
theorem dL_law_142 : decode cL_law 142 = .ok (.if_icmp .ge 831, 3) := by decide +kernel
theorem dL_law_145 : decode cL_law 145 = .ok (.iload 5, 2) := by decide +kernel
theorem dL_law_147 : decode cL_law 147 = .ok (.ifCond .eq 826, 3) := by decide +kernel
theorem dL_law_150 : decode cL_law 150 = .ok (.aload_n 0, 1) := by decide +kernel
theorem dL_law_151 : decode cL_law 151 = .ok (.iload 6, 2) := by decide +kernel
theorem dL_law_153 : decode cL_law 153 = .ok (.invokestatic 123, 3) := by decide +kernel
theorem dL_law_156 : decode cL_law 156 = .ok (.istore 7, 2) := by decide +kernel
theorem dL_law_158 : decode cL_law 158 = .ok (.iload 7, 2) := by decide +kernel
theorem dL_law_160 : decode cL_law 160 = .ok (.bipush 32, 2) := by decide +kernel
theorem dL_law_162 : decode cL_law 162 = .ok (.idiv, 1) := by decide +kernel
theorem dL_law_163 : decode cL_law 163 = .ok (.istore 8, 2) := by decide +kernel
theorem dL_law_165 : decode cL_law 165 = .ok (.iload 7, 2) := by decide +kernel
theorem dL_law_167 : decode cL_law 167 = .ok (.bipush 32, 2) := by decide +kernel
theorem dL_law_169 : decode cL_law 169 = .ok (.irem, 1) := by decide +kernel
theorem dL_law_170 : decode cL_law 170 = .ok (.istore 9, 2) := by decide +kernel
theorem dL_law_172 : decode cL_law 172 = .ok (.iload 8, 2) := by decide +kernel
theorem dL_law_174 : decode cL_law 174 = .ok (.bipush 6, 2) := by decide +kernel
theorem dL_law_176 : decode cL_law 176 = .ok (.irem, 1) := by decide +kernel
theorem dL_law_177 : decode cL_law 177 = .ok (.istore 10, 2) := by decide +kernel
theorem dL_law_179 : decode cL_law 179 = .ok (.iload 8, 2) := by decide +kernel
theorem dL_law_181 : decode cL_law 181 = .ok (.bipush 6, 2) := by decide +kernel
theorem dL_law_183 : decode cL_law 183 = .ok (.idiv, 1) := by decide +kernel
theorem dL_law_184 : decode cL_law 184 = .ok (.bipush 8, 2) := by decide +kernel
theorem dL_law_186 : decode cL_law 186 = .ok (.irem, 1) := by decide +kernel
theorem dL_law_187 : decode cL_law 187 = .ok (.istore 11, 2) := by decide +kernel
theorem dL_law_189 : decode cL_law 189 = .ok (.iload 9, 2) := by decide +kernel
theorem dL_law_191 : decode cL_law 191 = .ok (.iconst 5, 1) := by decide +kernel
theorem dL_law_192 : decode cL_law 192 = .ok (.if_icmp .ge 49, 3) := by decide +kernel
theorem dL_law_195 : decode cL_law 195 = .ok (.aload_n 3, 1) := by decide +kernel
theorem dL_law_196 : decode cL_law 196 = .ok (.iload 10, 2) := by decide +kernel
theorem dL_law_198 : decode cL_law 198 = .ok (.iaload, 1) := by decide +kernel
theorem dL_law_199 : decode cL_law 199 = .ok (.istore 12, 2) := by decide +kernel
theorem dL_law_201 : decode cL_law 201 = .ok (.aload_n 3, 1) := by decide +kernel
theorem dL_law_202 : decode cL_law 202 = .ok (.iload 10, 2) := by decide +kernel
theorem dL_law_204 : decode cL_law 204 = .ok (.iload 8, 2) := by decide +kernel
theorem dL_law_206 : decode cL_law 206 = .ok (.bipush 6, 2) := by decide +kernel
theorem dL_law_208 : decode cL_law 208 = .ok (.idiv, 1) := by decide +kernel
theorem dL_law_209 : decode cL_law 209 = .ok (.sipush 201, 3) := by decide +kernel
theorem dL_law_212 : decode cL_law 212 = .ok (.irem, 1) := by decide +kernel
theorem dL_law_213 : decode cL_law 213 = .ok (.iastore, 1) := by decide +kernel
theorem dL_law_214 : decode cL_law 214 = .ok (.aload_n 1, 1) := by decide +kernel
theorem dL_law_215 : decode cL_law 215 = .ok (.iconst 0, 1) := by decide +kernel
theorem dL_law_216 : decode cL_law 216 = .ok (.iload 10, 2) := by decide +kernel
theorem dL_law_218 : decode cL_law 218 = .ok (.aload_n 3, 1) := by decide +kernel
theorem dL_law_219 : decode cL_law 219 = .ok (.iload 10, 2) := by decide +kernel
theorem dL_law_221 : decode cL_law 221 = .ok (.iaload, 1) := by decide +kernel
theorem dL_law_222 : decode cL_law 222 = .ok (.iconst 0, 1) := by decide +kernel
theorem dL_law_223 : decode cL_law 223 = .ok (.invokestatic 100, 3) := by decide +kernel
theorem dL_law_226 : decode cL_law 226 = .ok (.iload 12, 2) := by decide +kernel
theorem dL_law_228 : decode cL_law 228 = .ok (.if_icmp .ne 7, 3) := by decide +kernel
theorem dL_law_231 : decode cL_law 231 = .ok (.iconst 1, 1) := by decide +kernel
theorem dL_law_232 : decode cL_law 232 = .ok (.goto 4, 3) := by decide +kernel
theorem dL_law_235 : decode cL_law 235 = .ok (.iconst 0, 1) := by decide +kernel
theorem dL_law_236 : decode cL_law 236 = .ok (.istore 5, 2) := by decide +kernel
theorem dL_law_238 : decode cL_law 238 = .ok (.goto 642, 3) := by decide +kernel
theorem dL_law_241 : decode cL_law 241 = .ok (.iload 9, 2) := by decide +kernel
theorem dL_law_243 : decode cL_law 243 = .ok (.iconst 5, 1) := by decide +kernel
theorem dL_law_244 : decode cL_law 244 = .ok (.if_icmp .ne 94, 3) := by decide +kernel
theorem dL_law_247 : decode cL_law 247 = .ok (.aload_n 3, 1) := by decide +kernel
theorem dL_law_248 : decode cL_law 248 = .ok (.bipush 6, 2) := by decide +kernel
theorem dL_law_250 : decode cL_law 250 = .ok (.iload 10, 2) := by decide +kernel
theorem dL_law_252 : decode cL_law 252 = .ok (.iadd, 1) := by decide +kernel
theorem dL_law_253 : decode cL_law 253 = .ok (.iaload, 1) := by decide +kernel
theorem dL_law_254 : decode cL_law 254 = .ok (.istore 12, 2) := by decide +kernel
theorem dL_law_256 : decode cL_law 256 = .ok (.aload_n 3, 1) := by decide +kernel
theorem dL_law_257 : decode cL_law 257 = .ok (.bipush 6, 2) := by decide +kernel
theorem dL_law_259 : decode cL_law 259 = .ok (.iload 10, 2) := by decide +kernel
theorem dL_law_261 : decode cL_law 261 = .ok (.iadd, 1) := by decide +kernel
