theorem d_Lw_law_155 : decode code 155 = .ok (.iadd, 1) := by decide +kernel
theorem d_Lw_law_156 : decode code 156 = .ok (.iaload, 1) := by decide +kernel
theorem d_Lw_law_157 : decode code 157 = .ok (.invokevirtual 85, 3) := by decide +kernel
theorem d_Lw_law_160 : decode code 160 = .ok (.if_icmp .eq 913, 3) := by decide +kernel
theorem d_Lw_law_165 : decode code 165 = .ok (.aload_n 1, 1) := by decide +kernel
theorem d_Lw_law_166 : decode code 166 = .ok (.aload_n 3, 1) := by decide +kernel
theorem d_Lw_law_167 : decode code 167 = .ok (.invokestatic 86, 3) := by decide +kernel
theorem d_Lw_law_170 : decode code 170 = .ok (.istore 5, 2) := by decide +kernel
theorem d_Lw_law_172 : decode code 172 = .ok (.aload_n 2, 1) := by decide +kernel
theorem d_Lw_law_173 : decode code 173 = .ok (.invokevirtual 91, 3) := by decide +kernel
theorem d_Lw_law_176 : decode code 176 = .ok (.istore 6, 2) := by decide +kernel
theorem d_Lw_law_178 : decode code 178 = .ok (.aload_n 2, 1) := by decide +kernel
theorem d_Lw_law_179 : decode code 179 = .ok (.invokevirtual 92, 3) := by decide +kernel
theorem d_Lw_law_182 : decode code 182 = .ok (.iload 5, 2) := by decide +kernel
theorem d_Lw_law_184 : decode code 184 = .ok (.if_icmp .eq 5, 3) := by decide +kernel
theorem d_Lw_law_189 : decode code 189 = .ok (.iload 5, 2) := by decide +kernel
theorem d_Lw_law_191 : decode code 191 = .ok (.ifCond .ne 15, 3) := by decide +kernel
theorem d_Lw_law_206 : decode code 206 = .ok (.goto 867, 3) := by decide +kernel
theorem d_Lw_law_209 : decode code 209 = .ok (.aload_n 1, 1) := by decide +kernel
theorem d_Lw_law_210 : decode code 210 = .ok (.aload_n 0, 1) := by decide +kernel
theorem d_Lw_law_211 : decode code 211 = .ok (.iload 4, 2) := by decide +kernel
theorem d_Lw_law_213 : decode code 213 = .ok (.iconst 1, 1) := by decide +kernel
theorem d_Lw_law_214 : decode code 214 = .ok (.iadd, 1) := by decide +kernel
theorem d_Lw_law_215 : decode code 215 = .ok (.iaload, 1) := by decide +kernel
theorem d_Lw_law_216 : decode code 216 = .ok (.aload_n 3, 1) := by decide +kernel
theorem d_Lw_law_217 : decode code 217 = .ok (.invokestatic 95, 3) := by decide +kernel
theorem d_Lw_law_220 : decode code 220 = .ok (.istore 5, 2) := by decide +kernel
theorem d_Lw_law_222 : decode code 222 = .ok (.aload_n 2, 1) := by decide +kernel
theorem d_Lw_law_223 : decode code 223 = .ok (.aload_n 0, 1) := by decide +kernel
theorem d_Lw_law_224 : decode code 224 = .ok (.iload 4, 2) := by decide +kernel
theorem d_Lw_law_226 : decode code 226 = .ok (.iconst 1, 1) := by decide +kernel
theorem d_Lw_law_227 : decode code 227 = .ok (.iadd, 1) := by decide +kernel
theorem d_Lw_law_228 : decode code 228 = .ok (.iaload, 1) := by decide +kernel
theorem d_Lw_law_229 : decode code 229 = .ok (.invokevirtual 98, 3) := by decide +kernel
theorem d_Lw_law_232 : decode code 232 = .ok (.istore 6, 2) := by decide +kernel
theorem d_Lw_law_234 : decode code 234 = .ok (.aload_n 2, 1) := by decide +kernel
theorem d_Lw_law_235 : decode code 235 = .ok (.invokevirtual 92, 3) := by decide +kernel
theorem d_Lw_law_238 : decode code 238 = .ok (.iload 5, 2) := by decide +kernel
theorem d_Lw_law_240 : decode code 240 = .ok (.if_icmp .eq 5, 3) := by decide +kernel
theorem d_Lw_law_245 : decode code 245 = .ok (.iload 5, 2) := by decide +kernel
theorem d_Lw_law_247 : decode code 247 = .ok (.ifCond .ne 15, 3) := by decide +kernel
theorem d_Lw_law_262 : decode code 262 = .ok (.goto 811, 3) := by decide +kernel
theorem d_Lw_law_265 : decode code 265 = .ok (.aload_n 1, 1) := by decide +kernel
theorem d_Lw_law_266 : decode code 266 = .ok (.aload_n 3, 1) := by decide +kernel
theorem d_Lw_law_267 : decode code 267 = .ok (.invokestatic 99, 3) := by decide +kernel
theorem d_Lw_law_270 : decode code 270 = .ok (.istore 5, 2) := by decide +kernel
theorem d_Lw_law_272 : decode code 272 = .ok (.aload_n 2, 1) := by decide +kernel
theorem d_Lw_law_273 : decode code 273 = .ok (.invokevirtual 101, 3) := by decide +kernel
theorem d_Lw_law_276 : decode code 276 = .ok (.istore 6, 2) := by decide +kernel
theorem d_Lw_law_278 : decode code 278 = .ok (.aload_n 2, 1) := by decide +kernel
theorem d_Lw_law_279 : decode code 279 = .ok (.invokevirtual 92, 3) := by decide +kernel
theorem d_Lw_law_282 : decode code 282 = .ok (.iload 5, 2) := by decide +kernel
theorem d_Lw_law_284 : decode code 284 = .ok (.if_icmp .eq 5, 3) := by decide +kernel
theorem d_Lw_law_289 : decode code 289 = .ok (.iload 5, 2) := by decide +kernel
theorem d_Lw_law_291 : decode code 291 = .ok (.ifCond .ne 15, 3) := by decide +kernel
theorem d_Lw_law_306 : decode code 306 = .ok (.goto 767, 3) := by decide +kernel
theorem d_Lw_law_309 : decode code 309 = .ok (.aload_n 1, 1) := by decide +kernel
theorem d_Lw_law_310 : decode code 310 = .ok (.aload_n 3, 1) := by decide +kernel
theorem d_Lw_law_311 : decode code 311 = .ok (.invokestatic 102, 3) := by decide +kernel
theorem d_Lw_law_314 : decode code 314 = .ok (.istore 5, 2) := by decide +kernel
