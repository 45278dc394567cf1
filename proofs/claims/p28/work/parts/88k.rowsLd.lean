theorem dL_known_149 : decode cL_known 149 = .ok (.iconst 0, 1) := by decide +kernel
theorem dL_known_150 : decode cL_known 150 = .ok (.iconst 3, 1) := by decide +kernel
theorem dL_known_151 : decode cL_known 151 = .ok (.sipush 1260, 3) := by decide +kernel
theorem dL_known_154 : decode cL_known 154 = .ok (.invokevirtual 57, 3) := by decide +kernel
theorem dL_known_157 : decode cL_known 157 = .ok (.ifCond .eq 5, 3) := by decide +kernel
theorem dL_known_160 : decode cL_known 160 = .ok (.iconst 0, 1) := by decide +kernel
theorem dL_known_161 : decode cL_known 161 = .ok (.ireturn, 1) := by decide +kernel
theorem dL_known_162 : decode cL_known 162 = .ok (.aload_n 0, 1) := by decide +kernel
theorem dL_known_163 : decode cL_known 163 = .ok (.iconst 0, 1) := by decide +kernel
theorem dL_known_164 : decode cL_known 164 = .ok (.sipush 1260, 3) := by decide +kernel
theorem dL_known_167 : decode cL_known 167 = .ok (.bipush 100, 2) := by decide +kernel
theorem dL_known_169 : decode cL_known 169 = .ok (.invokevirtual 48, 3) := by decide +kernel
theorem dL_known_172 : decode cL_known 172 = .ok (.bipush 6, 2) := by decide +kernel
theorem dL_known_174 : decode cL_known 174 = .ok (.if_icmp .ne 171, 3) := by decide +kernel
theorem dL_known_177 : decode cL_known 177 = .ok (.aload_n 0, 1) := by decide +kernel
theorem dL_known_178 : decode cL_known 178 = .ok (.iconst 0, 1) := by decide +kernel
theorem dL_known_179 : decode cL_known 179 = .ok (.iconst 1, 1) := by decide +kernel
theorem dL_known_180 : decode cL_known 180 = .ok (.iconst 0, 1) := by decide +kernel
theorem dL_known_181 : decode cL_known 181 = .ok (.invokevirtual 32, 3) := by decide +kernel
theorem dL_known_184 : decode cL_known 184 = .ok (.ldc 188, 2) := by decide +kernel
theorem dL_known_186 : decode cL_known 186 = .ok (.if_icmp .ne 159, 3) := by decide +kernel
theorem dL_known_189 : decode cL_known 189 = .ok (.aload_n 0, 1) := by decide +kernel
theorem dL_known_190 : decode cL_known 190 = .ok (.iconst 0, 1) := by decide +kernel
theorem dL_known_191 : decode cL_known 191 = .ok (.iconst 2, 1) := by decide +kernel
theorem dL_known_192 : decode cL_known 192 = .ok (.iconst 0, 1) := by decide +kernel
theorem dL_known_193 : decode cL_known 193 = .ok (.invokevirtual 32, 3) := by decide +kernel
theorem dL_known_196 : decode cL_known 196 = .ok (.ifCond .ne 149, 3) := by decide +kernel
theorem dL_known_199 : decode cL_known 199 = .ok (.aload_n 0, 1) := by decide +kernel
theorem dL_known_200 : decode cL_known 200 = .ok (.iconst 0, 1) := by decide +kernel
theorem dL_known_201 : decode cL_known 201 = .ok (.iconst 3, 1) := by decide +kernel
theorem dL_known_202 : decode cL_known 202 = .ok (.iconst 0, 1) := by decide +kernel
theorem dL_known_203 : decode cL_known 203 = .ok (.invokevirtual 32, 3) := by decide +kernel
theorem dL_known_206 : decode cL_known 206 = .ok (.sipush 16666, 3) := by decide +kernel
theorem dL_known_209 : decode cL_known 209 = .ok (.if_icmp .ne 136, 3) := by decide +kernel
theorem dL_known_212 : decode cL_known 212 = .ok (.aload_n 0, 1) := by decide +kernel
theorem dL_known_213 : decode cL_known 213 = .ok (.iconst 0, 1) := by decide +kernel
theorem dL_known_214 : decode cL_known 214 = .ok (.bipush 7, 2) := by decide +kernel
theorem dL_known_216 : decode cL_known 216 = .ok (.iconst 0, 1) := by decide +kernel
theorem dL_known_217 : decode cL_known 217 = .ok (.invokevirtual 32, 3) := by decide +kernel
theorem dL_known_220 : decode cL_known 220 = .ok (.sipush 7142, 3) := by decide +kernel
theorem dL_known_223 : decode cL_known 223 = .ok (.if_icmp .ne 122, 3) := by decide +kernel
theorem dL_known_226 : decode cL_known 226 = .ok (.aload_n 0, 1) := by decide +kernel
theorem dL_known_227 : decode cL_known 227 = .ok (.iconst 0, 1) := by decide +kernel
theorem dL_known_228 : decode cL_known 228 = .ok (.bipush 6, 2) := by decide +kernel
theorem dL_known_230 : decode cL_known 230 = .ok (.invokevirtual 29, 3) := by decide +kernel
theorem dL_known_233 : decode cL_known 233 = .ok (.sipush 1365, 3) := by decide +kernel
theorem dL_known_236 : decode cL_known 236 = .ok (.if_icmp .ne 109, 3) := by decide +kernel
theorem dL_known_239 : decode cL_known 239 = .ok (.aload_n 0, 1) := by decide +kernel
theorem dL_known_240 : decode cL_known 240 = .ok (.iconst 0, 1) := by decide +kernel
theorem dL_known_241 : decode cL_known 241 = .ok (.bipush 7, 2) := by decide +kernel
theorem dL_known_243 : decode cL_known 243 = .ok (.invokevirtual 29, 3) := by decide +kernel
theorem dL_known_246 : decode cL_known 246 = .ok (.ldc 189, 2) := by decide +kernel
theorem dL_known_248 : decode cL_known 248 = .ok (.if_icmp .ne 97, 3) := by decide +kernel
theorem dL_known_251 : decode cL_known 251 = .ok (.aload_n 0, 1) := by decide +kernel
theorem dL_known_252 : decode cL_known 252 = .ok (.iconst 1, 1) := by decide +kernel
theorem dL_known_253 : decode cL_known 253 = .ok (.invokevirtual 93, 3) := by decide +kernel
theorem dL_known_256 : decode cL_known 256 = .ok (.bipush 6, 2) := by decide +kernel
theorem dL_known_258 : decode cL_known 258 = .ok (.if_icmp .ne 87, 3) := by decide +kernel
theorem dL_known_261 : decode cL_known 261 = .ok (.aload_n 0, 1) := by decide +kernel
theorem dL_known_262 : decode cL_known 262 = .ok (.iconst 0, 1) := by decide +kernel
theorem dL_known_263 : decode cL_known 263 = .ok (.iconst 1, 1) := by decide +kernel
theorem dL_known_264 : decode cL_known 264 = .ok (.iconst 0, 1) := by decide +kernel
theorem dL_known_265 : decode cL_known 265 = .ok (.invokevirtual 32, 3) := by decide +kernel
theorem dL_known_268 : decode cL_known 268 = .ok (.ldc 190, 2) := by decide +kernel
theorem dL_known_270 : decode cL_known 270 = .ok (.if_icmp .ne 75, 3) := by decide +kernel
theorem dL_known_273 : decode cL_known 273 = .ok (.aload_n 0, 1) := by decide +kernel
theorem dL_known_274 : decode cL_known 274 = .ok (.iconst 0, 1) := by decide +kernel
theorem dL_known_275 : decode cL_known 275 = .ok (.iconst 3, 1) := by decide +kernel
theorem dL_known_276 : decode cL_known 276 = .ok (.iconst 0, 1) := by decide +kernel
theorem dL_known_277 : decode cL_known 277 = .ok (.invokevirtual 32, 3) := by decide +kernel
theorem dL_known_280 : decode cL_known 280 = .ok (.sipush 16332, 3) := by decide +kernel
theorem dL_known_283 : decode cL_known 283 = .ok (.if_icmp .ne 62, 3) := by decide +kernel
theorem dL_known_286 : decode cL_known 286 = .ok (.aload_n 0, 1) := by decide +kernel
theorem dL_known_287 : decode cL_known 287 = .ok (.iconst 0, 1) := by decide +kernel
theorem dL_known_288 : decode cL_known 288 = .ok (.sipush 840, 3) := by decide +kernel
theorem dL_known_291 : decode cL_known 291 = .ok (.invokevirtual 45, 3) := by decide +kernel
theorem dL_known_294 : decode cL_known 294 = .ok (.ifCond .ne 51, 3) := by decide +kernel
theorem dL_known_297 : decode cL_known 297 = .ok (.aload_n 0, 1) := by decide +kernel
theorem dL_known_298 : decode cL_known 298 = .ok (.iconst 1, 1) := by decide +kernel
