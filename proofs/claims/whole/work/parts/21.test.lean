theorem t_139_161 : kv_ins 139 161 = some (.dup2, 1, 0, 0) := by decide +kernel
theorem t_139_162 : kv_ins 139 162 = some (.iaload, 1, 0, 0) := by decide +kernel
theorem t_139_163 : kv_ins 139 163 = some (.iconst 1, 1, 0, 0) := by decide +kernel
theorem t_139_164 : kv_ins 139 164 = some (.iadd, 1, 0, 0) := by decide +kernel
theorem t_139_165 : kv_ins 139 165 = some (.iastore, 1, 0, 0) := by decide +kernel
theorem t_139_166 : kv_ins 139 166 = some (.iinc 4 1, 3, 0, 0) := by decide +kernel
theorem t_139_169 : kv_ins 139 169 = some (.goto (-70), 3, 0, 0) := by decide +kernel
theorem t_139_172 : kv_ins 139 172 = some (.iinc 3 1, 3, 0, 0) := by decide +kernel
theorem t_139_175 : kv_ins 139 175 = some (.goto (-94), 3, 0, 0) := by decide +kernel
theorem t_139_178 : kv_ins 139 178 = some (.iconst 0, 1, 0, 0) := by decide +kernel
theorem t_139_179 : kv_ins 139 179 = some (.istore_n 3, 1, 0, 0) := by decide +kernel
theorem t_139_180 : kv_ins 139 180 = some (.iload_n 2, 1, 0, 0) := by decide +kernel
theorem t_139_181 : kv_ins 139 181 = some (.ifCond .ne 9, 3, 0, 0) := by decide +kernel
theorem t_139_184 : kv_ins 139 184 = some (.aload_n 0, 1, 0, 0) := by decide +kernel
theorem t_139_185 : kv_ins 139 185 = some (.iload_n 1, 1, 0, 0) := by decide +kernel
theorem t_139_186 : kv_ins 139 186 = some (.iconst 0, 1, 0, 0) := by decide +kernel
theorem t_139_187 : kv_ins 139 187 = some (.invokevirtual 177, 3, 141, 2) := by decide +kernel
theorem t_139_190 : kv_ins 139 190 = some (.aload_n 0, 1, 0, 0) := by decide +kernel
theorem t_139_191 : kv_ins 139 191 = some (.getfield 51, 3, 9, 21) := by decide +kernel
theorem t_139_194 : kv_ins 139 194 = some (.iconst 0, 1, 0, 0) := by decide +kernel
theorem t_139_195 : kv_ins 139 195 = some (.iload_n 2, 1, 0, 0) := by decide +kernel
theorem t_139_196 : kv_ins 139 196 = some (.iastore, 1, 0, 0) := by decide +kernel
theorem t_139_197 : kv_ins 139 197 = some (.aload_n 0, 1, 0, 0) := by decide +kernel
theorem t_139_198 : kv_ins 139 198 = some (.getfield 54, 3, 9, 22) := by decide +kernel
theorem t_139_201 : kv_ins 139 201 = some (.iconst 0, 1, 0, 0) := by decide +kernel
theorem t_139_202 : kv_ins 139 202 = some (.aload_n 0, 1, 0, 0) := by decide +kernel
theorem t_139_203 : kv_ins 139 203 = some (.iload_n 2, 1, 0, 0) := by decide +kernel
theorem t_139_204 : kv_ins 139 204 = some (.invokevirtual 181, 3, 143, 1) := by decide +kernel
theorem t_139_207 : kv_ins 139 207 = some (.iastore, 1, 0, 0) := by decide +kernel
theorem t_139_208 : kv_ins 139 208 = some (.aload_n 0, 1, 0, 0) := by decide +kernel
theorem t_139_209 : kv_ins 139 209 = some (.getfield 33, 3, 9, 10) := by decide +kernel
theorem t_139_212 : kv_ins 139 212 = some (.iconst 0, 1, 0, 0) := by decide +kernel
theorem t_139_213 : kv_ins 139 213 = some (.iconst (-1), 1, 0, 0) := by decide +kernel
theorem t_139_214 : kv_ins 139 214 = some (.iastore, 1, 0, 0) := by decide +kernel
theorem t_139_215 : kv_ins 139 215 = some (.iload_n 2, 1, 0, 0) := by decide +kernel
theorem t_139_216 : kv_ins 139 216 = some (.ifCond .eq 190, 3, 0, 0) := by decide +kernel
theorem t_139_219 : kv_ins 139 219 = some (.iload_n 3, 1, 0, 0) := by decide +kernel
theorem t_139_220 : kv_ins 139 220 = some (.ifCond .lt 186, 3, 0, 0) := by decide +kernel
theorem t_139_223 : kv_ins 139 223 = some (.aload_n 0, 1, 0, 0) := by decide +kernel
theorem t_139_224 : kv_ins 139 224 = some (.getfield 33, 3, 9, 10) := by decide +kernel
theorem t_139_227 : kv_ins 139 227 = some (.iload_n 3, 1, 0, 0) := by decide +kernel
theorem t_139_228 : kv_ins 139 228 = some (.iaload, 1, 0, 0) := by decide +kernel
theorem t_139_229 : kv_ins 139 229 = some (.iconst 1, 1, 0, 0) := by decide +kernel
theorem t_139_230 : kv_ins 139 230 = some (.iadd, 1, 0, 0) := by decide +kernel
theorem t_139_231 : kv_ins 139 231 = some (.istore 4, 2, 0, 0) := by decide +kernel
theorem t_139_233 : kv_ins 139 233 = some (.iload 4, 2, 0, 0) := by decide +kernel
theorem t_139_235 : kv_ins 139 235 = some (.aload_n 0, 1, 0, 0) := by decide +kernel
theorem t_139_236 : kv_ins 139 236 = some (.getfield 150, 3, 9, 7) := by decide +kernel
theorem t_139_239 : kv_ins 139 239 = some (.if_icmp .ge 28, 3, 0, 0) := by decide +kernel
theorem t_139_242 : kv_ins 139 242 = some (.aload_n 0, 1, 0, 0) := by decide +kernel
theorem t_139_243 : kv_ins 139 243 = some (.getfield 45, 3, 9, 19) := by decide +kernel
theorem t_139_246 : kv_ins 139 246 = some (.iload 4, 2, 0, 0) := by decide +kernel
theorem t_139_248 : kv_ins 139 248 = some (.iaload, 1, 0, 0) := by decide +kernel
theorem t_139_249 : kv_ins 139 249 = some (.aload_n 0, 1, 0, 0) := by decide +kernel
theorem t_139_250 : kv_ins 139 250 = some (.getfield 54, 3, 9, 22) := by decide +kernel
theorem t_139_253 : kv_ins 139 253 = some (.iload_n 3, 1, 0, 0) := by decide +kernel
theorem t_139_254 : kv_ins 139 254 = some (.iaload, 1, 0, 0) := by decide +kernel
theorem t_139_255 : kv_ins 139 255 = some (.ishr, 1, 0, 0) := by decide +kernel
theorem t_139_256 : kv_ins 139 256 = some (.iconst 1, 1, 0, 0) := by decide +kernel
theorem t_139_257 : kv_ins 139 257 = some (.iand, 1, 0, 0) := by decide +kernel
theorem t_139_258 : kv_ins 139 258 = some (.ifCond .ne 9, 3, 0, 0) := by decide +kernel
theorem t_139_261 : kv_ins 139 261 = some (.iinc 4 1, 3, 0, 0) := by decide +kernel
theorem t_139_264 : kv_ins 139 264 = some (.goto (-31), 3, 0, 0) := by decide +kernel
theorem t_139_267 : kv_ins 139 267 = some (.aload_n 0, 1, 0, 0) := by decide +kernel
theorem t_139_268 : kv_ins 139 268 = some (.getfield 33, 3, 9, 10) := by decide +kernel
theorem t_139_271 : kv_ins 139 271 = some (.iload_n 3, 1, 0, 0) := by decide +kernel
theorem t_139_272 : kv_ins 139 272 = some (.iload 4, 2, 0, 0) := by decide +kernel
theorem t_139_274 : kv_ins 139 274 = some (.iastore, 1, 0, 0) := by decide +kernel
theorem t_139_275 : kv_ins 139 275 = some (.iload 4, 2, 0, 0) := by decide +kernel
theorem t_139_277 : kv_ins 139 277 = some (.aload_n 0, 1, 0, 0) := by decide +kernel
theorem t_139_278 : kv_ins 139 278 = some (.getfield 150, 3, 9, 7) := by decide +kernel
theorem t_139_281 : kv_ins 139 281 = some (.if_icmp .ge 20, 3, 0, 0) := by decide +kernel
theorem t_139_284 : kv_ins 139 284 = some (.aload_n 0, 1, 0, 0) := by decide +kernel
theorem t_139_285 : kv_ins 139 285 = some (.getfield 163, 3, 9, 15) := by decide +kernel
theorem t_139_288 : kv_ins 139 288 = some (.ifCond .eq 19, 3, 0, 0) := by decide +kernel
theorem t_139_291 : kv_ins 139 291 = some (.iload_n 3, 1, 0, 0) := by decide +kernel
theorem t_139_292 : kv_ins 139 292 = some (.iconst 1, 1, 0, 0) := by decide +kernel
theorem t_139_293 : kv_ins 139 293 = some (.iadd, 1, 0, 0) := by decide +kernel
theorem t_139_294 : kv_ins 139 294 = some (.aload_n 0, 1, 0, 0) := by decide +kernel
theorem t_139_295 : kv_ins 139 295 = some (.getfield 167, 3, 9, 16) := by decide +kernel
theorem t_139_298 : kv_ins 139 298 = some (.if_icmp .le 9, 3, 0, 0) := by decide +kernel
theorem t_139_301 : kv_ins 139 301 = some (.iinc 3 (-1), 3, 0, 0) := by decide +kernel
theorem t_139_304 : kv_ins 139 304 = some (.goto (-89), 3, 0, 0) := by decide +kernel
theorem t_139_307 : kv_ins 139 307 = some (.aload_n 0, 1, 0, 0) := by decide +kernel
theorem t_139_308 : kv_ins 139 308 = some (.getfield 30, 3, 9, 9) := by decide +kernel
theorem t_139_311 : kv_ins 139 311 = some (.iload_n 3, 1, 0, 0) := by decide +kernel
theorem t_139_312 : kv_ins 139 312 = some (.iload 4, 2, 0, 0) := by decide +kernel
theorem t_139_314 : kv_ins 139 314 = some (.iastore, 1, 0, 0) := by decide +kernel
theorem t_139_315 : kv_ins 139 315 = some (.aload_n 0, 1, 0, 0) := by decide +kernel
theorem t_139_316 : kv_ins 139 316 = some (.getfield 51, 3, 9, 21) := by decide +kernel
theorem t_139_319 : kv_ins 139 319 = some (.iload_n 3, 1, 0, 0) := by decide +kernel
theorem t_139_320 : kv_ins 139 320 = some (.iaload, 1, 0, 0) := by decide +kernel
theorem t_139_321 : kv_ins 139 321 = some (.aload_n 0, 1, 0, 0) := by decide +kernel
theorem t_139_322 : kv_ins 139 322 = some (.getfield 45, 3, 9, 19) := by decide +kernel
theorem t_139_325 : kv_ins 139 325 = some (.iload 4, 2, 0, 0) := by decide +kernel
theorem t_139_327 : kv_ins 139 327 = some (.iaload, 1, 0, 0) := by decide +kernel
theorem t_139_328 : kv_ins 139 328 = some (.iconst (-1), 1, 0, 0) := by decide +kernel
theorem t_139_329 : kv_ins 139 329 = some (.ixor, 1, 0, 0) := by decide +kernel
theorem t_139_330 : kv_ins 139 330 = some (.iand, 1, 0, 0) := by decide +kernel
theorem t_139_331 : kv_ins 139 331 = some (.istore 5, 2, 0, 0) := by decide +kernel
