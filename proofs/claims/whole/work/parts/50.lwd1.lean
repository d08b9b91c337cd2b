theorem d_lw_law_170 : decode b_lw_law 170 = .ok (.invokevirtual 32, 3) := by decide +kernel
theorem d_lw_law_173 : decode b_lw_law 173 = .ok (.aload_n 2, 1) := by decide +kernel
theorem d_lw_law_174 : decode b_lw_law 174 = .ok (.invokevirtual 35, 3) := by decide +kernel
theorem d_lw_law_177 : decode b_lw_law 177 = .ok (.goto 406, 3) := by decide +kernel
theorem d_lw_law_180 : decode b_lw_law 180 = .ok (.aload_n 1, 1) := by decide +kernel
theorem d_lw_law_181 : decode b_lw_law 181 = .ok (.aload_n 0, 1) := by decide +kernel
theorem d_lw_law_182 : decode b_lw_law 182 = .ok (.iload 4, 2) := by decide +kernel
theorem d_lw_law_184 : decode b_lw_law 184 = .ok (.iconst 1, 1) := by decide +kernel
theorem d_lw_law_185 : decode b_lw_law 185 = .ok (.iadd, 1) := by decide +kernel
theorem d_lw_law_186 : decode b_lw_law 186 = .ok (.iaload, 1) := by decide +kernel
theorem d_lw_law_187 : decode b_lw_law 187 = .ok (.invokevirtual 36, 3) := by decide +kernel
theorem d_lw_law_190 : decode b_lw_law 190 = .ok (.aload_n 2, 1) := by decide +kernel
theorem d_lw_law_191 : decode b_lw_law 191 = .ok (.aload_n 0, 1) := by decide +kernel
theorem d_lw_law_192 : decode b_lw_law 192 = .ok (.iload 4, 2) := by decide +kernel
theorem d_lw_law_194 : decode b_lw_law 194 = .ok (.iconst 1, 1) := by decide +kernel
theorem d_lw_law_195 : decode b_lw_law 195 = .ok (.iadd, 1) := by decide +kernel
theorem d_lw_law_196 : decode b_lw_law 196 = .ok (.iaload, 1) := by decide +kernel
theorem d_lw_law_197 : decode b_lw_law 197 = .ok (.invokevirtual 39, 3) := by decide +kernel
theorem d_lw_law_200 : decode b_lw_law 200 = .ok (.if_icmp .eq 383, 3) := by decide +kernel
theorem d_lw_law_203 : decode b_lw_law 203 = .ok (.iconst 0, 1) := by decide +kernel
theorem d_lw_law_204 : decode b_lw_law 204 = .ok (.ireturn, 1) := by decide +kernel
theorem d_lw_law_205 : decode b_lw_law 205 = .ok (.aload_n 1, 1) := by decide +kernel
theorem d_lw_law_206 : decode b_lw_law 206 = .ok (.invokevirtual 40, 3) := by decide +kernel
theorem d_lw_law_209 : decode b_lw_law 209 = .ok (.aload_n 2, 1) := by decide +kernel
theorem d_lw_law_210 : decode b_lw_law 210 = .ok (.invokevirtual 44, 3) := by decide +kernel
theorem d_lw_law_213 : decode b_lw_law 213 = .ok (.if_icmp .eq 370, 3) := by decide +kernel
theorem d_lw_law_216 : decode b_lw_law 216 = .ok (.iconst 0, 1) := by decide +kernel
theorem d_lw_law_217 : decode b_lw_law 217 = .ok (.ireturn, 1) := by decide +kernel
theorem d_lw_law_218 : decode b_lw_law 218 = .ok (.aload_n 1, 1) := by decide +kernel
theorem d_lw_law_219 : decode b_lw_law 219 = .ok (.invokevirtual 45, 3) := by decide +kernel
theorem d_lw_law_222 : decode b_lw_law 222 = .ok (.aload_n 2, 1) := by decide +kernel
theorem d_lw_law_223 : decode b_lw_law 223 = .ok (.invokevirtual 48, 3) := by decide +kernel
theorem d_lw_law_226 : decode b_lw_law 226 = .ok (.if_icmp .eq 357, 3) := by decide +kernel
theorem d_lw_law_229 : decode b_lw_law 229 = .ok (.iconst 0, 1) := by decide +kernel
theorem d_lw_law_230 : decode b_lw_law 230 = .ok (.ireturn, 1) := by decide +kernel
theorem d_lw_law_231 : decode b_lw_law 231 = .ok (.aload_n 1, 1) := by decide +kernel
theorem d_lw_law_232 : decode b_lw_law 232 = .ok (.aload_n 0, 1) := by decide +kernel
theorem d_lw_law_233 : decode b_lw_law 233 = .ok (.iload 4, 2) := by decide +kernel
theorem d_lw_law_235 : decode b_lw_law 235 = .ok (.iconst 1, 1) := by decide +kernel
theorem d_lw_law_236 : decode b_lw_law 236 = .ok (.iadd, 1) := by decide +kernel
theorem d_lw_law_237 : decode b_lw_law 237 = .ok (.iaload, 1) := by decide +kernel
theorem d_lw_law_238 : decode b_lw_law 238 = .ok (.aload_n 0, 1) := by decide +kernel
theorem d_lw_law_239 : decode b_lw_law 239 = .ok (.iload 4, 2) := by decide +kernel
theorem d_lw_law_241 : decode b_lw_law 241 = .ok (.iconst 2, 1) := by decide +kernel
theorem d_lw_law_242 : decode b_lw_law 242 = .ok (.iadd, 1) := by decide +kernel
theorem d_lw_law_243 : decode b_lw_law 243 = .ok (.iaload, 1) := by decide +kernel
theorem d_lw_law_244 : decode b_lw_law 244 = .ok (.invokevirtual 49, 3) := by decide +kernel
theorem d_lw_law_247 : decode b_lw_law 247 = .ok (.aload_n 2, 1) := by decide +kernel
theorem d_lw_law_248 : decode b_lw_law 248 = .ok (.aload_n 0, 1) := by decide +kernel
theorem d_lw_law_249 : decode b_lw_law 249 = .ok (.iload 4, 2) := by decide +kernel
theorem d_lw_law_251 : decode b_lw_law 251 = .ok (.iconst 1, 1) := by decide +kernel
theorem d_lw_law_252 : decode b_lw_law 252 = .ok (.iadd, 1) := by decide +kernel
theorem d_lw_law_253 : decode b_lw_law 253 = .ok (.iaload, 1) := by decide +kernel
theorem d_lw_law_254 : decode b_lw_law 254 = .ok (.aload_n 0, 1) := by decide +kernel
theorem d_lw_law_255 : decode b_lw_law 255 = .ok (.iload 4, 2) := by decide +kernel
theorem d_lw_law_257 : decode b_lw_law 257 = .ok (.iconst 2, 1) := by decide +kernel
theorem d_lw_law_258 : decode b_lw_law 258 = .ok (.iadd, 1) := by decide +kernel
theorem d_lw_law_259 : decode b_lw_law 259 = .ok (.iaload, 1) := by decide +kernel
theorem d_lw_law_260 : decode b_lw_law 260 = .ok (.invokevirtual 52, 3) := by decide +kernel
theorem d_lw_law_263 : decode b_lw_law 263 = .ok (.if_icmp .eq 320, 3) := by decide +kernel
theorem d_lw_law_266 : decode b_lw_law 266 = .ok (.iconst 0, 1) := by decide +kernel
theorem d_lw_law_267 : decode b_lw_law 267 = .ok (.ireturn, 1) := by decide +kernel
theorem d_lw_law_268 : decode b_lw_law 268 = .ok (.aload_n 1, 1) := by decide +kernel
theorem d_lw_law_269 : decode b_lw_law 269 = .ok (.aload_n 0, 1) := by decide +kernel
theorem d_lw_law_270 : decode b_lw_law 270 = .ok (.iload 4, 2) := by decide +kernel
theorem d_lw_law_272 : decode b_lw_law 272 = .ok (.iconst 1, 1) := by decide +kernel
theorem d_lw_law_273 : decode b_lw_law 273 = .ok (.iadd, 1) := by decide +kernel
theorem d_lw_law_274 : decode b_lw_law 274 = .ok (.iaload, 1) := by decide +kernel
theorem d_lw_law_275 : decode b_lw_law 275 = .ok (.aload_n 0, 1) := by decide +kernel
theorem d_lw_law_276 : decode b_lw_law 276 = .ok (.iload 4, 2) := by decide +kernel
theorem d_lw_law_278 : decode b_lw_law 278 = .ok (.iconst 2, 1) := by decide +kernel
theorem d_lw_law_279 : decode b_lw_law 279 = .ok (.iadd, 1) := by decide +kernel
theorem d_lw_law_280 : decode b_lw_law 280 = .ok (.iaload, 1) := by decide +kernel
theorem d_lw_law_281 : decode b_lw_law 281 = .ok (.aload_n 0, 1) := by decide +kernel
theorem d_lw_law_282 : decode b_lw_law 282 = .ok (.iload 4, 2) := by decide +kernel
theorem d_lw_law_284 : decode b_lw_law 284 = .ok (.iconst 3, 1) := by decide +kernel
theorem d_lw_law_285 : decode b_lw_law 285 = .ok (.iadd, 1) := by decide +kernel
theorem d_lw_law_286 : decode b_lw_law 286 = .ok (.iaload, 1) := by decide +kernel
theorem d_lw_law_287 : decode b_lw_law 287 = .ok (.aload_n 0, 1) := by decide +kernel
theorem d_lw_law_288 : decode b_lw_law 288 = .ok (.iload 4, 2) := by decide +kernel
theorem d_lw_law_290 : decode b_lw_law 290 = .ok (.iconst 4, 1) := by decide +kernel
theorem d_lw_law_291 : decode b_lw_law 291 = .ok (.iadd, 1) := by decide +kernel
theorem d_lw_law_292 : decode b_lw_law 292 = .ok (.iaload, 1) := by decide +kernel
theorem d_lw_law_293 : decode b_lw_law 293 = .ok (.aload_n 0, 1) := by decide +kernel
theorem d_lw_law_294 : decode b_lw_law 294 = .ok (.iload 4, 2) := by decide +kernel
theorem d_lw_law_296 : decode b_lw_law 296 = .ok (.iconst 5, 1) := by decide +kernel
theorem d_lw_law_297 : decode b_lw_law 297 = .ok (.iadd, 1) := by decide +kernel
theorem d_lw_law_298 : decode b_lw_law 298 = .ok (.iaload, 1) := by decide +kernel
theorem d_lw_law_299 : decode b_lw_law 299 = .ok (.invokevirtual 53, 3) := by decide +kernel
theorem d_lw_law_302 : decode b_lw_law 302 = .ok (.aload_n 2, 1) := by decide +kernel
theorem d_lw_law_303 : decode b_lw_law 303 = .ok (.aload_n 0, 1) := by decide +kernel
theorem d_lw_law_304 : decode b_lw_law 304 = .ok (.iload 4, 2) := by decide +kernel
theorem d_lw_law_306 : decode b_lw_law 306 = .ok (.iconst 1, 1) := by decide +kernel
theorem d_lw_law_307 : decode b_lw_law 307 = .ok (.iadd, 1) := by decide +kernel
theorem d_lw_law_308 : decode b_lw_law 308 = .ok (.iaload, 1) := by decide +kernel
theorem d_lw_law_309 : decode b_lw_law 309 = .ok (.aload_n 0, 1) := by decide +kernel
theorem d_lw_law_310 : decode b_lw_law 310 = .ok (.iload 4, 2) := by decide +kernel
theorem d_lw_law_312 : decode b_lw_law 312 = .ok (.iconst 2, 1) := by decide +kernel
theorem d_lw_law_313 : decode b_lw_law 313 = .ok (.iadd, 1) := by decide +kernel
theorem d_lw_law_314 : decode b_lw_law 314 = .ok (.iaload, 1) := by decide +kernel
