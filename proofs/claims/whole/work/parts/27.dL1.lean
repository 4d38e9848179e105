theorem d_L_law_193 : decode code 193 = .ok (.bipush 32, 2) := by decide +kernel
theorem d_L_law_195 : decode code 195 = .ok (.lshl, 1) := by decide +kernel
theorem d_L_law_196 : decode code 196 = .ok (.aload_n 0, 1) := by decide +kernel
theorem d_L_law_197 : decode code 197 = .ok (.iload_n 3, 1) := by decide +kernel
theorem d_L_law_198 : decode code 198 = .ok (.iconst 4, 1) := by decide +kernel
theorem d_L_law_199 : decode code 199 = .ok (.iadd, 1) := by decide +kernel
theorem d_L_law_200 : decode code 200 = .ok (.iaload, 1) := by decide +kernel
theorem d_L_law_201 : decode code 201 = .ok (.i2l, 1) := by decide +kernel
theorem d_L_law_202 : decode code 202 = .ok (.ldc2_w 23, 3) := by decide +kernel
theorem d_L_law_205 : decode code 205 = .ok (.land, 1) := by decide +kernel
theorem d_L_law_206 : decode code 206 = .ok (.lor, 1) := by decide +kernel
theorem d_L_law_207 : decode code 207 = .ok (.invokevirtual 25, 3) := by decide +kernel
theorem d_L_law_210 : decode code 210 = .ok (.aload_n 2, 1) := by decide +kernel
theorem d_L_law_211 : decode code 211 = .ok (.aload_n 0, 1) := by decide +kernel
theorem d_L_law_212 : decode code 212 = .ok (.iload_n 3, 1) := by decide +kernel
theorem d_L_law_213 : decode code 213 = .ok (.iconst 1, 1) := by decide +kernel
theorem d_L_law_214 : decode code 214 = .ok (.iadd, 1) := by decide +kernel
theorem d_L_law_215 : decode code 215 = .ok (.iaload, 1) := by decide +kernel
theorem d_L_law_216 : decode code 216 = .ok (.i2l, 1) := by decide +kernel
theorem d_L_law_217 : decode code 217 = .ok (.bipush 32, 2) := by decide +kernel
theorem d_L_law_219 : decode code 219 = .ok (.lshl, 1) := by decide +kernel
theorem d_L_law_220 : decode code 220 = .ok (.aload_n 0, 1) := by decide +kernel
theorem d_L_law_221 : decode code 221 = .ok (.iload_n 3, 1) := by decide +kernel
theorem d_L_law_222 : decode code 222 = .ok (.iconst 2, 1) := by decide +kernel
theorem d_L_law_223 : decode code 223 = .ok (.iadd, 1) := by decide +kernel
theorem d_L_law_224 : decode code 224 = .ok (.iaload, 1) := by decide +kernel
theorem d_L_law_225 : decode code 225 = .ok (.i2l, 1) := by decide +kernel
theorem d_L_law_226 : decode code 226 = .ok (.ldc2_w 23, 3) := by decide +kernel
theorem d_L_law_229 : decode code 229 = .ok (.land, 1) := by decide +kernel
theorem d_L_law_230 : decode code 230 = .ok (.lor, 1) := by decide +kernel
theorem d_L_law_231 : decode code 231 = .ok (.aload_n 0, 1) := by decide +kernel
theorem d_L_law_232 : decode code 232 = .ok (.iload_n 3, 1) := by decide +kernel
theorem d_L_law_233 : decode code 233 = .ok (.iconst 3, 1) := by decide +kernel
theorem d_L_law_234 : decode code 234 = .ok (.iadd, 1) := by decide +kernel
theorem d_L_law_235 : decode code 235 = .ok (.iaload, 1) := by decide +kernel
theorem d_L_law_236 : decode code 236 = .ok (.i2l, 1) := by decide +kernel
theorem d_L_law_237 : decode code 237 = .ok (.bipush 32, 2) := by decide +kernel
theorem d_L_law_239 : decode code 239 = .ok (.lshl, 1) := by decide +kernel
theorem d_L_law_240 : decode code 240 = .ok (.aload_n 0, 1) := by decide +kernel
theorem d_L_law_241 : decode code 241 = .ok (.iload_n 3, 1) := by decide +kernel
theorem d_L_law_242 : decode code 242 = .ok (.iconst 4, 1) := by decide +kernel
theorem d_L_law_243 : decode code 243 = .ok (.iadd, 1) := by decide +kernel
theorem d_L_law_244 : decode code 244 = .ok (.iaload, 1) := by decide +kernel
theorem d_L_law_245 : decode code 245 = .ok (.i2l, 1) := by decide +kernel
theorem d_L_law_246 : decode code 246 = .ok (.ldc2_w 23, 3) := by decide +kernel
theorem d_L_law_249 : decode code 249 = .ok (.land, 1) := by decide +kernel
theorem d_L_law_250 : decode code 250 = .ok (.lor, 1) := by decide +kernel
theorem d_L_law_251 : decode code 251 = .ok (.invokevirtual 29, 3) := by decide +kernel
theorem d_L_law_254 : decode code 254 = .ok (.lcmp, 1) := by decide +kernel
theorem d_L_law_255 : decode code 255 = .ok (.ifCond .eq 650, 3) := by decide +kernel
theorem d_L_law_258 : decode code 258 = .ok (.iconst 0, 1) := by decide +kernel
theorem d_L_law_259 : decode code 259 = .ok (.ireturn, 1) := by decide +kernel
theorem d_L_law_260 : decode code 260 = .ok (.aload_n 1, 1) := by decide +kernel
theorem d_L_law_261 : decode code 261 = .ok (.aload_n 0, 1) := by decide +kernel
theorem d_L_law_262 : decode code 262 = .ok (.iload_n 3, 1) := by decide +kernel
theorem d_L_law_263 : decode code 263 = .ok (.iconst 1, 1) := by decide +kernel
theorem d_L_law_264 : decode code 264 = .ok (.iadd, 1) := by decide +kernel
theorem d_L_law_265 : decode code 265 = .ok (.iaload, 1) := by decide +kernel
theorem d_L_law_266 : decode code 266 = .ok (.i2l, 1) := by decide +kernel
theorem d_L_law_267 : decode code 267 = .ok (.bipush 32, 2) := by decide +kernel
theorem d_L_law_269 : decode code 269 = .ok (.lshl, 1) := by decide +kernel
theorem d_L_law_270 : decode code 270 = .ok (.aload_n 0, 1) := by decide +kernel
theorem d_L_law_271 : decode code 271 = .ok (.iload_n 3, 1) := by decide +kernel
theorem d_L_law_272 : decode code 272 = .ok (.iconst 2, 1) := by decide +kernel
theorem d_L_law_273 : decode code 273 = .ok (.iadd, 1) := by decide +kernel
theorem d_L_law_274 : decode code 274 = .ok (.iaload, 1) := by decide +kernel
theorem d_L_law_275 : decode code 275 = .ok (.i2l, 1) := by decide +kernel
theorem d_L_law_276 : decode code 276 = .ok (.ldc2_w 23, 3) := by decide +kernel
theorem d_L_law_279 : decode code 279 = .ok (.land, 1) := by decide +kernel
theorem d_L_law_280 : decode code 280 = .ok (.lor, 1) := by decide +kernel
theorem d_L_law_281 : decode code 281 = .ok (.invokevirtual 30, 3) := by decide +kernel
theorem d_L_law_284 : decode code 284 = .ok (.aload_n 2, 1) := by decide +kernel
theorem d_L_law_285 : decode code 285 = .ok (.aload_n 0, 1) := by decide +kernel
theorem d_L_law_286 : decode code 286 = .ok (.iload_n 3, 1) := by decide +kernel
theorem d_L_law_287 : decode code 287 = .ok (.iconst 1, 1) := by decide +kernel
theorem d_L_law_288 : decode code 288 = .ok (.iadd, 1) := by decide +kernel
theorem d_L_law_289 : decode code 289 = .ok (.iaload, 1) := by decide +kernel
theorem d_L_law_290 : decode code 290 = .ok (.i2l, 1) := by decide +kernel
theorem d_L_law_291 : decode code 291 = .ok (.bipush 32, 2) := by decide +kernel
theorem d_L_law_293 : decode code 293 = .ok (.lshl, 1) := by decide +kernel
