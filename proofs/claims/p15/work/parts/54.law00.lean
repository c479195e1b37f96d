theorem dL_law_0_g : (decode cL_law 0 = .ok (.new 8, 3)) ∧ (decode cL_law 3 = .ok (.dup, 1)) ∧ (decode cL_law 4 = .ok (.invokespecial 19, 3)) ∧ (decode cL_law 7 = .ok (.astore_n 1, 1)) ∧ (decode cL_law 8 = .ok (.new 20, 3)) ∧ (decode cL_law 11 = .ok (.dup, 1)) ∧ (decode cL_law 12 = .ok (.invokespecial 22, 3)) ∧ (decode cL_law 15 = .ok (.astore_n 2, 1)) := by decide +kernel
theorem dL_law_0 : decode cL_law 0 = .ok (.new 8, 3) := dL_law_0_g.1
theorem dL_law_3 : decode cL_law 3 = .ok (.dup, 1) := dL_law_0_g.2.1
theorem dL_law_4 : decode cL_law 4 = .ok (.invokespecial 19, 3) := dL_law_0_g.2.2.1
theorem dL_law_7 : decode cL_law 7 = .ok (.astore_n 1, 1) := dL_law_0_g.2.2.2.1
theorem dL_law_8 : decode cL_law 8 = .ok (.new 20, 3) := dL_law_0_g.2.2.2.2.1
theorem dL_law_11 : decode cL_law 11 = .ok (.dup, 1) := dL_law_0_g.2.2.2.2.2.1
theorem dL_law_12 : decode cL_law 12 = .ok (.invokespecial 22, 3) := dL_law_0_g.2.2.2.2.2.2.1
theorem dL_law_15 : decode cL_law 15 = .ok (.astore_n 2, 1) := dL_law_0_g.2.2.2.2.2.2.2
theorem dL_law_16_g : (decode cL_law 16 = .ok (.iconst 1, 1)) ∧ (decode cL_law 17 = .ok (.newarray .long, 2)) ∧ (decode cL_law 19 = .ok (.astore_n 3, 1)) ∧ (decode cL_law 20 = .ok (.iconst 0, 1)) ∧ (decode cL_law 21 = .ok (.istore 4, 2)) ∧ (decode cL_law 23 = .ok (.iload 4, 2)) ∧ (decode cL_law 25 = .ok (.aload_n 0, 1)) ∧ (decode cL_law 26 = .ok (.arraylength, 1)) := by decide +kernel
theorem dL_law_16 : decode cL_law 16 = .ok (.iconst 1, 1) := dL_law_16_g.1
theorem dL_law_17 : decode cL_law 17 = .ok (.newarray .long, 2) := dL_law_16_g.2.1
theorem dL_law_19 : decode cL_law 19 = .ok (.astore_n 3, 1) := dL_law_16_g.2.2.1
theorem dL_law_20 : decode cL_law 20 = .ok (.iconst 0, 1) := dL_law_16_g.2.2.2.1
theorem dL_law_21 : decode cL_law 21 = .ok (.istore 4, 2) := dL_law_16_g.2.2.2.2.1
theorem dL_law_23 : decode cL_law 23 = .ok (.iload 4, 2) := dL_law_16_g.2.2.2.2.2.1
theorem dL_law_25 : decode cL_law 25 = .ok (.aload_n 0, 1) := dL_law_16_g.2.2.2.2.2.2.1
theorem dL_law_26 : decode cL_law 26 = .ok (.arraylength, 1) := dL_law_16_g.2.2.2.2.2.2.2
theorem dL_law_27_g : (decode cL_law 27 = .ok (.bipush 6, 2)) ∧ (decode cL_law 29 = .ok (.isub, 1)) ∧ (decode cL_law 30 = .ok (.if_icmp .gt 1570, 3)) ∧ (decode cL_law 33 = .ok (.aload_n 0, 1)) ∧ (decode cL_law 34 = .ok (.iload 4, 2)) ∧ (decode cL_law 36 = .ok (.iaload, 1)) ∧ (decode cL_law 37 = .ok (.bipush 31, 2)) ∧ (decode cL_law 39 = .ok (.iand, 1)) := by decide +kernel
theorem dL_law_27 : decode cL_law 27 = .ok (.bipush 6, 2) := dL_law_27_g.1
theorem dL_law_29 : decode cL_law 29 = .ok (.isub, 1) := dL_law_27_g.2.1
theorem dL_law_30 : decode cL_law 30 = .ok (.if_icmp .gt 1570, 3) := dL_law_27_g.2.2.1
theorem dL_law_33 : decode cL_law 33 = .ok (.aload_n 0, 1) := dL_law_27_g.2.2.2.1
theorem dL_law_34 : decode cL_law 34 = .ok (.iload 4, 2) := dL_law_27_g.2.2.2.2.1
theorem dL_law_36 : decode cL_law 36 = .ok (.iaload, 1) := dL_law_27_g.2.2.2.2.2.1
theorem dL_law_37 : decode cL_law 37 = .ok (.bipush 31, 2) := dL_law_27_g.2.2.2.2.2.2.1
theorem dL_law_39 : decode cL_law 39 = .ok (.iand, 1) := dL_law_27_g.2.2.2.2.2.2.2
theorem dL_law_40_g : (decode cL_law 40 = .ok (.tableswitch 1554 0 30 #[140, 213, 262, 299, 348, 413, 450, 463, 476, 501, 541, 578, 630, 667, 705, 742, 779, 816, 877, 958, 1051, 1100, 1137, 1174, 1211, 1248, 1285, 1338, 1391, 1440, 1489], 140)) ∧ (decode cL_law 180 = .ok (.aload_n 1, 1)) ∧ (decode cL_law 181 = .ok (.aload_n 0, 1)) ∧ (decode cL_law 182 = .ok (.iload 4, 2)) ∧ (decode cL_law 184 = .ok (.iconst 1, 1)) ∧ (decode cL_law 185 = .ok (.iadd, 1)) ∧ (decode cL_law 186 = .ok (.iaload, 1)) ∧ (decode cL_law 187 = .ok (.aload_n 0, 1)) := by decide +kernel
theorem dL_law_40 : decode cL_law 40 = .ok (.tableswitch 1554 0 30 #[140, 213, 262, 299, 348, 413, 450, 463, 476, 501, 541, 578, 630, 667, 705, 742, 779, 816, 877, 958, 1051, 1100, 1137, 1174, 1211, 1248, 1285, 1338, 1391, 1440, 1489], 140) := dL_law_40_g.1
theorem dL_law_180 : decode cL_law 180 = .ok (.aload_n 1, 1) := dL_law_40_g.2.1
theorem dL_law_181 : decode cL_law 181 = .ok (.aload_n 0, 1) := dL_law_40_g.2.2.1
theorem dL_law_182 : decode cL_law 182 = .ok (.iload 4, 2) := dL_law_40_g.2.2.2.1
theorem dL_law_184 : decode cL_law 184 = .ok (.iconst 1, 1) := dL_law_40_g.2.2.2.2.1
theorem dL_law_185 : decode cL_law 185 = .ok (.iadd, 1) := dL_law_40_g.2.2.2.2.2.1
theorem dL_law_186 : decode cL_law 186 = .ok (.iaload, 1) := dL_law_40_g.2.2.2.2.2.2.1
theorem dL_law_187 : decode cL_law 187 = .ok (.aload_n 0, 1) := dL_law_40_g.2.2.2.2.2.2.2
theorem dL_law_188_g : (decode cL_law 188 = .ok (.iload 4, 2)) ∧ (decode cL_law 190 = .ok (.iconst 2, 1)) ∧ (decode cL_law 191 = .ok (.iadd, 1)) ∧ (decode cL_law 192 = .ok (.iaload, 1)) ∧ (decode cL_law 193 = .ok (.aload_n 0, 1)) ∧ (decode cL_law 194 = .ok (.iload 4, 2)) ∧ (decode cL_law 196 = .ok (.iconst 3, 1)) ∧ (decode cL_law 197 = .ok (.iadd, 1)) := by decide +kernel
theorem dL_law_188 : decode cL_law 188 = .ok (.iload 4, 2) := dL_law_188_g.1
theorem dL_law_190 : decode cL_law 190 = .ok (.iconst 2, 1) := dL_law_188_g.2.1
theorem dL_law_191 : decode cL_law 191 = .ok (.iadd, 1) := dL_law_188_g.2.2.1
theorem dL_law_192 : decode cL_law 192 = .ok (.iaload, 1) := dL_law_188_g.2.2.2.1
theorem dL_law_193 : decode cL_law 193 = .ok (.aload_n 0, 1) := dL_law_188_g.2.2.2.2.1
theorem dL_law_194 : decode cL_law 194 = .ok (.iload 4, 2) := dL_law_188_g.2.2.2.2.2.1
theorem dL_law_196 : decode cL_law 196 = .ok (.iconst 3, 1) := dL_law_188_g.2.2.2.2.2.2.1
theorem dL_law_197 : decode cL_law 197 = .ok (.iadd, 1) := dL_law_188_g.2.2.2.2.2.2.2
theorem dL_law_198_g : (decode cL_law 198 = .ok (.iaload, 1)) ∧ (decode cL_law 199 = .ok (.aload_n 0, 1)) ∧ (decode cL_law 200 = .ok (.iload 4, 2)) ∧ (decode cL_law 202 = .ok (.iconst 4, 1)) ∧ (decode cL_law 203 = .ok (.iadd, 1)) ∧ (decode cL_law 204 = .ok (.iaload, 1)) ∧ (decode cL_law 205 = .ok (.aload_n 0, 1)) ∧ (decode cL_law 206 = .ok (.iload 4, 2)) := by decide +kernel
theorem dL_law_198 : decode cL_law 198 = .ok (.iaload, 1) := dL_law_198_g.1
theorem dL_law_199 : decode cL_law 199 = .ok (.aload_n 0, 1) := dL_law_198_g.2.1
theorem dL_law_200 : decode cL_law 200 = .ok (.iload 4, 2) := dL_law_198_g.2.2.1
theorem dL_law_202 : decode cL_law 202 = .ok (.iconst 4, 1) := dL_law_198_g.2.2.2.1
theorem dL_law_203 : decode cL_law 203 = .ok (.iadd, 1) := dL_law_198_g.2.2.2.2.1
theorem dL_law_204 : decode cL_law 204 = .ok (.iaload, 1) := dL_law_198_g.2.2.2.2.2.1
theorem dL_law_205 : decode cL_law 205 = .ok (.aload_n 0, 1) := dL_law_198_g.2.2.2.2.2.2.1
theorem dL_law_206 : decode cL_law 206 = .ok (.iload 4, 2) := dL_law_198_g.2.2.2.2.2.2.2
theorem dL_law_208_g : (decode cL_law 208 = .ok (.iconst 5, 1)) ∧ (decode cL_law 209 = .ok (.iadd, 1)) ∧ (decode cL_law 210 = .ok (.iaload, 1)) ∧ (decode cL_law 211 = .ok (.invokevirtual 23, 3)) ∧ (decode cL_law 214 = .ok (.pop, 1)) ∧ (decode cL_law 215 = .ok (.aload_n 2, 1)) ∧ (decode cL_law 216 = .ok (.aload_n 0, 1)) ∧ (decode cL_law 217 = .ok (.iload 4, 2)) := by decide +kernel
theorem dL_law_208 : decode cL_law 208 = .ok (.iconst 5, 1) := dL_law_208_g.1
theorem dL_law_209 : decode cL_law 209 = .ok (.iadd, 1) := dL_law_208_g.2.1
theorem dL_law_210 : decode cL_law 210 = .ok (.iaload, 1) := dL_law_208_g.2.2.1
theorem dL_law_211 : decode cL_law 211 = .ok (.invokevirtual 23, 3) := dL_law_208_g.2.2.2.1
theorem dL_law_214 : decode cL_law 214 = .ok (.pop, 1) := dL_law_208_g.2.2.2.2.1
theorem dL_law_215 : decode cL_law 215 = .ok (.aload_n 2, 1) := dL_law_208_g.2.2.2.2.2.1
theorem dL_law_216 : decode cL_law 216 = .ok (.aload_n 0, 1) := dL_law_208_g.2.2.2.2.2.2.1
theorem dL_law_217 : decode cL_law 217 = .ok (.iload 4, 2) := dL_law_208_g.2.2.2.2.2.2.2
theorem dL_law_219_g : (decode cL_law 219 = .ok (.iconst 1, 1)) ∧ (decode cL_law 220 = .ok (.iadd, 1)) ∧ (decode cL_law 221 = .ok (.iaload, 1)) ∧ (decode cL_law 222 = .ok (.aload_n 0, 1)) ∧ (decode cL_law 223 = .ok (.iload 4, 2)) ∧ (decode cL_law 225 = .ok (.iconst 2, 1)) ∧ (decode cL_law 226 = .ok (.iadd, 1)) ∧ (decode cL_law 227 = .ok (.iaload, 1)) := by decide +kernel
theorem dL_law_219 : decode cL_law 219 = .ok (.iconst 1, 1) := dL_law_219_g.1
theorem dL_law_220 : decode cL_law 220 = .ok (.iadd, 1) := dL_law_219_g.2.1
theorem dL_law_221 : decode cL_law 221 = .ok (.iaload, 1) := dL_law_219_g.2.2.1
theorem dL_law_222 : decode cL_law 222 = .ok (.aload_n 0, 1) := dL_law_219_g.2.2.2.1
theorem dL_law_223 : decode cL_law 223 = .ok (.iload 4, 2) := dL_law_219_g.2.2.2.2.1
theorem dL_law_225 : decode cL_law 225 = .ok (.iconst 2, 1) := dL_law_219_g.2.2.2.2.2.1
theorem dL_law_226 : decode cL_law 226 = .ok (.iadd, 1) := dL_law_219_g.2.2.2.2.2.2.1
theorem dL_law_227 : decode cL_law 227 = .ok (.iaload, 1) := dL_law_219_g.2.2.2.2.2.2.2
theorem dL_law_228_g : (decode cL_law 228 = .ok (.aload_n 0, 1)) ∧ (decode cL_law 229 = .ok (.iload 4, 2)) ∧ (decode cL_law 231 = .ok (.iconst 3, 1)) ∧ (decode cL_law 232 = .ok (.iadd, 1)) ∧ (decode cL_law 233 = .ok (.iaload, 1)) ∧ (decode cL_law 234 = .ok (.aload_n 0, 1)) ∧ (decode cL_law 235 = .ok (.iload 4, 2)) ∧ (decode cL_law 237 = .ok (.iconst 4, 1)) := by decide +kernel
theorem dL_law_228 : decode cL_law 228 = .ok (.aload_n 0, 1) := dL_law_228_g.1
theorem dL_law_229 : decode cL_law 229 = .ok (.iload 4, 2) := dL_law_228_g.2.1
theorem dL_law_231 : decode cL_law 231 = .ok (.iconst 3, 1) := dL_law_228_g.2.2.1
theorem dL_law_232 : decode cL_law 232 = .ok (.iadd, 1) := dL_law_228_g.2.2.2.1
theorem dL_law_233 : decode cL_law 233 = .ok (.iaload, 1) := dL_law_228_g.2.2.2.2.1
theorem dL_law_234 : decode cL_law 234 = .ok (.aload_n 0, 1) := dL_law_228_g.2.2.2.2.2.1
theorem dL_law_235 : decode cL_law 235 = .ok (.iload 4, 2) := dL_law_228_g.2.2.2.2.2.2.1
theorem dL_law_237 : decode cL_law 237 = .ok (.iconst 4, 1) := dL_law_228_g.2.2.2.2.2.2.2
theorem dL_law_238_g : (decode cL_law 238 = .ok (.iadd, 1)) ∧ (decode cL_law 239 = .ok (.iaload, 1)) ∧ (decode cL_law 240 = .ok (.aload_n 0, 1)) ∧ (decode cL_law 241 = .ok (.iload 4, 2)) ∧ (decode cL_law 243 = .ok (.iconst 5, 1)) ∧ (decode cL_law 244 = .ok (.iadd, 1)) ∧ (decode cL_law 245 = .ok (.iaload, 1)) ∧ (decode cL_law 246 = .ok (.invokevirtual 27, 3)) := by decide +kernel
theorem dL_law_238 : decode cL_law 238 = .ok (.iadd, 1) := dL_law_238_g.1
theorem dL_law_239 : decode cL_law 239 = .ok (.iaload, 1) := dL_law_238_g.2.1
theorem dL_law_240 : decode cL_law 240 = .ok (.aload_n 0, 1) := dL_law_238_g.2.2.1
theorem dL_law_241 : decode cL_law 241 = .ok (.iload 4, 2) := dL_law_238_g.2.2.2.1
theorem dL_law_243 : decode cL_law 243 = .ok (.iconst 5, 1) := dL_law_238_g.2.2.2.2.1
theorem dL_law_244 : decode cL_law 244 = .ok (.iadd, 1) := dL_law_238_g.2.2.2.2.2.1
theorem dL_law_245 : decode cL_law 245 = .ok (.iaload, 1) := dL_law_238_g.2.2.2.2.2.2.1
theorem dL_law_246 : decode cL_law 246 = .ok (.invokevirtual 27, 3) := dL_law_238_g.2.2.2.2.2.2.2
theorem dL_law_249_g : (decode cL_law 249 = .ok (.pop, 1)) ∧ (decode cL_law 250 = .ok (.goto 1344, 3)) ∧ (decode cL_law 253 = .ok (.aload_n 1, 1)) ∧ (decode cL_law 254 = .ok (.aload_n 0, 1)) ∧ (decode cL_law 255 = .ok (.iload 4, 2)) ∧ (decode cL_law 257 = .ok (.iconst 1, 1)) ∧ (decode cL_law 258 = .ok (.iadd, 1)) ∧ (decode cL_law 259 = .ok (.iaload, 1)) := by decide +kernel
theorem dL_law_249 : decode cL_law 249 = .ok (.pop, 1) := dL_law_249_g.1
theorem dL_law_250 : decode cL_law 250 = .ok (.goto 1344, 3) := dL_law_249_g.2.1
theorem dL_law_253 : decode cL_law 253 = .ok (.aload_n 1, 1) := dL_law_249_g.2.2.1
theorem dL_law_254 : decode cL_law 254 = .ok (.aload_n 0, 1) := dL_law_249_g.2.2.2.1
theorem dL_law_255 : decode cL_law 255 = .ok (.iload 4, 2) := dL_law_249_g.2.2.2.2.1
theorem dL_law_257 : decode cL_law 257 = .ok (.iconst 1, 1) := dL_law_249_g.2.2.2.2.2.1
theorem dL_law_258 : decode cL_law 258 = .ok (.iadd, 1) := dL_law_249_g.2.2.2.2.2.2.1
theorem dL_law_259 : decode cL_law 259 = .ok (.iaload, 1) := dL_law_249_g.2.2.2.2.2.2.2
theorem dL_law_260_g : (decode cL_law 260 = .ok (.aload_n 0, 1)) ∧ (decode cL_law 261 = .ok (.iload 4, 2)) ∧ (decode cL_law 263 = .ok (.iconst 2, 1)) ∧ (decode cL_law 264 = .ok (.iadd, 1)) ∧ (decode cL_law 265 = .ok (.iaload, 1)) ∧ (decode cL_law 266 = .ok (.aload_n 0, 1)) ∧ (decode cL_law 267 = .ok (.iload 4, 2)) ∧ (decode cL_law 269 = .ok (.iconst 3, 1)) := by decide +kernel
theorem dL_law_260 : decode cL_law 260 = .ok (.aload_n 0, 1) := dL_law_260_g.1
theorem dL_law_261 : decode cL_law 261 = .ok (.iload 4, 2) := dL_law_260_g.2.1
theorem dL_law_263 : decode cL_law 263 = .ok (.iconst 2, 1) := dL_law_260_g.2.2.1
theorem dL_law_264 : decode cL_law 264 = .ok (.iadd, 1) := dL_law_260_g.2.2.2.1
theorem dL_law_265 : decode cL_law 265 = .ok (.iaload, 1) := dL_law_260_g.2.2.2.2.1
theorem dL_law_266 : decode cL_law 266 = .ok (.aload_n 0, 1) := dL_law_260_g.2.2.2.2.2.1
theorem dL_law_267 : decode cL_law 267 = .ok (.iload 4, 2) := dL_law_260_g.2.2.2.2.2.2.1
theorem dL_law_269 : decode cL_law 269 = .ok (.iconst 3, 1) := dL_law_260_g.2.2.2.2.2.2.2
theorem dL_law_270_g : (decode cL_law 270 = .ok (.iadd, 1)) ∧ (decode cL_law 271 = .ok (.iaload, 1)) ∧ (decode cL_law 272 = .ok (.invokevirtual 28, 3)) ∧ (decode cL_law 275 = .ok (.pop, 1)) ∧ (decode cL_law 276 = .ok (.aload_n 2, 1)) ∧ (decode cL_law 277 = .ok (.aload_n 0, 1)) ∧ (decode cL_law 278 = .ok (.iload 4, 2)) ∧ (decode cL_law 280 = .ok (.iconst 1, 1)) := by decide +kernel
theorem dL_law_270 : decode cL_law 270 = .ok (.iadd, 1) := dL_law_270_g.1
theorem dL_law_271 : decode cL_law 271 = .ok (.iaload, 1) := dL_law_270_g.2.1
theorem dL_law_272 : decode cL_law 272 = .ok (.invokevirtual 28, 3) := dL_law_270_g.2.2.1
theorem dL_law_275 : decode cL_law 275 = .ok (.pop, 1) := dL_law_270_g.2.2.2.1
theorem dL_law_276 : decode cL_law 276 = .ok (.aload_n 2, 1) := dL_law_270_g.2.2.2.2.1
theorem dL_law_277 : decode cL_law 277 = .ok (.aload_n 0, 1) := dL_law_270_g.2.2.2.2.2.1
theorem dL_law_278 : decode cL_law 278 = .ok (.iload 4, 2) := dL_law_270_g.2.2.2.2.2.2.1
theorem dL_law_280 : decode cL_law 280 = .ok (.iconst 1, 1) := dL_law_270_g.2.2.2.2.2.2.2
theorem dL_law_281_g : (decode cL_law 281 = .ok (.iadd, 1)) ∧ (decode cL_law 282 = .ok (.iaload, 1)) ∧ (decode cL_law 283 = .ok (.aload_n 0, 1)) ∧ (decode cL_law 284 = .ok (.iload 4, 2)) ∧ (decode cL_law 286 = .ok (.iconst 2, 1)) ∧ (decode cL_law 287 = .ok (.iadd, 1)) ∧ (decode cL_law 288 = .ok (.iaload, 1)) ∧ (decode cL_law 289 = .ok (.aload_n 0, 1)) := by decide +kernel
theorem dL_law_281 : decode cL_law 281 = .ok (.iadd, 1) := dL_law_281_g.1
theorem dL_law_282 : decode cL_law 282 = .ok (.iaload, 1) := dL_law_281_g.2.1
theorem dL_law_283 : decode cL_law 283 = .ok (.aload_n 0, 1) := dL_law_281_g.2.2.1
theorem dL_law_284 : decode cL_law 284 = .ok (.iload 4, 2) := dL_law_281_g.2.2.2.1
theorem dL_law_286 : decode cL_law 286 = .ok (.iconst 2, 1) := dL_law_281_g.2.2.2.2.1
theorem dL_law_287 : decode cL_law 287 = .ok (.iadd, 1) := dL_law_281_g.2.2.2.2.2.1
theorem dL_law_288 : decode cL_law 288 = .ok (.iaload, 1) := dL_law_281_g.2.2.2.2.2.2.1
theorem dL_law_289 : decode cL_law 289 = .ok (.aload_n 0, 1) := dL_law_281_g.2.2.2.2.2.2.2
theorem dL_law_290_g : (decode cL_law 290 = .ok (.iload 4, 2)) ∧ (decode cL_law 292 = .ok (.iconst 3, 1)) ∧ (decode cL_law 293 = .ok (.iadd, 1)) ∧ (decode cL_law 294 = .ok (.iaload, 1)) ∧ (decode cL_law 295 = .ok (.invokevirtual 32, 3)) ∧ (decode cL_law 298 = .ok (.pop, 1)) ∧ (decode cL_law 299 = .ok (.goto 1295, 3)) ∧ (decode cL_law 302 = .ok (.aload_n 1, 1)) := by decide +kernel
theorem dL_law_290 : decode cL_law 290 = .ok (.iload 4, 2) := dL_law_290_g.1
theorem dL_law_292 : decode cL_law 292 = .ok (.iconst 3, 1) := dL_law_290_g.2.1
theorem dL_law_293 : decode cL_law 293 = .ok (.iadd, 1) := dL_law_290_g.2.2.1
theorem dL_law_294 : decode cL_law 294 = .ok (.iaload, 1) := dL_law_290_g.2.2.2.1
theorem dL_law_295 : decode cL_law 295 = .ok (.invokevirtual 32, 3) := dL_law_290_g.2.2.2.2.1
theorem dL_law_298 : decode cL_law 298 = .ok (.pop, 1) := dL_law_290_g.2.2.2.2.2.1
theorem dL_law_299 : decode cL_law 299 = .ok (.goto 1295, 3) := dL_law_290_g.2.2.2.2.2.2.1
theorem dL_law_302 : decode cL_law 302 = .ok (.aload_n 1, 1) := dL_law_290_g.2.2.2.2.2.2.2
theorem dL_law_303_g : (decode cL_law 303 = .ok (.aload_n 0, 1)) ∧ (decode cL_law 304 = .ok (.iload 4, 2)) ∧ (decode cL_law 306 = .ok (.iconst 1, 1)) ∧ (decode cL_law 307 = .ok (.iadd, 1)) ∧ (decode cL_law 308 = .ok (.iaload, 1)) ∧ (decode cL_law 309 = .ok (.aload_n 0, 1)) ∧ (decode cL_law 310 = .ok (.iload 4, 2)) ∧ (decode cL_law 312 = .ok (.iconst 2, 1)) := by decide +kernel
theorem dL_law_303 : decode cL_law 303 = .ok (.aload_n 0, 1) := dL_law_303_g.1
theorem dL_law_304 : decode cL_law 304 = .ok (.iload 4, 2) := dL_law_303_g.2.1
theorem dL_law_306 : decode cL_law 306 = .ok (.iconst 1, 1) := dL_law_303_g.2.2.1
theorem dL_law_307 : decode cL_law 307 = .ok (.iadd, 1) := dL_law_303_g.2.2.2.1
theorem dL_law_308 : decode cL_law 308 = .ok (.iaload, 1) := dL_law_303_g.2.2.2.2.1
theorem dL_law_309 : decode cL_law 309 = .ok (.aload_n 0, 1) := dL_law_303_g.2.2.2.2.2.1
theorem dL_law_310 : decode cL_law 310 = .ok (.iload 4, 2) := dL_law_303_g.2.2.2.2.2.2.1
theorem dL_law_312 : decode cL_law 312 = .ok (.iconst 2, 1) := dL_law_303_g.2.2.2.2.2.2.2
theorem dL_law_313_g : (decode cL_law 313 = .ok (.iadd, 1)) ∧ (decode cL_law 314 = .ok (.iaload, 1)) ∧ (decode cL_law 315 = .ok (.invokevirtual 33, 3)) ∧ (decode cL_law 318 = .ok (.pop, 1)) ∧ (decode cL_law 319 = .ok (.aload_n 2, 1)) ∧ (decode cL_law 320 = .ok (.aload_n 0, 1)) ∧ (decode cL_law 321 = .ok (.iload 4, 2)) ∧ (decode cL_law 323 = .ok (.iconst 1, 1)) := by decide +kernel
theorem dL_law_313 : decode cL_law 313 = .ok (.iadd, 1) := dL_law_313_g.1
theorem dL_law_314 : decode cL_law 314 = .ok (.iaload, 1) := dL_law_313_g.2.1
theorem dL_law_315 : decode cL_law 315 = .ok (.invokevirtual 33, 3) := dL_law_313_g.2.2.1
theorem dL_law_318 : decode cL_law 318 = .ok (.pop, 1) := dL_law_313_g.2.2.2.1
theorem dL_law_319 : decode cL_law 319 = .ok (.aload_n 2, 1) := dL_law_313_g.2.2.2.2.1
theorem dL_law_320 : decode cL_law 320 = .ok (.aload_n 0, 1) := dL_law_313_g.2.2.2.2.2.1
theorem dL_law_321 : decode cL_law 321 = .ok (.iload 4, 2) := dL_law_313_g.2.2.2.2.2.2.1
theorem dL_law_323 : decode cL_law 323 = .ok (.iconst 1, 1) := dL_law_313_g.2.2.2.2.2.2.2
theorem dL_law_324_g : (decode cL_law 324 = .ok (.iadd, 1)) ∧ (decode cL_law 325 = .ok (.iaload, 1)) ∧ (decode cL_law 326 = .ok (.aload_n 0, 1)) ∧ (decode cL_law 327 = .ok (.iload 4, 2)) ∧ (decode cL_law 329 = .ok (.iconst 2, 1)) ∧ (decode cL_law 330 = .ok (.iadd, 1)) ∧ (decode cL_law 331 = .ok (.iaload, 1)) ∧ (decode cL_law 332 = .ok (.invokevirtual 37, 3)) := by decide +kernel
theorem dL_law_324 : decode cL_law 324 = .ok (.iadd, 1) := dL_law_324_g.1
theorem dL_law_325 : decode cL_law 325 = .ok (.iaload, 1) := dL_law_324_g.2.1
theorem dL_law_326 : decode cL_law 326 = .ok (.aload_n 0, 1) := dL_law_324_g.2.2.1
theorem dL_law_327 : decode cL_law 327 = .ok (.iload 4, 2) := dL_law_324_g.2.2.2.1
theorem dL_law_329 : decode cL_law 329 = .ok (.iconst 2, 1) := dL_law_324_g.2.2.2.2.1
theorem dL_law_330 : decode cL_law 330 = .ok (.iadd, 1) := dL_law_324_g.2.2.2.2.2.1
theorem dL_law_331 : decode cL_law 331 = .ok (.iaload, 1) := dL_law_324_g.2.2.2.2.2.2.1
theorem dL_law_332 : decode cL_law 332 = .ok (.invokevirtual 37, 3) := dL_law_324_g.2.2.2.2.2.2.2
theorem dL_law_335_g : (decode cL_law 335 = .ok (.pop, 1)) ∧ (decode cL_law 336 = .ok (.goto 1258, 3)) ∧ (decode cL_law 339 = .ok (.aload_n 1, 1)) ∧ (decode cL_law 340 = .ok (.aload_n 0, 1)) ∧ (decode cL_law 341 = .ok (.iload 4, 2)) ∧ (decode cL_law 343 = .ok (.iconst 1, 1)) := by decide +kernel
theorem dL_law_335 : decode cL_law 335 = .ok (.pop, 1) := dL_law_335_g.1
theorem dL_law_336 : decode cL_law 336 = .ok (.goto 1258, 3) := dL_law_335_g.2.1
theorem dL_law_339 : decode cL_law 339 = .ok (.aload_n 1, 1) := dL_law_335_g.2.2.1
theorem dL_law_340 : decode cL_law 340 = .ok (.aload_n 0, 1) := dL_law_335_g.2.2.2.1
theorem dL_law_341 : decode cL_law 341 = .ok (.iload 4, 2) := dL_law_335_g.2.2.2.2.1
theorem dL_law_343 : decode cL_law 343 = .ok (.iconst 1, 1) := dL_law_335_g.2.2.2.2.2

