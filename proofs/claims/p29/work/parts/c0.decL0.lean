theorem dB_law_0 : ((((decode cL_law 0 = .ok (.new 7, 3)) ∧ (decode cL_law 3 = .ok (.dup, 1))) ∧ ((decode cL_law 4 = .ok (.invokespecial 9, 3)) ∧ (decode cL_law 7 = .ok (.astore_n 1, 1)))) ∧ (((decode cL_law 8 = .ok (.new 10, 3)) ∧ (decode cL_law 11 = .ok (.dup, 1))) ∧ ((decode cL_law 12 = .ok (.invokespecial 12, 3)) ∧ (decode cL_law 15 = .ok (.astore_n 2, 1))))) ∧ ((((decode cL_law 16 = .ok (.iconst 0, 1)) ∧ (decode cL_law 17 = .ok (.istore_n 3, 1))) ∧ ((decode cL_law 18 = .ok (.iload_n 3, 1)) ∧ (decode cL_law 19 = .ok (.aload_n 0, 1)))) ∧ (((decode cL_law 20 = .ok (.arraylength, 1)) ∧ (decode cL_law 21 = .ok (.bipush 7, 2))) ∧ ((decode cL_law 23 = .ok (.isub, 1)) ∧ (decode cL_law 24 = .ok (.if_icmp .gt 1315, 3))))) := by first | decide +kernel | ((repeat' apply And.intro) <;> decide +kernel)
theorem dL_law_0 : decode cL_law 0 = .ok (.new 7, 3) := dB_law_0.1.1.1.1
theorem dL_law_3 : decode cL_law 3 = .ok (.dup, 1) := dB_law_0.1.1.1.2
theorem dL_law_4 : decode cL_law 4 = .ok (.invokespecial 9, 3) := dB_law_0.1.1.2.1
theorem dL_law_7 : decode cL_law 7 = .ok (.astore_n 1, 1) := dB_law_0.1.1.2.2
theorem dL_law_8 : decode cL_law 8 = .ok (.new 10, 3) := dB_law_0.1.2.1.1
theorem dL_law_11 : decode cL_law 11 = .ok (.dup, 1) := dB_law_0.1.2.1.2
theorem dL_law_12 : decode cL_law 12 = .ok (.invokespecial 12, 3) := dB_law_0.1.2.2.1
theorem dL_law_15 : decode cL_law 15 = .ok (.astore_n 2, 1) := dB_law_0.1.2.2.2
theorem dL_law_16 : decode cL_law 16 = .ok (.iconst 0, 1) := dB_law_0.2.1.1.1
theorem dL_law_17 : decode cL_law 17 = .ok (.istore_n 3, 1) := dB_law_0.2.1.1.2
theorem dL_law_18 : decode cL_law 18 = .ok (.iload_n 3, 1) := dB_law_0.2.1.2.1
theorem dL_law_19 : decode cL_law 19 = .ok (.aload_n 0, 1) := dB_law_0.2.1.2.2
theorem dL_law_20 : decode cL_law 20 = .ok (.arraylength, 1) := dB_law_0.2.2.1.1
theorem dL_law_21 : decode cL_law 21 = .ok (.bipush 7, 2) := dB_law_0.2.2.1.2
theorem dL_law_23 : decode cL_law 23 = .ok (.isub, 1) := dB_law_0.2.2.2.1
theorem dL_law_24 : decode cL_law 24 = .ok (.if_icmp .gt 1315, 3) := dB_law_0.2.2.2.2
theorem dB_law_1 : ((((decode cL_law 27 = .ok (.aload_n 0, 1)) ∧ (decode cL_law 28 = .ok (.iload_n 3, 1))) ∧ ((decode cL_law 29 = .ok (.iaload, 1)) ∧ (decode cL_law 30 = .ok (.bipush 63, 2)))) ∧ (((decode cL_law 32 = .ok (.iand, 1)) ∧ (decode cL_law 33 = .ok (.tableswitch 1300 0 32 #[147, 160, 223, 256, 289, 322, 335, 368, 401, 434, 477, 520, 553, 596, 639, 682, 725, 758, 791, 804, 817, 840, 863, 896, 919, 962, 1005, 1100, 1175, 1228, 1251, 1274, 1287], 147))) ∧ ((decode cL_law 180 = .ok (.aload_n 1, 1)) ∧ (decode cL_law 181 = .ok (.invokevirtual 13, 3))))) ∧ ((((decode cL_law 184 = .ok (.pop, 1)) ∧ (decode cL_law 185 = .ok (.aload_n 2, 1))) ∧ ((decode cL_law 186 = .ok (.invokevirtual 17, 3)) ∧ (decode cL_law 189 = .ok (.pop, 1)))) ∧ (((decode cL_law 190 = .ok (.goto 1143, 3)) ∧ (decode cL_law 193 = .ok (.aload_n 1, 1))) ∧ ((decode cL_law 194 = .ok (.aload_n 0, 1)) ∧ (decode cL_law 195 = .ok (.iload_n 3, 1))))) := by first | decide +kernel | ((repeat' apply And.intro) <;> decide +kernel)
theorem dL_law_27 : decode cL_law 27 = .ok (.aload_n 0, 1) := dB_law_1.1.1.1.1
theorem dL_law_28 : decode cL_law 28 = .ok (.iload_n 3, 1) := dB_law_1.1.1.1.2
theorem dL_law_29 : decode cL_law 29 = .ok (.iaload, 1) := dB_law_1.1.1.2.1
theorem dL_law_30 : decode cL_law 30 = .ok (.bipush 63, 2) := dB_law_1.1.1.2.2
theorem dL_law_32 : decode cL_law 32 = .ok (.iand, 1) := dB_law_1.1.2.1.1
theorem dL_law_33 : decode cL_law 33 = .ok (.tableswitch 1300 0 32 #[147, 160, 223, 256, 289, 322, 335, 368, 401, 434, 477, 520, 553, 596, 639, 682, 725, 758, 791, 804, 817, 840, 863, 896, 919, 962, 1005, 1100, 1175, 1228, 1251, 1274, 1287], 147) := dB_law_1.1.2.1.2
theorem dL_law_180 : decode cL_law 180 = .ok (.aload_n 1, 1) := dB_law_1.1.2.2.1
theorem dL_law_181 : decode cL_law 181 = .ok (.invokevirtual 13, 3) := dB_law_1.1.2.2.2
theorem dL_law_184 : decode cL_law 184 = .ok (.pop, 1) := dB_law_1.2.1.1.1
theorem dL_law_185 : decode cL_law 185 = .ok (.aload_n 2, 1) := dB_law_1.2.1.1.2
theorem dL_law_186 : decode cL_law 186 = .ok (.invokevirtual 17, 3) := dB_law_1.2.1.2.1
theorem dL_law_189 : decode cL_law 189 = .ok (.pop, 1) := dB_law_1.2.1.2.2
theorem dL_law_190 : decode cL_law 190 = .ok (.goto 1143, 3) := dB_law_1.2.2.1.1
theorem dL_law_193 : decode cL_law 193 = .ok (.aload_n 1, 1) := dB_law_1.2.2.1.2
theorem dL_law_194 : decode cL_law 194 = .ok (.aload_n 0, 1) := dB_law_1.2.2.2.1
theorem dL_law_195 : decode cL_law 195 = .ok (.iload_n 3, 1) := dB_law_1.2.2.2.2
theorem dB_law_2 : ((((decode cL_law 196 = .ok (.iconst 1, 1)) ∧ (decode cL_law 197 = .ok (.iadd, 1))) ∧ ((decode cL_law 198 = .ok (.iaload, 1)) ∧ (decode cL_law 199 = .ok (.aload_n 0, 1)))) ∧ (((decode cL_law 200 = .ok (.iload_n 3, 1)) ∧ (decode cL_law 201 = .ok (.iconst 2, 1))) ∧ ((decode cL_law 202 = .ok (.iadd, 1)) ∧ (decode cL_law 203 = .ok (.iaload, 1))))) ∧ ((((decode cL_law 204 = .ok (.aload_n 0, 1)) ∧ (decode cL_law 205 = .ok (.iload_n 3, 1))) ∧ ((decode cL_law 206 = .ok (.iconst 3, 1)) ∧ (decode cL_law 207 = .ok (.iadd, 1)))) ∧ (((decode cL_law 208 = .ok (.iaload, 1)) ∧ (decode cL_law 209 = .ok (.aload_n 0, 1))) ∧ ((decode cL_law 210 = .ok (.iload_n 3, 1)) ∧ (decode cL_law 211 = .ok (.iconst 4, 1))))) := by first | decide +kernel | ((repeat' apply And.intro) <;> decide +kernel)
theorem dL_law_196 : decode cL_law 196 = .ok (.iconst 1, 1) := dB_law_2.1.1.1.1
theorem dL_law_197 : decode cL_law 197 = .ok (.iadd, 1) := dB_law_2.1.1.1.2
theorem dL_law_198 : decode cL_law 198 = .ok (.iaload, 1) := dB_law_2.1.1.2.1
theorem dL_law_199 : decode cL_law 199 = .ok (.aload_n 0, 1) := dB_law_2.1.1.2.2
theorem dL_law_200 : decode cL_law 200 = .ok (.iload_n 3, 1) := dB_law_2.1.2.1.1
theorem dL_law_201 : decode cL_law 201 = .ok (.iconst 2, 1) := dB_law_2.1.2.1.2
theorem dL_law_202 : decode cL_law 202 = .ok (.iadd, 1) := dB_law_2.1.2.2.1
theorem dL_law_203 : decode cL_law 203 = .ok (.iaload, 1) := dB_law_2.1.2.2.2
theorem dL_law_204 : decode cL_law 204 = .ok (.aload_n 0, 1) := dB_law_2.2.1.1.1
theorem dL_law_205 : decode cL_law 205 = .ok (.iload_n 3, 1) := dB_law_2.2.1.1.2
theorem dL_law_206 : decode cL_law 206 = .ok (.iconst 3, 1) := dB_law_2.2.1.2.1
theorem dL_law_207 : decode cL_law 207 = .ok (.iadd, 1) := dB_law_2.2.1.2.2
theorem dL_law_208 : decode cL_law 208 = .ok (.iaload, 1) := dB_law_2.2.2.1.1
theorem dL_law_209 : decode cL_law 209 = .ok (.aload_n 0, 1) := dB_law_2.2.2.1.2
theorem dL_law_210 : decode cL_law 210 = .ok (.iload_n 3, 1) := dB_law_2.2.2.2.1
theorem dL_law_211 : decode cL_law 211 = .ok (.iconst 4, 1) := dB_law_2.2.2.2.2
theorem dB_law_3 : ((((decode cL_law 212 = .ok (.iadd, 1)) ∧ (decode cL_law 213 = .ok (.iaload, 1))) ∧ ((decode cL_law 214 = .ok (.aload_n 0, 1)) ∧ (decode cL_law 215 = .ok (.iload_n 3, 1)))) ∧ (((decode cL_law 216 = .ok (.iconst 5, 1)) ∧ (decode cL_law 217 = .ok (.iadd, 1))) ∧ ((decode cL_law 218 = .ok (.iaload, 1)) ∧ (decode cL_law 219 = .ok (.invokevirtual 18, 3))))) ∧ ((((decode cL_law 222 = .ok (.pop, 1)) ∧ (decode cL_law 223 = .ok (.aload_n 2, 1))) ∧ ((decode cL_law 224 = .ok (.aload_n 0, 1)) ∧ (decode cL_law 225 = .ok (.iload_n 3, 1)))) ∧ (((decode cL_law 226 = .ok (.iconst 1, 1)) ∧ (decode cL_law 227 = .ok (.iadd, 1))) ∧ ((decode cL_law 228 = .ok (.iaload, 1)) ∧ (decode cL_law 229 = .ok (.aload_n 0, 1))))) := by first | decide +kernel | ((repeat' apply And.intro) <;> decide +kernel)
theorem dL_law_212 : decode cL_law 212 = .ok (.iadd, 1) := dB_law_3.1.1.1.1
theorem dL_law_213 : decode cL_law 213 = .ok (.iaload, 1) := dB_law_3.1.1.1.2
theorem dL_law_214 : decode cL_law 214 = .ok (.aload_n 0, 1) := dB_law_3.1.1.2.1
theorem dL_law_215 : decode cL_law 215 = .ok (.iload_n 3, 1) := dB_law_3.1.1.2.2
theorem dL_law_216 : decode cL_law 216 = .ok (.iconst 5, 1) := dB_law_3.1.2.1.1
theorem dL_law_217 : decode cL_law 217 = .ok (.iadd, 1) := dB_law_3.1.2.1.2
theorem dL_law_218 : decode cL_law 218 = .ok (.iaload, 1) := dB_law_3.1.2.2.1
theorem dL_law_219 : decode cL_law 219 = .ok (.invokevirtual 18, 3) := dB_law_3.1.2.2.2
theorem dL_law_222 : decode cL_law 222 = .ok (.pop, 1) := dB_law_3.2.1.1.1
theorem dL_law_223 : decode cL_law 223 = .ok (.aload_n 2, 1) := dB_law_3.2.1.1.2
theorem dL_law_224 : decode cL_law 224 = .ok (.aload_n 0, 1) := dB_law_3.2.1.2.1
theorem dL_law_225 : decode cL_law 225 = .ok (.iload_n 3, 1) := dB_law_3.2.1.2.2
theorem dL_law_226 : decode cL_law 226 = .ok (.iconst 1, 1) := dB_law_3.2.2.1.1
theorem dL_law_227 : decode cL_law 227 = .ok (.iadd, 1) := dB_law_3.2.2.1.2
theorem dL_law_228 : decode cL_law 228 = .ok (.iaload, 1) := dB_law_3.2.2.2.1
theorem dL_law_229 : decode cL_law 229 = .ok (.aload_n 0, 1) := dB_law_3.2.2.2.2
theorem dB_law_4 : ((((decode cL_law 230 = .ok (.iload_n 3, 1)) ∧ (decode cL_law 231 = .ok (.iconst 2, 1))) ∧ ((decode cL_law 232 = .ok (.iadd, 1)) ∧ (decode cL_law 233 = .ok (.iaload, 1)))) ∧ (((decode cL_law 234 = .ok (.aload_n 0, 1)) ∧ (decode cL_law 235 = .ok (.iload_n 3, 1))) ∧ ((decode cL_law 236 = .ok (.iconst 3, 1)) ∧ (decode cL_law 237 = .ok (.iadd, 1))))) ∧ ((((decode cL_law 238 = .ok (.iaload, 1)) ∧ (decode cL_law 239 = .ok (.aload_n 0, 1))) ∧ ((decode cL_law 240 = .ok (.iload_n 3, 1)) ∧ (decode cL_law 241 = .ok (.iconst 4, 1)))) ∧ (((decode cL_law 242 = .ok (.iadd, 1)) ∧ (decode cL_law 243 = .ok (.iaload, 1))) ∧ ((decode cL_law 244 = .ok (.aload_n 0, 1)) ∧ (decode cL_law 245 = .ok (.iload_n 3, 1))))) := by first | decide +kernel | ((repeat' apply And.intro) <;> decide +kernel)
theorem dL_law_230 : decode cL_law 230 = .ok (.iload_n 3, 1) := dB_law_4.1.1.1.1
theorem dL_law_231 : decode cL_law 231 = .ok (.iconst 2, 1) := dB_law_4.1.1.1.2
theorem dL_law_232 : decode cL_law 232 = .ok (.iadd, 1) := dB_law_4.1.1.2.1
theorem dL_law_233 : decode cL_law 233 = .ok (.iaload, 1) := dB_law_4.1.1.2.2
theorem dL_law_234 : decode cL_law 234 = .ok (.aload_n 0, 1) := dB_law_4.1.2.1.1
theorem dL_law_235 : decode cL_law 235 = .ok (.iload_n 3, 1) := dB_law_4.1.2.1.2
theorem dL_law_236 : decode cL_law 236 = .ok (.iconst 3, 1) := dB_law_4.1.2.2.1
theorem dL_law_237 : decode cL_law 237 = .ok (.iadd, 1) := dB_law_4.1.2.2.2
theorem dL_law_238 : decode cL_law 238 = .ok (.iaload, 1) := dB_law_4.2.1.1.1
theorem dL_law_239 : decode cL_law 239 = .ok (.aload_n 0, 1) := dB_law_4.2.1.1.2
theorem dL_law_240 : decode cL_law 240 = .ok (.iload_n 3, 1) := dB_law_4.2.1.2.1
theorem dL_law_241 : decode cL_law 241 = .ok (.iconst 4, 1) := dB_law_4.2.1.2.2
theorem dL_law_242 : decode cL_law 242 = .ok (.iadd, 1) := dB_law_4.2.2.1.1
theorem dL_law_243 : decode cL_law 243 = .ok (.iaload, 1) := dB_law_4.2.2.1.2
theorem dL_law_244 : decode cL_law 244 = .ok (.aload_n 0, 1) := dB_law_4.2.2.2.1
theorem dL_law_245 : decode cL_law 245 = .ok (.iload_n 3, 1) := dB_law_4.2.2.2.2
theorem dB_law_5 : ((((decode cL_law 246 = .ok (.iconst 5, 1)) ∧ (decode cL_law 247 = .ok (.iadd, 1))) ∧ ((decode cL_law 248 = .ok (.iaload, 1)) ∧ (decode cL_law 249 = .ok (.invokevirtual 22, 3)))) ∧ (((decode cL_law 252 = .ok (.pop, 1)) ∧ (decode cL_law 253 = .ok (.goto 1080, 3))) ∧ ((decode cL_law 256 = .ok (.aload_n 1, 1)) ∧ (decode cL_law 257 = .ok (.aload_n 0, 1))))) ∧ ((((decode cL_law 258 = .ok (.iload_n 3, 1)) ∧ (decode cL_law 259 = .ok (.iconst 1, 1))) ∧ ((decode cL_law 260 = .ok (.iadd, 1)) ∧ (decode cL_law 261 = .ok (.iaload, 1)))) ∧ (((decode cL_law 262 = .ok (.aload_n 0, 1)) ∧ (decode cL_law 263 = .ok (.iload_n 3, 1))) ∧ ((decode cL_law 264 = .ok (.iconst 2, 1)) ∧ (decode cL_law 265 = .ok (.iadd, 1))))) := by first | decide +kernel | ((repeat' apply And.intro) <;> decide +kernel)
theorem dL_law_246 : decode cL_law 246 = .ok (.iconst 5, 1) := dB_law_5.1.1.1.1
theorem dL_law_247 : decode cL_law 247 = .ok (.iadd, 1) := dB_law_5.1.1.1.2
theorem dL_law_248 : decode cL_law 248 = .ok (.iaload, 1) := dB_law_5.1.1.2.1
theorem dL_law_249 : decode cL_law 249 = .ok (.invokevirtual 22, 3) := dB_law_5.1.1.2.2
theorem dL_law_252 : decode cL_law 252 = .ok (.pop, 1) := dB_law_5.1.2.1.1
theorem dL_law_253 : decode cL_law 253 = .ok (.goto 1080, 3) := dB_law_5.1.2.1.2
theorem dL_law_256 : decode cL_law 256 = .ok (.aload_n 1, 1) := dB_law_5.1.2.2.1
theorem dL_law_257 : decode cL_law 257 = .ok (.aload_n 0, 1) := dB_law_5.1.2.2.2
theorem dL_law_258 : decode cL_law 258 = .ok (.iload_n 3, 1) := dB_law_5.2.1.1.1
theorem dL_law_259 : decode cL_law 259 = .ok (.iconst 1, 1) := dB_law_5.2.1.1.2
theorem dL_law_260 : decode cL_law 260 = .ok (.iadd, 1) := dB_law_5.2.1.2.1
theorem dL_law_261 : decode cL_law 261 = .ok (.iaload, 1) := dB_law_5.2.1.2.2
theorem dL_law_262 : decode cL_law 262 = .ok (.aload_n 0, 1) := dB_law_5.2.2.1.1
theorem dL_law_263 : decode cL_law 263 = .ok (.iload_n 3, 1) := dB_law_5.2.2.1.2
theorem dL_law_264 : decode cL_law 264 = .ok (.iconst 2, 1) := dB_law_5.2.2.2.1
theorem dL_law_265 : decode cL_law 265 = .ok (.iadd, 1) := dB_law_5.2.2.2.2
theorem dB_law_6 : ((((decode cL_law 266 = .ok (.iaload, 1)) ∧ (decode cL_law 267 = .ok (.invokevirtual 23, 3))) ∧ ((decode cL_law 270 = .ok (.pop, 1)) ∧ (decode cL_law 271 = .ok (.aload_n 2, 1)))) ∧ (((decode cL_law 272 = .ok (.aload_n 0, 1)) ∧ (decode cL_law 273 = .ok (.iload_n 3, 1))) ∧ ((decode cL_law 274 = .ok (.iconst 1, 1)) ∧ (decode cL_law 275 = .ok (.iadd, 1))))) ∧ ((((decode cL_law 276 = .ok (.iaload, 1)) ∧ (decode cL_law 277 = .ok (.aload_n 0, 1))) ∧ ((decode cL_law 278 = .ok (.iload_n 3, 1)) ∧ (decode cL_law 279 = .ok (.iconst 2, 1)))) ∧ (((decode cL_law 280 = .ok (.iadd, 1)) ∧ (decode cL_law 281 = .ok (.iaload, 1))) ∧ ((decode cL_law 282 = .ok (.invokevirtual 27, 3)) ∧ (decode cL_law 285 = .ok (.pop, 1))))) := by first | decide +kernel | ((repeat' apply And.intro) <;> decide +kernel)
theorem dL_law_266 : decode cL_law 266 = .ok (.iaload, 1) := dB_law_6.1.1.1.1
theorem dL_law_267 : decode cL_law 267 = .ok (.invokevirtual 23, 3) := dB_law_6.1.1.1.2
theorem dL_law_270 : decode cL_law 270 = .ok (.pop, 1) := dB_law_6.1.1.2.1
theorem dL_law_271 : decode cL_law 271 = .ok (.aload_n 2, 1) := dB_law_6.1.1.2.2
theorem dL_law_272 : decode cL_law 272 = .ok (.aload_n 0, 1) := dB_law_6.1.2.1.1
theorem dL_law_273 : decode cL_law 273 = .ok (.iload_n 3, 1) := dB_law_6.1.2.1.2
theorem dL_law_274 : decode cL_law 274 = .ok (.iconst 1, 1) := dB_law_6.1.2.2.1
theorem dL_law_275 : decode cL_law 275 = .ok (.iadd, 1) := dB_law_6.1.2.2.2
theorem dL_law_276 : decode cL_law 276 = .ok (.iaload, 1) := dB_law_6.2.1.1.1
theorem dL_law_277 : decode cL_law 277 = .ok (.aload_n 0, 1) := dB_law_6.2.1.1.2
theorem dL_law_278 : decode cL_law 278 = .ok (.iload_n 3, 1) := dB_law_6.2.1.2.1
theorem dL_law_279 : decode cL_law 279 = .ok (.iconst 2, 1) := dB_law_6.2.1.2.2
theorem dL_law_280 : decode cL_law 280 = .ok (.iadd, 1) := dB_law_6.2.2.1.1
theorem dL_law_281 : decode cL_law 281 = .ok (.iaload, 1) := dB_law_6.2.2.1.2
theorem dL_law_282 : decode cL_law 282 = .ok (.invokevirtual 27, 3) := dB_law_6.2.2.2.1
theorem dL_law_285 : decode cL_law 285 = .ok (.pop, 1) := dB_law_6.2.2.2.2
theorem dB_law_7 : ((((decode cL_law 286 = .ok (.goto 1047, 3)) ∧ (decode cL_law 289 = .ok (.aload_n 1, 1))) ∧ ((decode cL_law 290 = .ok (.aload_n 0, 1)) ∧ (decode cL_law 291 = .ok (.iload_n 3, 1)))) ∧ (((decode cL_law 292 = .ok (.iconst 1, 1)) ∧ (decode cL_law 293 = .ok (.iadd, 1))) ∧ ((decode cL_law 294 = .ok (.iaload, 1)) ∧ (decode cL_law 295 = .ok (.aload_n 0, 1))))) ∧ ((((decode cL_law 296 = .ok (.iload_n 3, 1)) ∧ (decode cL_law 297 = .ok (.iconst 2, 1))) ∧ ((decode cL_law 298 = .ok (.iadd, 1)) ∧ (decode cL_law 299 = .ok (.iaload, 1)))) ∧ (((decode cL_law 300 = .ok (.invokevirtual 28, 3)) ∧ (decode cL_law 303 = .ok (.pop, 1))) ∧ ((decode cL_law 304 = .ok (.aload_n 2, 1)) ∧ (decode cL_law 305 = .ok (.aload_n 0, 1))))) := by first | decide +kernel | ((repeat' apply And.intro) <;> decide +kernel)
theorem dL_law_286 : decode cL_law 286 = .ok (.goto 1047, 3) := dB_law_7.1.1.1.1
theorem dL_law_289 : decode cL_law 289 = .ok (.aload_n 1, 1) := dB_law_7.1.1.1.2
theorem dL_law_290 : decode cL_law 290 = .ok (.aload_n 0, 1) := dB_law_7.1.1.2.1
theorem dL_law_291 : decode cL_law 291 = .ok (.iload_n 3, 1) := dB_law_7.1.1.2.2
theorem dL_law_292 : decode cL_law 292 = .ok (.iconst 1, 1) := dB_law_7.1.2.1.1
theorem dL_law_293 : decode cL_law 293 = .ok (.iadd, 1) := dB_law_7.1.2.1.2
theorem dL_law_294 : decode cL_law 294 = .ok (.iaload, 1) := dB_law_7.1.2.2.1
theorem dL_law_295 : decode cL_law 295 = .ok (.aload_n 0, 1) := dB_law_7.1.2.2.2
theorem dL_law_296 : decode cL_law 296 = .ok (.iload_n 3, 1) := dB_law_7.2.1.1.1
theorem dL_law_297 : decode cL_law 297 = .ok (.iconst 2, 1) := dB_law_7.2.1.1.2
theorem dL_law_298 : decode cL_law 298 = .ok (.iadd, 1) := dB_law_7.2.1.2.1
theorem dL_law_299 : decode cL_law 299 = .ok (.iaload, 1) := dB_law_7.2.1.2.2
theorem dL_law_300 : decode cL_law 300 = .ok (.invokevirtual 28, 3) := dB_law_7.2.2.1.1
theorem dL_law_303 : decode cL_law 303 = .ok (.pop, 1) := dB_law_7.2.2.1.2
theorem dL_law_304 : decode cL_law 304 = .ok (.aload_n 2, 1) := dB_law_7.2.2.2.1
theorem dL_law_305 : decode cL_law 305 = .ok (.aload_n 0, 1) := dB_law_7.2.2.2.2
theorem dB_law_8 : ((((decode cL_law 306 = .ok (.iload_n 3, 1)) ∧ (decode cL_law 307 = .ok (.iconst 1, 1))) ∧ ((decode cL_law 308 = .ok (.iadd, 1)) ∧ (decode cL_law 309 = .ok (.iaload, 1)))) ∧ (((decode cL_law 310 = .ok (.aload_n 0, 1)) ∧ (decode cL_law 311 = .ok (.iload_n 3, 1))) ∧ ((decode cL_law 312 = .ok (.iconst 2, 1)) ∧ (decode cL_law 313 = .ok (.iadd, 1))))) ∧ ((((decode cL_law 314 = .ok (.iaload, 1)) ∧ (decode cL_law 315 = .ok (.invokevirtual 31, 3))) ∧ ((decode cL_law 318 = .ok (.pop, 1)) ∧ (decode cL_law 319 = .ok (.goto 1014, 3)))) ∧ (((decode cL_law 322 = .ok (.aload_n 1, 1)) ∧ (decode cL_law 323 = .ok (.aload_n 0, 1))) ∧ ((decode cL_law 324 = .ok (.iload_n 3, 1)) ∧ (decode cL_law 325 = .ok (.iconst 1, 1))))) := by first | decide +kernel | ((repeat' apply And.intro) <;> decide +kernel)
theorem dL_law_306 : decode cL_law 306 = .ok (.iload_n 3, 1) := dB_law_8.1.1.1.1
theorem dL_law_307 : decode cL_law 307 = .ok (.iconst 1, 1) := dB_law_8.1.1.1.2
theorem dL_law_308 : decode cL_law 308 = .ok (.iadd, 1) := dB_law_8.1.1.2.1
theorem dL_law_309 : decode cL_law 309 = .ok (.iaload, 1) := dB_law_8.1.1.2.2
theorem dL_law_310 : decode cL_law 310 = .ok (.aload_n 0, 1) := dB_law_8.1.2.1.1
theorem dL_law_311 : decode cL_law 311 = .ok (.iload_n 3, 1) := dB_law_8.1.2.1.2
theorem dL_law_312 : decode cL_law 312 = .ok (.iconst 2, 1) := dB_law_8.1.2.2.1
theorem dL_law_313 : decode cL_law 313 = .ok (.iadd, 1) := dB_law_8.1.2.2.2
theorem dL_law_314 : decode cL_law 314 = .ok (.iaload, 1) := dB_law_8.2.1.1.1
theorem dL_law_315 : decode cL_law 315 = .ok (.invokevirtual 31, 3) := dB_law_8.2.1.1.2
theorem dL_law_318 : decode cL_law 318 = .ok (.pop, 1) := dB_law_8.2.1.2.1
theorem dL_law_319 : decode cL_law 319 = .ok (.goto 1014, 3) := dB_law_8.2.1.2.2
theorem dL_law_322 : decode cL_law 322 = .ok (.aload_n 1, 1) := dB_law_8.2.2.1.1
theorem dL_law_323 : decode cL_law 323 = .ok (.aload_n 0, 1) := dB_law_8.2.2.1.2
theorem dL_law_324 : decode cL_law 324 = .ok (.iload_n 3, 1) := dB_law_8.2.2.2.1
theorem dL_law_325 : decode cL_law 325 = .ok (.iconst 1, 1) := dB_law_8.2.2.2.2
theorem dB_law_9 : ((((decode cL_law 326 = .ok (.iadd, 1)) ∧ (decode cL_law 327 = .ok (.iaload, 1))) ∧ ((decode cL_law 328 = .ok (.aload_n 0, 1)) ∧ (decode cL_law 329 = .ok (.iload_n 3, 1)))) ∧ (((decode cL_law 330 = .ok (.iconst 2, 1)) ∧ (decode cL_law 331 = .ok (.iadd, 1))) ∧ ((decode cL_law 332 = .ok (.iaload, 1)) ∧ (decode cL_law 333 = .ok (.invokevirtual 32, 3))))) ∧ ((((decode cL_law 336 = .ok (.pop, 1)) ∧ (decode cL_law 337 = .ok (.aload_n 2, 1))) ∧ ((decode cL_law 338 = .ok (.aload_n 0, 1)) ∧ (decode cL_law 339 = .ok (.iload_n 3, 1)))) ∧ (((decode cL_law 340 = .ok (.iconst 1, 1)) ∧ (decode cL_law 341 = .ok (.iadd, 1))) ∧ ((decode cL_law 342 = .ok (.iaload, 1)) ∧ (decode cL_law 343 = .ok (.aload_n 0, 1))))) := by first | decide +kernel | ((repeat' apply And.intro) <;> decide +kernel)
theorem dL_law_326 : decode cL_law 326 = .ok (.iadd, 1) := dB_law_9.1.1.1.1
theorem dL_law_327 : decode cL_law 327 = .ok (.iaload, 1) := dB_law_9.1.1.1.2
theorem dL_law_328 : decode cL_law 328 = .ok (.aload_n 0, 1) := dB_law_9.1.1.2.1
theorem dL_law_329 : decode cL_law 329 = .ok (.iload_n 3, 1) := dB_law_9.1.1.2.2
theorem dL_law_330 : decode cL_law 330 = .ok (.iconst 2, 1) := dB_law_9.1.2.1.1
theorem dL_law_331 : decode cL_law 331 = .ok (.iadd, 1) := dB_law_9.1.2.1.2
theorem dL_law_332 : decode cL_law 332 = .ok (.iaload, 1) := dB_law_9.1.2.2.1
theorem dL_law_333 : decode cL_law 333 = .ok (.invokevirtual 32, 3) := dB_law_9.1.2.2.2
theorem dL_law_336 : decode cL_law 336 = .ok (.pop, 1) := dB_law_9.2.1.1.1
theorem dL_law_337 : decode cL_law 337 = .ok (.aload_n 2, 1) := dB_law_9.2.1.1.2
theorem dL_law_338 : decode cL_law 338 = .ok (.aload_n 0, 1) := dB_law_9.2.1.2.1
theorem dL_law_339 : decode cL_law 339 = .ok (.iload_n 3, 1) := dB_law_9.2.1.2.2
theorem dL_law_340 : decode cL_law 340 = .ok (.iconst 1, 1) := dB_law_9.2.2.1.1
theorem dL_law_341 : decode cL_law 341 = .ok (.iadd, 1) := dB_law_9.2.2.1.2
theorem dL_law_342 : decode cL_law 342 = .ok (.iaload, 1) := dB_law_9.2.2.2.1
theorem dL_law_343 : decode cL_law 343 = .ok (.aload_n 0, 1) := dB_law_9.2.2.2.2
theorem dB_law_10 : ((((decode cL_law 344 = .ok (.iload_n 3, 1)) ∧ (decode cL_law 345 = .ok (.iconst 2, 1))) ∧ ((decode cL_law 346 = .ok (.iadd, 1)) ∧ (decode cL_law 347 = .ok (.iaload, 1)))) ∧ (((decode cL_law 348 = .ok (.invokevirtual 35, 3)) ∧ (decode cL_law 351 = .ok (.pop, 1))) ∧ ((decode cL_law 352 = .ok (.goto 981, 3)) ∧ (decode cL_law 355 = .ok (.aload_n 1, 1))))) ∧ ((((decode cL_law 356 = .ok (.invokevirtual 36, 3)) ∧ (decode cL_law 359 = .ok (.pop, 1))) ∧ ((decode cL_law 360 = .ok (.aload_n 2, 1)) ∧ (decode cL_law 361 = .ok (.invokevirtual 39, 3)))) ∧ (((decode cL_law 364 = .ok (.pop, 1)) ∧ (decode cL_law 365 = .ok (.goto 968, 3))) ∧ ((decode cL_law 368 = .ok (.aload_n 1, 1)) ∧ (decode cL_law 369 = .ok (.aload_n 0, 1))))) := by first | decide +kernel | ((repeat' apply And.intro) <;> decide +kernel)
theorem dL_law_344 : decode cL_law 344 = .ok (.iload_n 3, 1) := dB_law_10.1.1.1.1
theorem dL_law_345 : decode cL_law 345 = .ok (.iconst 2, 1) := dB_law_10.1.1.1.2
theorem dL_law_346 : decode cL_law 346 = .ok (.iadd, 1) := dB_law_10.1.1.2.1
theorem dL_law_347 : decode cL_law 347 = .ok (.iaload, 1) := dB_law_10.1.1.2.2
theorem dL_law_348 : decode cL_law 348 = .ok (.invokevirtual 35, 3) := dB_law_10.1.2.1.1
theorem dL_law_351 : decode cL_law 351 = .ok (.pop, 1) := dB_law_10.1.2.1.2
theorem dL_law_352 : decode cL_law 352 = .ok (.goto 981, 3) := dB_law_10.1.2.2.1
theorem dL_law_355 : decode cL_law 355 = .ok (.aload_n 1, 1) := dB_law_10.1.2.2.2
theorem dL_law_356 : decode cL_law 356 = .ok (.invokevirtual 36, 3) := dB_law_10.2.1.1.1
theorem dL_law_359 : decode cL_law 359 = .ok (.pop, 1) := dB_law_10.2.1.1.2
theorem dL_law_360 : decode cL_law 360 = .ok (.aload_n 2, 1) := dB_law_10.2.1.2.1
theorem dL_law_361 : decode cL_law 361 = .ok (.invokevirtual 39, 3) := dB_law_10.2.1.2.2
theorem dL_law_364 : decode cL_law 364 = .ok (.pop, 1) := dB_law_10.2.2.1.1
theorem dL_law_365 : decode cL_law 365 = .ok (.goto 968, 3) := dB_law_10.2.2.1.2
theorem dL_law_368 : decode cL_law 368 = .ok (.aload_n 1, 1) := dB_law_10.2.2.2.1
theorem dL_law_369 : decode cL_law 369 = .ok (.aload_n 0, 1) := dB_law_10.2.2.2.2
theorem dB_law_11 : ((((decode cL_law 370 = .ok (.iload_n 3, 1)) ∧ (decode cL_law 371 = .ok (.iconst 1, 1))) ∧ ((decode cL_law 372 = .ok (.iadd, 1)) ∧ (decode cL_law 373 = .ok (.iaload, 1)))) ∧ (((decode cL_law 374 = .ok (.aload_n 0, 1)) ∧ (decode cL_law 375 = .ok (.iload_n 3, 1))) ∧ ((decode cL_law 376 = .ok (.iconst 2, 1)) ∧ (decode cL_law 377 = .ok (.iadd, 1))))) ∧ ((((decode cL_law 378 = .ok (.iaload, 1)) ∧ (decode cL_law 379 = .ok (.invokevirtual 40, 3))) ∧ ((decode cL_law 382 = .ok (.pop, 1)) ∧ (decode cL_law 383 = .ok (.aload_n 2, 1)))) ∧ (((decode cL_law 384 = .ok (.aload_n 0, 1)) ∧ (decode cL_law 385 = .ok (.iload_n 3, 1))) ∧ ((decode cL_law 386 = .ok (.iconst 1, 1)) ∧ (decode cL_law 387 = .ok (.iadd, 1))))) := by first | decide +kernel | ((repeat' apply And.intro) <;> decide +kernel)
theorem dL_law_370 : decode cL_law 370 = .ok (.iload_n 3, 1) := dB_law_11.1.1.1.1
theorem dL_law_371 : decode cL_law 371 = .ok (.iconst 1, 1) := dB_law_11.1.1.1.2
theorem dL_law_372 : decode cL_law 372 = .ok (.iadd, 1) := dB_law_11.1.1.2.1
theorem dL_law_373 : decode cL_law 373 = .ok (.iaload, 1) := dB_law_11.1.1.2.2
theorem dL_law_374 : decode cL_law 374 = .ok (.aload_n 0, 1) := dB_law_11.1.2.1.1
theorem dL_law_375 : decode cL_law 375 = .ok (.iload_n 3, 1) := dB_law_11.1.2.1.2
theorem dL_law_376 : decode cL_law 376 = .ok (.iconst 2, 1) := dB_law_11.1.2.2.1
theorem dL_law_377 : decode cL_law 377 = .ok (.iadd, 1) := dB_law_11.1.2.2.2
theorem dL_law_378 : decode cL_law 378 = .ok (.iaload, 1) := dB_law_11.2.1.1.1
theorem dL_law_379 : decode cL_law 379 = .ok (.invokevirtual 40, 3) := dB_law_11.2.1.1.2
theorem dL_law_382 : decode cL_law 382 = .ok (.pop, 1) := dB_law_11.2.1.2.1
theorem dL_law_383 : decode cL_law 383 = .ok (.aload_n 2, 1) := dB_law_11.2.1.2.2
theorem dL_law_384 : decode cL_law 384 = .ok (.aload_n 0, 1) := dB_law_11.2.2.1.1
theorem dL_law_385 : decode cL_law 385 = .ok (.iload_n 3, 1) := dB_law_11.2.2.1.2
theorem dL_law_386 : decode cL_law 386 = .ok (.iconst 1, 1) := dB_law_11.2.2.2.1
theorem dL_law_387 : decode cL_law 387 = .ok (.iadd, 1) := dB_law_11.2.2.2.2
theorem dB_law_12 : ((((decode cL_law 388 = .ok (.iaload, 1)) ∧ (decode cL_law 389 = .ok (.aload_n 0, 1))) ∧ ((decode cL_law 390 = .ok (.iload_n 3, 1)) ∧ (decode cL_law 391 = .ok (.iconst 2, 1)))) ∧ (((decode cL_law 392 = .ok (.iadd, 1)) ∧ (decode cL_law 393 = .ok (.iaload, 1))) ∧ ((decode cL_law 394 = .ok (.invokevirtual 43, 3)) ∧ (decode cL_law 397 = .ok (.pop, 1))))) ∧ ((((decode cL_law 398 = .ok (.goto 935, 3)) ∧ (decode cL_law 401 = .ok (.aload_n 1, 1))) ∧ ((decode cL_law 402 = .ok (.aload_n 0, 1)) ∧ (decode cL_law 403 = .ok (.iload_n 3, 1)))) ∧ (((decode cL_law 404 = .ok (.iconst 1, 1)) ∧ (decode cL_law 405 = .ok (.iadd, 1))) ∧ ((decode cL_law 406 = .ok (.iaload, 1)) ∧ (decode cL_law 407 = .ok (.aload_n 0, 1))))) := by first | decide +kernel | ((repeat' apply And.intro) <;> decide +kernel)
theorem dL_law_388 : decode cL_law 388 = .ok (.iaload, 1) := dB_law_12.1.1.1.1
theorem dL_law_389 : decode cL_law 389 = .ok (.aload_n 0, 1) := dB_law_12.1.1.1.2
theorem dL_law_390 : decode cL_law 390 = .ok (.iload_n 3, 1) := dB_law_12.1.1.2.1
theorem dL_law_391 : decode cL_law 391 = .ok (.iconst 2, 1) := dB_law_12.1.1.2.2
theorem dL_law_392 : decode cL_law 392 = .ok (.iadd, 1) := dB_law_12.1.2.1.1
theorem dL_law_393 : decode cL_law 393 = .ok (.iaload, 1) := dB_law_12.1.2.1.2
theorem dL_law_394 : decode cL_law 394 = .ok (.invokevirtual 43, 3) := dB_law_12.1.2.2.1
theorem dL_law_397 : decode cL_law 397 = .ok (.pop, 1) := dB_law_12.1.2.2.2
theorem dL_law_398 : decode cL_law 398 = .ok (.goto 935, 3) := dB_law_12.2.1.1.1
theorem dL_law_401 : decode cL_law 401 = .ok (.aload_n 1, 1) := dB_law_12.2.1.1.2
theorem dL_law_402 : decode cL_law 402 = .ok (.aload_n 0, 1) := dB_law_12.2.1.2.1
theorem dL_law_403 : decode cL_law 403 = .ok (.iload_n 3, 1) := dB_law_12.2.1.2.2
theorem dL_law_404 : decode cL_law 404 = .ok (.iconst 1, 1) := dB_law_12.2.2.1.1
theorem dL_law_405 : decode cL_law 405 = .ok (.iadd, 1) := dB_law_12.2.2.1.2
theorem dL_law_406 : decode cL_law 406 = .ok (.iaload, 1) := dB_law_12.2.2.2.1
theorem dL_law_407 : decode cL_law 407 = .ok (.aload_n 0, 1) := dB_law_12.2.2.2.2
theorem dB_law_13 : ((((decode cL_law 408 = .ok (.iload_n 3, 1)) ∧ (decode cL_law 409 = .ok (.iconst 2, 1))) ∧ ((decode cL_law 410 = .ok (.iadd, 1)) ∧ (decode cL_law 411 = .ok (.iaload, 1)))) ∧ (((decode cL_law 412 = .ok (.invokevirtual 44, 3)) ∧ (decode cL_law 415 = .ok (.pop, 1))) ∧ ((decode cL_law 416 = .ok (.aload_n 2, 1)) ∧ (decode cL_law 417 = .ok (.aload_n 0, 1))))) ∧ ((((decode cL_law 418 = .ok (.iload_n 3, 1)) ∧ (decode cL_law 419 = .ok (.iconst 1, 1))) ∧ ((decode cL_law 420 = .ok (.iadd, 1)) ∧ (decode cL_law 421 = .ok (.iaload, 1)))) ∧ (((decode cL_law 422 = .ok (.aload_n 0, 1)) ∧ (decode cL_law 423 = .ok (.iload_n 3, 1))) ∧ ((decode cL_law 424 = .ok (.iconst 2, 1)) ∧ (decode cL_law 425 = .ok (.iadd, 1))))) := by first | decide +kernel | ((repeat' apply And.intro) <;> decide +kernel)
theorem dL_law_408 : decode cL_law 408 = .ok (.iload_n 3, 1) := dB_law_13.1.1.1.1
theorem dL_law_409 : decode cL_law 409 = .ok (.iconst 2, 1) := dB_law_13.1.1.1.2
theorem dL_law_410 : decode cL_law 410 = .ok (.iadd, 1) := dB_law_13.1.1.2.1
theorem dL_law_411 : decode cL_law 411 = .ok (.iaload, 1) := dB_law_13.1.1.2.2
theorem dL_law_412 : decode cL_law 412 = .ok (.invokevirtual 44, 3) := dB_law_13.1.2.1.1
theorem dL_law_415 : decode cL_law 415 = .ok (.pop, 1) := dB_law_13.1.2.1.2
theorem dL_law_416 : decode cL_law 416 = .ok (.aload_n 2, 1) := dB_law_13.1.2.2.1
theorem dL_law_417 : decode cL_law 417 = .ok (.aload_n 0, 1) := dB_law_13.1.2.2.2
theorem dL_law_418 : decode cL_law 418 = .ok (.iload_n 3, 1) := dB_law_13.2.1.1.1
theorem dL_law_419 : decode cL_law 419 = .ok (.iconst 1, 1) := dB_law_13.2.1.1.2
theorem dL_law_420 : decode cL_law 420 = .ok (.iadd, 1) := dB_law_13.2.1.2.1
theorem dL_law_421 : decode cL_law 421 = .ok (.iaload, 1) := dB_law_13.2.1.2.2
theorem dL_law_422 : decode cL_law 422 = .ok (.aload_n 0, 1) := dB_law_13.2.2.1.1
theorem dL_law_423 : decode cL_law 423 = .ok (.iload_n 3, 1) := dB_law_13.2.2.1.2
theorem dL_law_424 : decode cL_law 424 = .ok (.iconst 2, 1) := dB_law_13.2.2.2.1
theorem dL_law_425 : decode cL_law 425 = .ok (.iadd, 1) := dB_law_13.2.2.2.2
theorem dB_law_14 : ((((decode cL_law 426 = .ok (.iaload, 1)) ∧ (decode cL_law 427 = .ok (.invokevirtual 47, 3))) ∧ ((decode cL_law 430 = .ok (.pop, 1)) ∧ (decode cL_law 431 = .ok (.goto 902, 3)))) ∧ (((decode cL_law 434 = .ok (.aload_n 1, 1)) ∧ (decode cL_law 435 = .ok (.aload_n 0, 1))) ∧ ((decode cL_law 436 = .ok (.iload_n 3, 1)) ∧ (decode cL_law 437 = .ok (.iconst 1, 1))))) ∧ ((((decode cL_law 438 = .ok (.iadd, 1)) ∧ (decode cL_law 439 = .ok (.iaload, 1))) ∧ ((decode cL_law 440 = .ok (.aload_n 0, 1)) ∧ (decode cL_law 441 = .ok (.iload_n 3, 1)))) ∧ (((decode cL_law 442 = .ok (.iconst 2, 1)) ∧ (decode cL_law 443 = .ok (.iadd, 1))) ∧ ((decode cL_law 444 = .ok (.iaload, 1)) ∧ (decode cL_law 445 = .ok (.invokevirtual 48, 3))))) := by first | decide +kernel | ((repeat' apply And.intro) <;> decide +kernel)
theorem dL_law_426 : decode cL_law 426 = .ok (.iaload, 1) := dB_law_14.1.1.1.1
theorem dL_law_427 : decode cL_law 427 = .ok (.invokevirtual 47, 3) := dB_law_14.1.1.1.2
theorem dL_law_430 : decode cL_law 430 = .ok (.pop, 1) := dB_law_14.1.1.2.1
theorem dL_law_431 : decode cL_law 431 = .ok (.goto 902, 3) := dB_law_14.1.1.2.2
theorem dL_law_434 : decode cL_law 434 = .ok (.aload_n 1, 1) := dB_law_14.1.2.1.1
theorem dL_law_435 : decode cL_law 435 = .ok (.aload_n 0, 1) := dB_law_14.1.2.1.2
theorem dL_law_436 : decode cL_law 436 = .ok (.iload_n 3, 1) := dB_law_14.1.2.2.1
theorem dL_law_437 : decode cL_law 437 = .ok (.iconst 1, 1) := dB_law_14.1.2.2.2
theorem dL_law_438 : decode cL_law 438 = .ok (.iadd, 1) := dB_law_14.2.1.1.1
theorem dL_law_439 : decode cL_law 439 = .ok (.iaload, 1) := dB_law_14.2.1.1.2
theorem dL_law_440 : decode cL_law 440 = .ok (.aload_n 0, 1) := dB_law_14.2.1.2.1
theorem dL_law_441 : decode cL_law 441 = .ok (.iload_n 3, 1) := dB_law_14.2.1.2.2
theorem dL_law_442 : decode cL_law 442 = .ok (.iconst 2, 1) := dB_law_14.2.2.1.1
theorem dL_law_443 : decode cL_law 443 = .ok (.iadd, 1) := dB_law_14.2.2.1.2
theorem dL_law_444 : decode cL_law 444 = .ok (.iaload, 1) := dB_law_14.2.2.2.1
theorem dL_law_445 : decode cL_law 445 = .ok (.invokevirtual 48, 3) := dB_law_14.2.2.2.2
theorem dB_law_15 : ((((decode cL_law 448 = .ok (.pop, 1)) ∧ (decode cL_law 449 = .ok (.aload_n 2, 1))) ∧ ((decode cL_law 450 = .ok (.aload_n 0, 1)) ∧ (decode cL_law 451 = .ok (.iload_n 3, 1)))) ∧ (((decode cL_law 452 = .ok (.iconst 1, 1)) ∧ (decode cL_law 453 = .ok (.iadd, 1))) ∧ ((decode cL_law 454 = .ok (.iaload, 1)) ∧ (decode cL_law 455 = .ok (.aload_n 0, 1))))) ∧ ((((decode cL_law 456 = .ok (.iload_n 3, 1)) ∧ (decode cL_law 457 = .ok (.iconst 2, 1))) ∧ ((decode cL_law 458 = .ok (.iadd, 1)) ∧ (decode cL_law 459 = .ok (.iaload, 1)))) ∧ (((decode cL_law 460 = .ok (.invokevirtual 51, 3)) ∧ (decode cL_law 463 = .ok (.pop, 1))) ∧ ((decode cL_law 464 = .ok (.goto 869, 3)) ∧ (decode cL_law 467 = .ok (.aload_n 1, 1))))) := by first | decide +kernel | ((repeat' apply And.intro) <;> decide +kernel)
theorem dL_law_448 : decode cL_law 448 = .ok (.pop, 1) := dB_law_15.1.1.1.1
theorem dL_law_449 : decode cL_law 449 = .ok (.aload_n 2, 1) := dB_law_15.1.1.1.2
theorem dL_law_450 : decode cL_law 450 = .ok (.aload_n 0, 1) := dB_law_15.1.1.2.1
theorem dL_law_451 : decode cL_law 451 = .ok (.iload_n 3, 1) := dB_law_15.1.1.2.2
theorem dL_law_452 : decode cL_law 452 = .ok (.iconst 1, 1) := dB_law_15.1.2.1.1
theorem dL_law_453 : decode cL_law 453 = .ok (.iadd, 1) := dB_law_15.1.2.1.2
theorem dL_law_454 : decode cL_law 454 = .ok (.iaload, 1) := dB_law_15.1.2.2.1
theorem dL_law_455 : decode cL_law 455 = .ok (.aload_n 0, 1) := dB_law_15.1.2.2.2
theorem dL_law_456 : decode cL_law 456 = .ok (.iload_n 3, 1) := dB_law_15.2.1.1.1
theorem dL_law_457 : decode cL_law 457 = .ok (.iconst 2, 1) := dB_law_15.2.1.1.2
theorem dL_law_458 : decode cL_law 458 = .ok (.iadd, 1) := dB_law_15.2.1.2.1
theorem dL_law_459 : decode cL_law 459 = .ok (.iaload, 1) := dB_law_15.2.1.2.2
theorem dL_law_460 : decode cL_law 460 = .ok (.invokevirtual 51, 3) := dB_law_15.2.2.1.1
theorem dL_law_463 : decode cL_law 463 = .ok (.pop, 1) := dB_law_15.2.2.1.2
theorem dL_law_464 : decode cL_law 464 = .ok (.goto 869, 3) := dB_law_15.2.2.2.1
theorem dL_law_467 : decode cL_law 467 = .ok (.aload_n 1, 1) := dB_law_15.2.2.2.2