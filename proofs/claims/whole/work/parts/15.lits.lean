/-! the cells with numbers of their own: what each is -/
theorem zin_of {a t n : Nat} {fs : List Nat} {i : Int} (h : zk a = (t, n, fs)) : zin t a i = (0 ≤ i ∧ i < (n : Int)) := by
  unfold zin; rw [h]; simp
theorem zaa_of {a t n b s k : Nat} {m : Nat} (h : zk a = (t, n, [k, b, s])) : zaa a m = b + s * m := by
  unfold zaa; rw [h]; rfl
theorem zkc_0 : zkc 0 = 10 := by decide +kernel
theorem zin_1 (i : Int) : zin 0 1 i = (0 ≤ i ∧ i < 120) := zin_of (n := 120) (fs := []) (by decide +kernel)
theorem zin_2 (i : Int) : zin 0 2 i = (0 ≤ i ∧ i < 10) := zin_of (n := 10) (fs := []) (by decide +kernel)
theorem zin_3 (i : Int) : zin 0 3 i = (0 ≤ i ∧ i < 10) := zin_of (n := 10) (fs := []) (by decide +kernel)
theorem zin_4 (i : Int) : zin 0 4 i = (0 ≤ i ∧ i < 10) := zin_of (n := 10) (fs := []) (by decide +kernel)
theorem zin_5 (i : Int) : zin 0 5 i = (0 ≤ i ∧ i < 10) := zin_of (n := 10) (fs := []) (by decide +kernel)
theorem zin_6 (i : Int) : zin 0 6 i = (0 ≤ i ∧ i < 10) := zin_of (n := 10) (fs := []) (by decide +kernel)
theorem zin_7 (i : Int) : zin 0 7 i = (0 ≤ i ∧ i < 10) := zin_of (n := 10) (fs := []) (by decide +kernel)
theorem zin_8 (i : Int) : zin 0 8 i = (0 ≤ i ∧ i < 8) := zin_of (n := 8) (fs := []) (by decide +kernel)
theorem zin_9 (i : Int) : zin 3 9 i = (0 ≤ i ∧ i < 3) := zin_of (n := 3) (fs := [5, 10, 3]) (by decide +kernel)
theorem zaa_9 (m : Nat) : zaa 9 m = 10 + 3 * m := zaa_of (n := 3) (k := 5) (t := 3) (by decide +kernel)
theorem zkc_10 : zkc 10 = 5 := by decide +kernel
theorem zin_11 (i : Int) : zin 0 11 i = (0 ≤ i ∧ i < 10) := zin_of (n := 10) (fs := []) (by decide +kernel)
theorem zin_12 (i : Int) : zin 0 12 i = (0 ≤ i ∧ i < 10) := zin_of (n := 10) (fs := []) (by decide +kernel)
theorem zkc_13 : zkc 13 = 5 := by decide +kernel
theorem zin_14 (i : Int) : zin 0 14 i = (0 ≤ i ∧ i < 10) := zin_of (n := 10) (fs := []) (by decide +kernel)
theorem zin_15 (i : Int) : zin 0 15 i = (0 ≤ i ∧ i < 10) := zin_of (n := 10) (fs := []) (by decide +kernel)
theorem zkc_16 : zkc 16 = 5 := by decide +kernel
theorem zin_17 (i : Int) : zin 0 17 i = (0 ≤ i ∧ i < 10) := zin_of (n := 10) (fs := []) (by decide +kernel)
theorem zin_18 (i : Int) : zin 0 18 i = (0 ≤ i ∧ i < 10) := zin_of (n := 10) (fs := []) (by decide +kernel)
theorem zkc_19 : zkc 19 = 10 := by decide +kernel
theorem zin_20 (i : Int) : zin 0 20 i = (0 ≤ i ∧ i < 120) := zin_of (n := 120) (fs := []) (by decide +kernel)
theorem zin_21 (i : Int) : zin 0 21 i = (0 ≤ i ∧ i < 10) := zin_of (n := 10) (fs := []) (by decide +kernel)
theorem zin_22 (i : Int) : zin 0 22 i = (0 ≤ i ∧ i < 10) := zin_of (n := 10) (fs := []) (by decide +kernel)
theorem zin_23 (i : Int) : zin 0 23 i = (0 ≤ i ∧ i < 10) := zin_of (n := 10) (fs := []) (by decide +kernel)
theorem zin_24 (i : Int) : zin 0 24 i = (0 ≤ i ∧ i < 10) := zin_of (n := 10) (fs := []) (by decide +kernel)
theorem zin_25 (i : Int) : zin 0 25 i = (0 ≤ i ∧ i < 10) := zin_of (n := 10) (fs := []) (by decide +kernel)
theorem zin_26 (i : Int) : zin 0 26 i = (0 ≤ i ∧ i < 10) := zin_of (n := 10) (fs := []) (by decide +kernel)
theorem zin_27 (i : Int) : zin 0 27 i = (0 ≤ i ∧ i < 8) := zin_of (n := 8) (fs := []) (by decide +kernel)
theorem zin_28 (i : Int) : zin 3 28 i = (0 ≤ i ∧ i < 3) := zin_of (n := 3) (fs := [5, 29, 3]) (by decide +kernel)
theorem zaa_28 (m : Nat) : zaa 28 m = 29 + 3 * m := zaa_of (n := 3) (k := 5) (t := 3) (by decide +kernel)
theorem zkc_29 : zkc 29 = 5 := by decide +kernel
theorem zin_30 (i : Int) : zin 0 30 i = (0 ≤ i ∧ i < 10) := zin_of (n := 10) (fs := []) (by decide +kernel)
theorem zin_31 (i : Int) : zin 0 31 i = (0 ≤ i ∧ i < 10) := zin_of (n := 10) (fs := []) (by decide +kernel)
theorem zkc_32 : zkc 32 = 5 := by decide +kernel
theorem zin_33 (i : Int) : zin 0 33 i = (0 ≤ i ∧ i < 10) := zin_of (n := 10) (fs := []) (by decide +kernel)
theorem zin_34 (i : Int) : zin 0 34 i = (0 ≤ i ∧ i < 10) := zin_of (n := 10) (fs := []) (by decide +kernel)
theorem zkc_35 : zkc 35 = 5 := by decide +kernel
theorem zin_36 (i : Int) : zin 0 36 i = (0 ≤ i ∧ i < 10) := zin_of (n := 10) (fs := []) (by decide +kernel)
theorem zin_37 (i : Int) : zin 0 37 i = (0 ≤ i ∧ i < 10) := zin_of (n := 10) (fs := []) (by decide +kernel)
theorem zkc_38 : zkc 38 = 10 := by decide +kernel
theorem zin_39 (i : Int) : zin 0 39 i = (0 ≤ i ∧ i < 120) := zin_of (n := 120) (fs := []) (by decide +kernel)
theorem zin_40 (i : Int) : zin 0 40 i = (0 ≤ i ∧ i < 10) := zin_of (n := 10) (fs := []) (by decide +kernel)
theorem zin_41 (i : Int) : zin 0 41 i = (0 ≤ i ∧ i < 10) := zin_of (n := 10) (fs := []) (by decide +kernel)
theorem zin_42 (i : Int) : zin 0 42 i = (0 ≤ i ∧ i < 10) := zin_of (n := 10) (fs := []) (by decide +kernel)
theorem zin_43 (i : Int) : zin 0 43 i = (0 ≤ i ∧ i < 10) := zin_of (n := 10) (fs := []) (by decide +kernel)
theorem zin_44 (i : Int) : zin 0 44 i = (0 ≤ i ∧ i < 10) := zin_of (n := 10) (fs := []) (by decide +kernel)
theorem zin_45 (i : Int) : zin 0 45 i = (0 ≤ i ∧ i < 10) := zin_of (n := 10) (fs := []) (by decide +kernel)
theorem zin_46 (i : Int) : zin 0 46 i = (0 ≤ i ∧ i < 8) := zin_of (n := 8) (fs := []) (by decide +kernel)
theorem zin_47 (i : Int) : zin 3 47 i = (0 ≤ i ∧ i < 3) := zin_of (n := 3) (fs := [5, 48, 3]) (by decide +kernel)
theorem zaa_47 (m : Nat) : zaa 47 m = 48 + 3 * m := zaa_of (n := 3) (k := 5) (t := 3) (by decide +kernel)
theorem zkc_48 : zkc 48 = 5 := by decide +kernel
theorem zin_49 (i : Int) : zin 0 49 i = (0 ≤ i ∧ i < 10) := zin_of (n := 10) (fs := []) (by decide +kernel)
theorem zin_50 (i : Int) : zin 0 50 i = (0 ≤ i ∧ i < 10) := zin_of (n := 10) (fs := []) (by decide +kernel)
theorem zkc_51 : zkc 51 = 5 := by decide +kernel
theorem zin_52 (i : Int) : zin 0 52 i = (0 ≤ i ∧ i < 10) := zin_of (n := 10) (fs := []) (by decide +kernel)
theorem zin_53 (i : Int) : zin 0 53 i = (0 ≤ i ∧ i < 10) := zin_of (n := 10) (fs := []) (by decide +kernel)
theorem zkc_54 : zkc 54 = 5 := by decide +kernel
theorem zin_55 (i : Int) : zin 0 55 i = (0 ≤ i ∧ i < 10) := zin_of (n := 10) (fs := []) (by decide +kernel)
theorem zin_56 (i : Int) : zin 0 56 i = (0 ≤ i ∧ i < 10) := zin_of (n := 10) (fs := []) (by decide +kernel)
theorem zkc_209 : zkc 209 = 11 := by decide +kernel
theorem zkc_210 : zkc 210 = 4 := by decide +kernel
theorem zin_211 (i : Int) : zin 3 211 i = (0 ≤ i ∧ i < 8) := zin_of (n := 8) (fs := [6, 57, 19]) (by decide +kernel)
theorem zaa_211 (m : Nat) : zaa 211 m = 57 + 19 * m := zaa_of (n := 8) (k := 6) (t := 3) (by decide +kernel)
theorem zkc_212 : zkc 212 = 7 := by decide +kernel
theorem zin_213 (i : Int) : zin 0 213 i = (0 ≤ i ∧ i < 60) := zin_of (n := 60) (fs := []) (by decide +kernel)
theorem zkc_214 : zkc 214 = 6 := by decide +kernel
theorem zkc_215 : zkc 215 = 5 := by decide +kernel
theorem zin_216 (i : Int) : zin 0 216 i = (0 ≤ i ∧ i < 10) := zin_of (n := 10) (fs := []) (by decide +kernel)
theorem zin_217 (i : Int) : zin 0 217 i = (0 ≤ i ∧ i < 10) := zin_of (n := 10) (fs := []) (by decide +kernel)
theorem zkc_218 : zkc 218 = 1 := by decide +kernel
theorem zin_219 (i : Int) : zin 0 219 i = (0 ≤ i ∧ i < 30) := zin_of (n := 30) (fs := []) (by decide +kernel)
theorem zin_220 (i : Int) : zin 0 220 i = (0 ≤ i ∧ i < 30) := zin_of (n := 30) (fs := []) (by decide +kernel)
theorem zin_221 (i : Int) : zin 0 221 i = (0 ≤ i ∧ i < 30) := zin_of (n := 30) (fs := []) (by decide +kernel)
theorem zkc_222 : zkc 222 = 9 := by decide +kernel
theorem zin_223 (i : Int) : zin 3 223 i = (0 ≤ i ∧ i < 120) := zin_of (n := 120) (fs := [3, 254, 1]) (by decide +kernel)
theorem zaa_223 (m : Nat) : zaa 223 m = 254 + 1 * m := zaa_of (n := 120) (k := 3) (t := 3) (by decide +kernel)
theorem zin_224 (i : Int) : zin 1 224 i = (0 ≤ i ∧ i < 120) := zin_of (n := 120) (fs := []) (by decide +kernel)
theorem zin_225 (i : Int) : zin 0 225 i = (0 ≤ i ∧ i < 120) := zin_of (n := 120) (fs := []) (by decide +kernel)
theorem zkc_226 : zkc 226 = 2 := by decide +kernel
theorem zin_227 (i : Int) : zin 0 227 i = (0 ≤ i ∧ i < 10) := zin_of (n := 10) (fs := []) (by decide +kernel)
theorem zin_228 (i : Int) : zin 0 228 i = (0 ≤ i ∧ i < 10) := zin_of (n := 10) (fs := []) (by decide +kernel)
theorem zin_229 (i : Int) : zin 0 229 i = (0 ≤ i ∧ i < 10) := zin_of (n := 10) (fs := []) (by decide +kernel)
theorem zin_230 (i : Int) : zin 0 230 i = (0 ≤ i ∧ i < 10) := zin_of (n := 10) (fs := []) (by decide +kernel)
theorem zin_231 (i : Int) : zin 0 231 i = (0 ≤ i ∧ i < 10) := zin_of (n := 10) (fs := []) (by decide +kernel)
theorem zin_232 (i : Int) : zin 0 232 i = (0 ≤ i ∧ i < 512) := zin_of (n := 512) (fs := []) (by decide +kernel)
theorem zkc_233 : zkc 233 = 3 := by decide +kernel
theorem zin_234 (i : Int) : zin 3 234 i = (0 ≤ i ∧ i < 10) := zin_of (n := 10) (fs := [4, 240, 1]) (by decide +kernel)
theorem zaa_234 (m : Nat) : zaa 234 m = 240 + 1 * m := zaa_of (n := 10) (k := 4) (t := 3) (by decide +kernel)
theorem zin_235 (i : Int) : zin 0 235 i = (0 ≤ i ∧ i < 20) := zin_of (n := 20) (fs := []) (by decide +kernel)
theorem zin_236 (i : Int) : zin 2 236 i = (0 ≤ i ∧ i < 10) := zin_of (n := 10) (fs := []) (by decide +kernel)
theorem zin_237 (i : Int) : zin 2 237 i = (0 ≤ i ∧ i < 20) := zin_of (n := 20) (fs := []) (by decide +kernel)
theorem zin_238 (i : Int) : zin 2 238 i = (0 ≤ i ∧ i < 20) := zin_of (n := 20) (fs := []) (by decide +kernel)
theorem zin_239 (i : Int) : zin 0 239 i = (0 ≤ i ∧ i < 20) := zin_of (n := 20) (fs := []) (by decide +kernel)
theorem zin_240 (i : Int) : zin 2 240 i = (0 ≤ i ∧ i < 20) := zin_of (n := 20) (fs := []) (by decide +kernel)
theorem zin_241 (i : Int) : zin 2 241 i = (0 ≤ i ∧ i < 20) := zin_of (n := 20) (fs := []) (by decide +kernel)
theorem zin_242 (i : Int) : zin 2 242 i = (0 ≤ i ∧ i < 20) := zin_of (n := 20) (fs := []) (by decide +kernel)
theorem zin_243 (i : Int) : zin 2 243 i = (0 ≤ i ∧ i < 20) := zin_of (n := 20) (fs := []) (by decide +kernel)
theorem zin_244 (i : Int) : zin 2 244 i = (0 ≤ i ∧ i < 20) := zin_of (n := 20) (fs := []) (by decide +kernel)
theorem zin_245 (i : Int) : zin 2 245 i = (0 ≤ i ∧ i < 20) := zin_of (n := 20) (fs := []) (by decide +kernel)
theorem zin_246 (i : Int) : zin 2 246 i = (0 ≤ i ∧ i < 20) := zin_of (n := 20) (fs := []) (by decide +kernel)
theorem zin_247 (i : Int) : zin 2 247 i = (0 ≤ i ∧ i < 20) := zin_of (n := 20) (fs := []) (by decide +kernel)
theorem zin_248 (i : Int) : zin 2 248 i = (0 ≤ i ∧ i < 20) := zin_of (n := 20) (fs := []) (by decide +kernel)
theorem zin_249 (i : Int) : zin 2 249 i = (0 ≤ i ∧ i < 20) := zin_of (n := 20) (fs := []) (by decide +kernel)
theorem zin_250 (i : Int) : zin 1 250 i = (0 ≤ i ∧ i < 20) := zin_of (n := 20) (fs := []) (by decide +kernel)
theorem zkc_251 : zkc 251 = 8 := by decide +kernel
theorem zin_252 (i : Int) : zin 0 252 i = (0 ≤ i ∧ i < 10) := zin_of (n := 10) (fs := []) (by decide +kernel)
theorem zin_253 (i : Int) : zin 0 253 i = (0 ≤ i ∧ i < 10) := zin_of (n := 10) (fs := []) (by decide +kernel)
theorem zkc_374 : zkc 374 = 12 := by decide +kernel
theorem zin_375 (i : Int) : zin 0 375 i = (0 ≤ i ∧ i < 2838) := zin_of (n := 2838) (fs := []) (by decide +kernel)
theorem zin_376 (i : Int) : zin 0 376 i = (0 ≤ i ∧ i < 1440) := zin_of (n := 1440) (fs := []) (by decide +kernel)
theorem zin_377 (i : Int) : zin 0 377 i = (0 ≤ i ∧ i < 120) := zin_of (n := 120) (fs := []) (by decide +kernel)
theorem zin_378 (i : Int) : zin 0 378 i = (0 ≤ i ∧ i < 10) := zin_of (n := 10) (fs := []) (by decide +kernel)
theorem zin_379 (i : Int) : zin 0 379 i = (0 ≤ i ∧ i < 11264) := zin_of (n := 11264) (fs := []) (by decide +kernel)
theorem zin_380 (i : Int) : zin 0 380 i = (0 ≤ i ∧ i < 10) := zin_of (n := 10) (fs := []) (by decide +kernel)
theorem zin_381 (i : Int) : zin 0 381 i = (0 ≤ i ∧ i < 100) := zin_of (n := 100) (fs := []) (by decide +kernel)
theorem zin_382 (i : Int) : zin 0 382 i = (0 ≤ i ∧ i < 10) := zin_of (n := 10) (fs := []) (by decide +kernel)
theorem zin_383 (i : Int) : zin 0 383 i = (0 ≤ i ∧ i < 10) := zin_of (n := 10) (fs := []) (by decide +kernel)
theorem zin_384 (i : Int) : zin 0 384 i = (0 ≤ i ∧ i < 10) := zin_of (n := 10) (fs := []) (by decide +kernel)
theorem zin_385 (i : Int) : zin 0 385 i = (0 ≤ i ∧ i < 60) := zin_of (n := 60) (fs := []) (by decide +kernel)
theorem zin_386 (i : Int) : zin 0 386 i = (0 ≤ i ∧ i < 22) := zin_of (n := 22) (fs := []) (by decide +kernel)
theorem zin_387 (i : Int) : zin 0 387 i = (0 ≤ i ∧ i < 180) := zin_of (n := 180) (fs := []) (by decide +kernel)
