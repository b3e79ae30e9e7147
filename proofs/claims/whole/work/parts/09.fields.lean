/-! field and link facts, by program -/
set_option maxRecDepth 100000 in
theorem zf_0_0 : ∀ a, zkc a = 0 + 1 → zkf a 0 = some (219 + 1) := zkf_of (f := fun a => 219 + 1) (by decide +kernel)
set_option maxRecDepth 100000 in
theorem zf_0_1 : ∀ a, zkc a = 0 + 1 → zkf a 1 = some (220 + 1) := zkf_of (f := fun a => 220 + 1) (by decide +kernel)
set_option maxRecDepth 100000 in
theorem zf_0_2 : ∀ a, zkc a = 0 + 1 → zkf a 2 = some (221 + 1) := zkf_of (f := fun a => 221 + 1) (by decide +kernel)
set_option maxRecDepth 100000 in
theorem zf_0_3 : ∀ a, zkc a = 0 + 1 → zkf a 3 = some 0 := zkf_of (f := fun _ => 0) (by decide +kernel)
set_option maxRecDepth 100000 in
theorem zf_0_4 : ∀ a, zkc a = 0 + 1 → zkf a 4 = some 0 := zkf_of (f := fun _ => 0) (by decide +kernel)
set_option maxRecDepth 100000 in
theorem zf_1_0 : ∀ a, zkc a = 1 + 1 → zkf a 0 = some (227 + 1) := zkf_of (f := fun a => 227 + 1) (by decide +kernel)
set_option maxRecDepth 100000 in
theorem zf_1_1 : ∀ a, zkc a = 1 + 1 → zkf a 1 = some (228 + 1) := zkf_of (f := fun a => 228 + 1) (by decide +kernel)
set_option maxRecDepth 100000 in
theorem zf_1_2 : ∀ a, zkc a = 1 + 1 → zkf a 2 = some (229 + 1) := zkf_of (f := fun a => 229 + 1) (by decide +kernel)
set_option maxRecDepth 100000 in
theorem zf_1_3 : ∀ a, zkc a = 1 + 1 → zkf a 3 = some 0 := zkf_of (f := fun _ => 0) (by decide +kernel)
set_option maxRecDepth 100000 in
theorem zf_1_4 : ∀ a, zkc a = 1 + 1 → zkf a 4 = some 0 := zkf_of (f := fun _ => 0) (by decide +kernel)
set_option maxRecDepth 100000 in
theorem zf_1_5 : ∀ a, zkc a = 1 + 1 → zkf a 5 = some 0 := zkf_of (f := fun _ => 0) (by decide +kernel)
set_option maxRecDepth 100000 in
theorem zf_1_6 : ∀ a, zkc a = 1 + 1 → zkf a 6 = some (0 + 1) := zkf_of (f := fun a => 0 + 1) (by decide +kernel)
set_option maxRecDepth 100000 in
theorem zf_1_7 : ∀ a, zkc a = 1 + 1 → zkf a 7 = some (222 + 1) := zkf_of (f := fun a => 222 + 1) (by decide +kernel)
set_option maxRecDepth 100000 in
theorem zf_1_8 : ∀ a, zkc a = 1 + 1 → zkf a 8 = some (233 + 1) := zkf_of (f := fun a => 233 + 1) (by decide +kernel)
set_option maxRecDepth 100000 in
theorem zf_1_9 : ∀ a, zkc a = 1 + 1 → zkf a 9 = some (230 + 1) := zkf_of (f := fun a => 230 + 1) (by decide +kernel)
set_option maxRecDepth 100000 in
theorem zf_1_10 : ∀ a, zkc a = 1 + 1 → zkf a 10 = some 0 := zkf_of (f := fun _ => 0) (by decide +kernel)
set_option maxRecDepth 100000 in
theorem zf_1_11 : ∀ a, zkc a = 1 + 1 → zkf a 11 = some (231 + 1) := zkf_of (f := fun a => 231 + 1) (by decide +kernel)
set_option maxRecDepth 100000 in
theorem zf_1_12 : ∀ a, zkc a = 1 + 1 → zkf a 12 = some (232 + 1) := zkf_of (f := fun a => 232 + 1) (by decide +kernel)
set_option maxRecDepth 100000 in
theorem zf_2_0 : ∀ a, zkc a = 2 + 1 → zkf a 0 = some (234 + 1) := zkf_of (f := fun a => 234 + 1) (by decide +kernel)
set_option maxRecDepth 100000 in
theorem zf_2_1 : ∀ a, zkc a = 2 + 1 → zkf a 1 = some (235 + 1) := zkf_of (f := fun a => 235 + 1) (by decide +kernel)
set_option maxRecDepth 100000 in
theorem zf_2_2 : ∀ a, zkc a = 2 + 1 → zkf a 2 = some (236 + 1) := zkf_of (f := fun a => 236 + 1) (by decide +kernel)
set_option maxRecDepth 100000 in
theorem zf_2_3 : ∀ a, zkc a = 2 + 1 → zkf a 3 = some (237 + 1) := zkf_of (f := fun a => 237 + 1) (by decide +kernel)
set_option maxRecDepth 100000 in
theorem zf_2_4 : ∀ a, zkc a = 2 + 1 → zkf a 4 = some (238 + 1) := zkf_of (f := fun a => 238 + 1) (by decide +kernel)
set_option maxRecDepth 100000 in
theorem zf_2_5 : ∀ a, zkc a = 2 + 1 → zkf a 5 = some (239 + 1) := zkf_of (f := fun a => 239 + 1) (by decide +kernel)
set_option maxRecDepth 100000 in
theorem zf_2_6 : ∀ a, zkc a = 2 + 1 → zkf a 6 = some (250 + 1) := zkf_of (f := fun a => 250 + 1) (by decide +kernel)
set_option maxRecDepth 100000 in
theorem zf_3_0 : ∀ a, zkc a = 3 + 1 → zkf a 0 = some 0 := zkf_of (f := fun _ => 0) (by decide +kernel)
set_option maxRecDepth 100000 in
theorem zf_3_1 : ∀ a, zkc a = 3 + 1 → zkf a 1 = some (211 + 1) := zkf_of (f := fun a => 211 + 1) (by decide +kernel)
set_option maxRecDepth 100000 in
theorem zf_3_2 : ∀ a, zkc a = 3 + 1 → zkf a 2 = some 0 := zkf_of (f := fun _ => 0) (by decide +kernel)
set_option maxRecDepth 100000 in
theorem zf_4_0 : ∀ a, zkc a = 4 + 1 → zkf a 0 = some (a + 1 + 1) := zkf_of (f := fun a => a + 1 + 1) (by decide +kernel)
set_option maxRecDepth 100000 in
theorem zf_4_1 : ∀ a, zkc a = 4 + 1 → zkf a 1 = some (a + 2 + 1) := zkf_of (f := fun a => a + 2 + 1) (by decide +kernel)
set_option maxRecDepth 100000 in
theorem zf_4_2 : ∀ a, zkc a = 4 + 1 → zkf a 2 = some 0 := zkf_of (f := fun _ => 0) (by decide +kernel)
set_option maxRecDepth 100000 in
theorem zf_4_3 : ∀ a, zkc a = 4 + 1 → zkf a 3 = some 0 := zkf_of (f := fun _ => 0) (by decide +kernel)
set_option maxRecDepth 100000 in
theorem zf_5_0 : ∀ a, zkc a = 5 + 1 → zkf a 0 = some (215 + 1) := zkf_of (f := fun a => 215 + 1) (by decide +kernel)
set_option maxRecDepth 100000 in
theorem zf_5_1 : ∀ a, zkc a = 5 + 1 → zkf a 1 = some 0 := zkf_of (f := fun _ => 0) (by decide +kernel)
set_option maxRecDepth 100000 in
theorem zf_5_2 : ∀ a, zkc a = 5 + 1 → zkf a 2 = some 0 := zkf_of (f := fun _ => 0) (by decide +kernel)
set_option maxRecDepth 100000 in
theorem zf_6_0 : ∀ a, zkc a = 6 + 1 → zkf a 0 = some 0 := zkf_of (f := fun _ => 0) (by decide +kernel)
set_option maxRecDepth 100000 in
theorem zf_6_1 : ∀ a, zkc a = 6 + 1 → zkf a 1 = some (213 + 1) := zkf_of (f := fun a => 213 + 1) (by decide +kernel)
set_option maxRecDepth 100000 in
theorem zf_7_0 : ∀ a, zkc a = 7 + 1 → zkf a 0 = some (0 + 1) := zkf_of (f := fun a => 0 + 1) (by decide +kernel)
set_option maxRecDepth 100000 in
theorem zf_7_1 : ∀ a, zkc a = 7 + 1 → zkf a 1 = some (222 + 1) := zkf_of (f := fun a => 222 + 1) (by decide +kernel)
set_option maxRecDepth 100000 in
theorem zf_7_2 : ∀ a, zkc a = 7 + 1 → zkf a 2 = some (226 + 1) := zkf_of (f := fun a => 226 + 1) (by decide +kernel)
set_option maxRecDepth 100000 in
theorem zf_7_3 : ∀ a, zkc a = 7 + 1 → zkf a 3 = some (252 + 1) := zkf_of (f := fun a => 252 + 1) (by decide +kernel)
set_option maxRecDepth 100000 in
theorem zf_7_4 : ∀ a, zkc a = 7 + 1 → zkf a 4 = some (253 + 1) := zkf_of (f := fun a => 253 + 1) (by decide +kernel)
set_option maxRecDepth 100000 in
theorem zf_7_5 : ∀ a, zkc a = 7 + 1 → zkf a 5 = some 0 := zkf_of (f := fun _ => 0) (by decide +kernel)
set_option maxRecDepth 100000 in
theorem zf_8_0 : ∀ a, zkc a = 8 + 1 → zkf a 0 = some (0 + 1) := zkf_of (f := fun a => 0 + 1) (by decide +kernel)
set_option maxRecDepth 100000 in
theorem zf_8_1 : ∀ a, zkc a = 8 + 1 → zkf a 1 = some (223 + 1) := zkf_of (f := fun a => 223 + 1) (by decide +kernel)
set_option maxRecDepth 100000 in
theorem zf_8_2 : ∀ a, zkc a = 8 + 1 → zkf a 2 = some (224 + 1) := zkf_of (f := fun a => 224 + 1) (by decide +kernel)
set_option maxRecDepth 100000 in
theorem zf_8_3 : ∀ a, zkc a = 8 + 1 → zkf a 3 = some (225 + 1) := zkf_of (f := fun a => 225 + 1) (by decide +kernel)
set_option maxRecDepth 100000 in
theorem zf_9_0 : ∀ a, zkc a = 9 + 1 → zkf a 0 = some (a + 1 + 1) := zkf_of (f := fun a => a + 1 + 1) (by decide +kernel)
set_option maxRecDepth 100000 in
theorem zf_9_1 : ∀ a, zkc a = 9 + 1 → zkf a 1 = some (a + 2 + 1) := zkf_of (f := fun a => a + 2 + 1) (by decide +kernel)
set_option maxRecDepth 100000 in
theorem zf_9_2 : ∀ a, zkc a = 9 + 1 → zkf a 2 = some (a + 3 + 1) := zkf_of (f := fun a => a + 3 + 1) (by decide +kernel)
set_option maxRecDepth 100000 in
theorem zf_9_3 : ∀ a, zkc a = 9 + 1 → zkf a 3 = some (a + 4 + 1) := zkf_of (f := fun a => a + 4 + 1) (by decide +kernel)
set_option maxRecDepth 100000 in
theorem zf_9_4 : ∀ a, zkc a = 9 + 1 → zkf a 4 = some (a + 5 + 1) := zkf_of (f := fun a => a + 5 + 1) (by decide +kernel)
set_option maxRecDepth 100000 in
theorem zf_9_5 : ∀ a, zkc a = 9 + 1 → zkf a 5 = some (a + 6 + 1) := zkf_of (f := fun a => a + 6 + 1) (by decide +kernel)
set_option maxRecDepth 100000 in
theorem zf_9_6 : ∀ a, zkc a = 9 + 1 → zkf a 6 = some (a + 7 + 1) := zkf_of (f := fun a => a + 7 + 1) (by decide +kernel)
set_option maxRecDepth 100000 in
theorem zf_9_7 : ∀ a, zkc a = 9 + 1 → zkf a 7 = some (a + 8 + 1) := zkf_of (f := fun a => a + 8 + 1) (by decide +kernel)
set_option maxRecDepth 100000 in
theorem zf_9_8 : ∀ a, zkc a = 9 + 1 → zkf a 8 = some (a + 9 + 1) := zkf_of (f := fun a => a + 9 + 1) (by decide +kernel)
set_option maxRecDepth 100000 in
theorem zf_9_9 : ∀ a, zkc a = 9 + 1 → zkf a 9 = some 0 := zkf_of (f := fun _ => 0) (by decide +kernel)
set_option maxRecDepth 100000 in
theorem zf_9_10 : ∀ a, zkc a = 9 + 1 → zkf a 10 = some 0 := zkf_of (f := fun _ => 0) (by decide +kernel)
set_option maxRecDepth 100000 in
theorem zf_9_11 : ∀ a, zkc a = 9 + 1 → zkf a 11 = some 0 := zkf_of (f := fun _ => 0) (by decide +kernel)
set_option maxRecDepth 100000 in
theorem zf_10_0 : ∀ a, zkc a = 10 + 1 → zkf a 0 = some (0 + 1) := zkf_of (f := fun a => 0 + 1) (by decide +kernel)
set_option maxRecDepth 100000 in
theorem zf_10_1 : ∀ a, zkc a = 10 + 1 → zkf a 1 = some (19 + 1) := zkf_of (f := fun a => 19 + 1) (by decide +kernel)
set_option maxRecDepth 100000 in
theorem zf_10_2 : ∀ a, zkc a = 10 + 1 → zkf a 2 = some (38 + 1) := zkf_of (f := fun a => 38 + 1) (by decide +kernel)
set_option maxRecDepth 100000 in
theorem zf_10_3 : ∀ a, zkc a = 10 + 1 → zkf a 3 = some 0 := zkf_of (f := fun _ => 0) (by decide +kernel)
set_option maxRecDepth 100000 in
theorem zf_10_4 : ∀ a, zkc a = 10 + 1 → zkf a 4 = some (210 + 1) := zkf_of (f := fun a => 210 + 1) (by decide +kernel)
set_option maxRecDepth 100000 in
theorem zf_10_5 : ∀ a, zkc a = 10 + 1 → zkf a 5 = some (212 + 1) := zkf_of (f := fun a => 212 + 1) (by decide +kernel)
set_option maxRecDepth 100000 in
theorem zf_10_6 : ∀ a, zkc a = 10 + 1 → zkf a 6 = some (214 + 1) := zkf_of (f := fun a => 214 + 1) (by decide +kernel)
set_option maxRecDepth 100000 in
theorem zf_10_7 : ∀ a, zkc a = 10 + 1 → zkf a 7 = some (218 + 1) := zkf_of (f := fun a => 218 + 1) (by decide +kernel)
set_option maxRecDepth 100000 in
theorem zf_10_8 : ∀ a, zkc a = 10 + 1 → zkf a 8 = some (222 + 1) := zkf_of (f := fun a => 222 + 1) (by decide +kernel)
set_option maxRecDepth 100000 in
theorem zf_10_9 : ∀ a, zkc a = 10 + 1 → zkf a 9 = some (226 + 1) := zkf_of (f := fun a => 226 + 1) (by decide +kernel)
set_option maxRecDepth 100000 in
theorem zf_10_10 : ∀ a, zkc a = 10 + 1 → zkf a 10 = some (251 + 1) := zkf_of (f := fun a => 251 + 1) (by decide +kernel)
set_option maxRecDepth 100000 in
theorem zf_10_11 : ∀ a, zkc a = 10 + 1 → zkf a 11 = some 0 := zkf_of (f := fun _ => 0) (by decide +kernel)
set_option maxRecDepth 100000 in
theorem zf_10_12 : ∀ a, zkc a = 10 + 1 → zkf a 12 = some 0 := zkf_of (f := fun _ => 0) (by decide +kernel)
set_option maxRecDepth 100000 in
theorem zf_11_0 : ∀ a, zkc a = 11 + 1 → zkf a 0 = some (375 + 1) := zkf_of (f := fun a => 375 + 1) (by decide +kernel)
set_option maxRecDepth 100000 in
theorem zf_11_1 : ∀ a, zkc a = 11 + 1 → zkf a 1 = some 0 := zkf_of (f := fun _ => 0) (by decide +kernel)
set_option maxRecDepth 100000 in
theorem zf_11_2 : ∀ a, zkc a = 11 + 1 → zkf a 2 = some 0 := zkf_of (f := fun _ => 0) (by decide +kernel)
set_option maxRecDepth 100000 in
theorem zf_11_3 : ∀ a, zkc a = 11 + 1 → zkf a 3 = some (376 + 1) := zkf_of (f := fun a => 376 + 1) (by decide +kernel)
set_option maxRecDepth 100000 in
theorem zf_11_4 : ∀ a, zkc a = 11 + 1 → zkf a 4 = some (377 + 1) := zkf_of (f := fun a => 377 + 1) (by decide +kernel)
set_option maxRecDepth 100000 in
theorem zf_11_5 : ∀ a, zkc a = 11 + 1 → zkf a 5 = some (378 + 1) := zkf_of (f := fun a => 378 + 1) (by decide +kernel)
set_option maxRecDepth 100000 in
theorem zf_11_6 : ∀ a, zkc a = 11 + 1 → zkf a 6 = some (379 + 1) := zkf_of (f := fun a => 379 + 1) (by decide +kernel)
set_option maxRecDepth 100000 in
theorem zf_11_7 : ∀ a, zkc a = 11 + 1 → zkf a 7 = some (380 + 1) := zkf_of (f := fun a => 380 + 1) (by decide +kernel)
set_option maxRecDepth 100000 in
theorem zf_11_8 : ∀ a, zkc a = 11 + 1 → zkf a 8 = some 0 := zkf_of (f := fun _ => 0) (by decide +kernel)
set_option maxRecDepth 100000 in
theorem zf_11_9 : ∀ a, zkc a = 11 + 1 → zkf a 9 = some 0 := zkf_of (f := fun _ => 0) (by decide +kernel)
set_option maxRecDepth 100000 in
theorem zf_11_10 : ∀ a, zkc a = 11 + 1 → zkf a 10 = some (381 + 1) := zkf_of (f := fun a => 381 + 1) (by decide +kernel)
set_option maxRecDepth 100000 in
theorem zf_11_11 : ∀ a, zkc a = 11 + 1 → zkf a 11 = some (382 + 1) := zkf_of (f := fun a => 382 + 1) (by decide +kernel)
set_option maxRecDepth 100000 in
theorem zf_11_12 : ∀ a, zkc a = 11 + 1 → zkf a 12 = some (383 + 1) := zkf_of (f := fun a => 383 + 1) (by decide +kernel)
set_option maxRecDepth 100000 in
theorem zf_11_13 : ∀ a, zkc a = 11 + 1 → zkf a 13 = some (384 + 1) := zkf_of (f := fun a => 384 + 1) (by decide +kernel)
set_option maxRecDepth 100000 in
theorem zf_11_14 : ∀ a, zkc a = 11 + 1 → zkf a 14 = some (385 + 1) := zkf_of (f := fun a => 385 + 1) (by decide +kernel)
set_option maxRecDepth 100000 in
theorem zf_11_15 : ∀ a, zkc a = 11 + 1 → zkf a 15 = some 0 := zkf_of (f := fun _ => 0) (by decide +kernel)
set_option maxRecDepth 100000 in
theorem zf_11_16 : ∀ a, zkc a = 11 + 1 → zkf a 16 = some 0 := zkf_of (f := fun _ => 0) (by decide +kernel)
set_option maxRecDepth 100000 in
theorem zf_11_17 : ∀ a, zkc a = 11 + 1 → zkf a 17 = some 0 := zkf_of (f := fun _ => 0) (by decide +kernel)
set_option maxRecDepth 100000 in
theorem zf_11_18 : ∀ a, zkc a = 11 + 1 → zkf a 18 = some (386 + 1) := zkf_of (f := fun a => 386 + 1) (by decide +kernel)
set_option maxRecDepth 100000 in
theorem zf_11_19 : ∀ a, zkc a = 11 + 1 → zkf a 19 = some (387 + 1) := zkf_of (f := fun a => 387 + 1) (by decide +kernel)
set_option maxRecDepth 100000 in
theorem zf_11_20 : ∀ a, zkc a = 11 + 1 → zkf a 20 = some 0 := zkf_of (f := fun _ => 0) (by decide +kernel)
set_option maxRecDepth 100000 in
theorem zf_11_21 : ∀ a, zkc a = 11 + 1 → zkf a 21 = some 0 := zkf_of (f := fun _ => 0) (by decide +kernel)
set_option maxRecDepth 100000 in
theorem zf_11_22 : ∀ a, zkc a = 11 + 1 → zkf a 22 = some 0 := zkf_of (f := fun _ => 0) (by decide +kernel)
set_option maxRecDepth 100000 in
theorem zf_11_23 : ∀ a, zkc a = 11 + 1 → zkf a 23 = some 0 := zkf_of (f := fun _ => 0) (by decide +kernel)
set_option maxRecDepth 100000 in
theorem zf_11_24 : ∀ a, zkc a = 11 + 1 → zkf a 24 = some 0 := zkf_of (f := fun _ => 0) (by decide +kernel)
theorem zfl_0_9 : zfl 0 9 = some (0, 0) := by decide +kernel
theorem zfl_0_15 : zfl 0 15 = some (0, 1) := by decide +kernel
theorem zfl_0_18 : zfl 0 18 = some (0, 2) := by decide +kernel
theorem zfl_0_21 : zfl 0 21 = some (0, 3) := by decide +kernel
theorem zfl_0_25 : zfl 0 25 = some (0, 4) := by decide +kernel
theorem zfl_0_32 : zfl 0 32 = some (6, 0) := by decide +kernel
theorem zfl_1_9 : zfl 1 9 = some (1, 0) := by decide +kernel
theorem zfl_1_15 : zfl 1 15 = some (1, 1) := by decide +kernel
theorem zfl_1_18 : zfl 1 18 = some (1, 2) := by decide +kernel
theorem zfl_1_21 : zfl 1 21 = some (1, 3) := by decide +kernel
theorem zfl_1_25 : zfl 1 25 = some (1, 4) := by decide +kernel
theorem zfl_1_28 : zfl 1 28 = some (1, 5) := by decide +kernel
theorem zfl_1_34 : zfl 1 34 = some (1, 8) := by decide +kernel
theorem zfl_1_38 : zfl 1 38 = some (1, 9) := by decide +kernel
theorem zfl_1_41 : zfl 1 41 = some (1, 10) := by decide +kernel
theorem zfl_1_44 : zfl 1 44 = some (1, 11) := by decide +kernel
theorem zfl_1_47 : zfl 1 47 = some (1, 12) := by decide +kernel
theorem zfl_1_50 : zfl 1 50 = some (1, 6) := by decide +kernel
theorem zfl_1_54 : zfl 1 54 = some (1, 7) := by decide +kernel
theorem zfl_1_77 : zfl 1 77 = some (2, 1) := by decide +kernel
theorem zfl_1_89 : zfl 1 89 = some (4, 2) := by decide +kernel
theorem zfl_1_102 : zfl 1 102 = some (9, 1) := by decide +kernel
theorem zfl_1_109 : zfl 1 109 = some (4, 3) := by decide +kernel
theorem zfl_1_123 : zfl 1 123 = some (9, 0) := by decide +kernel
theorem zfl_1_132 : zfl 1 132 = some (2, 0) := by decide +kernel
theorem zfl_2_11 : zfl 2 11 = some (2, 0) := by decide +kernel
theorem zfl_2_14 : zfl 2 14 = some (2, 1) := by decide +kernel
theorem zfl_2_18 : zfl 2 18 = some (2, 2) := by decide +kernel
theorem zfl_2_22 : zfl 2 22 = some (2, 3) := by decide +kernel
theorem zfl_2_25 : zfl 2 25 = some (2, 4) := by decide +kernel
theorem zfl_2_28 : zfl 2 28 = some (2, 5) := by decide +kernel
theorem zfl_2_31 : zfl 2 31 = some (2, 6) := by decide +kernel
theorem zfl_3_9 : zfl 3 9 = some (3, 0) := by decide +kernel
theorem zfl_3_17 : zfl 3 17 = some (3, 1) := by decide +kernel
theorem zfl_3_21 : zfl 3 21 = some (3, 2) := by decide +kernel
theorem zfl_4_9 : zfl 4 9 = some (4, 0) := by decide +kernel
theorem zfl_4_15 : zfl 4 15 = some (4, 1) := by decide +kernel
theorem zfl_4_18 : zfl 4 18 = some (4, 2) := by decide +kernel
theorem zfl_4_22 : zfl 4 22 = some (4, 3) := by decide +kernel
theorem zfl_4_49 : zfl 4 49 = some (9, 1) := by decide +kernel
theorem zfl_4_66 : zfl 4 66 = some (9, 0) := by decide +kernel
theorem zfl_5_12 : zfl 5 12 = some (5, 0) := by decide +kernel
theorem zfl_5_18 : zfl 5 18 = some (5, 1) := by decide +kernel
theorem zfl_5_22 : zfl 5 22 = some (5, 2) := by decide +kernel
theorem zfl_5_28 : zfl 5 28 = some (6, 0) := by decide +kernel
theorem zfl_5_41 : zfl 5 41 = some (4, 3) := by decide +kernel
theorem zfl_6_9 : zfl 6 9 = some (6, 0) := by decide +kernel
theorem zfl_6_15 : zfl 6 15 = some (6, 1) := by decide +kernel
theorem zfl_7_9 : zfl 7 9 = some (7, 3) := by decide +kernel
theorem zfl_7_15 : zfl 7 15 = some (7, 4) := by decide +kernel
theorem zfl_7_18 : zfl 7 18 = some (7, 5) := by decide +kernel
theorem zfl_7_22 : zfl 7 22 = some (7, 0) := by decide +kernel
theorem zfl_7_26 : zfl 7 26 = some (7, 1) := by decide +kernel
theorem zfl_7_30 : zfl 7 30 = some (7, 2) := by decide +kernel
theorem zfl_7_58 : zfl 7 58 = some (9, 7) := by decide +kernel
theorem zfl_7_65 : zfl 7 65 = some (9, 6) := by decide +kernel
theorem zfl_7_68 : zfl 7 68 = some (9, 1) := by decide +kernel
theorem zfl_7_71 : zfl 7 71 = some (9, 10) := by decide +kernel
theorem zfl_7_74 : zfl 7 74 = some (9, 2) := by decide +kernel
theorem zfl_7_87 : zfl 7 87 = some (9, 0) := by decide +kernel
theorem zfl_7_105 : zfl 7 105 = some (1, 1) := by decide +kernel
theorem zfl_7_123 : zfl 7 123 = some (9, 3) := by decide +kernel
theorem zfl_8_11 : zfl 8 11 = some (8, 1) := by decide +kernel
theorem zfl_8_16 : zfl 8 16 = some (8, 2) := by decide +kernel
theorem zfl_8_20 : zfl 8 20 = some (8, 3) := by decide +kernel
theorem zfl_8_24 : zfl 8 24 = some (8, 0) := by decide +kernel
theorem zfl_8_34 : zfl 8 34 = some (9, 0) := by decide +kernel
theorem zfl_9_9 : zfl 9 9 = some (9, 0) := by decide +kernel
theorem zfl_9_15 : zfl 9 15 = some (9, 1) := by decide +kernel
theorem zfl_9_18 : zfl 9 18 = some (9, 2) := by decide +kernel
theorem zfl_9_21 : zfl 9 21 = some (9, 3) := by decide +kernel
theorem zfl_9_24 : zfl 9 24 = some (9, 4) := by decide +kernel
theorem zfl_9_27 : zfl 9 27 = some (9, 5) := by decide +kernel
theorem zfl_9_30 : zfl 9 30 = some (9, 6) := by decide +kernel
theorem zfl_9_33 : zfl 9 33 = some (9, 7) := by decide +kernel
theorem zfl_9_38 : zfl 9 38 = some (9, 8) := by decide +kernel
theorem zfl_9_42 : zfl 9 42 = some (9, 9) := by decide +kernel
theorem zfl_9_46 : zfl 9 46 = some (9, 10) := by decide +kernel
theorem zfl_9_49 : zfl 9 49 = some (9, 11) := by decide +kernel
theorem zfl_9_73 : zfl 9 73 = some (4, 2) := by decide +kernel
theorem zfl_10_10 : zfl 10 10 = some (10, 0) := by decide +kernel
theorem zfl_10_16 : zfl 10 16 = some (10, 1) := by decide +kernel
theorem zfl_10_19 : zfl 10 19 = some (10, 2) := by decide +kernel
theorem zfl_10_22 : zfl 10 22 = some (10, 3) := by decide +kernel
theorem zfl_10_29 : zfl 10 29 = some (10, 4) := by decide +kernel
theorem zfl_10_36 : zfl 10 36 = some (10, 5) := by decide +kernel
theorem zfl_10_43 : zfl 10 43 = some (10, 6) := by decide +kernel
theorem zfl_10_50 : zfl 10 50 = some (10, 7) := by decide +kernel
theorem zfl_10_59 : zfl 10 59 = some (10, 8) := by decide +kernel
theorem zfl_10_68 : zfl 10 68 = some (10, 9) := by decide +kernel
theorem zfl_10_77 : zfl 10 77 = some (10, 10) := by decide +kernel
theorem zfl_10_81 : zfl 10 81 = some (10, 11) := by decide +kernel
theorem zfl_10_85 : zfl 10 85 = some (10, 12) := by decide +kernel
theorem zfl_10_92 : zfl 10 92 = some (9, 0) := by decide +kernel
theorem zfl_10_96 : zfl 10 96 = some (9, 7) := by decide +kernel
theorem zfl_10_121 : zfl 10 121 = some (9, 9) := by decide +kernel
theorem zfl_10_127 : zfl 10 127 = some (9, 10) := by decide +kernel
theorem zfl_10_136 : zfl 10 136 = some (6, 0) := by decide +kernel
theorem zfl_10_152 : zfl 10 152 = some (9, 8) := by decide +kernel
theorem zfl_10_156 : zfl 10 156 = some (5, 0) := by decide +kernel
theorem zfl_10_166 : zfl 10 166 = some (4, 2) := by decide +kernel
theorem zfl_10_169 : zfl 10 169 = some (9, 11) := by decide +kernel
theorem zfl_10_182 : zfl 10 182 = some (0, 3) := by decide +kernel
theorem zfl_10_183 : zfl 10 183 = some (0, 0) := by decide +kernel
theorem zfl_10_186 : zfl 10 186 = some (0, 1) := by decide +kernel
theorem zfl_10_189 : zfl 10 189 = some (0, 2) := by decide +kernel
theorem zfl_10_199 : zfl 10 199 = some (9, 1) := by decide +kernel
theorem zfl_10_205 : zfl 10 205 = some (9, 2) := by decide +kernel
theorem zfl_10_208 : zfl 10 208 = some (9, 3) := by decide +kernel
theorem zfl_10_211 : zfl 10 211 = some (9, 4) := by decide +kernel
theorem zfl_10_214 : zfl 10 214 = some (9, 5) := by decide +kernel
theorem zfl_10_217 : zfl 10 217 = some (9, 6) := by decide +kernel
theorem zfl_10_236 : zfl 10 236 = some (4, 3) := by decide +kernel
theorem zfl_10_254 : zfl 10 254 = some (3, 0) := by decide +kernel
theorem zfl_10_285 : zfl 10 285 = some (1, 1) := by decide +kernel
theorem zfl_10_288 : zfl 10 288 = some (1, 0) := by decide +kernel
theorem zfl_10_291 : zfl 10 291 = some (1, 4) := by decide +kernel
theorem zfl_10_294 : zfl 10 294 = some (1, 5) := by decide +kernel
theorem zfl_10_301 : zfl 10 301 = some (1, 3) := by decide +kernel
theorem zfl_10_308 : zfl 10 308 = some (1, 2) := by decide +kernel
theorem zfl_11_9 : zfl 11 9 = some (11, 0) := by decide +kernel
theorem zfl_11_13 : zfl 11 13 = some (11, 3) := by decide +kernel
theorem zfl_11_16 : zfl 11 16 = some (11, 4) := by decide +kernel
theorem zfl_11_19 : zfl 11 19 = some (11, 5) := by decide +kernel
theorem zfl_11_22 : zfl 11 22 = some (11, 6) := by decide +kernel
theorem zfl_11_25 : zfl 11 25 = some (11, 7) := by decide +kernel
theorem zfl_11_28 : zfl 11 28 = some (11, 10) := by decide +kernel
theorem zfl_11_31 : zfl 11 31 = some (11, 11) := by decide +kernel
theorem zfl_11_34 : zfl 11 34 = some (11, 12) := by decide +kernel
theorem zfl_11_37 : zfl 11 37 = some (11, 13) := by decide +kernel
theorem zfl_11_40 : zfl 11 40 = some (11, 14) := by decide +kernel
theorem zfl_11_43 : zfl 11 43 = some (11, 18) := by decide +kernel
theorem zfl_11_46 : zfl 11 46 = some (11, 19) := by decide +kernel
theorem zfl_11_49 : zfl 11 49 = some (11, 1) := by decide +kernel
theorem zfl_11_95 : zfl 11 95 = some (11, 8) := by decide +kernel
theorem zfl_11_98 : zfl 11 98 = some (11, 9) := by decide +kernel
theorem zfl_11_172 : zfl 11 172 = some (11, 15) := by decide +kernel
theorem zfl_11_175 : zfl 11 175 = some (11, 16) := by decide +kernel
theorem zfl_11_178 : zfl 11 178 = some (11, 17) := by decide +kernel
theorem zfl_11_187 : zfl 11 187 = some (11, 20) := by decide +kernel
theorem zfl_11_200 : zfl 11 200 = some (11, 21) := by decide +kernel
theorem zfl_11_203 : zfl 11 203 = some (11, 22) := by decide +kernel
theorem zfl_11_219 : zfl 11 219 = some (11, 23) := by decide +kernel
theorem zfl_11_222 : zfl 11 222 = some (11, 24) := by decide +kernel
theorem zfl_11_234 : zfl 11 234 = some (11, 2) := by decide +kernel
theorem zml_0_28 : zml 0 28 = some (0, 1, 2, 0) := by decide +kernel
theorem zml_0_37 : zml 0 37 = some (0, 2, 2, 0) := by decide +kernel
theorem zml_0_40 : zml 0 40 = some (0, 38, 1, 6) := by decide +kernel
theorem zml_0_43 : zml 0 43 = some (0, 3, 1, 0) := by decide +kernel
theorem zml_0_47 : zml 0 47 = some (1, 4, 1, 0) := by decide +kernel
theorem zml_1_58 : zml 1 58 = some (1, 184, 2, 13) := by decide +kernel
theorem zml_1_64 : zml 1 64 = some (0, 7, 0, 1) := by decide +kernel
theorem zml_1_67 : zml 1 67 = some (0, 8, 0, 1) := by decide +kernel
theorem zml_1_70 : zml 1 70 = some (0, 10, 0, 1) := by decide +kernel
theorem zml_1_73 : zml 1 73 = some (0, 14, 2, 2) := by decide +kernel
theorem zml_1_80 : zml 1 80 = some (0, 11, 2, 1) := by decide +kernel
theorem zml_1_83 : zml 1 83 = some (0, 57, 0, 9) := by decide +kernel
theorem zml_1_94 : zml 1 94 = some (0, 56, 0, 9) := by decide +kernel
theorem zml_1_98 : zml 1 98 = some (0, 55, 1, 9) := by decide +kernel
theorem zml_1_105 : zml 1 105 = some (0, 9, 3, 1) := by decide +kernel
theorem zml_1_112 : zml 1 112 = some (0, 24, 1, 4) := by decide +kernel
theorem zml_1_116 : zml 1 116 = some (0, 25, 1, 4) := by decide +kernel
theorem zml_1_119 : zml 1 119 = some (2, 95, 2, 10) := by decide +kernel
theorem zml_1_126 : zml 1 126 = some (0, 52, 1, 8) := by decide +kernel
theorem zml_1_146 : zml 1 146 = some (0, 13, 1, 1) := by decide +kernel
theorem zml_1_150 : zml 1 150 = some (4, 0, 2, 0) := by decide +kernel
theorem zml_2_35 : zml 2 35 = some (1, 184, 2, 13) := by decide +kernel
theorem zml_2_41 : zml 2 41 = some (1, 183, 2, 13) := by decide +kernel
theorem zml_2_44 : zml 2 44 = some (0, 15, 2, 2) := by decide +kernel
theorem zml_2_50 : zml 2 50 = some (0, 16, 2, 2) := by decide +kernel
theorem zml_3_25 : zml 3 25 = some (0, 53, 1, 9) := by decide +kernel
theorem zml_3_29 : zml 3 29 = some (4, 0, 2, 0) := by decide +kernel
theorem zml_4_25 : zml 4 25 = some (3, 0, 5, 0) := by decide +kernel
theorem zml_4_31 : zml 4 31 = some (0, 22, 2, 4) := by decide +kernel
theorem zml_4_35 : zml 4 35 = some (0, 54, 0, 9) := by decide +kernel
theorem zml_4_41 : zml 4 41 = some (0, 27, 2, 4) := by decide +kernel
theorem zml_4_45 : zml 4 45 = some (0, 55, 1, 9) := by decide +kernel
theorem zml_4_52 : zml 4 52 = some (0, 28, 3, 4) := by decide +kernel
theorem zml_4_56 : zml 4 56 = some (0, 30, 2, 4) := by decide +kernel
theorem zml_4_60 : zml 4 60 = some (0, 31, 2, 4) := by decide +kernel
theorem zml_4_63 : zml 4 63 = some (2, 95, 2, 10) := by decide +kernel
theorem zml_4_69 : zml 4 69 = some (0, 29, 2, 4) := by decide +kernel
theorem zml_5_25 : zml 5 25 = some (0, 21, 0, 4) := by decide +kernel
theorem zml_5_33 : zml 5 33 = some (0, 38, 1, 6) := by decide +kernel
theorem zml_5_37 : zml 5 37 = some (0, 33, 1, 5) := by decide +kernel
theorem zml_5_44 : zml 5 44 = some (0, 34, 0, 5) := by decide +kernel
theorem zml_5_48 : zml 5 48 = some (0, 35, 1, 5) := by decide +kernel
theorem zml_5_51 : zml 5 51 = some (0, 22, 2, 4) := by decide +kernel
theorem zml_5_55 : zml 5 55 = some (0, 23, 2, 4) := by decide +kernel
theorem zml_7_34 : zml 7 34 = some (0, 56, 0, 9) := by decide +kernel
theorem zml_7_40 : zml 7 40 = some (0, 41, 1, 7) := by decide +kernel
theorem zml_7_44 : zml 7 44 = some (0, 5, 0, 1) := by decide +kernel
theorem zml_7_49 : zml 7 49 = some (0, 43, 1, 7) := by decide +kernel
theorem zml_7_52 : zml 7 52 = some (0, 46, 1, 7) := by decide +kernel
theorem zml_7_55 : zml 7 55 = some (0, 40, 0, 7) := by decide +kernel
theorem zml_7_61 : zml 7 61 = some (0, 55, 1, 9) := by decide +kernel
theorem zml_7_77 : zml 7 77 = some (0, 52, 1, 8) := by decide +kernel
theorem zml_7_83 : zml 7 83 = some (0, 42, 2, 7) := by decide +kernel
theorem zml_7_90 : zml 7 90 = some (0, 62, 3, 9) := by decide +kernel
theorem zml_7_94 : zml 7 94 = some (0, 65, 2, 9) := by decide +kernel
theorem zml_7_98 : zml 7 98 = some (2, 96, 2, 10) := by decide +kernel
theorem zml_7_102 : zml 7 102 = some (0, 44, 1, 7) := by decide +kernel
theorem zml_7_108 : zml 7 108 = some (0, 45, 2, 7) := by decide +kernel
theorem zml_7_111 : zml 7 111 = some (0, 47, 2, 7) := by decide +kernel
theorem zml_7_114 : zml 7 114 = some (0, 48, 2, 7) := by decide +kernel
theorem zml_7_117 : zml 7 117 = some (0, 63, 2, 9) := by decide +kernel
theorem zml_7_120 : zml 7 120 = some (0, 49, 2, 7) := by decide +kernel
theorem zml_7_126 : zml 7 126 = some (0, 50, 1, 7) := by decide +kernel
theorem zml_8_28 : zml 8 28 = some (1, 184, 2, 13) := by decide +kernel
theorem zml_8_39 : zml 8 39 = some (2, 96, 2, 10) := by decide +kernel
theorem zml_9_52 : zml 9 52 = some (1, 184, 2, 13) := by decide +kernel
theorem zml_9_59 : zml 9 59 = some (3, 0, 5, 0) := by decide +kernel
theorem zml_9_65 : zml 9 65 = some (0, 20, 1, 4) := by decide +kernel
theorem zml_9_69 : zml 9 69 = some (0, 55, 1, 9) := by decide +kernel
theorem zml_9_76 : zml 9 76 = some (0, 64, 3, 9) := by decide +kernel
theorem zml_10_88 : zml 10 88 = some (1, 95, 2, 10) := by decide +kernel
theorem zml_10_99 : zml 10 99 = some (0, 17, 1, 3) := by decide +kernel
theorem zml_10_102 : zml 10 102 = some (0, 59, 1, 9) := by decide +kernel
theorem zml_10_106 : zml 10 106 = some (0, 55, 1, 9) := by decide +kernel
theorem zml_10_110 : zml 10 110 = some (0, 60, 1, 9) := by decide +kernel
theorem zml_10_114 : zml 10 114 = some (0, 54, 0, 9) := by decide +kernel
theorem zml_10_118 : zml 10 118 = some (0, 56, 0, 9) := by decide +kernel
theorem zml_10_124 : zml 10 124 = some (1, 92, 1, 10) := by decide +kernel
theorem zml_10_130 : zml 10 130 = some (0, 98, 1, 10) := by decide +kernel
theorem zml_10_133 : zml 10 133 = some (1, 94, 1, 10) := by decide +kernel
theorem zml_10_139 : zml 10 139 = some (0, 36, 1, 6) := by decide +kernel
theorem zml_10_142 : zml 10 142 = some (1, 93, 1, 10) := by decide +kernel
theorem zml_10_145 : zml 10 145 = some (0, 32, 1, 5) := by decide +kernel
theorem zml_10_149 : zml 10 149 = some (0, 37, 0, 6) := by decide +kernel
theorem zml_10_160 : zml 10 160 = some (0, 20, 1, 4) := by decide +kernel
theorem zml_10_172 : zml 10 172 = some (0, 53, 1, 9) := by decide +kernel
theorem zml_10_174 : zml 10 174 = some (0, 39, 0, 7) := by decide +kernel
theorem zml_10_177 : zml 10 177 = some (0, 66, 1, 9) := by decide +kernel
theorem zml_10_181 : zml 10 181 = some (0, 0, 1, 0) := by decide +kernel
theorem zml_10_192 : zml 10 192 = some (0, 99, 3, 10) := by decide +kernel
theorem zml_10_196 : zml 10 196 = some (0, 97, 1, 10) := by decide +kernel
theorem zml_10_202 : zml 10 202 = some (0, 105, 2, 10) := by decide +kernel
theorem zml_10_220 : zml 10 220 = some (0, 106, 1, 10) := by decide +kernel
theorem zml_10_223 : zml 10 223 = some (0, 107, 1, 10) := by decide +kernel
theorem zml_10_226 : zml 10 226 = some (0, 108, 1, 10) := by decide +kernel
theorem zml_10_229 : zml 10 229 = some (0, 109, 1, 10) := by decide +kernel
theorem zml_10_232 : zml 10 232 = some (0, 52, 1, 8) := by decide +kernel
theorem zml_10_239 : zml 10 239 = some (0, 24, 1, 4) := by decide +kernel
theorem zml_10_242 : zml 10 242 = some (0, 25, 1, 4) := by decide +kernel
theorem zml_10_245 : zml 10 245 = some (0, 26, 1, 4) := by decide +kernel
theorem zml_10_248 : zml 10 248 = some (0, 110, 2, 10) := by decide +kernel
theorem zml_10_251 : zml 10 251 = some (0, 12, 0, 1) := by decide +kernel
theorem zml_10_255 : zml 10 255 = some (0, 18, 0, 3) := by decide +kernel
theorem zml_10_259 : zml 10 259 = some (0, 19, 0, 3) := by decide +kernel
theorem zml_10_262 : zml 10 262 = some (0, 58, 0, 9) := by decide +kernel
theorem zml_10_265 : zml 10 265 = some (0, 51, 0, 8) := by decide +kernel
theorem zml_10_266 : zml 10 266 = some (0, 61, 1, 9) := by decide +kernel
theorem zml_10_267 : zml 10 267 = some (0, 100, 1, 10) := by decide +kernel
theorem zml_10_270 : zml 10 270 = some (0, 101, 1, 10) := by decide +kernel
theorem zml_10_273 : zml 10 273 = some (0, 102, 1, 10) := by decide +kernel
theorem zml_10_276 : zml 10 276 = some (0, 103, 1, 10) := by decide +kernel
theorem zml_10_279 : zml 10 279 = some (0, 104, 1, 10) := by decide +kernel
theorem zml_10_282 : zml 10 282 = some (0, 5, 0, 1) := by decide +kernel
theorem zml_10_297 : zml 10 297 = some (0, 6, 0, 1) := by decide +kernel
theorem zml_10_304 : zml 10 304 = some (0, 57, 0, 9) := by decide +kernel
theorem zml_10_311 : zml 10 311 = some (1, 96, 2, 10) := by decide +kernel
theorem zml_11_53 : zml 11 53 = some (0, 112, 2, 11) := by decide +kernel
theorem zml_11_57 : zml 11 57 = some (1, 111, 3, 11) := by decide +kernel
theorem zml_11_61 : zml 11 61 = some (0, 114, 2, 11) := by decide +kernel
theorem zml_11_65 : zml 11 65 = some (0, 116, 1, 11) := by decide +kernel
theorem zml_11_69 : zml 11 69 = some (0, 118, 1, 11) := by decide +kernel
theorem zml_11_72 : zml 11 72 = some (1, 123, 2, 11) := by decide +kernel
theorem zml_11_75 : zml 11 75 = some (0, 124, 2, 11) := by decide +kernel
theorem zml_11_78 : zml 11 78 = some (1, 126, 1, 11) := by decide +kernel
theorem zml_11_82 : zml 11 82 = some (0, 128, 1, 11) := by decide +kernel
theorem zml_11_85 : zml 11 85 = some (0, 121, 0, 11) := by decide +kernel
theorem zml_11_89 : zml 11 89 = some (0, 129, 2, 11) := by decide +kernel
theorem zml_11_92 : zml 11 92 = some (0, 130, 2, 11) := by decide +kernel
theorem zml_11_101 : zml 11 101 = some (0, 127, 1, 11) := by decide +kernel
theorem zml_11_104 : zml 11 104 = some (0, 131, 1, 11) := by decide +kernel
theorem zml_11_107 : zml 11 107 = some (0, 132, 1, 11) := by decide +kernel
theorem zml_11_111 : zml 11 111 = some (0, 133, 0, 11) := by decide +kernel
theorem zml_11_114 : zml 11 114 = some (0, 115, 3, 11) := by decide +kernel
theorem zml_11_118 : zml 11 118 = some (0, 122, 2, 11) := by decide +kernel
theorem zml_11_121 : zml 11 121 = some (0, 120, 1, 11) := by decide +kernel
theorem zml_11_124 : zml 11 124 = some (0, 136, 1, 11) := by decide +kernel
theorem zml_11_127 : zml 11 127 = some (0, 135, 2, 11) := by decide +kernel
theorem zml_11_130 : zml 11 130 = some (0, 138, 3, 11) := by decide +kernel
theorem zml_11_133 : zml 11 133 = some (0, 139, 3, 11) := by decide +kernel
theorem zml_11_136 : zml 11 136 = some (0, 140, 3, 11) := by decide +kernel
theorem zml_11_139 : zml 11 139 = some (0, 141, 1, 11) := by decide +kernel
theorem zml_11_142 : zml 11 142 = some (0, 137, 0, 11) := by decide +kernel
theorem zml_11_145 : zml 11 145 = some (0, 142, 1, 11) := by decide +kernel
theorem zml_11_148 : zml 11 148 = some (0, 143, 0, 11) := by decide +kernel
theorem zml_11_151 : zml 11 151 = some (0, 113, 0, 11) := by decide +kernel
theorem zml_11_154 : zml 11 154 = some (0, 144, 1, 11) := by decide +kernel
theorem zml_11_157 : zml 11 157 = some (0, 119, 0, 11) := by decide +kernel
theorem zml_11_160 : zml 11 160 = some (0, 146, 1, 11) := by decide +kernel
theorem zml_11_163 : zml 11 163 = some (0, 147, 1, 11) := by decide +kernel
theorem zml_11_166 : zml 11 166 = some (1, 117, 1, 11) := by decide +kernel
theorem zml_11_169 : zml 11 169 = some (0, 148, 1, 11) := by decide +kernel
theorem zml_11_181 : zml 11 181 = some (0, 155, 0, 11) := by decide +kernel
theorem zml_11_184 : zml 11 184 = some (0, 156, 0, 11) := by decide +kernel
theorem zml_11_190 : zml 11 190 = some (0, 159, 0, 11) := by decide +kernel
theorem zml_11_193 : zml 11 193 = some (0, 160, 0, 11) := by decide +kernel
theorem zml_11_196 : zml 11 196 = some (0, 161, 3, 11) := by decide +kernel
theorem zml_11_206 : zml 11 206 = some (0, 162, 3, 11) := by decide +kernel
theorem zml_11_209 : zml 11 209 = some (0, 134, 0, 11) := by decide +kernel
theorem zml_11_213 : zml 11 213 = some (0, 167, 1, 11) := by decide +kernel
theorem zml_11_216 : zml 11 216 = some (0, 125, 2, 11) := by decide +kernel
theorem zml_11_225 : zml 11 225 = some (0, 171, 3, 11) := by decide +kernel
theorem zml_11_228 : zml 11 228 = some (0, 172, 3, 11) := by decide +kernel
theorem zml_11_231 : zml 11 231 = some (0, 174, 1, 11) := by decide +kernel
theorem zlc_1_136 : zlc 1 136 = some 1125899906842624 := by decide +kernel
theorem zlc_1_138 : zlc 1 138 = some 2357947691 := by decide +kernel
theorem zlc_1_140 : zlc 1 140 = some 2593742460100 := by decide +kernel
theorem zlc_1_142 : zlc 1 142 = some 10 := by decide +kernel
theorem zlc_1_144 : zlc 1 144 = some 11 := by decide +kernel
theorem zlc_2_48 : zlc 2 48 = some 1152921504606846976 := by decide +kernel
