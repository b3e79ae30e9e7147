/-! ### the law: each call on both sides (written by program) -/
set_option maxRecDepth 100000 in
theorem zlw_13 : zlwOk (13, 67, 2, 10, 463, 465) = true := by decide +kernel
set_option maxRecDepth 100000 in
theorem zlw_17 : zlwOk (17, 149, 2, 11, 1145, 1147) = true := by decide +kernel
set_option maxRecDepth 100000 in
theorem zlw_18 : zlwOk (18, 68, 1, 10, 493, 495) = true := by decide +kernel
set_option maxRecDepth 100000 in
theorem zlw_22 : zlwOk (22, 150, 1, 11, 1153, 1155) = true := by decide +kernel
set_option maxRecDepth 100000 in
theorem zlw_23 : zlwOk (23, 69, 1, 10, 509, 511) = true := by decide +kernel
set_option maxRecDepth 100000 in
theorem zlw_26 : zlwOk (26, 151, 1, 11, 1165, 1167) = true := by decide +kernel
set_option maxRecDepth 100000 in
theorem zlw_27 : zlwOk (27, 70, 1, 10, 518, 520) = true := by decide +kernel
set_option maxRecDepth 100000 in
theorem zlw_30 : zlwOk (30, 152, 1, 11, 1169, 1171) = true := by decide +kernel
set_option maxRecDepth 100000 in
theorem zlw_31 : zlwOk (31, 71, 1, 10, 525, 527) = true := by decide +kernel
set_option maxRecDepth 100000 in
theorem zlw_34 : zlwOk (34, 153, 1, 11, 1173, 1175) = true := by decide +kernel
set_option maxRecDepth 100000 in
theorem zlw_35 : zlwOk (35, 72, 6, 10, 541, 543) = true := by decide +kernel
set_option maxRecDepth 100000 in
theorem zlw_39 : zlwOk (39, 154, 6, 11, 1184, 1186) = true := by decide +kernel
set_option maxRecDepth 100000 in
theorem zlw_40 : zlwOk (40, 73, 1, 10, 552, 554) = true := by decide +kernel
set_option maxRecDepth 100000 in
theorem zlw_43 : zlwOk (43, 157, 1, 11, 1188, 1190) = true := by decide +kernel
set_option maxRecDepth 100000 in
theorem zlw_44 : zlwOk (44, 74, 1, 10, 597, 599) = true := by decide +kernel
set_option maxRecDepth 100000 in
theorem zlw_47 : zlwOk (47, 158, 1, 11, 1200, 1202) = true := by decide +kernel
set_option maxRecDepth 100000 in
theorem zlw_48 : zlwOk (48, 75, 1, 10, 601, 603) = true := by decide +kernel
set_option maxRecDepth 100000 in
theorem zlw_51 : zlwOk (51, 145, 1, 11, 1024, 1026) = true := by decide +kernel
set_option maxRecDepth 100000 in
theorem zlw_52 : zlwOk (52, 76, 0, 10, 748, 750) = true := by decide +kernel
set_option maxRecDepth 100000 in
theorem zlw_56 : zlwOk (56, 163, 0, 11, 1204, 1206) = true := by decide +kernel
set_option maxRecDepth 100000 in
theorem zlw_57 : zlwOk (57, 77, 1, 10, 800, 802) = true := by decide +kernel
set_option maxRecDepth 100000 in
theorem zlw_60 : zlwOk (60, 164, 1, 11, 1224, 1226) = true := by decide +kernel
set_option maxRecDepth 100000 in
theorem zlw_61 : zlwOk (61, 78, 2, 10, 804, 806) = true := by decide +kernel
set_option maxRecDepth 100000 in
theorem zlw_64 : zlwOk (64, 165, 2, 11, 1228, 1230) = true := by decide +kernel
set_option maxRecDepth 100000 in
theorem zlw_65 : zlwOk (65, 79, 1, 10, 814, 816) = true := by decide +kernel
set_option maxRecDepth 100000 in
theorem zlw_68 : zlwOk (68, 166, 1, 11, 1232, 1234) = true := by decide +kernel
set_option maxRecDepth 100000 in
theorem zlw_69 : zlwOk (69, 80, 2, 10, 826, 828) = true := by decide +kernel
set_option maxRecDepth 100000 in
theorem zlw_72 : zlwOk (72, 168, 2, 11, 1240, 1242) = true := by decide +kernel
set_option maxRecDepth 100000 in
theorem zlw_73 : zlwOk (73, 81, 2, 10, 844, 846) = true := by decide +kernel
set_option maxRecDepth 100000 in
theorem zlw_76 : zlwOk (76, 169, 2, 11, 1252, 1254) = true := by decide +kernel
set_option maxRecDepth 100000 in
theorem zlw_77 : zlwOk (77, 82, 2, 10, 848, 850) = true := by decide +kernel
set_option maxRecDepth 100000 in
theorem zlw_80 : zlwOk (80, 170, 2, 11, 1256, 1258) = true := by decide +kernel
set_option maxRecDepth 100000 in
theorem zlw_81 : zlwOk (81, 83, 1, 10, 854, 856) = true := by decide +kernel
set_option maxRecDepth 100000 in
theorem zlw_84 : zlwOk (84, 173, 1, 11, 1260, 1262) = true := by decide +kernel
set_option maxRecDepth 100000 in
theorem zlw_85 : zlwOk (85, 84, 1, 10, 885, 887) = true := by decide +kernel
set_option maxRecDepth 100000 in
theorem zlw_88 : zlwOk (88, 175, 1, 11, 1272, 1274) = true := by decide +kernel
set_option maxRecDepth 100000 in
theorem zlw_89 : zlwOk (89, 85, 2, 10, 893, 895) = true := by decide +kernel
set_option maxRecDepth 100000 in
theorem zlw_92 : zlwOk (92, 176, 2, 11, 1280, 1282) = true := by decide +kernel
set_option maxRecDepth 100000 in
theorem zlw_93 : zlwOk (93, 86, 0, 10, 897, 899) = true := by decide +kernel
set_option maxRecDepth 100000 in
theorem zlw_96 : zlwOk (96, 177, 0, 11, 1284, 1286) = true := by decide +kernel
set_option maxRecDepth 100000 in
theorem zlw_97 : zlwOk (97, 87, 1, 10, 910, 912) = true := by decide +kernel
set_option maxRecDepth 100000 in
theorem zlw_100 : zlwOk (100, 178, 1, 11, 1288, 1290) = true := by decide +kernel
set_option maxRecDepth 100000 in
theorem zlw_101 : zlwOk (101, 88, 0, 10, 914, 916) = true := by decide +kernel
set_option maxRecDepth 100000 in
theorem zlw_104 : zlwOk (104, 179, 0, 11, 1292, 1294) = true := by decide +kernel
set_option maxRecDepth 100000 in
theorem zlw_105 : zlwOk (105, 89, 0, 10, 922, 924) = true := by decide +kernel
set_option maxRecDepth 100000 in
theorem zlw_108 : zlwOk (108, 180, 0, 11, 1296, 1298) = true := by decide +kernel
set_option maxRecDepth 100000 in
theorem zlw_109 : zlwOk (109, 90, 0, 10, 926, 928) = true := by decide +kernel
set_option maxRecDepth 100000 in
theorem zlw_112 : zlwOk (112, 181, 0, 11, 1300, 1302) = true := by decide +kernel
set_option maxRecDepth 100000 in
theorem zlw_113 : zlwOk (113, 91, 1, 10, 934, 936) = true := by decide +kernel
set_option maxRecDepth 100000 in
theorem zlw_116 : zlwOk (116, 182, 1, 11, 1304, 1306) = true := by decide +kernel
section ZLAW
variable {p : Program} {l : Launch} {e : Env} {s : State} {m : MethodId} {below : List Frame} {meth : Method} {c : Code} {H : Heap} {locs : List Loc} {QQ : State → Prop} {b L i u v : Nat} {xs : Nat → Int32} {ad : Nat → Nat} {ca : Nat → ClassId} {D : va_G} {ls : Array Slot} {M : zM} {X : zX} {B : Int}
set_option maxRecDepth 100000 in
set_option maxHeartbeats 4000000 in
/-- add -/
theorem law_0 (hL : L ≤ 3584) (C0 : lw_At p s m meth c b L xs) (hK : va_K D vwCl (ztys ca) s) (hN : zNw s) (hA : ∀ q, zA ad q → s.heap.size ≤ q) (hP : va_P D vwCl (zws ad ca M) H) (hD : va_D (zA ad) (zws ad ca M)) (hS : va_S (fun q : Nat => s.heap.size ≤ q) s.heap H locs) (hl : lv_has ls 4 [(0, .ref b), (1, .ref (ad 209)), (2, .ref (ad 374)), (3, .int (Int32.ofInt (i : Int)))]) (hi : i + 7 ≤ L) (hB : B ≤ 700000000) (hC : IC X M) (hI : IR X M) (hX : WX B X) (next : zlNext p l e s m below meth c b ad ca D QQ ls B) : W p l e room_1 s m #[Value.ref b] below meth c H locs 600000 7302250 QQ (F0 m 148 ls []) := by
  obtain ⟨hx, hb, -⟩ := id C0
  refine lv_aload_n hx hb dL_law_148 rfl (lv_at hl 1 rfl) ?_
  refine zl_arg hL C0 hS hl (k := 1) (by omega) dL_law_149 dL_law_150 dL_law_151 dL_law_152 dL_law_153 ?_
  refine zl_arg hL C0 hS hl (k := 2) (by omega) dL_law_154 dL_law_155 dL_law_156 dL_law_157 dL_law_158 ?_
  refine zl_call (as := [.inl (zly xs (i + 1)), .inl (zly xs (i + 2))]) (rest := []) C0 hK hN hP hD hS hA (j_add 0 B X M (zly xs (i + 1)) (zly xs (i + 2)) (zly_rg xs _) (zly_rg xs _) hC hI hX) zlw_13 rfl hl.1 (Nat.zero_le _) rfl dL_law_159 (fun r M1 H1 locs1 hq hP1 hD1 hS1 => ?_)
  obtain ⟨a, rfl, hq⟩ := hq
  refine lv_aload_n (x := ad 374) hx hb dL_law_162 rfl (lv_at hl 2 rfl) ?_
  refine zl_arg hL C0 hS1 hl (k := 1) (by omega) dL_law_163 dL_law_164 dL_law_165 dL_law_166 dL_law_167 ?_
  refine zl_arg hL C0 hS1 hl (k := 2) (by omega) dL_law_168 dL_law_169 dL_law_170 dL_law_171 dL_law_172 ?_
  refine zl_call (as := [.inl (zly xs (i + 1)), .inl (zly xs (i + 2))]) (rest := [.int (Int32.ofInt a)]) C0 hK hN hP1 hD1 hS1 hA hq zlw_17 rfl hl.1 (Nat.le_of_ble_eq_true rfl) rfl dL_law_173 (fun r M2 H2 locs2 hq2 hP2 hD2 hS2 => ?_)
  obtain ⟨rfl, X2, c1, c2, c3⟩ := hq2
  exact lv_icmp_eq (tgt := 785) hx hb dL_law_176 (by decide) (fun _ => next X2 M2 H2 locs2 c1 c2 c3 hP2 hD2 hS2) (fun z => absurd rfl z)
set_option maxRecDepth 100000 in
set_option maxHeartbeats 4000000 in
/-- lose -/
theorem law_1 (hL : L ≤ 3584) (C0 : lw_At p s m meth c b L xs) (hK : va_K D vwCl (ztys ca) s) (hN : zNw s) (hA : ∀ q, zA ad q → s.heap.size ≤ q) (hP : va_P D vwCl (zws ad ca M) H) (hD : va_D (zA ad) (zws ad ca M)) (hS : va_S (fun q : Nat => s.heap.size ≤ q) s.heap H locs) (hl : lv_has ls 4 [(0, .ref b), (1, .ref (ad 209)), (2, .ref (ad 374)), (3, .int (Int32.ofInt (i : Int)))]) (hi : i + 7 ≤ L) (hB : B ≤ 700000000) (hC : IC X M) (hI : IR X M) (hX : WX B X) (next : zlNext p l e s m below meth c b ad ca D QQ ls B) : W p l e room_1 s m #[Value.ref b] below meth c H locs 600000 7302250 QQ (F0 m 181 ls []) := by
  obtain ⟨hx, hb, -⟩ := id C0
  refine lv_aload_n hx hb dL_law_181 rfl (lv_at hl 1 rfl) ?_
  refine zl_arg hL C0 hS hl (k := 1) (by omega) dL_law_182 dL_law_183 dL_law_184 dL_law_185 dL_law_186 ?_
  refine zl_call (as := [.inl (zly xs (i + 1))]) (rest := []) C0 hK hN hP hD hS hA (j_lose 0 B X M (zly xs (i + 1)) (zly_rg xs _) hC hI hX) zlw_18 rfl hl.1 (Nat.zero_le _) rfl dL_law_187 (fun r M1 H1 locs1 hq hP1 hD1 hS1 => ?_)
  obtain ⟨a, rfl, hq⟩ := hq
  refine lv_aload_n (x := ad 374) hx hb dL_law_190 rfl (lv_at hl 2 rfl) ?_
  refine zl_arg hL C0 hS1 hl (k := 1) (by omega) dL_law_191 dL_law_192 dL_law_193 dL_law_194 dL_law_195 ?_
  refine zl_call (as := [.inl (zly xs (i + 1))]) (rest := [.int (Int32.ofInt a)]) C0 hK hN hP1 hD1 hS1 hA hq zlw_22 rfl hl.1 (Nat.le_of_ble_eq_true rfl) rfl dL_law_196 (fun r M2 H2 locs2 hq2 hP2 hD2 hS2 => ?_)
  obtain ⟨rfl, X2, c1, c2, c3⟩ := hq2
  exact lv_icmp_eq (tgt := 785) hx hb dL_law_199 (by decide) (fun _ => next X2 M2 H2 locs2 c1 c2 c3 hP2 hD2 hS2) (fun z => absurd rfl z)
set_option maxRecDepth 100000 in
set_option maxHeartbeats 4000000 in
/-- lead -/
theorem law_2 (hL : L ≤ 3584) (C0 : lw_At p s m meth c b L xs) (hK : va_K D vwCl (ztys ca) s) (hN : zNw s) (hA : ∀ q, zA ad q → s.heap.size ≤ q) (hP : va_P D vwCl (zws ad ca M) H) (hD : va_D (zA ad) (zws ad ca M)) (hS : va_S (fun q : Nat => s.heap.size ≤ q) s.heap H locs) (hl : lv_has ls 4 [(0, .ref b), (1, .ref (ad 209)), (2, .ref (ad 374)), (3, .int (Int32.ofInt (i : Int)))]) (hi : i + 7 ≤ L) (hB : B ≤ 700000000) (hC : IC X M) (hI : IR X M) (hX : WX B X) (next : zlNext p l e s m below meth c b ad ca D QQ ls B) : W p l e room_1 s m #[Value.ref b] below meth c H locs 600000 7302250 QQ (F0 m 204 ls []) := by
  obtain ⟨hx, hb, -⟩ := id C0
  refine lv_aload_n hx hb dL_law_204 rfl (lv_at hl 1 rfl) ?_
  refine zl_arg hL C0 hS hl (k := 1) (by omega) dL_law_205 dL_law_206 dL_law_207 dL_law_208 dL_law_209 ?_
  refine zl_call (as := [.inl (zly xs (i + 1))]) (rest := []) C0 hK hN hP hD hS hA (j_lead 0 B X M (zly xs (i + 1)) (zly_rg xs _) hC hI hX) zlw_23 rfl hl.1 (Nat.zero_le _) rfl dL_law_210 (fun r M1 H1 locs1 hq hP1 hD1 hS1 => ?_)
  obtain ⟨a, rfl, hq⟩ := hq
  refine lv_aload_n (x := ad 374) hx hb dL_law_213 rfl (lv_at hl 2 rfl) ?_
  refine zl_arg hL C0 hS1 hl (k := 1) (by omega) dL_law_214 dL_law_215 dL_law_216 dL_law_217 dL_law_218 ?_
  refine zl_call (as := [.inl (zly xs (i + 1))]) (rest := [.int (Int32.ofInt a)]) C0 hK hN hP1 hD1 hS1 hA hq zlw_26 rfl hl.1 (Nat.le_of_ble_eq_true rfl) rfl dL_law_219 (fun r M2 H2 locs2 hq2 hP2 hD2 hS2 => ?_)
  obtain ⟨rfl, X2, c1, c2, c3⟩ := hq2
  exact lv_icmp_eq (tgt := 785) hx hb dL_law_222 (by decide) (fun _ => next X2 M2 H2 locs2 c1 c2 c3 hP2 hD2 hS2) (fun z => absurd rfl z)
set_option maxRecDepth 100000 in
set_option maxHeartbeats 4000000 in
/-- target -/
theorem law_3 (hL : L ≤ 3584) (C0 : lw_At p s m meth c b L xs) (hK : va_K D vwCl (ztys ca) s) (hN : zNw s) (hA : ∀ q, zA ad q → s.heap.size ≤ q) (hP : va_P D vwCl (zws ad ca M) H) (hD : va_D (zA ad) (zws ad ca M)) (hS : va_S (fun q : Nat => s.heap.size ≤ q) s.heap H locs) (hl : lv_has ls 4 [(0, .ref b), (1, .ref (ad 209)), (2, .ref (ad 374)), (3, .int (Int32.ofInt (i : Int)))]) (hi : i + 7 ≤ L) (hB : B ≤ 700000000) (hC : IC X M) (hI : IR X M) (hX : WX B X) (next : zlNext p l e s m below meth c b ad ca D QQ ls B) : W p l e room_1 s m #[Value.ref b] below meth c H locs 600000 7302250 QQ (F0 m 227 ls []) := by
  obtain ⟨hx, hb, -⟩ := id C0
  refine lv_aload_n hx hb dL_law_227 rfl (lv_at hl 1 rfl) ?_
  refine zl_arg hL C0 hS hl (k := 1) (by omega) dL_law_228 dL_law_229 dL_law_230 dL_law_231 dL_law_232 ?_
  refine zl_call (as := [.inl (zly xs (i + 1))]) (rest := []) C0 hK hN hP hD hS hA (j_target 0 B X M (zly xs (i + 1)) (zly_rg xs _) hC hI hX) zlw_27 rfl hl.1 (Nat.zero_le _) rfl dL_law_233 (fun r M1 H1 locs1 hq hP1 hD1 hS1 => ?_)
  obtain ⟨a, rfl, hq⟩ := hq
  refine lv_aload_n (x := ad 374) hx hb dL_law_236 rfl (lv_at hl 2 rfl) ?_
  refine zl_arg hL C0 hS1 hl (k := 1) (by omega) dL_law_237 dL_law_238 dL_law_239 dL_law_240 dL_law_241 ?_
  refine zl_call (as := [.inl (zly xs (i + 1))]) (rest := [.int (Int32.ofInt a)]) C0 hK hN hP1 hD1 hS1 hA hq zlw_30 rfl hl.1 (Nat.le_of_ble_eq_true rfl) rfl dL_law_242 (fun r M2 H2 locs2 hq2 hP2 hD2 hS2 => ?_)
  obtain ⟨rfl, X2, c1, c2, c3⟩ := hq2
  exact lv_icmp_eq (tgt := 785) hx hb dL_law_245 (by decide) (fun _ => next X2 M2 H2 locs2 c1 c2 c3 hP2 hD2 hS2) (fun z => absurd rfl z)
set_option maxRecDepth 100000 in
set_option maxHeartbeats 4000000 in
/-- obstacle -/
theorem law_4 (hL : L ≤ 3584) (C0 : lw_At p s m meth c b L xs) (hK : va_K D vwCl (ztys ca) s) (hN : zNw s) (hA : ∀ q, zA ad q → s.heap.size ≤ q) (hP : va_P D vwCl (zws ad ca M) H) (hD : va_D (zA ad) (zws ad ca M)) (hS : va_S (fun q : Nat => s.heap.size ≤ q) s.heap H locs) (hl : lv_has ls 4 [(0, .ref b), (1, .ref (ad 209)), (2, .ref (ad 374)), (3, .int (Int32.ofInt (i : Int)))]) (hi : i + 7 ≤ L) (hB : B ≤ 700000000) (hC : IC X M) (hI : IR X M) (hX : WX B X) (next : zlNext p l e s m below meth c b ad ca D QQ ls B) : W p l e room_1 s m #[Value.ref b] below meth c H locs 600000 7302250 QQ (F0 m 250 ls []) := by
  obtain ⟨hx, hb, -⟩ := id C0
  refine lv_aload_n hx hb dL_law_250 rfl (lv_at hl 1 rfl) ?_
  refine zl_arg hL C0 hS hl (k := 1) (by omega) dL_law_251 dL_law_252 dL_law_253 dL_law_254 dL_law_255 ?_
  refine zl_call (as := [.inl (zly xs (i + 1))]) (rest := []) C0 hK hN hP hD hS hA (j_obstacle 0 B X M (zly xs (i + 1)) (zly_rg xs _) hC hI hX) zlw_31 rfl hl.1 (Nat.zero_le _) rfl dL_law_256 (fun r M1 H1 locs1 hq hP1 hD1 hS1 => ?_)
  obtain ⟨a, rfl, hq⟩ := hq
  refine lv_aload_n (x := ad 374) hx hb dL_law_259 rfl (lv_at hl 2 rfl) ?_
  refine zl_arg hL C0 hS1 hl (k := 1) (by omega) dL_law_260 dL_law_261 dL_law_262 dL_law_263 dL_law_264 ?_
  refine zl_call (as := [.inl (zly xs (i + 1))]) (rest := [.int (Int32.ofInt a)]) C0 hK hN hP1 hD1 hS1 hA hq zlw_34 rfl hl.1 (Nat.le_of_ble_eq_true rfl) rfl dL_law_265 (fun r M2 H2 locs2 hq2 hP2 hD2 hS2 => ?_)
  obtain ⟨rfl, X2, c1, c2, c3⟩ := hq2
  exact lv_icmp_eq (tgt := 785) hx hb dL_law_268 (by decide) (fun _ => next X2 M2 H2 locs2 c1 c2 c3 hP2 hD2 hS2) (fun z => absurd rfl z)
set_option maxRecDepth 100000 in
set_option maxHeartbeats 4000000 in
/-- feed -/
theorem law_5 (hL : L ≤ 3584) (C0 : lw_At p s m meth c b L xs) (hK : va_K D vwCl (ztys ca) s) (hN : zNw s) (hA : ∀ q, zA ad q → s.heap.size ≤ q) (hP : va_P D vwCl (zws ad ca M) H) (hD : va_D (zA ad) (zws ad ca M)) (hS : va_S (fun q : Nat => s.heap.size ≤ q) s.heap H locs) (hl : lv_has ls 4 [(0, .ref b), (1, .ref (ad 209)), (2, .ref (ad 374)), (3, .int (Int32.ofInt (i : Int)))]) (hi : i + 7 ≤ L) (hB : B ≤ 700000000) (hC : IC X M) (hI : IR X M) (hX : WX B X) (next : zlNext p l e s m below meth c b ad ca D QQ ls B) : W p l e room_1 s m #[Value.ref b] below meth c H locs 600000 7302250 QQ (F0 m 273 ls []) := by
  obtain ⟨hx, hb, -⟩ := id C0
  refine lv_aload_n hx hb dL_law_273 rfl (lv_at hl 1 rfl) ?_
  refine zl_arg hL C0 hS hl (k := 1) (by omega) dL_law_274 dL_law_275 dL_law_276 dL_law_277 dL_law_278 ?_
  refine zl_arg hL C0 hS hl (k := 2) (by omega) dL_law_279 dL_law_280 dL_law_281 dL_law_282 dL_law_283 ?_
  refine zl_arg hL C0 hS hl (k := 3) (by omega) dL_law_284 dL_law_285 dL_law_286 dL_law_287 dL_law_288 ?_
  refine zl_arg hL C0 hS hl (k := 4) (by omega) dL_law_289 dL_law_290 dL_law_291 dL_law_292 dL_law_293 ?_
  refine zl_arg hL C0 hS hl (k := 5) (by omega) dL_law_294 dL_law_295 dL_law_296 dL_law_297 dL_law_298 ?_
  refine zl_arg6 hL C0 hS hl (k := 6) (by omega) dL_law_299 dL_law_300 dL_law_301 dL_law_303 dL_law_304 ?_
  refine zl_call (as := [.inl (zly xs (i + 1)), .inl (zly xs (i + 2)), .inl (zly xs (i + 3)), .inl (zly xs (i + 4)), .inl (zly xs (i + 5)), .inl (zly xs (i + 6))]) (rest := []) C0 hK hN hP hD hS hA (j_feed 0 B X M (zly xs (i + 1)) (zly xs (i + 2)) (zly xs (i + 3)) (zly xs (i + 4)) (zly xs (i + 5)) (zly xs (i + 6)) (zly_rg xs _) (zly_rg xs _) (zly_rg xs _) (zly_rg xs _) (zly_rg xs _) (zly_rg xs _) hC hI hX) zlw_35 rfl hl.1 (Nat.zero_le _) rfl dL_law_305 (fun r M1 H1 locs1 hq hP1 hD1 hS1 => ?_)
  obtain ⟨a, rfl, hq⟩ := hq
  refine lv_aload_n (x := ad 374) hx hb dL_law_308 rfl (lv_at hl 2 rfl) ?_
  refine zl_arg hL C0 hS1 hl (k := 1) (by omega) dL_law_309 dL_law_310 dL_law_311 dL_law_312 dL_law_313 ?_
  refine zl_arg hL C0 hS1 hl (k := 2) (by omega) dL_law_314 dL_law_315 dL_law_316 dL_law_317 dL_law_318 ?_
  refine zl_arg hL C0 hS1 hl (k := 3) (by omega) dL_law_319 dL_law_320 dL_law_321 dL_law_322 dL_law_323 ?_
  refine zl_arg hL C0 hS1 hl (k := 4) (by omega) dL_law_324 dL_law_325 dL_law_326 dL_law_327 dL_law_328 ?_
  refine zl_arg hL C0 hS1 hl (k := 5) (by omega) dL_law_329 dL_law_330 dL_law_331 dL_law_332 dL_law_333 ?_
  refine zl_arg6 hL C0 hS1 hl (k := 6) (by omega) dL_law_334 dL_law_335 dL_law_336 dL_law_338 dL_law_339 ?_
  refine zl_call (as := [.inl (zly xs (i + 1)), .inl (zly xs (i + 2)), .inl (zly xs (i + 3)), .inl (zly xs (i + 4)), .inl (zly xs (i + 5)), .inl (zly xs (i + 6))]) (rest := [.int (Int32.ofInt a)]) C0 hK hN hP1 hD1 hS1 hA hq zlw_39 rfl hl.1 (Nat.le_of_ble_eq_true rfl) rfl dL_law_340 (fun r M2 H2 locs2 hq2 hP2 hD2 hS2 => ?_)
  obtain ⟨rfl, X2, c1, c2, c3⟩ := hq2
  exact lv_icmp_eq (tgt := 785) hx hb dL_law_343 (by decide) (fun _ => next X2 M2 H2 locs2 c1 c2 c3 hP2 hD2 hS2) (fun z => absurd rfl z)
set_option maxRecDepth 100000 in
set_option maxHeartbeats 4000000 in
/-- shape -/
theorem law_6 (hL : L ≤ 3584) (C0 : lw_At p s m meth c b L xs) (hK : va_K D vwCl (ztys ca) s) (hN : zNw s) (hA : ∀ q, zA ad q → s.heap.size ≤ q) (hP : va_P D vwCl (zws ad ca M) H) (hD : va_D (zA ad) (zws ad ca M)) (hS : va_S (fun q : Nat => s.heap.size ≤ q) s.heap H locs) (hl : lv_has ls 4 [(0, .ref b), (1, .ref (ad 209)), (2, .ref (ad 374)), (3, .int (Int32.ofInt (i : Int)))]) (hi : i + 7 ≤ L) (hB : B ≤ 700000000) (hC : IC X M) (hI : IR X M) (hX : WX B X) (next : zlNext p l e s m below meth c b ad ca D QQ ls B) : W p l e room_1 s m #[Value.ref b] below meth c H locs 600000 7302250 QQ (F0 m 348 ls []) := by
  obtain ⟨hx, hb, -⟩ := id C0
  refine lv_aload_n hx hb dL_law_348 rfl (lv_at hl 1 rfl) ?_
  refine zl_arg hL C0 hS hl (k := 1) (by omega) dL_law_349 dL_law_350 dL_law_351 dL_law_352 dL_law_353 ?_
  refine zl_call (as := [.inl (zly xs (i + 1))]) (rest := []) C0 hK hN hP hD hS hA (j_shape 0 B X M (zly xs (i + 1)) (zly_rg xs _) hC hI hX) zlw_40 rfl hl.1 (Nat.zero_le _) rfl dL_law_354 (fun r M1 H1 locs1 hq hP1 hD1 hS1 => ?_)
  obtain ⟨a, rfl, hq⟩ := hq
  refine lv_aload_n (x := ad 374) hx hb dL_law_357 rfl (lv_at hl 2 rfl) ?_
  refine zl_arg hL C0 hS1 hl (k := 1) (by omega) dL_law_358 dL_law_359 dL_law_360 dL_law_361 dL_law_362 ?_
  refine zl_call (as := [.inl (zly xs (i + 1))]) (rest := [.int (Int32.ofInt a)]) C0 hK hN hP1 hD1 hS1 hA hq zlw_43 rfl hl.1 (Nat.le_of_ble_eq_true rfl) rfl dL_law_363 (fun r M2 H2 locs2 hq2 hP2 hD2 hS2 => ?_)
  obtain ⟨rfl, X2, c1, c2, c3⟩ := hq2
  exact lv_icmp_eq (tgt := 785) hx hb dL_law_366 (by decide) (fun _ => next X2 M2 H2 locs2 c1 c2 c3 hP2 hD2 hS2) (fun z => absurd rfl z)
set_option maxRecDepth 100000 in
set_option maxHeartbeats 4000000 in
/-- choose -/
theorem law_7 (hL : L ≤ 3584) (C0 : lw_At p s m meth c b L xs) (hK : va_K D vwCl (ztys ca) s) (hN : zNw s) (hA : ∀ q, zA ad q → s.heap.size ≤ q) (hP : va_P D vwCl (zws ad ca M) H) (hD : va_D (zA ad) (zws ad ca M)) (hS : va_S (fun q : Nat => s.heap.size ≤ q) s.heap H locs) (hl : lv_has ls 4 [(0, .ref b), (1, .ref (ad 209)), (2, .ref (ad 374)), (3, .int (Int32.ofInt (i : Int)))]) (hi : i + 7 ≤ L) (hB : B ≤ 700000000) (hC : IC X M) (hI : IR X M) (hX : WX B X) (next : zlNext p l e s m below meth c b ad ca D QQ ls B) : W p l e room_1 s m #[Value.ref b] below meth c H locs 600000 7302250 QQ (F0 m 371 ls []) := by
  obtain ⟨hx, hb, -⟩ := id C0
  refine lv_aload_n hx hb dL_law_371 rfl (lv_at hl 1 rfl) ?_
  refine zl_arg hL C0 hS hl (k := 1) (by omega) dL_law_372 dL_law_373 dL_law_374 dL_law_375 dL_law_376 ?_
  refine zl_call (as := [.inl (zly xs (i + 1))]) (rest := []) C0 hK hN hP hD hS hA (j_choose 0 B X M (zly xs (i + 1)) (zly_rg xs _) hC hI hX) zlw_44 rfl hl.1 (Nat.zero_le _) rfl dL_law_377 (fun r M1 H1 locs1 hq hP1 hD1 hS1 => ?_)
  obtain ⟨a, rfl, hq⟩ := hq
  refine lv_aload_n (x := ad 374) hx hb dL_law_380 rfl (lv_at hl 2 rfl) ?_
  refine zl_arg hL C0 hS1 hl (k := 1) (by omega) dL_law_381 dL_law_382 dL_law_383 dL_law_384 dL_law_385 ?_
  refine zl_call (as := [.inl (zly xs (i + 1))]) (rest := [.int (Int32.ofInt a)]) C0 hK hN hP1 hD1 hS1 hA hq zlw_47 rfl hl.1 (Nat.le_of_ble_eq_true rfl) rfl dL_law_386 (fun r M2 H2 locs2 hq2 hP2 hD2 hS2 => ?_)
  obtain ⟨rfl, X2, c1, c2, c3⟩ := hq2
  exact lv_icmp_eq (tgt := 785) hx hb dL_law_389 (by decide) (fun _ => next X2 M2 H2 locs2 c1 c2 c3 hP2 hD2 hS2) (fun z => absurd rfl z)
set_option maxRecDepth 100000 in
set_option maxHeartbeats 4000000 in
/-- rounds -/
theorem law_8 (hL : L ≤ 3584) (C0 : lw_At p s m meth c b L xs) (hK : va_K D vwCl (ztys ca) s) (hN : zNw s) (hA : ∀ q, zA ad q → s.heap.size ≤ q) (hP : va_P D vwCl (zws ad ca M) H) (hD : va_D (zA ad) (zws ad ca M)) (hS : va_S (fun q : Nat => s.heap.size ≤ q) s.heap H locs) (hl : lv_has ls 4 [(0, .ref b), (1, .ref (ad 209)), (2, .ref (ad 374)), (3, .int (Int32.ofInt (i : Int)))]) (hi : i + 7 ≤ L) (hB : B ≤ 700000000) (hC : IC X M) (hI : IR X M) (hX : WX B X) (next : zlNext p l e s m below meth c b ad ca D QQ ls B) : W p l e room_1 s m #[Value.ref b] below meth c H locs 600000 7302250 QQ (F0 m 394 ls []) := by
  obtain ⟨hx, hb, -⟩ := id C0
  refine lv_aload_n hx hb dL_law_394 rfl (lv_at hl 1 rfl) ?_
  refine zl_arg hL C0 hS hl (k := 1) (by omega) dL_law_395 dL_law_396 dL_law_397 dL_law_398 dL_law_399 ?_
  refine zl_call (as := [.inl (zly xs (i + 1))]) (rest := []) C0 hK hN hP hD hS hA (j_rounds 0 B X M (zly xs (i + 1)) (zly_rg xs _) (by omega) hC hI hX) zlw_48 rfl hl.1 (Nat.zero_le _) rfl dL_law_400 (fun r M1 H1 locs1 hq hP1 hD1 hS1 => ?_)
  obtain ⟨a, rfl, hq⟩ := hq
  refine lv_aload_n (x := ad 374) hx hb dL_law_403 rfl (lv_at hl 2 rfl) ?_
  refine zl_arg hL C0 hS1 hl (k := 1) (by omega) dL_law_404 dL_law_405 dL_law_406 dL_law_407 dL_law_408 ?_
  refine zl_call (as := [.inl (zly xs (i + 1))]) (rest := [.int (Int32.ofInt a)]) C0 hK hN hP1 hD1 hS1 hA hq zlw_51 rfl hl.1 (Nat.le_of_ble_eq_true rfl) rfl dL_law_409 (fun r M2 H2 locs2 hq2 hP2 hD2 hS2 => ?_)
  obtain ⟨rfl, X2, c1, c2, c3⟩ := hq2
  exact lv_icmp_eq (tgt := 785) hx hb dL_law_412 (by decide) (fun _ => next X2 M2 H2 locs2 c1 c2 c3 hP2 hD2 hS2) (fun z => absurd rfl z)
set_option maxRecDepth 100000 in
set_option maxHeartbeats 4000000 in
/-- execute -/
theorem law_9 (hL : L ≤ 3584) (C0 : lw_At p s m meth c b L xs) (hK : va_K D vwCl (ztys ca) s) (hN : zNw s) (hA : ∀ q, zA ad q → s.heap.size ≤ q) (hP : va_P D vwCl (zws ad ca M) H) (hD : va_D (zA ad) (zws ad ca M)) (hS : va_S (fun q : Nat => s.heap.size ≤ q) s.heap H locs) (hl : lv_has ls 4 [(0, .ref b), (1, .ref (ad 209)), (2, .ref (ad 374)), (3, .int (Int32.ofInt (i : Int)))]) (hi : i + 7 ≤ L) (hB : B ≤ 700000000) (hC : IC X M) (hI : IR X M) (hX : WX B X) (next : zlNext p l e s m below meth c b ad ca D QQ ls B) : W p l e room_1 s m #[Value.ref b] below meth c H locs 600000 7302250 QQ (F0 m 417 ls []) := by
  obtain ⟨hx, hb, -⟩ := id C0
  refine lv_aload_n hx hb dL_law_417 rfl (lv_at hl 1 rfl) ?_
  refine zl_call (as := []) (rest := []) C0 hK hN hP hD hS hA (j_execute 0 B X M   (by omega) hC hI hX) zlw_52 rfl hl.1 (Nat.zero_le _) rfl dL_law_418 (fun r M1 H1 locs1 hq hP1 hD1 hS1 => ?_)
  obtain ⟨a, rfl, hq⟩ := hq
  refine lv_aload_n (x := ad 374) hx hb dL_law_421 rfl (lv_at hl 2 rfl) ?_
  refine zl_call (as := []) (rest := [.int (Int32.ofInt a)]) C0 hK hN hP1 hD1 hS1 hA hq zlw_56 rfl hl.1 (Nat.le_of_ble_eq_true rfl) rfl dL_law_422 (fun r M2 H2 locs2 hq2 hP2 hD2 hS2 => ?_)
  obtain ⟨rfl, X2, c1, c2, c3⟩ := hq2
  exact lv_icmp_eq (tgt := 785) hx hb dL_law_425 (by decide) (fun _ => next X2 M2 H2 locs2 c1 c2 c3 hP2 hD2 hS2) (fun z => absurd rfl z)
set_option maxRecDepth 100000 in
set_option maxHeartbeats 4000000 in
/-- refusal -/
theorem law_10 (hL : L ≤ 3584) (C0 : lw_At p s m meth c b L xs) (hK : va_K D vwCl (ztys ca) s) (hN : zNw s) (hA : ∀ q, zA ad q → s.heap.size ≤ q) (hP : va_P D vwCl (zws ad ca M) H) (hD : va_D (zA ad) (zws ad ca M)) (hS : va_S (fun q : Nat => s.heap.size ≤ q) s.heap H locs) (hl : lv_has ls 4 [(0, .ref b), (1, .ref (ad 209)), (2, .ref (ad 374)), (3, .int (Int32.ofInt (i : Int)))]) (hi : i + 7 ≤ L) (hB : B ≤ 700000000) (hC : IC X M) (hI : IR X M) (hX : WX B X) (next : zlNext p l e s m below meth c b ad ca D QQ ls B) : W p l e room_1 s m #[Value.ref b] below meth c H locs 600000 7302250 QQ (F0 m 430 ls []) := by
  obtain ⟨hx, hb, -⟩ := id C0
  refine lv_aload_n hx hb dL_law_430 rfl (lv_at hl 1 rfl) ?_
  refine zl_arg hL C0 hS hl (k := 1) (by omega) dL_law_431 dL_law_432 dL_law_433 dL_law_434 dL_law_435 ?_
  refine zl_call (as := [.inl (zly xs (i + 1))]) (rest := []) C0 hK hN hP hD hS hA (j_refusal 0 B X M (zly xs (i + 1)) (zly_rg xs _) hC hI hX) zlw_57 rfl hl.1 (Nat.zero_le _) rfl dL_law_436 (fun r M1 H1 locs1 hq hP1 hD1 hS1 => ?_)
  obtain ⟨a, rfl, hq⟩ := hq
  refine lv_aload_n (x := ad 374) hx hb dL_law_439 rfl (lv_at hl 2 rfl) ?_
  refine zl_arg hL C0 hS1 hl (k := 1) (by omega) dL_law_440 dL_law_441 dL_law_442 dL_law_443 dL_law_444 ?_
  refine zl_call (as := [.inl (zly xs (i + 1))]) (rest := [.int (Int32.ofInt a)]) C0 hK hN hP1 hD1 hS1 hA hq zlw_60 rfl hl.1 (Nat.le_of_ble_eq_true rfl) rfl dL_law_445 (fun r M2 H2 locs2 hq2 hP2 hD2 hS2 => ?_)
  obtain ⟨rfl, X2, c1, c2, c3⟩ := hq2
  exact lv_icmp_eq (tgt := 785) hx hb dL_law_448 (by decide) (fun _ => next X2 M2 H2 locs2 c1 c2 c3 hP2 hD2 hS2) (fun z => absurd rfl z)
set_option maxRecDepth 100000 in
set_option maxHeartbeats 4000000 in
/-- member -/
theorem law_11 (hL : L ≤ 3584) (C0 : lw_At p s m meth c b L xs) (hK : va_K D vwCl (ztys ca) s) (hN : zNw s) (hA : ∀ q, zA ad q → s.heap.size ≤ q) (hP : va_P D vwCl (zws ad ca M) H) (hD : va_D (zA ad) (zws ad ca M)) (hS : va_S (fun q : Nat => s.heap.size ≤ q) s.heap H locs) (hl : lv_has ls 4 [(0, .ref b), (1, .ref (ad 209)), (2, .ref (ad 374)), (3, .int (Int32.ofInt (i : Int)))]) (hi : i + 7 ≤ L) (hB : B ≤ 700000000) (hC : IC X M) (hI : IR X M) (hX : WX B X) (next : zlNext p l e s m below meth c b ad ca D QQ ls B) : W p l e room_1 s m #[Value.ref b] below meth c H locs 600000 7302250 QQ (F0 m 453 ls []) := by
  obtain ⟨hx, hb, -⟩ := id C0
  refine lv_aload_n hx hb dL_law_453 rfl (lv_at hl 1 rfl) ?_
  refine zl_arg hL C0 hS hl (k := 1) (by omega) dL_law_454 dL_law_455 dL_law_456 dL_law_457 dL_law_458 ?_
  refine zl_arg hL C0 hS hl (k := 2) (by omega) dL_law_459 dL_law_460 dL_law_461 dL_law_462 dL_law_463 ?_
  refine zl_call (as := [.inl (zly xs (i + 1)), .inl (zly xs (i + 2))]) (rest := []) C0 hK hN hP hD hS hA (j_member 0 B X M (zly xs (i + 1)) (zly xs (i + 2)) (zly_rg xs _) (zly_rg xs _) hC hI hX) zlw_61 rfl hl.1 (Nat.zero_le _) rfl dL_law_464 (fun r M1 H1 locs1 hq hP1 hD1 hS1 => ?_)
  obtain ⟨a, rfl, hq⟩ := hq
  refine lv_aload_n (x := ad 374) hx hb dL_law_467 rfl (lv_at hl 2 rfl) ?_
  refine zl_arg hL C0 hS1 hl (k := 1) (by omega) dL_law_468 dL_law_469 dL_law_470 dL_law_471 dL_law_472 ?_
  refine zl_arg hL C0 hS1 hl (k := 2) (by omega) dL_law_473 dL_law_474 dL_law_475 dL_law_476 dL_law_477 ?_
  refine zl_call (as := [.inl (zly xs (i + 1)), .inl (zly xs (i + 2))]) (rest := [.int (Int32.ofInt a)]) C0 hK hN hP1 hD1 hS1 hA hq zlw_64 rfl hl.1 (Nat.le_of_ble_eq_true rfl) rfl dL_law_478 (fun r M2 H2 locs2 hq2 hP2 hD2 hS2 => ?_)
  obtain ⟨rfl, X2, c1, c2, c3⟩ := hq2
  exact lv_icmp_eq (tgt := 785) hx hb dL_law_481 (by decide) (fun _ => next X2 M2 H2 locs2 c1 c2 c3 hP2 hD2 hS2) (fun z => absurd rfl z)
set_option maxRecDepth 100000 in
set_option maxHeartbeats 4000000 in
/-- swarm -/
theorem law_12 (hL : L ≤ 3584) (C0 : lw_At p s m meth c b L xs) (hK : va_K D vwCl (ztys ca) s) (hN : zNw s) (hA : ∀ q, zA ad q → s.heap.size ≤ q) (hP : va_P D vwCl (zws ad ca M) H) (hD : va_D (zA ad) (zws ad ca M)) (hS : va_S (fun q : Nat => s.heap.size ≤ q) s.heap H locs) (hl : lv_has ls 4 [(0, .ref b), (1, .ref (ad 209)), (2, .ref (ad 374)), (3, .int (Int32.ofInt (i : Int)))]) (hi : i + 7 ≤ L) (hB : B ≤ 700000000) (hC : IC X M) (hI : IR X M) (hX : WX B X) (next : zlNext p l e s m below meth c b ad ca D QQ ls B) : W p l e room_1 s m #[Value.ref b] below meth c H locs 600000 7302250 QQ (F0 m 486 ls []) := by
  obtain ⟨hx, hb, -⟩ := id C0
  refine lv_aload_n hx hb dL_law_486 rfl (lv_at hl 1 rfl) ?_
  refine zl_arg hL C0 hS hl (k := 1) (by omega) dL_law_487 dL_law_488 dL_law_489 dL_law_490 dL_law_491 ?_
  refine zl_call (as := [.inl (zly xs (i + 1))]) (rest := []) C0 hK hN hP hD hS hA (j_swarm 0 B X M (zly xs (i + 1)) (zly_rg xs _) hC hI hX) zlw_65 rfl hl.1 (Nat.zero_le _) rfl dL_law_492 (fun r M1 H1 locs1 hq hP1 hD1 hS1 => ?_)
  obtain ⟨a, rfl, hq⟩ := hq
  refine lv_aload_n (x := ad 374) hx hb dL_law_495 rfl (lv_at hl 2 rfl) ?_
  refine zl_arg hL C0 hS1 hl (k := 1) (by omega) dL_law_496 dL_law_497 dL_law_498 dL_law_499 dL_law_500 ?_
  refine zl_call (as := [.inl (zly xs (i + 1))]) (rest := [.int (Int32.ofInt a)]) C0 hK hN hP1 hD1 hS1 hA hq zlw_68 rfl hl.1 (Nat.le_of_ble_eq_true rfl) rfl dL_law_501 (fun r M2 H2 locs2 hq2 hP2 hD2 hS2 => ?_)
  obtain ⟨rfl, X2, c1, c2, c3⟩ := hq2
  exact lv_icmp_eq (tgt := 785) hx hb dL_law_504 (by decide) (fun _ => next X2 M2 H2 locs2 c1 c2 c3 hP2 hD2 hS2) (fun z => absurd rfl z)
set_option maxRecDepth 100000 in
set_option maxHeartbeats 4000000 in
/-- cell -/
theorem law_13 (hL : L ≤ 3584) (C0 : lw_At p s m meth c b L xs) (hK : va_K D vwCl (ztys ca) s) (hN : zNw s) (hA : ∀ q, zA ad q → s.heap.size ≤ q) (hP : va_P D vwCl (zws ad ca M) H) (hD : va_D (zA ad) (zws ad ca M)) (hS : va_S (fun q : Nat => s.heap.size ≤ q) s.heap H locs) (hl : lv_has ls 4 [(0, .ref b), (1, .ref (ad 209)), (2, .ref (ad 374)), (3, .int (Int32.ofInt (i : Int)))]) (hi : i + 7 ≤ L) (hB : B ≤ 700000000) (hC : IC X M) (hI : IR X M) (hX : WX B X) (next : zlNext p l e s m below meth c b ad ca D QQ ls B) : W p l e room_1 s m #[Value.ref b] below meth c H locs 600000 7302250 QQ (F0 m 509 ls []) := by
  obtain ⟨hx, hb, -⟩ := id C0
  refine lv_aload_n hx hb dL_law_509 rfl (lv_at hl 1 rfl) ?_
  refine zl_arg hL C0 hS hl (k := 1) (by omega) dL_law_510 dL_law_511 dL_law_512 dL_law_513 dL_law_514 ?_
  refine zl_arg hL C0 hS hl (k := 2) (by omega) dL_law_515 dL_law_516 dL_law_517 dL_law_518 dL_law_519 ?_
  refine zl_call (as := [.inl (zly xs (i + 1)), .inl (zly xs (i + 2))]) (rest := []) C0 hK hN hP hD hS hA (j_cell 0 B X M (zly xs (i + 1)) (zly xs (i + 2)) (zly_rg xs _) (zly_rg xs _) hC hI hX) zlw_69 rfl hl.1 (Nat.zero_le _) rfl dL_law_520 (fun r M1 H1 locs1 hq hP1 hD1 hS1 => ?_)
  obtain ⟨a, rfl, hq⟩ := hq
  refine lv_aload_n (x := ad 374) hx hb dL_law_523 rfl (lv_at hl 2 rfl) ?_
  refine zl_arg hL C0 hS1 hl (k := 1) (by omega) dL_law_524 dL_law_525 dL_law_526 dL_law_527 dL_law_528 ?_
  refine zl_arg hL C0 hS1 hl (k := 2) (by omega) dL_law_529 dL_law_530 dL_law_531 dL_law_532 dL_law_533 ?_
  refine zl_call (as := [.inl (zly xs (i + 1)), .inl (zly xs (i + 2))]) (rest := [.int (Int32.ofInt a)]) C0 hK hN hP1 hD1 hS1 hA hq zlw_72 rfl hl.1 (Nat.le_of_ble_eq_true rfl) rfl dL_law_534 (fun r M2 H2 locs2 hq2 hP2 hD2 hS2 => ?_)
  obtain ⟨rfl, X2, c1, c2, c3⟩ := hq2
  exact lv_icmp_eq (tgt := 785) hx hb dL_law_537 (by decide) (fun _ => next X2 M2 H2 locs2 c1 c2 c3 hP2 hD2 hS2) (fun z => absurd rfl z)
set_option maxRecDepth 100000 in
set_option maxHeartbeats 4000000 in
/-- distance -/
theorem law_14 (hL : L ≤ 3584) (C0 : lw_At p s m meth c b L xs) (hK : va_K D vwCl (ztys ca) s) (hN : zNw s) (hA : ∀ q, zA ad q → s.heap.size ≤ q) (hP : va_P D vwCl (zws ad ca M) H) (hD : va_D (zA ad) (zws ad ca M)) (hS : va_S (fun q : Nat => s.heap.size ≤ q) s.heap H locs) (hl : lv_has ls 4 [(0, .ref b), (1, .ref (ad 209)), (2, .ref (ad 374)), (3, .int (Int32.ofInt (i : Int)))]) (hi : i + 7 ≤ L) (hB : B ≤ 700000000) (hC : IC X M) (hI : IR X M) (hX : WX B X) (next : zlNext p l e s m below meth c b ad ca D QQ ls B) : W p l e room_1 s m #[Value.ref b] below meth c H locs 600000 7302250 QQ (F0 m 542 ls []) := by
  obtain ⟨hx, hb, -⟩ := id C0
  refine lv_aload_n hx hb dL_law_542 rfl (lv_at hl 1 rfl) ?_
  refine zl_arg hL C0 hS hl (k := 1) (by omega) dL_law_543 dL_law_544 dL_law_545 dL_law_546 dL_law_547 ?_
  refine zl_arg hL C0 hS hl (k := 2) (by omega) dL_law_548 dL_law_549 dL_law_550 dL_law_551 dL_law_552 ?_
  refine zl_call (as := [.inl (zly xs (i + 1)), .inl (zly xs (i + 2))]) (rest := []) C0 hK hN hP hD hS hA (j_distance 0 B X M (zly xs (i + 1)) (zly xs (i + 2)) (zly_rg xs _) (zly_rg xs _) hC hI hX) zlw_73 rfl hl.1 (Nat.zero_le _) rfl dL_law_553 (fun r M1 H1 locs1 hq hP1 hD1 hS1 => ?_)
  obtain ⟨a, rfl, hq⟩ := hq
  refine lv_aload_n (x := ad 374) hx hb dL_law_556 rfl (lv_at hl 2 rfl) ?_
  refine zl_arg hL C0 hS1 hl (k := 1) (by omega) dL_law_557 dL_law_558 dL_law_559 dL_law_560 dL_law_561 ?_
  refine zl_arg hL C0 hS1 hl (k := 2) (by omega) dL_law_562 dL_law_563 dL_law_564 dL_law_565 dL_law_566 ?_
  refine zl_call (as := [.inl (zly xs (i + 1)), .inl (zly xs (i + 2))]) (rest := [.int (Int32.ofInt a)]) C0 hK hN hP1 hD1 hS1 hA hq zlw_76 rfl hl.1 (Nat.le_of_ble_eq_true rfl) rfl dL_law_567 (fun r M2 H2 locs2 hq2 hP2 hD2 hS2 => ?_)
  obtain ⟨rfl, X2, c1, c2, c3⟩ := hq2
  exact lv_icmp_eq (tgt := 785) hx hb dL_law_570 (by decide) (fun _ => next X2 M2 H2 locs2 c1 c2 c3 hP2 hD2 hS2) (fun z => absurd rfl z)
set_option maxRecDepth 100000 in
set_option maxHeartbeats 4000000 in
/-- slot -/
theorem law_15 (hL : L ≤ 3584) (C0 : lw_At p s m meth c b L xs) (hK : va_K D vwCl (ztys ca) s) (hN : zNw s) (hA : ∀ q, zA ad q → s.heap.size ≤ q) (hP : va_P D vwCl (zws ad ca M) H) (hD : va_D (zA ad) (zws ad ca M)) (hS : va_S (fun q : Nat => s.heap.size ≤ q) s.heap H locs) (hl : lv_has ls 4 [(0, .ref b), (1, .ref (ad 209)), (2, .ref (ad 374)), (3, .int (Int32.ofInt (i : Int)))]) (hi : i + 7 ≤ L) (hB : B ≤ 700000000) (hC : IC X M) (hI : IR X M) (hX : WX B X) (next : zlNext p l e s m below meth c b ad ca D QQ ls B) : W p l e room_1 s m #[Value.ref b] below meth c H locs 600000 7302250 QQ (F0 m 575 ls []) := by
  obtain ⟨hx, hb, -⟩ := id C0
  refine lv_aload_n hx hb dL_law_575 rfl (lv_at hl 1 rfl) ?_
  refine zl_arg hL C0 hS hl (k := 1) (by omega) dL_law_576 dL_law_577 dL_law_578 dL_law_579 dL_law_580 ?_
  refine zl_arg hL C0 hS hl (k := 2) (by omega) dL_law_581 dL_law_582 dL_law_583 dL_law_584 dL_law_585 ?_
  refine zl_call (as := [.inl (zly xs (i + 1)), .inl (zly xs (i + 2))]) (rest := []) C0 hK hN hP hD hS hA (j_slot 0 B X M (zly xs (i + 1)) (zly xs (i + 2)) (zly_rg xs _) (zly_rg xs _) hC hI hX) zlw_77 rfl hl.1 (Nat.zero_le _) rfl dL_law_586 (fun r M1 H1 locs1 hq hP1 hD1 hS1 => ?_)
  obtain ⟨a, rfl, hq⟩ := hq
  refine lv_aload_n (x := ad 374) hx hb dL_law_589 rfl (lv_at hl 2 rfl) ?_
  refine zl_arg hL C0 hS1 hl (k := 1) (by omega) dL_law_590 dL_law_591 dL_law_592 dL_law_593 dL_law_594 ?_
  refine zl_arg hL C0 hS1 hl (k := 2) (by omega) dL_law_595 dL_law_596 dL_law_597 dL_law_598 dL_law_599 ?_
  refine zl_call (as := [.inl (zly xs (i + 1)), .inl (zly xs (i + 2))]) (rest := [.int (Int32.ofInt a)]) C0 hK hN hP1 hD1 hS1 hA hq zlw_80 rfl hl.1 (Nat.le_of_ble_eq_true rfl) rfl dL_law_600 (fun r M2 H2 locs2 hq2 hP2 hD2 hS2 => ?_)
  obtain ⟨rfl, X2, c1, c2, c3⟩ := hq2
  exact lv_icmp_eq (tgt := 785) hx hb dL_law_603 (by decide) (fun _ => next X2 M2 H2 locs2 c1 c2 c3 hP2 hD2 hS2) (fun z => absurd rfl z)
set_option maxRecDepth 100000 in
set_option maxHeartbeats 4000000 in
/-- recognized -/
theorem law_16 (hL : L ≤ 3584) (C0 : lw_At p s m meth c b L xs) (hK : va_K D vwCl (ztys ca) s) (hN : zNw s) (hA : ∀ q, zA ad q → s.heap.size ≤ q) (hP : va_P D vwCl (zws ad ca M) H) (hD : va_D (zA ad) (zws ad ca M)) (hS : va_S (fun q : Nat => s.heap.size ≤ q) s.heap H locs) (hl : lv_has ls 4 [(0, .ref b), (1, .ref (ad 209)), (2, .ref (ad 374)), (3, .int (Int32.ofInt (i : Int)))]) (hi : i + 7 ≤ L) (hB : B ≤ 700000000) (hC : IC X M) (hI : IR X M) (hX : WX B X) (next : zlNext p l e s m below meth c b ad ca D QQ ls B) : W p l e room_1 s m #[Value.ref b] below meth c H locs 600000 7302250 QQ (F0 m 608 ls []) := by
  obtain ⟨hx, hb, -⟩ := id C0
  refine lv_aload_n hx hb dL_law_608 rfl (lv_at hl 1 rfl) ?_
  refine zl_arg hL C0 hS hl (k := 1) (by omega) dL_law_609 dL_law_610 dL_law_611 dL_law_612 dL_law_613 ?_
  refine zl_call (as := [.inl (zly xs (i + 1))]) (rest := []) C0 hK hN hP hD hS hA (j_recognized 0 B X M (zly xs (i + 1)) (zly_rg xs _) hC hI hX) zlw_81 rfl hl.1 (Nat.zero_le _) rfl dL_law_614 (fun r M1 H1 locs1 hq hP1 hD1 hS1 => ?_)
  obtain ⟨a, rfl, hq⟩ := hq
  refine lv_aload_n (x := ad 374) hx hb dL_law_617 rfl (lv_at hl 2 rfl) ?_
  refine zl_arg hL C0 hS1 hl (k := 1) (by omega) dL_law_618 dL_law_619 dL_law_620 dL_law_621 dL_law_622 ?_
  refine zl_call (as := [.inl (zly xs (i + 1))]) (rest := [.int (Int32.ofInt a)]) C0 hK hN hP1 hD1 hS1 hA hq zlw_84 rfl hl.1 (Nat.le_of_ble_eq_true rfl) rfl dL_law_623 (fun r M2 H2 locs2 hq2 hP2 hD2 hS2 => ?_)
  obtain ⟨rfl, X2, c1, c2, c3⟩ := hq2
  exact lv_icmp_eq (tgt := 785) hx hb dL_law_626 (by decide) (fun _ => next X2 M2 H2 locs2 c1 c2 c3 hP2 hD2 hS2) (fun z => absurd rfl z)
set_option maxRecDepth 100000 in
set_option maxHeartbeats 4000000 in
/-- healed -/
theorem law_17 (hL : L ≤ 3584) (C0 : lw_At p s m meth c b L xs) (hK : va_K D vwCl (ztys ca) s) (hN : zNw s) (hA : ∀ q, zA ad q → s.heap.size ≤ q) (hP : va_P D vwCl (zws ad ca M) H) (hD : va_D (zA ad) (zws ad ca M)) (hS : va_S (fun q : Nat => s.heap.size ≤ q) s.heap H locs) (hl : lv_has ls 4 [(0, .ref b), (1, .ref (ad 209)), (2, .ref (ad 374)), (3, .int (Int32.ofInt (i : Int)))]) (hi : i + 7 ≤ L) (hB : B ≤ 700000000) (hC : IC X M) (hI : IR X M) (hX : WX B X) (next : zlNext p l e s m below meth c b ad ca D QQ ls B) : W p l e room_1 s m #[Value.ref b] below meth c H locs 600000 7302250 QQ (F0 m 631 ls []) := by
  obtain ⟨hx, hb, -⟩ := id C0
  refine lv_aload_n hx hb dL_law_631 rfl (lv_at hl 1 rfl) ?_
  refine zl_arg hL C0 hS hl (k := 1) (by omega) dL_law_632 dL_law_633 dL_law_634 dL_law_635 dL_law_636 ?_
  refine zl_call (as := [.inl (zly xs (i + 1))]) (rest := []) C0 hK hN hP hD hS hA (j_healed 0 B X M (zly xs (i + 1)) (zly_rg xs _) (by omega) hC hI hX) zlw_85 rfl hl.1 (Nat.zero_le _) rfl dL_law_637 (fun r M1 H1 locs1 hq hP1 hD1 hS1 => ?_)
  obtain ⟨a, rfl, hq⟩ := hq
  refine lv_aload_n (x := ad 374) hx hb dL_law_640 rfl (lv_at hl 2 rfl) ?_
  refine zl_arg hL C0 hS1 hl (k := 1) (by omega) dL_law_641 dL_law_642 dL_law_643 dL_law_644 dL_law_645 ?_
  refine zl_call (as := [.inl (zly xs (i + 1))]) (rest := [.int (Int32.ofInt a)]) C0 hK hN hP1 hD1 hS1 hA hq zlw_88 rfl hl.1 (Nat.le_of_ble_eq_true rfl) rfl dL_law_646 (fun r M2 H2 locs2 hq2 hP2 hD2 hS2 => ?_)
  obtain ⟨rfl, X2, c1, c2, c3⟩ := hq2
  exact lv_icmp_eq (tgt := 785) hx hb dL_law_649 (by decide) (fun _ => next X2 M2 H2 locs2 c1 c2 c3 hP2 hD2 hS2) (fun z => absurd rfl z)
set_option maxRecDepth 100000 in
set_option maxHeartbeats 4000000 in
/-- healedWithout -/
theorem law_18 (hL : L ≤ 3584) (C0 : lw_At p s m meth c b L xs) (hK : va_K D vwCl (ztys ca) s) (hN : zNw s) (hA : ∀ q, zA ad q → s.heap.size ≤ q) (hP : va_P D vwCl (zws ad ca M) H) (hD : va_D (zA ad) (zws ad ca M)) (hS : va_S (fun q : Nat => s.heap.size ≤ q) s.heap H locs) (hl : lv_has ls 4 [(0, .ref b), (1, .ref (ad 209)), (2, .ref (ad 374)), (3, .int (Int32.ofInt (i : Int)))]) (hi : i + 7 ≤ L) (hB : B ≤ 700000000) (hC : IC X M) (hI : IR X M) (hX : WX B X) (next : zlNext p l e s m below meth c b ad ca D QQ ls B) : W p l e room_1 s m #[Value.ref b] below meth c H locs 600000 7302250 QQ (F0 m 654 ls []) := by
  obtain ⟨hx, hb, -⟩ := id C0
  refine lv_aload_n hx hb dL_law_654 rfl (lv_at hl 1 rfl) ?_
  refine zl_arg hL C0 hS hl (k := 1) (by omega) dL_law_655 dL_law_656 dL_law_657 dL_law_658 dL_law_659 ?_
  refine zl_arg hL C0 hS hl (k := 2) (by omega) dL_law_660 dL_law_661 dL_law_662 dL_law_663 dL_law_664 ?_
  refine zl_call (as := [.inl (zly xs (i + 1)), .inl (zly xs (i + 2))]) (rest := []) C0 hK hN hP hD hS hA (j_healedWithout 0 B X M (zly xs (i + 1)) (zly xs (i + 2)) (zly_rg xs _) (zly_rg xs _) (by omega) hC hI hX) zlw_89 rfl hl.1 (Nat.zero_le _) rfl dL_law_665 (fun r M1 H1 locs1 hq hP1 hD1 hS1 => ?_)
  obtain ⟨a, rfl, hq⟩ := hq
  refine lv_aload_n (x := ad 374) hx hb dL_law_668 rfl (lv_at hl 2 rfl) ?_
  refine zl_arg hL C0 hS1 hl (k := 1) (by omega) dL_law_669 dL_law_670 dL_law_671 dL_law_672 dL_law_673 ?_
  refine zl_arg hL C0 hS1 hl (k := 2) (by omega) dL_law_674 dL_law_675 dL_law_676 dL_law_677 dL_law_678 ?_
  refine zl_call (as := [.inl (zly xs (i + 1)), .inl (zly xs (i + 2))]) (rest := [.int (Int32.ofInt a)]) C0 hK hN hP1 hD1 hS1 hA hq zlw_92 rfl hl.1 (Nat.le_of_ble_eq_true rfl) rfl dL_law_679 (fun r M2 H2 locs2 hq2 hP2 hD2 hS2 => ?_)
  obtain ⟨rfl, X2, c1, c2, c3⟩ := hq2
  exact lv_icmp_eq (tgt := 785) hx hb dL_law_682 (by decide) (fun _ => next X2 M2 H2 locs2 c1 c2 c3 hP2 hD2 hS2) (fun z => absurd rfl z)
set_option maxRecDepth 100000 in
set_option maxHeartbeats 4000000 in
/-- again -/
theorem law_19 (hL : L ≤ 3584) (C0 : lw_At p s m meth c b L xs) (hK : va_K D vwCl (ztys ca) s) (hN : zNw s) (hA : ∀ q, zA ad q → s.heap.size ≤ q) (hP : va_P D vwCl (zws ad ca M) H) (hD : va_D (zA ad) (zws ad ca M)) (hS : va_S (fun q : Nat => s.heap.size ≤ q) s.heap H locs) (hl : lv_has ls 4 [(0, .ref b), (1, .ref (ad 209)), (2, .ref (ad 374)), (3, .int (Int32.ofInt (i : Int)))]) (hi : i + 7 ≤ L) (hB : B ≤ 700000000) (hC : IC X M) (hI : IR X M) (hX : WX B X) (next : zlNext p l e s m below meth c b ad ca D QQ ls B) : W p l e room_1 s m #[Value.ref b] below meth c H locs 600000 7302250 QQ (F0 m 687 ls []) := by
  obtain ⟨hx, hb, -⟩ := id C0
  refine lv_aload_n hx hb dL_law_687 rfl (lv_at hl 1 rfl) ?_
  refine zl_call (as := []) (rest := []) C0 hK hN hP hD hS hA (j_again 0 B X M   hC hI hX) zlw_93 rfl hl.1 (Nat.zero_le _) rfl dL_law_688 (fun r M1 H1 locs1 hq hP1 hD1 hS1 => ?_)
  obtain ⟨a, rfl, hq⟩ := hq
  refine lv_aload_n (x := ad 374) hx hb dL_law_691 rfl (lv_at hl 2 rfl) ?_
  refine zl_call (as := []) (rest := [.int (Int32.ofInt a)]) C0 hK hN hP1 hD1 hS1 hA hq zlw_96 rfl hl.1 (Nat.le_of_ble_eq_true rfl) rfl dL_law_692 (fun r M2 H2 locs2 hq2 hP2 hD2 hS2 => ?_)
  obtain ⟨rfl, X2, c1, c2, c3⟩ := hq2
  exact lv_icmp_eq (tgt := 785) hx hb dL_law_695 (by decide) (fun _ => next X2 M2 H2 locs2 c1 c2 c3 hP2 hD2 hS2) (fun z => absurd rfl z)
set_option maxRecDepth 100000 in
set_option maxHeartbeats 4000000 in
/-- account -/
theorem law_20 (hL : L ≤ 3584) (C0 : lw_At p s m meth c b L xs) (hK : va_K D vwCl (ztys ca) s) (hN : zNw s) (hA : ∀ q, zA ad q → s.heap.size ≤ q) (hP : va_P D vwCl (zws ad ca M) H) (hD : va_D (zA ad) (zws ad ca M)) (hS : va_S (fun q : Nat => s.heap.size ≤ q) s.heap H locs) (hl : lv_has ls 4 [(0, .ref b), (1, .ref (ad 209)), (2, .ref (ad 374)), (3, .int (Int32.ofInt (i : Int)))]) (hi : i + 7 ≤ L) (hB : B ≤ 700000000) (hC : IC X M) (hI : IR X M) (hX : WX B X) (next : zlNext p l e s m below meth c b ad ca D QQ ls B) : W p l e room_1 s m #[Value.ref b] below meth c H locs 600000 7302250 QQ (F0 m 700 ls []) := by
  obtain ⟨hx, hb, -⟩ := id C0
  refine lv_aload_n hx hb dL_law_700 rfl (lv_at hl 1 rfl) ?_
  refine zl_arg hL C0 hS hl (k := 1) (by omega) dL_law_701 dL_law_702 dL_law_703 dL_law_704 dL_law_705 ?_
  refine zl_call (as := [.inl (zly xs (i + 1))]) (rest := []) C0 hK hN hP hD hS hA (j_account 0 B X M (zly xs (i + 1)) (zly_rg xs _) hC hI hX) zlw_97 rfl hl.1 (Nat.zero_le _) rfl dL_law_706 (fun r M1 H1 locs1 hq hP1 hD1 hS1 => ?_)
  obtain ⟨a, rfl, hq⟩ := hq
  refine lv_aload_n (x := ad 374) hx hb dL_law_709 rfl (lv_at hl 2 rfl) ?_
  refine zl_arg hL C0 hS1 hl (k := 1) (by omega) dL_law_710 dL_law_711 dL_law_712 dL_law_713 dL_law_714 ?_
  refine zl_call (as := [.inl (zly xs (i + 1))]) (rest := [.int (Int32.ofInt a)]) C0 hK hN hP1 hD1 hS1 hA hq zlw_100 rfl hl.1 (Nat.le_of_ble_eq_true rfl) rfl dL_law_715 (fun r M2 H2 locs2 hq2 hP2 hD2 hS2 => ?_)
  obtain ⟨rfl, X2, c1, c2, c3⟩ := hq2
  exact lv_icmp_eq (tgt := 785) hx hb dL_law_718 (by decide) (fun _ => next X2 M2 H2 locs2 c1 c2 c3 hP2 hD2 hS2) (fun z => absurd rfl z)
set_option maxRecDepth 100000 in
set_option maxHeartbeats 4000000 in
/-- back -/
theorem law_21 (hL : L ≤ 3584) (C0 : lw_At p s m meth c b L xs) (hK : va_K D vwCl (ztys ca) s) (hN : zNw s) (hA : ∀ q, zA ad q → s.heap.size ≤ q) (hP : va_P D vwCl (zws ad ca M) H) (hD : va_D (zA ad) (zws ad ca M)) (hS : va_S (fun q : Nat => s.heap.size ≤ q) s.heap H locs) (hl : lv_has ls 4 [(0, .ref b), (1, .ref (ad 209)), (2, .ref (ad 374)), (3, .int (Int32.ofInt (i : Int)))]) (hi : i + 7 ≤ L) (hB : B ≤ 700000000) (hC : IC X M) (hI : IR X M) (hX : WX B X) (next : zlNext p l e s m below meth c b ad ca D QQ ls B) : W p l e room_1 s m #[Value.ref b] below meth c H locs 600000 7302250 QQ (F0 m 723 ls []) := by
  obtain ⟨hx, hb, -⟩ := id C0
  refine lv_aload_n hx hb dL_law_723 rfl (lv_at hl 1 rfl) ?_
  refine zl_call (as := []) (rest := []) C0 hK hN hP hD hS hA (j_back 0 B X M   hC hI hX) zlw_101 rfl hl.1 (Nat.zero_le _) rfl dL_law_724 (fun r M1 H1 locs1 hq hP1 hD1 hS1 => ?_)
  obtain ⟨a, rfl, hq⟩ := hq
  refine lv_aload_n (x := ad 374) hx hb dL_law_727 rfl (lv_at hl 2 rfl) ?_
  refine zl_call (as := []) (rest := [.int (Int32.ofInt a)]) C0 hK hN hP1 hD1 hS1 hA hq zlw_104 rfl hl.1 (Nat.le_of_ble_eq_true rfl) rfl dL_law_728 (fun r M2 H2 locs2 hq2 hP2 hD2 hS2 => ?_)
  obtain ⟨rfl, X2, c1, c2, c3⟩ := hq2
  exact lv_icmp_eq (tgt := 785) hx hb dL_law_731 (by decide) (fun _ => next X2 M2 H2 locs2 c1 c2 c3 hP2 hD2 hS2) (fun z => absurd rfl z)
set_option maxRecDepth 100000 in
set_option maxHeartbeats 4000000 in
/-- image -/
theorem law_22 (hL : L ≤ 3584) (C0 : lw_At p s m meth c b L xs) (hK : va_K D vwCl (ztys ca) s) (hN : zNw s) (hA : ∀ q, zA ad q → s.heap.size ≤ q) (hP : va_P D vwCl (zws ad ca M) H) (hD : va_D (zA ad) (zws ad ca M)) (hS : va_S (fun q : Nat => s.heap.size ≤ q) s.heap H locs) (hl : lv_has ls 4 [(0, .ref b), (1, .ref (ad 209)), (2, .ref (ad 374)), (3, .int (Int32.ofInt (i : Int)))]) (hi : i + 7 ≤ L) (hB : B ≤ 700000000) (hC : IC X M) (hI : IR X M) (hX : WX B X) (next : zlNext p l e s m below meth c b ad ca D QQ ls B) : W p l e room_1 s m #[Value.ref b] below meth c H locs 600000 7302250 QQ (F0 m 736 ls []) := by
  obtain ⟨hx, hb, -⟩ := id C0
  refine lv_aload_n hx hb dL_law_736 rfl (lv_at hl 1 rfl) ?_
  refine zl_call (as := []) (rest := []) C0 hK hN hP hD hS hA (j_image 0 B X M   hC hI hX) zlw_105 rfl hl.1 (Nat.zero_le _) rfl dL_law_737 (fun r M1 H1 locs1 hq hP1 hD1 hS1 => ?_)
  obtain ⟨a, rfl, hq⟩ := hq
  refine lv_aload_n (x := ad 374) hx hb dL_law_740 rfl (lv_at hl 2 rfl) ?_
  refine zl_call (as := []) (rest := [.int (Int32.ofInt a)]) C0 hK hN hP1 hD1 hS1 hA hq zlw_108 rfl hl.1 (Nat.le_of_ble_eq_true rfl) rfl dL_law_741 (fun r M2 H2 locs2 hq2 hP2 hD2 hS2 => ?_)
  obtain ⟨rfl, X2, c1, c2, c3⟩ := hq2
  exact lv_icmp_eq (tgt := 785) hx hb dL_law_744 (by decide) (fun _ => next X2 M2 H2 locs2 c1 c2 c3 hP2 hD2 hS2) (fun z => absurd rfl z)
set_option maxRecDepth 100000 in
set_option maxHeartbeats 4000000 in
/-- undo -/
theorem law_23 (hL : L ≤ 3584) (C0 : lw_At p s m meth c b L xs) (hK : va_K D vwCl (ztys ca) s) (hN : zNw s) (hA : ∀ q, zA ad q → s.heap.size ≤ q) (hP : va_P D vwCl (zws ad ca M) H) (hD : va_D (zA ad) (zws ad ca M)) (hS : va_S (fun q : Nat => s.heap.size ≤ q) s.heap H locs) (hl : lv_has ls 4 [(0, .ref b), (1, .ref (ad 209)), (2, .ref (ad 374)), (3, .int (Int32.ofInt (i : Int)))]) (hi : i + 7 ≤ L) (hB : B ≤ 700000000) (hC : IC X M) (hI : IR X M) (hX : WX B X) (next : zlNext p l e s m below meth c b ad ca D QQ ls B) : W p l e room_1 s m #[Value.ref b] below meth c H locs 600000 7302250 QQ (F0 m 749 ls []) := by
  obtain ⟨hx, hb, -⟩ := id C0
  refine lv_aload_n hx hb dL_law_749 rfl (lv_at hl 1 rfl) ?_
  refine zl_call (as := []) (rest := []) C0 hK hN hP hD hS hA (j_undo 0 B X M   hC hI hX) zlw_109 rfl hl.1 (Nat.zero_le _) rfl dL_law_750 (fun r M1 H1 locs1 hq hP1 hD1 hS1 => ?_)
  obtain ⟨a, rfl, hq⟩ := hq
  refine lv_aload_n (x := ad 374) hx hb dL_law_753 rfl (lv_at hl 2 rfl) ?_
  refine zl_call (as := []) (rest := [.int (Int32.ofInt a)]) C0 hK hN hP1 hD1 hS1 hA hq zlw_112 rfl hl.1 (Nat.le_of_ble_eq_true rfl) rfl dL_law_754 (fun r M2 H2 locs2 hq2 hP2 hD2 hS2 => ?_)
  obtain ⟨rfl, X2, c1, c2, c3⟩ := hq2
  exact lv_icmp_eq (tgt := 785) hx hb dL_law_757 (by decide) (fun _ => next X2 M2 H2 locs2 c1 c2 c3 hP2 hD2 hS2) (fun z => absurd rfl z)
set_option maxRecDepth 100000 in
set_option maxHeartbeats 4000000 in
/-- count -/
theorem law_24 (hL : L ≤ 3584) (C0 : lw_At p s m meth c b L xs) (hK : va_K D vwCl (ztys ca) s) (hN : zNw s) (hA : ∀ q, zA ad q → s.heap.size ≤ q) (hP : va_P D vwCl (zws ad ca M) H) (hD : va_D (zA ad) (zws ad ca M)) (hS : va_S (fun q : Nat => s.heap.size ≤ q) s.heap H locs) (hl : lv_has ls 4 [(0, .ref b), (1, .ref (ad 209)), (2, .ref (ad 374)), (3, .int (Int32.ofInt (i : Int)))]) (hi : i + 7 ≤ L) (hB : B ≤ 700000000) (hC : IC X M) (hI : IR X M) (hX : WX B X) (next : zlNext p l e s m below meth c b ad ca D QQ ls B) : W p l e room_1 s m #[Value.ref b] below meth c H locs 600000 7302250 QQ (F0 m 762 ls []) := by
  obtain ⟨hx, hb, -⟩ := id C0
  refine lv_aload_n hx hb dL_law_762 rfl (lv_at hl 1 rfl) ?_
  refine zl_arg hL C0 hS hl (k := 1) (by omega) dL_law_763 dL_law_764 dL_law_765 dL_law_766 dL_law_767 ?_
  refine zl_call (as := [.inl (zly xs (i + 1))]) (rest := []) C0 hK hN hP hD hS hA (j_count 0 B X M (zly xs (i + 1)) (zly_rg xs _) hC hI hX) zlw_113 rfl hl.1 (Nat.zero_le _) rfl dL_law_768 (fun r M1 H1 locs1 hq hP1 hD1 hS1 => ?_)
  obtain ⟨a, rfl, hq⟩ := hq
  refine lv_aload_n (x := ad 374) hx hb dL_law_771 rfl (lv_at hl 2 rfl) ?_
  refine zl_arg hL C0 hS1 hl (k := 1) (by omega) dL_law_772 dL_law_773 dL_law_774 dL_law_775 dL_law_776 ?_
  refine zl_call (as := [.inl (zly xs (i + 1))]) (rest := [.int (Int32.ofInt a)]) C0 hK hN hP1 hD1 hS1 hA hq zlw_116 rfl hl.1 (Nat.le_of_ble_eq_true rfl) rfl dL_law_777 (fun r M2 H2 locs2 hq2 hP2 hD2 hS2 => ?_)
  obtain ⟨rfl, X2, c1, c2, c3⟩ := hq2
  exact lv_icmp_eq (tgt := 785) hx hb dL_law_780 (by decide) (fun _ => next X2 M2 H2 locs2 c1 c2 c3 hP2 hD2 hS2) (fun z => absurd rfl z)
end ZLAW
