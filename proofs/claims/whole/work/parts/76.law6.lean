theorem dd_La_1241 : decode code 1241 = .ok (.aload_n 1, 1) := by decide +kernel
theorem dd_La_1242 : decode code 1242 = .ok (.invokevirtual 158, 3) := by decide +kernel
theorem dd_La_1245 : decode code 1245 = .ok (.aload_n 2, 1) := by decide +kernel
theorem dd_La_1246 : decode code 1246 = .ok (.invokevirtual 161, 3) := by decide +kernel
theorem dd_La_1249 : decode code 1249 = .ok (.if_icmp .eq 106, 3) := by decide +kernel
theorem dd_La_1254 : decode code 1254 = .ok (.aload_n 1, 1) := by decide +kernel
theorem dd_La_1255 : decode code 1255 = .ok (.invokevirtual 162, 3) := by decide +kernel
theorem dd_La_1258 : decode code 1258 = .ok (.aload_n 2, 1) := by decide +kernel
theorem dd_La_1259 : decode code 1259 = .ok (.invokevirtual 166, 3) := by decide +kernel
theorem dd_La_1262 : decode code 1262 = .ok (.lcmp, 1) := by decide +kernel
theorem dd_La_1263 : decode code 1263 = .ok (.ifCond .eq 92, 3) := by decide +kernel
theorem dd_La_1268 : decode code 1268 = .ok (.aload_n 1, 1) := by decide +kernel
theorem dd_La_1269 : decode code 1269 = .ok (.invokevirtual 167, 3) := by decide +kernel
theorem dd_La_1272 : decode code 1272 = .ok (.aload_n 2, 1) := by decide +kernel
theorem dd_La_1273 : decode code 1273 = .ok (.invokevirtual 170, 3) := by decide +kernel
theorem dd_La_1276 : decode code 1276 = .ok (.lcmp, 1) := by decide +kernel
theorem dd_La_1277 : decode code 1277 = .ok (.ifCond .eq 78, 3) := by decide +kernel
theorem dd_La_1282 : decode code 1282 = .ok (.aload_n 1, 1) := by decide +kernel
theorem dd_La_1283 : decode code 1283 = .ok (.aload_n 0, 1) := by decide +kernel
theorem dd_La_1284 : decode code 1284 = .ok (.iload_n 3, 1) := by decide +kernel
theorem dd_La_1285 : decode code 1285 = .ok (.iconst 1, 1) := by decide +kernel
theorem dd_La_1286 : decode code 1286 = .ok (.iadd, 1) := by decide +kernel
theorem dd_La_1287 : decode code 1287 = .ok (.iaload, 1) := by decide +kernel
theorem dd_La_1288 : decode code 1288 = .ok (.invokevirtual 171, 3) := by decide +kernel
theorem dd_La_1291 : decode code 1291 = .ok (.aload_n 2, 1) := by decide +kernel
theorem dd_La_1292 : decode code 1292 = .ok (.aload_n 0, 1) := by decide +kernel
theorem dd_La_1293 : decode code 1293 = .ok (.iload_n 3, 1) := by decide +kernel
theorem dd_La_1294 : decode code 1294 = .ok (.iconst 1, 1) := by decide +kernel
theorem dd_La_1295 : decode code 1295 = .ok (.iadd, 1) := by decide +kernel
theorem dd_La_1296 : decode code 1296 = .ok (.iaload, 1) := by decide +kernel
theorem dd_La_1297 : decode code 1297 = .ok (.invokevirtual 174, 3) := by decide +kernel
theorem dd_La_1300 : decode code 1300 = .ok (.if_icmp .eq 55, 3) := by decide +kernel
theorem dd_La_1305 : decode code 1305 = .ok (.aload_n 1, 1) := by decide +kernel
theorem dd_La_1306 : decode code 1306 = .ok (.invokevirtual 175, 3) := by decide +kernel
theorem dd_La_1309 : decode code 1309 = .ok (.aload_n 2, 1) := by decide +kernel
theorem dd_La_1310 : decode code 1310 = .ok (.invokevirtual 178, 3) := by decide +kernel
theorem dd_La_1313 : decode code 1313 = .ok (.if_icmp .eq 42, 3) := by decide +kernel
theorem dd_La_1318 : decode code 1318 = .ok (.aload_n 1, 1) := by decide +kernel
theorem dd_La_1319 : decode code 1319 = .ok (.aload_n 0, 1) := by decide +kernel
theorem dd_La_1320 : decode code 1320 = .ok (.iload_n 3, 1) := by decide +kernel
theorem dd_La_1321 : decode code 1321 = .ok (.iconst 1, 1) := by decide +kernel
theorem dd_La_1322 : decode code 1322 = .ok (.iadd, 1) := by decide +kernel
theorem dd_La_1323 : decode code 1323 = .ok (.iaload, 1) := by decide +kernel
theorem dd_La_1324 : decode code 1324 = .ok (.invokevirtual 179, 3) := by decide +kernel
theorem dd_La_1327 : decode code 1327 = .ok (.aload_n 2, 1) := by decide +kernel
theorem dd_La_1328 : decode code 1328 = .ok (.aload_n 0, 1) := by decide +kernel
theorem dd_La_1329 : decode code 1329 = .ok (.iload_n 3, 1) := by decide +kernel
theorem dd_La_1330 : decode code 1330 = .ok (.iconst 1, 1) := by decide +kernel
theorem dd_La_1331 : decode code 1331 = .ok (.iadd, 1) := by decide +kernel
theorem dd_La_1332 : decode code 1332 = .ok (.iaload, 1) := by decide +kernel
theorem dd_La_1333 : decode code 1333 = .ok (.invokevirtual 182, 3) := by decide +kernel
theorem dd_La_1336 : decode code 1336 = .ok (.if_icmp .eq 19, 3) := by decide +kernel
theorem dd_La_1341 : decode code 1341 = .ok (.aload_n 1, 1) := by decide +kernel
theorem dd_La_1342 : decode code 1342 = .ok (.invokevirtual 183, 3) := by decide +kernel
theorem dd_La_1345 : decode code 1345 = .ok (.aload_n 2, 1) := by decide +kernel
theorem dd_La_1346 : decode code 1346 = .ok (.invokevirtual 186, 3) := by decide +kernel
theorem dd_La_1349 : decode code 1349 = .ok (.lcmp, 1) := by decide +kernel
theorem dd_La_1350 : decode code 1350 = .ok (.ifCond .eq 5, 3) := by decide +kernel
set_option maxRecDepth 100000 in
set_option maxHeartbeats 4000000 in
theorem la_asked {X : gf_X} {E : gf_E} {Q : State → Prop} {b L : Nat} {xs : Nat → Int32} (C : gf_C X E code 4 "GuardFiguresLaw" room_1) (S : la_S X E b L xs) {μ : gf_M} {i : Int} (hI : gf_I μ) (hi : 0 ≤ i ∧ i + 6 ≤ (L : Int)) (kk : ∀ μ' : gf_M, gf_I μ' → gf_G X E Q 4 la_φ μ' 1355 (la_lv E b i) []) : gf_G X E Q 4 la_φ μ 1241 (la_lv E b i) [] := by
  show gf_G X E Q 4 la_φ μ 1241 [(3, .int (gf_i i)), (2, .ref (gf_ad E 65)), (1, .ref (gf_ad E 0)), (0, .ref b)] []
  refine gf_aload_n C dd_La_1241 2 rfl ?_
  refine gf_callVi2 (st := []) (As := []) C wk_La_158 gf_cl6 (show gf_is 81 0 0 6 17 by decide) (ct_Fi_asked (gf_xl X) E μ) rfl ⟨rfl, rfl, Nat.le_of_ble_eq_true rfl, Nat.le_of_ble_eq_true rfl⟩ (Nat.le_of_ble_eq_true rfl) rfl dd_La_1242 (fun q1 μ1 hR1 hp1 => ?_)
  refine gf_aload_n C dd_La_1245 1 rfl ?_
  have v := vw_asked  hI hp1
  refine gf_callVi2 (st := [.int (gf_i q1)]) (As := []) C wk_La_161 gf_cl7 (show gf_is 81 65 0 7 26 by decide) (ct_Mo_asked (gf_xl X) E μ1) rfl ⟨rfl, rfl, Nat.le_of_ble_eq_true rfl, Nat.le_of_ble_eq_true rfl⟩ (Nat.le_of_ble_eq_true rfl) rfl dd_La_1246 (fun q2 μ2 hR2 hp2 => ?_)
  have hst := st_asked  hI hp1 hp2
  exact gf_icmp_eq 1355 C dd_La_1249 (by decide) hR1 hR2 (fun _ => kk μ2 hst.2) (fun h => absurd hst.1 h)
set_option maxRecDepth 100000 in
set_option maxHeartbeats 4000000 in
theorem la_upper {X : gf_X} {E : gf_E} {Q : State → Prop} {b L : Nat} {xs : Nat → Int32} (C : gf_C X E code 4 "GuardFiguresLaw" room_1) (S : la_S X E b L xs) {μ : gf_M} {i : Int} (hI : gf_I μ) (hi : 0 ≤ i ∧ i + 6 ≤ (L : Int)) (kk : ∀ μ' : gf_M, gf_I μ' → gf_G X E Q 4 la_φ μ' 1355 (la_lv E b i) []) : gf_G X E Q 4 la_φ μ 1254 (la_lv E b i) [] := by
  show gf_G X E Q 4 la_φ μ 1254 [(3, .int (gf_i i)), (2, .ref (gf_ad E 65)), (1, .ref (gf_ad E 0)), (0, .ref b)] []
  refine gf_aload_n C dd_La_1254 2 rfl ?_
  refine gf_callVl2 (st := []) (As := []) C wk_La_162 gf_cl6 (show gf_is 81 0 0 6 17 by decide) (ct_Fi_upper (gf_xl X) E μ) rfl ⟨rfl, rfl, Nat.le_of_ble_eq_true rfl, Nat.le_of_ble_eq_true rfl⟩ (Nat.le_of_ble_eq_true rfl) rfl dd_La_1255 (fun q1 μ1 hR1 hp1 => ?_)
  refine gf_aload_n C dd_La_1258 1 rfl ?_
  have v := vw_upper  hI hp1
  refine gf_callVl2 (st := [.long (gf_l q1)]) (As := []) C wk_La_166 gf_cl7 (show gf_is 81 65 0 7 26 by decide) (ct_Mo_upper (gf_xl X) E μ1) rfl ⟨rfl, rfl, Nat.le_of_ble_eq_true rfl, Nat.le_of_ble_eq_true rfl⟩ (Nat.le_of_ble_eq_true rfl) rfl dd_La_1259 (fun q2 μ2 hR2 hp2 => ?_)
  have hst := st_upper  hI hp1 hp2
  refine gf_lcmp C dd_La_1262 hR1 hR2 (fun z z1 z2 z3 => ?_)
  exact gf_if_eq 1355 C dd_La_1263 (by decide) (by omega) (fun _ => kk μ2 hst.2) (fun h => absurd (z2.mpr hst.1) h)
set_option maxRecDepth 100000 in
set_option maxHeartbeats 4000000 in
theorem la_lower {X : gf_X} {E : gf_E} {Q : State → Prop} {b L : Nat} {xs : Nat → Int32} (C : gf_C X E code 4 "GuardFiguresLaw" room_1) (S : la_S X E b L xs) {μ : gf_M} {i : Int} (hI : gf_I μ) (hi : 0 ≤ i ∧ i + 6 ≤ (L : Int)) (kk : ∀ μ' : gf_M, gf_I μ' → gf_G X E Q 4 la_φ μ' 1355 (la_lv E b i) []) : gf_G X E Q 4 la_φ μ 1268 (la_lv E b i) [] := by
  show gf_G X E Q 4 la_φ μ 1268 [(3, .int (gf_i i)), (2, .ref (gf_ad E 65)), (1, .ref (gf_ad E 0)), (0, .ref b)] []
  refine gf_aload_n C dd_La_1268 2 rfl ?_
  refine gf_callVl2 (st := []) (As := []) C wk_La_167 gf_cl6 (show gf_is 81 0 0 6 17 by decide) (ct_Fi_lower (gf_xl X) E μ) rfl ⟨rfl, rfl, Nat.le_of_ble_eq_true rfl, Nat.le_of_ble_eq_true rfl⟩ (Nat.le_of_ble_eq_true rfl) rfl dd_La_1269 (fun q1 μ1 hR1 hp1 => ?_)
  refine gf_aload_n C dd_La_1272 1 rfl ?_
  have v := vw_lower  hI hp1
  refine gf_callVl2 (st := [.long (gf_l q1)]) (As := []) C wk_La_170 gf_cl7 (show gf_is 81 65 0 7 26 by decide) (ct_Mo_lower (gf_xl X) E μ1) rfl ⟨rfl, rfl, Nat.le_of_ble_eq_true rfl, Nat.le_of_ble_eq_true rfl⟩ (Nat.le_of_ble_eq_true rfl) rfl dd_La_1273 (fun q2 μ2 hR2 hp2 => ?_)
  have hst := st_lower  hI hp1 hp2
  refine gf_lcmp C dd_La_1276 hR1 hR2 (fun z z1 z2 z3 => ?_)
  exact gf_if_eq 1355 C dd_La_1277 (by decide) (by omega) (fun _ => kk μ2 hst.2) (fun h => absurd (z2.mpr hst.1) h)
set_option maxRecDepth 100000 in
set_option maxHeartbeats 4000000 in
theorem la_count {X : gf_X} {E : gf_E} {Q : State → Prop} {b L : Nat} {xs : Nat → Int32} (C : gf_C X E code 4 "GuardFiguresLaw" room_1) (S : la_S X E b L xs) {μ : gf_M} {i : Int} (hI : gf_I μ) (hi : 0 ≤ i ∧ i + 6 ≤ (L : Int)) (kk : ∀ μ' : gf_M, gf_I μ' → gf_G X E Q 4 la_φ μ' 1355 (la_lv E b i) []) : gf_G X E Q 4 la_φ μ 1282 (la_lv E b i) [] := by
  show gf_G X E Q 4 la_φ μ 1282 [(3, .int (gf_i i)), (2, .ref (gf_ad E 65)), (1, .ref (gf_ad E 0)), (0, .ref b)] []
  refine gf_aload_n C dd_La_1282 2 rfl ?_
  refine gf_aload_n C dd_La_1283 3 rfl ?_
  refine gf_iload_n C dd_La_1284 0 rfl ?_
  refine gf_iconst C dd_La_1285 ?_
  refine gf_iadd C dd_La_1286 ?_
  refine gf_sld C S dd_La_1287 (by omega) ?_
  refine gf_callVi2 (st := []) (As := [.int (gf_i (gf_sx xs (i + 1)))]) C wk_La_171 gf_cl6 (show gf_is 81 0 0 6 17 by decide) (ct_Fi_count (gf_xl X) E (gf_sx xs (i + 1)) μ (gf_sx_R _ _) hI.c7 hI.G hI.s hI.F hI.d) rfl ⟨rfl, rfl, Nat.le_of_ble_eq_true rfl, Nat.le_of_ble_eq_true rfl⟩ (Nat.le_of_ble_eq_true rfl) rfl dd_La_1288 (fun q1 μ1 hR1 hp1 => ?_)
  refine gf_aload_n C dd_La_1291 1 rfl ?_
  refine gf_aload_n C dd_La_1292 3 rfl ?_
  refine gf_iload_n C dd_La_1293 0 rfl ?_
  refine gf_iconst C dd_La_1294 ?_
  refine gf_iadd C dd_La_1295 ?_
  refine gf_sld C S dd_La_1296 (by omega) ?_
  have v := vw_count (w := gf_sx xs (i + 1)) hI hp1
  refine gf_callVi2 (st := [.int (gf_i q1)]) (As := [.int (gf_i (gf_sx xs (i + 1)))]) C wk_La_174 gf_cl7 (show gf_is 81 65 0 7 26 by decide) (ct_Mo_count (gf_xl X) E (gf_sx xs (i + 1)) μ1 (gf_sx_R _ _) (hI.ok v)) rfl ⟨rfl, rfl, Nat.le_of_ble_eq_true rfl, Nat.le_of_ble_eq_true rfl⟩ (Nat.le_of_ble_eq_true rfl) rfl dd_La_1297 (fun q2 μ2 hR2 hp2 => ?_)
  have hst := st_count (w := gf_sx xs (i + 1)) hI hp1 hp2
  exact gf_icmp_eq 1355 C dd_La_1300 (by decide) hR1 hR2 (fun _ => kk μ2 hst.2) (fun h => absurd hst.1 h)
set_option maxRecDepth 100000 in
set_option maxHeartbeats 4000000 in
theorem la_finding {X : gf_X} {E : gf_E} {Q : State → Prop} {b L : Nat} {xs : Nat → Int32} (C : gf_C X E code 4 "GuardFiguresLaw" room_1) (S : la_S X E b L xs) {μ : gf_M} {i : Int} (hI : gf_I μ) (hi : 0 ≤ i ∧ i + 6 ≤ (L : Int)) (kk : ∀ μ' : gf_M, gf_I μ' → gf_G X E Q 4 la_φ μ' 1355 (la_lv E b i) []) : gf_G X E Q 4 la_φ μ 1305 (la_lv E b i) [] := by
  show gf_G X E Q 4 la_φ μ 1305 [(3, .int (gf_i i)), (2, .ref (gf_ad E 65)), (1, .ref (gf_ad E 0)), (0, .ref b)] []
  refine gf_aload_n C dd_La_1305 2 rfl ?_
  refine gf_callVi2 (st := []) (As := []) C wk_La_175 gf_cl6 (show gf_is 81 0 0 6 17 by decide) (ct_Fi_finding (gf_xl X) E μ) rfl ⟨rfl, rfl, Nat.le_of_ble_eq_true rfl, Nat.le_of_ble_eq_true rfl⟩ (Nat.le_of_ble_eq_true rfl) rfl dd_La_1306 (fun q1 μ1 hR1 hp1 => ?_)
  refine gf_aload_n C dd_La_1309 1 rfl ?_
  have v := vw_finding  hI hp1
  refine gf_callVi2 (st := [.int (gf_i q1)]) (As := []) C wk_La_178 gf_cl7 (show gf_is 81 65 0 7 26 by decide) (ct_Mo_finding (gf_xl X) E μ1) rfl ⟨rfl, rfl, Nat.le_of_ble_eq_true rfl, Nat.le_of_ble_eq_true rfl⟩ (Nat.le_of_ble_eq_true rfl) rfl dd_La_1310 (fun q2 μ2 hR2 hp2 => ?_)
  have hst := st_finding  hI hp1 hp2
  exact gf_icmp_eq 1355 C dd_La_1313 (by decide) hR1 hR2 (fun _ => kk μ2 hst.2) (fun h => absurd hst.1 h)
set_option maxRecDepth 100000 in
set_option maxHeartbeats 4000000 in
theorem la_findings {X : gf_X} {E : gf_E} {Q : State → Prop} {b L : Nat} {xs : Nat → Int32} (C : gf_C X E code 4 "GuardFiguresLaw" room_1) (S : la_S X E b L xs) {μ : gf_M} {i : Int} (hI : gf_I μ) (hi : 0 ≤ i ∧ i + 6 ≤ (L : Int)) (kk : ∀ μ' : gf_M, gf_I μ' → gf_G X E Q 4 la_φ μ' 1355 (la_lv E b i) []) : gf_G X E Q 4 la_φ μ 1318 (la_lv E b i) [] := by
  show gf_G X E Q 4 la_φ μ 1318 [(3, .int (gf_i i)), (2, .ref (gf_ad E 65)), (1, .ref (gf_ad E 0)), (0, .ref b)] []
  refine gf_aload_n C dd_La_1318 2 rfl ?_
  refine gf_aload_n C dd_La_1319 3 rfl ?_
  refine gf_iload_n C dd_La_1320 0 rfl ?_
  refine gf_iconst C dd_La_1321 ?_
  refine gf_iadd C dd_La_1322 ?_
  refine gf_sld C S dd_La_1323 (by omega) ?_
  refine gf_callVi2 (st := []) (As := [.int (gf_i (gf_sx xs (i + 1)))]) C wk_La_179 gf_cl6 (show gf_is 81 0 0 6 17 by decide) (ct_Fi_findings (gf_xl X) E (gf_sx xs (i + 1)) μ (gf_sx_R _ _)) rfl ⟨rfl, rfl, Nat.le_of_ble_eq_true rfl, Nat.le_of_ble_eq_true rfl⟩ (Nat.le_of_ble_eq_true rfl) rfl dd_La_1324 (fun q1 μ1 hR1 hp1 => ?_)
  refine gf_aload_n C dd_La_1327 1 rfl ?_
  refine gf_aload_n C dd_La_1328 3 rfl ?_
  refine gf_iload_n C dd_La_1329 0 rfl ?_
  refine gf_iconst C dd_La_1330 ?_
  refine gf_iadd C dd_La_1331 ?_
  refine gf_sld C S dd_La_1332 (by omega) ?_
  have v := vw_findings (f := gf_sx xs (i + 1)) hI hp1
  refine gf_callVi2 (st := [.int (gf_i q1)]) (As := [.int (gf_i (gf_sx xs (i + 1)))]) C wk_La_182 gf_cl7 (show gf_is 81 65 0 7 26 by decide) (ct_Mo_findings (gf_xl X) E (gf_sx xs (i + 1)) μ1 (gf_sx_R _ _)) rfl ⟨rfl, rfl, Nat.le_of_ble_eq_true rfl, Nat.le_of_ble_eq_true rfl⟩ (Nat.le_of_ble_eq_true rfl) rfl dd_La_1333 (fun q2 μ2 hR2 hp2 => ?_)
  have hst := st_findings (f := gf_sx xs (i + 1)) hI hp1 hp2
  exact gf_icmp_eq 1355 C dd_La_1336 (by decide) hR1 hR2 (fun _ => kk μ2 hst.2) (fun h => absurd hst.1 h)
set_option maxRecDepth 100000 in
set_option maxHeartbeats 4000000 in
theorem la_digest {X : gf_X} {E : gf_E} {Q : State → Prop} {b L : Nat} {xs : Nat → Int32} (C : gf_C X E code 4 "GuardFiguresLaw" room_1) (S : la_S X E b L xs) {μ : gf_M} {i : Int} (hI : gf_I μ) (hi : 0 ≤ i ∧ i + 6 ≤ (L : Int)) (kk : ∀ μ' : gf_M, gf_I μ' → gf_G X E Q 4 la_φ μ' 1355 (la_lv E b i) []) : gf_G X E Q 4 la_φ μ 1341 (la_lv E b i) [] := by
  show gf_G X E Q 4 la_φ μ 1341 [(3, .int (gf_i i)), (2, .ref (gf_ad E 65)), (1, .ref (gf_ad E 0)), (0, .ref b)] []
  refine gf_aload_n C dd_La_1341 2 rfl ?_
  refine gf_callVl2 (st := []) (As := []) C wk_La_183 gf_cl6 (show gf_is 81 0 0 6 17 by decide) (ct_Fi_digest (gf_xl X) E μ hI.c7 hI.G hI.s hI.d hI.F hI.rw hI.tx) rfl ⟨rfl, rfl, Nat.le_of_ble_eq_true rfl, Nat.le_of_ble_eq_true rfl⟩ (Nat.le_of_ble_eq_true rfl) rfl dd_La_1342 (fun q1 μ1 hR1 hp1 => ?_)
  refine gf_aload_n C dd_La_1345 1 rfl ?_
  have v := vw_digest  hI hp1
  refine gf_callVl2 (st := [.long (gf_l q1)]) (As := []) C wk_La_186 gf_cl7 (show gf_is 81 65 0 7 26 by decide) (ct_Mo_digest (gf_xl X) E μ1 (hI.ok v) (hI.rs v) (hI.ts v)) rfl ⟨rfl, rfl, Nat.le_of_ble_eq_true rfl, Nat.le_of_ble_eq_true rfl⟩ (Nat.le_of_ble_eq_true rfl) rfl dd_La_1346 (fun q2 μ2 hR2 hp2 => ?_)
  have hst := st_digest  hI hp1 hp2 hR1 hR2
  refine gf_lcmp C dd_La_1349 hR1 hR2 (fun z z1 z2 z3 => ?_)
  exact gf_if_eq 1355 C dd_La_1350 (by decide) (by omega) (fun _ => kk μ2 hst.2) (fun h => absurd (z2.mpr hst.1) h)
