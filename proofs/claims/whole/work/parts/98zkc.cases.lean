set_option maxRecDepth 100000 in
set_option maxHeartbeats 4000000 in
theorem lw_stepsToEnd {p : Program} {l : Launch} {e : Env} {s : State} {m : MethodId} {below : List Frame} {meth : Method} {c : Code} {b L : Nat} {xs : Nat → Int32} {E : EV} (CT : LCx p l s m meth c b L xs E) {i k n : Nat} (hi : i + 5 < L) (hL : L ≤ 3072) (hk : k + 4 ≤ 601024) (hn : n + 24 ≤ 7293033) (nx : LSx p l e s m below meth c b E 1550 (k + 4) (n + 24) [(4, .int (nI i)), (3, .ref (eA E 13 0)), (2, .ref (eA E 12 0)), (1, .ref (eA E 11 0)), (0, .ref b)]) : LSx p l e s m below meth c b E 1231 k n [(4, .int (nI i)), (3, .ref (eA E 13 0)), (2, .ref (eA E 12 0)), (1, .ref (eA E 11 0)), (0, .ref b)] := by
  obtain ⟨S, hK, hX, hT, ⟨hR, hR3⟩, hscr, hbl, hr, hlk, hl9⟩ := CT
  have hA : ∀ q, s.heap.size ≤ q → fA s q := fun _ h => h
  intro I J H locs ls V hP hD hS hl
  refine lv_aload_n S.1 S.2.1 dL_law_1231 rfl (lv_at hl 3 rfl) ?_
  refine R_cVi (As := []) (rest := []) S (c_X7_stepsToEnd (h11 := ps11) (hG := psG) (hR := hR) (b_stepsToEnd V)) gL_law_X7_stepsToEnd rfl yk_X7_stepsToEnd ⟨⟨(Nat.le_of_ble_eq_true rfl), (Nat.le_of_ble_eq_true rfl)⟩, rfl, rfl⟩ hK hP hD hS hX hA (ps11 0 (by decide)) (cF_o E _ _ 0) rfl rfl hl.1 rfl (Nat.le_of_ble_eq_true rfl) ⟨by show k ≤ 601024; omega, by show n ≤ 7293033; omega⟩ dL_law_1232 (fun v I1 J1 H locs hq hP hD hS => ?_)
  refine lv_aload_n S.1 S.2.1 dL_law_1235 rfl (lv_at hl 2 rfl) ?_
  refine R_cVi (As := []) (rest := [.int v]) S (c_X8_stepsToEnd (h12 := ps12) hq) gL_law_X8_stepsToEnd rfl yk_X8_stepsToEnd ⟨⟨(Nat.le_of_ble_eq_true rfl), (Nat.le_of_ble_eq_true rfl)⟩, rfl, rfl⟩ hK hP hD hS hX hA (ps12 0 (by decide)) (cF_m E _ _ 0) rfl rfl hl.1 rfl (Nat.le_of_ble_eq_true rfl) ⟨by show k ≤ 601024; omega, by show n ≤ 7293033; omega⟩ dL_law_1236 (fun w I2 J2 H locs hq hP hD hS => ?_)
  obtain ⟨ew, hqI⟩ := hq
  refine lv_icmp_eq (tgt := 1550) S.1 S.2.1 dL_law_1239 (by decide) (fun _ => ?_) (fun h9 => absurd ew h9)
  refine W.widen (k := k + 4) (n := n + 24) (Nat.le_add_right _ _) (Nat.le_add_right _ _) ?_
  exact nx _ _ _ _ _ hqI hP hD hS (lv_sub hl [0, 1, 2, 3, 4] rfl)
set_option maxRecDepth 100000 in
set_option maxHeartbeats 4000000 in
theorem lw_covered {p : Program} {l : Launch} {e : Env} {s : State} {m : MethodId} {below : List Frame} {meth : Method} {c : Code} {b L : Nat} {xs : Nat → Int32} {E : EV} (CT : LCx p l s m meth c b L xs E) {i k n : Nat} (hi : i + 5 < L) (hL : L ≤ 3072) (hk : k + 4 ≤ 601024) (hn : n + 24 ≤ 7293033) (nx : LSx p l e s m below meth c b E 1550 (k + 4) (n + 24) [(4, .int (nI i)), (3, .ref (eA E 13 0)), (2, .ref (eA E 12 0)), (1, .ref (eA E 11 0)), (0, .ref b)]) : LSx p l e s m below meth c b E 1244 k n [(4, .int (nI i)), (3, .ref (eA E 13 0)), (2, .ref (eA E 12 0)), (1, .ref (eA E 11 0)), (0, .ref b)] := by
  obtain ⟨S, hK, hX, hT, ⟨hR, hR3⟩, hscr, hbl, hr, hlk, hl9⟩ := CT
  have hA : ∀ q, s.heap.size ≤ q → fA s q := fun _ h => h
  intro I J H locs ls V hP hD hS hl
  refine lv_aload_n S.1 S.2.1 dL_law_1244 rfl (lv_at hl 3 rfl) ?_
  refine R_cVf (As := []) (rest := []) S (c_X7_covered (h11 := ps11) (hG := psG) (hR := hR) (b_covered V)) gL_law_X7_covered rfl yk_X7_covered ⟨⟨(Nat.le_of_ble_eq_true rfl), (Nat.le_of_ble_eq_true rfl)⟩, rfl, rfl⟩ hK hP hD hS hX hA (ps11 0 (by decide)) (cF_o E _ _ 0) rfl rfl hl.1 rfl (Nat.le_of_ble_eq_true rfl) ⟨by show k ≤ 601024; omega, by show n ≤ 7293033; omega⟩ dL_law_1245 (fun v I1 J1 H locs hq hP hD hS => ?_)
  obtain ⟨cv, hq⟩ := hq
  refine lv_f2d S.1 S.2.1 dL_law_1248 cv.1 ?_
  refine lv_dstore (lv' := [(5, .double (FP.f2d v)), (4, .int (nI i)), (3, .ref (eA E 13 0)), (2, .ref (eA E 12 0)), (1, .ref (eA E 11 0)), (0, .ref b)]) S.1 S.2.1 dL_law_1249 hl (by decide) rfl (fun ls hl => ?_)
  refine lv_aload_n S.1 S.2.1 dL_law_1251 rfl (lv_at hl 3 rfl) ?_
  refine R_cVf (As := []) (rest := []) S (c_X8_covered (h12 := ps12) hq) gL_law_X8_covered rfl yk_X8_covered ⟨⟨(Nat.le_of_ble_eq_true rfl), (Nat.le_of_ble_eq_true rfl)⟩, rfl, rfl⟩ hK hP hD hS hX hA (ps12 0 (by decide)) (cF_m E _ _ 0) rfl rfl hl.1 rfl (Nat.le_of_ble_eq_true rfl) ⟨by show k ≤ 601024; omega, by show n ≤ 7293033; omega⟩ dL_law_1252 (fun w I2 J2 H locs hq hP hD hS => ?_)
  obtain ⟨ew, hqI⟩ := hq
  subst ew
  refine lv_f2d S.1 S.2.1 dL_law_1255 cv.1 ?_
  refine lv_dstore (lv' := [(7, .double (FP.f2d v)), (5, .double (FP.f2d v)), (4, .int (nI i)), (3, .ref (eA E 13 0)), (2, .ref (eA E 12 0)), (1, .ref (eA E 11 0)), (0, .ref b)]) S.1 S.2.1 dL_law_1256 hl (by decide) rfl (fun ls hl => ?_)
  refine lv_dload S.1 S.2.1 dL_law_1258 (lv_at hl 1 rfl) ?_
  refine lv_dload S.1 S.2.1 dL_law_1260 (lv_at hl 0 rfl) ?_
  refine lv_dcmp S.1 S.2.1 dL_law_1262 ?_
  refine lv_if_eq (tgt := 1284) S.1 S.2.1 dL_law_1263 (by decide) (fun _ => ?_) (fun h9 => absurd (by rw [cv.2]; rfl) h9)
  refine W.widen (k := k + 4) (n := n + 24) (Nat.le_add_right _ _) (Nat.le_add_right _ _) ?_
  refine lv_goto (tgt := 1550) S.1 S.2.1 dL_law_1284 (by decide) ?_
  exact nx _ _ _ _ _ hqI hP hD hS (lv_sub hl [2, 3, 4, 5, 6] rfl)
set_option maxRecDepth 100000 in
set_option maxHeartbeats 4000000 in
theorem lw_lay {p : Program} {l : Launch} {e : Env} {s : State} {m : MethodId} {below : List Frame} {meth : Method} {c : Code} {b L : Nat} {xs : Nat → Int32} {E : EV} (CT : LCx p l s m meth c b L xs E) {i k n : Nat} (hi : i + 5 < L) (hL : L ≤ 3072) (hk : k + 4 ≤ 601024) (hn : n + 24 ≤ 7293033) (nx : LSx p l e s m below meth c b E 1550 (k + 4) (n + 24) [(4, .int (nI i)), (3, .ref (eA E 13 0)), (2, .ref (eA E 12 0)), (1, .ref (eA E 11 0)), (0, .ref b)]) : LSx p l e s m below meth c b E 1287 k n [(4, .int (nI i)), (3, .ref (eA E 13 0)), (2, .ref (eA E 12 0)), (1, .ref (eA E 11 0)), (0, .ref b)] := by
  obtain ⟨S, hK, hX, hT, ⟨hR, hR3⟩, hscr, hbl, hr, hlk, hl9⟩ := CT
  have hA : ∀ q, s.heap.size ≤ q → fA s q := fun _ h => h
  intro I J H locs ls V hP hD hS hl
  refine lv_aload_n S.1 S.2.1 dL_law_1287 rfl (lv_at hl 3 rfl) ?_
  refine L_arg (k := 1) S.1 S.2.1 hscr hbl hS (by omega) hL rfl hl (j0 := 4) (j4 := 0) rfl rfl dL_law_1288 dL_law_1289 dL_law_1291 dL_law_1292 dL_law_1293 ?_
  refine L_arg (k := 2) S.1 S.2.1 hscr hbl hS (by omega) hL rfl hl (j0 := 4) (j4 := 0) rfl rfl dL_law_1294 dL_law_1295 dL_law_1297 dL_law_1298 dL_law_1299 ?_
  refine lv_aload_n S.1 S.2.1 dL_law_1300 rfl (lv_at hl 1 rfl) ?_
  refine R_lSi (As := [.ref (eA E 11 0), .int (xs (i + 1)), .int (xs (i + 2)), .ref (eA E 13 0)]) (rest := []) S (lc_lay hl9 ps11 psG hR ps13 V) gL_law_L_lay rfl yk_L_lay ⟨rfl, rfl⟩ ⟨(Nat.le_of_ble_eq_true rfl), (Nat.le_of_ble_eq_true rfl)⟩ hK hP hD hS hX hT hA rfl hl.1 rfl (Nat.le_of_ble_eq_true rfl) ⟨by show k + 4 ≤ 601024; omega, by show n + 24 ≤ 7293033; omega⟩ dL_law_1301 (fun v I1 J1 H locs hq hP hD hS => ?_)
  have hq : f_X8_lay (xs (i + 1)) (xs (i + 2)) I1 J1 (POST v) := hq
  refine lv_istore (lv' := [(5, .int v), (4, .int (nI i)), (3, .ref (eA E 13 0)), (2, .ref (eA E 12 0)), (1, .ref (eA E 11 0)), (0, .ref b)]) S.1 S.2.1 dL_law_1304 hl (by decide) rfl (fun ls hl => ?_)
  refine lv_aload_n S.1 S.2.1 dL_law_1306 rfl (lv_at hl 3 rfl) ?_
  refine L_arg (k := 1) S.1 S.2.1 hscr hbl hS (by omega) hL rfl hl (j0 := 5) (j4 := 1) rfl rfl dL_law_1307 dL_law_1308 dL_law_1310 dL_law_1311 dL_law_1312 ?_
  refine L_arg (k := 2) S.1 S.2.1 hscr hbl hS (by omega) hL rfl hl (j0 := 5) (j4 := 1) rfl rfl dL_law_1313 dL_law_1314 dL_law_1316 dL_law_1317 dL_law_1318 ?_
  refine R_cVi (As := [.int (xs (i + 1)), .int (xs (i + 2))]) (rest := []) S (c_X8_lay (h12 := ps12) (hR := hR3) hq) gL_law_X8_lay rfl yk_X8_lay ⟨⟨(Nat.le_of_ble_eq_true rfl), (Nat.le_of_ble_eq_true rfl)⟩, rfl, rfl⟩ hK hP hD hS hX hA (ps12 0 (by decide)) (cF_m E _ _ 0) rfl rfl hl.1 rfl (Nat.le_of_ble_eq_true rfl) ⟨by show k + 4 ≤ 601024; omega, by show n + 24 ≤ 7293033; omega⟩ dL_law_1319 (fun w I2 J2 H locs hq hP hD hS => ?_)
  obtain ⟨hq1, hq2, hqI⟩ := hq
  refine lv_istore (lv' := [(6, .int w), (5, .int v), (4, .int (nI i)), (3, .ref (eA E 13 0)), (2, .ref (eA E 12 0)), (1, .ref (eA E 11 0)), (0, .ref b)]) S.1 S.2.1 dL_law_1322 hl (by decide) rfl (fun ls hl => ?_)
  refine lv_aload_n S.1 S.2.1 dL_law_1324 rfl (lv_at hl 4 rfl) ?_
  refine R_cVi (As := []) (rest := []) S (c_X8_thrown (Q := fun t I3 J3 => t = I2 12 0 0 ∧ I3 = I2 ∧ J3 = J2) (h12 := ps12) ⟨rfl, rfl, rfl⟩) gL_law_X8_thrown rfl yk_X8_thrown ⟨⟨(Nat.le_of_ble_eq_true rfl), (Nat.le_of_ble_eq_true rfl)⟩, rfl, rfl⟩ hK hP hD hS hX hA (ps12 0 (by decide)) (cF_m E _ _ 0) rfl rfl hl.1 rfl (Nat.le_of_ble_eq_true rfl) ⟨by show k + 4 ≤ 601024; omega, by show n + 24 ≤ 7293033; omega⟩ dL_law_1325 (fun t I3 J3 H locs hq3 hPn hDn hS => ?_)
  obtain ⟨et, eI3, eJ3⟩ := hq3
  subst eI3 eJ3
  have hP := hPn
  have hD := hDn
  clear hPn hDn
  refine lv_iload S.1 S.2.1 dL_law_1328 (lv_at hl 1 rfl) ?_
  refine lv_icmp_eq (tgt := 1335) S.1 S.2.1 dL_law_1330 (by decide) (fun _ => ?_) (fun h => absurd (et.trans hq1) h)
  refine lv_iload S.1 S.2.1 dL_law_1335 (lv_at hl 1 rfl) ?_
  refine lv_if_ne (tgt := 1352) S.1 S.2.1 dL_law_1337 (by decide) (fun _ => ?_) (fun h => ?_)
  · refine lv_goto (tgt := 1550) S.1 S.2.1 dL_law_1352 (by decide) ?_
    exact nx _ _ _ _ _ hqI hP hD hS (lv_sub hl [2, 3, 4, 5, 6] rfl)
  · refine lv_aload_n S.1 S.2.1 dL_law_1340 rfl (lv_at hl 3 rfl) ?_
    refine lv_iconst (v := 0) S.1 S.2.1 dL_law_1341 rfl ?_
    refine R_lald S.1 S.2.1 hK hP ps13 (n := 1) (fun _ _ => rfl) (vin 0 1 (by decide) (by decide) rfl) dL_law_1342 ?_
    refine lv_iload S.1 S.2.1 dL_law_1343 (lv_at hl 0 rfl) ?_
    refine lv_i2l S.1 S.2.1 dL_law_1345 rfl ?_
    refine W.lcmp S.1 S.2.1 dL_law_1346 ?_
    refine lv_if_eq (tgt := 1352) S.1 S.2.1 dL_law_1347 (by decide) (fun _ => ?_) (fun h9 => absurd ((lg_eq0 _ _).mpr (hq2 h)) h9)
    refine lv_goto (tgt := 1550) S.1 S.2.1 dL_law_1352 (by decide) ?_
    exact nx _ _ _ _ _ hqI hP hD hS (lv_sub hl [2, 3, 4, 5, 6] rfl)
set_option maxRecDepth 100000 in
set_option maxHeartbeats 4000000 in
theorem lw_pass {p : Program} {l : Launch} {e : Env} {s : State} {m : MethodId} {below : List Frame} {meth : Method} {c : Code} {b L : Nat} {xs : Nat → Int32} {E : EV} (CT : LCx p l s m meth c b L xs E) {i k n : Nat} (hi : i + 5 < L) (hL : L ≤ 3072) (hk : k + 4 ≤ 601024) (hn : n + 24 ≤ 7293033) (nx : LSx p l e s m below meth c b E 1550 (k + 4) (n + 24) [(4, .int (nI i)), (3, .ref (eA E 13 0)), (2, .ref (eA E 12 0)), (1, .ref (eA E 11 0)), (0, .ref b)]) : LSx p l e s m below meth c b E 1355 k n [(4, .int (nI i)), (3, .ref (eA E 13 0)), (2, .ref (eA E 12 0)), (1, .ref (eA E 11 0)), (0, .ref b)] := by
  obtain ⟨S, hK, hX, hT, ⟨hR, hR3⟩, hscr, hbl, hr, hlk, hl9⟩ := CT
  have hA : ∀ q, s.heap.size ≤ q → fA s q := fun _ h => h
  intro I J H locs ls V hP hD hS hl
  refine lv_aload_n S.1 S.2.1 dL_law_1355 rfl (lv_at hl 3 rfl) ?_
  refine lv_aload_n S.1 S.2.1 dL_law_1356 rfl (lv_at hl 1 rfl) ?_
  refine R_lSi (As := [.ref (eA E 11 0), .ref (eA E 13 0)]) (rest := []) S (lc_pass hl9 ps11 psG hR ps13 V) gL_law_L_pass rfl yk_L_pass ⟨rfl, rfl⟩ ⟨(Nat.le_of_ble_eq_true rfl), (Nat.le_of_ble_eq_true rfl)⟩ hK hP hD hS hX hT hA rfl hl.1 rfl (Nat.le_of_ble_eq_true rfl) ⟨by show k + 4 ≤ 601024; omega, by show n + 24 ≤ 7293033; omega⟩ dL_law_1357 (fun v I1 J1 H locs hq hP hD hS => ?_)
  have hq : f_X8_pass  I1 J1 (POST v) := hq
  refine lv_istore (lv' := [(5, .int v), (4, .int (nI i)), (3, .ref (eA E 13 0)), (2, .ref (eA E 12 0)), (1, .ref (eA E 11 0)), (0, .ref b)]) S.1 S.2.1 dL_law_1360 hl (by decide) rfl (fun ls hl => ?_)
  refine lv_aload_n S.1 S.2.1 dL_law_1362 rfl (lv_at hl 3 rfl) ?_
  refine R_cVi (As := []) (rest := []) S (c_X8_pass (h12 := ps12) (hR := hR3) hq) gL_law_X8_pass rfl yk_X8_pass ⟨⟨(Nat.le_of_ble_eq_true rfl), (Nat.le_of_ble_eq_true rfl)⟩, rfl, rfl⟩ hK hP hD hS hX hA (ps12 0 (by decide)) (cF_m E _ _ 0) rfl rfl hl.1 rfl (Nat.le_of_ble_eq_true rfl) ⟨by show k + 4 ≤ 601024; omega, by show n + 24 ≤ 7293033; omega⟩ dL_law_1363 (fun w I2 J2 H locs hq hP hD hS => ?_)
  obtain ⟨hq1, hq2, hqI⟩ := hq
  refine lv_istore (lv' := [(6, .int w), (5, .int v), (4, .int (nI i)), (3, .ref (eA E 13 0)), (2, .ref (eA E 12 0)), (1, .ref (eA E 11 0)), (0, .ref b)]) S.1 S.2.1 dL_law_1366 hl (by decide) rfl (fun ls hl => ?_)
  refine lv_aload_n S.1 S.2.1 dL_law_1368 rfl (lv_at hl 4 rfl) ?_
  refine R_cVi (As := []) (rest := []) S (c_X8_thrown (Q := fun t I3 J3 => t = I2 12 0 0 ∧ I3 = I2 ∧ J3 = J2) (h12 := ps12) ⟨rfl, rfl, rfl⟩) gL_law_X8_thrown rfl yk_X8_thrown ⟨⟨(Nat.le_of_ble_eq_true rfl), (Nat.le_of_ble_eq_true rfl)⟩, rfl, rfl⟩ hK hP hD hS hX hA (ps12 0 (by decide)) (cF_m E _ _ 0) rfl rfl hl.1 rfl (Nat.le_of_ble_eq_true rfl) ⟨by show k + 4 ≤ 601024; omega, by show n + 24 ≤ 7293033; omega⟩ dL_law_1369 (fun t I3 J3 H locs hq3 hPn hDn hS => ?_)
  obtain ⟨et, eI3, eJ3⟩ := hq3
  subst eI3 eJ3
  have hP := hPn
  have hD := hDn
  clear hPn hDn
  refine lv_iload S.1 S.2.1 dL_law_1372 (lv_at hl 1 rfl) ?_
  refine lv_icmp_eq (tgt := 1379) S.1 S.2.1 dL_law_1374 (by decide) (fun _ => ?_) (fun h => absurd (et.trans hq1) h)
  refine lv_iload S.1 S.2.1 dL_law_1379 (lv_at hl 1 rfl) ?_
  refine lv_if_ne (tgt := 1396) S.1 S.2.1 dL_law_1381 (by decide) (fun _ => ?_) (fun h => ?_)
  · refine lv_goto (tgt := 1550) S.1 S.2.1 dL_law_1396 (by decide) ?_
    exact nx _ _ _ _ _ hqI hP hD hS (lv_sub hl [2, 3, 4, 5, 6] rfl)
  · refine lv_aload_n S.1 S.2.1 dL_law_1384 rfl (lv_at hl 3 rfl) ?_
    refine lv_iconst (v := 0) S.1 S.2.1 dL_law_1385 rfl ?_
    refine R_lald S.1 S.2.1 hK hP ps13 (n := 1) (fun _ _ => rfl) (vin 0 1 (by decide) (by decide) rfl) dL_law_1386 ?_
    refine lv_iload S.1 S.2.1 dL_law_1387 (lv_at hl 0 rfl) ?_
    refine lv_i2l S.1 S.2.1 dL_law_1389 rfl ?_
    refine W.lcmp S.1 S.2.1 dL_law_1390 ?_
    refine lv_if_eq (tgt := 1396) S.1 S.2.1 dL_law_1391 (by decide) (fun _ => ?_) (fun h9 => absurd ((lg_eq0 _ _).mpr (hq2 h)) h9)
    refine lv_goto (tgt := 1550) S.1 S.2.1 dL_law_1396 (by decide) ?_
    exact nx _ _ _ _ _ hqI hP hD hS (lv_sub hl [2, 3, 4, 5, 6] rfl)
set_option maxRecDepth 100000 in
set_option maxHeartbeats 4000000 in
theorem lw_auto {p : Program} {l : Launch} {e : Env} {s : State} {m : MethodId} {below : List Frame} {meth : Method} {c : Code} {b L : Nat} {xs : Nat → Int32} {E : EV} (CT : LCx p l s m meth c b L xs E) {i k n : Nat} (hi : i + 5 < L) (hL : L ≤ 3072) (hk : k + 4 ≤ 601024) (hn : n + 24 ≤ 7293033) (nx : LSx p l e s m below meth c b E 1550 (k + 4) (n + 24) [(4, .int (nI i)), (3, .ref (eA E 13 0)), (2, .ref (eA E 12 0)), (1, .ref (eA E 11 0)), (0, .ref b)]) : LSx p l e s m below meth c b E 1399 k n [(4, .int (nI i)), (3, .ref (eA E 13 0)), (2, .ref (eA E 12 0)), (1, .ref (eA E 11 0)), (0, .ref b)] := by
  obtain ⟨S, hK, hX, hT, ⟨hR, hR3⟩, hscr, hbl, hr, hlk, hl9⟩ := CT
  have hA : ∀ q, s.heap.size ≤ q → fA s q := fun _ h => h
  intro I J H locs ls V hP hD hS hl
  refine lv_aload_n S.1 S.2.1 dL_law_1399 rfl (lv_at hl 3 rfl) ?_
  refine L_arg (k := 1) S.1 S.2.1 hscr hbl hS (by omega) hL rfl hl (j0 := 4) (j4 := 0) rfl rfl dL_law_1400 dL_law_1401 dL_law_1403 dL_law_1404 dL_law_1405 ?_
  refine lv_aload_n S.1 S.2.1 dL_law_1406 rfl (lv_at hl 1 rfl) ?_
  refine R_lSi (As := [.ref (eA E 11 0), .int (xs (i + 1)), .ref (eA E 13 0)]) (rest := []) S (lc_auto hl9 ps11 psG hR ps13 V) gL_law_L_auto rfl yk_L_auto ⟨rfl, rfl⟩ ⟨(Nat.le_of_ble_eq_true rfl), (Nat.le_of_ble_eq_true rfl)⟩ hK hP hD hS hX hT hA rfl hl.1 rfl (Nat.le_of_ble_eq_true rfl) ⟨by show k + 4 ≤ 601024; omega, by show n + 24 ≤ 7293033; omega⟩ dL_law_1407 (fun v I1 J1 H locs hq hP hD hS => ?_)
  have hq : f_X8_auto (xs (i + 1)) I1 J1 (POST v) := hq
  refine lv_istore (lv' := [(5, .int v), (4, .int (nI i)), (3, .ref (eA E 13 0)), (2, .ref (eA E 12 0)), (1, .ref (eA E 11 0)), (0, .ref b)]) S.1 S.2.1 dL_law_1410 hl (by decide) rfl (fun ls hl => ?_)
  refine lv_aload_n S.1 S.2.1 dL_law_1412 rfl (lv_at hl 3 rfl) ?_
  refine L_arg (k := 1) S.1 S.2.1 hscr hbl hS (by omega) hL rfl hl (j0 := 5) (j4 := 1) rfl rfl dL_law_1413 dL_law_1414 dL_law_1416 dL_law_1417 dL_law_1418 ?_
  refine R_cVi (As := [.int (xs (i + 1))]) (rest := []) S (c_X8_auto (h12 := ps12) (hR := hR3) hq) gL_law_X8_auto rfl yk_X8_auto ⟨⟨(Nat.le_of_ble_eq_true rfl), (Nat.le_of_ble_eq_true rfl)⟩, rfl, rfl⟩ hK hP hD hS hX hA (ps12 0 (by decide)) (cF_m E _ _ 0) rfl rfl hl.1 rfl (Nat.le_of_ble_eq_true rfl) ⟨by show k + 4 ≤ 601024; omega, by show n + 24 ≤ 7293033; omega⟩ dL_law_1419 (fun w I2 J2 H locs hq hP hD hS => ?_)
  obtain ⟨hq1, hq2, hqI⟩ := hq
  refine lv_istore (lv' := [(6, .int w), (5, .int v), (4, .int (nI i)), (3, .ref (eA E 13 0)), (2, .ref (eA E 12 0)), (1, .ref (eA E 11 0)), (0, .ref b)]) S.1 S.2.1 dL_law_1422 hl (by decide) rfl (fun ls hl => ?_)
  refine lv_aload_n S.1 S.2.1 dL_law_1424 rfl (lv_at hl 4 rfl) ?_
  refine R_cVi (As := []) (rest := []) S (c_X8_thrown (Q := fun t I3 J3 => t = I2 12 0 0 ∧ I3 = I2 ∧ J3 = J2) (h12 := ps12) ⟨rfl, rfl, rfl⟩) gL_law_X8_thrown rfl yk_X8_thrown ⟨⟨(Nat.le_of_ble_eq_true rfl), (Nat.le_of_ble_eq_true rfl)⟩, rfl, rfl⟩ hK hP hD hS hX hA (ps12 0 (by decide)) (cF_m E _ _ 0) rfl rfl hl.1 rfl (Nat.le_of_ble_eq_true rfl) ⟨by show k + 4 ≤ 601024; omega, by show n + 24 ≤ 7293033; omega⟩ dL_law_1425 (fun t I3 J3 H locs hq3 hPn hDn hS => ?_)
  obtain ⟨et, eI3, eJ3⟩ := hq3
  subst eI3 eJ3
  have hP := hPn
  have hD := hDn
  clear hPn hDn
  refine lv_iload S.1 S.2.1 dL_law_1428 (lv_at hl 1 rfl) ?_
  refine lv_icmp_eq (tgt := 1435) S.1 S.2.1 dL_law_1430 (by decide) (fun _ => ?_) (fun h => absurd (et.trans hq1) h)
  refine lv_iload S.1 S.2.1 dL_law_1435 (lv_at hl 1 rfl) ?_
  refine lv_if_ne (tgt := 1452) S.1 S.2.1 dL_law_1437 (by decide) (fun _ => ?_) (fun h => ?_)
  · refine lv_goto (tgt := 1550) S.1 S.2.1 dL_law_1452 (by decide) ?_
    exact nx _ _ _ _ _ hqI hP hD hS (lv_sub hl [2, 3, 4, 5, 6] rfl)
  · refine lv_aload_n S.1 S.2.1 dL_law_1440 rfl (lv_at hl 3 rfl) ?_
    refine lv_iconst (v := 0) S.1 S.2.1 dL_law_1441 rfl ?_
    refine R_lald S.1 S.2.1 hK hP ps13 (n := 1) (fun _ _ => rfl) (vin 0 1 (by decide) (by decide) rfl) dL_law_1442 ?_
    refine lv_iload S.1 S.2.1 dL_law_1443 (lv_at hl 0 rfl) ?_
    refine lv_i2l S.1 S.2.1 dL_law_1445 rfl ?_
    refine W.lcmp S.1 S.2.1 dL_law_1446 ?_
    refine lv_if_eq (tgt := 1452) S.1 S.2.1 dL_law_1447 (by decide) (fun _ => ?_) (fun h9 => absurd ((lg_eq0 _ _).mpr (hq2 h)) h9)
    refine lv_goto (tgt := 1550) S.1 S.2.1 dL_law_1452 (by decide) ?_
    exact nx _ _ _ _ _ hqI hP hD hS (lv_sub hl [2, 3, 4, 5, 6] rfl)
set_option maxRecDepth 100000 in
set_option maxHeartbeats 4000000 in
theorem lw_give {p : Program} {l : Launch} {e : Env} {s : State} {m : MethodId} {below : List Frame} {meth : Method} {c : Code} {b L : Nat} {xs : Nat → Int32} {E : EV} (CT : LCx p l s m meth c b L xs E) {i k n : Nat} (hi : i + 5 < L) (hL : L ≤ 3072) (hk : k + 4 ≤ 601024) (hn : n + 24 ≤ 7293033) (nx : LSx p l e s m below meth c b E 1550 (k + 4) (n + 24) [(4, .int (nI i)), (3, .ref (eA E 13 0)), (2, .ref (eA E 12 0)), (1, .ref (eA E 11 0)), (0, .ref b)]) : LSx p l e s m below meth c b E 1455 k n [(4, .int (nI i)), (3, .ref (eA E 13 0)), (2, .ref (eA E 12 0)), (1, .ref (eA E 11 0)), (0, .ref b)] := by
  obtain ⟨S, hK, hX, hT, ⟨hR, hR3⟩, hscr, hbl, hr, hlk, hl9⟩ := CT
  have hA : ∀ q, s.heap.size ≤ q → fA s q := fun _ h => h
  intro I J H locs ls V hP hD hS hl
  refine lv_aload_n S.1 S.2.1 dL_law_1455 rfl (lv_at hl 3 rfl) ?_
  refine L_arg (k := 1) S.1 S.2.1 hscr hbl hS (by omega) hL rfl hl (j0 := 4) (j4 := 0) rfl rfl dL_law_1456 dL_law_1457 dL_law_1459 dL_law_1460 dL_law_1461 ?_
  refine L_arg (k := 2) S.1 S.2.1 hscr hbl hS (by omega) hL rfl hl (j0 := 4) (j4 := 0) rfl rfl dL_law_1462 dL_law_1463 dL_law_1465 dL_law_1466 dL_law_1467 ?_
  refine lv_aload_n S.1 S.2.1 dL_law_1468 rfl (lv_at hl 1 rfl) ?_
  refine R_lSi (As := [.ref (eA E 11 0), .int (xs (i + 1)), .int (xs (i + 2)), .ref (eA E 13 0)]) (rest := []) S (lc_give hl9 ps11 psG hR ps13 V) gL_law_L_give rfl yk_L_give ⟨rfl, rfl⟩ ⟨(Nat.le_of_ble_eq_true rfl), (Nat.le_of_ble_eq_true rfl)⟩ hK hP hD hS hX hT hA rfl hl.1 rfl (Nat.le_of_ble_eq_true rfl) ⟨by show k + 4 ≤ 601024; omega, by show n + 24 ≤ 7293033; omega⟩ dL_law_1469 (fun v I1 J1 H locs hq hP hD hS => ?_)
  have hq : f_X8_give (xs (i + 1)) (xs (i + 2)) I1 J1 (POST v) := hq
  refine lv_istore (lv' := [(5, .int v), (4, .int (nI i)), (3, .ref (eA E 13 0)), (2, .ref (eA E 12 0)), (1, .ref (eA E 11 0)), (0, .ref b)]) S.1 S.2.1 dL_law_1472 hl (by decide) rfl (fun ls hl => ?_)
  refine lv_aload_n S.1 S.2.1 dL_law_1474 rfl (lv_at hl 3 rfl) ?_
  refine L_arg (k := 1) S.1 S.2.1 hscr hbl hS (by omega) hL rfl hl (j0 := 5) (j4 := 1) rfl rfl dL_law_1475 dL_law_1476 dL_law_1478 dL_law_1479 dL_law_1480 ?_
  refine L_arg (k := 2) S.1 S.2.1 hscr hbl hS (by omega) hL rfl hl (j0 := 5) (j4 := 1) rfl rfl dL_law_1481 dL_law_1482 dL_law_1484 dL_law_1485 dL_law_1486 ?_
  refine R_cVi (As := [.int (xs (i + 1)), .int (xs (i + 2))]) (rest := []) S (c_X8_give (h12 := ps12) (hR := hR3) hq) gL_law_X8_give rfl yk_X8_give ⟨⟨(Nat.le_of_ble_eq_true rfl), (Nat.le_of_ble_eq_true rfl)⟩, rfl, rfl⟩ hK hP hD hS hX hA (ps12 0 (by decide)) (cF_m E _ _ 0) rfl rfl hl.1 rfl (Nat.le_of_ble_eq_true rfl) ⟨by show k + 4 ≤ 601024; omega, by show n + 24 ≤ 7293033; omega⟩ dL_law_1487 (fun w I2 J2 H locs hq hP hD hS => ?_)
  obtain ⟨hq1, hq2, hqI⟩ := hq
  refine lv_istore (lv' := [(6, .int w), (5, .int v), (4, .int (nI i)), (3, .ref (eA E 13 0)), (2, .ref (eA E 12 0)), (1, .ref (eA E 11 0)), (0, .ref b)]) S.1 S.2.1 dL_law_1490 hl (by decide) rfl (fun ls hl => ?_)
  refine lv_aload_n S.1 S.2.1 dL_law_1492 rfl (lv_at hl 4 rfl) ?_
  refine R_cVi (As := []) (rest := []) S (c_X8_thrown (Q := fun t I3 J3 => t = I2 12 0 0 ∧ I3 = I2 ∧ J3 = J2) (h12 := ps12) ⟨rfl, rfl, rfl⟩) gL_law_X8_thrown rfl yk_X8_thrown ⟨⟨(Nat.le_of_ble_eq_true rfl), (Nat.le_of_ble_eq_true rfl)⟩, rfl, rfl⟩ hK hP hD hS hX hA (ps12 0 (by decide)) (cF_m E _ _ 0) rfl rfl hl.1 rfl (Nat.le_of_ble_eq_true rfl) ⟨by show k + 4 ≤ 601024; omega, by show n + 24 ≤ 7293033; omega⟩ dL_law_1493 (fun t I3 J3 H locs hq3 hPn hDn hS => ?_)
  obtain ⟨et, eI3, eJ3⟩ := hq3
  subst eI3 eJ3
  have hP := hPn
  have hD := hDn
  clear hPn hDn
  refine lv_iload S.1 S.2.1 dL_law_1496 (lv_at hl 1 rfl) ?_
  refine lv_icmp_eq (tgt := 1503) S.1 S.2.1 dL_law_1498 (by decide) (fun _ => ?_) (fun h => absurd (et.trans hq1) h)
  refine lv_iload S.1 S.2.1 dL_law_1503 (lv_at hl 1 rfl) ?_
  refine lv_if_ne (tgt := 1520) S.1 S.2.1 dL_law_1505 (by decide) (fun _ => ?_) (fun h => ?_)
  · refine lv_goto (tgt := 1550) S.1 S.2.1 dL_law_1520 (by decide) ?_
    exact nx _ _ _ _ _ hqI hP hD hS (lv_sub hl [2, 3, 4, 5, 6] rfl)
  · refine lv_aload_n S.1 S.2.1 dL_law_1508 rfl (lv_at hl 3 rfl) ?_
    refine lv_iconst (v := 0) S.1 S.2.1 dL_law_1509 rfl ?_
    refine R_lald S.1 S.2.1 hK hP ps13 (n := 1) (fun _ _ => rfl) (vin 0 1 (by decide) (by decide) rfl) dL_law_1510 ?_
    refine lv_iload S.1 S.2.1 dL_law_1511 (lv_at hl 0 rfl) ?_
    refine lv_i2l S.1 S.2.1 dL_law_1513 rfl ?_
    refine W.lcmp S.1 S.2.1 dL_law_1514 ?_
    refine lv_if_eq (tgt := 1520) S.1 S.2.1 dL_law_1515 (by decide) (fun _ => ?_) (fun h9 => absurd ((lg_eq0 _ _).mpr (hq2 h)) h9)
    refine lv_goto (tgt := 1550) S.1 S.2.1 dL_law_1520 (by decide) ?_
    exact nx _ _ _ _ _ hqI hP hD hS (lv_sub hl [2, 3, 4, 5, 6] rfl)
set_option maxRecDepth 100000 in
set_option maxHeartbeats 4000000 in
theorem lw_undo {p : Program} {l : Launch} {e : Env} {s : State} {m : MethodId} {below : List Frame} {meth : Method} {c : Code} {b L : Nat} {xs : Nat → Int32} {E : EV} (CT : LCx p l s m meth c b L xs E) {i k n : Nat} (hi : i + 5 < L) (hL : L ≤ 3072) (hk : k + 4 ≤ 601024) (hn : n + 24 ≤ 7293033) (nx : LSx p l e s m below meth c b E 1550 (k + 4) (n + 24) [(4, .int (nI i)), (3, .ref (eA E 13 0)), (2, .ref (eA E 12 0)), (1, .ref (eA E 11 0)), (0, .ref b)]) : LSx p l e s m below meth c b E 1523 k n [(4, .int (nI i)), (3, .ref (eA E 13 0)), (2, .ref (eA E 12 0)), (1, .ref (eA E 11 0)), (0, .ref b)] := by
  obtain ⟨S, hK, hX, hT, ⟨hR, hR3⟩, hscr, hbl, hr, hlk, hl9⟩ := CT
  have hA : ∀ q, s.heap.size ≤ q → fA s q := fun _ h => h
  intro I J H locs ls V hP hD hS hl
  refine lv_aload_n S.1 S.2.1 dL_law_1523 rfl (lv_at hl 3 rfl) ?_
  refine R_cVi (As := []) (rest := []) S (c_X7_undo (h11 := ps11) (hG := psG) (hR := hR) (b_undo V)) gL_law_X7_undo rfl yk_X7_undo ⟨⟨(Nat.le_of_ble_eq_true rfl), (Nat.le_of_ble_eq_true rfl)⟩, rfl, rfl⟩ hK hP hD hS hX hA (ps11 0 (by decide)) (cF_o E _ _ 0) rfl rfl hl.1 rfl (Nat.le_of_ble_eq_true rfl) ⟨by show k ≤ 601024; omega, by show n ≤ 7293033; omega⟩ dL_law_1524 (fun v I1 J1 H locs hq hP hD hS => ?_)
  refine lv_aload_n S.1 S.2.1 dL_law_1527 rfl (lv_at hl 2 rfl) ?_
  refine R_cVi (As := []) (rest := [.int v]) S (c_X8_undo (h12 := ps12) (hR := hR3) hq) gL_law_X8_undo rfl yk_X8_undo ⟨⟨(Nat.le_of_ble_eq_true rfl), (Nat.le_of_ble_eq_true rfl)⟩, rfl, rfl⟩ hK hP hD hS hX hA (ps12 0 (by decide)) (cF_m E _ _ 0) rfl rfl hl.1 rfl (Nat.le_of_ble_eq_true rfl) ⟨by show k ≤ 601024; omega, by show n ≤ 7293033; omega⟩ dL_law_1528 (fun w I2 J2 H locs hq hP hD hS => ?_)
  obtain ⟨ew, hqI⟩ := hq
  refine lv_icmp_eq (tgt := 1550) S.1 S.2.1 dL_law_1531 (by decide) (fun _ => ?_) (fun h9 => absurd ew h9)
  refine W.widen (k := k + 4) (n := n + 24) (Nat.le_add_right _ _) (Nat.le_add_right _ _) ?_
  exact nx _ _ _ _ _ hqI hP hD hS (lv_sub hl [0, 1, 2, 3, 4] rfl)
set_option maxRecDepth 100000 in
set_option maxHeartbeats 4000000 in
theorem lw_checksum {p : Program} {l : Launch} {e : Env} {s : State} {m : MethodId} {below : List Frame} {meth : Method} {c : Code} {b L : Nat} {xs : Nat → Int32} {E : EV} (CT : LCx p l s m meth c b L xs E) {i k n : Nat} (hi : i + 5 < L) (hL : L ≤ 3072) (hk : k + 4 ≤ 601024) (hn : n + 24 ≤ 7293033) (nx : LSx p l e s m below meth c b E 1550 (k + 4) (n + 24) [(4, .int (nI i)), (3, .ref (eA E 13 0)), (2, .ref (eA E 12 0)), (1, .ref (eA E 11 0)), (0, .ref b)]) : LSx p l e s m below meth c b E 1536 k n [(4, .int (nI i)), (3, .ref (eA E 13 0)), (2, .ref (eA E 12 0)), (1, .ref (eA E 11 0)), (0, .ref b)] := by
  obtain ⟨S, hK, hX, hT, ⟨hR, hR3⟩, hscr, hbl, hr, hlk, hl9⟩ := CT
  have hA : ∀ q, s.heap.size ≤ q → fA s q := fun _ h => h
  intro I J H locs ls V hP hD hS hl
  refine lv_aload_n S.1 S.2.1 dL_law_1536 rfl (lv_at hl 3 rfl) ?_
  refine R_cVl (As := []) (rest := []) S (c_X7_checksum (h11 := ps11) (hG := psG) (hR := hR) (b_checksum V)) gL_law_X7_checksum rfl yk_X7_checksum ⟨⟨(Nat.le_of_ble_eq_true rfl), (Nat.le_of_ble_eq_true rfl)⟩, rfl, rfl⟩ hK hP hD hS hX hA (ps11 0 (by decide)) (cF_o E _ _ 0) rfl rfl hl.1 rfl (Nat.le_of_ble_eq_true rfl) ⟨by show k ≤ 601024; omega, by show n ≤ 7293033; omega⟩ dL_law_1537 (fun v I1 J1 H locs hq hP hD hS => ?_)
  refine lv_aload_n S.1 S.2.1 dL_law_1540 rfl (lv_at hl 2 rfl) ?_
  refine R_cVl (As := []) (rest := [.long v]) S (c_X8_checksum (h12 := ps12) hq) gL_law_X8_checksum rfl yk_X8_checksum ⟨⟨(Nat.le_of_ble_eq_true rfl), (Nat.le_of_ble_eq_true rfl)⟩, rfl, rfl⟩ hK hP hD hS hX hA (ps12 0 (by decide)) (cF_m E _ _ 0) rfl rfl hl.1 rfl (Nat.le_of_ble_eq_true rfl) ⟨by show k ≤ 601024; omega, by show n ≤ 7293033; omega⟩ dL_law_1541 (fun w I2 J2 H locs hq hP hD hS => ?_)
  obtain ⟨ew, hqI⟩ := hq
  refine W.lcmp S.1 S.2.1 dL_law_1544 ?_
  refine lv_if_eq (tgt := 1550) S.1 S.2.1 dL_law_1545 (by decide) (fun _ => ?_) (fun h9 => absurd ((lg_eq0 _ _).mpr ew) h9)
  refine W.widen (k := k + 4) (n := n + 24) (Nat.le_add_right _ _) (Nat.le_add_right _ _) ?_
  exact nx _ _ _ _ _ hqI hP hD hS (lv_sub hl [0, 1, 2, 3, 4] rfl)
