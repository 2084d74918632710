set_option maxRecDepth 100000 in
set_option maxHeartbeats 4000000 in
theorem lw_append {p : Program} {l : Launch} {e : Env} {s : State} {m : MethodId} {below : List Frame} {meth : Method} {c : Code} {b L : Nat} {xs : Nat → Int32} {E : EV} (CT : LCx p l s m meth c b L xs E) {i k n : Nat} (hi : i + 5 < L) (hL : L ≤ 3072) (hk : k + 4 ≤ 601024) (hn : n + 24 ≤ 7293033) (nx : LSx p l e s m below meth c b E 1550 (k + 4) (n + 24) [(4, .int (nI i)), (3, .ref (eA E 13 0)), (2, .ref (eA E 12 0)), (1, .ref (eA E 11 0)), (0, .ref b)]) : LSx p l e s m below meth c b E 160 k n [(4, .int (nI i)), (3, .ref (eA E 13 0)), (2, .ref (eA E 12 0)), (1, .ref (eA E 11 0)), (0, .ref b)] := by
  obtain ⟨S, hK, hX, hT, ⟨hR, hR3⟩, hscr, hbl, hr, hlk, hl9⟩ := CT
  have hA : ∀ q, s.heap.size ≤ q → fA s q := fun _ h => h
  intro I J H locs ls V hP hD hS hl
  refine lv_aload_n S.1 S.2.1 dL_law_160 rfl (lv_at hl 3 rfl) ?_
  refine L_arg (k := 1) S.1 S.2.1 hscr hbl hS (by omega) hL rfl hl (j0 := 4) (j4 := 0) rfl rfl dL_law_161 dL_law_162 dL_law_164 dL_law_165 dL_law_166 ?_
  refine L_arg (k := 2) S.1 S.2.1 hscr hbl hS (by omega) hL rfl hl (j0 := 4) (j4 := 0) rfl rfl dL_law_167 dL_law_168 dL_law_170 dL_law_171 dL_law_172 ?_
  refine L_arg (k := 3) S.1 S.2.1 hscr hbl hS (by omega) hL rfl hl (j0 := 4) (j4 := 0) rfl rfl dL_law_173 dL_law_174 dL_law_176 dL_law_177 dL_law_178 ?_
  refine L_arg (k := 4) S.1 S.2.1 hscr hbl hS (by omega) hL rfl hl (j0 := 4) (j4 := 0) rfl rfl dL_law_179 dL_law_180 dL_law_182 dL_law_183 dL_law_184 ?_
  refine L_arg (k := 5) S.1 S.2.1 hscr hbl hS (by omega) hL rfl hl (j0 := 4) (j4 := 0) rfl rfl dL_law_185 dL_law_186 dL_law_188 dL_law_189 dL_law_190 ?_
  refine R_cVi (As := [.int (xs (i + 1)), .int (xs (i + 2)), .int (xs (i + 3)), .int (xs (i + 4)), .int (xs (i + 5))]) (rest := []) S (c_X7_append (h11 := ps11) (hG := psG) (hR := hR) (b_append V)) gL_law_X7_append rfl yk_X7_append ⟨⟨(Nat.le_of_ble_eq_true rfl), (Nat.le_of_ble_eq_true rfl)⟩, rfl, rfl⟩ hK hP hD hS hX hA (ps11 0 (by decide)) (cF_o E _ _ 0) rfl rfl hl.1 rfl (Nat.le_of_ble_eq_true rfl) ⟨by show k ≤ 601024; omega, by show n ≤ 7293033; omega⟩ dL_law_191 (fun v I1 J1 H locs hq hP hD hS => ?_)
  refine lv_aload_n S.1 S.2.1 dL_law_194 rfl (lv_at hl 2 rfl) ?_
  refine L_arg (k := 1) S.1 S.2.1 hscr hbl hS (by omega) hL rfl hl (j0 := 4) (j4 := 0) rfl rfl dL_law_195 dL_law_196 dL_law_198 dL_law_199 dL_law_200 ?_
  refine L_arg (k := 2) S.1 S.2.1 hscr hbl hS (by omega) hL rfl hl (j0 := 4) (j4 := 0) rfl rfl dL_law_201 dL_law_202 dL_law_204 dL_law_205 dL_law_206 ?_
  refine L_arg (k := 3) S.1 S.2.1 hscr hbl hS (by omega) hL rfl hl (j0 := 4) (j4 := 0) rfl rfl dL_law_207 dL_law_208 dL_law_210 dL_law_211 dL_law_212 ?_
  refine L_arg (k := 4) S.1 S.2.1 hscr hbl hS (by omega) hL rfl hl (j0 := 4) (j4 := 0) rfl rfl dL_law_213 dL_law_214 dL_law_216 dL_law_217 dL_law_218 ?_
  refine L_arg (k := 5) S.1 S.2.1 hscr hbl hS (by omega) hL rfl hl (j0 := 4) (j4 := 0) rfl rfl dL_law_219 dL_law_220 dL_law_222 dL_law_223 dL_law_224 ?_
  refine R_cVi (As := [.int (xs (i + 1)), .int (xs (i + 2)), .int (xs (i + 3)), .int (xs (i + 4)), .int (xs (i + 5))]) (rest := [.int v]) S (c_X8_append (h12 := ps12) hq) gL_law_X8_append rfl yk_X8_append ⟨⟨(Nat.le_of_ble_eq_true rfl), (Nat.le_of_ble_eq_true rfl)⟩, rfl, rfl⟩ hK hP hD hS hX hA (ps12 0 (by decide)) (cF_m E _ _ 0) rfl rfl hl.1 rfl (Nat.le_of_ble_eq_true rfl) ⟨by show k ≤ 601024; omega, by show n ≤ 7293033; omega⟩ dL_law_225 (fun w I2 J2 H locs hq hP hD hS => ?_)
  obtain ⟨ew, hqI⟩ := hq
  refine lv_icmp_eq (tgt := 1550) S.1 S.2.1 dL_law_228 (by decide) (fun _ => ?_) (fun h9 => absurd ew h9)
  refine W.widen (k := k + 4) (n := n + 24) (Nat.le_add_right _ _) (Nat.le_add_right _ _) ?_
  exact nx _ _ _ _ _ hqI hP hD hS (lv_sub hl [0, 1, 2, 3, 4] rfl)
set_option maxRecDepth 100000 in
set_option maxHeartbeats 4000000 in
theorem lw_load {p : Program} {l : Launch} {e : Env} {s : State} {m : MethodId} {below : List Frame} {meth : Method} {c : Code} {b L : Nat} {xs : Nat → Int32} {E : EV} (CT : LCx p l s m meth c b L xs E) {i k n : Nat} (hi : i + 5 < L) (hL : L ≤ 3072) (hk : k + 4 ≤ 601024) (hn : n + 24 ≤ 7293033) (nx : LSx p l e s m below meth c b E 1550 (k + 4) (n + 24) [(4, .int (nI i)), (3, .ref (eA E 13 0)), (2, .ref (eA E 12 0)), (1, .ref (eA E 11 0)), (0, .ref b)]) : LSx p l e s m below meth c b E 233 k n [(4, .int (nI i)), (3, .ref (eA E 13 0)), (2, .ref (eA E 12 0)), (1, .ref (eA E 11 0)), (0, .ref b)] := by
  obtain ⟨S, hK, hX, hT, ⟨hR, hR3⟩, hscr, hbl, hr, hlk, hl9⟩ := CT
  have hA : ∀ q, s.heap.size ≤ q → fA s q := fun _ h => h
  intro I J H locs ls V hP hD hS hl
  refine lv_aload_n S.1 S.2.1 dL_law_233 rfl (lv_at hl 3 rfl) ?_
  refine L_arg (k := 1) S.1 S.2.1 hscr hbl hS (by omega) hL rfl hl (j0 := 4) (j4 := 0) rfl rfl dL_law_234 dL_law_235 dL_law_237 dL_law_238 dL_law_239 ?_
  refine lv_aload_n S.1 S.2.1 dL_law_240 rfl (lv_at hl 1 rfl) ?_
  refine R_lSi (As := [.ref (eA E 11 0), .int (xs (i + 1)), .ref (eA E 13 0)]) (rest := []) S (lc_load hl9 ps11 psG hR ps13 V) gL_law_L_load rfl yk_L_load ⟨rfl, rfl⟩ ⟨(Nat.le_of_ble_eq_true rfl), (Nat.le_of_ble_eq_true rfl)⟩ hK hP hD hS hX hT hA rfl hl.1 rfl (Nat.le_of_ble_eq_true rfl) ⟨by show k + 4 ≤ 601024; omega, by show n + 24 ≤ 7293033; omega⟩ dL_law_241 (fun v I1 J1 H locs hq hP hD hS => ?_)
  have hq : f_X8_load (xs (i + 1)) I1 J1 (POST v) := hq
  refine lv_istore (lv' := [(5, .int v), (4, .int (nI i)), (3, .ref (eA E 13 0)), (2, .ref (eA E 12 0)), (1, .ref (eA E 11 0)), (0, .ref b)]) S.1 S.2.1 dL_law_244 hl (by decide) rfl (fun ls hl => ?_)
  refine lv_aload_n S.1 S.2.1 dL_law_246 rfl (lv_at hl 3 rfl) ?_
  refine L_arg (k := 1) S.1 S.2.1 hscr hbl hS (by omega) hL rfl hl (j0 := 5) (j4 := 1) rfl rfl dL_law_247 dL_law_248 dL_law_250 dL_law_251 dL_law_252 ?_
  refine R_cVi (As := [.int (xs (i + 1))]) (rest := []) S (c_X8_load (h12 := ps12) (hR := hR3) hq) gL_law_X8_load rfl yk_X8_load ⟨⟨(Nat.le_of_ble_eq_true rfl), (Nat.le_of_ble_eq_true rfl)⟩, rfl, rfl⟩ hK hP hD hS hX hA (ps12 0 (by decide)) (cF_m E _ _ 0) rfl rfl hl.1 rfl (Nat.le_of_ble_eq_true rfl) ⟨by show k + 4 ≤ 601024; omega, by show n + 24 ≤ 7293033; omega⟩ dL_law_253 (fun w I2 J2 H locs hq hP hD hS => ?_)
  obtain ⟨hq1, hq2, hqI⟩ := hq
  refine lv_istore (lv' := [(6, .int w), (5, .int v), (4, .int (nI i)), (3, .ref (eA E 13 0)), (2, .ref (eA E 12 0)), (1, .ref (eA E 11 0)), (0, .ref b)]) S.1 S.2.1 dL_law_256 hl (by decide) rfl (fun ls hl => ?_)
  refine lv_aload_n S.1 S.2.1 dL_law_258 rfl (lv_at hl 4 rfl) ?_
  refine R_cVi (As := []) (rest := []) S (c_X8_thrown (Q := fun t I3 J3 => t = I2 12 0 0 ∧ I3 = I2 ∧ J3 = J2) (h12 := ps12) ⟨rfl, rfl, rfl⟩) gL_law_X8_thrown rfl yk_X8_thrown ⟨⟨(Nat.le_of_ble_eq_true rfl), (Nat.le_of_ble_eq_true rfl)⟩, rfl, rfl⟩ hK hP hD hS hX hA (ps12 0 (by decide)) (cF_m E _ _ 0) rfl rfl hl.1 rfl (Nat.le_of_ble_eq_true rfl) ⟨by show k + 4 ≤ 601024; omega, by show n + 24 ≤ 7293033; omega⟩ dL_law_259 (fun t I3 J3 H locs hq3 hPn hDn hS => ?_)
  obtain ⟨et, eI3, eJ3⟩ := hq3
  subst eI3 eJ3
  have hP := hPn
  have hD := hDn
  clear hPn hDn
  refine lv_iload S.1 S.2.1 dL_law_262 (lv_at hl 1 rfl) ?_
  refine lv_icmp_eq (tgt := 269) S.1 S.2.1 dL_law_264 (by decide) (fun _ => ?_) (fun h => absurd (et.trans hq1) h)
  refine lv_iload S.1 S.2.1 dL_law_269 (lv_at hl 1 rfl) ?_
  refine lv_if_ne (tgt := 286) S.1 S.2.1 dL_law_271 (by decide) (fun _ => ?_) (fun h => ?_)
  · refine lv_goto (tgt := 1550) S.1 S.2.1 dL_law_286 (by decide) ?_
    exact nx _ _ _ _ _ hqI hP hD hS (lv_sub hl [2, 3, 4, 5, 6] rfl)
  · refine lv_aload_n S.1 S.2.1 dL_law_274 rfl (lv_at hl 3 rfl) ?_
    refine lv_iconst (v := 0) S.1 S.2.1 dL_law_275 rfl ?_
    refine R_lald S.1 S.2.1 hK hP ps13 (n := 1) (fun _ _ => rfl) (vin 0 1 (by decide) (by decide) rfl) dL_law_276 ?_
    refine lv_iload S.1 S.2.1 dL_law_277 (lv_at hl 0 rfl) ?_
    refine lv_i2l S.1 S.2.1 dL_law_279 rfl ?_
    refine W.lcmp S.1 S.2.1 dL_law_280 ?_
    refine lv_if_eq (tgt := 286) S.1 S.2.1 dL_law_281 (by decide) (fun _ => ?_) (fun h9 => absurd ((lg_eq0 _ _).mpr (hq2 h)) h9)
    refine lv_goto (tgt := 1550) S.1 S.2.1 dL_law_286 (by decide) ?_
    exact nx _ _ _ _ _ hqI hP hD hS (lv_sub hl [2, 3, 4, 5, 6] rfl)
set_option maxRecDepth 100000 in
set_option maxHeartbeats 4000000 in
theorem lw_errorOffset {p : Program} {l : Launch} {e : Env} {s : State} {m : MethodId} {below : List Frame} {meth : Method} {c : Code} {b L : Nat} {xs : Nat → Int32} {E : EV} (CT : LCx p l s m meth c b L xs E) {i k n : Nat} (hi : i + 5 < L) (hL : L ≤ 3072) (hk : k + 4 ≤ 601024) (hn : n + 24 ≤ 7293033) (nx : LSx p l e s m below meth c b E 1550 (k + 4) (n + 24) [(4, .int (nI i)), (3, .ref (eA E 13 0)), (2, .ref (eA E 12 0)), (1, .ref (eA E 11 0)), (0, .ref b)]) : LSx p l e s m below meth c b E 289 k n [(4, .int (nI i)), (3, .ref (eA E 13 0)), (2, .ref (eA E 12 0)), (1, .ref (eA E 11 0)), (0, .ref b)] := by
  obtain ⟨S, hK, hX, hT, ⟨hR, hR3⟩, hscr, hbl, hr, hlk, hl9⟩ := CT
  have hA : ∀ q, s.heap.size ≤ q → fA s q := fun _ h => h
  intro I J H locs ls V hP hD hS hl
  refine lv_aload_n S.1 S.2.1 dL_law_289 rfl (lv_at hl 3 rfl) ?_
  refine R_cVi (As := []) (rest := []) S (c_X7_errorOffset (h11 := ps11) (hG := psG) (hR := hR) (b_errorOffset V)) gL_law_X7_errorOffset rfl yk_X7_errorOffset ⟨⟨(Nat.le_of_ble_eq_true rfl), (Nat.le_of_ble_eq_true rfl)⟩, rfl, rfl⟩ hK hP hD hS hX hA (ps11 0 (by decide)) (cF_o E _ _ 0) rfl rfl hl.1 rfl (Nat.le_of_ble_eq_true rfl) ⟨by show k ≤ 601024; omega, by show n ≤ 7293033; omega⟩ dL_law_290 (fun v I1 J1 H locs hq hP hD hS => ?_)
  refine lv_aload_n S.1 S.2.1 dL_law_293 rfl (lv_at hl 2 rfl) ?_
  refine R_cVi (As := []) (rest := [.int v]) S (c_X8_errorOffset (h12 := ps12) hq) gL_law_X8_errorOffset rfl yk_X8_errorOffset ⟨⟨(Nat.le_of_ble_eq_true rfl), (Nat.le_of_ble_eq_true rfl)⟩, rfl, rfl⟩ hK hP hD hS hX hA (ps12 0 (by decide)) (cF_m E _ _ 0) rfl rfl hl.1 rfl (Nat.le_of_ble_eq_true rfl) ⟨by show k ≤ 601024; omega, by show n ≤ 7293033; omega⟩ dL_law_294 (fun w I2 J2 H locs hq hP hD hS => ?_)
  obtain ⟨ew, hqI⟩ := hq
  refine lv_icmp_eq (tgt := 1550) S.1 S.2.1 dL_law_297 (by decide) (fun _ => ?_) (fun h9 => absurd ew h9)
  refine W.widen (k := k + 4) (n := n + 24) (Nat.le_add_right _ _) (Nat.le_add_right _ _) ?_
  exact nx _ _ _ _ _ hqI hP hD hS (lv_sub hl [0, 1, 2, 3, 4] rfl)
set_option maxRecDepth 100000 in
set_option maxHeartbeats 4000000 in
theorem lw_state {p : Program} {l : Launch} {e : Env} {s : State} {m : MethodId} {below : List Frame} {meth : Method} {c : Code} {b L : Nat} {xs : Nat → Int32} {E : EV} (CT : LCx p l s m meth c b L xs E) {i k n : Nat} (hi : i + 5 < L) (hL : L ≤ 3072) (hk : k + 4 ≤ 601024) (hn : n + 24 ≤ 7293033) (nx : LSx p l e s m below meth c b E 1550 (k + 4) (n + 24) [(4, .int (nI i)), (3, .ref (eA E 13 0)), (2, .ref (eA E 12 0)), (1, .ref (eA E 11 0)), (0, .ref b)]) : LSx p l e s m below meth c b E 302 k n [(4, .int (nI i)), (3, .ref (eA E 13 0)), (2, .ref (eA E 12 0)), (1, .ref (eA E 11 0)), (0, .ref b)] := by
  obtain ⟨S, hK, hX, hT, ⟨hR, hR3⟩, hscr, hbl, hr, hlk, hl9⟩ := CT
  have hA : ∀ q, s.heap.size ≤ q → fA s q := fun _ h => h
  intro I J H locs ls V hP hD hS hl
  refine lv_aload_n S.1 S.2.1 dL_law_302 rfl (lv_at hl 3 rfl) ?_
  refine L_arg (k := 1) S.1 S.2.1 hscr hbl hS (by omega) hL rfl hl (j0 := 4) (j4 := 0) rfl rfl dL_law_303 dL_law_304 dL_law_306 dL_law_307 dL_law_308 ?_
  refine lv_aload_n S.1 S.2.1 dL_law_309 rfl (lv_at hl 1 rfl) ?_
  refine R_lSi (As := [.ref (eA E 11 0), .int (xs (i + 1)), .ref (eA E 13 0)]) (rest := []) S (lc_state hl9 ps11 psG hR ps13 V) gL_law_L_state rfl yk_L_state ⟨rfl, rfl⟩ ⟨(Nat.le_of_ble_eq_true rfl), (Nat.le_of_ble_eq_true rfl)⟩ hK hP hD hS hX hT hA rfl hl.1 rfl (Nat.le_of_ble_eq_true rfl) ⟨by show k + 4 ≤ 601024; omega, by show n + 24 ≤ 7293033; omega⟩ dL_law_310 (fun v I1 J1 H locs hq hP hD hS => ?_)
  have hq : f_X8_state (xs (i + 1)) I1 J1 (POST v) := hq
  refine lv_istore (lv' := [(5, .int v), (4, .int (nI i)), (3, .ref (eA E 13 0)), (2, .ref (eA E 12 0)), (1, .ref (eA E 11 0)), (0, .ref b)]) S.1 S.2.1 dL_law_313 hl (by decide) rfl (fun ls hl => ?_)
  refine lv_aload_n S.1 S.2.1 dL_law_315 rfl (lv_at hl 3 rfl) ?_
  refine L_arg (k := 1) S.1 S.2.1 hscr hbl hS (by omega) hL rfl hl (j0 := 5) (j4 := 1) rfl rfl dL_law_316 dL_law_317 dL_law_319 dL_law_320 dL_law_321 ?_
  refine R_cVi (As := [.int (xs (i + 1))]) (rest := []) S (c_X8_state (h12 := ps12) hq) gL_law_X8_state rfl yk_X8_state ⟨⟨(Nat.le_of_ble_eq_true rfl), (Nat.le_of_ble_eq_true rfl)⟩, rfl, rfl⟩ hK hP hD hS hX hA (ps12 0 (by decide)) (cF_m E _ _ 0) rfl rfl hl.1 rfl (Nat.le_of_ble_eq_true rfl) ⟨by show k + 4 ≤ 601024; omega, by show n + 24 ≤ 7293033; omega⟩ dL_law_322 (fun w I2 J2 H locs hq hP hD hS => ?_)
  obtain ⟨hq1, hq2, hqI⟩ := hq
  refine lv_istore (lv' := [(6, .int w), (5, .int v), (4, .int (nI i)), (3, .ref (eA E 13 0)), (2, .ref (eA E 12 0)), (1, .ref (eA E 11 0)), (0, .ref b)]) S.1 S.2.1 dL_law_325 hl (by decide) rfl (fun ls hl => ?_)
  refine lv_aload_n S.1 S.2.1 dL_law_327 rfl (lv_at hl 4 rfl) ?_
  refine R_cVi (As := []) (rest := []) S (c_X8_thrown (Q := fun t I3 J3 => t = I2 12 0 0 ∧ I3 = I2 ∧ J3 = J2) (h12 := ps12) ⟨rfl, rfl, rfl⟩) gL_law_X8_thrown rfl yk_X8_thrown ⟨⟨(Nat.le_of_ble_eq_true rfl), (Nat.le_of_ble_eq_true rfl)⟩, rfl, rfl⟩ hK hP hD hS hX hA (ps12 0 (by decide)) (cF_m E _ _ 0) rfl rfl hl.1 rfl (Nat.le_of_ble_eq_true rfl) ⟨by show k + 4 ≤ 601024; omega, by show n + 24 ≤ 7293033; omega⟩ dL_law_328 (fun t I3 J3 H locs hq3 hPn hDn hS => ?_)
  obtain ⟨et, eI3, eJ3⟩ := hq3
  subst eI3 eJ3
  have hP := hPn
  have hD := hDn
  clear hPn hDn
  refine lv_iload S.1 S.2.1 dL_law_331 (lv_at hl 1 rfl) ?_
  refine lv_icmp_eq (tgt := 338) S.1 S.2.1 dL_law_333 (by decide) (fun _ => ?_) (fun h => absurd (et.trans hq1) h)
  refine lv_iload S.1 S.2.1 dL_law_338 (lv_at hl 1 rfl) ?_
  refine lv_if_ne (tgt := 355) S.1 S.2.1 dL_law_340 (by decide) (fun _ => ?_) (fun h => ?_)
  · refine lv_goto (tgt := 1550) S.1 S.2.1 dL_law_355 (by decide) ?_
    exact nx _ _ _ _ _ hqI hP hD hS (lv_sub hl [2, 3, 4, 5, 6] rfl)
  · refine lv_aload_n S.1 S.2.1 dL_law_343 rfl (lv_at hl 3 rfl) ?_
    refine lv_iconst (v := 0) S.1 S.2.1 dL_law_344 rfl ?_
    refine R_lald S.1 S.2.1 hK hP ps13 (n := 1) (fun _ _ => rfl) (vin 0 1 (by decide) (by decide) rfl) dL_law_345 ?_
    refine lv_iload S.1 S.2.1 dL_law_346 (lv_at hl 0 rfl) ?_
    refine lv_i2l S.1 S.2.1 dL_law_348 rfl ?_
    refine W.lcmp S.1 S.2.1 dL_law_349 ?_
    refine lv_if_eq (tgt := 355) S.1 S.2.1 dL_law_350 (by decide) (fun _ => ?_) (fun h9 => absurd ((lg_eq0 _ _).mpr (hq2 h)) h9)
    refine lv_goto (tgt := 1550) S.1 S.2.1 dL_law_355 (by decide) ?_
    exact nx _ _ _ _ _ hqI hP hD hS (lv_sub hl [2, 3, 4, 5, 6] rfl)
set_option maxRecDepth 100000 in
set_option maxHeartbeats 4000000 in
theorem lw_row {p : Program} {l : Launch} {e : Env} {s : State} {m : MethodId} {below : List Frame} {meth : Method} {c : Code} {b L : Nat} {xs : Nat → Int32} {E : EV} (CT : LCx p l s m meth c b L xs E) {i k n : Nat} (hi : i + 5 < L) (hL : L ≤ 3072) (hk : k + 4 ≤ 601024) (hn : n + 24 ≤ 7293033) (nx : LSx p l e s m below meth c b E 1550 (k + 4) (n + 24) [(4, .int (nI i)), (3, .ref (eA E 13 0)), (2, .ref (eA E 12 0)), (1, .ref (eA E 11 0)), (0, .ref b)]) : LSx p l e s m below meth c b E 358 k n [(4, .int (nI i)), (3, .ref (eA E 13 0)), (2, .ref (eA E 12 0)), (1, .ref (eA E 11 0)), (0, .ref b)] := by
  obtain ⟨S, hK, hX, hT, ⟨hR, hR3⟩, hscr, hbl, hr, hlk, hl9⟩ := CT
  have hA : ∀ q, s.heap.size ≤ q → fA s q := fun _ h => h
  intro I J H locs ls V hP hD hS hl
  refine lv_aload_n S.1 S.2.1 dL_law_358 rfl (lv_at hl 3 rfl) ?_
  refine L_arg (k := 1) S.1 S.2.1 hscr hbl hS (by omega) hL rfl hl (j0 := 4) (j4 := 0) rfl rfl dL_law_359 dL_law_360 dL_law_362 dL_law_363 dL_law_364 ?_
  refine L_arg (k := 2) S.1 S.2.1 hscr hbl hS (by omega) hL rfl hl (j0 := 4) (j4 := 0) rfl rfl dL_law_365 dL_law_366 dL_law_368 dL_law_369 dL_law_370 ?_
  refine lv_aload_n S.1 S.2.1 dL_law_371 rfl (lv_at hl 1 rfl) ?_
  refine R_lSi (As := [.ref (eA E 11 0), .int (xs (i + 1)), .int (xs (i + 2)), .ref (eA E 13 0)]) (rest := []) S (lc_row hl9 ps11 psG hR ps13 V) gL_law_L_row rfl yk_L_row ⟨rfl, rfl⟩ ⟨(Nat.le_of_ble_eq_true rfl), (Nat.le_of_ble_eq_true rfl)⟩ hK hP hD hS hX hT hA rfl hl.1 rfl (Nat.le_of_ble_eq_true rfl) ⟨by show k + 4 ≤ 601024; omega, by show n + 24 ≤ 7293033; omega⟩ dL_law_372 (fun v I1 J1 H locs hq hP hD hS => ?_)
  have hq : f_X8_row (xs (i + 1)) (xs (i + 2)) I1 J1 (POST v) := hq
  refine lv_istore (lv' := [(5, .int v), (4, .int (nI i)), (3, .ref (eA E 13 0)), (2, .ref (eA E 12 0)), (1, .ref (eA E 11 0)), (0, .ref b)]) S.1 S.2.1 dL_law_375 hl (by decide) rfl (fun ls hl => ?_)
  refine lv_aload_n S.1 S.2.1 dL_law_377 rfl (lv_at hl 3 rfl) ?_
  refine L_arg (k := 1) S.1 S.2.1 hscr hbl hS (by omega) hL rfl hl (j0 := 5) (j4 := 1) rfl rfl dL_law_378 dL_law_379 dL_law_381 dL_law_382 dL_law_383 ?_
  refine L_arg (k := 2) S.1 S.2.1 hscr hbl hS (by omega) hL rfl hl (j0 := 5) (j4 := 1) rfl rfl dL_law_384 dL_law_385 dL_law_387 dL_law_388 dL_law_389 ?_
  refine R_cVi (As := [.int (xs (i + 1)), .int (xs (i + 2))]) (rest := []) S (c_X8_row (h12 := ps12) hq) gL_law_X8_row rfl yk_X8_row ⟨⟨(Nat.le_of_ble_eq_true rfl), (Nat.le_of_ble_eq_true rfl)⟩, rfl, rfl⟩ hK hP hD hS hX hA (ps12 0 (by decide)) (cF_m E _ _ 0) rfl rfl hl.1 rfl (Nat.le_of_ble_eq_true rfl) ⟨by show k + 4 ≤ 601024; omega, by show n + 24 ≤ 7293033; omega⟩ dL_law_390 (fun w I2 J2 H locs hq hP hD hS => ?_)
  obtain ⟨hq1, hq2, hqI⟩ := hq
  refine lv_istore (lv' := [(6, .int w), (5, .int v), (4, .int (nI i)), (3, .ref (eA E 13 0)), (2, .ref (eA E 12 0)), (1, .ref (eA E 11 0)), (0, .ref b)]) S.1 S.2.1 dL_law_393 hl (by decide) rfl (fun ls hl => ?_)
  refine lv_aload_n S.1 S.2.1 dL_law_395 rfl (lv_at hl 4 rfl) ?_
  refine R_cVi (As := []) (rest := []) S (c_X8_thrown (Q := fun t I3 J3 => t = I2 12 0 0 ∧ I3 = I2 ∧ J3 = J2) (h12 := ps12) ⟨rfl, rfl, rfl⟩) gL_law_X8_thrown rfl yk_X8_thrown ⟨⟨(Nat.le_of_ble_eq_true rfl), (Nat.le_of_ble_eq_true rfl)⟩, rfl, rfl⟩ hK hP hD hS hX hA (ps12 0 (by decide)) (cF_m E _ _ 0) rfl rfl hl.1 rfl (Nat.le_of_ble_eq_true rfl) ⟨by show k + 4 ≤ 601024; omega, by show n + 24 ≤ 7293033; omega⟩ dL_law_396 (fun t I3 J3 H locs hq3 hPn hDn hS => ?_)
  obtain ⟨et, eI3, eJ3⟩ := hq3
  subst eI3 eJ3
  have hP := hPn
  have hD := hDn
  clear hPn hDn
  refine lv_iload S.1 S.2.1 dL_law_399 (lv_at hl 1 rfl) ?_
  refine lv_icmp_eq (tgt := 406) S.1 S.2.1 dL_law_401 (by decide) (fun _ => ?_) (fun h => absurd (et.trans hq1) h)
  refine lv_iload S.1 S.2.1 dL_law_406 (lv_at hl 1 rfl) ?_
  refine lv_if_ne (tgt := 423) S.1 S.2.1 dL_law_408 (by decide) (fun _ => ?_) (fun h => ?_)
  · refine lv_goto (tgt := 1550) S.1 S.2.1 dL_law_423 (by decide) ?_
    exact nx _ _ _ _ _ hqI hP hD hS (lv_sub hl [2, 3, 4, 5, 6] rfl)
  · refine lv_aload_n S.1 S.2.1 dL_law_411 rfl (lv_at hl 3 rfl) ?_
    refine lv_iconst (v := 0) S.1 S.2.1 dL_law_412 rfl ?_
    refine R_lald S.1 S.2.1 hK hP ps13 (n := 1) (fun _ _ => rfl) (vin 0 1 (by decide) (by decide) rfl) dL_law_413 ?_
    refine lv_iload S.1 S.2.1 dL_law_414 (lv_at hl 0 rfl) ?_
    refine lv_i2l S.1 S.2.1 dL_law_416 rfl ?_
    refine W.lcmp S.1 S.2.1 dL_law_417 ?_
    refine lv_if_eq (tgt := 423) S.1 S.2.1 dL_law_418 (by decide) (fun _ => ?_) (fun h9 => absurd ((lg_eq0 _ _).mpr (hq2 h)) h9)
    refine lv_goto (tgt := 1550) S.1 S.2.1 dL_law_423 (by decide) ?_
    exact nx _ _ _ _ _ hqI hP hD hS (lv_sub hl [2, 3, 4, 5, 6] rfl)
set_option maxRecDepth 100000 in
set_option maxHeartbeats 4000000 in
theorem lw_tile {p : Program} {l : Launch} {e : Env} {s : State} {m : MethodId} {below : List Frame} {meth : Method} {c : Code} {b L : Nat} {xs : Nat → Int32} {E : EV} (CT : LCx p l s m meth c b L xs E) {i k n : Nat} (hi : i + 5 < L) (hL : L ≤ 3072) (hk : k + 4 ≤ 601024) (hn : n + 24 ≤ 7293033) (nx : LSx p l e s m below meth c b E 1550 (k + 4) (n + 24) [(4, .int (nI i)), (3, .ref (eA E 13 0)), (2, .ref (eA E 12 0)), (1, .ref (eA E 11 0)), (0, .ref b)]) : LSx p l e s m below meth c b E 426 k n [(4, .int (nI i)), (3, .ref (eA E 13 0)), (2, .ref (eA E 12 0)), (1, .ref (eA E 11 0)), (0, .ref b)] := by
  obtain ⟨S, hK, hX, hT, ⟨hR, hR3⟩, hscr, hbl, hr, hlk, hl9⟩ := CT
  have hA : ∀ q, s.heap.size ≤ q → fA s q := fun _ h => h
  intro I J H locs ls V hP hD hS hl
  refine lv_aload_n S.1 S.2.1 dL_law_426 rfl (lv_at hl 3 rfl) ?_
  refine L_arg (k := 1) S.1 S.2.1 hscr hbl hS (by omega) hL rfl hl (j0 := 4) (j4 := 0) rfl rfl dL_law_427 dL_law_428 dL_law_430 dL_law_431 dL_law_432 ?_
  refine L_arg (k := 2) S.1 S.2.1 hscr hbl hS (by omega) hL rfl hl (j0 := 4) (j4 := 0) rfl rfl dL_law_433 dL_law_434 dL_law_436 dL_law_437 dL_law_438 ?_
  refine lv_aload_n S.1 S.2.1 dL_law_439 rfl (lv_at hl 1 rfl) ?_
  refine R_lSi (As := [.ref (eA E 11 0), .int (xs (i + 1)), .int (xs (i + 2)), .ref (eA E 13 0)]) (rest := []) S (lc_tile hl9 ps11 psG hR ps13 V) gL_law_L_tile rfl yk_L_tile ⟨rfl, rfl⟩ ⟨(Nat.le_of_ble_eq_true rfl), (Nat.le_of_ble_eq_true rfl)⟩ hK hP hD hS hX hT hA rfl hl.1 rfl (Nat.le_of_ble_eq_true rfl) ⟨by show k + 4 ≤ 601024; omega, by show n + 24 ≤ 7293033; omega⟩ dL_law_440 (fun v I1 J1 H locs hq hP hD hS => ?_)
  have hq : f_X8_tile (xs (i + 1)) (xs (i + 2)) I1 J1 (POST v) := hq
  refine lv_istore (lv' := [(5, .int v), (4, .int (nI i)), (3, .ref (eA E 13 0)), (2, .ref (eA E 12 0)), (1, .ref (eA E 11 0)), (0, .ref b)]) S.1 S.2.1 dL_law_443 hl (by decide) rfl (fun ls hl => ?_)
  refine lv_aload_n S.1 S.2.1 dL_law_445 rfl (lv_at hl 3 rfl) ?_
  refine L_arg (k := 1) S.1 S.2.1 hscr hbl hS (by omega) hL rfl hl (j0 := 5) (j4 := 1) rfl rfl dL_law_446 dL_law_447 dL_law_449 dL_law_450 dL_law_451 ?_
  refine L_arg (k := 2) S.1 S.2.1 hscr hbl hS (by omega) hL rfl hl (j0 := 5) (j4 := 1) rfl rfl dL_law_452 dL_law_453 dL_law_455 dL_law_456 dL_law_457 ?_
  refine R_cVi (As := [.int (xs (i + 1)), .int (xs (i + 2))]) (rest := []) S (c_X8_tile (h12 := ps12) hq) gL_law_X8_tile rfl yk_X8_tile ⟨⟨(Nat.le_of_ble_eq_true rfl), (Nat.le_of_ble_eq_true rfl)⟩, rfl, rfl⟩ hK hP hD hS hX hA (ps12 0 (by decide)) (cF_m E _ _ 0) rfl rfl hl.1 rfl (Nat.le_of_ble_eq_true rfl) ⟨by show k + 4 ≤ 601024; omega, by show n + 24 ≤ 7293033; omega⟩ dL_law_458 (fun w I2 J2 H locs hq hP hD hS => ?_)
  obtain ⟨hq1, hq2, hqI⟩ := hq
  refine lv_istore (lv' := [(6, .int w), (5, .int v), (4, .int (nI i)), (3, .ref (eA E 13 0)), (2, .ref (eA E 12 0)), (1, .ref (eA E 11 0)), (0, .ref b)]) S.1 S.2.1 dL_law_461 hl (by decide) rfl (fun ls hl => ?_)
  refine lv_aload_n S.1 S.2.1 dL_law_463 rfl (lv_at hl 4 rfl) ?_
  refine R_cVi (As := []) (rest := []) S (c_X8_thrown (Q := fun t I3 J3 => t = I2 12 0 0 ∧ I3 = I2 ∧ J3 = J2) (h12 := ps12) ⟨rfl, rfl, rfl⟩) gL_law_X8_thrown rfl yk_X8_thrown ⟨⟨(Nat.le_of_ble_eq_true rfl), (Nat.le_of_ble_eq_true rfl)⟩, rfl, rfl⟩ hK hP hD hS hX hA (ps12 0 (by decide)) (cF_m E _ _ 0) rfl rfl hl.1 rfl (Nat.le_of_ble_eq_true rfl) ⟨by show k + 4 ≤ 601024; omega, by show n + 24 ≤ 7293033; omega⟩ dL_law_464 (fun t I3 J3 H locs hq3 hPn hDn hS => ?_)
  obtain ⟨et, eI3, eJ3⟩ := hq3
  subst eI3 eJ3
  have hP := hPn
  have hD := hDn
  clear hPn hDn
  refine lv_iload S.1 S.2.1 dL_law_467 (lv_at hl 1 rfl) ?_
  refine lv_icmp_eq (tgt := 474) S.1 S.2.1 dL_law_469 (by decide) (fun _ => ?_) (fun h => absurd (et.trans hq1) h)
  refine lv_iload S.1 S.2.1 dL_law_474 (lv_at hl 1 rfl) ?_
  refine lv_if_ne (tgt := 491) S.1 S.2.1 dL_law_476 (by decide) (fun _ => ?_) (fun h => ?_)
  · refine lv_goto (tgt := 1550) S.1 S.2.1 dL_law_491 (by decide) ?_
    exact nx _ _ _ _ _ hqI hP hD hS (lv_sub hl [2, 3, 4, 5, 6] rfl)
  · refine lv_aload_n S.1 S.2.1 dL_law_479 rfl (lv_at hl 3 rfl) ?_
    refine lv_iconst (v := 0) S.1 S.2.1 dL_law_480 rfl ?_
    refine R_lald S.1 S.2.1 hK hP ps13 (n := 1) (fun _ _ => rfl) (vin 0 1 (by decide) (by decide) rfl) dL_law_481 ?_
    refine lv_iload S.1 S.2.1 dL_law_482 (lv_at hl 0 rfl) ?_
    refine lv_i2l S.1 S.2.1 dL_law_484 rfl ?_
    refine W.lcmp S.1 S.2.1 dL_law_485 ?_
    refine lv_if_eq (tgt := 491) S.1 S.2.1 dL_law_486 (by decide) (fun _ => ?_) (fun h9 => absurd ((lg_eq0 _ _).mpr (hq2 h)) h9)
    refine lv_goto (tgt := 1550) S.1 S.2.1 dL_law_491 (by decide) ?_
    exact nx _ _ _ _ _ hqI hP hD hS (lv_sub hl [2, 3, 4, 5, 6] rfl)
set_option maxRecDepth 100000 in
set_option maxHeartbeats 4000000 in
theorem lw_player {p : Program} {l : Launch} {e : Env} {s : State} {m : MethodId} {below : List Frame} {meth : Method} {c : Code} {b L : Nat} {xs : Nat → Int32} {E : EV} (CT : LCx p l s m meth c b L xs E) {i k n : Nat} (hi : i + 5 < L) (hL : L ≤ 3072) (hk : k + 4 ≤ 601024) (hn : n + 24 ≤ 7293033) (nx : LSx p l e s m below meth c b E 1550 (k + 4) (n + 24) [(4, .int (nI i)), (3, .ref (eA E 13 0)), (2, .ref (eA E 12 0)), (1, .ref (eA E 11 0)), (0, .ref b)]) : LSx p l e s m below meth c b E 494 k n [(4, .int (nI i)), (3, .ref (eA E 13 0)), (2, .ref (eA E 12 0)), (1, .ref (eA E 11 0)), (0, .ref b)] := by
  obtain ⟨S, hK, hX, hT, ⟨hR, hR3⟩, hscr, hbl, hr, hlk, hl9⟩ := CT
  have hA : ∀ q, s.heap.size ≤ q → fA s q := fun _ h => h
  intro I J H locs ls V hP hD hS hl
  refine lv_aload_n S.1 S.2.1 dL_law_494 rfl (lv_at hl 3 rfl) ?_
  refine L_arg (k := 1) S.1 S.2.1 hscr hbl hS (by omega) hL rfl hl (j0 := 4) (j4 := 0) rfl rfl dL_law_495 dL_law_496 dL_law_498 dL_law_499 dL_law_500 ?_
  refine L_arg (k := 2) S.1 S.2.1 hscr hbl hS (by omega) hL rfl hl (j0 := 4) (j4 := 0) rfl rfl dL_law_501 dL_law_502 dL_law_504 dL_law_505 dL_law_506 ?_
  refine lv_aload_n S.1 S.2.1 dL_law_507 rfl (lv_at hl 1 rfl) ?_
  refine R_lSi (As := [.ref (eA E 11 0), .int (xs (i + 1)), .int (xs (i + 2)), .ref (eA E 13 0)]) (rest := []) S (lc_player hl9 ps11 psG hR ps13 V) gL_law_L_player rfl yk_L_player ⟨rfl, rfl⟩ ⟨(Nat.le_of_ble_eq_true rfl), (Nat.le_of_ble_eq_true rfl)⟩ hK hP hD hS hX hT hA rfl hl.1 rfl (Nat.le_of_ble_eq_true rfl) ⟨by show k + 4 ≤ 601024; omega, by show n + 24 ≤ 7293033; omega⟩ dL_law_508 (fun v I1 J1 H locs hq hP hD hS => ?_)
  have hq : f_X8_player (xs (i + 1)) (xs (i + 2)) I1 J1 (POST v) := hq
  refine lv_istore (lv' := [(5, .int v), (4, .int (nI i)), (3, .ref (eA E 13 0)), (2, .ref (eA E 12 0)), (1, .ref (eA E 11 0)), (0, .ref b)]) S.1 S.2.1 dL_law_511 hl (by decide) rfl (fun ls hl => ?_)
  refine lv_aload_n S.1 S.2.1 dL_law_513 rfl (lv_at hl 3 rfl) ?_
  refine L_arg (k := 1) S.1 S.2.1 hscr hbl hS (by omega) hL rfl hl (j0 := 5) (j4 := 1) rfl rfl dL_law_514 dL_law_515 dL_law_517 dL_law_518 dL_law_519 ?_
  refine L_arg (k := 2) S.1 S.2.1 hscr hbl hS (by omega) hL rfl hl (j0 := 5) (j4 := 1) rfl rfl dL_law_520 dL_law_521 dL_law_523 dL_law_524 dL_law_525 ?_
  refine R_cVi (As := [.int (xs (i + 1)), .int (xs (i + 2))]) (rest := []) S (c_X8_player (h12 := ps12) hq) gL_law_X8_player rfl yk_X8_player ⟨⟨(Nat.le_of_ble_eq_true rfl), (Nat.le_of_ble_eq_true rfl)⟩, rfl, rfl⟩ hK hP hD hS hX hA (ps12 0 (by decide)) (cF_m E _ _ 0) rfl rfl hl.1 rfl (Nat.le_of_ble_eq_true rfl) ⟨by show k + 4 ≤ 601024; omega, by show n + 24 ≤ 7293033; omega⟩ dL_law_526 (fun w I2 J2 H locs hq hP hD hS => ?_)
  obtain ⟨hq1, hq2, hqI⟩ := hq
  refine lv_istore (lv' := [(6, .int w), (5, .int v), (4, .int (nI i)), (3, .ref (eA E 13 0)), (2, .ref (eA E 12 0)), (1, .ref (eA E 11 0)), (0, .ref b)]) S.1 S.2.1 dL_law_529 hl (by decide) rfl (fun ls hl => ?_)
  refine lv_aload_n S.1 S.2.1 dL_law_531 rfl (lv_at hl 4 rfl) ?_
  refine R_cVi (As := []) (rest := []) S (c_X8_thrown (Q := fun t I3 J3 => t = I2 12 0 0 ∧ I3 = I2 ∧ J3 = J2) (h12 := ps12) ⟨rfl, rfl, rfl⟩) gL_law_X8_thrown rfl yk_X8_thrown ⟨⟨(Nat.le_of_ble_eq_true rfl), (Nat.le_of_ble_eq_true rfl)⟩, rfl, rfl⟩ hK hP hD hS hX hA (ps12 0 (by decide)) (cF_m E _ _ 0) rfl rfl hl.1 rfl (Nat.le_of_ble_eq_true rfl) ⟨by show k + 4 ≤ 601024; omega, by show n + 24 ≤ 7293033; omega⟩ dL_law_532 (fun t I3 J3 H locs hq3 hPn hDn hS => ?_)
  obtain ⟨et, eI3, eJ3⟩ := hq3
  subst eI3 eJ3
  have hP := hPn
  have hD := hDn
  clear hPn hDn
  refine lv_iload S.1 S.2.1 dL_law_535 (lv_at hl 1 rfl) ?_
  refine lv_icmp_eq (tgt := 542) S.1 S.2.1 dL_law_537 (by decide) (fun _ => ?_) (fun h => absurd (et.trans hq1) h)
  refine lv_iload S.1 S.2.1 dL_law_542 (lv_at hl 1 rfl) ?_
  refine lv_if_ne (tgt := 559) S.1 S.2.1 dL_law_544 (by decide) (fun _ => ?_) (fun h => ?_)
  · refine lv_goto (tgt := 1550) S.1 S.2.1 dL_law_559 (by decide) ?_
    exact nx _ _ _ _ _ hqI hP hD hS (lv_sub hl [2, 3, 4, 5, 6] rfl)
  · refine lv_aload_n S.1 S.2.1 dL_law_547 rfl (lv_at hl 3 rfl) ?_
    refine lv_iconst (v := 0) S.1 S.2.1 dL_law_548 rfl ?_
    refine R_lald S.1 S.2.1 hK hP ps13 (n := 1) (fun _ _ => rfl) (vin 0 1 (by decide) (by decide) rfl) dL_law_549 ?_
    refine lv_iload S.1 S.2.1 dL_law_550 (lv_at hl 0 rfl) ?_
    refine lv_i2l S.1 S.2.1 dL_law_552 rfl ?_
    refine W.lcmp S.1 S.2.1 dL_law_553 ?_
    refine lv_if_eq (tgt := 559) S.1 S.2.1 dL_law_554 (by decide) (fun _ => ?_) (fun h9 => absurd ((lg_eq0 _ _).mpr (hq2 h)) h9)
    refine lv_goto (tgt := 1550) S.1 S.2.1 dL_law_559 (by decide) ?_
    exact nx _ _ _ _ _ hqI hP hD hS (lv_sub hl [2, 3, 4, 5, 6] rfl)
set_option maxRecDepth 100000 in
set_option maxHeartbeats 4000000 in
theorem lw_letter {p : Program} {l : Launch} {e : Env} {s : State} {m : MethodId} {below : List Frame} {meth : Method} {c : Code} {b L : Nat} {xs : Nat → Int32} {E : EV} (CT : LCx p l s m meth c b L xs E) {i k n : Nat} (hi : i + 5 < L) (hL : L ≤ 3072) (hk : k + 4 ≤ 601024) (hn : n + 24 ≤ 7293033) (nx : LSx p l e s m below meth c b E 1550 (k + 4) (n + 24) [(4, .int (nI i)), (3, .ref (eA E 13 0)), (2, .ref (eA E 12 0)), (1, .ref (eA E 11 0)), (0, .ref b)]) : LSx p l e s m below meth c b E 562 k n [(4, .int (nI i)), (3, .ref (eA E 13 0)), (2, .ref (eA E 12 0)), (1, .ref (eA E 11 0)), (0, .ref b)] := by
  obtain ⟨S, hK, hX, hT, ⟨hR, hR3⟩, hscr, hbl, hr, hlk, hl9⟩ := CT
  have hA : ∀ q, s.heap.size ≤ q → fA s q := fun _ h => h
  intro I J H locs ls V hP hD hS hl
  refine lv_aload_n S.1 S.2.1 dL_law_562 rfl (lv_at hl 3 rfl) ?_
  refine L_arg (k := 1) S.1 S.2.1 hscr hbl hS (by omega) hL rfl hl (j0 := 4) (j4 := 0) rfl rfl dL_law_563 dL_law_564 dL_law_566 dL_law_567 dL_law_568 ?_
  refine L_arg (k := 2) S.1 S.2.1 hscr hbl hS (by omega) hL rfl hl (j0 := 4) (j4 := 0) rfl rfl dL_law_569 dL_law_570 dL_law_572 dL_law_573 dL_law_574 ?_
  refine L_arg (k := 3) S.1 S.2.1 hscr hbl hS (by omega) hL rfl hl (j0 := 4) (j4 := 0) rfl rfl dL_law_575 dL_law_576 dL_law_578 dL_law_579 dL_law_580 ?_
  refine lv_aload_n S.1 S.2.1 dL_law_581 rfl (lv_at hl 1 rfl) ?_
  refine R_lSi (As := [.ref (eA E 11 0), .int (xs (i + 1)), .int (xs (i + 2)), .int (xs (i + 3)), .ref (eA E 13 0)]) (rest := []) S (lc_letter hl9 ps11 psG hR ps13 V) gL_law_L_letter rfl yk_L_letter ⟨rfl, rfl⟩ ⟨(Nat.le_of_ble_eq_true rfl), (Nat.le_of_ble_eq_true rfl)⟩ hK hP hD hS hX hT hA rfl hl.1 rfl (Nat.le_of_ble_eq_true rfl) ⟨by show k + 4 ≤ 601024; omega, by show n + 24 ≤ 7293033; omega⟩ dL_law_582 (fun v I1 J1 H locs hq hP hD hS => ?_)
  have hq : f_X8_letter (xs (i + 1)) (xs (i + 2)) (xs (i + 3)) I1 J1 (POST v) := hq
  refine lv_istore (lv' := [(5, .int v), (4, .int (nI i)), (3, .ref (eA E 13 0)), (2, .ref (eA E 12 0)), (1, .ref (eA E 11 0)), (0, .ref b)]) S.1 S.2.1 dL_law_585 hl (by decide) rfl (fun ls hl => ?_)
  refine lv_aload_n S.1 S.2.1 dL_law_587 rfl (lv_at hl 3 rfl) ?_
  refine L_arg (k := 1) S.1 S.2.1 hscr hbl hS (by omega) hL rfl hl (j0 := 5) (j4 := 1) rfl rfl dL_law_588 dL_law_589 dL_law_591 dL_law_592 dL_law_593 ?_
  refine L_arg (k := 2) S.1 S.2.1 hscr hbl hS (by omega) hL rfl hl (j0 := 5) (j4 := 1) rfl rfl dL_law_594 dL_law_595 dL_law_597 dL_law_598 dL_law_599 ?_
  refine L_arg (k := 3) S.1 S.2.1 hscr hbl hS (by omega) hL rfl hl (j0 := 5) (j4 := 1) rfl rfl dL_law_600 dL_law_601 dL_law_603 dL_law_604 dL_law_605 ?_
  refine R_cVi (As := [.int (xs (i + 1)), .int (xs (i + 2)), .int (xs (i + 3))]) (rest := []) S (c_X8_letter (h12 := ps12) hq) gL_law_X8_letter rfl yk_X8_letter ⟨⟨(Nat.le_of_ble_eq_true rfl), (Nat.le_of_ble_eq_true rfl)⟩, rfl, rfl⟩ hK hP hD hS hX hA (ps12 0 (by decide)) (cF_m E _ _ 0) rfl rfl hl.1 rfl (Nat.le_of_ble_eq_true rfl) ⟨by show k + 4 ≤ 601024; omega, by show n + 24 ≤ 7293033; omega⟩ dL_law_606 (fun w I2 J2 H locs hq hP hD hS => ?_)
  obtain ⟨hq1, hq2, hqI⟩ := hq
  refine lv_istore (lv' := [(6, .int w), (5, .int v), (4, .int (nI i)), (3, .ref (eA E 13 0)), (2, .ref (eA E 12 0)), (1, .ref (eA E 11 0)), (0, .ref b)]) S.1 S.2.1 dL_law_609 hl (by decide) rfl (fun ls hl => ?_)
  refine lv_aload_n S.1 S.2.1 dL_law_611 rfl (lv_at hl 4 rfl) ?_
  refine R_cVi (As := []) (rest := []) S (c_X8_thrown (Q := fun t I3 J3 => t = I2 12 0 0 ∧ I3 = I2 ∧ J3 = J2) (h12 := ps12) ⟨rfl, rfl, rfl⟩) gL_law_X8_thrown rfl yk_X8_thrown ⟨⟨(Nat.le_of_ble_eq_true rfl), (Nat.le_of_ble_eq_true rfl)⟩, rfl, rfl⟩ hK hP hD hS hX hA (ps12 0 (by decide)) (cF_m E _ _ 0) rfl rfl hl.1 rfl (Nat.le_of_ble_eq_true rfl) ⟨by show k + 4 ≤ 601024; omega, by show n + 24 ≤ 7293033; omega⟩ dL_law_612 (fun t I3 J3 H locs hq3 hPn hDn hS => ?_)
  obtain ⟨et, eI3, eJ3⟩ := hq3
  subst eI3 eJ3
  have hP := hPn
  have hD := hDn
  clear hPn hDn
  refine lv_iload S.1 S.2.1 dL_law_615 (lv_at hl 1 rfl) ?_
  refine lv_icmp_eq (tgt := 622) S.1 S.2.1 dL_law_617 (by decide) (fun _ => ?_) (fun h => absurd (et.trans hq1) h)
  refine lv_iload S.1 S.2.1 dL_law_622 (lv_at hl 1 rfl) ?_
  refine lv_if_ne (tgt := 639) S.1 S.2.1 dL_law_624 (by decide) (fun _ => ?_) (fun h => ?_)
  · refine lv_goto (tgt := 1550) S.1 S.2.1 dL_law_639 (by decide) ?_
    exact nx _ _ _ _ _ hqI hP hD hS (lv_sub hl [2, 3, 4, 5, 6] rfl)
  · refine lv_aload_n S.1 S.2.1 dL_law_627 rfl (lv_at hl 3 rfl) ?_
    refine lv_iconst (v := 0) S.1 S.2.1 dL_law_628 rfl ?_
    refine R_lald S.1 S.2.1 hK hP ps13 (n := 1) (fun _ _ => rfl) (vin 0 1 (by decide) (by decide) rfl) dL_law_629 ?_
    refine lv_iload S.1 S.2.1 dL_law_630 (lv_at hl 0 rfl) ?_
    refine lv_i2l S.1 S.2.1 dL_law_632 rfl ?_
    refine W.lcmp S.1 S.2.1 dL_law_633 ?_
    refine lv_if_eq (tgt := 639) S.1 S.2.1 dL_law_634 (by decide) (fun _ => ?_) (fun h9 => absurd ((lg_eq0 _ _).mpr (hq2 h)) h9)
    refine lv_goto (tgt := 1550) S.1 S.2.1 dL_law_639 (by decide) ?_
    exact nx _ _ _ _ _ hqI hP hD hS (lv_sub hl [2, 3, 4, 5, 6] rfl)
set_option maxRecDepth 100000 in
set_option maxHeartbeats 4000000 in
theorem lw_alike {p : Program} {l : Launch} {e : Env} {s : State} {m : MethodId} {below : List Frame} {meth : Method} {c : Code} {b L : Nat} {xs : Nat → Int32} {E : EV} (CT : LCx p l s m meth c b L xs E) {i k n : Nat} (hi : i + 5 < L) (hL : L ≤ 3072) (hk : k + 4 ≤ 601024) (hn : n + 24 ≤ 7293033) (nx : LSx p l e s m below meth c b E 1550 (k + 4) (n + 24) [(4, .int (nI i)), (3, .ref (eA E 13 0)), (2, .ref (eA E 12 0)), (1, .ref (eA E 11 0)), (0, .ref b)]) : LSx p l e s m below meth c b E 642 k n [(4, .int (nI i)), (3, .ref (eA E 13 0)), (2, .ref (eA E 12 0)), (1, .ref (eA E 11 0)), (0, .ref b)] := by
  obtain ⟨S, hK, hX, hT, ⟨hR, hR3⟩, hscr, hbl, hr, hlk, hl9⟩ := CT
  have hA : ∀ q, s.heap.size ≤ q → fA s q := fun _ h => h
  intro I J H locs ls V hP hD hS hl
  refine lv_aload_n S.1 S.2.1 dL_law_642 rfl (lv_at hl 3 rfl) ?_
  refine L_arg (k := 1) S.1 S.2.1 hscr hbl hS (by omega) hL rfl hl (j0 := 4) (j4 := 0) rfl rfl dL_law_643 dL_law_644 dL_law_646 dL_law_647 dL_law_648 ?_
  refine L_arg (k := 2) S.1 S.2.1 hscr hbl hS (by omega) hL rfl hl (j0 := 4) (j4 := 0) rfl rfl dL_law_649 dL_law_650 dL_law_652 dL_law_653 dL_law_654 ?_
  refine lv_aload_n S.1 S.2.1 dL_law_655 rfl (lv_at hl 1 rfl) ?_
  refine R_lSi (As := [.ref (eA E 11 0), .int (xs (i + 1)), .int (xs (i + 2)), .ref (eA E 13 0)]) (rest := []) S (lc_alike hl9 ps11 psG hR ps13 V) gL_law_L_alike rfl yk_L_alike ⟨rfl, rfl⟩ ⟨(Nat.le_of_ble_eq_true rfl), (Nat.le_of_ble_eq_true rfl)⟩ hK hP hD hS hX hT hA rfl hl.1 rfl (Nat.le_of_ble_eq_true rfl) ⟨by show k + 4 ≤ 601024; omega, by show n + 24 ≤ 7293033; omega⟩ dL_law_656 (fun v I1 J1 H locs hq hP hD hS => ?_)
  have hq : f_X8_alike (xs (i + 1)) (xs (i + 2)) I1 J1 (PSTb v) := hq
  refine lv_istore (lv' := [(5, .int v), (4, .int (nI i)), (3, .ref (eA E 13 0)), (2, .ref (eA E 12 0)), (1, .ref (eA E 11 0)), (0, .ref b)]) S.1 S.2.1 dL_law_659 hl (by decide) rfl (fun ls hl => ?_)
  refine lv_aload_n S.1 S.2.1 dL_law_661 rfl (lv_at hl 3 rfl) ?_
  refine L_arg (k := 1) S.1 S.2.1 hscr hbl hS (by omega) hL rfl hl (j0 := 5) (j4 := 1) rfl rfl dL_law_662 dL_law_663 dL_law_665 dL_law_666 dL_law_667 ?_
  refine L_arg (k := 2) S.1 S.2.1 hscr hbl hS (by omega) hL rfl hl (j0 := 5) (j4 := 1) rfl rfl dL_law_668 dL_law_669 dL_law_671 dL_law_672 dL_law_673 ?_
  refine R_cVi (As := [.int (xs (i + 1)), .int (xs (i + 2))]) (rest := []) S (c_X8_alike (h12 := ps12) hq) gL_law_X8_alike rfl yk_X8_alike ⟨⟨(Nat.le_of_ble_eq_true rfl), (Nat.le_of_ble_eq_true rfl)⟩, rfl, rfl⟩ hK hP hD hS hX hA (ps12 0 (by decide)) (cF_m E _ _ 0) rfl rfl hl.1 rfl (Nat.le_of_ble_eq_true rfl) ⟨by show k + 4 ≤ 601024; omega, by show n + 24 ≤ 7293033; omega⟩ dL_law_674 (fun w I2 J2 H locs hq hP hD hS => ?_)
  obtain ⟨hq1, hq2, hqI⟩ := hq
  refine lv_istore (lv' := [(6, .int w), (5, .int v), (4, .int (nI i)), (3, .ref (eA E 13 0)), (2, .ref (eA E 12 0)), (1, .ref (eA E 11 0)), (0, .ref b)]) S.1 S.2.1 dL_law_677 hl (by decide) rfl (fun ls hl => ?_)
  refine lv_aload_n S.1 S.2.1 dL_law_679 rfl (lv_at hl 4 rfl) ?_
  refine R_cVi (As := []) (rest := []) S (c_X8_thrown (Q := fun t I3 J3 => t = I2 12 0 0 ∧ I3 = I2 ∧ J3 = J2) (h12 := ps12) ⟨rfl, rfl, rfl⟩) gL_law_X8_thrown rfl yk_X8_thrown ⟨⟨(Nat.le_of_ble_eq_true rfl), (Nat.le_of_ble_eq_true rfl)⟩, rfl, rfl⟩ hK hP hD hS hX hA (ps12 0 (by decide)) (cF_m E _ _ 0) rfl rfl hl.1 rfl (Nat.le_of_ble_eq_true rfl) ⟨by show k + 4 ≤ 601024; omega, by show n + 24 ≤ 7293033; omega⟩ dL_law_680 (fun t I3 J3 H locs hq3 hPn hDn hS => ?_)
  obtain ⟨et, eI3, eJ3⟩ := hq3
  subst eI3 eJ3
  have hP := hPn
  have hD := hDn
  clear hPn hDn
  refine lv_iload S.1 S.2.1 dL_law_683 (lv_at hl 1 rfl) ?_
  refine lv_icmp_eq (tgt := 690) S.1 S.2.1 dL_law_685 (by decide) (fun _ => ?_) (fun h => absurd (et.trans hq1) h)
  refine lv_iload S.1 S.2.1 dL_law_690 (lv_at hl 1 rfl) ?_
  refine lv_if_ne (tgt := 714) S.1 S.2.1 dL_law_692 (by decide) (fun _ => ?_) (fun h => ?_)
  · refine lv_goto (tgt := 1550) S.1 S.2.1 dL_law_714 (by decide) ?_
    exact nx _ _ _ _ _ hqI hP hD hS (lv_sub hl [2, 3, 4, 5, 6] rfl)
  · refine lv_aload_n S.1 S.2.1 dL_law_695 rfl (lv_at hl 3 rfl) ?_
    refine lv_iconst (v := 0) S.1 S.2.1 dL_law_696 rfl ?_
    refine R_lald S.1 S.2.1 hK hP ps13 (n := 1) (fun _ _ => rfl) (vin 0 1 (by decide) (by decide) rfl) dL_law_697 ?_
    refine lv_iload S.1 S.2.1 dL_law_698 (lv_at hl 0 rfl) ?_
    have hq2 := hq2 h
    refine lv_if_eq (tgt := 707) S.1 S.2.1 dL_law_700 (by decide) (fun hw => ?_) (fun hw => ?_)
    · rw [if_pos hw] at hq2
      refine lv_lconst (v := 0) S.1 S.2.1 dL_law_707 rfl ?_
      refine W.lcmp S.1 S.2.1 dL_law_708 ?_
      refine lv_if_eq (tgt := 714) S.1 S.2.1 dL_law_709 (by decide) (fun _ => ?_) (fun h9 => absurd ((lg_eq0 _ _).mpr hq2) h9)
      refine lv_goto (tgt := 1550) S.1 S.2.1 dL_law_714 (by decide) ?_
      exact nx _ _ _ _ _ hqI hP hD hS (lv_sub hl [2, 3, 4, 5, 6] rfl)
    · rw [if_neg hw] at hq2
      refine lv_lconst (v := 1) S.1 S.2.1 dL_law_703 rfl ?_
      refine lv_goto (tgt := 708) S.1 S.2.1 dL_law_704 (by decide) ?_
      refine W.lcmp S.1 S.2.1 dL_law_708 ?_
      refine lv_if_eq (tgt := 714) S.1 S.2.1 dL_law_709 (by decide) (fun _ => ?_) (fun h9 => absurd ((lg_eq0 _ _).mpr hq2) h9)
      refine lv_goto (tgt := 1550) S.1 S.2.1 dL_law_714 (by decide) ?_
      exact nx _ _ _ _ _ hqI hP hD hS (lv_sub hl [2, 3, 4, 5, 6] rfl)
