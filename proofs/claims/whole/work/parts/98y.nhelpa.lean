abbrev rmL_tile : Room := { frames := rmX7_tile.frames + 1, cells := 4, slots := 24, locals := 40 + rmX7_tile.locals }
theorem yk_L_tile : yOk yL_tile RL 4 := by unfold yOk; decide +kernel
set_option maxRecDepth 100000 in
set_option maxHeartbeats 4000000 in
theorem c_L_tile {l : Launch} {E : EV} {ps : List (Nat × Nat)} (hl9 : l.stackTraces = false) (h11 : ∀ r, r < 11 → (11, r) ∈ ps) (hG : ∀ k r, k < 11 → r < 16 → (k, r) ∈ ps) (hR : (eT E)[2]? = some (eG E, .object "RhymeRoofs$Game")) (h13 : (13, 0) ∈ ps) {x1 : Int32} {x2 : Int32} {I : MI} {J : MJ} {Q Q2 : Int32 → MI → MJ → Prop} {X2 : Nat → MI → MJ → Prop} (hf : f_X7_tile x1 x2 I J Q2 X2) (hk : ∀ (v : Int32) (I1 : MI) (J1 : MJ), Q2 v I1 J1 → ∀ J2 : MJ, J2 = sJ J1 13 0 0 v.toInt64 → Q 0 I1 J2) (hx : ∀ (k : Nat) (I1 : MI) (J1 : MJ), X2 k I1 J1 → XL [1, 2] Q k I1 J1) : YI l yL_tile wsL_tile rmL_tile E ps [.ref (eA E 11 0), .int x1, .int x2, .ref (eA E 13 0)] I J Q (fun _ _ _ => False) 4 24 := by
  refine Z_ofI (cc := cL_tile) (maxL := 5) (hh := [(0, 10, 13, 22), (0, 10, 17, 27)]) (by decide +kernel) rfl (Nat.le_of_ble_eq_true rfl) (fun p e s m args below meth c Qm hret ht S hK hX hT => ?_)
  intro H locs ls hP hD hS hl
  refine lv_aload_n S.1 S.2.1 dL_tile_0 rfl (lv_at hl 3 rfl) ?_
  refine lv_iconst (v := 0) S.1 S.2.1 dL_tile_1 rfl ?_
  refine lv_aload_n S.1 S.2.1 dL_tile_2 rfl (lv_at hl 0 rfl) ?_
  refine lv_iload_n S.1 S.2.1 dL_tile_3 rfl (lv_at hl 1 rfl) ?_
  refine lv_iload_n S.1 S.2.1 dL_tile_4 rfl (lv_at hl 2 rfl) ?_
  refine R_tVi (As := [.int x1, .int x2]) (rest := [.int 0, .ref (eA E 13 0)]) S (c_X7_tile hl9 (h11 := h11) (hG := hG) (hR := hR) hf) gL_tile_X7_tile rfl yk_X7_tile ⟨rfl, rfl⟩ ⟨Nat.le_of_ble_eq_true rfl, Nat.le_of_ble_eq_true rfl⟩ hK hP hD hS hX hT (h11 0 (by decide)) (cF_o E _ _ 0) rfl rfl hl.1 rfl (Nat.le_of_ble_eq_true rfl) ⟨Nat.le_of_ble_eq_true rfl, Nat.le_of_ble_eq_true rfl⟩ dL_tile_5 (fun kd ce q9 I1 J1 H locs hx0 hP hD hS hce hcv hcl9 => ?_) (fun v I1 J1 H locs hf hP hD hS => ?_)
  · obtain ⟨t, h1, hf⟩ := hx _ _ _ hx0
    match t, h1, hf with
    | 0, h1, hf =>
      cases h1
      refine vx_catch (name := xN 1) (E := xN 1) S.2.2.2.1 [] ({ startPc := 0, endPc := 10, handlerPc := 13, catchType := 22 } : ExceptionTableEntry) [({ startPc := 0, endPc := 10, handlerPc := 17, catchType := 27 } : ExceptionTableEntry)] ht (fun z hz => nomatch hz) (by decide) (by decide) (S.2.2.2.2 (.classLink RL 22 (xN 1)) (by decide +kernel)) (va_any rfl (hT.1 1 (by decide))) hce hcv hcl9 ?_
      refine lv_astore (lv' := [(4, .ref q9), (0, .ref (eA E 11 0)), (1, .int x1), (2, .int x2), (3, .ref (eA E 13 0))]) S.1 S.2.1 dL_tile_13 hl (by decide) rfl (fun ls hl => ?_)
      refine lv_iconst (v := 1) S.1 S.2.1 dL_tile_15 rfl ?_
      exact hret hf hP hD hS dL_tile_16
    | 1, h1, hf =>
      cases h1
      refine vx_catch (name := xN 2) (E := xN 2) S.2.2.2.1 [({ startPc := 0, endPc := 10, handlerPc := 13, catchType := 22 } : ExceptionTableEntry)] ({ startPc := 0, endPc := 10, handlerPc := 17, catchType := 27 } : ExceptionTableEntry) [] ht (by
        intro z hz
        simp only [List.mem_cons, List.not_mem_nil, or_false] at hz
        rcases hz with rfl
        exact Or.inr ⟨by decide, xN 1, S.2.2.2.2 (.classLink RL 22 (xN 1)) (by decide +kernel), hT.2.1 2 1 (by decide) (by decide) (by decide)⟩) (by decide) (by decide) (S.2.2.2.2 (.classLink RL 27 (xN 2)) (by decide +kernel)) (va_any rfl (hT.1 2 (by decide))) hce hcv hcl9 ?_
      refine lv_astore (lv' := [(4, .ref q9), (0, .ref (eA E 11 0)), (1, .int x1), (2, .int x2), (3, .ref (eA E 13 0))]) S.1 S.2.1 dL_tile_17 hl (by decide) rfl (fun ls hl => ?_)
      refine lv_iconst (v := 2) S.1 S.2.1 dL_tile_19 rfl ?_
      exact hret hf hP hD hS dL_tile_20
  · have hf := hk _ _ _ hf
    refine lv_i2l S.1 S.2.1 dL_tile_8 rfl ?_
    refine nm_o hf (fun J2 eJ hf => ?_)
    refine R_last S.1 S.2.1 hK hP hD hS h13 (fun _ _ => rfl) (n := 1) (vin 0 1 (by decide) (by decide) rfl) dL_tile_9 eJ (fun H locs hP hD hS => ?_)
    refine lv_goto (tgt := 21) S.1 S.2.1 dL_tile_10 (by decide) ?_
    refine lv_iconst (v := 0) S.1 S.2.1 dL_tile_21 rfl ?_
    exact hret hf hP hD hS dL_tile_22
abbrev rmL_letter : Room := { frames := rmX7_letter.frames + 1, cells := 4, slots := 24, locals := 40 + rmX7_letter.locals }
theorem yk_L_letter : yOk yL_letter RL 5 := by unfold yOk; decide +kernel
set_option maxRecDepth 100000 in
set_option maxHeartbeats 4000000 in
theorem c_L_letter {l : Launch} {E : EV} {ps : List (Nat × Nat)} (hl9 : l.stackTraces = false) (h11 : ∀ r, r < 11 → (11, r) ∈ ps) (hG : ∀ k r, k < 11 → r < 16 → (k, r) ∈ ps) (hR : (eT E)[2]? = some (eG E, .object "RhymeRoofs$Game")) (h13 : (13, 0) ∈ ps) {x1 : Int32} {x2 : Int32} {x3 : Int32} {I : MI} {J : MJ} {Q Q2 : Int32 → MI → MJ → Prop} {X2 : Nat → MI → MJ → Prop} (hf : f_X7_letter x1 x2 x3 I J Q2 X2) (hk : ∀ (v : Int32) (I1 : MI) (J1 : MJ), Q2 v I1 J1 → ∀ J2 : MJ, J2 = sJ J1 13 0 0 v.toInt64 → Q 0 I1 J2) (hx : ∀ (k : Nat) (I1 : MI) (J1 : MJ), X2 k I1 J1 → XL [1, 2] Q k I1 J1) : YI l yL_letter wsL_letter rmL_letter E ps [.ref (eA E 11 0), .int x1, .int x2, .int x3, .ref (eA E 13 0)] I J Q (fun _ _ _ => False) 4 24 := by
  refine Z_ofI (cc := cL_letter) (maxL := 6) (hh := [(0, 12, 15, 22), (0, 12, 19, 27)]) (by decide +kernel) rfl (Nat.le_of_ble_eq_true rfl) (fun p e s m args below meth c Qm hret ht S hK hX hT => ?_)
  intro H locs ls hP hD hS hl
  refine lv_aload S.1 S.2.1 dL_letter_0 (lv_at hl 4 rfl) ?_
  refine lv_iconst (v := 0) S.1 S.2.1 dL_letter_2 rfl ?_
  refine lv_aload_n S.1 S.2.1 dL_letter_3 rfl (lv_at hl 0 rfl) ?_
  refine lv_iload_n S.1 S.2.1 dL_letter_4 rfl (lv_at hl 1 rfl) ?_
  refine lv_iload_n S.1 S.2.1 dL_letter_5 rfl (lv_at hl 2 rfl) ?_
  refine lv_iload_n S.1 S.2.1 dL_letter_6 rfl (lv_at hl 3 rfl) ?_
  refine R_tVi (As := [.int x1, .int x2, .int x3]) (rest := [.int 0, .ref (eA E 13 0)]) S (c_X7_letter hl9 (h11 := h11) (hG := hG) (hR := hR) hf) gL_letter_X7_letter rfl yk_X7_letter ⟨rfl, rfl⟩ ⟨Nat.le_of_ble_eq_true rfl, Nat.le_of_ble_eq_true rfl⟩ hK hP hD hS hX hT (h11 0 (by decide)) (cF_o E _ _ 0) rfl rfl hl.1 rfl (Nat.le_of_ble_eq_true rfl) ⟨Nat.le_of_ble_eq_true rfl, Nat.le_of_ble_eq_true rfl⟩ dL_letter_7 (fun kd ce q9 I1 J1 H locs hx0 hP hD hS hce hcv hcl9 => ?_) (fun v I1 J1 H locs hf hP hD hS => ?_)
  · obtain ⟨t, h1, hf⟩ := hx _ _ _ hx0
    match t, h1, hf with
    | 0, h1, hf =>
      cases h1
      refine vx_catch (name := xN 1) (E := xN 1) S.2.2.2.1 [] ({ startPc := 0, endPc := 12, handlerPc := 15, catchType := 22 } : ExceptionTableEntry) [({ startPc := 0, endPc := 12, handlerPc := 19, catchType := 27 } : ExceptionTableEntry)] ht (fun z hz => nomatch hz) (by decide) (by decide) (S.2.2.2.2 (.classLink RL 22 (xN 1)) (by decide +kernel)) (va_any rfl (hT.1 1 (by decide))) hce hcv hcl9 ?_
      refine lv_astore (lv' := [(5, .ref q9), (0, .ref (eA E 11 0)), (1, .int x1), (2, .int x2), (3, .int x3), (4, .ref (eA E 13 0))]) S.1 S.2.1 dL_letter_15 hl (by decide) rfl (fun ls hl => ?_)
      refine lv_iconst (v := 1) S.1 S.2.1 dL_letter_17 rfl ?_
      exact hret hf hP hD hS dL_letter_18
    | 1, h1, hf =>
      cases h1
      refine vx_catch (name := xN 2) (E := xN 2) S.2.2.2.1 [({ startPc := 0, endPc := 12, handlerPc := 15, catchType := 22 } : ExceptionTableEntry)] ({ startPc := 0, endPc := 12, handlerPc := 19, catchType := 27 } : ExceptionTableEntry) [] ht (by
        intro z hz
        simp only [List.mem_cons, List.not_mem_nil, or_false] at hz
        rcases hz with rfl
        exact Or.inr ⟨by decide, xN 1, S.2.2.2.2 (.classLink RL 22 (xN 1)) (by decide +kernel), hT.2.1 2 1 (by decide) (by decide) (by decide)⟩) (by decide) (by decide) (S.2.2.2.2 (.classLink RL 27 (xN 2)) (by decide +kernel)) (va_any rfl (hT.1 2 (by decide))) hce hcv hcl9 ?_
      refine lv_astore (lv' := [(5, .ref q9), (0, .ref (eA E 11 0)), (1, .int x1), (2, .int x2), (3, .int x3), (4, .ref (eA E 13 0))]) S.1 S.2.1 dL_letter_19 hl (by decide) rfl (fun ls hl => ?_)
      refine lv_iconst (v := 2) S.1 S.2.1 dL_letter_21 rfl ?_
      exact hret hf hP hD hS dL_letter_22
  · have hf := hk _ _ _ hf
    refine lv_i2l S.1 S.2.1 dL_letter_10 rfl ?_
    refine nm_o hf (fun J2 eJ hf => ?_)
    refine R_last S.1 S.2.1 hK hP hD hS h13 (fun _ _ => rfl) (n := 1) (vin 0 1 (by decide) (by decide) rfl) dL_letter_11 eJ (fun H locs hP hD hS => ?_)
    refine lv_goto (tgt := 23) S.1 S.2.1 dL_letter_12 (by decide) ?_
    refine lv_iconst (v := 0) S.1 S.2.1 dL_letter_23 rfl ?_
    exact hret hf hP hD hS dL_letter_24
abbrev rmL_play : Room := { frames := rmX7_play.frames + 1, cells := 4, slots := 24, locals := 40 + rmX7_play.locals }
theorem yk_L_play : yOk yL_play RL 5 := by unfold yOk; decide +kernel
set_option maxRecDepth 100000 in
set_option maxHeartbeats 4000000 in
theorem c_L_play {l : Launch} {E : EV} {ps : List (Nat × Nat)} (hl9 : l.stackTraces = false) (h11 : ∀ r, r < 11 → (11, r) ∈ ps) (hG : ∀ k r, k < 11 → r < 16 → (k, r) ∈ ps) (hR : (eT E)[2]? = some (eG E, .object "RhymeRoofs$Game")) (h13 : (13, 0) ∈ ps) {x1 : Int32} {x2 : Int32} {x3 : Int32} {I : MI} {J : MJ} {Q Q2 : Int32 → MI → MJ → Prop} {X2 : Nat → MI → MJ → Prop} (hf : f_X7_play x1 x2 x3 I J Q2 X2) (hk : ∀ (v : Int32) (I1 : MI) (J1 : MJ), Q2 v I1 J1 → ∀ J2 : MJ, J2 = sJ J1 13 0 0 v.toInt64 → Q 0 I1 J2) (hx : ∀ (k : Nat) (I1 : MI) (J1 : MJ), X2 k I1 J1 → XL [1, 0, 2] Q k I1 J1) : YI l yL_play wsL_play rmL_play E ps [.ref (eA E 11 0), .int x1, .int x2, .int x3, .ref (eA E 13 0)] I J Q (fun _ _ _ => False) 4 24 := by
  refine Z_ofI (cc := cL_play) (maxL := 6) (hh := [(0, 12, 15, 22), (0, 12, 19, 13), (0, 12, 23, 27)]) (by decide +kernel) rfl (Nat.le_of_ble_eq_true rfl) (fun p e s m args below meth c Qm hret ht S hK hX hT => ?_)
  intro H locs ls hP hD hS hl
  refine lv_aload S.1 S.2.1 dL_play_0 (lv_at hl 4 rfl) ?_
  refine lv_iconst (v := 0) S.1 S.2.1 dL_play_2 rfl ?_
  refine lv_aload_n S.1 S.2.1 dL_play_3 rfl (lv_at hl 0 rfl) ?_
  refine lv_iload_n S.1 S.2.1 dL_play_4 rfl (lv_at hl 1 rfl) ?_
  refine lv_iload_n S.1 S.2.1 dL_play_5 rfl (lv_at hl 2 rfl) ?_
  refine lv_iload_n S.1 S.2.1 dL_play_6 rfl (lv_at hl 3 rfl) ?_
  refine R_tVi (As := [.int x1, .int x2, .int x3]) (rest := [.int 0, .ref (eA E 13 0)]) S (c_X7_play hl9 (h11 := h11) (hG := hG) (hR := hR) hf) gL_play_X7_play rfl yk_X7_play ⟨rfl, rfl⟩ ⟨Nat.le_of_ble_eq_true rfl, Nat.le_of_ble_eq_true rfl⟩ hK hP hD hS hX hT (h11 0 (by decide)) (cF_o E _ _ 0) rfl rfl hl.1 rfl (Nat.le_of_ble_eq_true rfl) ⟨Nat.le_of_ble_eq_true rfl, Nat.le_of_ble_eq_true rfl⟩ dL_play_7 (fun kd ce q9 I1 J1 H locs hx0 hP hD hS hce hcv hcl9 => ?_) (fun v I1 J1 H locs hf hP hD hS => ?_)
  · obtain ⟨t, h1, hf⟩ := hx _ _ _ hx0
    match t, h1, hf with
    | 0, h1, hf =>
      cases h1
      refine vx_catch (name := xN 1) (E := xN 1) S.2.2.2.1 [] ({ startPc := 0, endPc := 12, handlerPc := 15, catchType := 22 } : ExceptionTableEntry) [({ startPc := 0, endPc := 12, handlerPc := 19, catchType := 13 } : ExceptionTableEntry), ({ startPc := 0, endPc := 12, handlerPc := 23, catchType := 27 } : ExceptionTableEntry)] ht (fun z hz => nomatch hz) (by decide) (by decide) (S.2.2.2.2 (.classLink RL 22 (xN 1)) (by decide +kernel)) (va_any rfl (hT.1 1 (by decide))) hce hcv hcl9 ?_
      refine lv_astore (lv' := [(5, .ref q9), (0, .ref (eA E 11 0)), (1, .int x1), (2, .int x2), (3, .int x3), (4, .ref (eA E 13 0))]) S.1 S.2.1 dL_play_15 hl (by decide) rfl (fun ls hl => ?_)
      refine lv_iconst (v := 1) S.1 S.2.1 dL_play_17 rfl ?_
      exact hret hf hP hD hS dL_play_18
    | 1, h1, hf =>
      cases h1
      refine vx_catch (name := xN 0) (E := xN 0) S.2.2.2.1 [({ startPc := 0, endPc := 12, handlerPc := 15, catchType := 22 } : ExceptionTableEntry)] ({ startPc := 0, endPc := 12, handlerPc := 19, catchType := 13 } : ExceptionTableEntry) [({ startPc := 0, endPc := 12, handlerPc := 23, catchType := 27 } : ExceptionTableEntry)] ht (by
        intro z hz
        simp only [List.mem_cons, List.not_mem_nil, or_false] at hz
        rcases hz with rfl
        exact Or.inr ⟨by decide, xN 1, S.2.2.2.2 (.classLink RL 22 (xN 1)) (by decide +kernel), hT.2.1 0 1 (by decide) (by decide) (by decide)⟩) (by decide) (by decide) (S.2.2.2.2 (.classLink RL 13 (xN 0)) (by decide +kernel)) (va_any rfl (hT.1 0 (by decide))) hce hcv hcl9 ?_
      refine lv_astore (lv' := [(5, .ref q9), (0, .ref (eA E 11 0)), (1, .int x1), (2, .int x2), (3, .int x3), (4, .ref (eA E 13 0))]) S.1 S.2.1 dL_play_19 hl (by decide) rfl (fun ls hl => ?_)
      refine lv_iconst (v := 2) S.1 S.2.1 dL_play_21 rfl ?_
      exact hret hf hP hD hS dL_play_22
    | 2, h1, hf =>
      cases h1
      refine vx_catch (name := xN 2) (E := xN 2) S.2.2.2.1 [({ startPc := 0, endPc := 12, handlerPc := 15, catchType := 22 } : ExceptionTableEntry), ({ startPc := 0, endPc := 12, handlerPc := 19, catchType := 13 } : ExceptionTableEntry)] ({ startPc := 0, endPc := 12, handlerPc := 23, catchType := 27 } : ExceptionTableEntry) [] ht (by
        intro z hz
        simp only [List.mem_cons, List.not_mem_nil, or_false] at hz
        rcases hz with rfl | rfl
        · exact Or.inr ⟨by decide, xN 1, S.2.2.2.2 (.classLink RL 22 (xN 1)) (by decide +kernel), hT.2.1 2 1 (by decide) (by decide) (by decide)⟩
        · exact Or.inr ⟨by decide, xN 0, S.2.2.2.2 (.classLink RL 13 (xN 0)) (by decide +kernel), hT.2.1 2 0 (by decide) (by decide) (by decide)⟩) (by decide) (by decide) (S.2.2.2.2 (.classLink RL 27 (xN 2)) (by decide +kernel)) (va_any rfl (hT.1 2 (by decide))) hce hcv hcl9 ?_
      refine lv_astore (lv' := [(5, .ref q9), (0, .ref (eA E 11 0)), (1, .int x1), (2, .int x2), (3, .int x3), (4, .ref (eA E 13 0))]) S.1 S.2.1 dL_play_23 hl (by decide) rfl (fun ls hl => ?_)
      refine lv_iconst (v := 3) S.1 S.2.1 dL_play_25 rfl ?_
      exact hret hf hP hD hS dL_play_26
  · have hf := hk _ _ _ hf
    refine lv_i2l S.1 S.2.1 dL_play_10 rfl ?_
    refine nm_o hf (fun J2 eJ hf => ?_)
    refine R_last S.1 S.2.1 hK hP hD hS h13 (fun _ _ => rfl) (n := 1) (vin 0 1 (by decide) (by decide) rfl) dL_play_11 eJ (fun H locs hP hD hS => ?_)
    refine lv_goto (tgt := 27) S.1 S.2.1 dL_play_12 (by decide) ?_
    refine lv_iconst (v := 0) S.1 S.2.1 dL_play_27 rfl ?_
    exact hret hf hP hD hS dL_play_28
