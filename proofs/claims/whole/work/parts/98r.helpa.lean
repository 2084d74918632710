abbrev rmL_load : Room := { frames := rmX7_load.frames + 1, cells := 4, slots := 24, locals := 40 + rmX7_load.locals }
theorem yk_L_load : yOk yL_load RL 3 := by unfold yOk; decide +kernel
set_option maxRecDepth 100000 in
set_option maxHeartbeats 4000000 in
theorem c_L_load {l : Launch} {E : EV} {ps : List (Nat × Nat)} (hl9 : l.stackTraces = false) (h11 : ∀ r, r < 11 → (11, r) ∈ ps) (hG : ∀ k r, k < 11 → r < 16 → (k, r) ∈ ps) (hR : (eT E)[2]? = some (eG E, .object "RhymeRoofs$Game")) (h13 : (13, 0) ∈ ps) {x1 : Int32} {I : MI} {J : MJ} {Q Q2 : Int32 → MI → MJ → Prop} {X2 : Nat → MI → MJ → Prop} (hf : f_X7_load x1 I J Q2 X2) (hk : ∀ (v : Int32) (I1 : MI) (J1 : MJ), Q2 v I1 J1 → ∀ J2 : MJ, J2 = sJ J1 13 0 0 v.toInt64 → Q 0 I1 J2) (hx : ∀ (k : Nat) (I1 : MI) (J1 : MJ), X2 k I1 J1 → XL [0] Q k I1 J1) : YI l yL_load wsL_load rmL_load E ps [.ref (eA E 11 0), .int x1, .ref (eA E 13 0)] I J Q (fun _ _ _ => False) 4 24 := by
  refine Z_ofI (cc := cL_load) (maxL := 4) (hh := [(0, 9, 12, 13)]) (by decide +kernel) rfl (Nat.le_of_ble_eq_true rfl) (fun p e s m args below meth c Qm hret ht S hK hX hT => ?_)
  intro H locs ls hP hD hS hl
  refine lv_aload_n S.1 S.2.1 dL_load_0 rfl (lv_at hl 2 rfl) ?_
  refine lv_iconst (v := 0) S.1 S.2.1 dL_load_1 rfl ?_
  refine lv_aload_n S.1 S.2.1 dL_load_2 rfl (lv_at hl 0 rfl) ?_
  refine lv_iload_n S.1 S.2.1 dL_load_3 rfl (lv_at hl 1 rfl) ?_
  refine R_tVi (As := [.int x1]) (rest := [.int 0, .ref (eA E 13 0)]) S (c_X7_load hl9 (h11 := h11) (hG := hG) (hR := hR) hf) gL_load_X7_load rfl yk_X7_load ⟨rfl, rfl⟩ ⟨Nat.le_of_ble_eq_true rfl, Nat.le_of_ble_eq_true rfl⟩ hK hP hD hS hX hT (h11 0 (by decide)) (cF_o E _ _ 0) rfl rfl hl.1 rfl (Nat.le_of_ble_eq_true rfl) ⟨Nat.le_of_ble_eq_true rfl, Nat.le_of_ble_eq_true rfl⟩ dL_load_4 (fun kd ce q9 I1 J1 H locs hx0 hP hD hS hce hcv hcl9 => ?_) (fun v I1 J1 H locs hf hP hD hS => ?_)
  · obtain ⟨t, h1, hf⟩ := hx _ _ _ hx0
    match t, h1, hf with
    | 0, h1, hf =>
      cases h1
      refine vx_catch (name := xN 0) (E := xN 0) S.2.2.2.1 [] ({ startPc := 0, endPc := 9, handlerPc := 12, catchType := 13 } : ExceptionTableEntry) [] ht (fun z hz => nomatch hz) (by decide) (by decide) (S.2.2.2.2 (.classLink RL 13 (xN 0)) (by decide +kernel)) (va_any rfl (hT.1 0 (by decide))) hce hcv hcl9 ?_
      refine lv_astore_n (lv' := [(3, .ref q9), (0, .ref (eA E 11 0)), (1, .int x1), (2, .ref (eA E 13 0))]) S.1 S.2.1 dL_load_12 rfl hl (by decide) rfl (fun ls hl => ?_)
      refine lv_iconst (v := 1) S.1 S.2.1 dL_load_13 rfl ?_
      exact hret hf hP hD hS dL_load_14
  · have hf := hk _ _ _ hf
    refine lv_i2l S.1 S.2.1 dL_load_7 rfl ?_
    refine nm_o hf (fun J2 eJ hf => ?_)
    refine R_last S.1 S.2.1 hK hP hD hS h13 (fun _ _ => rfl) (n := 1) (vin 0 1 (by decide) (by decide) rfl) dL_load_8 eJ (fun H locs hP hD hS => ?_)
    refine lv_goto (tgt := 15) S.1 S.2.1 dL_load_9 (by decide) ?_
    refine lv_iconst (v := 0) S.1 S.2.1 dL_load_15 rfl ?_
    exact hret hf hP hD hS dL_load_16
abbrev rmL_state : Room := { frames := rmX7_state.frames + 1, cells := 4, slots := 24, locals := 40 + rmX7_state.locals }
theorem yk_L_state : yOk yL_state RL 3 := by unfold yOk; decide +kernel
set_option maxRecDepth 100000 in
set_option maxHeartbeats 4000000 in
theorem c_L_state {l : Launch} {E : EV} {ps : List (Nat × Nat)} (hl9 : l.stackTraces = false) (h11 : ∀ r, r < 11 → (11, r) ∈ ps) (hG : ∀ k r, k < 11 → r < 16 → (k, r) ∈ ps) (hR : (eT E)[2]? = some (eG E, .object "RhymeRoofs$Game")) (h13 : (13, 0) ∈ ps) {x1 : Int32} {I : MI} {J : MJ} {Q Q2 : Int32 → MI → MJ → Prop} {X2 : Nat → MI → MJ → Prop} (hf : f_X7_state x1 I J Q2 X2) (hk : ∀ (v : Int32) (I1 : MI) (J1 : MJ), Q2 v I1 J1 → ∀ J2 : MJ, J2 = sJ J1 13 0 0 v.toInt64 → Q 0 I1 J2) (hx : ∀ (k : Nat) (I1 : MI) (J1 : MJ), X2 k I1 J1 → XL [0] Q k I1 J1) : YI l yL_state wsL_state rmL_state E ps [.ref (eA E 11 0), .int x1, .ref (eA E 13 0)] I J Q (fun _ _ _ => False) 4 24 := by
  refine Z_ofI (cc := cL_state) (maxL := 4) (hh := [(0, 9, 12, 13)]) (by decide +kernel) rfl (Nat.le_of_ble_eq_true rfl) (fun p e s m args below meth c Qm hret ht S hK hX hT => ?_)
  intro H locs ls hP hD hS hl
  refine lv_aload_n S.1 S.2.1 dL_state_0 rfl (lv_at hl 2 rfl) ?_
  refine lv_iconst (v := 0) S.1 S.2.1 dL_state_1 rfl ?_
  refine lv_aload_n S.1 S.2.1 dL_state_2 rfl (lv_at hl 0 rfl) ?_
  refine lv_iload_n S.1 S.2.1 dL_state_3 rfl (lv_at hl 1 rfl) ?_
  refine R_tVi (As := [.int x1]) (rest := [.int 0, .ref (eA E 13 0)]) S (c_X7_state hl9 (h11 := h11) (hG := hG) (hR := hR) hf) gL_state_X7_state rfl yk_X7_state ⟨rfl, rfl⟩ ⟨Nat.le_of_ble_eq_true rfl, Nat.le_of_ble_eq_true rfl⟩ hK hP hD hS hX hT (h11 0 (by decide)) (cF_o E _ _ 0) rfl rfl hl.1 rfl (Nat.le_of_ble_eq_true rfl) ⟨Nat.le_of_ble_eq_true rfl, Nat.le_of_ble_eq_true rfl⟩ dL_state_4 (fun kd ce q9 I1 J1 H locs hx0 hP hD hS hce hcv hcl9 => ?_) (fun v I1 J1 H locs hf hP hD hS => ?_)
  · obtain ⟨t, h1, hf⟩ := hx _ _ _ hx0
    match t, h1, hf with
    | 0, h1, hf =>
      cases h1
      refine vx_catch (name := xN 0) (E := xN 0) S.2.2.2.1 [] ({ startPc := 0, endPc := 9, handlerPc := 12, catchType := 13 } : ExceptionTableEntry) [] ht (fun z hz => nomatch hz) (by decide) (by decide) (S.2.2.2.2 (.classLink RL 13 (xN 0)) (by decide +kernel)) (va_any rfl (hT.1 0 (by decide))) hce hcv hcl9 ?_
      refine lv_astore_n (lv' := [(3, .ref q9), (0, .ref (eA E 11 0)), (1, .int x1), (2, .ref (eA E 13 0))]) S.1 S.2.1 dL_state_12 rfl hl (by decide) rfl (fun ls hl => ?_)
      refine lv_iconst (v := 1) S.1 S.2.1 dL_state_13 rfl ?_
      exact hret hf hP hD hS dL_state_14
  · have hf := hk _ _ _ hf
    refine lv_i2l S.1 S.2.1 dL_state_7 rfl ?_
    refine nm_o hf (fun J2 eJ hf => ?_)
    refine R_last S.1 S.2.1 hK hP hD hS h13 (fun _ _ => rfl) (n := 1) (vin 0 1 (by decide) (by decide) rfl) dL_state_8 eJ (fun H locs hP hD hS => ?_)
    refine lv_goto (tgt := 15) S.1 S.2.1 dL_state_9 (by decide) ?_
    refine lv_iconst (v := 0) S.1 S.2.1 dL_state_15 rfl ?_
    exact hret hf hP hD hS dL_state_16
abbrev rmL_row : Room := { frames := rmX7_row.frames + 1, cells := 4, slots := 24, locals := 40 + rmX7_row.locals }
theorem yk_L_row : yOk yL_row RL 4 := by unfold yOk; decide +kernel
set_option maxRecDepth 100000 in
set_option maxHeartbeats 4000000 in
theorem c_L_row {l : Launch} {E : EV} {ps : List (Nat × Nat)} (hl9 : l.stackTraces = false) (h11 : ∀ r, r < 11 → (11, r) ∈ ps) (hG : ∀ k r, k < 11 → r < 16 → (k, r) ∈ ps) (hR : (eT E)[2]? = some (eG E, .object "RhymeRoofs$Game")) (h13 : (13, 0) ∈ ps) {x1 : Int32} {x2 : Int32} {I : MI} {J : MJ} {Q Q2 : Int32 → MI → MJ → Prop} {X2 : Nat → MI → MJ → Prop} (hf : f_X7_row x1 x2 I J Q2 X2) (hk : ∀ (v : Int32) (I1 : MI) (J1 : MJ), Q2 v I1 J1 → ∀ J2 : MJ, J2 = sJ J1 13 0 0 v.toInt64 → Q 0 I1 J2) (hx : ∀ (k : Nat) (I1 : MI) (J1 : MJ), X2 k I1 J1 → XL [1, 0] Q k I1 J1) : YI l yL_row wsL_row rmL_row E ps [.ref (eA E 11 0), .int x1, .int x2, .ref (eA E 13 0)] I J Q (fun _ _ _ => False) 4 24 := by
  refine Z_ofI (cc := cL_row) (maxL := 5) (hh := [(0, 10, 13, 22), (0, 10, 17, 13)]) (by decide +kernel) rfl (Nat.le_of_ble_eq_true rfl) (fun p e s m args below meth c Qm hret ht S hK hX hT => ?_)
  intro H locs ls hP hD hS hl
  refine lv_aload_n S.1 S.2.1 dL_row_0 rfl (lv_at hl 3 rfl) ?_
  refine lv_iconst (v := 0) S.1 S.2.1 dL_row_1 rfl ?_
  refine lv_aload_n S.1 S.2.1 dL_row_2 rfl (lv_at hl 0 rfl) ?_
  refine lv_iload_n S.1 S.2.1 dL_row_3 rfl (lv_at hl 1 rfl) ?_
  refine lv_iload_n S.1 S.2.1 dL_row_4 rfl (lv_at hl 2 rfl) ?_
  refine R_tVi (As := [.int x1, .int x2]) (rest := [.int 0, .ref (eA E 13 0)]) S (c_X7_row hl9 (h11 := h11) (hG := hG) (hR := hR) hf) gL_row_X7_row rfl yk_X7_row ⟨rfl, rfl⟩ ⟨Nat.le_of_ble_eq_true rfl, Nat.le_of_ble_eq_true rfl⟩ hK hP hD hS hX hT (h11 0 (by decide)) (cF_o E _ _ 0) rfl rfl hl.1 rfl (Nat.le_of_ble_eq_true rfl) ⟨Nat.le_of_ble_eq_true rfl, Nat.le_of_ble_eq_true rfl⟩ dL_row_5 (fun kd ce q9 I1 J1 H locs hx0 hP hD hS hce hcv hcl9 => ?_) (fun v I1 J1 H locs hf hP hD hS => ?_)
  · obtain ⟨t, h1, hf⟩ := hx _ _ _ hx0
    match t, h1, hf with
    | 0, h1, hf =>
      cases h1
      refine vx_catch (name := xN 1) (E := xN 1) S.2.2.2.1 [] ({ startPc := 0, endPc := 10, handlerPc := 13, catchType := 22 } : ExceptionTableEntry) [({ startPc := 0, endPc := 10, handlerPc := 17, catchType := 13 } : ExceptionTableEntry)] ht (fun z hz => nomatch hz) (by decide) (by decide) (S.2.2.2.2 (.classLink RL 22 (xN 1)) (by decide +kernel)) (va_any rfl (hT.1 1 (by decide))) hce hcv hcl9 ?_
      refine lv_astore (lv' := [(4, .ref q9), (0, .ref (eA E 11 0)), (1, .int x1), (2, .int x2), (3, .ref (eA E 13 0))]) S.1 S.2.1 dL_row_13 hl (by decide) rfl (fun ls hl => ?_)
      refine lv_iconst (v := 1) S.1 S.2.1 dL_row_15 rfl ?_
      exact hret hf hP hD hS dL_row_16
    | 1, h1, hf =>
      cases h1
      refine vx_catch (name := xN 0) (E := xN 0) S.2.2.2.1 [({ startPc := 0, endPc := 10, handlerPc := 13, catchType := 22 } : ExceptionTableEntry)] ({ startPc := 0, endPc := 10, handlerPc := 17, catchType := 13 } : ExceptionTableEntry) [] ht (by
        intro z hz
        simp only [List.mem_cons, List.not_mem_nil, or_false] at hz
        rcases hz with rfl
        exact Or.inr ⟨by decide, xN 1, S.2.2.2.2 (.classLink RL 22 (xN 1)) (by decide +kernel), hT.2.1 0 1 (by decide) (by decide) (by decide)⟩) (by decide) (by decide) (S.2.2.2.2 (.classLink RL 13 (xN 0)) (by decide +kernel)) (va_any rfl (hT.1 0 (by decide))) hce hcv hcl9 ?_
      refine lv_astore (lv' := [(4, .ref q9), (0, .ref (eA E 11 0)), (1, .int x1), (2, .int x2), (3, .ref (eA E 13 0))]) S.1 S.2.1 dL_row_17 hl (by decide) rfl (fun ls hl => ?_)
      refine lv_iconst (v := 2) S.1 S.2.1 dL_row_19 rfl ?_
      exact hret hf hP hD hS dL_row_20
  · have hf := hk _ _ _ hf
    refine lv_i2l S.1 S.2.1 dL_row_8 rfl ?_
    refine nm_o hf (fun J2 eJ hf => ?_)
    refine R_last S.1 S.2.1 hK hP hD hS h13 (fun _ _ => rfl) (n := 1) (vin 0 1 (by decide) (by decide) rfl) dL_row_9 eJ (fun H locs hP hD hS => ?_)
    refine lv_goto (tgt := 21) S.1 S.2.1 dL_row_10 (by decide) ?_
    refine lv_iconst (v := 0) S.1 S.2.1 dL_row_21 rfl ?_
    exact hret hf hP hD hS dL_row_22
abbrev rmL_player : Room := { frames := rmX7_player.frames + 1, cells := 4, slots := 24, locals := 40 + rmX7_player.locals }
theorem yk_L_player : yOk yL_player RL 4 := by unfold yOk; decide +kernel
set_option maxRecDepth 100000 in
set_option maxHeartbeats 4000000 in
theorem c_L_player {l : Launch} {E : EV} {ps : List (Nat × Nat)} (hl9 : l.stackTraces = false) (h11 : ∀ r, r < 11 → (11, r) ∈ ps) (hG : ∀ k r, k < 11 → r < 16 → (k, r) ∈ ps) (hR : (eT E)[2]? = some (eG E, .object "RhymeRoofs$Game")) (h13 : (13, 0) ∈ ps) {x1 : Int32} {x2 : Int32} {I : MI} {J : MJ} {Q Q2 : Int32 → MI → MJ → Prop} {X2 : Nat → MI → MJ → Prop} (hf : f_X7_player x1 x2 I J Q2 X2) (hk : ∀ (v : Int32) (I1 : MI) (J1 : MJ), Q2 v I1 J1 → ∀ J2 : MJ, J2 = sJ J1 13 0 0 v.toInt64 → Q 0 I1 J2) (hx : ∀ (k : Nat) (I1 : MI) (J1 : MJ), X2 k I1 J1 → XL [1, 0] Q k I1 J1) : YI l yL_player wsL_player rmL_player E ps [.ref (eA E 11 0), .int x1, .int x2, .ref (eA E 13 0)] I J Q (fun _ _ _ => False) 4 24 := by
  refine Z_ofI (cc := cL_player) (maxL := 5) (hh := [(0, 10, 13, 22), (0, 10, 17, 13)]) (by decide +kernel) rfl (Nat.le_of_ble_eq_true rfl) (fun p e s m args below meth c Qm hret ht S hK hX hT => ?_)
  intro H locs ls hP hD hS hl
  refine lv_aload_n S.1 S.2.1 dL_player_0 rfl (lv_at hl 3 rfl) ?_
  refine lv_iconst (v := 0) S.1 S.2.1 dL_player_1 rfl ?_
  refine lv_aload_n S.1 S.2.1 dL_player_2 rfl (lv_at hl 0 rfl) ?_
  refine lv_iload_n S.1 S.2.1 dL_player_3 rfl (lv_at hl 1 rfl) ?_
  refine lv_iload_n S.1 S.2.1 dL_player_4 rfl (lv_at hl 2 rfl) ?_
  refine R_tVi (As := [.int x1, .int x2]) (rest := [.int 0, .ref (eA E 13 0)]) S (c_X7_player hl9 (h11 := h11) (hG := hG) (hR := hR) hf) gL_player_X7_player rfl yk_X7_player ⟨rfl, rfl⟩ ⟨Nat.le_of_ble_eq_true rfl, Nat.le_of_ble_eq_true rfl⟩ hK hP hD hS hX hT (h11 0 (by decide)) (cF_o E _ _ 0) rfl rfl hl.1 rfl (Nat.le_of_ble_eq_true rfl) ⟨Nat.le_of_ble_eq_true rfl, Nat.le_of_ble_eq_true rfl⟩ dL_player_5 (fun kd ce q9 I1 J1 H locs hx0 hP hD hS hce hcv hcl9 => ?_) (fun v I1 J1 H locs hf hP hD hS => ?_)
  · obtain ⟨t, h1, hf⟩ := hx _ _ _ hx0
    match t, h1, hf with
    | 0, h1, hf =>
      cases h1
      refine vx_catch (name := xN 1) (E := xN 1) S.2.2.2.1 [] ({ startPc := 0, endPc := 10, handlerPc := 13, catchType := 22 } : ExceptionTableEntry) [({ startPc := 0, endPc := 10, handlerPc := 17, catchType := 13 } : ExceptionTableEntry)] ht (fun z hz => nomatch hz) (by decide) (by decide) (S.2.2.2.2 (.classLink RL 22 (xN 1)) (by decide +kernel)) (va_any rfl (hT.1 1 (by decide))) hce hcv hcl9 ?_
      refine lv_astore (lv' := [(4, .ref q9), (0, .ref (eA E 11 0)), (1, .int x1), (2, .int x2), (3, .ref (eA E 13 0))]) S.1 S.2.1 dL_player_13 hl (by decide) rfl (fun ls hl => ?_)
      refine lv_iconst (v := 1) S.1 S.2.1 dL_player_15 rfl ?_
      exact hret hf hP hD hS dL_player_16
    | 1, h1, hf =>
      cases h1
      refine vx_catch (name := xN 0) (E := xN 0) S.2.2.2.1 [({ startPc := 0, endPc := 10, handlerPc := 13, catchType := 22 } : ExceptionTableEntry)] ({ startPc := 0, endPc := 10, handlerPc := 17, catchType := 13 } : ExceptionTableEntry) [] ht (by
        intro z hz
        simp only [List.mem_cons, List.not_mem_nil, or_false] at hz
        rcases hz with rfl
        exact Or.inr ⟨by decide, xN 1, S.2.2.2.2 (.classLink RL 22 (xN 1)) (by decide +kernel), hT.2.1 0 1 (by decide) (by decide) (by decide)⟩) (by decide) (by decide) (S.2.2.2.2 (.classLink RL 13 (xN 0)) (by decide +kernel)) (va_any rfl (hT.1 0 (by decide))) hce hcv hcl9 ?_
      refine lv_astore (lv' := [(4, .ref q9), (0, .ref (eA E 11 0)), (1, .int x1), (2, .int x2), (3, .ref (eA E 13 0))]) S.1 S.2.1 dL_player_17 hl (by decide) rfl (fun ls hl => ?_)
      refine lv_iconst (v := 2) S.1 S.2.1 dL_player_19 rfl ?_
      exact hret hf hP hD hS dL_player_20
  · have hf := hk _ _ _ hf
    refine lv_i2l S.1 S.2.1 dL_player_8 rfl ?_
    refine nm_o hf (fun J2 eJ hf => ?_)
    refine R_last S.1 S.2.1 hK hP hD hS h13 (fun _ _ => rfl) (n := 1) (vin 0 1 (by decide) (by decide) rfl) dL_player_9 eJ (fun H locs hP hD hS => ?_)
    refine lv_goto (tgt := 21) S.1 S.2.1 dL_player_10 (by decide) ?_
    refine lv_iconst (v := 0) S.1 S.2.1 dL_player_21 rfl ?_
    exact hret hf hP hD hS dL_player_22
abbrev rmL_alike : Room := { frames := rmX7_alike.frames + 1, cells := 4, slots := 24, locals := 40 + rmX7_alike.locals }
theorem yk_L_alike : yOk yL_alike RL 4 := by unfold yOk; decide +kernel
set_option maxRecDepth 100000 in
set_option maxHeartbeats 4000000 in
theorem c_L_alike {l : Launch} {E : EV} {ps : List (Nat × Nat)} (hl9 : l.stackTraces = false) (h11 : ∀ r, r < 11 → (11, r) ∈ ps) (hG : ∀ k r, k < 11 → r < 16 → (k, r) ∈ ps) (hR : (eT E)[2]? = some (eG E, .object "RhymeRoofs$Game")) (h13 : (13, 0) ∈ ps) {x1 : Int32} {x2 : Int32} {I : MI} {J : MJ} {Q Q2 : Int32 → MI → MJ → Prop} {X2 : Nat → MI → MJ → Prop} (hf : f_X7_alike x1 x2 I J Q2 X2) (hk : ∀ (v : Int32) (I1 : MI) (J1 : MJ), Q2 v I1 J1 → ((v = 0 → ∀ J2 : MJ, J2 = sJ J1 13 0 0 0 → Q 0 I1 J2) ∧ (¬ v = 0 → ∀ J2 : MJ, J2 = sJ J1 13 0 0 1 → Q 0 I1 J2))) (hx : ∀ (k : Nat) (I1 : MI) (J1 : MJ), X2 k I1 J1 → XL [0] Q k I1 J1) : YI l yL_alike wsL_alike rmL_alike E ps [.ref (eA E 11 0), .int x1, .int x2, .ref (eA E 13 0)] I J Q (fun _ _ _ => False) 4 24 := by
  refine Z_ofI (cc := cL_alike) (maxL := 5) (hh := [(0, 17, 20, 13)]) (by decide +kernel) rfl (Nat.le_of_ble_eq_true rfl) (fun p e s m args below meth c Qm hret ht S hK hX hT => ?_)
  intro H locs ls hP hD hS hl
  refine lv_aload_n S.1 S.2.1 dL_alike_0 rfl (lv_at hl 3 rfl) ?_
  refine lv_iconst (v := 0) S.1 S.2.1 dL_alike_1 rfl ?_
  refine lv_aload_n S.1 S.2.1 dL_alike_2 rfl (lv_at hl 0 rfl) ?_
  refine lv_iload_n S.1 S.2.1 dL_alike_3 rfl (lv_at hl 1 rfl) ?_
  refine lv_iload_n S.1 S.2.1 dL_alike_4 rfl (lv_at hl 2 rfl) ?_
  refine R_tVi (As := [.int x1, .int x2]) (rest := [.int 0, .ref (eA E 13 0)]) S (c_X7_alike hl9 (h11 := h11) (hG := hG) (hR := hR) hf) gL_alike_X7_alike rfl yk_X7_alike ⟨rfl, rfl⟩ ⟨Nat.le_of_ble_eq_true rfl, Nat.le_of_ble_eq_true rfl⟩ hK hP hD hS hX hT (h11 0 (by decide)) (cF_o E _ _ 0) rfl rfl hl.1 rfl (Nat.le_of_ble_eq_true rfl) ⟨Nat.le_of_ble_eq_true rfl, Nat.le_of_ble_eq_true rfl⟩ dL_alike_5 (fun kd ce q9 I1 J1 H locs hx0 hP hD hS hce hcv hcl9 => ?_) (fun v I1 J1 H locs hf hP hD hS => ?_)
  · obtain ⟨t, h1, hf⟩ := hx _ _ _ hx0
    match t, h1, hf with
    | 0, h1, hf =>
      cases h1
      refine vx_catch (name := xN 0) (E := xN 0) S.2.2.2.1 [] ({ startPc := 0, endPc := 17, handlerPc := 20, catchType := 13 } : ExceptionTableEntry) [] ht (fun z hz => nomatch hz) (by decide) (by decide) (S.2.2.2.2 (.classLink RL 13 (xN 0)) (by decide +kernel)) (va_any rfl (hT.1 0 (by decide))) hce hcv hcl9 ?_
      refine lv_astore (lv' := [(4, .ref q9), (0, .ref (eA E 11 0)), (1, .int x1), (2, .int x2), (3, .ref (eA E 13 0))]) S.1 S.2.1 dL_alike_20 hl (by decide) rfl (fun ls hl => ?_)
      refine lv_iconst (v := 1) S.1 S.2.1 dL_alike_22 rfl ?_
      exact hret hf hP hD hS dL_alike_23
  · have hf := hk _ _ _ hf
    refine lv_if_eq (tgt := 15) S.1 S.2.1 dL_alike_8 (by decide) (fun h => ?_) (fun h => ?_)
    · have hf := hf.1 h
      refine lv_lconst (v := 0) S.1 S.2.1 dL_alike_15 rfl ?_
      refine nm_o hf (fun J2 eJ hf => ?_)
      refine R_last S.1 S.2.1 hK hP hD hS h13 (fun _ _ => rfl) (n := 1) (vin 0 1 (by decide) (by decide) rfl) dL_alike_16 eJ (fun H locs hP hD hS => ?_)
      refine lv_goto (tgt := 24) S.1 S.2.1 dL_alike_17 (by decide) ?_
      refine lv_iconst (v := 0) S.1 S.2.1 dL_alike_24 rfl ?_
      exact hret hf hP hD hS dL_alike_25
    · have hf := hf.2 h
      refine lv_lconst (v := 1) S.1 S.2.1 dL_alike_11 rfl ?_
      refine lv_goto (tgt := 16) S.1 S.2.1 dL_alike_12 (by decide) ?_
      refine nm_o hf (fun J2 eJ hf => ?_)
      refine R_last S.1 S.2.1 hK hP hD hS h13 (fun _ _ => rfl) (n := 1) (vin 0 1 (by decide) (by decide) rfl) dL_alike_16 eJ (fun H locs hP hD hS => ?_)
      refine lv_goto (tgt := 24) S.1 S.2.1 dL_alike_17 (by decide) ?_
      refine lv_iconst (v := 0) S.1 S.2.1 dL_alike_24 rfl ?_
      exact hret hf hP hD hS dL_alike_25
abbrev rmL_rhyme : Room := { frames := rmX7_rhyme.frames + 1, cells := 4, slots := 24, locals := 40 + rmX7_rhyme.locals }
theorem yk_L_rhyme : yOk yL_rhyme RL 5 := by unfold yOk; decide +kernel
set_option maxRecDepth 100000 in
set_option maxHeartbeats 4000000 in
theorem c_L_rhyme {l : Launch} {E : EV} {ps : List (Nat × Nat)} (hl9 : l.stackTraces = false) (h11 : ∀ r, r < 11 → (11, r) ∈ ps) (hG : ∀ k r, k < 11 → r < 16 → (k, r) ∈ ps) (hR : (eT E)[2]? = some (eG E, .object "RhymeRoofs$Game")) (h13 : (13, 0) ∈ ps) {x1 : Int32} {x2 : Int32} {x3 : Int32} {I : MI} {J : MJ} {Q Q2 : Int32 → MI → MJ → Prop} {X2 : Nat → MI → MJ → Prop} (hf : f_X7_rhyme x1 x2 x3 I J Q2 X2) (hk : ∀ (v : Int32) (I1 : MI) (J1 : MJ), Q2 v I1 J1 → ∀ J2 : MJ, J2 = sJ J1 13 0 0 v.toInt64 → Q 0 I1 J2) (hx : ∀ (k : Nat) (I1 : MI) (J1 : MJ), X2 k I1 J1 → XL [1] Q k I1 J1) : YI l yL_rhyme wsL_rhyme rmL_rhyme E ps [.ref (eA E 11 0), .int x1, .int x2, .int x3, .ref (eA E 13 0)] I J Q (fun _ _ _ => False) 4 24 := by
  refine Z_ofI (cc := cL_rhyme) (maxL := 6) (hh := [(0, 12, 15, 22)]) (by decide +kernel) rfl (Nat.le_of_ble_eq_true rfl) (fun p e s m args below meth c Qm hret ht S hK hX hT => ?_)
  intro H locs ls hP hD hS hl
  refine lv_aload S.1 S.2.1 dL_rhyme_0 (lv_at hl 4 rfl) ?_
  refine lv_iconst (v := 0) S.1 S.2.1 dL_rhyme_2 rfl ?_
  refine lv_aload_n S.1 S.2.1 dL_rhyme_3 rfl (lv_at hl 0 rfl) ?_
  refine lv_iload_n S.1 S.2.1 dL_rhyme_4 rfl (lv_at hl 1 rfl) ?_
  refine lv_iload_n S.1 S.2.1 dL_rhyme_5 rfl (lv_at hl 2 rfl) ?_
  refine lv_iload_n S.1 S.2.1 dL_rhyme_6 rfl (lv_at hl 3 rfl) ?_
  refine R_tVi (As := [.int x1, .int x2, .int x3]) (rest := [.int 0, .ref (eA E 13 0)]) S (c_X7_rhyme hl9 (h11 := h11) (hG := hG) (hR := hR) hf) gL_rhyme_X7_rhyme rfl yk_X7_rhyme ⟨rfl, rfl⟩ ⟨Nat.le_of_ble_eq_true rfl, Nat.le_of_ble_eq_true rfl⟩ hK hP hD hS hX hT (h11 0 (by decide)) (cF_o E _ _ 0) rfl rfl hl.1 rfl (Nat.le_of_ble_eq_true rfl) ⟨Nat.le_of_ble_eq_true rfl, Nat.le_of_ble_eq_true rfl⟩ dL_rhyme_7 (fun kd ce q9 I1 J1 H locs hx0 hP hD hS hce hcv hcl9 => ?_) (fun v I1 J1 H locs hf hP hD hS => ?_)
  · obtain ⟨t, h1, hf⟩ := hx _ _ _ hx0
    match t, h1, hf with
    | 0, h1, hf =>
      cases h1
      refine vx_catch (name := xN 1) (E := xN 1) S.2.2.2.1 [] ({ startPc := 0, endPc := 12, handlerPc := 15, catchType := 22 } : ExceptionTableEntry) [] ht (fun z hz => nomatch hz) (by decide) (by decide) (S.2.2.2.2 (.classLink RL 22 (xN 1)) (by decide +kernel)) (va_any rfl (hT.1 1 (by decide))) hce hcv hcl9 ?_
      refine lv_astore (lv' := [(5, .ref q9), (0, .ref (eA E 11 0)), (1, .int x1), (2, .int x2), (3, .int x3), (4, .ref (eA E 13 0))]) S.1 S.2.1 dL_rhyme_15 hl (by decide) rfl (fun ls hl => ?_)
      refine lv_iconst (v := 1) S.1 S.2.1 dL_rhyme_17 rfl ?_
      exact hret hf hP hD hS dL_rhyme_18
  · have hf := hk _ _ _ hf
    refine lv_i2l S.1 S.2.1 dL_rhyme_10 rfl ?_
    refine nm_o hf (fun J2 eJ hf => ?_)
    refine R_last S.1 S.2.1 hK hP hD hS h13 (fun _ _ => rfl) (n := 1) (vin 0 1 (by decide) (by decide) rfl) dL_rhyme_11 eJ (fun H locs hP hD hS => ?_)
    refine lv_goto (tgt := 19) S.1 S.2.1 dL_rhyme_12 (by decide) ?_
    refine lv_iconst (v := 0) S.1 S.2.1 dL_rhyme_19 rfl ?_
    exact hret hf hP hD hS dL_rhyme_20
abbrev rmL_why : Room := { frames := rmX7_why.frames + 1, cells := 4, slots := 24, locals := 40 + rmX7_why.locals }
theorem yk_L_why : yOk yL_why RL 4 := by unfold yOk; decide +kernel
set_option maxRecDepth 100000 in
set_option maxHeartbeats 4000000 in
theorem c_L_why {l : Launch} {E : EV} {ps : List (Nat × Nat)} (hl9 : l.stackTraces = false) (h11 : ∀ r, r < 11 → (11, r) ∈ ps) (hG : ∀ k r, k < 11 → r < 16 → (k, r) ∈ ps) (hR : (eT E)[2]? = some (eG E, .object "RhymeRoofs$Game")) (h13 : (13, 0) ∈ ps) {x1 : Int32} {x2 : Int32} {I : MI} {J : MJ} {Q Q2 : Int32 → MI → MJ → Prop} {X2 : Nat → MI → MJ → Prop} (hf : f_X7_why x1 x2 I J Q2 X2) (hk : ∀ (v : Int32) (I1 : MI) (J1 : MJ), Q2 v I1 J1 → ∀ J2 : MJ, J2 = sJ J1 13 0 0 v.toInt64 → Q 0 I1 J2) (hx : ∀ (k : Nat) (I1 : MI) (J1 : MJ), X2 k I1 J1 → XL [1] Q k I1 J1) : YI l yL_why wsL_why rmL_why E ps [.ref (eA E 11 0), .int x1, .int x2, .ref (eA E 13 0)] I J Q (fun _ _ _ => False) 4 24 := by
  refine Z_ofI (cc := cL_why) (maxL := 5) (hh := [(0, 10, 13, 22)]) (by decide +kernel) rfl (Nat.le_of_ble_eq_true rfl) (fun p e s m args below meth c Qm hret ht S hK hX hT => ?_)
  intro H locs ls hP hD hS hl
  refine lv_aload_n S.1 S.2.1 dL_why_0 rfl (lv_at hl 3 rfl) ?_
  refine lv_iconst (v := 0) S.1 S.2.1 dL_why_1 rfl ?_
  refine lv_aload_n S.1 S.2.1 dL_why_2 rfl (lv_at hl 0 rfl) ?_
  refine lv_iload_n S.1 S.2.1 dL_why_3 rfl (lv_at hl 1 rfl) ?_
  refine lv_iload_n S.1 S.2.1 dL_why_4 rfl (lv_at hl 2 rfl) ?_
  refine R_tVi (As := [.int x1, .int x2]) (rest := [.int 0, .ref (eA E 13 0)]) S (c_X7_why hl9 (h11 := h11) (hG := hG) (hR := hR) hf) gL_why_X7_why rfl yk_X7_why ⟨rfl, rfl⟩ ⟨Nat.le_of_ble_eq_true rfl, Nat.le_of_ble_eq_true rfl⟩ hK hP hD hS hX hT (h11 0 (by decide)) (cF_o E _ _ 0) rfl rfl hl.1 rfl (Nat.le_of_ble_eq_true rfl) ⟨Nat.le_of_ble_eq_true rfl, Nat.le_of_ble_eq_true rfl⟩ dL_why_5 (fun kd ce q9 I1 J1 H locs hx0 hP hD hS hce hcv hcl9 => ?_) (fun v I1 J1 H locs hf hP hD hS => ?_)
  · obtain ⟨t, h1, hf⟩ := hx _ _ _ hx0
    match t, h1, hf with
    | 0, h1, hf =>
      cases h1
      refine vx_catch (name := xN 1) (E := xN 1) S.2.2.2.1 [] ({ startPc := 0, endPc := 10, handlerPc := 13, catchType := 22 } : ExceptionTableEntry) [] ht (fun z hz => nomatch hz) (by decide) (by decide) (S.2.2.2.2 (.classLink RL 22 (xN 1)) (by decide +kernel)) (va_any rfl (hT.1 1 (by decide))) hce hcv hcl9 ?_
      refine lv_astore (lv' := [(4, .ref q9), (0, .ref (eA E 11 0)), (1, .int x1), (2, .int x2), (3, .ref (eA E 13 0))]) S.1 S.2.1 dL_why_13 hl (by decide) rfl (fun ls hl => ?_)
      refine lv_iconst (v := 1) S.1 S.2.1 dL_why_15 rfl ?_
      exact hret hf hP hD hS dL_why_16
  · have hf := hk _ _ _ hf
    refine lv_i2l S.1 S.2.1 dL_why_8 rfl ?_
    refine nm_o hf (fun J2 eJ hf => ?_)
    refine R_last S.1 S.2.1 hK hP hD hS h13 (fun _ _ => rfl) (n := 1) (vin 0 1 (by decide) (by decide) rfl) dL_why_9 eJ (fun H locs hP hD hS => ?_)
    refine lv_goto (tgt := 17) S.1 S.2.1 dL_why_10 (by decide) ?_
    refine lv_iconst (v := 0) S.1 S.2.1 dL_why_17 rfl ?_
    exact hret hf hP hD hS dL_why_18
abbrev rmL_chain : Room := { frames := rmX7_chain.frames + 1, cells := 4, slots := 24, locals := 40 + rmX7_chain.locals }
theorem yk_L_chain : yOk yL_chain RL 4 := by unfold yOk; decide +kernel
set_option maxRecDepth 100000 in
set_option maxHeartbeats 4000000 in
theorem c_L_chain {l : Launch} {E : EV} {ps : List (Nat × Nat)} (hl9 : l.stackTraces = false) (h11 : ∀ r, r < 11 → (11, r) ∈ ps) (hG : ∀ k r, k < 11 → r < 16 → (k, r) ∈ ps) (hR : (eT E)[2]? = some (eG E, .object "RhymeRoofs$Game")) (h13 : (13, 0) ∈ ps) {x1 : Int32} {x2 : Int32} {I : MI} {J : MJ} {Q Q2 : Int32 → MI → MJ → Prop} {X2 : Nat → MI → MJ → Prop} (hf : f_X7_chain x1 x2 I J Q2 X2) (hk : ∀ (v : Int32) (I1 : MI) (J1 : MJ), Q2 v I1 J1 → ∀ J2 : MJ, J2 = sJ J1 13 0 0 v.toInt64 → Q 0 I1 J2) (hx : ∀ (k : Nat) (I1 : MI) (J1 : MJ), X2 k I1 J1 → XL [1] Q k I1 J1) : YI l yL_chain wsL_chain rmL_chain E ps [.ref (eA E 11 0), .int x1, .int x2, .ref (eA E 13 0)] I J Q (fun _ _ _ => False) 4 24 := by
  refine Z_ofI (cc := cL_chain) (maxL := 5) (hh := [(0, 10, 13, 22)]) (by decide +kernel) rfl (Nat.le_of_ble_eq_true rfl) (fun p e s m args below meth c Qm hret ht S hK hX hT => ?_)
  intro H locs ls hP hD hS hl
  refine lv_aload_n S.1 S.2.1 dL_chain_0 rfl (lv_at hl 3 rfl) ?_
  refine lv_iconst (v := 0) S.1 S.2.1 dL_chain_1 rfl ?_
  refine lv_aload_n S.1 S.2.1 dL_chain_2 rfl (lv_at hl 0 rfl) ?_
  refine lv_iload_n S.1 S.2.1 dL_chain_3 rfl (lv_at hl 1 rfl) ?_
  refine lv_iload_n S.1 S.2.1 dL_chain_4 rfl (lv_at hl 2 rfl) ?_
  refine R_tVi (As := [.int x1, .int x2]) (rest := [.int 0, .ref (eA E 13 0)]) S (c_X7_chain hl9 (h11 := h11) (hG := hG) (hR := hR) hf) gL_chain_X7_chain rfl yk_X7_chain ⟨rfl, rfl⟩ ⟨Nat.le_of_ble_eq_true rfl, Nat.le_of_ble_eq_true rfl⟩ hK hP hD hS hX hT (h11 0 (by decide)) (cF_o E _ _ 0) rfl rfl hl.1 rfl (Nat.le_of_ble_eq_true rfl) ⟨Nat.le_of_ble_eq_true rfl, Nat.le_of_ble_eq_true rfl⟩ dL_chain_5 (fun kd ce q9 I1 J1 H locs hx0 hP hD hS hce hcv hcl9 => ?_) (fun v I1 J1 H locs hf hP hD hS => ?_)
  · obtain ⟨t, h1, hf⟩ := hx _ _ _ hx0
    match t, h1, hf with
    | 0, h1, hf =>
      cases h1
      refine vx_catch (name := xN 1) (E := xN 1) S.2.2.2.1 [] ({ startPc := 0, endPc := 10, handlerPc := 13, catchType := 22 } : ExceptionTableEntry) [] ht (fun z hz => nomatch hz) (by decide) (by decide) (S.2.2.2.2 (.classLink RL 22 (xN 1)) (by decide +kernel)) (va_any rfl (hT.1 1 (by decide))) hce hcv hcl9 ?_
      refine lv_astore (lv' := [(4, .ref q9), (0, .ref (eA E 11 0)), (1, .int x1), (2, .int x2), (3, .ref (eA E 13 0))]) S.1 S.2.1 dL_chain_13 hl (by decide) rfl (fun ls hl => ?_)
      refine lv_iconst (v := 1) S.1 S.2.1 dL_chain_15 rfl ?_
      exact hret hf hP hD hS dL_chain_16
  · have hf := hk _ _ _ hf
    refine lv_i2l S.1 S.2.1 dL_chain_8 rfl ?_
    refine nm_o hf (fun J2 eJ hf => ?_)
    refine R_last S.1 S.2.1 hK hP hD hS h13 (fun _ _ => rfl) (n := 1) (vin 0 1 (by decide) (by decide) rfl) dL_chain_9 eJ (fun H locs hP hD hS => ?_)
    refine lv_goto (tgt := 17) S.1 S.2.1 dL_chain_10 (by decide) ?_
    refine lv_iconst (v := 0) S.1 S.2.1 dL_chain_17 rfl ?_
    exact hret hf hP hD hS dL_chain_18
