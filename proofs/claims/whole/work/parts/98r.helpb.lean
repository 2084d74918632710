abbrev rmL_worth : Room := { frames := rmX7_worth.frames + 1, cells := 4, slots := 24, locals := 40 + rmX7_worth.locals }
theorem yk_L_worth : yOk yL_worth RL 4 := by unfold yOk; decide +kernel
set_option maxRecDepth 100000 in
set_option maxHeartbeats 4000000 in
theorem c_L_worth {l : Launch} {E : EV} {ps : List (Nat × Nat)} (hl9 : l.stackTraces = false) (h11 : ∀ r, r < 11 → (11, r) ∈ ps) (hG : ∀ k r, k < 11 → r < 16 → (k, r) ∈ ps) (hR : (eT E)[2]? = some (eG E, .object "RhymeRoofs$Game")) (h13 : (13, 0) ∈ ps) {x1 : Int32} {x2 : Int32} {I : MI} {J : MJ} {Q Q2 : Int32 → MI → MJ → Prop} {X2 : Nat → MI → MJ → Prop} (hf : f_X7_worth x1 x2 I J Q2 X2) (hk : ∀ (v : Int32) (I1 : MI) (J1 : MJ), Q2 v I1 J1 → ∀ J2 : MJ, J2 = sJ J1 13 0 0 v.toInt64 → Q 0 I1 J2) (hx : ∀ (k : Nat) (I1 : MI) (J1 : MJ), X2 k I1 J1 → XL [1] Q k I1 J1) : YI l yL_worth wsL_worth rmL_worth E ps [.ref (eA E 11 0), .int x1, .int x2, .ref (eA E 13 0)] I J Q (fun _ _ _ => False) 4 24 := by
  refine Z_ofI (cc := cL_worth) (maxL := 5) (hh := [(0, 10, 13, 22)]) (by decide +kernel) rfl (Nat.le_of_ble_eq_true rfl) (fun p e s m args below meth c Qm hret ht S hK hX hT => ?_)
  intro H locs ls hP hD hS hl
  refine lv_aload_n S.1 S.2.1 dL_worth_0 rfl (lv_at hl 3 rfl) ?_
  refine lv_iconst (v := 0) S.1 S.2.1 dL_worth_1 rfl ?_
  refine lv_aload_n S.1 S.2.1 dL_worth_2 rfl (lv_at hl 0 rfl) ?_
  refine lv_iload_n S.1 S.2.1 dL_worth_3 rfl (lv_at hl 1 rfl) ?_
  refine lv_iload_n S.1 S.2.1 dL_worth_4 rfl (lv_at hl 2 rfl) ?_
  refine R_tVi (As := [.int x1, .int x2]) (rest := [.int 0, .ref (eA E 13 0)]) S (c_X7_worth hl9 (h11 := h11) (hG := hG) (hR := hR) hf) gL_worth_X7_worth rfl yk_X7_worth ⟨rfl, rfl⟩ ⟨Nat.le_of_ble_eq_true rfl, Nat.le_of_ble_eq_true rfl⟩ hK hP hD hS hX hT (h11 0 (by decide)) (cF_o E _ _ 0) rfl rfl hl.1 rfl (Nat.le_of_ble_eq_true rfl) ⟨Nat.le_of_ble_eq_true rfl, Nat.le_of_ble_eq_true rfl⟩ dL_worth_5 (fun kd ce q9 I1 J1 H locs hx0 hP hD hS hce hcv hcl9 => ?_) (fun v I1 J1 H locs hf hP hD hS => ?_)
  · obtain ⟨t, h1, hf⟩ := hx _ _ _ hx0
    match t, h1, hf with
    | 0, h1, hf =>
      cases h1
      refine vx_catch (name := xN 1) (E := xN 1) S.2.2.2.1 [] ({ startPc := 0, endPc := 10, handlerPc := 13, catchType := 22 } : ExceptionTableEntry) [] ht (fun z hz => nomatch hz) (by decide) (by decide) (S.2.2.2.2 (.classLink RL 22 (xN 1)) (by decide +kernel)) (va_any rfl (hT.1 1 (by decide))) hce hcv hcl9 ?_
      refine lv_astore (lv' := [(4, .ref q9), (0, .ref (eA E 11 0)), (1, .int x1), (2, .int x2), (3, .ref (eA E 13 0))]) S.1 S.2.1 dL_worth_13 hl (by decide) rfl (fun ls hl => ?_)
      refine lv_iconst (v := 1) S.1 S.2.1 dL_worth_15 rfl ?_
      exact hret hf hP hD hS dL_worth_16
  · have hf := hk _ _ _ hf
    refine lv_i2l S.1 S.2.1 dL_worth_8 rfl ?_
    refine nm_o hf (fun J2 eJ hf => ?_)
    refine R_last S.1 S.2.1 hK hP hD hS h13 (fun _ _ => rfl) (n := 1) (vin 0 1 (by decide) (by decide) rfl) dL_worth_9 eJ (fun H locs hP hD hS => ?_)
    refine lv_goto (tgt := 17) S.1 S.2.1 dL_worth_10 (by decide) ?_
    refine lv_iconst (v := 0) S.1 S.2.1 dL_worth_17 rfl ?_
    exact hret hf hP hD hS dL_worth_18
abbrev rmL_fillings : Room := { frames := rmX7_fillings.frames + 1, cells := 4, slots := 24, locals := 40 + rmX7_fillings.locals }
theorem yk_L_fillings : yOk yL_fillings RL 4 := by unfold yOk; decide +kernel
set_option maxRecDepth 100000 in
set_option maxHeartbeats 4000000 in
theorem c_L_fillings {l : Launch} {E : EV} {ps : List (Nat × Nat)} (hl9 : l.stackTraces = false) (h11 : ∀ r, r < 11 → (11, r) ∈ ps) (hG : ∀ k r, k < 11 → r < 16 → (k, r) ∈ ps) (hR : (eT E)[2]? = some (eG E, .object "RhymeRoofs$Game")) (h13 : (13, 0) ∈ ps) {x1 : Int32} {x2 : Int32} {I : MI} {J : MJ} {Q Q2 : Int32 → MI → MJ → Prop} {X2 : Nat → MI → MJ → Prop} (hf : f_X7_fillings x1 x2 I J Q2 X2) (hk : ∀ (v : Int32) (I1 : MI) (J1 : MJ), Q2 v I1 J1 → ∀ J2 : MJ, J2 = sJ J1 13 0 0 v.toInt64 → Q 0 I1 J2) (hx : ∀ (k : Nat) (I1 : MI) (J1 : MJ), X2 k I1 J1 → XL [1] Q k I1 J1) : YI l yL_fillings wsL_fillings rmL_fillings E ps [.ref (eA E 11 0), .int x1, .int x2, .ref (eA E 13 0)] I J Q (fun _ _ _ => False) 4 24 := by
  refine Z_ofI (cc := cL_fillings) (maxL := 5) (hh := [(0, 10, 13, 22)]) (by decide +kernel) rfl (Nat.le_of_ble_eq_true rfl) (fun p e s m args below meth c Qm hret ht S hK hX hT => ?_)
  intro H locs ls hP hD hS hl
  refine lv_aload_n S.1 S.2.1 dL_fillings_0 rfl (lv_at hl 3 rfl) ?_
  refine lv_iconst (v := 0) S.1 S.2.1 dL_fillings_1 rfl ?_
  refine lv_aload_n S.1 S.2.1 dL_fillings_2 rfl (lv_at hl 0 rfl) ?_
  refine lv_iload_n S.1 S.2.1 dL_fillings_3 rfl (lv_at hl 1 rfl) ?_
  refine lv_iload_n S.1 S.2.1 dL_fillings_4 rfl (lv_at hl 2 rfl) ?_
  refine R_tVi (As := [.int x1, .int x2]) (rest := [.int 0, .ref (eA E 13 0)]) S (c_X7_fillings hl9 (h11 := h11) (hG := hG) (hR := hR) hf) gL_fillings_X7_fillings rfl yk_X7_fillings ⟨rfl, rfl⟩ ⟨Nat.le_of_ble_eq_true rfl, Nat.le_of_ble_eq_true rfl⟩ hK hP hD hS hX hT (h11 0 (by decide)) (cF_o E _ _ 0) rfl rfl hl.1 rfl (Nat.le_of_ble_eq_true rfl) ⟨Nat.le_of_ble_eq_true rfl, Nat.le_of_ble_eq_true rfl⟩ dL_fillings_5 (fun kd ce q9 I1 J1 H locs hx0 hP hD hS hce hcv hcl9 => ?_) (fun v I1 J1 H locs hf hP hD hS => ?_)
  · obtain ⟨t, h1, hf⟩ := hx _ _ _ hx0
    match t, h1, hf with
    | 0, h1, hf =>
      cases h1
      refine vx_catch (name := xN 1) (E := xN 1) S.2.2.2.1 [] ({ startPc := 0, endPc := 10, handlerPc := 13, catchType := 22 } : ExceptionTableEntry) [] ht (fun z hz => nomatch hz) (by decide) (by decide) (S.2.2.2.2 (.classLink RL 22 (xN 1)) (by decide +kernel)) (va_any rfl (hT.1 1 (by decide))) hce hcv hcl9 ?_
      refine lv_astore (lv' := [(4, .ref q9), (0, .ref (eA E 11 0)), (1, .int x1), (2, .int x2), (3, .ref (eA E 13 0))]) S.1 S.2.1 dL_fillings_13 hl (by decide) rfl (fun ls hl => ?_)
      refine lv_iconst (v := 1) S.1 S.2.1 dL_fillings_15 rfl ?_
      exact hret hf hP hD hS dL_fillings_16
  · have hf := hk _ _ _ hf
    refine lv_i2l S.1 S.2.1 dL_fillings_8 rfl ?_
    refine nm_o hf (fun J2 eJ hf => ?_)
    refine R_last S.1 S.2.1 hK hP hD hS h13 (fun _ _ => rfl) (n := 1) (vin 0 1 (by decide) (by decide) rfl) dL_fillings_9 eJ (fun H locs hP hD hS => ?_)
    refine lv_goto (tgt := 17) S.1 S.2.1 dL_fillings_10 (by decide) ?_
    refine lv_iconst (v := 0) S.1 S.2.1 dL_fillings_17 rfl ?_
    exact hret hf hP hD hS dL_fillings_18
abbrev rmL_threats : Room := { frames := rmX7_threats.frames + 1, cells := 4, slots := 24, locals := 40 + rmX7_threats.locals }
theorem yk_L_threats : yOk yL_threats RL 3 := by unfold yOk; decide +kernel
set_option maxRecDepth 100000 in
set_option maxHeartbeats 4000000 in
theorem c_L_threats {l : Launch} {E : EV} {ps : List (Nat × Nat)} (hl9 : l.stackTraces = false) (h11 : ∀ r, r < 11 → (11, r) ∈ ps) (hG : ∀ k r, k < 11 → r < 16 → (k, r) ∈ ps) (hR : (eT E)[2]? = some (eG E, .object "RhymeRoofs$Game")) (h13 : (13, 0) ∈ ps) {x1 : Int32} {I : MI} {J : MJ} {Q Q2 : Int32 → MI → MJ → Prop} {X2 : Nat → MI → MJ → Prop} (hf : f_X7_threats x1 I J Q2 X2) (hk : ∀ (v : Int32) (I1 : MI) (J1 : MJ), Q2 v I1 J1 → ∀ J2 : MJ, J2 = sJ J1 13 0 0 v.toInt64 → Q 0 I1 J2) (hx : ∀ (k : Nat) (I1 : MI) (J1 : MJ), X2 k I1 J1 → XL [1] Q k I1 J1) : YI l yL_threats wsL_threats rmL_threats E ps [.ref (eA E 11 0), .int x1, .ref (eA E 13 0)] I J Q (fun _ _ _ => False) 4 24 := by
  refine Z_ofI (cc := cL_threats) (maxL := 4) (hh := [(0, 9, 12, 22)]) (by decide +kernel) rfl (Nat.le_of_ble_eq_true rfl) (fun p e s m args below meth c Qm hret ht S hK hX hT => ?_)
  intro H locs ls hP hD hS hl
  refine lv_aload_n S.1 S.2.1 dL_threats_0 rfl (lv_at hl 2 rfl) ?_
  refine lv_iconst (v := 0) S.1 S.2.1 dL_threats_1 rfl ?_
  refine lv_aload_n S.1 S.2.1 dL_threats_2 rfl (lv_at hl 0 rfl) ?_
  refine lv_iload_n S.1 S.2.1 dL_threats_3 rfl (lv_at hl 1 rfl) ?_
  refine R_tVi (As := [.int x1]) (rest := [.int 0, .ref (eA E 13 0)]) S (c_X7_threats hl9 (h11 := h11) (hG := hG) (hR := hR) hf) gL_threats_X7_threats rfl yk_X7_threats ⟨rfl, rfl⟩ ⟨Nat.le_of_ble_eq_true rfl, Nat.le_of_ble_eq_true rfl⟩ hK hP hD hS hX hT (h11 0 (by decide)) (cF_o E _ _ 0) rfl rfl hl.1 rfl (Nat.le_of_ble_eq_true rfl) ⟨Nat.le_of_ble_eq_true rfl, Nat.le_of_ble_eq_true rfl⟩ dL_threats_4 (fun kd ce q9 I1 J1 H locs hx0 hP hD hS hce hcv hcl9 => ?_) (fun v I1 J1 H locs hf hP hD hS => ?_)
  · obtain ⟨t, h1, hf⟩ := hx _ _ _ hx0
    match t, h1, hf with
    | 0, h1, hf =>
      cases h1
      refine vx_catch (name := xN 1) (E := xN 1) S.2.2.2.1 [] ({ startPc := 0, endPc := 9, handlerPc := 12, catchType := 22 } : ExceptionTableEntry) [] ht (fun z hz => nomatch hz) (by decide) (by decide) (S.2.2.2.2 (.classLink RL 22 (xN 1)) (by decide +kernel)) (va_any rfl (hT.1 1 (by decide))) hce hcv hcl9 ?_
      refine lv_astore_n (lv' := [(3, .ref q9), (0, .ref (eA E 11 0)), (1, .int x1), (2, .ref (eA E 13 0))]) S.1 S.2.1 dL_threats_12 rfl hl (by decide) rfl (fun ls hl => ?_)
      refine lv_iconst (v := 1) S.1 S.2.1 dL_threats_13 rfl ?_
      exact hret hf hP hD hS dL_threats_14
  · have hf := hk _ _ _ hf
    refine lv_i2l S.1 S.2.1 dL_threats_7 rfl ?_
    refine nm_o hf (fun J2 eJ hf => ?_)
    refine R_last S.1 S.2.1 hK hP hD hS h13 (fun _ _ => rfl) (n := 1) (vin 0 1 (by decide) (by decide) rfl) dL_threats_8 eJ (fun H locs hP hD hS => ?_)
    refine lv_goto (tgt := 15) S.1 S.2.1 dL_threats_9 (by decide) ?_
    refine lv_iconst (v := 0) S.1 S.2.1 dL_threats_15 rfl ?_
    exact hret hf hP hD hS dL_threats_16
abbrev rmL_lay : Room := { frames := rmX7_lay.frames + 1, cells := 4, slots := 24, locals := 40 + rmX7_lay.locals }
theorem yk_L_lay : yOk yL_lay RL 4 := by unfold yOk; decide +kernel
set_option maxRecDepth 100000 in
set_option maxHeartbeats 4000000 in
theorem c_L_lay {l : Launch} {E : EV} {ps : List (Nat × Nat)} (hl9 : l.stackTraces = false) (h11 : ∀ r, r < 11 → (11, r) ∈ ps) (hG : ∀ k r, k < 11 → r < 16 → (k, r) ∈ ps) (hR : (eT E)[2]? = some (eG E, .object "RhymeRoofs$Game")) (h13 : (13, 0) ∈ ps) {x1 : Int32} {x2 : Int32} {I : MI} {J : MJ} {Q Q2 : Int32 → MI → MJ → Prop} {X2 : Nat → MI → MJ → Prop} (hf : f_X7_lay x1 x2 I J Q2 X2) (hk : ∀ (v : Int32) (I1 : MI) (J1 : MJ), Q2 v I1 J1 → ∀ J2 : MJ, J2 = sJ J1 13 0 0 v.toInt64 → Q 0 I1 J2) (hx : ∀ (k : Nat) (I1 : MI) (J1 : MJ), X2 k I1 J1 → XL [1, 3] Q k I1 J1) : YI l yL_lay wsL_lay rmL_lay E ps [.ref (eA E 11 0), .int x1, .int x2, .ref (eA E 13 0)] I J Q (fun _ _ _ => False) 4 24 := by
  refine Z_ofI (cc := cL_lay) (maxL := 5) (hh := [(0, 10, 13, 22), (0, 10, 17, 64)]) (by decide +kernel) rfl (Nat.le_of_ble_eq_true rfl) (fun p e s m args below meth c Qm hret ht S hK hX hT => ?_)
  intro H locs ls hP hD hS hl
  refine lv_aload_n S.1 S.2.1 dL_lay_0 rfl (lv_at hl 3 rfl) ?_
  refine lv_iconst (v := 0) S.1 S.2.1 dL_lay_1 rfl ?_
  refine lv_aload_n S.1 S.2.1 dL_lay_2 rfl (lv_at hl 0 rfl) ?_
  refine lv_iload_n S.1 S.2.1 dL_lay_3 rfl (lv_at hl 1 rfl) ?_
  refine lv_iload_n S.1 S.2.1 dL_lay_4 rfl (lv_at hl 2 rfl) ?_
  refine R_tVi (As := [.int x1, .int x2]) (rest := [.int 0, .ref (eA E 13 0)]) S (c_X7_lay hl9 (h11 := h11) (hG := hG) (hR := hR) hf) gL_lay_X7_lay rfl yk_X7_lay ⟨rfl, rfl⟩ ⟨Nat.le_of_ble_eq_true rfl, Nat.le_of_ble_eq_true rfl⟩ hK hP hD hS hX hT (h11 0 (by decide)) (cF_o E _ _ 0) rfl rfl hl.1 rfl (Nat.le_of_ble_eq_true rfl) ⟨Nat.le_of_ble_eq_true rfl, Nat.le_of_ble_eq_true rfl⟩ dL_lay_5 (fun kd ce q9 I1 J1 H locs hx0 hP hD hS hce hcv hcl9 => ?_) (fun v I1 J1 H locs hf hP hD hS => ?_)
  · obtain ⟨t, h1, hf⟩ := hx _ _ _ hx0
    match t, h1, hf with
    | 0, h1, hf =>
      cases h1
      refine vx_catch (name := xN 1) (E := xN 1) S.2.2.2.1 [] ({ startPc := 0, endPc := 10, handlerPc := 13, catchType := 22 } : ExceptionTableEntry) [({ startPc := 0, endPc := 10, handlerPc := 17, catchType := 64 } : ExceptionTableEntry)] ht (fun z hz => nomatch hz) (by decide) (by decide) (S.2.2.2.2 (.classLink RL 22 (xN 1)) (by decide +kernel)) (va_any rfl (hT.1 1 (by decide))) hce hcv hcl9 ?_
      refine lv_astore (lv' := [(4, .ref q9), (0, .ref (eA E 11 0)), (1, .int x1), (2, .int x2), (3, .ref (eA E 13 0))]) S.1 S.2.1 dL_lay_13 hl (by decide) rfl (fun ls hl => ?_)
      refine lv_iconst (v := 1) S.1 S.2.1 dL_lay_15 rfl ?_
      exact hret hf hP hD hS dL_lay_16
    | 1, h1, hf =>
      cases h1
      refine vx_catch (name := xN 3) (E := xN 3) S.2.2.2.1 [({ startPc := 0, endPc := 10, handlerPc := 13, catchType := 22 } : ExceptionTableEntry)] ({ startPc := 0, endPc := 10, handlerPc := 17, catchType := 64 } : ExceptionTableEntry) [] ht (by
        intro z hz
        simp only [List.mem_cons, List.not_mem_nil, or_false] at hz
        rcases hz with rfl
        exact Or.inr ⟨by decide, xN 1, S.2.2.2.2 (.classLink RL 22 (xN 1)) (by decide +kernel), hT.2.1 3 1 (by decide) (by decide) (by decide)⟩) (by decide) (by decide) (S.2.2.2.2 (.classLink RL 64 (xN 3)) (by decide +kernel)) (va_any rfl (hT.1 3 (by decide))) hce hcv hcl9 ?_
      refine lv_astore (lv' := [(4, .ref q9), (0, .ref (eA E 11 0)), (1, .int x1), (2, .int x2), (3, .ref (eA E 13 0))]) S.1 S.2.1 dL_lay_17 hl (by decide) rfl (fun ls hl => ?_)
      refine lv_iconst (v := 2) S.1 S.2.1 dL_lay_19 rfl ?_
      exact hret hf hP hD hS dL_lay_20
  · have hf := hk _ _ _ hf
    refine lv_i2l S.1 S.2.1 dL_lay_8 rfl ?_
    refine nm_o hf (fun J2 eJ hf => ?_)
    refine R_last S.1 S.2.1 hK hP hD hS h13 (fun _ _ => rfl) (n := 1) (vin 0 1 (by decide) (by decide) rfl) dL_lay_9 eJ (fun H locs hP hD hS => ?_)
    refine lv_goto (tgt := 21) S.1 S.2.1 dL_lay_10 (by decide) ?_
    refine lv_iconst (v := 0) S.1 S.2.1 dL_lay_21 rfl ?_
    exact hret hf hP hD hS dL_lay_22
abbrev rmL_pass : Room := { frames := rmX7_pass.frames + 1, cells := 4, slots := 24, locals := 40 + rmX7_pass.locals }
theorem yk_L_pass : yOk yL_pass RL 2 := by unfold yOk; decide +kernel
set_option maxRecDepth 100000 in
set_option maxHeartbeats 4000000 in
theorem c_L_pass {l : Launch} {E : EV} {ps : List (Nat × Nat)} (hl9 : l.stackTraces = false) (h11 : ∀ r, r < 11 → (11, r) ∈ ps) (hG : ∀ k r, k < 11 → r < 16 → (k, r) ∈ ps) (hR : (eT E)[2]? = some (eG E, .object "RhymeRoofs$Game")) (h13 : (13, 0) ∈ ps) {I : MI} {J : MJ} {Q Q2 : Int32 → MI → MJ → Prop} {X2 : Nat → MI → MJ → Prop} (hf : f_X7_pass I J Q2 X2) (hk : ∀ (v : Int32) (I1 : MI) (J1 : MJ), Q2 v I1 J1 → ∀ J2 : MJ, J2 = sJ J1 13 0 0 v.toInt64 → Q 0 I1 J2) (hx : ∀ (k : Nat) (I1 : MI) (J1 : MJ), X2 k I1 J1 → XL [3] Q k I1 J1) : YI l yL_pass wsL_pass rmL_pass E ps [.ref (eA E 11 0), .ref (eA E 13 0)] I J Q (fun _ _ _ => False) 4 24 := by
  refine Z_ofI (cc := cL_pass) (maxL := 3) (hh := [(0, 8, 11, 64)]) (by decide +kernel) rfl (Nat.le_of_ble_eq_true rfl) (fun p e s m args below meth c Qm hret ht S hK hX hT => ?_)
  intro H locs ls hP hD hS hl
  refine lv_aload_n S.1 S.2.1 dL_pass_0 rfl (lv_at hl 1 rfl) ?_
  refine lv_iconst (v := 0) S.1 S.2.1 dL_pass_1 rfl ?_
  refine lv_aload_n S.1 S.2.1 dL_pass_2 rfl (lv_at hl 0 rfl) ?_
  refine R_tVi (As := []) (rest := [.int 0, .ref (eA E 13 0)]) S (c_X7_pass hl9 (h11 := h11) (hG := hG) (hR := hR) hf) gL_pass_X7_pass rfl yk_X7_pass ⟨rfl, rfl⟩ ⟨Nat.le_of_ble_eq_true rfl, Nat.le_of_ble_eq_true rfl⟩ hK hP hD hS hX hT (h11 0 (by decide)) (cF_o E _ _ 0) rfl rfl hl.1 rfl (Nat.le_of_ble_eq_true rfl) ⟨Nat.le_of_ble_eq_true rfl, Nat.le_of_ble_eq_true rfl⟩ dL_pass_3 (fun kd ce q9 I1 J1 H locs hx0 hP hD hS hce hcv hcl9 => ?_) (fun v I1 J1 H locs hf hP hD hS => ?_)
  · obtain ⟨t, h1, hf⟩ := hx _ _ _ hx0
    match t, h1, hf with
    | 0, h1, hf =>
      cases h1
      refine vx_catch (name := xN 3) (E := xN 3) S.2.2.2.1 [] ({ startPc := 0, endPc := 8, handlerPc := 11, catchType := 64 } : ExceptionTableEntry) [] ht (fun z hz => nomatch hz) (by decide) (by decide) (S.2.2.2.2 (.classLink RL 64 (xN 3)) (by decide +kernel)) (va_any rfl (hT.1 3 (by decide))) hce hcv hcl9 ?_
      refine lv_astore_n (lv' := [(2, .ref q9), (0, .ref (eA E 11 0)), (1, .ref (eA E 13 0))]) S.1 S.2.1 dL_pass_11 rfl hl (by decide) rfl (fun ls hl => ?_)
      refine lv_iconst (v := 1) S.1 S.2.1 dL_pass_12 rfl ?_
      exact hret hf hP hD hS dL_pass_13
  · have hf := hk _ _ _ hf
    refine lv_i2l S.1 S.2.1 dL_pass_6 rfl ?_
    refine nm_o hf (fun J2 eJ hf => ?_)
    refine R_last S.1 S.2.1 hK hP hD hS h13 (fun _ _ => rfl) (n := 1) (vin 0 1 (by decide) (by decide) rfl) dL_pass_7 eJ (fun H locs hP hD hS => ?_)
    refine lv_goto (tgt := 14) S.1 S.2.1 dL_pass_8 (by decide) ?_
    refine lv_iconst (v := 0) S.1 S.2.1 dL_pass_14 rfl ?_
    exact hret hf hP hD hS dL_pass_15
abbrev rmL_auto : Room := { frames := rmX7_auto.frames + 1, cells := 4, slots := 24, locals := 40 + rmX7_auto.locals }
theorem yk_L_auto : yOk yL_auto RL 3 := by unfold yOk; decide +kernel
set_option maxRecDepth 100000 in
set_option maxHeartbeats 4000000 in
theorem c_L_auto {l : Launch} {E : EV} {ps : List (Nat × Nat)} (hl9 : l.stackTraces = false) (h11 : ∀ r, r < 11 → (11, r) ∈ ps) (hG : ∀ k r, k < 11 → r < 16 → (k, r) ∈ ps) (hR : (eT E)[2]? = some (eG E, .object "RhymeRoofs$Game")) (h13 : (13, 0) ∈ ps) {x1 : Int32} {I : MI} {J : MJ} {Q Q2 : Int32 → MI → MJ → Prop} {X2 : Nat → MI → MJ → Prop} (hf : f_X7_auto x1 I J Q2 X2) (hk : ∀ (v : Int32) (I1 : MI) (J1 : MJ), Q2 v I1 J1 → ∀ J2 : MJ, J2 = sJ J1 13 0 0 v.toInt64 → Q 0 I1 J2) (hx : ∀ (k : Nat) (I1 : MI) (J1 : MJ), X2 k I1 J1 → XL [0] Q k I1 J1) : YI l yL_auto wsL_auto rmL_auto E ps [.ref (eA E 11 0), .int x1, .ref (eA E 13 0)] I J Q (fun _ _ _ => False) 4 24 := by
  refine Z_ofI (cc := cL_auto) (maxL := 4) (hh := [(0, 9, 12, 13)]) (by decide +kernel) rfl (Nat.le_of_ble_eq_true rfl) (fun p e s m args below meth c Qm hret ht S hK hX hT => ?_)
  intro H locs ls hP hD hS hl
  refine lv_aload_n S.1 S.2.1 dL_auto_0 rfl (lv_at hl 2 rfl) ?_
  refine lv_iconst (v := 0) S.1 S.2.1 dL_auto_1 rfl ?_
  refine lv_aload_n S.1 S.2.1 dL_auto_2 rfl (lv_at hl 0 rfl) ?_
  refine lv_iload_n S.1 S.2.1 dL_auto_3 rfl (lv_at hl 1 rfl) ?_
  refine R_tVi (As := [.int x1]) (rest := [.int 0, .ref (eA E 13 0)]) S (c_X7_auto hl9 (h11 := h11) (hG := hG) (hR := hR) hf) gL_auto_X7_auto rfl yk_X7_auto ⟨rfl, rfl⟩ ⟨Nat.le_of_ble_eq_true rfl, Nat.le_of_ble_eq_true rfl⟩ hK hP hD hS hX hT (h11 0 (by decide)) (cF_o E _ _ 0) rfl rfl hl.1 rfl (Nat.le_of_ble_eq_true rfl) ⟨Nat.le_of_ble_eq_true rfl, Nat.le_of_ble_eq_true rfl⟩ dL_auto_4 (fun kd ce q9 I1 J1 H locs hx0 hP hD hS hce hcv hcl9 => ?_) (fun v I1 J1 H locs hf hP hD hS => ?_)
  · obtain ⟨t, h1, hf⟩ := hx _ _ _ hx0
    match t, h1, hf with
    | 0, h1, hf =>
      cases h1
      refine vx_catch (name := xN 0) (E := xN 0) S.2.2.2.1 [] ({ startPc := 0, endPc := 9, handlerPc := 12, catchType := 13 } : ExceptionTableEntry) [] ht (fun z hz => nomatch hz) (by decide) (by decide) (S.2.2.2.2 (.classLink RL 13 (xN 0)) (by decide +kernel)) (va_any rfl (hT.1 0 (by decide))) hce hcv hcl9 ?_
      refine lv_astore_n (lv' := [(3, .ref q9), (0, .ref (eA E 11 0)), (1, .int x1), (2, .ref (eA E 13 0))]) S.1 S.2.1 dL_auto_12 rfl hl (by decide) rfl (fun ls hl => ?_)
      refine lv_iconst (v := 1) S.1 S.2.1 dL_auto_13 rfl ?_
      exact hret hf hP hD hS dL_auto_14
  · have hf := hk _ _ _ hf
    refine lv_i2l S.1 S.2.1 dL_auto_7 rfl ?_
    refine nm_o hf (fun J2 eJ hf => ?_)
    refine R_last S.1 S.2.1 hK hP hD hS h13 (fun _ _ => rfl) (n := 1) (vin 0 1 (by decide) (by decide) rfl) dL_auto_8 eJ (fun H locs hP hD hS => ?_)
    refine lv_goto (tgt := 15) S.1 S.2.1 dL_auto_9 (by decide) ?_
    refine lv_iconst (v := 0) S.1 S.2.1 dL_auto_15 rfl ?_
    exact hret hf hP hD hS dL_auto_16
abbrev rmL_give : Room := { frames := rmX7_give.frames + 1, cells := 4, slots := 24, locals := 40 + rmX7_give.locals }
theorem yk_L_give : yOk yL_give RL 4 := by unfold yOk; decide +kernel
set_option maxRecDepth 100000 in
set_option maxHeartbeats 4000000 in
theorem c_L_give {l : Launch} {E : EV} {ps : List (Nat × Nat)} (hl9 : l.stackTraces = false) (h11 : ∀ r, r < 11 → (11, r) ∈ ps) (hG : ∀ k r, k < 11 → r < 16 → (k, r) ∈ ps) (hR : (eT E)[2]? = some (eG E, .object "RhymeRoofs$Game")) (h13 : (13, 0) ∈ ps) {x1 : Int32} {x2 : Int32} {I : MI} {J : MJ} {Q Q2 : Int32 → MI → MJ → Prop} {X2 : Nat → MI → MJ → Prop} (hf : f_X7_give x1 x2 I J Q2 X2) (hk : ∀ (v : Int32) (I1 : MI) (J1 : MJ), Q2 v I1 J1 → ∀ J2 : MJ, J2 = sJ J1 13 0 0 v.toInt64 → Q 0 I1 J2) (hx : ∀ (k : Nat) (I1 : MI) (J1 : MJ), X2 k I1 J1 → XL [1, 0, 3] Q k I1 J1) : YI l yL_give wsL_give rmL_give E ps [.ref (eA E 11 0), .int x1, .int x2, .ref (eA E 13 0)] I J Q (fun _ _ _ => False) 4 24 := by
  refine Z_ofI (cc := cL_give) (maxL := 5) (hh := [(0, 10, 13, 22), (0, 10, 17, 13), (0, 10, 21, 64)]) (by decide +kernel) rfl (Nat.le_of_ble_eq_true rfl) (fun p e s m args below meth c Qm hret ht S hK hX hT => ?_)
  intro H locs ls hP hD hS hl
  refine lv_aload_n S.1 S.2.1 dL_give_0 rfl (lv_at hl 3 rfl) ?_
  refine lv_iconst (v := 0) S.1 S.2.1 dL_give_1 rfl ?_
  refine lv_aload_n S.1 S.2.1 dL_give_2 rfl (lv_at hl 0 rfl) ?_
  refine lv_iload_n S.1 S.2.1 dL_give_3 rfl (lv_at hl 1 rfl) ?_
  refine lv_iload_n S.1 S.2.1 dL_give_4 rfl (lv_at hl 2 rfl) ?_
  refine R_tVi (As := [.int x1, .int x2]) (rest := [.int 0, .ref (eA E 13 0)]) S (c_X7_give hl9 (h11 := h11) (hG := hG) (hR := hR) hf) gL_give_X7_give rfl yk_X7_give ⟨rfl, rfl⟩ ⟨Nat.le_of_ble_eq_true rfl, Nat.le_of_ble_eq_true rfl⟩ hK hP hD hS hX hT (h11 0 (by decide)) (cF_o E _ _ 0) rfl rfl hl.1 rfl (Nat.le_of_ble_eq_true rfl) ⟨Nat.le_of_ble_eq_true rfl, Nat.le_of_ble_eq_true rfl⟩ dL_give_5 (fun kd ce q9 I1 J1 H locs hx0 hP hD hS hce hcv hcl9 => ?_) (fun v I1 J1 H locs hf hP hD hS => ?_)
  · obtain ⟨t, h1, hf⟩ := hx _ _ _ hx0
    match t, h1, hf with
    | 0, h1, hf =>
      cases h1
      refine vx_catch (name := xN 1) (E := xN 1) S.2.2.2.1 [] ({ startPc := 0, endPc := 10, handlerPc := 13, catchType := 22 } : ExceptionTableEntry) [({ startPc := 0, endPc := 10, handlerPc := 17, catchType := 13 } : ExceptionTableEntry), ({ startPc := 0, endPc := 10, handlerPc := 21, catchType := 64 } : ExceptionTableEntry)] ht (fun z hz => nomatch hz) (by decide) (by decide) (S.2.2.2.2 (.classLink RL 22 (xN 1)) (by decide +kernel)) (va_any rfl (hT.1 1 (by decide))) hce hcv hcl9 ?_
      refine lv_astore (lv' := [(4, .ref q9), (0, .ref (eA E 11 0)), (1, .int x1), (2, .int x2), (3, .ref (eA E 13 0))]) S.1 S.2.1 dL_give_13 hl (by decide) rfl (fun ls hl => ?_)
      refine lv_iconst (v := 1) S.1 S.2.1 dL_give_15 rfl ?_
      exact hret hf hP hD hS dL_give_16
    | 1, h1, hf =>
      cases h1
      refine vx_catch (name := xN 0) (E := xN 0) S.2.2.2.1 [({ startPc := 0, endPc := 10, handlerPc := 13, catchType := 22 } : ExceptionTableEntry)] ({ startPc := 0, endPc := 10, handlerPc := 17, catchType := 13 } : ExceptionTableEntry) [({ startPc := 0, endPc := 10, handlerPc := 21, catchType := 64 } : ExceptionTableEntry)] ht (by
        intro z hz
        simp only [List.mem_cons, List.not_mem_nil, or_false] at hz
        rcases hz with rfl
        exact Or.inr ⟨by decide, xN 1, S.2.2.2.2 (.classLink RL 22 (xN 1)) (by decide +kernel), hT.2.1 0 1 (by decide) (by decide) (by decide)⟩) (by decide) (by decide) (S.2.2.2.2 (.classLink RL 13 (xN 0)) (by decide +kernel)) (va_any rfl (hT.1 0 (by decide))) hce hcv hcl9 ?_
      refine lv_astore (lv' := [(4, .ref q9), (0, .ref (eA E 11 0)), (1, .int x1), (2, .int x2), (3, .ref (eA E 13 0))]) S.1 S.2.1 dL_give_17 hl (by decide) rfl (fun ls hl => ?_)
      refine lv_iconst (v := 2) S.1 S.2.1 dL_give_19 rfl ?_
      exact hret hf hP hD hS dL_give_20
    | 2, h1, hf =>
      cases h1
      refine vx_catch (name := xN 3) (E := xN 3) S.2.2.2.1 [({ startPc := 0, endPc := 10, handlerPc := 13, catchType := 22 } : ExceptionTableEntry), ({ startPc := 0, endPc := 10, handlerPc := 17, catchType := 13 } : ExceptionTableEntry)] ({ startPc := 0, endPc := 10, handlerPc := 21, catchType := 64 } : ExceptionTableEntry) [] ht (by
        intro z hz
        simp only [List.mem_cons, List.not_mem_nil, or_false] at hz
        rcases hz with rfl | rfl
        · exact Or.inr ⟨by decide, xN 1, S.2.2.2.2 (.classLink RL 22 (xN 1)) (by decide +kernel), hT.2.1 3 1 (by decide) (by decide) (by decide)⟩
        · exact Or.inr ⟨by decide, xN 0, S.2.2.2.2 (.classLink RL 13 (xN 0)) (by decide +kernel), hT.2.1 3 0 (by decide) (by decide) (by decide)⟩) (by decide) (by decide) (S.2.2.2.2 (.classLink RL 64 (xN 3)) (by decide +kernel)) (va_any rfl (hT.1 3 (by decide))) hce hcv hcl9 ?_
      refine lv_astore (lv' := [(4, .ref q9), (0, .ref (eA E 11 0)), (1, .int x1), (2, .int x2), (3, .ref (eA E 13 0))]) S.1 S.2.1 dL_give_21 hl (by decide) rfl (fun ls hl => ?_)
      refine lv_iconst (v := 3) S.1 S.2.1 dL_give_23 rfl ?_
      exact hret hf hP hD hS dL_give_24
  · have hf := hk _ _ _ hf
    refine lv_i2l S.1 S.2.1 dL_give_8 rfl ?_
    refine nm_o hf (fun J2 eJ hf => ?_)
    refine R_last S.1 S.2.1 hK hP hD hS h13 (fun _ _ => rfl) (n := 1) (vin 0 1 (by decide) (by decide) rfl) dL_give_9 eJ (fun H locs hP hD hS => ?_)
    refine lv_goto (tgt := 25) S.1 S.2.1 dL_give_10 (by decide) ?_
    refine lv_iconst (v := 0) S.1 S.2.1 dL_give_25 rfl ?_
    exact hret hf hP hD hS dL_give_26
