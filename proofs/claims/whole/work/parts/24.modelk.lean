abbrev rmX8_limited : Room := { frames := 0, cells := 0, slots := 0, locals := 0 }
theorem yk_X8_limited : yOk yX8_limited RX8 1 := by unfold yOk; decide +kernel
def f_X8_limited (x0 : Int64) (I : MI) (J : MJ) (Q : Int64 → MI → MJ → Prop) : Prop :=
  (((1000000 : Int64) < x0 → Q (1000000 : Int64) I J) ∧ (¬ (1000000 : Int64) < x0 → ((x0 < (-1000000 : Int64) → Q (-1000000 : Int64) I J) ∧ (¬ x0 < (-1000000 : Int64) → Q x0 I J))))
set_option maxRecDepth 100000 in
set_option maxHeartbeats 4000000 in
theorem c_X8_limited {l : Launch} {E : EV} {ps : List (Nat × Nat)}  {x0 : Int64} {I : MI} {J : MJ} {Q : Int64 → MI → MJ → Prop} (hf : f_X8_limited x0 I J Q) : KL l yX8_limited wsX8_limited rmX8_limited E ps [.long x0] I J Q := by
  refine K_ofL (cc := cX8_limited) (maxL := 2) (by decide +kernel) rfl (Nat.le_of_ble_eq_true rfl) (fun p e s m args below meth c Qm hret S hK hX => ?_)
  have hA : ∀ q, s.heap.size ≤ q → AA E ps s.heap.size q := fun _ h => Or.inr h
  have k1 := S.2.2.2.2 (.constantLong RX8 255 (1000000)) (by decide +kernel)
  have k2 := S.2.2.2.2 (.constantLong RX8 257 (-1000000)) (by decide +kernel)
  intro H locs ls hP hD hS hl
  unfold f_X8_limited at hf
  refine lv_lload_n S.1 S.2.1 dX8_limited_0 rfl (lv_at hl 0 rfl) ?_
  refine lv_ldc2 (v := 1000000) S.1 S.2.1 S.2.2.2.1 k1 dX8_limited_1 ?_
  refine W.lcmp S.1 S.2.1 dX8_limited_4 ?_
  refine lv_if_le (tgt := 14) S.1 S.2.1 dX8_limited_5 (by decide) (fun h_1 => ?_) (fun h_1 => ?_)
  · have hf := hf.2 ((lg_lt0 _ _).mp h_1)
    refine lv_lload_n S.1 S.2.1 dX8_limited_14 rfl (lv_at hl 0 rfl) ?_
    refine lv_ldc2 (v := (-1000000)) S.1 S.2.1 S.2.2.2.1 k2 dX8_limited_15 ?_
    refine W.lcmp S.1 S.2.1 dX8_limited_18 ?_
    refine lv_if_ge (tgt := 28) S.1 S.2.1 dX8_limited_19 (by decide) (fun h_2 => ?_) (fun h_2 => ?_)
    · have hf := hf.2 ((lg_ge0 _ _).mp h_2)
      refine lv_lload_n S.1 S.2.1 dX8_limited_28 rfl (lv_at hl 0 rfl) ?_
      exact hret hf hP hD hS dX8_limited_29
    · have hf := hf.1 (Classical.byContradiction (fun q => h_2 ((lg_ge0 _ _).mpr q)))
      refine lv_ldc2 (v := (-1000000)) S.1 S.2.1 S.2.2.2.1 k2 dX8_limited_22 ?_
      refine lv_goto (tgt := 29) S.1 S.2.1 dX8_limited_25 (by decide) ?_
      exact hret hf hP hD hS dX8_limited_29
  · have hf := hf.1 (Classical.byContradiction (fun q => h_1 ((lg_lt0 _ _).mpr q)))
    refine lv_ldc2 (v := 1000000) S.1 S.2.1 S.2.2.2.1 k1 dX8_limited_8 ?_
    refine lv_goto (tgt := 29) S.1 S.2.1 dX8_limited_11 (by decide) ?_
    exact hret hf hP hD hS dX8_limited_29
abbrev rmX8_operate : Room := { frames := 1, cells := 0, slots := 0, locals := 21 }
theorem yk_X8_operate : yOk yX8_operate RX8 3 := by unfold yOk; decide +kernel
def f_X8_operate_J47 (Q : Int64 → MI → MJ → Prop) (s_4 : Int64) (I_5 : MI) (J_6 : MJ) : Prop :=
  f_X8_limited s_4 I_5 J_6 (fun (v_9 : Int64) (I_7 : MI) (J_8 : MJ) => Q v_9 I_7 J_8)
def f_X8_operate (x0 : Int32) (x1 : Int64) (x3 : Int64) (I : MI) (J : MJ) (Q : Int64 → MI → MJ → Prop) : Prop :=
  ((x0 = (5 : Int32) → ((x3 = (0 : Int64) → Q (0 : Int64) I J) ∧ (¬ x3 = (0 : Int64) → (¬ x3 = 0 ∧ f_X8_limited (x1 / x3) I J (fun (v_14 : Int64) (I_12 : MI) (J_13 : MJ) => Q v_14 I_12 J_13))))) ∧ (¬ x0 = (5 : Int32) → ((x0 = (2 : Int32) → f_X8_operate_J47 Q (x1 + x3) I J) ∧ (¬ x0 = (2 : Int32) → ((x0 = (3 : Int32) → f_X8_operate_J47 Q (x1 - x3) I J) ∧ (¬ x0 = (3 : Int32) → f_X8_operate_J47 Q (x1 * x3) I J))))))
set_option maxRecDepth 100000 in
set_option maxHeartbeats 4000000 in
theorem c_X8_operate {l : Launch} {E : EV} {ps : List (Nat × Nat)}  {x0 : Int32} {x1 : Int64} {x3 : Int64} {I : MI} {J : MJ} {Q : Int64 → MI → MJ → Prop} (hf : f_X8_operate x0 x1 x3 I J Q) : KL l yX8_operate wsX8_operate rmX8_operate E ps [.int x0, .long x1, .long x3] I J Q := by
  refine K_ofL (cc := cX8_operate) (maxL := 5) (by decide +kernel) rfl (Nat.le_of_ble_eq_true rfl) (fun p e s m args below meth c Qm hret S hK hX => ?_)
  have hA : ∀ q, s.heap.size ≤ q → AA E ps s.heap.size q := fun _ h => Or.inr h
  have jn47 : ∀ (s_4 : Int64) (I_5 : MI) (J_6 : MJ), f_X8_operate_J47 Q s_4 I_5 J_6 → Wj p l e (rmX8_operate) s m args below meth c Qm E ps 5 I_5 J_6 47 [] [.long s_4] := by
    intro s_4 I_5 J_6 hf H locs ls hP hD hS hl
    unfold f_X8_operate_J47 at hf
    refine R_cSl (As := [.long s_4]) (rest := []) S (c_X8_limited   hf) gX8_operate_X8_limited rfl yk_X8_limited ⟨⟨Nat.le_of_ble_eq_true rfl, Nat.le_of_ble_eq_true rfl⟩, rfl, rfl⟩ hK hP hD hS hX hA rfl hl.1 rfl (Nat.le_of_ble_eq_true rfl) ⟨Nat.zero_le _, Nat.zero_le _⟩ dX8_operate_47 (fun v_9 I_7 J_8 H locs hf hP hD hS => ?_)
    exact hret hf hP hD hS dX8_operate_50
  intro H locs ls hP hD hS hl
  unfold f_X8_operate at hf
  refine lv_iload_n S.1 S.2.1 dX8_operate_0 rfl (lv_at hl 0 rfl) ?_
  refine lv_iconst (v := 5) S.1 S.2.1 dX8_operate_1 rfl ?_
  refine lv_icmp_ne (tgt := 22) S.1 S.2.1 dX8_operate_2 (by decide) (fun h_1 => ?_) (fun h_1 => ?_)
  · have hf := hf.2 h_1
    refine lv_iload_n S.1 S.2.1 dX8_operate_22 rfl (lv_at hl 0 rfl) ?_
    refine lv_iconst (v := 2) S.1 S.2.1 dX8_operate_23 rfl ?_
    refine lv_icmp_ne (tgt := 33) S.1 S.2.1 dX8_operate_24 (by decide) (fun h_2 => ?_) (fun h_2 => ?_)
    · have hf := hf.2 h_2
      refine lv_iload_n S.1 S.2.1 dX8_operate_33 rfl (lv_at hl 0 rfl) ?_
      refine lv_iconst (v := 3) S.1 S.2.1 dX8_operate_34 rfl ?_
      refine lv_icmp_ne (tgt := 44) S.1 S.2.1 dX8_operate_35 (by decide) (fun h_3 => ?_) (fun h_3 => ?_)
      · have hf := hf.2 h_3
        refine lv_lload_n S.1 S.2.1 dX8_operate_44 rfl (lv_at hl 1 rfl) ?_
        refine lv_lload_n S.1 S.2.1 dX8_operate_45 rfl (lv_at hl 2 rfl) ?_
        refine lv_lmul S.1 S.2.1 dX8_operate_46 ?_
        exact jn47 _ _ _ hf _ _ _ hP hD hS (lv_sub hl [] rfl)
      · have hf := hf.1 h_3
        refine lv_lload_n S.1 S.2.1 dX8_operate_38 rfl (lv_at hl 1 rfl) ?_
        refine lv_lload_n S.1 S.2.1 dX8_operate_39 rfl (lv_at hl 2 rfl) ?_
        refine lv_lsub S.1 S.2.1 dX8_operate_40 ?_
        refine lv_goto (tgt := 47) S.1 S.2.1 dX8_operate_41 (by decide) ?_
        exact jn47 _ _ _ hf _ _ _ hP hD hS (lv_sub hl [] rfl)
    · have hf := hf.1 h_2
      refine lv_lload_n S.1 S.2.1 dX8_operate_27 rfl (lv_at hl 1 rfl) ?_
      refine lv_lload_n S.1 S.2.1 dX8_operate_28 rfl (lv_at hl 2 rfl) ?_
      refine lv_ladd S.1 S.2.1 dX8_operate_29 ?_
      refine lv_goto (tgt := 47) S.1 S.2.1 dX8_operate_30 (by decide) ?_
      exact jn47 _ _ _ hf _ _ _ hP hD hS (lv_sub hl [] rfl)
  · have hf := hf.1 h_1
    refine lv_lload_n S.1 S.2.1 dX8_operate_5 rfl (lv_at hl 2 rfl) ?_
    refine lv_lconst (v := 0) S.1 S.2.1 dX8_operate_6 rfl ?_
    refine W.lcmp S.1 S.2.1 dX8_operate_7 ?_
    refine lv_if_ne (tgt := 15) S.1 S.2.1 dX8_operate_8 (by decide) (fun h_10 => ?_) (fun h_10 => ?_)
    · have hf := hf.2 (fun q => h_10 ((lg_eq0 _ _).mpr q))
      refine lv_lload_n S.1 S.2.1 dX8_operate_15 rfl (lv_at hl 1 rfl) ?_
      refine lv_lload_n S.1 S.2.1 dX8_operate_16 rfl (lv_at hl 2 rfl) ?_
      obtain ⟨h_11, hf⟩ := hf
      refine lv_ldiv S.1 S.2.1 dX8_operate_17 h_11 ?_
      refine R_cSl (As := [.long (x1 / x3)]) (rest := []) S (c_X8_limited   hf) gX8_operate_X8_limited rfl yk_X8_limited ⟨⟨Nat.le_of_ble_eq_true rfl, Nat.le_of_ble_eq_true rfl⟩, rfl, rfl⟩ hK hP hD hS hX hA rfl hl.1 rfl (Nat.le_of_ble_eq_true rfl) ⟨Nat.zero_le _, Nat.zero_le _⟩ dX8_operate_18 (fun v_14 I_12 J_13 H locs hf hP hD hS => ?_)
      exact hret hf hP hD hS dX8_operate_21
    · have hf := hf.1 ((lg_eq0 _ _).mp h_10)
      refine lv_lconst (v := 0) S.1 S.2.1 dX8_operate_11 rfl ?_
      refine lv_goto (tgt := 21) S.1 S.2.1 dX8_operate_12 (by decide) ?_
      exact hret hf hP hD hS dX8_operate_21
abbrev rmX8_fact : Room := { frames := 6, cells := 0, slots := 0, locals := 133 }
theorem yk_X8_fact : yOk yX8_fact RX8 3 := by unfold yOk; decide +kernel
def f_X8_fact (x1 : Int32) (x2 : Int32) (x3 : Int32) (I : MI) (J : MJ) (Q : Int32 → MI → MJ → Prop) : Prop :=
  (vp_in (5 : Int32) 1802 ∧ ∀ x4_2 : Int32, x4_2 = I 12 2 (5 : Int32).toNatClampNeg → f_X8_free x3 I J (fun (v_5 : Int32) (I_3 : MI) (J_4 : MJ) => f_X8_lengthOf x4_2 x2 I_3 J_4 (fun (v_8 : Int32) (I_6 : MI) (J_7 : MJ) => ∀ x5_9 : Int32, x5_9 = (v_5 - v_8) → ((x1 = (0 : Int32) → f_X8_pointsFor x4_2 x2 x3 I_6 J_7 (fun (v_13 : Int32) (I_11 : MI) (J_12 : MJ) => Q v_13 I_11 J_12)) ∧ (¬ x1 = (0 : Int32) → ((x1 = (1 : Int32) → f_X8_lengthOf x4_2 x2 I_6 J_7 (fun (v_16 : Int32) (I_14 : MI) (J_15 : MJ) => Q v_16 I_14 J_15)) ∧ (¬ x1 = (1 : Int32) → ((x1 = (2 : Int32) → f_X8_rhymeThere x4_2 x2 x3 I_6 J_7 (fun (v_19 : Int32) (I_17 : MI) (J_18 : MJ) => Q v_19 I_17 J_18)) ∧ (¬ x1 = (2 : Int32) → ((x1 = (3 : Int32) → Q x5_9 I_6 J_7) ∧ (¬ x1 = (3 : Int32) → ((x1 = (4 : Int32) → ((x5_9 = (0 : Int32) → Q (1 : Int32) I_6 J_7) ∧ (¬ x5_9 = (0 : Int32) → Q (0 : Int32) I_6 J_7))) ∧ (¬ x1 = (4 : Int32) → f_X8_ofPlayer x4_2 (1 : Int32) I_6 J_7 (fun (v_23 : Int32) (I_21 : MI) (J_22 : MJ) => Q (v_23 - (1 : Int32)) I_21 J_22))))))))))))))
set_option maxRecDepth 100000 in
set_option maxHeartbeats 4000000 in
theorem c_X8_fact {l : Launch} {E : EV} {ps : List (Nat × Nat)} (h12 : ∀ r, r < 17 → (12, r) ∈ ps) {x1 : Int32} {x2 : Int32} {x3 : Int32} {I : MI} {J : MJ} {Q : Int32 → MI → MJ → Prop} (hf : f_X8_fact x1 x2 x3 I J Q) : KI l yX8_fact wsX8_fact rmX8_fact E ps [.ref (eA E 12 0), .int x1, .int x2, .int x3] I J Q := by
  refine K_ofI (cc := cX8_fact) (maxL := 6) (ty := .int) (by decide +kernel) rfl (Nat.le_of_ble_eq_true rfl) (fun p e s m args below meth c Qm hret S hK hX => ?_)
  have hA : ∀ q, s.heap.size ≤ q → AA E ps s.heap.size q := fun _ h => Or.inr h
  have k1 := S.2.2.2.2 (.fieldLink RX8 17 "RhymeRoofsModel" "data" "[I") (by decide +kernel)
  have iX8 : ∀ w ∈ wsX80, w ∈ wsX8_fact := fun _ h => List.mem_cons_of_mem _ (List.mem_append_right _ h)
  intro H locs ls hP hD hS hl
  unfold f_X8_fact at hf
  refine lv_aload_n S.1 S.2.1 dX8_fact_0 rfl (lv_at hl 0 rfl) ?_
  refine gfX8_8 S iX8 hK hP (h12 0 (by decide)) k1 dX8_fact_1 ?_
  refine lv_iconst (v := 5) S.1 S.2.1 dX8_fact_4 rfl ?_
  obtain ⟨h_1, hf⟩ := hf
  refine R_iald S.1 S.2.1 hK hP (h12 2 (by decide)) (IAm2 E) h_1 dX8_fact_5 ?_
  refine lv_topi (fun x4_2 ex4_2 => ?_)
  have hf := hf x4_2 ex4_2
  refine lv_istore (lv' := [(4, .int x4_2), (0, .ref (eA E 12 0)), (1, .int x1), (2, .int x2), (3, .int x3)]) S.1 S.2.1 dX8_fact_6 hl (by decide) rfl (fun ls hl => ?_)
  refine lv_aload_n S.1 S.2.1 dX8_fact_8 rfl (lv_at hl 1 rfl) ?_
  refine lv_iload_n S.1 S.2.1 dX8_fact_9 rfl (lv_at hl 4 rfl) ?_
  refine R_cVi (As := [.int x3]) (rest := []) S (c_X8_free (h12 := h12)  hf) gX8_fact_X8_free rfl yk_X8_free ⟨⟨Nat.le_of_ble_eq_true rfl, Nat.le_of_ble_eq_true rfl⟩, rfl, rfl⟩ hK hP hD hS hX hA (h12 0 (by decide)) (cF_m E _ _ 0) rfl rfl hl.1 rfl (Nat.le_of_ble_eq_true rfl) ⟨Nat.zero_le _, Nat.zero_le _⟩ dX8_fact_10 (fun v_5 I_3 J_4 H locs hf hP hD hS => ?_)
  refine lv_aload_n S.1 S.2.1 dX8_fact_13 rfl (lv_at hl 1 rfl) ?_
  refine lv_iload S.1 S.2.1 dX8_fact_14 (lv_at hl 0 rfl) ?_
  refine lv_iload_n S.1 S.2.1 dX8_fact_16 rfl (lv_at hl 3 rfl) ?_
  refine R_cVi (As := [.int x4_2, .int x2]) (rest := [.int v_5]) S (c_X8_lengthOf (h12 := h12)  hf) gX8_fact_X8_lengthOf rfl yk_X8_lengthOf ⟨⟨Nat.le_of_ble_eq_true rfl, Nat.le_of_ble_eq_true rfl⟩, rfl, rfl⟩ hK hP hD hS hX hA (h12 0 (by decide)) (cF_m E _ _ 0) rfl rfl hl.1 rfl (Nat.le_of_ble_eq_true rfl) ⟨Nat.zero_le _, Nat.zero_le _⟩ dX8_fact_17 (fun v_8 I_6 J_7 H locs hf hP hD hS => ?_)
  refine lv_isub S.1 S.2.1 dX8_fact_20 ?_
  refine lv_topi (fun x5_9 ex5_9 => ?_)
  have hf := hf x5_9 ex5_9
  refine lv_istore (lv' := [(5, .int x5_9), (4, .int x4_2), (0, .ref (eA E 12 0)), (1, .int x1), (2, .int x2), (3, .int x3)]) S.1 S.2.1 dX8_fact_21 hl (by decide) rfl (fun ls hl => ?_)
  refine lv_iload_n S.1 S.2.1 dX8_fact_23 rfl (lv_at hl 3 rfl) ?_
  refine Classical.byCases (p := x1 = (0 : Int32)) (fun h_10 => ?_) (fun h_10_0 => ?_)
  · have hf := hf.1 h_10
    refine R_swIn (tgt := 60) (off := 36) S.1 S.2.1 dX8_fact_24 h_10 (by decide) (by decide) ?_
    refine lv_aload_n S.1 S.2.1 dX8_fact_60 rfl (lv_at hl 2 rfl) ?_
    refine lv_iload S.1 S.2.1 dX8_fact_61 (lv_at hl 1 rfl) ?_
    refine lv_iload_n S.1 S.2.1 dX8_fact_63 rfl (lv_at hl 4 rfl) ?_
    refine lv_iload_n S.1 S.2.1 dX8_fact_64 rfl (lv_at hl 5 rfl) ?_
    refine R_cVi (As := [.int x4_2, .int x2, .int x3]) (rest := []) S (c_X8_pointsFor (h12 := h12)  hf) gX8_fact_X8_pointsFor rfl yk_X8_pointsFor ⟨⟨Nat.le_of_ble_eq_true rfl, Nat.le_of_ble_eq_true rfl⟩, rfl, rfl⟩ hK hP hD hS hX hA (h12 0 (by decide)) (cF_m E _ _ 0) rfl rfl hl.1 rfl (Nat.le_of_ble_eq_true rfl) ⟨Nat.zero_le _, Nat.zero_le _⟩ dX8_fact_65 (fun v_13 I_11 J_12 H locs hf hP hD hS => ?_)
    exact hret hf rfl hP hD hS dX8_fact_68
  have hf := hf.2 h_10_0
  refine Classical.byCases (p := x1 = (1 : Int32)) (fun h_10 => ?_) (fun h_10_1 => ?_)
  · have hf := hf.1 h_10
    refine R_swIn (tgt := 69) (off := 45) S.1 S.2.1 dX8_fact_24 h_10 (by decide) (by decide) ?_
    refine lv_aload_n S.1 S.2.1 dX8_fact_69 rfl (lv_at hl 2 rfl) ?_
    refine lv_iload S.1 S.2.1 dX8_fact_70 (lv_at hl 1 rfl) ?_
    refine lv_iload_n S.1 S.2.1 dX8_fact_72 rfl (lv_at hl 4 rfl) ?_
    refine R_cVi (As := [.int x4_2, .int x2]) (rest := []) S (c_X8_lengthOf (h12 := h12)  hf) gX8_fact_X8_lengthOf rfl yk_X8_lengthOf ⟨⟨Nat.le_of_ble_eq_true rfl, Nat.le_of_ble_eq_true rfl⟩, rfl, rfl⟩ hK hP hD hS hX hA (h12 0 (by decide)) (cF_m E _ _ 0) rfl rfl hl.1 rfl (Nat.le_of_ble_eq_true rfl) ⟨Nat.zero_le _, Nat.zero_le _⟩ dX8_fact_73 (fun v_16 I_14 J_15 H locs hf hP hD hS => ?_)
    exact hret hf rfl hP hD hS dX8_fact_76
  have hf := hf.2 h_10_1
  refine Classical.byCases (p := x1 = (2 : Int32)) (fun h_10 => ?_) (fun h_10_2 => ?_)
  · have hf := hf.1 h_10
    refine R_swIn (tgt := 77) (off := 53) S.1 S.2.1 dX8_fact_24 h_10 (by decide) (by decide) ?_
    refine lv_aload_n S.1 S.2.1 dX8_fact_77 rfl (lv_at hl 2 rfl) ?_
    refine lv_iload S.1 S.2.1 dX8_fact_78 (lv_at hl 1 rfl) ?_
    refine lv_iload_n S.1 S.2.1 dX8_fact_80 rfl (lv_at hl 4 rfl) ?_
    refine lv_iload_n S.1 S.2.1 dX8_fact_81 rfl (lv_at hl 5 rfl) ?_
    refine R_cVi (As := [.int x4_2, .int x2, .int x3]) (rest := []) S (c_X8_rhymeThere (h12 := h12)  hf) gX8_fact_X8_rhymeThere rfl yk_X8_rhymeThere ⟨⟨Nat.le_of_ble_eq_true rfl, Nat.le_of_ble_eq_true rfl⟩, rfl, rfl⟩ hK hP hD hS hX hA (h12 0 (by decide)) (cF_m E _ _ 0) rfl rfl hl.1 rfl (Nat.le_of_ble_eq_true rfl) ⟨Nat.zero_le _, Nat.zero_le _⟩ dX8_fact_82 (fun v_19 I_17 J_18 H locs hf hP hD hS => ?_)
    exact hret hf rfl hP hD hS dX8_fact_85
  have hf := hf.2 h_10_2
  refine Classical.byCases (p := x1 = (3 : Int32)) (fun h_10 => ?_) (fun h_10_3 => ?_)
  · have hf := hf.1 h_10
    refine R_swIn (tgt := 86) (off := 62) S.1 S.2.1 dX8_fact_24 h_10 (by decide) (by decide) ?_
    refine lv_iload S.1 S.2.1 dX8_fact_86 (lv_at hl 0 rfl) ?_
    exact hret hf rfl hP hD hS dX8_fact_88
  have hf := hf.2 h_10_3
  refine Classical.byCases (p := x1 = (4 : Int32)) (fun h_10 => ?_) (fun h_10_4 => ?_)
  · have hf := hf.1 h_10
    refine R_swIn (tgt := 89) (off := 65) S.1 S.2.1 dX8_fact_24 h_10 (by decide) (by decide) ?_
    refine lv_iload S.1 S.2.1 dX8_fact_89 (lv_at hl 0 rfl) ?_
    refine lv_if_ne (tgt := 98) S.1 S.2.1 dX8_fact_91 (by decide) (fun h_20 => ?_) (fun h_20 => ?_)
    · have hf := hf.2 h_20
      refine lv_iconst (v := 0) S.1 S.2.1 dX8_fact_98 rfl ?_
      exact hret hf rfl hP hD hS dX8_fact_99
    · have hf := hf.1 h_20
      refine lv_iconst (v := 1) S.1 S.2.1 dX8_fact_94 rfl ?_
      refine lv_goto (tgt := 99) S.1 S.2.1 dX8_fact_95 (by decide) ?_
      exact hret hf rfl hP hD hS dX8_fact_99
  have hf := hf.2 h_10_4
  refine lv_tableOut (tgt := 100) S.1 S.2.1 dX8_fact_24 (by have q0 := ne_I (z := 0) h_10_0 (by decide); have q1 := ne_I (z := 1) h_10_1 (by decide); have q2 := ne_I (z := 2) h_10_2 (by decide); have q3 := ne_I (z := 3) h_10_3 (by decide); have q4 := ne_I (z := 4) h_10_4 (by decide); omega) (by decide) ?_
  refine lv_aload_n S.1 S.2.1 dX8_fact_100 rfl (lv_at hl 2 rfl) ?_
  refine lv_iload S.1 S.2.1 dX8_fact_101 (lv_at hl 1 rfl) ?_
  refine lv_iconst (v := 1) S.1 S.2.1 dX8_fact_103 rfl ?_
  refine R_cVi (As := [.int x4_2, .int (1 : Int32)]) (rest := []) S (c_X8_ofPlayer (h12 := h12)  hf) gX8_fact_X8_ofPlayer rfl yk_X8_ofPlayer ⟨⟨Nat.le_of_ble_eq_true rfl, Nat.le_of_ble_eq_true rfl⟩, rfl, rfl⟩ hK hP hD hS hX hA (h12 0 (by decide)) (cF_m E _ _ 0) rfl rfl hl.1 rfl (Nat.le_of_ble_eq_true rfl) ⟨Nat.zero_le _, Nat.zero_le _⟩ dX8_fact_104 (fun v_23 I_21 J_22 H locs hf hP hD hS => ?_)
  refine lv_iconst (v := 1) S.1 S.2.1 dX8_fact_107 rfl ?_
  refine lv_isub S.1 S.2.1 dX8_fact_108 ?_
  exact hret hf rfl hP hD hS dX8_fact_109
