abbrev rmX8_lengthOf : Room := { frames := 2, cells := 0, slots := 0, locals := 41 }
theorem yk_X8_lengthOf : yOk yX8_lengthOf RX8 2 := by unfold yOk; decide +kernel
def f_X8_lengthOf (x1 : Int32) (x2 : Int32) (I : MI) (J : MJ) (Q : Int32 → MI → MJ → Prop) : Prop :=
  f_X8_wordAt x1 x2 I J (fun (v_3 : Int32) (I_1 : MI) (J_2 : MJ) => (vp_in v_3 1802 ∧ Q (I_1 12 2 v_3.toNatClampNeg) I_1 J_2))
set_option maxRecDepth 100000 in
set_option maxHeartbeats 4000000 in
theorem c_X8_lengthOf {l : Launch} {E : EV} {ps : List (Nat × Nat)} (h12 : ∀ r, r < 17 → (12, r) ∈ ps) {x1 : Int32} {x2 : Int32} {I : MI} {J : MJ} {Q : Int32 → MI → MJ → Prop} (hf : f_X8_lengthOf x1 x2 I J Q) : KI l yX8_lengthOf wsX8_lengthOf rmX8_lengthOf E ps [.ref (eA E 12 0), .int x1, .int x2] I J Q := by
  refine K_ofI (cc := cX8_lengthOf) (maxL := 3) (ty := .int) (by decide +kernel) rfl (Nat.le_of_ble_eq_true rfl) (fun p e s m args below meth c Qm hret S hK hX => ?_)
  have hA : ∀ q, s.heap.size ≤ q → AA E ps s.heap.size q := fun _ h => Or.inr h
  have k1 := S.2.2.2.2 (.fieldLink RX8 17 "RhymeRoofsModel" "data" "[I") (by decide +kernel)
  have iX8 : ∀ w ∈ wsX80, w ∈ wsX8_lengthOf := fun _ h => List.mem_cons_of_mem _ (List.mem_append_right _ h)
  intro H locs ls hP hD hS hl
  unfold f_X8_lengthOf at hf
  refine lv_aload_n S.1 S.2.1 dX8_lengthOf_0 rfl (lv_at hl 0 rfl) ?_
  refine gfX8_8 S iX8 hK hP (h12 0 (by decide)) k1 dX8_lengthOf_1 ?_
  refine lv_iload_n S.1 S.2.1 dX8_lengthOf_4 rfl (lv_at hl 1 rfl) ?_
  refine lv_iload_n S.1 S.2.1 dX8_lengthOf_5 rfl (lv_at hl 2 rfl) ?_
  refine R_cSi (As := [.int x1, .int x2]) (rest := [.ref (eA E 12 2)]) S (c_X8_wordAt   hf) gX8_lengthOf_X8_wordAt rfl yk_X8_wordAt ⟨⟨Nat.le_of_ble_eq_true rfl, Nat.le_of_ble_eq_true rfl⟩, rfl, rfl⟩ hK hP hD hS hX hA rfl hl.1 rfl (Nat.le_of_ble_eq_true rfl) ⟨Nat.zero_le _, Nat.zero_le _⟩ dX8_lengthOf_6 (fun v_3 I_1 J_2 H locs hf hP hD hS => ?_)
  obtain ⟨h_4, hf⟩ := hf
  refine R_iald S.1 S.2.1 hK hP (h12 2 (by decide)) (IAm2 E) h_4 dX8_lengthOf_9 ?_
  exact hret hf rfl hP hD hS dX8_lengthOf_10
abbrev rmX8_free : Room := { frames := 2, cells := 0, slots := 0, locals := 42 }
theorem yk_X8_free : yOk yX8_free RX8 1 := by unfold yOk; decide +kernel
def f_X8_free (x1 : Int32) (I : MI) (J : MJ) (Q : Int32 → MI → MJ → Prop) : Prop :=
  f_X8_ofRow x1 (0 : Int32) I J (fun (v_3 : Int32) (I_1 : MI) (J_2 : MJ) => f_X8_ofRow x1 (1 : Int32) I_1 J_2 (fun (v_6 : Int32) (I_4 : MI) (J_5 : MJ) => Q (v_3 - v_6) I_4 J_5))
set_option maxRecDepth 100000 in
set_option maxHeartbeats 4000000 in
theorem c_X8_free {l : Launch} {E : EV} {ps : List (Nat × Nat)} (h12 : ∀ r, r < 17 → (12, r) ∈ ps) {x1 : Int32} {I : MI} {J : MJ} {Q : Int32 → MI → MJ → Prop} (hf : f_X8_free x1 I J Q) : KI l yX8_free wsX8_free rmX8_free E ps [.ref (eA E 12 0), .int x1] I J Q := by
  refine K_ofI (cc := cX8_free) (maxL := 2) (ty := .int) (by decide +kernel) rfl (Nat.le_of_ble_eq_true rfl) (fun p e s m args below meth c Qm hret S hK hX => ?_)
  have hA : ∀ q, s.heap.size ≤ q → AA E ps s.heap.size q := fun _ h => Or.inr h
  intro H locs ls hP hD hS hl
  unfold f_X8_free at hf
  refine lv_aload_n S.1 S.2.1 dX8_free_0 rfl (lv_at hl 0 rfl) ?_
  refine lv_iload_n S.1 S.2.1 dX8_free_1 rfl (lv_at hl 1 rfl) ?_
  refine lv_iconst (v := 0) S.1 S.2.1 dX8_free_2 rfl ?_
  refine R_cVi (As := [.int x1, .int (0 : Int32)]) (rest := []) S (c_X8_ofRow (h12 := h12)  hf) gX8_free_X8_ofRow rfl yk_X8_ofRow ⟨⟨Nat.le_of_ble_eq_true rfl, Nat.le_of_ble_eq_true rfl⟩, rfl, rfl⟩ hK hP hD hS hX hA (h12 0 (by decide)) (cF_m E _ _ 0) rfl rfl hl.1 rfl (Nat.le_of_ble_eq_true rfl) ⟨Nat.zero_le _, Nat.zero_le _⟩ dX8_free_3 (fun v_3 I_1 J_2 H locs hf hP hD hS => ?_)
  refine lv_aload_n S.1 S.2.1 dX8_free_6 rfl (lv_at hl 0 rfl) ?_
  refine lv_iload_n S.1 S.2.1 dX8_free_7 rfl (lv_at hl 1 rfl) ?_
  refine lv_iconst (v := 1) S.1 S.2.1 dX8_free_8 rfl ?_
  refine R_cVi (As := [.int x1, .int (1 : Int32)]) (rest := [.int v_3]) S (c_X8_ofRow (h12 := h12)  hf) gX8_free_X8_ofRow rfl yk_X8_ofRow ⟨⟨Nat.le_of_ble_eq_true rfl, Nat.le_of_ble_eq_true rfl⟩, rfl, rfl⟩ hK hP hD hS hX hA (h12 0 (by decide)) (cF_m E _ _ 0) rfl rfl hl.1 rfl (Nat.le_of_ble_eq_true rfl) ⟨Nat.zero_le _, Nat.zero_le _⟩ dX8_free_9 (fun v_6 I_4 J_5 H locs hf hP hD hS => ?_)
  refine lv_isub S.1 S.2.1 dX8_free_12 ?_
  exact hret hf rfl hP hD hS dX8_free_13
abbrev rmX8_areAlike : Room := { frames := 0, cells := 0, slots := 0, locals := 0 }
theorem yk_X8_areAlike : yOk yX8_areAlike RX8 2 := by unfold yOk; decide +kernel
def f_X8_areAlike (x1 : Int32) (x2 : Int32) (I : MI) (J : MJ) (Q : Int32 → MI → MJ → Prop) : Prop :=
  ((x1 = x2 → Q (1 : Int32) I J) ∧ (¬ x1 = x2 → (vp_in ((10 : Int32) + x1) 1802 ∧ (((I 12 2 ((10 : Int32) + x1).toNatClampNeg) = (0 : Int32) → Q (0 : Int32) I J) ∧ (¬ (I 12 2 ((10 : Int32) + x1).toNatClampNeg) = (0 : Int32) → (vp_in ((10 : Int32) + x1) 1802 ∧ (vp_in ((10 : Int32) + x2) 1802 ∧ (((I 12 2 ((10 : Int32) + x1).toNatClampNeg) = (I 12 2 ((10 : Int32) + x2).toNatClampNeg) → Q (1 : Int32) I J) ∧ (¬ (I 12 2 ((10 : Int32) + x1).toNatClampNeg) = (I 12 2 ((10 : Int32) + x2).toNatClampNeg) → Q (0 : Int32) I J)))))))))
set_option maxRecDepth 100000 in
set_option maxHeartbeats 4000000 in
theorem c_X8_areAlike {l : Launch} {E : EV} {ps : List (Nat × Nat)} (h12 : ∀ r, r < 17 → (12, r) ∈ ps) {x1 : Int32} {x2 : Int32} {I : MI} {J : MJ} {Q : Int32 → MI → MJ → Prop} (hf : f_X8_areAlike x1 x2 I J Q) : KI l yX8_areAlike wsX8_areAlike rmX8_areAlike E ps [.ref (eA E 12 0), .int x1, .int x2] I J Q := by
  refine K_ofI (cc := cX8_areAlike) (maxL := 3) (ty := .boolean) (by decide +kernel) rfl (Nat.le_of_ble_eq_true rfl) (fun p e s m args below meth c Qm hret S hK hX => ?_)
  have hA : ∀ q, s.heap.size ≤ q → AA E ps s.heap.size q := fun _ h => Or.inr h
  have k1 := S.2.2.2.2 (.fieldLink RX8 17 "RhymeRoofsModel" "data" "[I") (by decide +kernel)
  have iX8 : ∀ w ∈ wsX80, w ∈ wsX8_areAlike := fun _ h => List.mem_cons_of_mem _ (List.mem_append_right _ h)
  intro H locs ls hP hD hS hl
  unfold f_X8_areAlike at hf
  refine lv_iload_n S.1 S.2.1 dX8_areAlike_0 rfl (lv_at hl 1 rfl) ?_
  refine lv_iload_n S.1 S.2.1 dX8_areAlike_1 rfl (lv_at hl 2 rfl) ?_
  refine lv_icmp_eq (tgt := 38) S.1 S.2.1 dX8_areAlike_2 (by decide) (fun h_1 => ?_) (fun h_1 => ?_)
  · have hf := hf.1 h_1
    refine lv_iconst (v := 1) S.1 S.2.1 dX8_areAlike_38 rfl ?_
    refine lv_goto (tgt := 43) S.1 S.2.1 dX8_areAlike_39 (by decide) ?_
    exact hret hf rfl hP hD hS dX8_areAlike_43
  · have hf := hf.2 h_1
    refine lv_aload_n S.1 S.2.1 dX8_areAlike_5 rfl (lv_at hl 0 rfl) ?_
    refine gfX8_8 S iX8 hK hP (h12 0 (by decide)) k1 dX8_areAlike_6 ?_
    refine lv_bipush (v := 10) S.1 S.2.1 dX8_areAlike_9 rfl ?_
    refine lv_iload_n S.1 S.2.1 dX8_areAlike_11 rfl (lv_at hl 1 rfl) ?_
    refine lv_iadd S.1 S.2.1 dX8_areAlike_12 ?_
    obtain ⟨h_2, hf⟩ := hf
    refine R_iald S.1 S.2.1 hK hP (h12 2 (by decide)) (IAm2 E) h_2 dX8_areAlike_13 ?_
    refine lv_if_eq (tgt := 42) S.1 S.2.1 dX8_areAlike_14 (by decide) (fun h_3 => ?_) (fun h_3 => ?_)
    · have hf := hf.1 h_3
      refine lv_iconst (v := 0) S.1 S.2.1 dX8_areAlike_42 rfl ?_
      exact hret hf rfl hP hD hS dX8_areAlike_43
    · have hf := hf.2 h_3
      refine lv_aload_n S.1 S.2.1 dX8_areAlike_17 rfl (lv_at hl 0 rfl) ?_
      refine gfX8_8 S iX8 hK hP (h12 0 (by decide)) k1 dX8_areAlike_18 ?_
      refine lv_bipush (v := 10) S.1 S.2.1 dX8_areAlike_21 rfl ?_
      refine lv_iload_n S.1 S.2.1 dX8_areAlike_23 rfl (lv_at hl 1 rfl) ?_
      refine lv_iadd S.1 S.2.1 dX8_areAlike_24 ?_
      obtain ⟨h_4, hf⟩ := hf
      refine R_iald S.1 S.2.1 hK hP (h12 2 (by decide)) (IAm2 E) h_4 dX8_areAlike_25 ?_
      refine lv_aload_n S.1 S.2.1 dX8_areAlike_26 rfl (lv_at hl 0 rfl) ?_
      refine gfX8_8 S iX8 hK hP (h12 0 (by decide)) k1 dX8_areAlike_27 ?_
      refine lv_bipush (v := 10) S.1 S.2.1 dX8_areAlike_30 rfl ?_
      refine lv_iload_n S.1 S.2.1 dX8_areAlike_32 rfl (lv_at hl 2 rfl) ?_
      refine lv_iadd S.1 S.2.1 dX8_areAlike_33 ?_
      obtain ⟨h_5, hf⟩ := hf
      refine R_iald S.1 S.2.1 hK hP (h12 2 (by decide)) (IAm2 E) h_5 dX8_areAlike_34 ?_
      refine lv_icmp_ne (tgt := 42) S.1 S.2.1 dX8_areAlike_35 (by decide) (fun h_6 => ?_) (fun h_6 => ?_)
      · have hf := hf.2 h_6
        refine lv_iconst (v := 0) S.1 S.2.1 dX8_areAlike_42 rfl ?_
        exact hret hf rfl hP hD hS dX8_areAlike_43
      · have hf := hf.1 h_6
        refine lv_iconst (v := 1) S.1 S.2.1 dX8_areAlike_38 rfl ?_
        refine lv_goto (tgt := 43) S.1 S.2.1 dX8_areAlike_39 (by decide) ?_
        exact hret hf rfl hP hD hS dX8_areAlike_43
abbrev rmX8_rhymeOf : Room := { frames := 1, cells := 0, slots := 0, locals := 22 }
theorem yk_X8_rhymeOf : yOk yX8_rhymeOf RX8 4 := by unfold yOk; decide +kernel
def f_X8_rhymeOf_B3 (x1_1 : Int32) (x2_2 : Int32) (x3_3 : Int32) (x4_4 : Int32) (K54 : Int32 → MI → MJ → Prop) (rec3 : Int32 → MI → MJ → Prop) (x5_5 : Int32) (I_6 : MI) (J_7 : MJ) : Prop :=
  f_X8_min x2_2 x4_4 I_6 J_7 (fun (v_10 : Int32) (I_8 : MI) (J_9 : MJ) => ((v_10 ≤ x5_5 → K54 x5_5 I_8 J_9) ∧ (¬ v_10 ≤ x5_5 → (vp_in (((x1_1 + x2_2) - (1 : Int32)) - x5_5) 1802 ∧ (vp_in (((x3_3 + x4_4) - (1 : Int32)) - x5_5) 1802 ∧ f_X8_areAlike (I_8 12 2 (((x1_1 + x2_2) - (1 : Int32)) - x5_5).toNatClampNeg) (I_8 12 2 (((x3_3 + x4_4) - (1 : Int32)) - x5_5).toNatClampNeg) I_8 J_9 (fun (v_16 : Int32) (I_14 : MI) (J_15 : MJ) => ((v_16 = (0 : Int32) → K54 x5_5 I_14 J_15) ∧ (¬ v_16 = (0 : Int32) → ∀ x5_18 : Int32, x5_18 = x5_5 + (1 : Int32) → rec3 x5_18 I_14 J_15))))))))
def f_X8_rhymeOf_L3 (x1_1 : Int32) (x2_2 : Int32) (x3_3 : Int32) (x4_4 : Int32) (K54 : Int32 → MI → MJ → Prop) : Nat → Int32 → MI → MJ → Prop
  | 0, _, _, _ => False
  | n + 1, x5_5, I_6, J_7 => f_X8_rhymeOf_B3 x1_1 x2_2 x3_3 x4_4 K54 (f_X8_rhymeOf_L3 x1_1 x2_2 x3_3 x4_4 K54 n) x5_5 I_6 J_7
def f_X8_rhymeOf (x1 : Int32) (x2 : Int32) (x3 : Int32) (x4 : Int32) (I : MI) (J : MJ) (Q : Int32 → MI → MJ → Prop) : Prop :=
  ∃ n : Nat, f_X8_rhymeOf_L3 x1 x2 x3 x4 (fun (x5_19 : Int32) (I_20 : MI) (J_21 : MJ) => Q x5_19 I_20 J_21) n (0 : Int32) I J
set_option maxRecDepth 100000 in
set_option maxHeartbeats 4000000 in
theorem c_X8_rhymeOf {l : Launch} {E : EV} {ps : List (Nat × Nat)} (h12 : ∀ r, r < 17 → (12, r) ∈ ps) {x1 : Int32} {x2 : Int32} {x3 : Int32} {x4 : Int32} {I : MI} {J : MJ} {Q : Int32 → MI → MJ → Prop} (hf : f_X8_rhymeOf x1 x2 x3 x4 I J Q) : KI l yX8_rhymeOf wsX8_rhymeOf rmX8_rhymeOf E ps [.ref (eA E 12 0), .int x1, .int x2, .int x3, .int x4] I J Q := by
  refine K_ofI (cc := cX8_rhymeOf) (maxL := 6) (ty := .int) (by decide +kernel) rfl (Nat.le_of_ble_eq_true rfl) (fun p e s m args below meth c Qm hret S hK hX => ?_)
  have hA : ∀ q, s.heap.size ≤ q → AA E ps s.heap.size q := fun _ h => Or.inr h
  have k1 := S.2.2.2.2 (.fieldLink RX8 17 "RhymeRoofsModel" "data" "[I") (by decide +kernel)
  have iX8 : ∀ w ∈ wsX80, w ∈ wsX8_rhymeOf := fun _ h => List.mem_cons_of_mem _ (List.mem_append_right _ h)
  intro H locs ls hP hD hS hl
  unfold f_X8_rhymeOf at hf
  refine lv_iconst (v := 0) S.1 S.2.1 dX8_rhymeOf_0 rfl ?_
  refine lv_istore (lv' := [(5, .int (0 : Int32)), (0, .ref (eA E 12 0)), (1, .int x1), (2, .int x2), (3, .int x3), (4, .int x4)]) S.1 S.2.1 dX8_rhymeOf_1 hl (by decide) rfl (fun ls hl => ?_)
  obtain ⟨n_22, hf⟩ := hf
  have L3 : ∀ (x1_1 : Int32), ∀ (x2_2 : Int32), ∀ (x3_3 : Int32), ∀ (x4_4 : Int32), ∀ (K54 : Int32 → MI → MJ → Prop), (∀ (x5_19 : Int32) (I_20 : MI) (J_21 : MJ), K54 x5_19 I_20 J_21 → Wj p l e (rmX8_rhymeOf) s m args below meth c Qm E ps 6 I_20 J_21 54 [(5, .int x5_19)] []) → ∀ (n : Nat) (x5_5 : Int32) (I_6 : MI) (J_7 : MJ), f_X8_rhymeOf_L3 x1_1 x2_2 x3_3 x4_4 K54 n x5_5 I_6 J_7 → Wj p l e (rmX8_rhymeOf) s m args below meth c Qm E ps 6 I_6 J_7 3 [(0, .ref (eA E 12 0)), (1, .int x1_1), (2, .int x2_2), (3, .int x3_3), (4, .int x4_4), (5, .int x5_5)] [] := by
    intro x1_1 x2_2 x3_3 x4_4 K54 kx54 n
    induction n with
    | zero => intro x5_5 I_6 J_7 hf; exact hf.elim
    | succ n ih3 =>
      intro x5_5 I_6 J_7 hf
      have hf : f_X8_rhymeOf_B3 x1_1 x2_2 x3_3 x4_4 K54 (f_X8_rhymeOf_L3 x1_1 x2_2 x3_3 x4_4 K54 n) x5_5 I_6 J_7 := hf
      intro H locs ls hP hD hS hl
      unfold f_X8_rhymeOf_B3 at hf
      refine lv_iload S.1 S.2.1 dX8_rhymeOf_3 (lv_at hl 5 rfl) ?_
      refine lv_iload_n S.1 S.2.1 dX8_rhymeOf_5 rfl (lv_at hl 2 rfl) ?_
      refine lv_iload S.1 S.2.1 dX8_rhymeOf_6 (lv_at hl 4 rfl) ?_
      refine R_cSi (As := [.int x2_2, .int x4_4]) (rest := [.int x5_5]) S (c_X8_min   hf) gX8_rhymeOf_X8_min rfl yk_X8_min ⟨⟨Nat.le_of_ble_eq_true rfl, Nat.le_of_ble_eq_true rfl⟩, rfl, rfl⟩ hK hP hD hS hX hA rfl hl.1 rfl (Nat.le_of_ble_eq_true rfl) ⟨Nat.zero_le _, Nat.zero_le _⟩ dX8_rhymeOf_8 (fun v_10 I_8 J_9 H locs hf hP hD hS => ?_)
      refine lv_icmp_ge (tgt := 54) S.1 S.2.1 dX8_rhymeOf_11 (by decide) (fun h_11 => ?_) (fun h_11 => ?_)
      · have hf := hf.1 h_11
        exact kx54 _ _ _ hf _ _ _ hP hD hS (lv_sub hl [5] rfl)
      · have hf := hf.2 h_11
        refine lv_aload_n S.1 S.2.1 dX8_rhymeOf_14 rfl (lv_at hl 0 rfl) ?_
        refine lv_aload_n S.1 S.2.1 dX8_rhymeOf_15 rfl (lv_at hl 0 rfl) ?_
        refine gfX8_8 S iX8 hK hP (h12 0 (by decide)) k1 dX8_rhymeOf_16 ?_
        refine lv_iload_n S.1 S.2.1 dX8_rhymeOf_19 rfl (lv_at hl 1 rfl) ?_
        refine lv_iload_n S.1 S.2.1 dX8_rhymeOf_20 rfl (lv_at hl 2 rfl) ?_
        refine lv_iadd S.1 S.2.1 dX8_rhymeOf_21 ?_
        refine lv_iconst (v := 1) S.1 S.2.1 dX8_rhymeOf_22 rfl ?_
        refine lv_isub S.1 S.2.1 dX8_rhymeOf_23 ?_
        refine lv_iload S.1 S.2.1 dX8_rhymeOf_24 (lv_at hl 5 rfl) ?_
        refine lv_isub S.1 S.2.1 dX8_rhymeOf_26 ?_
        obtain ⟨h_12, hf⟩ := hf
        refine R_iald S.1 S.2.1 hK hP (h12 2 (by decide)) (IAm2 E) h_12 dX8_rhymeOf_27 ?_
        refine lv_aload_n S.1 S.2.1 dX8_rhymeOf_28 rfl (lv_at hl 0 rfl) ?_
        refine gfX8_8 S iX8 hK hP (h12 0 (by decide)) k1 dX8_rhymeOf_29 ?_
        refine lv_iload_n S.1 S.2.1 dX8_rhymeOf_32 rfl (lv_at hl 3 rfl) ?_
        refine lv_iload S.1 S.2.1 dX8_rhymeOf_33 (lv_at hl 4 rfl) ?_
        refine lv_iadd S.1 S.2.1 dX8_rhymeOf_35 ?_
        refine lv_iconst (v := 1) S.1 S.2.1 dX8_rhymeOf_36 rfl ?_
        refine lv_isub S.1 S.2.1 dX8_rhymeOf_37 ?_
        refine lv_iload S.1 S.2.1 dX8_rhymeOf_38 (lv_at hl 5 rfl) ?_
        refine lv_isub S.1 S.2.1 dX8_rhymeOf_40 ?_
        obtain ⟨h_13, hf⟩ := hf
        refine R_iald S.1 S.2.1 hK hP (h12 2 (by decide)) (IAm2 E) h_13 dX8_rhymeOf_41 ?_
        refine R_cVi (As := [.int (I_8 12 2 (((x1_1 + x2_2) - (1 : Int32)) - x5_5).toNatClampNeg), .int (I_8 12 2 (((x3_3 + x4_4) - (1 : Int32)) - x5_5).toNatClampNeg)]) (rest := []) S (c_X8_areAlike (h12 := h12)  hf) gX8_rhymeOf_X8_areAlike rfl yk_X8_areAlike ⟨⟨Nat.le_of_ble_eq_true rfl, Nat.le_of_ble_eq_true rfl⟩, rfl, rfl⟩ hK hP hD hS hX hA (h12 0 (by decide)) (cF_m E _ _ 0) rfl rfl hl.1 rfl (Nat.le_of_ble_eq_true rfl) ⟨Nat.zero_le _, Nat.zero_le _⟩ dX8_rhymeOf_42 (fun v_16 I_14 J_15 H locs hf hP hD hS => ?_)
        refine lv_if_eq (tgt := 54) S.1 S.2.1 dX8_rhymeOf_45 (by decide) (fun h_17 => ?_) (fun h_17 => ?_)
        · have hf := hf.1 h_17
          exact kx54 _ _ _ hf _ _ _ hP hD hS (lv_sub hl [5] rfl)
        · have hf := hf.2 h_17
          refine nm_o hf (fun x5_18 ex5_18 hf => ?_)
          refine lv_iinc (v := x5_18) (lv' := [(5, .int x5_18), (0, .ref (eA E 12 0)), (1, .int x1_1), (2, .int x2_2), (3, .int x3_3), (4, .int x4_4)]) S.1 S.2.1 dX8_rhymeOf_48 hl (k := 5) rfl (by rw [ex5_18]; rfl) (by decide) rfl (fun ls hl => ?_)
          refine lv_goto (tgt := 3) S.1 S.2.1 dX8_rhymeOf_51 (by decide) ?_
          exact ih3 _ _ _ hf _ _ _ hP hD hS (lv_sub hl [1, 2, 3, 4, 5, 0] rfl)
  refine L3 _ _ _ _ _ (fun x5_19 I_20 J_21 hf H locs ls hP hD hS hl => ?_)  n_22 _ _ _ hf _ _ _ hP hD hS (lv_sub hl [1, 2, 3, 4, 5, 0] rfl)
  refine lv_iload S.1 S.2.1 dX8_rhymeOf_54 (lv_at hl 0 rfl) ?_
  exact hret hf rfl hP hD hS dX8_rhymeOf_56
abbrev rmX8_areSame : Room := { frames := 0, cells := 0, slots := 0, locals := 0 }
theorem yk_X8_areSame : yOk yX8_areSame RX8 4 := by unfold yOk; decide +kernel
def f_X8_areSame_B16 (x1_8 : Int32) (x2_9 : Int32) (x3_10 : Int32) (K61 : Int32 → MI → MJ → Prop) (rec16 : Int32 → Int32 → MI → MJ → Prop) (x5_11 : Int32) (x6_12 : Int32) (I_13 : MI) (J_14 : MJ) : Prop :=
  ((x2_9 ≤ x6_12 → K61 x5_11 I_13 J_14) ∧ (¬ x2_9 ≤ x6_12 → ((x5_11 = (0 : Int32) → K61 x5_11 I_13 J_14) ∧ (¬ x5_11 = (0 : Int32) → (vp_in (x1_8 + x6_12) 1802 ∧ (vp_in (x3_10 + x6_12) 1802 ∧ (((I_13 12 2 (x1_8 + x6_12).toNatClampNeg) = (I_13 12 2 (x3_10 + x6_12).toNatClampNeg) → ∀ x6_21 : Int32, x6_21 = x6_12 + (1 : Int32) → rec16 (1 : Int32) x6_21 I_13 J_14) ∧ (¬ (I_13 12 2 (x1_8 + x6_12).toNatClampNeg) = (I_13 12 2 (x3_10 + x6_12).toNatClampNeg) → ∀ x6_20 : Int32, x6_20 = x6_12 + (1 : Int32) → rec16 (0 : Int32) x6_20 I_13 J_14))))))))
def f_X8_areSame_L16 (x1_8 : Int32) (x2_9 : Int32) (x3_10 : Int32) (K61 : Int32 → MI → MJ → Prop) : Nat → Int32 → Int32 → MI → MJ → Prop
  | 0, _, _, _, _ => False
  | n + 1, x5_11, x6_12, I_13, J_14 => f_X8_areSame_B16 x1_8 x2_9 x3_10 K61 (f_X8_areSame_L16 x1_8 x2_9 x3_10 K61 n) x5_11 x6_12 I_13 J_14
def f_X8_areSame_J11 (Q : Int32 → MI → MJ → Prop) (x1_2 : Int32) (x2_3 : Int32) (x3_4 : Int32) (s_5 : Int32) (I_6 : MI) (J_7 : MJ) : Prop :=
  ∃ n : Nat, f_X8_areSame_L16 x1_2 x2_3 x3_4 (fun (x5_22 : Int32) (I_23 : MI) (J_24 : MJ) => (bo x5_22 ∧ Q x5_22 I_23 J_24)) n s_5 (0 : Int32) I_6 J_7
def f_X8_areSame (x1 : Int32) (x2 : Int32) (x3 : Int32) (x4 : Int32) (I : MI) (J : MJ) (Q : Int32 → MI → MJ → Prop) : Prop :=
  ((x2 = x4 → f_X8_areSame_J11 Q x1 x2 x3 (1 : Int32) I J) ∧ (¬ x2 = x4 → f_X8_areSame_J11 Q x1 x2 x3 (0 : Int32) I J))
set_option maxRecDepth 100000 in
set_option maxHeartbeats 4000000 in
theorem c_X8_areSame {l : Launch} {E : EV} {ps : List (Nat × Nat)} (h12 : ∀ r, r < 17 → (12, r) ∈ ps) {x1 : Int32} {x2 : Int32} {x3 : Int32} {x4 : Int32} {I : MI} {J : MJ} {Q : Int32 → MI → MJ → Prop} (hf : f_X8_areSame x1 x2 x3 x4 I J Q) : KI l yX8_areSame wsX8_areSame rmX8_areSame E ps [.ref (eA E 12 0), .int x1, .int x2, .int x3, .int x4] I J Q := by
  refine K_ofI (cc := cX8_areSame) (maxL := 7) (ty := .boolean) (by decide +kernel) rfl (Nat.le_of_ble_eq_true rfl) (fun p e s m args below meth c Qm hret S hK hX => ?_)
  have hA : ∀ q, s.heap.size ≤ q → AA E ps s.heap.size q := fun _ h => Or.inr h
  have k1 := S.2.2.2.2 (.fieldLink RX8 17 "RhymeRoofsModel" "data" "[I") (by decide +kernel)
  have iX8 : ∀ w ∈ wsX80, w ∈ wsX8_areSame := fun _ h => List.mem_cons_of_mem _ (List.mem_append_right _ h)
  have jn11 : ∀ (x1_2 : Int32) (x2_3 : Int32) (x3_4 : Int32) (s_5 : Int32) (I_6 : MI) (J_7 : MJ), f_X8_areSame_J11 Q x1_2 x2_3 x3_4 s_5 I_6 J_7 → Wj p l e (rmX8_areSame) s m args below meth c Qm E ps 7 I_6 J_7 11 [(0, .ref (eA E 12 0)), (1, .int x1_2), (2, .int x2_3), (3, .int x3_4)] [.int s_5] := by
    intro x1_2 x2_3 x3_4 s_5 I_6 J_7 hf H locs ls hP hD hS hl
    unfold f_X8_areSame_J11 at hf
    refine lv_istore (lv' := [(5, .int s_5), (0, .ref (eA E 12 0)), (1, .int x1_2), (2, .int x2_3), (3, .int x3_4)]) S.1 S.2.1 dX8_areSame_11 hl (by decide) rfl (fun ls hl => ?_)
    refine lv_iconst (v := 0) S.1 S.2.1 dX8_areSame_13 rfl ?_
    refine lv_istore (lv' := [(6, .int (0 : Int32)), (5, .int s_5), (0, .ref (eA E 12 0)), (1, .int x1_2), (2, .int x2_3), (3, .int x3_4)]) S.1 S.2.1 dX8_areSame_14 hl (by decide) rfl (fun ls hl => ?_)
    obtain ⟨n_26, hf⟩ := hf
    have L16 : ∀ (x1_8 : Int32), ∀ (x2_9 : Int32), ∀ (x3_10 : Int32), ∀ (K61 : Int32 → MI → MJ → Prop), (∀ (x5_22 : Int32) (I_23 : MI) (J_24 : MJ), K61 x5_22 I_23 J_24 → Wj p l e (rmX8_areSame) s m args below meth c Qm E ps 7 I_23 J_24 61 [(5, .int x5_22)] []) → ∀ (n : Nat) (x5_11 : Int32) (x6_12 : Int32) (I_13 : MI) (J_14 : MJ), f_X8_areSame_L16 x1_8 x2_9 x3_10 K61 n x5_11 x6_12 I_13 J_14 → Wj p l e (rmX8_areSame) s m args below meth c Qm E ps 7 I_13 J_14 16 [(0, .ref (eA E 12 0)), (1, .int x1_8), (2, .int x2_9), (3, .int x3_10), (5, .int x5_11), (6, .int x6_12)] [] := by
      intro x1_8 x2_9 x3_10 K61 kx61 n
      induction n with
      | zero => intro x5_11 x6_12 I_13 J_14 hf; exact hf.elim
      | succ n ih16 =>
        intro x5_11 x6_12 I_13 J_14 hf
        have hf : f_X8_areSame_B16 x1_8 x2_9 x3_10 K61 (f_X8_areSame_L16 x1_8 x2_9 x3_10 K61 n) x5_11 x6_12 I_13 J_14 := hf
        intro H locs ls hP hD hS hl
        unfold f_X8_areSame_B16 at hf
        refine lv_iload S.1 S.2.1 dX8_areSame_16 (lv_at hl 5 rfl) ?_
        refine lv_iload_n S.1 S.2.1 dX8_areSame_18 rfl (lv_at hl 2 rfl) ?_
        refine lv_icmp_ge (tgt := 61) S.1 S.2.1 dX8_areSame_19 (by decide) (fun h_15 => ?_) (fun h_15 => ?_)
        · have hf := hf.1 h_15
          exact kx61 _ _ _ hf _ _ _ hP hD hS (lv_sub hl [4] rfl)
        · have hf := hf.2 h_15
          refine lv_iload S.1 S.2.1 dX8_areSame_22 (lv_at hl 4 rfl) ?_
          refine lv_if_eq (tgt := 61) S.1 S.2.1 dX8_areSame_24 (by decide) (fun h_16 => ?_) (fun h_16 => ?_)
          · have hf := hf.1 h_16
            exact kx61 _ _ _ hf _ _ _ hP hD hS (lv_sub hl [4] rfl)
          · have hf := hf.2 h_16
            refine lv_aload_n S.1 S.2.1 dX8_areSame_27 rfl (lv_at hl 0 rfl) ?_
            refine gfX8_8 S iX8 hK hP (h12 0 (by decide)) k1 dX8_areSame_28 ?_
            refine lv_iload_n S.1 S.2.1 dX8_areSame_31 rfl (lv_at hl 1 rfl) ?_
            refine lv_iload S.1 S.2.1 dX8_areSame_32 (lv_at hl 5 rfl) ?_
            refine lv_iadd S.1 S.2.1 dX8_areSame_34 ?_
            obtain ⟨h_17, hf⟩ := hf
            refine R_iald S.1 S.2.1 hK hP (h12 2 (by decide)) (IAm2 E) h_17 dX8_areSame_35 ?_
            refine lv_aload_n S.1 S.2.1 dX8_areSame_36 rfl (lv_at hl 0 rfl) ?_
            refine gfX8_8 S iX8 hK hP (h12 0 (by decide)) k1 dX8_areSame_37 ?_
            refine lv_iload_n S.1 S.2.1 dX8_areSame_40 rfl (lv_at hl 3 rfl) ?_
            refine lv_iload S.1 S.2.1 dX8_areSame_41 (lv_at hl 5 rfl) ?_
            refine lv_iadd S.1 S.2.1 dX8_areSame_43 ?_
            obtain ⟨h_18, hf⟩ := hf
            refine R_iald S.1 S.2.1 hK hP (h12 2 (by decide)) (IAm2 E) h_18 dX8_areSame_44 ?_
            refine lv_icmp_ne (tgt := 52) S.1 S.2.1 dX8_areSame_45 (by decide) (fun h_19 => ?_) (fun h_19 => ?_)
            · have hf := hf.2 h_19
              refine lv_iconst (v := 0) S.1 S.2.1 dX8_areSame_52 rfl ?_
              refine lv_istore (lv' := [(5, .int (0 : Int32)), (0, .ref (eA E 12 0)), (1, .int x1_8), (2, .int x2_9), (3, .int x3_10), (6, .int x6_12)]) S.1 S.2.1 dX8_areSame_53 hl (by decide) rfl (fun ls hl => ?_)
              refine nm_o hf (fun x6_20 ex6_20 hf => ?_)
              refine lv_iinc (v := x6_20) (lv' := [(6, .int x6_20), (5, .int (0 : Int32)), (0, .ref (eA E 12 0)), (1, .int x1_8), (2, .int x2_9), (3, .int x3_10)]) S.1 S.2.1 dX8_areSame_55 hl (k := 5) rfl (by rw [ex6_20]; rfl) (by decide) rfl (fun ls hl => ?_)
              refine lv_goto (tgt := 16) S.1 S.2.1 dX8_areSame_58 (by decide) ?_
              exact ih16 _ _ _ _ hf _ _ _ hP hD hS (lv_sub hl [2, 3, 4, 5, 1, 0] rfl)
            · have hf := hf.1 h_19
              refine lv_iconst (v := 1) S.1 S.2.1 dX8_areSame_48 rfl ?_
              refine lv_goto (tgt := 53) S.1 S.2.1 dX8_areSame_49 (by decide) ?_
              refine lv_istore (lv' := [(5, .int (1 : Int32)), (0, .ref (eA E 12 0)), (1, .int x1_8), (2, .int x2_9), (3, .int x3_10), (6, .int x6_12)]) S.1 S.2.1 dX8_areSame_53 hl (by decide) rfl (fun ls hl => ?_)
              refine nm_o hf (fun x6_21 ex6_21 hf => ?_)
              refine lv_iinc (v := x6_21) (lv' := [(6, .int x6_21), (5, .int (1 : Int32)), (0, .ref (eA E 12 0)), (1, .int x1_8), (2, .int x2_9), (3, .int x3_10)]) S.1 S.2.1 dX8_areSame_55 hl (k := 5) rfl (by rw [ex6_21]; rfl) (by decide) rfl (fun ls hl => ?_)
              refine lv_goto (tgt := 16) S.1 S.2.1 dX8_areSame_58 (by decide) ?_
              exact ih16 _ _ _ _ hf _ _ _ hP hD hS (lv_sub hl [2, 3, 4, 5, 1, 0] rfl)
    refine L16 _ _ _ _ (fun x5_22 I_23 J_24 hf H locs ls hP hD hS hl => ?_)  n_26 _ _ _ _ hf _ _ _ hP hD hS (lv_sub hl [2, 3, 4, 5, 1, 0] rfl)
    refine lv_iload S.1 S.2.1 dX8_areSame_61 (lv_at hl 0 rfl) ?_
    obtain ⟨h_25, hf⟩ := hf
    exact hret hf h_25.1 hP hD hS dX8_areSame_63
  intro H locs ls hP hD hS hl
  unfold f_X8_areSame at hf
  refine lv_iload_n S.1 S.2.1 dX8_areSame_0 rfl (lv_at hl 2 rfl) ?_
  refine lv_iload S.1 S.2.1 dX8_areSame_1 (lv_at hl 4 rfl) ?_
  refine lv_icmp_ne (tgt := 10) S.1 S.2.1 dX8_areSame_3 (by decide) (fun h_1 => ?_) (fun h_1 => ?_)
  · have hf := hf.2 h_1
    refine lv_iconst (v := 0) S.1 S.2.1 dX8_areSame_10 rfl ?_
    exact jn11 _ _ _ _ _ _ hf _ _ _ hP hD hS (lv_sub hl [0, 1, 2, 3] rfl)
  · have hf := hf.1 h_1
    refine lv_iconst (v := 1) S.1 S.2.1 dX8_areSame_6 rfl ?_
    refine lv_goto (tgt := 11) S.1 S.2.1 dX8_areSame_7 (by decide) ?_
    exact jn11 _ _ _ _ _ _ hf _ _ _ hP hD hS (lv_sub hl [0, 1, 2, 3] rfl)
abbrev rmX8_lastAt : Room := { frames := 2, cells := 0, slots := 0, locals := 42 }
theorem yk_X8_lastAt : yOk yX8_lastAt RX8 1 := by unfold yOk; decide +kernel
def f_X8_lastAt (x1 : Int32) (I : MI) (J : MJ) (Q : Int32 → MI → MJ → Prop) : Prop :=
  f_X8_rowAt x1 I J (fun (v_3 : Int32) (I_1 : MI) (J_2 : MJ) => f_X8_ofRow x1 (1 : Int32) I_1 J_2 (fun (v_6 : Int32) (I_4 : MI) (J_5 : MJ) => f_X8_ofRow x1 (4 : Int32) I_4 J_5 (fun (v_9 : Int32) (I_7 : MI) (J_8 : MJ) => Q (((v_3 + (5 : Int32)) + v_6) - v_9) I_7 J_8)))
set_option maxRecDepth 100000 in
set_option maxHeartbeats 4000000 in
theorem c_X8_lastAt {l : Launch} {E : EV} {ps : List (Nat × Nat)} (h12 : ∀ r, r < 17 → (12, r) ∈ ps) {x1 : Int32} {I : MI} {J : MJ} {Q : Int32 → MI → MJ → Prop} (hf : f_X8_lastAt x1 I J Q) : KI l yX8_lastAt wsX8_lastAt rmX8_lastAt E ps [.ref (eA E 12 0), .int x1] I J Q := by
  refine K_ofI (cc := cX8_lastAt) (maxL := 2) (ty := .int) (by decide +kernel) rfl (Nat.le_of_ble_eq_true rfl) (fun p e s m args below meth c Qm hret S hK hX => ?_)
  have hA : ∀ q, s.heap.size ≤ q → AA E ps s.heap.size q := fun _ h => Or.inr h
  intro H locs ls hP hD hS hl
  unfold f_X8_lastAt at hf
  refine lv_iload_n S.1 S.2.1 dX8_lastAt_0 rfl (lv_at hl 1 rfl) ?_
  refine R_cSi (As := [.int x1]) (rest := []) S (c_X8_rowAt   hf) gX8_lastAt_X8_rowAt rfl yk_X8_rowAt ⟨⟨Nat.le_of_ble_eq_true rfl, Nat.le_of_ble_eq_true rfl⟩, rfl, rfl⟩ hK hP hD hS hX hA rfl hl.1 rfl (Nat.le_of_ble_eq_true rfl) ⟨Nat.zero_le _, Nat.zero_le _⟩ dX8_lastAt_1 (fun v_3 I_1 J_2 H locs hf hP hD hS => ?_)
  refine lv_iconst (v := 5) S.1 S.2.1 dX8_lastAt_4 rfl ?_
  refine lv_iadd S.1 S.2.1 dX8_lastAt_5 ?_
  refine lv_aload_n S.1 S.2.1 dX8_lastAt_6 rfl (lv_at hl 0 rfl) ?_
  refine lv_iload_n S.1 S.2.1 dX8_lastAt_7 rfl (lv_at hl 1 rfl) ?_
  refine lv_iconst (v := 1) S.1 S.2.1 dX8_lastAt_8 rfl ?_
  refine R_cVi (As := [.int x1, .int (1 : Int32)]) (rest := [.int (v_3 + (5 : Int32))]) S (c_X8_ofRow (h12 := h12)  hf) gX8_lastAt_X8_ofRow rfl yk_X8_ofRow ⟨⟨Nat.le_of_ble_eq_true rfl, Nat.le_of_ble_eq_true rfl⟩, rfl, rfl⟩ hK hP hD hS hX hA (h12 0 (by decide)) (cF_m E _ _ 0) rfl rfl hl.1 rfl (Nat.le_of_ble_eq_true rfl) ⟨Nat.zero_le _, Nat.zero_le _⟩ dX8_lastAt_9 (fun v_6 I_4 J_5 H locs hf hP hD hS => ?_)
  refine lv_iadd S.1 S.2.1 dX8_lastAt_12 ?_
  refine lv_aload_n S.1 S.2.1 dX8_lastAt_13 rfl (lv_at hl 0 rfl) ?_
  refine lv_iload_n S.1 S.2.1 dX8_lastAt_14 rfl (lv_at hl 1 rfl) ?_
  refine lv_iconst (v := 4) S.1 S.2.1 dX8_lastAt_15 rfl ?_
  refine R_cVi (As := [.int x1, .int (4 : Int32)]) (rest := [.int ((v_3 + (5 : Int32)) + v_6)]) S (c_X8_ofRow (h12 := h12)  hf) gX8_lastAt_X8_ofRow rfl yk_X8_ofRow ⟨⟨Nat.le_of_ble_eq_true rfl, Nat.le_of_ble_eq_true rfl⟩, rfl, rfl⟩ hK hP hD hS hX hA (h12 0 (by decide)) (cF_m E _ _ 0) rfl rfl hl.1 rfl (Nat.le_of_ble_eq_true rfl) ⟨Nat.zero_le _, Nat.zero_le _⟩ dX8_lastAt_16 (fun v_9 I_7 J_8 H locs hf hP hD hS => ?_)
  refine lv_isub S.1 S.2.1 dX8_lastAt_19 ?_
  exact hret hf rfl hP hD hS dX8_lastAt_20
