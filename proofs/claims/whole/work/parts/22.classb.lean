abbrev rmX2_keep : Room := { frames := 4, cells := 0, slots := 0, locals := 127 }
theorem yk_X2_keep : yOk yX2_keep RX2 1 := by unfold yOk; decide +kernel
def f_X2_keep_J35 (g : Nat) (Q : MI → MJ → Prop) (s_5 : Int32) (I_6 : MI) (J_7 : MJ) : Prop :=
  ∀ I_8 : MI, I_8 = sI I_6 11 2 1 s_5 → (((8 : Int32) ≤ (I_8 11 2 2) → ∀ I_10 : MI, I_10 = sI I_8 11 2 2 (8 : Int32) → Q I_10 J_7) ∧ (¬ (8 : Int32) ≤ (I_8 11 2 2) → ∀ I_11 : MI, I_11 = sI I_8 11 2 2 ((I_8 11 2 2) + (1 : Int32)) → Q I_11 J_7))
def f_X2_keep (g : Nat) (I : MI) (J : MJ) (Q : MI → MJ → Prop) : Prop :=
  (vp_in (I 11 2 1) 8 ∧ f_X1_copyFrom (2 + (I 11 2 1).toNatClampNeg) g I J (fun (I_2 : MI) (J_3 : MJ) => (((8 : Int32) ≤ ((I_2 11 2 1) + (1 : Int32)) → f_X2_keep_J35 g Q (0 : Int32) I_2 J_3) ∧ (¬ (8 : Int32) ≤ ((I_2 11 2 1) + (1 : Int32)) → f_X2_keep_J35 g Q ((I_2 11 2 1) + (1 : Int32)) I_2 J_3))))
set_option maxRecDepth 100000 in
set_option maxHeartbeats 4000000 in
theorem c_X2_keep {l : Launch} {E : EV} {ps : List (Nat × Nat)} (h11 : ∀ r, r < 11 → (11, r) ∈ ps) (hG : ∀ k r, k < 11 → r < 16 → (k, r) ∈ ps) (hR : (eT E)[2]? = some (eG E, .object "RhymeRoofs$Game")) {g : Nat} (hBg : g < 11) (hMg : ∀ r, r < 16 → (g, r) ∈ ps) {I : MI} {J : MJ} {Q : MI → MJ → Prop} (hf : f_X2_keep g I J Q) : KV l yX2_keep wsX2_keep rmX2_keep E ps [.ref (eA E 11 2), .ref (eA E g 0)] I J Q := by
  refine K_ofV (cc := cX2_keep) (maxL := 2) (by decide +kernel) rfl (Nat.le_of_ble_eq_true rfl) (fun p e s m args below meth c Qm hret S hK hX => ?_)
  have hA : ∀ q, s.heap.size ≤ q → AA E ps s.heap.size q := fun _ h => Or.inr h
  have k1 := S.2.2.2.2 (.fieldLink RX2 11 "RhymeRoofs$History" "past" "[LRhymeRoofs$Game;") (by decide +kernel)
  have iX2 : ∀ w ∈ wsX20, w ∈ wsX2_keep := fun _ h => List.mem_cons_of_mem _ (List.mem_append_left _ (List.mem_append_left _ (List.mem_append_left _ (List.mem_append_right _ h))))
  have k2 := S.2.2.2.2 (.fieldLink RX2 17 "RhymeRoofs$History" "next" "I") (by decide +kernel)
  have k3 := S.2.2.2.2 (.fieldLink RX2 21 "RhymeRoofs$History" "count" "I") (by decide +kernel)
  have jn35 : ∀ (s_5 : Int32) (I_6 : MI) (J_7 : MJ), f_X2_keep_J35 g Q s_5 I_6 J_7 → Wj p l e (rmX2_keep) s m args below meth c Qm E ps 2 I_6 J_7 35 [(0, .ref (eA E 11 2))] [.int s_5, .ref (eA E 11 2)] := by
    intro s_5 I_6 J_7 hf H locs ls hP hD hS hl
    unfold f_X2_keep_J35 at hf
    refine nm_o hf (fun I_8 eI_8 hf => ?_)
    refine pfX2_1 S iX2 hK hP hD hS (h11 2 (by decide)) k2 dX2_keep_35 eI_8 (fun H locs hP hD hS => ?_)
    refine lv_aload_n S.1 S.2.1 dX2_keep_38 rfl (lv_at hl 0 rfl) ?_
    refine lv_aload_n S.1 S.2.1 dX2_keep_39 rfl (lv_at hl 0 rfl) ?_
    refine gfX2_2 S iX2 hK hP (h11 2 (by decide)) k3 dX2_keep_40 ?_
    refine lv_bipush (v := 8) S.1 S.2.1 dX2_keep_43 rfl ?_
    refine lv_icmp_ge (tgt := 57) S.1 S.2.1 dX2_keep_45 (by decide) (fun h_9 => ?_) (fun h_9 => ?_)
    · have hf := hf.1 h_9
      refine lv_bipush (v := 8) S.1 S.2.1 dX2_keep_57 rfl ?_
      refine nm_o hf (fun I_10 eI_10 hf => ?_)
      refine pfX2_2 S iX2 hK hP hD hS (h11 2 (by decide)) k3 dX2_keep_59 eI_10 (fun H locs hP hD hS => ?_)
      exact hret hf hP hD hS dX2_keep_62
    · have hf := hf.2 h_9
      refine lv_aload_n S.1 S.2.1 dX2_keep_48 rfl (lv_at hl 0 rfl) ?_
      refine gfX2_2 S iX2 hK hP (h11 2 (by decide)) k3 dX2_keep_49 ?_
      refine lv_iconst (v := 1) S.1 S.2.1 dX2_keep_52 rfl ?_
      refine lv_iadd S.1 S.2.1 dX2_keep_53 ?_
      refine lv_goto (tgt := 59) S.1 S.2.1 dX2_keep_54 (by decide) ?_
      refine nm_o hf (fun I_11 eI_11 hf => ?_)
      refine pfX2_2 S iX2 hK hP hD hS (h11 2 (by decide)) k3 dX2_keep_59 eI_11 (fun H locs hP hD hS => ?_)
      exact hret hf hP hD hS dX2_keep_62
  intro H locs ls hP hD hS hl
  unfold f_X2_keep at hf
  refine lv_aload_n S.1 S.2.1 dX2_keep_0 rfl (lv_at hl 0 rfl) ?_
  refine gfX2_0 S iX2 hK hP (h11 2 (by decide)) k1 dX2_keep_1 ?_
  refine lv_aload_n S.1 S.2.1 dX2_keep_4 rfl (lv_at hl 0 rfl) ?_
  refine gfX2_1 S iX2 hK hP (h11 2 (by decide)) k2 dX2_keep_5 ?_
  obtain ⟨h_1, hf⟩ := hf
  refine R_aldG S.1 S.2.1 hK hR hP (h11 3 (by decide)) h_1 dX2_keep_8 ?_
  refine lv_aload_n S.1 S.2.1 dX2_keep_9 rfl (lv_at hl 1 rfl) ?_
  refine R_cVv (As := [.ref (eA E g 0)]) (rest := []) S (c_X1_copyFrom (hB := (pst h_1)) (hM := (fun r => hG _ r (pst h_1))) (hBg := hBg) (hMg := hMg) hf) gX2_keep_X1_copyFrom rfl yk_X1_copyFrom ⟨⟨Nat.le_of_ble_eq_true rfl, Nat.le_of_ble_eq_true rfl⟩, rfl, rfl⟩ hK hP hD hS hX hA ((fun r => hG _ r (pst h_1)) 0 (by decide)) (cF_g E (pst h_1) _ _ 0) rfl rfl hl.1 rfl (Nat.le_of_ble_eq_true rfl) ⟨Nat.zero_le _, Nat.zero_le _⟩ dX2_keep_10 (fun I_2 J_3 H locs hf hP hD hS => ?_)
  refine lv_aload_n S.1 S.2.1 dX2_keep_13 rfl (lv_at hl 0 rfl) ?_
  refine lv_aload_n S.1 S.2.1 dX2_keep_14 rfl (lv_at hl 0 rfl) ?_
  refine gfX2_1 S iX2 hK hP (h11 2 (by decide)) k2 dX2_keep_15 ?_
  refine lv_iconst (v := 1) S.1 S.2.1 dX2_keep_18 rfl ?_
  refine lv_iadd S.1 S.2.1 dX2_keep_19 ?_
  refine lv_bipush (v := 8) S.1 S.2.1 dX2_keep_20 rfl ?_
  refine lv_icmp_ge (tgt := 34) S.1 S.2.1 dX2_keep_22 (by decide) (fun h_4 => ?_) (fun h_4 => ?_)
  · have hf := hf.1 h_4
    refine lv_iconst (v := 0) S.1 S.2.1 dX2_keep_34 rfl ?_
    exact jn35 _ _ _ hf _ _ _ hP hD hS (lv_sub hl [0] rfl)
  · have hf := hf.2 h_4
    refine lv_aload_n S.1 S.2.1 dX2_keep_25 rfl (lv_at hl 0 rfl) ?_
    refine gfX2_1 S iX2 hK hP (h11 2 (by decide)) k2 dX2_keep_26 ?_
    refine lv_iconst (v := 1) S.1 S.2.1 dX2_keep_29 rfl ?_
    refine lv_iadd S.1 S.2.1 dX2_keep_30 ?_
    refine lv_goto (tgt := 35) S.1 S.2.1 dX2_keep_31 (by decide) ?_
    exact jn35 _ _ _ hf _ _ _ hP hD hS (lv_sub hl [0] rfl)
abbrev rmX2_restore : Room := { frames := 4, cells := 0, slots := 0, locals := 127 }
theorem yk_X2_restore : yOk yX2_restore RX2 1 := by unfold yOk; decide +kernel
def f_X2_restore_J28 (g : Nat) (Q : Int32 → MI → MJ → Prop) (s_3 : Int32) (I_4 : MI) (J_5 : MJ) : Prop :=
  ∀ I_6 : MI, I_6 = sI I_4 11 2 1 s_3 → ∀ I_7 : MI, I_7 = sI I_6 11 2 2 ((I_6 11 2 2) - (1 : Int32)) → (vp_in (I_7 11 2 1) 8 ∧ f_X1_copyFrom g (2 + (I_7 11 2 1).toNatClampNeg) I_7 J_5 (fun (I_9 : MI) (J_10 : MJ) => Q (I_9 11 2 2) I_9 J_10))
def f_X2_restore (g : Nat) (I : MI) (J : MJ) (Q : Int32 → MI → MJ → Prop) : Prop :=
  (((I 11 2 2) = (0 : Int32) → Q (-1 : Int32) I J) ∧ (¬ (I 11 2 2) = (0 : Int32) → (((I 11 2 1) ≤ (0 : Int32) → f_X2_restore_J28 g Q (7 : Int32) I J) ∧ (¬ (I 11 2 1) ≤ (0 : Int32) → f_X2_restore_J28 g Q ((I 11 2 1) - (1 : Int32)) I J))))
set_option maxRecDepth 100000 in
set_option maxHeartbeats 4000000 in
theorem c_X2_restore {l : Launch} {E : EV} {ps : List (Nat × Nat)} (h11 : ∀ r, r < 11 → (11, r) ∈ ps) (hG : ∀ k r, k < 11 → r < 16 → (k, r) ∈ ps) (hR : (eT E)[2]? = some (eG E, .object "RhymeRoofs$Game")) {g : Nat} (hBg : g < 11) (hMg : ∀ r, r < 16 → (g, r) ∈ ps) {I : MI} {J : MJ} {Q : Int32 → MI → MJ → Prop} (hf : f_X2_restore g I J Q) : KI l yX2_restore wsX2_restore rmX2_restore E ps [.ref (eA E 11 2), .ref (eA E g 0)] I J Q := by
  refine K_ofI (cc := cX2_restore) (maxL := 2) (ty := .int) (by decide +kernel) rfl (Nat.le_of_ble_eq_true rfl) (fun p e s m args below meth c Qm hret S hK hX => ?_)
  have hA : ∀ q, s.heap.size ≤ q → AA E ps s.heap.size q := fun _ h => Or.inr h
  have k1 := S.2.2.2.2 (.fieldLink RX2 21 "RhymeRoofs$History" "count" "I") (by decide +kernel)
  have iX2 : ∀ w ∈ wsX20, w ∈ wsX2_restore := fun _ h => List.mem_cons_of_mem _ (List.mem_append_left _ (List.mem_append_left _ (List.mem_append_left _ (List.mem_append_right _ h))))
  have k2 := S.2.2.2.2 (.fieldLink RX2 17 "RhymeRoofs$History" "next" "I") (by decide +kernel)
  have k3 := S.2.2.2.2 (.fieldLink RX2 11 "RhymeRoofs$History" "past" "[LRhymeRoofs$Game;") (by decide +kernel)
  have jn28 : ∀ (s_3 : Int32) (I_4 : MI) (J_5 : MJ), f_X2_restore_J28 g Q s_3 I_4 J_5 → Wj p l e (rmX2_restore) s m args below meth c Qm E ps 2 I_4 J_5 28 [(0, .ref (eA E 11 2)), (1, .ref (eA E g 0))] [.int s_3, .ref (eA E 11 2)] := by
    intro s_3 I_4 J_5 hf H locs ls hP hD hS hl
    unfold f_X2_restore_J28 at hf
    refine nm_o hf (fun I_6 eI_6 hf => ?_)
    refine pfX2_1 S iX2 hK hP hD hS (h11 2 (by decide)) k2 dX2_restore_28 eI_6 (fun H locs hP hD hS => ?_)
    refine lv_aload_n S.1 S.2.1 dX2_restore_31 rfl (lv_at hl 0 rfl) ?_
    refine lv_dup S.1 S.2.1 dX2_restore_32 rfl ?_
    refine gfX2_2 S iX2 hK hP (h11 2 (by decide)) k1 dX2_restore_33 ?_
    refine lv_iconst (v := 1) S.1 S.2.1 dX2_restore_36 rfl ?_
    refine lv_isub S.1 S.2.1 dX2_restore_37 ?_
    refine nm_o hf (fun I_7 eI_7 hf => ?_)
    refine pfX2_2 S iX2 hK hP hD hS (h11 2 (by decide)) k1 dX2_restore_38 eI_7 (fun H locs hP hD hS => ?_)
    refine lv_aload_n S.1 S.2.1 dX2_restore_41 rfl (lv_at hl 1 rfl) ?_
    refine lv_aload_n S.1 S.2.1 dX2_restore_42 rfl (lv_at hl 0 rfl) ?_
    refine gfX2_0 S iX2 hK hP (h11 2 (by decide)) k3 dX2_restore_43 ?_
    refine lv_aload_n S.1 S.2.1 dX2_restore_46 rfl (lv_at hl 0 rfl) ?_
    refine gfX2_1 S iX2 hK hP (h11 2 (by decide)) k2 dX2_restore_47 ?_
    obtain ⟨h_8, hf⟩ := hf
    refine R_aldG S.1 S.2.1 hK hR hP (h11 3 (by decide)) h_8 dX2_restore_50 ?_
    refine R_cVv (As := [.ref (eA E (2 + (I_7 11 2 1).toNatClampNeg) 0)]) (rest := []) S (c_X1_copyFrom (hB := hBg) (hM := hMg) (hBg := (pst h_8)) (hMg := (fun r => hG _ r (pst h_8))) hf) gX2_restore_X1_copyFrom rfl yk_X1_copyFrom ⟨⟨Nat.le_of_ble_eq_true rfl, Nat.le_of_ble_eq_true rfl⟩, rfl, rfl⟩ hK hP hD hS hX hA (hMg 0 (by decide)) (cF_g E hBg _ _ 0) rfl rfl hl.1 rfl (Nat.le_of_ble_eq_true rfl) ⟨Nat.zero_le _, Nat.zero_le _⟩ dX2_restore_51 (fun I_9 J_10 H locs hf hP hD hS => ?_)
    refine lv_aload_n S.1 S.2.1 dX2_restore_54 rfl (lv_at hl 0 rfl) ?_
    refine gfX2_2 S iX2 hK hP (h11 2 (by decide)) k1 dX2_restore_55 ?_
    exact hret hf rfl hP hD hS dX2_restore_58
  intro H locs ls hP hD hS hl
  unfold f_X2_restore at hf
  refine lv_aload_n S.1 S.2.1 dX2_restore_0 rfl (lv_at hl 0 rfl) ?_
  refine gfX2_2 S iX2 hK hP (h11 2 (by decide)) k1 dX2_restore_1 ?_
  refine lv_if_ne (tgt := 9) S.1 S.2.1 dX2_restore_4 (by decide) (fun h_1 => ?_) (fun h_1 => ?_)
  · have hf := hf.2 h_1
    refine lv_aload_n S.1 S.2.1 dX2_restore_9 rfl (lv_at hl 0 rfl) ?_
    refine lv_aload_n S.1 S.2.1 dX2_restore_10 rfl (lv_at hl 0 rfl) ?_
    refine gfX2_1 S iX2 hK hP (h11 2 (by decide)) k2 dX2_restore_11 ?_
    refine lv_if_le (tgt := 26) S.1 S.2.1 dX2_restore_14 (by decide) (fun h_2 => ?_) (fun h_2 => ?_)
    · have hf := hf.1 h_2
      refine lv_bipush (v := 7) S.1 S.2.1 dX2_restore_26 rfl ?_
      exact jn28 _ _ _ hf _ _ _ hP hD hS (lv_sub hl [0, 1] rfl)
    · have hf := hf.2 h_2
      refine lv_aload_n S.1 S.2.1 dX2_restore_17 rfl (lv_at hl 0 rfl) ?_
      refine gfX2_1 S iX2 hK hP (h11 2 (by decide)) k2 dX2_restore_18 ?_
      refine lv_iconst (v := 1) S.1 S.2.1 dX2_restore_21 rfl ?_
      refine lv_isub S.1 S.2.1 dX2_restore_22 ?_
      refine lv_goto (tgt := 28) S.1 S.2.1 dX2_restore_23 (by decide) ?_
      exact jn28 _ _ _ hf _ _ _ hP hD hS (lv_sub hl [0, 1] rfl)
  · have hf := hf.1 h_1
    refine lv_iconst (v := (-1)) S.1 S.2.1 dX2_restore_7 rfl ?_
    exact hret hf rfl hP hD hS dX2_restore_8
abbrev rmX0_note : Room := { frames := 1, cells := 0, slots := 0, locals := 64 }
theorem yk_X0_note : yOk yX0_note RX0 4 := by unfold yOk; decide +kernel
def f_X0_note (x1 : Int32) (x2 : Int32) (x3 : Int32) (x4 : Int32) (I : MI) (J : MJ) (Q : MI → MJ → Prop) : Prop :=
  ∀ x5_1 : Int32, x5_1 = ((x1 * (8 : Int32)) + x2) → (vp_in x5_1 2048 ∧ (vp_in x5_1 2048 ∧ ∀ I_4 : MI, I_4 = sI I 11 7 x5_1.toNatClampNeg ((I 11 7 x5_1.toNatClampNeg) + x3) → (vp_in x5_1 2048 ∧ (vp_in x5_1 2048 ∧ ∀ I_7 : MI, I_7 = sI I_4 11 8 x5_1.toNatClampNeg (if (I_4 11 8 x5_1.toNatClampNeg) < x4 then x4 else I_4 11 8 x5_1.toNatClampNeg) → f_J6_bitCount_0f7a4 x1 I_7 J (fun (v_10 : Int32) (I_8 : MI) (J_9 : MJ) => ∀ I_11 : MI, I_11 = sI I_8 11 6 0 (if (I_7 11 6 0) < v_10 then v_10 else I_7 11 6 0) → ∀ I_12 : MI, I_12 = sI I_11 11 6 1 (if (I_11 11 6 1) < x4 then x4 else I_11 11 6 1) → f_X0_lettersOf x1 I_12 J_9 (fun (v_15 : Int32) (I_13 : MI) (J_14 : MJ) => ((v_15 = (I_13 11 6 8) → ∀ I_17 : MI, I_17 = sI I_13 11 6 2 ((I_13 11 6 2) + x3) → Q I_17 J_14) ∧ (¬ v_15 = (I_13 11 6 8) → Q I_13 J_14))))))))
set_option maxRecDepth 100000 in
set_option maxHeartbeats 4000000 in
theorem c_X0_note {l : Launch} {E : EV} {ps : List (Nat × Nat)} (h11 : ∀ r, r < 11 → (11, r) ∈ ps) {x1 : Int32} {x2 : Int32} {x3 : Int32} {x4 : Int32} {I : MI} {J : MJ} {Q : MI → MJ → Prop} (hf : f_X0_note x1 x2 x3 x4 I J Q) : KV l yX0_note wsX0_note rmX0_note E ps [.ref (eA E 11 6), .int x1, .int x2, .int x3, .int x4] I J Q := by
  refine K_ofV (cc := cX0_note) (maxL := 6) (by decide +kernel) rfl (Nat.le_of_ble_eq_true rfl) (fun p e s m args below meth c Qm hret S hK hX => ?_)
  have hA : ∀ q, s.heap.size ≤ q → AA E ps s.heap.size q := fun _ h => Or.inr h
  have k1 := S.2.2.2.2 (.fieldLink RX0 11 "RhymeRoofs$Chains" "ways" "[I") (by decide +kernel)
  have iX0 : ∀ w ∈ wsX00, w ∈ wsX0_note := fun _ h => List.mem_cons_of_mem _ (List.mem_append_right _ h)
  have k2 := S.2.2.2.2 (.fieldLink RX0 15 "RhymeRoofs$Chains" "bestPoints" "[I") (by decide +kernel)
  have k3 := S.2.2.2.2 (.methodLink RX0 119 Lib.Math.max.name) (by decide +kernel)
  have k4 := S.2.2.2.2 (.static Lib.Math.max.name) (by decide +kernel)
  have k5 := S.2.2.2.2 (.initialized "java/lang/Math") (by decide +kernel)
  have k6 := S.2.2.2.2 (.code Lib.Math.max.name Lib.Math.max.code 2 (some .int)) (by decide +kernel)
  have k7 := S.2.2.2.2 (.fieldLink RX0 24 "RhymeRoofs$Chains" "mostWords" "I") (by decide +kernel)
  have k8 := S.2.2.2.2 (.fieldLink RX0 28 "RhymeRoofs$Chains" "mostPoints" "I") (by decide +kernel)
  have k9 := S.2.2.2.2 (.fieldLink RX0 75 "RhymeRoofs$Chains" "free" "I") (by decide +kernel)
  have k10 := S.2.2.2.2 (.fieldLink RX0 31 "RhymeRoofs$Chains" "thatFill" "I") (by decide +kernel)
  intro H locs ls hP hD hS hl
  unfold f_X0_note at hf
  refine lv_iload_n S.1 S.2.1 dX0_note_0 rfl (lv_at hl 1 rfl) ?_
  refine lv_bipush (v := 8) S.1 S.2.1 dX0_note_1 rfl ?_
  refine lv_imul S.1 S.2.1 dX0_note_3 ?_
  refine lv_iload_n S.1 S.2.1 dX0_note_4 rfl (lv_at hl 2 rfl) ?_
  refine lv_iadd S.1 S.2.1 dX0_note_5 ?_
  refine lv_topi (fun x5_1 ex5_1 => ?_)
  have hf := hf x5_1 ex5_1
  refine lv_istore (lv' := [(5, .int x5_1), (0, .ref (eA E 11 6)), (1, .int x1), (2, .int x2), (3, .int x3), (4, .int x4)]) S.1 S.2.1 dX0_note_6 hl (by decide) rfl (fun ls hl => ?_)
  refine lv_aload_n S.1 S.2.1 dX0_note_8 rfl (lv_at hl 1 rfl) ?_
  refine gfX0_3 S iX0 hK hP (h11 6 (by decide)) k1 dX0_note_9 ?_
  refine lv_iload S.1 S.2.1 dX0_note_12 (lv_at hl 0 rfl) ?_
  refine lv_dup2_11 S.1 S.2.1 dX0_note_14 rfl rfl ?_
  obtain ⟨h_2, hf⟩ := hf
  refine R_iald S.1 S.2.1 hK hP (h11 7 (by decide)) (IAo7 E) h_2 dX0_note_15 ?_
  refine lv_iload_n S.1 S.2.1 dX0_note_16 rfl (lv_at hl 4 rfl) ?_
  refine lv_iadd S.1 S.2.1 dX0_note_17 ?_
  obtain ⟨h_3, hf⟩ := hf
  refine nm_o hf (fun I_4 eI_4 hf => ?_)
  refine R_iast S.1 S.2.1 hK hP hD hS (h11 7 (by decide)) (IAo7 E) h_3 dX0_note_18 eI_4 (fun H locs hP hD hS => ?_)
  refine lv_aload_n S.1 S.2.1 dX0_note_19 rfl (lv_at hl 1 rfl) ?_
  refine gfX0_4 S iX0 hK hP (h11 6 (by decide)) k2 dX0_note_20 ?_
  refine lv_iload S.1 S.2.1 dX0_note_23 (lv_at hl 0 rfl) ?_
  refine lv_aload_n S.1 S.2.1 dX0_note_25 rfl (lv_at hl 1 rfl) ?_
  refine gfX0_4 S iX0 hK hP (h11 6 (by decide)) k2 dX0_note_26 ?_
  refine lv_iload S.1 S.2.1 dX0_note_29 (lv_at hl 0 rfl) ?_
  obtain ⟨h_5, hf⟩ := hf
  refine R_iald S.1 S.2.1 hK hP (h11 8 (by decide)) (IAo8 E) h_5 dX0_note_31 ?_
  refine lv_iload S.1 S.2.1 dX0_note_32 (lv_at hl 5 rfl) ?_
  refine va_mmax S.1 S.2.1 (S.2.2.1.trans hl.1.symm) S.2.2.2.1 k3 k4 k5 k6 (Nat.le_of_ble_eq_true rfl) (Nat.le_of_ble_eq_true rfl) (Nat.zero_le _) (Nat.zero_le _) dX0_note_34 ?_
  obtain ⟨h_6, hf⟩ := hf
  refine nm_o hf (fun I_7 eI_7 hf => ?_)
  refine R_iast S.1 S.2.1 hK hP hD hS (h11 8 (by decide)) (IAo8 E) h_6 dX0_note_37 eI_7 (fun H locs hP hD hS => ?_)
  refine lv_aload_n S.1 S.2.1 dX0_note_38 rfl (lv_at hl 1 rfl) ?_
  refine lv_aload_n S.1 S.2.1 dX0_note_39 rfl (lv_at hl 1 rfl) ?_
  refine gfX0_0 S iX0 hK hP (h11 6 (by decide)) k7 dX0_note_40 ?_
  refine lv_iload_n S.1 S.2.1 dX0_note_43 rfl (lv_at hl 2 rfl) ?_
  refine R_cSi (As := [.int x1]) (rest := [.int (I_7 11 6 0), .ref (eA E 11 6)]) S (c_J6_bitCount_0f7a4   hf) gX0_note_J6_bitCount_0f7a4 rfl yk_J6_bitCount_0f7a4 ⟨⟨Nat.le_of_ble_eq_true rfl, Nat.le_of_ble_eq_true rfl⟩, rfl, rfl⟩ hK hP hD hS hX hA rfl hl.1 rfl (Nat.le_of_ble_eq_true rfl) ⟨Nat.zero_le _, Nat.zero_le _⟩ dX0_note_44 (fun v_10 I_8 J_9 H locs hf hP hD hS => ?_)
  refine va_mmax S.1 S.2.1 (S.2.2.1.trans hl.1.symm) S.2.2.2.1 k3 k4 k5 k6 (Nat.le_of_ble_eq_true rfl) (Nat.le_of_ble_eq_true rfl) (Nat.zero_le _) (Nat.zero_le _) dX0_note_47 ?_
  refine nm_o hf (fun I_11 eI_11 hf => ?_)
  refine pfX0_0 S iX0 hK hP hD hS (h11 6 (by decide)) k7 dX0_note_50 eI_11 (fun H locs hP hD hS => ?_)
  refine lv_aload_n S.1 S.2.1 dX0_note_53 rfl (lv_at hl 1 rfl) ?_
  refine lv_aload_n S.1 S.2.1 dX0_note_54 rfl (lv_at hl 1 rfl) ?_
  refine gfX0_1 S iX0 hK hP (h11 6 (by decide)) k8 dX0_note_55 ?_
  refine lv_iload S.1 S.2.1 dX0_note_58 (lv_at hl 5 rfl) ?_
  refine va_mmax S.1 S.2.1 (S.2.2.1.trans hl.1.symm) S.2.2.2.1 k3 k4 k5 k6 (Nat.le_of_ble_eq_true rfl) (Nat.le_of_ble_eq_true rfl) (Nat.zero_le _) (Nat.zero_le _) dX0_note_60 ?_
  refine nm_o hf (fun I_12 eI_12 hf => ?_)
  refine pfX0_1 S iX0 hK hP hD hS (h11 6 (by decide)) k8 dX0_note_63 eI_12 (fun H locs hP hD hS => ?_)
  refine lv_aload_n S.1 S.2.1 dX0_note_66 rfl (lv_at hl 1 rfl) ?_
  refine lv_iload_n S.1 S.2.1 dX0_note_67 rfl (lv_at hl 2 rfl) ?_
  refine R_cVi (As := [.int x1]) (rest := []) S (c_X0_lettersOf (h11 := h11)  hf) gX0_note_X0_lettersOf rfl yk_X0_lettersOf ⟨⟨Nat.le_of_ble_eq_true rfl, Nat.le_of_ble_eq_true rfl⟩, rfl, rfl⟩ hK hP hD hS hX hA (h11 6 (by decide)) (cF_o E _ _ 6) rfl rfl hl.1 rfl (Nat.le_of_ble_eq_true rfl) ⟨Nat.zero_le _, Nat.zero_le _⟩ dX0_note_68 (fun v_15 I_13 J_14 H locs hf hP hD hS => ?_)
  refine lv_aload_n S.1 S.2.1 dX0_note_71 rfl (lv_at hl 1 rfl) ?_
  refine gfX0_8 S iX0 hK hP (h11 6 (by decide)) k9 dX0_note_72 ?_
  refine lv_icmp_ne (tgt := 88) S.1 S.2.1 dX0_note_75 (by decide) (fun h_16 => ?_) (fun h_16 => ?_)
  · have hf := hf.2 h_16
    exact hret hf hP hD hS dX0_note_88
  · have hf := hf.1 h_16
    refine lv_aload_n S.1 S.2.1 dX0_note_78 rfl (lv_at hl 1 rfl) ?_
    refine lv_dup S.1 S.2.1 dX0_note_79 rfl ?_
    refine gfX0_2 S iX0 hK hP (h11 6 (by decide)) k10 dX0_note_80 ?_
    refine lv_iload_n S.1 S.2.1 dX0_note_83 rfl (lv_at hl 4 rfl) ?_
    refine lv_iadd S.1 S.2.1 dX0_note_84 ?_
    refine nm_o hf (fun I_17 eI_17 hf => ?_)
    refine pfX0_2 S iX0 hK hP hD hS (h11 6 (by decide)) k10 dX0_note_85 eI_17 (fun H locs hP hD hS => ?_)
    exact hret hf hP hD hS dX0_note_88
