abbrev rmX8_pass : Room := { frames := 5, cells := 0, slots := 0, locals := 104 }
theorem yk_X8_pass : yOk yX8_pass RX8 0 := by unfold yOk; decide +kernel
def f_X8_pass_J22 (Q : Int32 → MI → MJ → Prop) (s_4 : Int32) (I_5 : MI) (J_6 : MJ) : Prop :=
  f_X8_fails s_4 (1 : Int32) I_5 J_6 (fun (v_9 : Int32) (I_7 : MI) (J_8 : MJ) => ((v_9 = (0 : Int32) → f_X8_remember I_7 J_8 (fun (I_11 : MI) (J_12 : MJ) => f_X8_passNow I_11 J_12 (fun (I_13 : MI) (J_14 : MJ) => (vp_in (5 : Int32) 1802 ∧ Q (I_13 12 2 (5 : Int32).toNatClampNeg) I_13 J_14)))) ∧ (¬ v_9 = (0 : Int32) → Q (0 : Int32) I_7 J_8)))
def f_X8_pass (I : MI) (J : MJ) (Q : Int32 → MI → MJ → Prop) : Prop :=
  ∀ I_1 : MI, I_1 = sI I 12 0 0 (0 : Int32) → (vp_in (6 : Int32) 1802 ∧ (((I_1 12 2 (6 : Int32).toNatClampNeg) = (1 : Int32) → f_X8_pass_J22 Q (1 : Int32) I_1 J) ∧ (¬ (I_1 12 2 (6 : Int32).toNatClampNeg) = (1 : Int32) → f_X8_pass_J22 Q (0 : Int32) I_1 J)))
set_option maxRecDepth 100000 in
set_option maxHeartbeats 4000000 in
theorem c_X8_pass {l : Launch} {E : EV} {ps : List (Nat × Nat)} (h12 : ∀ r, r < 17 → (12, r) ∈ ps) (hR : (eT E)[3]? = some (eM E, .array .int)) {I : MI} {J : MJ} {Q : Int32 → MI → MJ → Prop} (hf : f_X8_pass I J Q) : KI l yX8_pass wsX8_pass rmX8_pass E ps [.ref (eA E 12 0)] I J Q := by
  refine K_ofI (cc := cX8_pass) (maxL := 1) (ty := .int) (by decide +kernel) rfl (Nat.le_of_ble_eq_true rfl) (fun p e s m args below meth c Qm hret S hK hX => ?_)
  have hA : ∀ q, s.heap.size ≤ q → AA E ps s.heap.size q := fun _ h => Or.inr h
  have k1 := S.2.2.2.2 (.fieldLink RX8 49 "RhymeRoofsModel" "thrown" "I") (by decide +kernel)
  have iX8 : ∀ w ∈ wsX80, w ∈ wsX8_pass := fun _ h => List.mem_cons_of_mem _ (List.mem_append_right _ h)
  have k2 := S.2.2.2.2 (.fieldLink RX8 17 "RhymeRoofsModel" "data" "[I") (by decide +kernel)
  have jn22 : ∀ (s_4 : Int32) (I_5 : MI) (J_6 : MJ), f_X8_pass_J22 Q s_4 I_5 J_6 → Wj p l e (rmX8_pass) s m args below meth c Qm E ps 1 I_5 J_6 22 [(0, .ref (eA E 12 0))] [.int s_4, .ref (eA E 12 0)] := by
    intro s_4 I_5 J_6 hf H locs ls hP hD hS hl
    unfold f_X8_pass_J22 at hf
    refine lv_iconst (v := 1) S.1 S.2.1 dX8_pass_22 rfl ?_
    refine R_cVi (As := [.int s_4, .int (1 : Int32)]) (rest := []) S (c_X8_fails (h12 := h12)  hf) gX8_pass_X8_fails rfl yk_X8_fails ⟨⟨Nat.le_of_ble_eq_true rfl, Nat.le_of_ble_eq_true rfl⟩, rfl, rfl⟩ hK hP hD hS hX hA (h12 0 (by decide)) (cF_m E _ _ 0) rfl rfl hl.1 rfl (Nat.le_of_ble_eq_true rfl) ⟨Nat.zero_le _, Nat.zero_le _⟩ dX8_pass_23 (fun v_9 I_7 J_8 H locs hf hP hD hS => ?_)
    refine lv_if_eq (tgt := 31) S.1 S.2.1 dX8_pass_26 (by decide) (fun h_10 => ?_) (fun h_10 => ?_)
    · have hf := hf.1 h_10
      refine lv_aload_n S.1 S.2.1 dX8_pass_31 rfl (lv_at hl 0 rfl) ?_
      refine R_cVv (As := []) (rest := []) S (c_X8_remember (h12 := h12) (hR := hR)  hf) gX8_pass_X8_remember rfl yk_X8_remember ⟨⟨Nat.le_of_ble_eq_true rfl, Nat.le_of_ble_eq_true rfl⟩, rfl, rfl⟩ hK hP hD hS hX hA (h12 0 (by decide)) (cF_m E _ _ 0) rfl rfl hl.1 rfl (Nat.le_of_ble_eq_true rfl) ⟨Nat.zero_le _, Nat.zero_le _⟩ dX8_pass_32 (fun I_11 J_12 H locs hf hP hD hS => ?_)
      refine lv_aload_n S.1 S.2.1 dX8_pass_35 rfl (lv_at hl 0 rfl) ?_
      refine R_cVv (As := []) (rest := []) S (c_X8_passNow (h12 := h12)  hf) gX8_pass_X8_passNow rfl yk_X8_passNow ⟨⟨Nat.le_of_ble_eq_true rfl, Nat.le_of_ble_eq_true rfl⟩, rfl, rfl⟩ hK hP hD hS hX hA (h12 0 (by decide)) (cF_m E _ _ 0) rfl rfl hl.1 rfl (Nat.le_of_ble_eq_true rfl) ⟨Nat.zero_le _, Nat.zero_le _⟩ dX8_pass_36 (fun I_13 J_14 H locs hf hP hD hS => ?_)
      refine lv_aload_n S.1 S.2.1 dX8_pass_39 rfl (lv_at hl 0 rfl) ?_
      refine gfX8_8 S iX8 hK hP (h12 0 (by decide)) k2 dX8_pass_40 ?_
      refine lv_iconst (v := 5) S.1 S.2.1 dX8_pass_43 rfl ?_
      obtain ⟨h_15, hf⟩ := hf
      refine R_iald S.1 S.2.1 hK hP (h12 2 (by decide)) (IAm2 E) h_15 dX8_pass_44 ?_
      exact hret hf rfl hP hD hS dX8_pass_45
    · have hf := hf.2 h_10
      refine lv_iconst (v := 0) S.1 S.2.1 dX8_pass_29 rfl ?_
      exact hret hf rfl hP hD hS dX8_pass_30
  intro H locs ls hP hD hS hl
  unfold f_X8_pass at hf
  refine lv_aload_n S.1 S.2.1 dX8_pass_0 rfl (lv_at hl 0 rfl) ?_
  refine lv_iconst (v := 0) S.1 S.2.1 dX8_pass_1 rfl ?_
  refine nm_o hf (fun I_1 eI_1 hf => ?_)
  refine pfX8_0 S iX8 hK hP hD hS (h12 0 (by decide)) k1 dX8_pass_2 eI_1 (fun H locs hP hD hS => ?_)
  refine lv_aload_n S.1 S.2.1 dX8_pass_5 rfl (lv_at hl 0 rfl) ?_
  refine lv_aload_n S.1 S.2.1 dX8_pass_6 rfl (lv_at hl 0 rfl) ?_
  refine gfX8_8 S iX8 hK hP (h12 0 (by decide)) k2 dX8_pass_7 ?_
  refine lv_bipush (v := 6) S.1 S.2.1 dX8_pass_10 rfl ?_
  obtain ⟨h_2, hf⟩ := hf
  refine R_iald S.1 S.2.1 hK hP (h12 2 (by decide)) (IAm2 E) h_2 dX8_pass_12 ?_
  refine lv_iconst (v := 1) S.1 S.2.1 dX8_pass_13 rfl ?_
  refine lv_icmp_ne (tgt := 21) S.1 S.2.1 dX8_pass_14 (by decide) (fun h_3 => ?_) (fun h_3 => ?_)
  · have hf := hf.2 h_3
    refine lv_iconst (v := 0) S.1 S.2.1 dX8_pass_21 rfl ?_
    exact jn22 _ _ _ hf _ _ _ hP hD hS (lv_sub hl [0] rfl)
  · have hf := hf.1 h_3
    refine lv_iconst (v := 1) S.1 S.2.1 dX8_pass_17 rfl ?_
    refine lv_goto (tgt := 22) S.1 S.2.1 dX8_pass_18 (by decide) ?_
    exact jn22 _ _ _ hf _ _ _ hP hD hS (lv_sub hl [0] rfl)
abbrev rmX8_auto : Room := { frames := 10, cells := 0, slots := 0, locals := 232 }
theorem yk_X8_auto : yOk yX8_auto RX8 1 := by unfold yOk; decide +kernel
def f_X8_auto_J21 (Q : Int32 → MI → MJ → Prop) (x1_6 : Int32) (s_7 : Int32) (I_8 : MI) (J_9 : MJ) : Prop :=
  f_X8_fails s_7 (1 : Int32) I_8 J_9 (fun (v_12 : Int32) (I_10 : MI) (J_11 : MJ) => ((v_12 = (0 : Int32) → f_X8_remember I_10 J_11 (fun (I_14 : MI) (J_15 : MJ) => f_X8_goOn x1_6 I_14 J_15 (fun (v_18 : Int32) (I_16 : MI) (J_17 : MJ) => Q v_18 I_16 J_17))) ∧ (¬ v_12 = (0 : Int32) → Q (0 : Int32) I_10 J_11)))
def f_X8_auto (x1 : Int32) (I : MI) (J : MJ) (Q : Int32 → MI → MJ → Prop) : Prop :=
  ∀ I_1 : MI, I_1 = sI I 12 0 0 (0 : Int32) → f_X8_in x1 (1 : Int32) (50 : Int32) I_1 J (fun (v_4 : Int32) (I_2 : MI) (J_3 : MJ) => ((v_4 = (0 : Int32) → f_X8_auto_J21 Q x1 (1 : Int32) I_2 J_3) ∧ (¬ v_4 = (0 : Int32) → f_X8_auto_J21 Q x1 (0 : Int32) I_2 J_3)))
set_option maxRecDepth 100000 in
set_option maxHeartbeats 4000000 in
theorem c_X8_auto {l : Launch} {E : EV} {ps : List (Nat × Nat)} (h12 : ∀ r, r < 17 → (12, r) ∈ ps) (hR : (eT E)[3]? = some (eM E, .array .int)) {x1 : Int32} {I : MI} {J : MJ} {Q : Int32 → MI → MJ → Prop} (hf : f_X8_auto x1 I J Q) : KI l yX8_auto wsX8_auto rmX8_auto E ps [.ref (eA E 12 0), .int x1] I J Q := by
  refine K_ofI (cc := cX8_auto) (maxL := 2) (ty := .int) (by decide +kernel) rfl (Nat.le_of_ble_eq_true rfl) (fun p e s m args below meth c Qm hret S hK hX => ?_)
  have hA : ∀ q, s.heap.size ≤ q → AA E ps s.heap.size q := fun _ h => Or.inr h
  have k1 := S.2.2.2.2 (.fieldLink RX8 49 "RhymeRoofsModel" "thrown" "I") (by decide +kernel)
  have iX8 : ∀ w ∈ wsX80, w ∈ wsX8_auto := fun _ h => List.mem_cons_of_mem _ (List.mem_append_right _ h)
  have jn21 : ∀ (x1_6 : Int32) (s_7 : Int32) (I_8 : MI) (J_9 : MJ), f_X8_auto_J21 Q x1_6 s_7 I_8 J_9 → Wj p l e (rmX8_auto) s m args below meth c Qm E ps 2 I_8 J_9 21 [(0, .ref (eA E 12 0)), (1, .int x1_6)] [.int s_7, .ref (eA E 12 0)] := by
    intro x1_6 s_7 I_8 J_9 hf H locs ls hP hD hS hl
    unfold f_X8_auto_J21 at hf
    refine lv_iconst (v := 1) S.1 S.2.1 dX8_auto_21 rfl ?_
    refine R_cVi (As := [.int s_7, .int (1 : Int32)]) (rest := []) S (c_X8_fails (h12 := h12)  hf) gX8_auto_X8_fails rfl yk_X8_fails ⟨⟨Nat.le_of_ble_eq_true rfl, Nat.le_of_ble_eq_true rfl⟩, rfl, rfl⟩ hK hP hD hS hX hA (h12 0 (by decide)) (cF_m E _ _ 0) rfl rfl hl.1 rfl (Nat.le_of_ble_eq_true rfl) ⟨Nat.zero_le _, Nat.zero_le _⟩ dX8_auto_22 (fun v_12 I_10 J_11 H locs hf hP hD hS => ?_)
    refine lv_if_eq (tgt := 30) S.1 S.2.1 dX8_auto_25 (by decide) (fun h_13 => ?_) (fun h_13 => ?_)
    · have hf := hf.1 h_13
      refine lv_aload_n S.1 S.2.1 dX8_auto_30 rfl (lv_at hl 0 rfl) ?_
      refine R_cVv (As := []) (rest := []) S (c_X8_remember (h12 := h12) (hR := hR)  hf) gX8_auto_X8_remember rfl yk_X8_remember ⟨⟨Nat.le_of_ble_eq_true rfl, Nat.le_of_ble_eq_true rfl⟩, rfl, rfl⟩ hK hP hD hS hX hA (h12 0 (by decide)) (cF_m E _ _ 0) rfl rfl hl.1 rfl (Nat.le_of_ble_eq_true rfl) ⟨Nat.zero_le _, Nat.zero_le _⟩ dX8_auto_31 (fun I_14 J_15 H locs hf hP hD hS => ?_)
      refine lv_aload_n S.1 S.2.1 dX8_auto_34 rfl (lv_at hl 0 rfl) ?_
      refine lv_iload_n S.1 S.2.1 dX8_auto_35 rfl (lv_at hl 1 rfl) ?_
      refine R_cVi (As := [.int x1_6]) (rest := []) S (c_X8_goOn (h12 := h12)  hf) gX8_auto_X8_goOn rfl yk_X8_goOn ⟨⟨Nat.le_of_ble_eq_true rfl, Nat.le_of_ble_eq_true rfl⟩, rfl, rfl⟩ hK hP hD hS hX hA (h12 0 (by decide)) (cF_m E _ _ 0) rfl rfl hl.1 rfl (Nat.le_of_ble_eq_true rfl) ⟨Nat.zero_le _, Nat.zero_le _⟩ dX8_auto_36 (fun v_18 I_16 J_17 H locs hf hP hD hS => ?_)
      exact hret hf rfl hP hD hS dX8_auto_39
    · have hf := hf.2 h_13
      refine lv_iconst (v := 0) S.1 S.2.1 dX8_auto_28 rfl ?_
      exact hret hf rfl hP hD hS dX8_auto_29
  intro H locs ls hP hD hS hl
  unfold f_X8_auto at hf
  refine lv_aload_n S.1 S.2.1 dX8_auto_0 rfl (lv_at hl 0 rfl) ?_
  refine lv_iconst (v := 0) S.1 S.2.1 dX8_auto_1 rfl ?_
  refine nm_o hf (fun I_1 eI_1 hf => ?_)
  refine pfX8_0 S iX8 hK hP hD hS (h12 0 (by decide)) k1 dX8_auto_2 eI_1 (fun H locs hP hD hS => ?_)
  refine lv_aload_n S.1 S.2.1 dX8_auto_5 rfl (lv_at hl 0 rfl) ?_
  refine lv_iload_n S.1 S.2.1 dX8_auto_6 rfl (lv_at hl 1 rfl) ?_
  refine lv_iconst (v := 1) S.1 S.2.1 dX8_auto_7 rfl ?_
  refine lv_bipush (v := 50) S.1 S.2.1 dX8_auto_8 rfl ?_
  refine R_cSi (As := [.int x1, .int (1 : Int32), .int (50 : Int32)]) (rest := [.ref (eA E 12 0)]) S (c_X8_in   hf) gX8_auto_X8_in rfl yk_X8_in ⟨⟨Nat.le_of_ble_eq_true rfl, Nat.le_of_ble_eq_true rfl⟩, rfl, rfl⟩ hK hP hD hS hX hA rfl hl.1 rfl (Nat.le_of_ble_eq_true rfl) ⟨Nat.zero_le _, Nat.zero_le _⟩ dX8_auto_10 (fun v_4 I_2 J_3 H locs hf hP hD hS => ?_)
  refine lv_if_ne (tgt := 20) S.1 S.2.1 dX8_auto_13 (by decide) (fun h_5 => ?_) (fun h_5 => ?_)
  · have hf := hf.2 h_5
    refine lv_iconst (v := 0) S.1 S.2.1 dX8_auto_20 rfl ?_
    exact jn21 _ _ _ _ hf _ _ _ hP hD hS (lv_sub hl [0, 1] rfl)
  · have hf := hf.1 h_5
    refine lv_iconst (v := 1) S.1 S.2.1 dX8_auto_16 rfl ?_
    refine lv_goto (tgt := 21) S.1 S.2.1 dX8_auto_17 (by decide) ?_
    exact jn21 _ _ _ _ hf _ _ _ hP hD hS (lv_sub hl [0, 1] rfl)
abbrev rmX8_areLetters : Room := { frames := 2, cells := 0, slots := 0, locals := 42 }
theorem yk_X8_areLetters : yOk yX8_areLetters RX8 1 := by unfold yOk; decide +kernel
def f_X8_areLetters_B2 (x1_1 : Int32) (K27 : MI → MJ → Prop) (K19 : MI → MJ → Prop) (rec2 : Int32 → MI → MJ → Prop) (x2_2 : Int32) (I_3 : MI) (J_4 : MJ) : Prop :=
  ((x1_1 ≤ x2_2 → K27 I_3 J_4) ∧ (¬ x1_1 ≤ x2_2 → (vp_in x2_2 600 ∧ f_X8_isLetter (I_3 12 1 x2_2.toNatClampNeg) I_3 J_4 (fun (v_9 : Int32) (I_7 : MI) (J_8 : MJ) => ((v_9 = (0 : Int32) → K19 I_7 J_8) ∧ (¬ v_9 = (0 : Int32) → ∀ x2_11 : Int32, x2_11 = x2_2 + (1 : Int32) → rec2 x2_11 I_7 J_8))))))
def f_X8_areLetters_L2 (x1_1 : Int32) (K27 : MI → MJ → Prop) (K19 : MI → MJ → Prop) : Nat → Int32 → MI → MJ → Prop
  | 0, _, _, _ => False
  | n + 1, x2_2, I_3, J_4 => f_X8_areLetters_B2 x1_1 K27 K19 (f_X8_areLetters_L2 x1_1 K27 K19 n) x2_2 I_3 J_4
def f_X8_areLetters (x1 : Int32) (I : MI) (J : MJ) (Q : Int32 → MI → MJ → Prop) : Prop :=
  ∃ n : Nat, f_X8_areLetters_L2 x1 (fun (I_12 : MI) (J_13 : MJ) => Q (1 : Int32) I_12 J_13) (fun (I_14 : MI) (J_15 : MJ) => Q (0 : Int32) I_14 J_15) n (0 : Int32) I J
set_option maxRecDepth 100000 in
set_option maxHeartbeats 4000000 in
theorem c_X8_areLetters {l : Launch} {E : EV} {ps : List (Nat × Nat)} (h12 : ∀ r, r < 17 → (12, r) ∈ ps) {x1 : Int32} {I : MI} {J : MJ} {Q : Int32 → MI → MJ → Prop} (hf : f_X8_areLetters x1 I J Q) : KI l yX8_areLetters wsX8_areLetters rmX8_areLetters E ps [.ref (eA E 12 0), .int x1] I J Q := by
  refine K_ofI (cc := cX8_areLetters) (maxL := 3) (ty := .boolean) (by decide +kernel) rfl (Nat.le_of_ble_eq_true rfl) (fun p e s m args below meth c Qm hret S hK hX => ?_)
  have hA : ∀ q, s.heap.size ≤ q → AA E ps s.heap.size q := fun _ h => Or.inr h
  have k1 := S.2.2.2.2 (.fieldLink RX8 9 "RhymeRoofsModel" "buffer" "[I") (by decide +kernel)
  have iX8 : ∀ w ∈ wsX80, w ∈ wsX8_areLetters := fun _ h => List.mem_cons_of_mem _ (List.mem_append_right _ h)
  intro H locs ls hP hD hS hl
  unfold f_X8_areLetters at hf
  refine lv_iconst (v := 0) S.1 S.2.1 dX8_areLetters_0 rfl ?_
  refine lv_istore_n (lv' := [(2, .int (0 : Int32)), (0, .ref (eA E 12 0)), (1, .int x1)]) S.1 S.2.1 dX8_areLetters_1 rfl hl (by decide) rfl (fun ls hl => ?_)
  obtain ⟨n_16, hf⟩ := hf
  have L2 : ∀ (x1_1 : Int32), ∀ (K27 : MI → MJ → Prop), ∀ (K19 : MI → MJ → Prop), (∀ (I_12 : MI) (J_13 : MJ), K27 I_12 J_13 → Wj p l e (rmX8_areLetters) s m args below meth c Qm E ps 3 I_12 J_13 27 [] []) → (∀ (I_14 : MI) (J_15 : MJ), K19 I_14 J_15 → Wj p l e (rmX8_areLetters) s m args below meth c Qm E ps 3 I_14 J_15 19 [] []) → ∀ (n : Nat) (x2_2 : Int32) (I_3 : MI) (J_4 : MJ), f_X8_areLetters_L2 x1_1 K27 K19 n x2_2 I_3 J_4 → Wj p l e (rmX8_areLetters) s m args below meth c Qm E ps 3 I_3 J_4 2 [(0, .ref (eA E 12 0)), (1, .int x1_1), (2, .int x2_2)] [] := by
    intro x1_1 K27 K19 kx27 kx19 n
    induction n with
    | zero => intro x2_2 I_3 J_4 hf; exact hf.elim
    | succ n ih2 =>
      intro x2_2 I_3 J_4 hf
      have hf : f_X8_areLetters_B2 x1_1 K27 K19 (f_X8_areLetters_L2 x1_1 K27 K19 n) x2_2 I_3 J_4 := hf
      intro H locs ls hP hD hS hl
      unfold f_X8_areLetters_B2 at hf
      refine lv_iload_n S.1 S.2.1 dX8_areLetters_2 rfl (lv_at hl 2 rfl) ?_
      refine lv_iload_n S.1 S.2.1 dX8_areLetters_3 rfl (lv_at hl 1 rfl) ?_
      refine lv_icmp_ge (tgt := 27) S.1 S.2.1 dX8_areLetters_4 (by decide) (fun h_5 => ?_) (fun h_5 => ?_)
      · have hf := hf.1 h_5
        exact kx27 _ _ hf _ _ _ hP hD hS (lv_sub hl [] rfl)
      · have hf := hf.2 h_5
        refine lv_aload_n S.1 S.2.1 dX8_areLetters_7 rfl (lv_at hl 0 rfl) ?_
        refine gfX8_1 S iX8 hK hP (h12 0 (by decide)) k1 dX8_areLetters_8 ?_
        refine lv_iload_n S.1 S.2.1 dX8_areLetters_11 rfl (lv_at hl 2 rfl) ?_
        obtain ⟨h_6, hf⟩ := hf
        refine R_iald S.1 S.2.1 hK hP (h12 1 (by decide)) (IAm1 E) h_6 dX8_areLetters_12 ?_
        refine R_cSi (As := [.int (I_3 12 1 x2_2.toNatClampNeg)]) (rest := []) S (c_X8_isLetter   hf) gX8_areLetters_X8_isLetter rfl yk_X8_isLetter ⟨⟨Nat.le_of_ble_eq_true rfl, Nat.le_of_ble_eq_true rfl⟩, rfl, rfl⟩ hK hP hD hS hX hA rfl hl.1 rfl (Nat.le_of_ble_eq_true rfl) ⟨Nat.zero_le _, Nat.zero_le _⟩ dX8_areLetters_13 (fun v_9 I_7 J_8 H locs hf hP hD hS => ?_)
        refine lv_if_ne (tgt := 21) S.1 S.2.1 dX8_areLetters_16 (by decide) (fun h_10 => ?_) (fun h_10 => ?_)
        · have hf := hf.2 h_10
          refine nm_o hf (fun x2_11 ex2_11 hf => ?_)
          refine lv_iinc (v := x2_11) (lv' := [(2, .int x2_11), (0, .ref (eA E 12 0)), (1, .int x1_1)]) S.1 S.2.1 dX8_areLetters_21 hl (k := 2) rfl (by rw [ex2_11]; rfl) (by decide) rfl (fun ls hl => ?_)
          refine lv_goto (tgt := 2) S.1 S.2.1 dX8_areLetters_24 (by decide) ?_
          exact ih2 _ _ _ hf _ _ _ hP hD hS (lv_sub hl [1, 2, 0] rfl)
        · have hf := hf.1 h_10
          exact kx19 _ _ hf _ _ _ hP hD hS (lv_sub hl [] rfl)
  refine L2 _ _ _ (fun I_12 J_13 hf H locs ls hP hD hS hl => ?_) (fun I_14 J_15 hf H locs ls hP hD hS hl => ?_)  n_16 _ _ _ hf _ _ _ hP hD hS (lv_sub hl [1, 2, 0] rfl)
  · refine lv_iconst (v := 1) S.1 S.2.1 dX8_areLetters_27 rfl ?_
    exact hret hf rfl hP hD hS dX8_areLetters_28
  · refine lv_iconst (v := 0) S.1 S.2.1 dX8_areLetters_19 rfl ?_
    exact hret hf rfl hP hD hS dX8_areLetters_20
