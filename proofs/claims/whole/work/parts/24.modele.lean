abbrev rmX8_term (d : Nat) : Room := { frames := 3 * d + 7, cells := 0, slots := 0, locals := 65 * d + 172 }
theorem yk_X8_term : yOk yX8_term RX8 0 := by unfold yOk; decide +kernel
def f_X8_term_J68 (rs : MI → MJ → (MI → MJ → Prop) → Prop) (K74 : MI → MJ → Prop) (rec4 : MI → MJ → Prop) (s_26 : Int32) (I_27 : MI) (J_28 : MJ) : Prop :=
  f_X8_emit s_26 I_27 J_28 (fun (I_29 : MI) (J_30 : MJ) => rec4 I_29 J_30)
def f_X8_term_J43 (rs : MI → MJ → (MI → MJ → Prop) → Prop) (K74 : MI → MJ → Prop) (rec4 : MI → MJ → Prop) (s_19 : Int32) (I_20 : MI) (J_21 : MJ) : Prop :=
  ∀ I_22 : MI, I_22 = sI I_20 12 0 4 ((I_20 12 0 4) + (1 : Int32)) → f_X8_factor rs I_22 J_21 (fun (I_23 : MI) (J_24 : MJ) => ((s_19 = (0 : Int32) → f_X8_term_J68 rs K74 rec4 (5 : Int32) I_23 J_24) ∧ (¬ s_19 = (0 : Int32) → f_X8_term_J68 rs K74 rec4 (4 : Int32) I_23 J_24)))
def f_X8_term_J29 (rs : MI → MJ → (MI → MJ → Prop) → Prop) (K74 : MI → MJ → Prop) (rec4 : MI → MJ → Prop) (I_13 : MI) (J_14 : MJ) : Prop :=
  f_X8_ahead I_13 J_14 (fun (v_17 : Int32) (I_15 : MI) (J_16 : MJ) => ((v_17 = (42 : Int32) → f_X8_term_J43 rs K74 rec4 (1 : Int32) I_15 J_16) ∧ (¬ v_17 = (42 : Int32) → f_X8_term_J43 rs K74 rec4 (0 : Int32) I_15 J_16)))
def f_X8_term_B4 (rs : MI → MJ → (MI → MJ → Prop) → Prop) (K74 : MI → MJ → Prop) (rec4 : MI → MJ → Prop) (I_3 : MI) (J_4 : MJ) : Prop :=
  f_X8_isGood I_3 J_4 (fun (v_7 : Int32) (I_5 : MI) (J_6 : MJ) => ((v_7 = (0 : Int32) → K74 I_5 J_6) ∧ (¬ v_7 = (0 : Int32) → f_X8_ahead I_5 J_6 (fun (v_11 : Int32) (I_9 : MI) (J_10 : MJ) => ((v_11 = (42 : Int32) → f_X8_term_J29 rs K74 rec4 I_9 J_10) ∧ (¬ v_11 = (42 : Int32) → f_X8_ahead I_9 J_10 (fun (v_33 : Int32) (I_31 : MI) (J_32 : MJ) => ((v_33 = (47 : Int32) → f_X8_term_J29 rs K74 rec4 I_31 J_32) ∧ (¬ v_33 = (47 : Int32) → K74 I_31 J_32)))))))))
def f_X8_term_L4 (rs : MI → MJ → (MI → MJ → Prop) → Prop) (K74 : MI → MJ → Prop) : Nat → MI → MJ → Prop
  | 0, _, _ => False
  | n + 1, I_3, J_4 => f_X8_term_B4 rs K74 (f_X8_term_L4 rs K74 n) I_3 J_4
def f_X8_term (rs : MI → MJ → (MI → MJ → Prop) → Prop) (I : MI) (J : MJ) (Q : MI → MJ → Prop) : Prop :=
  f_X8_factor rs I J (fun (I_1 : MI) (J_2 : MJ) => ∃ n : Nat, f_X8_term_L4 rs (fun (I_35 : MI) (J_36 : MJ) => Q I_35 J_36) n  I_1 J_2)
set_option maxRecDepth 100000 in
set_option maxHeartbeats 4000000 in
theorem c_X8_term {d : Nat} {rs : MI → MJ → (MI → MJ → Prop) → Prop} {l : Launch} {E : EV} {ps : List (Nat × Nat)} (hrs : ∀ {I : MI} {J : MJ} {Q : MI → MJ → Prop}, rs I J Q → KV l yX8_readSum wsX8_readSum (rmX8_readSum d) E ps [.ref (eA E 12 0)] I J Q) (h12 : ∀ r, r < 17 → (12, r) ∈ ps) {I : MI} {J : MJ} {Q : MI → MJ → Prop} (hf : f_X8_term rs I J Q) : KV l yX8_term wsX8_term (rmX8_term d) E ps [.ref (eA E 12 0)] I J Q := by
  refine K_ofV (cc := cX8_term) (maxL := 2) (by decide +kernel) rfl (Nat.le_of_ble_eq_true rfl) (fun p e s m args below meth c Qm hret S hK hX => ?_)
  have hA : ∀ q, s.heap.size ≤ q → AA E ps s.heap.size q := fun _ h => Or.inr h
  have k1 := S.2.2.2.2 (.fieldLink RX8 65 "RhymeRoofsModel" "position" "I") (by decide +kernel)
  have iX8 : ∀ w ∈ wsX80, w ∈ wsX8_term := fun _ h => List.mem_cons_of_mem _ (List.mem_append_right _ h)
  intro H locs ls hP hD hS hl
  unfold f_X8_term at hf
  refine lv_aload_n S.1 S.2.1 dX8_term_0 rfl (lv_at hl 0 rfl) ?_
  refine R_cVv (As := []) (rest := []) S (c_X8_factor hrs (h12 := h12)  hf) gX8_term_X8_factor rfl yk_X8_factor ⟨⟨by dsimp only [rmX8_factor, rmX8_term]; omega, by dsimp only [rmX8_factor, rmX8_term]; omega⟩, rfl, rfl⟩ hK hP hD hS hX hA (h12 0 (by decide)) (cF_m E _ _ 0) rfl rfl hl.1 rfl (Nat.le_of_ble_eq_true rfl) ⟨Nat.zero_le _, Nat.zero_le _⟩ dX8_term_1 (fun I_1 J_2 H locs hf hP hD hS => ?_)
  obtain ⟨n_37, hf⟩ := hf
  have L4 : ∀ (K74 : MI → MJ → Prop), (∀ (I_35 : MI) (J_36 : MJ), K74 I_35 J_36 → Wj p l e (rmX8_term d) s m args below meth c Qm E ps 2 I_35 J_36 74 [] []) → ∀ (n : Nat) (I_3 : MI) (J_4 : MJ), f_X8_term_L4 rs K74 n I_3 J_4 → Wj p l e (rmX8_term d) s m args below meth c Qm E ps 2 I_3 J_4 4 [(0, .ref (eA E 12 0))] [] := by
    intro K74 kx74 n
    induction n with
    | zero => intro I_3 J_4 hf; exact hf.elim
    | succ n ih4 =>
      intro I_3 J_4 hf
      have hf : f_X8_term_B4 rs K74 (f_X8_term_L4 rs K74 n) I_3 J_4 := hf
      have jn68 : ∀ (s_26 : Int32) (I_27 : MI) (J_28 : MJ), f_X8_term_J68 rs K74 (f_X8_term_L4 rs K74 n) s_26 I_27 J_28 → Wj p l e (rmX8_term d) s m args below meth c Qm E ps 2 I_27 J_28 68 [(0, .ref (eA E 12 0))] [.int s_26, .ref (eA E 12 0)] := by
        intro s_26 I_27 J_28 hf H locs ls hP hD hS hl
        unfold f_X8_term_J68 at hf
        refine R_cVv (As := [.int s_26]) (rest := []) S (c_X8_emit (h12 := h12)  hf) gX8_term_X8_emit rfl yk_X8_emit ⟨⟨by dsimp only [rmX8_emit, rmX8_term]; omega, by dsimp only [rmX8_emit, rmX8_term]; omega⟩, rfl, rfl⟩ hK hP hD hS hX hA (h12 0 (by decide)) (cF_m E _ _ 0) rfl rfl hl.1 rfl (Nat.le_of_ble_eq_true rfl) ⟨Nat.zero_le _, Nat.zero_le _⟩ dX8_term_68 (fun I_29 J_30 H locs hf hP hD hS => ?_)
        refine lv_goto (tgt := 4) S.1 S.2.1 dX8_term_71 (by decide) ?_
        exact ih4 _ _ hf _ _ _ hP hD hS (lv_sub hl [0] rfl)
      have jn43 : ∀ (s_19 : Int32) (I_20 : MI) (J_21 : MJ), f_X8_term_J43 rs K74 (f_X8_term_L4 rs K74 n) s_19 I_20 J_21 → Wj p l e (rmX8_term d) s m args below meth c Qm E ps 2 I_20 J_21 43 [(0, .ref (eA E 12 0))] [.int s_19] := by
        intro s_19 I_20 J_21 hf H locs ls hP hD hS hl
        unfold f_X8_term_J43 at hf
        refine lv_istore_n (lv' := [(1, .int s_19), (0, .ref (eA E 12 0))]) S.1 S.2.1 dX8_term_43 rfl hl (by decide) rfl (fun ls hl => ?_)
        refine lv_aload_n S.1 S.2.1 dX8_term_44 rfl (lv_at hl 1 rfl) ?_
        refine lv_dup S.1 S.2.1 dX8_term_45 rfl ?_
        refine gfX8_4 S iX8 hK hP (h12 0 (by decide)) k1 dX8_term_46 ?_
        refine lv_iconst (v := 1) S.1 S.2.1 dX8_term_49 rfl ?_
        refine lv_iadd S.1 S.2.1 dX8_term_50 ?_
        refine nm_o hf (fun I_22 eI_22 hf => ?_)
        refine pfX8_4 S iX8 hK hP hD hS (h12 0 (by decide)) k1 dX8_term_51 eI_22 (fun H locs hP hD hS => ?_)
        refine lv_aload_n S.1 S.2.1 dX8_term_54 rfl (lv_at hl 1 rfl) ?_
        refine R_cVv (As := []) (rest := []) S (c_X8_factor hrs (h12 := h12)  hf) gX8_term_X8_factor rfl yk_X8_factor ⟨⟨by dsimp only [rmX8_factor, rmX8_term]; omega, by dsimp only [rmX8_factor, rmX8_term]; omega⟩, rfl, rfl⟩ hK hP hD hS hX hA (h12 0 (by decide)) (cF_m E _ _ 0) rfl rfl hl.1 rfl (Nat.le_of_ble_eq_true rfl) ⟨Nat.zero_le _, Nat.zero_le _⟩ dX8_term_55 (fun I_23 J_24 H locs hf hP hD hS => ?_)
        refine lv_aload_n S.1 S.2.1 dX8_term_58 rfl (lv_at hl 1 rfl) ?_
        refine lv_iload_n S.1 S.2.1 dX8_term_59 rfl (lv_at hl 0 rfl) ?_
        refine lv_if_eq (tgt := 67) S.1 S.2.1 dX8_term_60 (by decide) (fun h_25 => ?_) (fun h_25 => ?_)
        · have hf := hf.1 h_25
          refine lv_iconst (v := 5) S.1 S.2.1 dX8_term_67 rfl ?_
          exact jn68 _ _ _ hf _ _ _ hP hD hS (lv_sub hl [1] rfl)
        · have hf := hf.2 h_25
          refine lv_iconst (v := 4) S.1 S.2.1 dX8_term_63 rfl ?_
          refine lv_goto (tgt := 68) S.1 S.2.1 dX8_term_64 (by decide) ?_
          exact jn68 _ _ _ hf _ _ _ hP hD hS (lv_sub hl [1] rfl)
      have jn29 : ∀ (I_13 : MI) (J_14 : MJ), f_X8_term_J29 rs K74 (f_X8_term_L4 rs K74 n) I_13 J_14 → Wj p l e (rmX8_term d) s m args below meth c Qm E ps 2 I_13 J_14 29 [(0, .ref (eA E 12 0))] [] := by
        intro I_13 J_14 hf H locs ls hP hD hS hl
        unfold f_X8_term_J29 at hf
        refine lv_aload_n S.1 S.2.1 dX8_term_29 rfl (lv_at hl 0 rfl) ?_
        refine R_cVi (As := []) (rest := []) S (c_X8_ahead (h12 := h12)  hf) gX8_term_X8_ahead rfl yk_X8_ahead ⟨⟨by dsimp only [rmX8_ahead, rmX8_term]; omega, by dsimp only [rmX8_ahead, rmX8_term]; omega⟩, rfl, rfl⟩ hK hP hD hS hX hA (h12 0 (by decide)) (cF_m E _ _ 0) rfl rfl hl.1 rfl (Nat.le_of_ble_eq_true rfl) ⟨Nat.zero_le _, Nat.zero_le _⟩ dX8_term_30 (fun v_17 I_15 J_16 H locs hf hP hD hS => ?_)
        refine lv_bipush (v := 42) S.1 S.2.1 dX8_term_33 rfl ?_
        refine lv_icmp_ne (tgt := 42) S.1 S.2.1 dX8_term_35 (by decide) (fun h_18 => ?_) (fun h_18 => ?_)
        · have hf := hf.2 h_18
          refine lv_iconst (v := 0) S.1 S.2.1 dX8_term_42 rfl ?_
          exact jn43 _ _ _ hf _ _ _ hP hD hS (lv_sub hl [0] rfl)
        · have hf := hf.1 h_18
          refine lv_iconst (v := 1) S.1 S.2.1 dX8_term_38 rfl ?_
          refine lv_goto (tgt := 43) S.1 S.2.1 dX8_term_39 (by decide) ?_
          exact jn43 _ _ _ hf _ _ _ hP hD hS (lv_sub hl [0] rfl)
      intro H locs ls hP hD hS hl
      unfold f_X8_term_B4 at hf
      refine lv_aload_n S.1 S.2.1 dX8_term_4 rfl (lv_at hl 0 rfl) ?_
      refine R_cVi (As := []) (rest := []) S (c_X8_isGood (h12 := h12)  hf) gX8_term_X8_isGood rfl yk_X8_isGood ⟨⟨by dsimp only [rmX8_isGood, rmX8_term]; omega, by dsimp only [rmX8_isGood, rmX8_term]; omega⟩, rfl, rfl⟩ hK hP hD hS hX hA (h12 0 (by decide)) (cF_m E _ _ 0) rfl rfl hl.1 rfl (Nat.le_of_ble_eq_true rfl) ⟨Nat.zero_le _, Nat.zero_le _⟩ dX8_term_5 (fun v_7 I_5 J_6 H locs hf hP hD hS => ?_)
      refine lv_if_eq (tgt := 74) S.1 S.2.1 dX8_term_8 (by decide) (fun h_8 => ?_) (fun h_8 => ?_)
      · have hf := hf.1 h_8
        exact kx74 _ _ hf _ _ _ hP hD hS (lv_sub hl [] rfl)
      · have hf := hf.2 h_8
        refine lv_aload_n S.1 S.2.1 dX8_term_11 rfl (lv_at hl 0 rfl) ?_
        refine R_cVi (As := []) (rest := []) S (c_X8_ahead (h12 := h12)  hf) gX8_term_X8_ahead rfl yk_X8_ahead ⟨⟨by dsimp only [rmX8_ahead, rmX8_term]; omega, by dsimp only [rmX8_ahead, rmX8_term]; omega⟩, rfl, rfl⟩ hK hP hD hS hX hA (h12 0 (by decide)) (cF_m E _ _ 0) rfl rfl hl.1 rfl (Nat.le_of_ble_eq_true rfl) ⟨Nat.zero_le _, Nat.zero_le _⟩ dX8_term_12 (fun v_11 I_9 J_10 H locs hf hP hD hS => ?_)
        refine lv_bipush (v := 42) S.1 S.2.1 dX8_term_15 rfl ?_
        refine lv_icmp_eq (tgt := 29) S.1 S.2.1 dX8_term_17 (by decide) (fun h_12 => ?_) (fun h_12 => ?_)
        · have hf := hf.1 h_12
          exact jn29 _ _ hf _ _ _ hP hD hS (lv_sub hl [0] rfl)
        · have hf := hf.2 h_12
          refine lv_aload_n S.1 S.2.1 dX8_term_20 rfl (lv_at hl 0 rfl) ?_
          refine R_cVi (As := []) (rest := []) S (c_X8_ahead (h12 := h12)  hf) gX8_term_X8_ahead rfl yk_X8_ahead ⟨⟨by dsimp only [rmX8_ahead, rmX8_term]; omega, by dsimp only [rmX8_ahead, rmX8_term]; omega⟩, rfl, rfl⟩ hK hP hD hS hX hA (h12 0 (by decide)) (cF_m E _ _ 0) rfl rfl hl.1 rfl (Nat.le_of_ble_eq_true rfl) ⟨Nat.zero_le _, Nat.zero_le _⟩ dX8_term_21 (fun v_33 I_31 J_32 H locs hf hP hD hS => ?_)
          refine lv_bipush (v := 47) S.1 S.2.1 dX8_term_24 rfl ?_
          refine lv_icmp_ne (tgt := 74) S.1 S.2.1 dX8_term_26 (by decide) (fun h_34 => ?_) (fun h_34 => ?_)
          · have hf := hf.2 h_34
            exact kx74 _ _ hf _ _ _ hP hD hS (lv_sub hl [] rfl)
          · have hf := hf.1 h_34
            exact jn29 _ _ hf _ _ _ hP hD hS (lv_sub hl [0] rfl)
  refine L4 _ (fun I_35 J_36 hf H locs ls hP hD hS hl => ?_)  n_37  _ _ hf _ _ _ hP hD hS (lv_sub hl [0] rfl)
  exact hret hf hP hD hS dX8_term_74
def f_X8_readSum_J68 (rs : MI → MJ → (MI → MJ → Prop) → Prop) (K74 : MI → MJ → Prop) (rec4 : MI → MJ → Prop) (s_26 : Int32) (I_27 : MI) (J_28 : MJ) : Prop :=
  f_X8_emit s_26 I_27 J_28 (fun (I_29 : MI) (J_30 : MJ) => rec4 I_29 J_30)
def f_X8_readSum_J43 (rs : MI → MJ → (MI → MJ → Prop) → Prop) (K74 : MI → MJ → Prop) (rec4 : MI → MJ → Prop) (s_19 : Int32) (I_20 : MI) (J_21 : MJ) : Prop :=
  ∀ I_22 : MI, I_22 = sI I_20 12 0 4 ((I_20 12 0 4) + (1 : Int32)) → f_X8_term rs I_22 J_21 (fun (I_23 : MI) (J_24 : MJ) => ((s_19 = (0 : Int32) → f_X8_readSum_J68 rs K74 rec4 (3 : Int32) I_23 J_24) ∧ (¬ s_19 = (0 : Int32) → f_X8_readSum_J68 rs K74 rec4 (2 : Int32) I_23 J_24)))
def f_X8_readSum_J29 (rs : MI → MJ → (MI → MJ → Prop) → Prop) (K74 : MI → MJ → Prop) (rec4 : MI → MJ → Prop) (I_13 : MI) (J_14 : MJ) : Prop :=
  f_X8_ahead I_13 J_14 (fun (v_17 : Int32) (I_15 : MI) (J_16 : MJ) => ((v_17 = (43 : Int32) → f_X8_readSum_J43 rs K74 rec4 (1 : Int32) I_15 J_16) ∧ (¬ v_17 = (43 : Int32) → f_X8_readSum_J43 rs K74 rec4 (0 : Int32) I_15 J_16)))
def f_X8_readSum_B4 (rs : MI → MJ → (MI → MJ → Prop) → Prop) (K74 : MI → MJ → Prop) (rec4 : MI → MJ → Prop) (I_3 : MI) (J_4 : MJ) : Prop :=
  f_X8_isGood I_3 J_4 (fun (v_7 : Int32) (I_5 : MI) (J_6 : MJ) => ((v_7 = (0 : Int32) → K74 I_5 J_6) ∧ (¬ v_7 = (0 : Int32) → f_X8_ahead I_5 J_6 (fun (v_11 : Int32) (I_9 : MI) (J_10 : MJ) => ((v_11 = (43 : Int32) → f_X8_readSum_J29 rs K74 rec4 I_9 J_10) ∧ (¬ v_11 = (43 : Int32) → f_X8_ahead I_9 J_10 (fun (v_33 : Int32) (I_31 : MI) (J_32 : MJ) => ((v_33 = (45 : Int32) → f_X8_readSum_J29 rs K74 rec4 I_31 J_32) ∧ (¬ v_33 = (45 : Int32) → K74 I_31 J_32)))))))))
def f_X8_readSum_L4 (rs : MI → MJ → (MI → MJ → Prop) → Prop) (K74 : MI → MJ → Prop) : Nat → MI → MJ → Prop
  | 0, _, _ => False
  | n + 1, I_3, J_4 => f_X8_readSum_B4 rs K74 (f_X8_readSum_L4 rs K74 n) I_3 J_4
def f_X8_readSum_S (rs : MI → MJ → (MI → MJ → Prop) → Prop) (I : MI) (J : MJ) (Q : MI → MJ → Prop) : Prop :=
  f_X8_term rs I J (fun (I_1 : MI) (J_2 : MJ) => ∃ n : Nat, f_X8_readSum_L4 rs (fun (I_35 : MI) (J_36 : MJ) => Q I_35 J_36) n  I_1 J_2)
set_option maxRecDepth 100000 in
set_option maxHeartbeats 4000000 in
theorem c_X8_readSum_S {d : Nat} {rs : MI → MJ → (MI → MJ → Prop) → Prop} {l : Launch} {E : EV} {ps : List (Nat × Nat)} (hrs : ∀ {I : MI} {J : MJ} {Q : MI → MJ → Prop}, rs I J Q → KV l yX8_readSum wsX8_readSum (rmX8_readSum d) E ps [.ref (eA E 12 0)] I J Q) (h12 : ∀ r, r < 17 → (12, r) ∈ ps) {I : MI} {J : MJ} {Q : MI → MJ → Prop} (hf : f_X8_readSum_S rs I J Q) : KV l yX8_readSum wsX8_readSum (rmX8_readSum (d + 1)) E ps [.ref (eA E 12 0)] I J Q := by
  refine K_ofV (cc := cX8_readSum) (maxL := 2) (by decide +kernel) rfl (Nat.le_of_ble_eq_true rfl) (fun p e s m args below meth c Qm hret S hK hX => ?_)
  have hA : ∀ q, s.heap.size ≤ q → AA E ps s.heap.size q := fun _ h => Or.inr h
  have k1 := S.2.2.2.2 (.fieldLink RX8 65 "RhymeRoofsModel" "position" "I") (by decide +kernel)
  have iX8 : ∀ w ∈ wsX80, w ∈ wsX8_readSum := fun _ h => List.mem_cons_of_mem _ (List.mem_append_right _ h)
  intro H locs ls hP hD hS hl
  unfold f_X8_readSum_S at hf
  refine lv_aload_n S.1 S.2.1 dX8_readSum_0 rfl (lv_at hl 0 rfl) ?_
  refine R_cVv (As := []) (rest := []) S (c_X8_term hrs (h12 := h12)  hf) gX8_readSum_X8_term rfl yk_X8_term ⟨⟨by dsimp only [rmX8_term, rmX8_readSum]; omega, by dsimp only [rmX8_term, rmX8_readSum]; omega⟩, rfl, rfl⟩ hK hP hD hS hX hA (h12 0 (by decide)) (cF_m E _ _ 0) rfl rfl hl.1 rfl (Nat.le_of_ble_eq_true rfl) ⟨Nat.zero_le _, Nat.zero_le _⟩ dX8_readSum_1 (fun I_1 J_2 H locs hf hP hD hS => ?_)
  obtain ⟨n_37, hf⟩ := hf
  have L4 : ∀ (K74 : MI → MJ → Prop), (∀ (I_35 : MI) (J_36 : MJ), K74 I_35 J_36 → Wj p l e (rmX8_readSum (d + 1)) s m args below meth c Qm E ps 2 I_35 J_36 74 [] []) → ∀ (n : Nat) (I_3 : MI) (J_4 : MJ), f_X8_readSum_L4 rs K74 n I_3 J_4 → Wj p l e (rmX8_readSum (d + 1)) s m args below meth c Qm E ps 2 I_3 J_4 4 [(0, .ref (eA E 12 0))] [] := by
    intro K74 kx74 n
    induction n with
    | zero => intro I_3 J_4 hf; exact hf.elim
    | succ n ih4 =>
      intro I_3 J_4 hf
      have hf : f_X8_readSum_B4 rs K74 (f_X8_readSum_L4 rs K74 n) I_3 J_4 := hf
      have jn68 : ∀ (s_26 : Int32) (I_27 : MI) (J_28 : MJ), f_X8_readSum_J68 rs K74 (f_X8_readSum_L4 rs K74 n) s_26 I_27 J_28 → Wj p l e (rmX8_readSum (d + 1)) s m args below meth c Qm E ps 2 I_27 J_28 68 [(0, .ref (eA E 12 0))] [.int s_26, .ref (eA E 12 0)] := by
        intro s_26 I_27 J_28 hf H locs ls hP hD hS hl
        unfold f_X8_readSum_J68 at hf
        refine R_cVv (As := [.int s_26]) (rest := []) S (c_X8_emit (h12 := h12)  hf) gX8_readSum_X8_emit rfl yk_X8_emit ⟨⟨by dsimp only [rmX8_emit, rmX8_readSum]; omega, by dsimp only [rmX8_emit, rmX8_readSum]; omega⟩, rfl, rfl⟩ hK hP hD hS hX hA (h12 0 (by decide)) (cF_m E _ _ 0) rfl rfl hl.1 rfl (Nat.le_of_ble_eq_true rfl) ⟨Nat.zero_le _, Nat.zero_le _⟩ dX8_readSum_68 (fun I_29 J_30 H locs hf hP hD hS => ?_)
        refine lv_goto (tgt := 4) S.1 S.2.1 dX8_readSum_71 (by decide) ?_
        exact ih4 _ _ hf _ _ _ hP hD hS (lv_sub hl [0] rfl)
      have jn43 : ∀ (s_19 : Int32) (I_20 : MI) (J_21 : MJ), f_X8_readSum_J43 rs K74 (f_X8_readSum_L4 rs K74 n) s_19 I_20 J_21 → Wj p l e (rmX8_readSum (d + 1)) s m args below meth c Qm E ps 2 I_20 J_21 43 [(0, .ref (eA E 12 0))] [.int s_19] := by
        intro s_19 I_20 J_21 hf H locs ls hP hD hS hl
        unfold f_X8_readSum_J43 at hf
        refine lv_istore_n (lv' := [(1, .int s_19), (0, .ref (eA E 12 0))]) S.1 S.2.1 dX8_readSum_43 rfl hl (by decide) rfl (fun ls hl => ?_)
        refine lv_aload_n S.1 S.2.1 dX8_readSum_44 rfl (lv_at hl 1 rfl) ?_
        refine lv_dup S.1 S.2.1 dX8_readSum_45 rfl ?_
        refine gfX8_4 S iX8 hK hP (h12 0 (by decide)) k1 dX8_readSum_46 ?_
        refine lv_iconst (v := 1) S.1 S.2.1 dX8_readSum_49 rfl ?_
        refine lv_iadd S.1 S.2.1 dX8_readSum_50 ?_
        refine nm_o hf (fun I_22 eI_22 hf => ?_)
        refine pfX8_4 S iX8 hK hP hD hS (h12 0 (by decide)) k1 dX8_readSum_51 eI_22 (fun H locs hP hD hS => ?_)
        refine lv_aload_n S.1 S.2.1 dX8_readSum_54 rfl (lv_at hl 1 rfl) ?_
        refine R_cVv (As := []) (rest := []) S (c_X8_term hrs (h12 := h12)  hf) gX8_readSum_X8_term rfl yk_X8_term ⟨⟨by dsimp only [rmX8_term, rmX8_readSum]; omega, by dsimp only [rmX8_term, rmX8_readSum]; omega⟩, rfl, rfl⟩ hK hP hD hS hX hA (h12 0 (by decide)) (cF_m E _ _ 0) rfl rfl hl.1 rfl (Nat.le_of_ble_eq_true rfl) ⟨Nat.zero_le _, Nat.zero_le _⟩ dX8_readSum_55 (fun I_23 J_24 H locs hf hP hD hS => ?_)
        refine lv_aload_n S.1 S.2.1 dX8_readSum_58 rfl (lv_at hl 1 rfl) ?_
        refine lv_iload_n S.1 S.2.1 dX8_readSum_59 rfl (lv_at hl 0 rfl) ?_
        refine lv_if_eq (tgt := 67) S.1 S.2.1 dX8_readSum_60 (by decide) (fun h_25 => ?_) (fun h_25 => ?_)
        · have hf := hf.1 h_25
          refine lv_iconst (v := 3) S.1 S.2.1 dX8_readSum_67 rfl ?_
          exact jn68 _ _ _ hf _ _ _ hP hD hS (lv_sub hl [1] rfl)
        · have hf := hf.2 h_25
          refine lv_iconst (v := 2) S.1 S.2.1 dX8_readSum_63 rfl ?_
          refine lv_goto (tgt := 68) S.1 S.2.1 dX8_readSum_64 (by decide) ?_
          exact jn68 _ _ _ hf _ _ _ hP hD hS (lv_sub hl [1] rfl)
      have jn29 : ∀ (I_13 : MI) (J_14 : MJ), f_X8_readSum_J29 rs K74 (f_X8_readSum_L4 rs K74 n) I_13 J_14 → Wj p l e (rmX8_readSum (d + 1)) s m args below meth c Qm E ps 2 I_13 J_14 29 [(0, .ref (eA E 12 0))] [] := by
        intro I_13 J_14 hf H locs ls hP hD hS hl
        unfold f_X8_readSum_J29 at hf
        refine lv_aload_n S.1 S.2.1 dX8_readSum_29 rfl (lv_at hl 0 rfl) ?_
        refine R_cVi (As := []) (rest := []) S (c_X8_ahead (h12 := h12)  hf) gX8_readSum_X8_ahead rfl yk_X8_ahead ⟨⟨by dsimp only [rmX8_ahead, rmX8_readSum]; omega, by dsimp only [rmX8_ahead, rmX8_readSum]; omega⟩, rfl, rfl⟩ hK hP hD hS hX hA (h12 0 (by decide)) (cF_m E _ _ 0) rfl rfl hl.1 rfl (Nat.le_of_ble_eq_true rfl) ⟨Nat.zero_le _, Nat.zero_le _⟩ dX8_readSum_30 (fun v_17 I_15 J_16 H locs hf hP hD hS => ?_)
        refine lv_bipush (v := 43) S.1 S.2.1 dX8_readSum_33 rfl ?_
        refine lv_icmp_ne (tgt := 42) S.1 S.2.1 dX8_readSum_35 (by decide) (fun h_18 => ?_) (fun h_18 => ?_)
        · have hf := hf.2 h_18
          refine lv_iconst (v := 0) S.1 S.2.1 dX8_readSum_42 rfl ?_
          exact jn43 _ _ _ hf _ _ _ hP hD hS (lv_sub hl [0] rfl)
        · have hf := hf.1 h_18
          refine lv_iconst (v := 1) S.1 S.2.1 dX8_readSum_38 rfl ?_
          refine lv_goto (tgt := 43) S.1 S.2.1 dX8_readSum_39 (by decide) ?_
          exact jn43 _ _ _ hf _ _ _ hP hD hS (lv_sub hl [0] rfl)
      intro H locs ls hP hD hS hl
      unfold f_X8_readSum_B4 at hf
      refine lv_aload_n S.1 S.2.1 dX8_readSum_4 rfl (lv_at hl 0 rfl) ?_
      refine R_cVi (As := []) (rest := []) S (c_X8_isGood (h12 := h12)  hf) gX8_readSum_X8_isGood rfl yk_X8_isGood ⟨⟨by dsimp only [rmX8_isGood, rmX8_readSum]; omega, by dsimp only [rmX8_isGood, rmX8_readSum]; omega⟩, rfl, rfl⟩ hK hP hD hS hX hA (h12 0 (by decide)) (cF_m E _ _ 0) rfl rfl hl.1 rfl (Nat.le_of_ble_eq_true rfl) ⟨Nat.zero_le _, Nat.zero_le _⟩ dX8_readSum_5 (fun v_7 I_5 J_6 H locs hf hP hD hS => ?_)
      refine lv_if_eq (tgt := 74) S.1 S.2.1 dX8_readSum_8 (by decide) (fun h_8 => ?_) (fun h_8 => ?_)
      · have hf := hf.1 h_8
        exact kx74 _ _ hf _ _ _ hP hD hS (lv_sub hl [] rfl)
      · have hf := hf.2 h_8
        refine lv_aload_n S.1 S.2.1 dX8_readSum_11 rfl (lv_at hl 0 rfl) ?_
        refine R_cVi (As := []) (rest := []) S (c_X8_ahead (h12 := h12)  hf) gX8_readSum_X8_ahead rfl yk_X8_ahead ⟨⟨by dsimp only [rmX8_ahead, rmX8_readSum]; omega, by dsimp only [rmX8_ahead, rmX8_readSum]; omega⟩, rfl, rfl⟩ hK hP hD hS hX hA (h12 0 (by decide)) (cF_m E _ _ 0) rfl rfl hl.1 rfl (Nat.le_of_ble_eq_true rfl) ⟨Nat.zero_le _, Nat.zero_le _⟩ dX8_readSum_12 (fun v_11 I_9 J_10 H locs hf hP hD hS => ?_)
        refine lv_bipush (v := 43) S.1 S.2.1 dX8_readSum_15 rfl ?_
        refine lv_icmp_eq (tgt := 29) S.1 S.2.1 dX8_readSum_17 (by decide) (fun h_12 => ?_) (fun h_12 => ?_)
        · have hf := hf.1 h_12
          exact jn29 _ _ hf _ _ _ hP hD hS (lv_sub hl [0] rfl)
        · have hf := hf.2 h_12
          refine lv_aload_n S.1 S.2.1 dX8_readSum_20 rfl (lv_at hl 0 rfl) ?_
          refine R_cVi (As := []) (rest := []) S (c_X8_ahead (h12 := h12)  hf) gX8_readSum_X8_ahead rfl yk_X8_ahead ⟨⟨by dsimp only [rmX8_ahead, rmX8_readSum]; omega, by dsimp only [rmX8_ahead, rmX8_readSum]; omega⟩, rfl, rfl⟩ hK hP hD hS hX hA (h12 0 (by decide)) (cF_m E _ _ 0) rfl rfl hl.1 rfl (Nat.le_of_ble_eq_true rfl) ⟨Nat.zero_le _, Nat.zero_le _⟩ dX8_readSum_21 (fun v_33 I_31 J_32 H locs hf hP hD hS => ?_)
          refine lv_bipush (v := 45) S.1 S.2.1 dX8_readSum_24 rfl ?_
          refine lv_icmp_ne (tgt := 74) S.1 S.2.1 dX8_readSum_26 (by decide) (fun h_34 => ?_) (fun h_34 => ?_)
          · have hf := hf.2 h_34
            exact kx74 _ _ hf _ _ _ hP hD hS (lv_sub hl [] rfl)
          · have hf := hf.1 h_34
            exact jn29 _ _ hf _ _ _ hP hD hS (lv_sub hl [0] rfl)
  refine L4 _ (fun I_35 J_36 hf H locs ls hP hD hS hl => ?_)  n_37  _ _ hf _ _ _ hP hD hS (lv_sub hl [0] rfl)
  exact hret hf hP hD hS dX8_readSum_74
def f_X8_readSum : Nat → MI → MJ → (MI → MJ → Prop) → Prop
  | 0, _, _, _ => False
  | d + 1, I, J, Q => f_X8_readSum_S (f_X8_readSum d) I J Q
theorem c_X8_readSum {l : Launch} {E : EV} {ps : List (Nat × Nat)} (h12 : ∀ r, r < 17 → (12, r) ∈ ps) : ∀ (d : Nat) {I : MI} {J : MJ} {Q : MI → MJ → Prop}, f_X8_readSum d I J Q → KV l yX8_readSum wsX8_readSum (rmX8_readSum d) E ps [.ref (eA E 12 0)] I J Q
  | 0 => fun h => h.elim
  | d + 1 => fun h => c_X8_readSum_S (hrs := fun h2 => c_X8_readSum h12 d h2) (h12 := h12) h
abbrev rmX8_once : Room := { frames := 1, cells := 0, slots := 0, locals := 22 }
theorem yk_X8_once : yOk yX8_once RX8 2 := by unfold yOk; decide +kernel
def f_X8_once_J19 (Q : MI → MJ → Prop) (x1_2 : Int32) (I_3 : MI) (J_4 : MJ) : Prop :=
  ∀ I_5 : MI, I_5 = sI I_3 12 0 15 ((I_3 12 0 15) ||| ((1 : Int32) <<< (x1_2 &&& 31))) → Q I_5 J_4
def f_X8_once (x1 : Int32) (x2 : Int32) (I : MI) (J : MJ) (Q : MI → MJ → Prop) : Prop :=
  (((((I 12 0 15) >>> (x1 &&& 31)) &&& (1 : Int32)) = (1 : Int32) → f_X8_report (-2 : Int32) x2 I J (fun (I_6 : MI) (J_7 : MJ) => f_X8_once_J19 Q x1 I_6 J_7)) ∧ (¬ (((I 12 0 15) >>> (x1 &&& 31)) &&& (1 : Int32)) = (1 : Int32) → f_X8_once_J19 Q x1 I J))
set_option maxRecDepth 100000 in
set_option maxHeartbeats 4000000 in
theorem c_X8_once {l : Launch} {E : EV} {ps : List (Nat × Nat)} (h12 : ∀ r, r < 17 → (12, r) ∈ ps) {x1 : Int32} {x2 : Int32} {I : MI} {J : MJ} {Q : MI → MJ → Prop} (hf : f_X8_once x1 x2 I J Q) : KV l yX8_once wsX8_once rmX8_once E ps [.ref (eA E 12 0), .int x1, .int x2] I J Q := by
  refine K_ofV (cc := cX8_once) (maxL := 3) (by decide +kernel) rfl (Nat.le_of_ble_eq_true rfl) (fun p e s m args below meth c Qm hret S hK hX => ?_)
  have hA : ∀ q, s.heap.size ≤ q → AA E ps s.heap.size q := fun _ h => Or.inr h
  have k1 := S.2.2.2.2 (.fieldLink RX8 152 "RhymeRoofsModel" "seen" "I") (by decide +kernel)
  have iX8 : ∀ w ∈ wsX80, w ∈ wsX8_once := fun _ h => List.mem_cons_of_mem _ (List.mem_append_right _ h)
  have jn19 : ∀ (x1_2 : Int32) (I_3 : MI) (J_4 : MJ), f_X8_once_J19 Q x1_2 I_3 J_4 → Wj p l e (rmX8_once) s m args below meth c Qm E ps 3 I_3 J_4 19 [(0, .ref (eA E 12 0)), (1, .int x1_2)] [] := by
    intro x1_2 I_3 J_4 hf H locs ls hP hD hS hl
    unfold f_X8_once_J19 at hf
    refine lv_aload_n S.1 S.2.1 dX8_once_19 rfl (lv_at hl 0 rfl) ?_
    refine lv_dup S.1 S.2.1 dX8_once_20 rfl ?_
    refine gfX8_15 S iX8 hK hP (h12 0 (by decide)) k1 dX8_once_21 ?_
    refine lv_iconst (v := 1) S.1 S.2.1 dX8_once_24 rfl ?_
    refine lv_iload_n S.1 S.2.1 dX8_once_25 rfl (lv_at hl 1 rfl) ?_
    refine lv_ishl S.1 S.2.1 dX8_once_26 ?_
    refine lv_ior S.1 S.2.1 dX8_once_27 ?_
    refine nm_o hf (fun I_5 eI_5 hf => ?_)
    refine pfX8_15 S iX8 hK hP hD hS (h12 0 (by decide)) k1 dX8_once_28 eI_5 (fun H locs hP hD hS => ?_)
    exact hret hf hP hD hS dX8_once_31
  intro H locs ls hP hD hS hl
  unfold f_X8_once at hf
  refine lv_aload_n S.1 S.2.1 dX8_once_0 rfl (lv_at hl 0 rfl) ?_
  refine gfX8_15 S iX8 hK hP (h12 0 (by decide)) k1 dX8_once_1 ?_
  refine lv_iload_n S.1 S.2.1 dX8_once_4 rfl (lv_at hl 1 rfl) ?_
  refine lv_ishr S.1 S.2.1 dX8_once_5 ?_
  refine lv_iconst (v := 1) S.1 S.2.1 dX8_once_6 rfl ?_
  refine lv_iand S.1 S.2.1 dX8_once_7 ?_
  refine lv_iconst (v := 1) S.1 S.2.1 dX8_once_8 rfl ?_
  refine lv_icmp_ne (tgt := 19) S.1 S.2.1 dX8_once_9 (by decide) (fun h_1 => ?_) (fun h_1 => ?_)
  · have hf := hf.2 h_1
    exact jn19 _ _ _ hf _ _ _ hP hD hS (lv_sub hl [0, 1] rfl)
  · have hf := hf.1 h_1
    refine lv_aload_n S.1 S.2.1 dX8_once_12 rfl (lv_at hl 0 rfl) ?_
    refine lv_bipush (v := (-2)) S.1 S.2.1 dX8_once_13 rfl ?_
    refine lv_iload_n S.1 S.2.1 dX8_once_15 rfl (lv_at hl 2 rfl) ?_
    refine R_cVv (As := [.int (-2 : Int32), .int x2]) (rest := []) S (c_X8_report (h12 := h12)  hf) gX8_once_X8_report rfl yk_X8_report ⟨⟨Nat.le_of_ble_eq_true rfl, Nat.le_of_ble_eq_true rfl⟩, rfl, rfl⟩ hK hP hD hS hX hA (h12 0 (by decide)) (cF_m E _ _ 0) rfl rfl hl.1 rfl (Nat.le_of_ble_eq_true rfl) ⟨Nat.zero_le _, Nat.zero_le _⟩ dX8_once_16 (fun I_6 J_7 H locs hf hP hD hS => ?_)
    exact jn19 _ _ _ hf _ _ _ hP hD hS (lv_sub hl [0, 1] rfl)
abbrev rmX8_isLetter : Room := { frames := 1, cells := 0, slots := 0, locals := 22 }
theorem yk_X8_isLetter : yOk yX8_isLetter RX8 1 := by unfold yOk; decide +kernel
def f_X8_isLetter (x0 : Int32) (I : MI) (J : MJ) (Q : Int32 → MI → MJ → Prop) : Prop :=
  f_X8_in x0 (97 : Int32) (122 : Int32) I J (fun (v_3 : Int32) (I_1 : MI) (J_2 : MJ) => (bo v_3 ∧ Q v_3 I_1 J_2))
set_option maxRecDepth 100000 in
set_option maxHeartbeats 4000000 in
theorem c_X8_isLetter {l : Launch} {E : EV} {ps : List (Nat × Nat)}  {x0 : Int32} {I : MI} {J : MJ} {Q : Int32 → MI → MJ → Prop} (hf : f_X8_isLetter x0 I J Q) : KI l yX8_isLetter wsX8_isLetter rmX8_isLetter E ps [.int x0] I J Q := by
  refine K_ofI (cc := cX8_isLetter) (maxL := 1) (ty := .boolean) (by decide +kernel) rfl (Nat.le_of_ble_eq_true rfl) (fun p e s m args below meth c Qm hret S hK hX => ?_)
  have hA : ∀ q, s.heap.size ≤ q → AA E ps s.heap.size q := fun _ h => Or.inr h
  intro H locs ls hP hD hS hl
  unfold f_X8_isLetter at hf
  refine lv_iload_n S.1 S.2.1 dX8_isLetter_0 rfl (lv_at hl 0 rfl) ?_
  refine lv_bipush (v := 97) S.1 S.2.1 dX8_isLetter_1 rfl ?_
  refine lv_bipush (v := 122) S.1 S.2.1 dX8_isLetter_3 rfl ?_
  refine R_cSi (As := [.int x0, .int (97 : Int32), .int (122 : Int32)]) (rest := []) S (c_X8_in   hf) gX8_isLetter_X8_in rfl yk_X8_in ⟨⟨Nat.le_of_ble_eq_true rfl, Nat.le_of_ble_eq_true rfl⟩, rfl, rfl⟩ hK hP hD hS hX hA rfl hl.1 rfl (Nat.le_of_ble_eq_true rfl) ⟨Nat.zero_le _, Nat.zero_le _⟩ dX8_isLetter_5 (fun v_3 I_1 J_2 H locs hf hP hD hS => ?_)
  obtain ⟨h_4, hf⟩ := hf
  exact hret hf h_4.1 hP hD hS dX8_isLetter_8
