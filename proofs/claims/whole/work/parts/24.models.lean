abbrev rmX8_noWord : Room := { frames := 2, cells := 0, slots := 0, locals := 43 }
theorem yk_X8_noWord : yOk yX8_noWord RX8 2 := by unfold yOk; decide +kernel
def f_X8_noWord_J30 (Q : Int32 → MI → MJ → Prop) (s_12 : Int32) (I_13 : MI) (J_14 : MJ) : Prop :=
  f_X8_fails s_12 (1 : Int32) I_13 J_14 (fun (v_17 : Int32) (I_15 : MI) (J_16 : MJ) => ((v_17 = (0 : Int32) → Q (0 : Int32) I_15 J_16) ∧ (¬ v_17 = (0 : Int32) → Q (1 : Int32) I_15 J_16)))
def f_X8_noWord (x1 : Int32) (x2 : Int32) (I : MI) (J : MJ) (Q : Int32 → MI → MJ → Prop) : Prop :=
  f_X8_noPlayer x1 I J (fun (v_3 : Int32) (I_1 : MI) (J_2 : MJ) => ((v_3 = (0 : Int32) → f_X8_ofPlayer x1 (1 : Int32) I_1 J_2 (fun (v_7 : Int32) (I_5 : MI) (J_6 : MJ) => f_X8_in x2 (0 : Int32) (v_7 - (1 : Int32)) I_5 J_6 (fun (v_10 : Int32) (I_8 : MI) (J_9 : MJ) => ((v_10 = (0 : Int32) → f_X8_noWord_J30 Q (1 : Int32) I_8 J_9) ∧ (¬ v_10 = (0 : Int32) → f_X8_noWord_J30 Q (0 : Int32) I_8 J_9))))) ∧ (¬ v_3 = (0 : Int32) → Q (1 : Int32) I_1 J_2)))
set_option maxRecDepth 100000 in
set_option maxHeartbeats 4000000 in
theorem c_X8_noWord {l : Launch} {E : EV} {ps : List (Nat × Nat)} (h12 : ∀ r, r < 17 → (12, r) ∈ ps) {x1 : Int32} {x2 : Int32} {I : MI} {J : MJ} {Q : Int32 → MI → MJ → Prop} (hf : f_X8_noWord x1 x2 I J Q) : KI l yX8_noWord wsX8_noWord rmX8_noWord E ps [.ref (eA E 12 0), .int x1, .int x2] I J Q := by
  refine K_ofI (cc := cX8_noWord) (maxL := 3) (ty := .boolean) (by decide +kernel) rfl (Nat.le_of_ble_eq_true rfl) (fun p e s m args below meth c Qm hret S hK hX => ?_)
  have hA : ∀ q, s.heap.size ≤ q → AA E ps s.heap.size q := fun _ h => Or.inr h
  have jn30 : ∀ (s_12 : Int32) (I_13 : MI) (J_14 : MJ), f_X8_noWord_J30 Q s_12 I_13 J_14 → Wj p l e (rmX8_noWord) s m args below meth c Qm E ps 3 I_13 J_14 30 [] [.int s_12, .ref (eA E 12 0)] := by
    intro s_12 I_13 J_14 hf H locs ls hP hD hS hl
    unfold f_X8_noWord_J30 at hf
    refine lv_iconst (v := 1) S.1 S.2.1 dX8_noWord_30 rfl ?_
    refine R_cVi (As := [.int s_12, .int (1 : Int32)]) (rest := []) S (c_X8_fails (h12 := h12)  hf) gX8_noWord_X8_fails rfl yk_X8_fails ⟨⟨Nat.le_of_ble_eq_true rfl, Nat.le_of_ble_eq_true rfl⟩, rfl, rfl⟩ hK hP hD hS hX hA (h12 0 (by decide)) (cF_m E _ _ 0) rfl rfl hl.1 rfl (Nat.le_of_ble_eq_true rfl) ⟨Nat.zero_le _, Nat.zero_le _⟩ dX8_noWord_31 (fun v_17 I_15 J_16 H locs hf hP hD hS => ?_)
    refine lv_if_eq (tgt := 41) S.1 S.2.1 dX8_noWord_34 (by decide) (fun h_18 => ?_) (fun h_18 => ?_)
    · have hf := hf.1 h_18
      refine lv_iconst (v := 0) S.1 S.2.1 dX8_noWord_41 rfl ?_
      exact hret hf rfl hP hD hS dX8_noWord_42
    · have hf := hf.2 h_18
      refine lv_iconst (v := 1) S.1 S.2.1 dX8_noWord_37 rfl ?_
      refine lv_goto (tgt := 42) S.1 S.2.1 dX8_noWord_38 (by decide) ?_
      exact hret hf rfl hP hD hS dX8_noWord_42
  intro H locs ls hP hD hS hl
  unfold f_X8_noWord at hf
  refine lv_aload_n S.1 S.2.1 dX8_noWord_0 rfl (lv_at hl 0 rfl) ?_
  refine lv_iload_n S.1 S.2.1 dX8_noWord_1 rfl (lv_at hl 1 rfl) ?_
  refine R_cVi (As := [.int x1]) (rest := []) S (c_X8_noPlayer (h12 := h12)  hf) gX8_noWord_X8_noPlayer rfl yk_X8_noPlayer ⟨⟨Nat.le_of_ble_eq_true rfl, Nat.le_of_ble_eq_true rfl⟩, rfl, rfl⟩ hK hP hD hS hX hA (h12 0 (by decide)) (cF_m E _ _ 0) rfl rfl hl.1 rfl (Nat.le_of_ble_eq_true rfl) ⟨Nat.zero_le _, Nat.zero_le _⟩ dX8_noWord_2 (fun v_3 I_1 J_2 H locs hf hP hD hS => ?_)
  refine lv_if_ne (tgt := 37) S.1 S.2.1 dX8_noWord_5 (by decide) (fun h_4 => ?_) (fun h_4 => ?_)
  · have hf := hf.2 h_4
    refine lv_iconst (v := 1) S.1 S.2.1 dX8_noWord_37 rfl ?_
    refine lv_goto (tgt := 42) S.1 S.2.1 dX8_noWord_38 (by decide) ?_
    exact hret hf rfl hP hD hS dX8_noWord_42
  · have hf := hf.1 h_4
    refine lv_aload_n S.1 S.2.1 dX8_noWord_8 rfl (lv_at hl 0 rfl) ?_
    refine lv_iload_n S.1 S.2.1 dX8_noWord_9 rfl (lv_at hl 2 rfl) ?_
    refine lv_iconst (v := 0) S.1 S.2.1 dX8_noWord_10 rfl ?_
    refine lv_aload_n S.1 S.2.1 dX8_noWord_11 rfl (lv_at hl 0 rfl) ?_
    refine lv_iload_n S.1 S.2.1 dX8_noWord_12 rfl (lv_at hl 1 rfl) ?_
    refine lv_iconst (v := 1) S.1 S.2.1 dX8_noWord_13 rfl ?_
    refine R_cVi (As := [.int x1, .int (1 : Int32)]) (rest := [.int (0 : Int32), .int x2, .ref (eA E 12 0)]) S (c_X8_ofPlayer (h12 := h12)  hf) gX8_noWord_X8_ofPlayer rfl yk_X8_ofPlayer ⟨⟨Nat.le_of_ble_eq_true rfl, Nat.le_of_ble_eq_true rfl⟩, rfl, rfl⟩ hK hP hD hS hX hA (h12 0 (by decide)) (cF_m E _ _ 0) rfl rfl hl.1 rfl (Nat.le_of_ble_eq_true rfl) ⟨Nat.zero_le _, Nat.zero_le _⟩ dX8_noWord_14 (fun v_7 I_5 J_6 H locs hf hP hD hS => ?_)
    refine lv_iconst (v := 1) S.1 S.2.1 dX8_noWord_17 rfl ?_
    refine lv_isub S.1 S.2.1 dX8_noWord_18 ?_
    refine R_cSi (As := [.int x2, .int (0 : Int32), .int (v_7 - (1 : Int32))]) (rest := [.ref (eA E 12 0)]) S (c_X8_in   hf) gX8_noWord_X8_in rfl yk_X8_in ⟨⟨Nat.le_of_ble_eq_true rfl, Nat.le_of_ble_eq_true rfl⟩, rfl, rfl⟩ hK hP hD hS hX hA rfl hl.1 rfl (Nat.le_of_ble_eq_true rfl) ⟨Nat.zero_le _, Nat.zero_le _⟩ dX8_noWord_19 (fun v_10 I_8 J_9 H locs hf hP hD hS => ?_)
    refine lv_if_ne (tgt := 29) S.1 S.2.1 dX8_noWord_22 (by decide) (fun h_11 => ?_) (fun h_11 => ?_)
    · have hf := hf.2 h_11
      refine lv_iconst (v := 0) S.1 S.2.1 dX8_noWord_29 rfl ?_
      exact jn30 _ _ _ hf _ _ _ hP hD hS (lv_sub hl [] rfl)
    · have hf := hf.1 h_11
      refine lv_iconst (v := 1) S.1 S.2.1 dX8_noWord_25 rfl ?_
      refine lv_goto (tgt := 30) S.1 S.2.1 dX8_noWord_26 (by decide) ?_
      exact jn30 _ _ _ hf _ _ _ hP hD hS (lv_sub hl [] rfl)
abbrev rmX8_laidWords : Room := { frames := 2, cells := 0, slots := 0, locals := 42 }
theorem yk_X8_laidWords : yOk yX8_laidWords RX8 0 := by unfold yOk; decide +kernel
def f_X8_laidWords_B4 (K29 : Int32 → MI → MJ → Prop) (rec4 : Int32 → Int32 → MI → MJ → Prop) (x1_1 : Int32) (x2_2 : Int32) (I_3 : MI) (J_4 : MJ) : Prop :=
  (vp_in (0 : Int32) 1802 ∧ (((I_3 12 2 (0 : Int32).toNatClampNeg) ≤ x2_2 → K29 x1_1 I_3 J_4) ∧ (¬ (I_3 12 2 (0 : Int32).toNatClampNeg) ≤ x2_2 → f_X8_ofRow x2_2 (2 : Int32) I_3 J_4 (fun (v_9 : Int32) (I_7 : MI) (J_8 : MJ) => ∀ x1_10 : Int32, x1_10 = (x1_1 + v_9) → ∀ x2_11 : Int32, x2_11 = x2_2 + (1 : Int32) → rec4 x1_10 x2_11 I_7 J_8))))
def f_X8_laidWords_L4 (K29 : Int32 → MI → MJ → Prop) : Nat → Int32 → Int32 → MI → MJ → Prop
  | 0, _, _, _, _ => False
  | n + 1, x1_1, x2_2, I_3, J_4 => f_X8_laidWords_B4 K29 (f_X8_laidWords_L4 K29 n) x1_1 x2_2 I_3 J_4
def f_X8_laidWords (I : MI) (J : MJ) (Q : Int32 → MI → MJ → Prop) : Prop :=
  ∃ n : Nat, f_X8_laidWords_L4 (fun (x1_12 : Int32) (I_13 : MI) (J_14 : MJ) => Q x1_12 I_13 J_14) n (0 : Int32) (0 : Int32) I J
set_option maxRecDepth 100000 in
set_option maxHeartbeats 4000000 in
theorem c_X8_laidWords {l : Launch} {E : EV} {ps : List (Nat × Nat)} (h12 : ∀ r, r < 17 → (12, r) ∈ ps) {I : MI} {J : MJ} {Q : Int32 → MI → MJ → Prop} (hf : f_X8_laidWords I J Q) : KI l yX8_laidWords wsX8_laidWords rmX8_laidWords E ps [.ref (eA E 12 0)] I J Q := by
  refine K_ofI (cc := cX8_laidWords) (maxL := 3) (ty := .int) (by decide +kernel) rfl (Nat.le_of_ble_eq_true rfl) (fun p e s m args below meth c Qm hret S hK hX => ?_)
  have hA : ∀ q, s.heap.size ≤ q → AA E ps s.heap.size q := fun _ h => Or.inr h
  have k1 := S.2.2.2.2 (.fieldLink RX8 17 "RhymeRoofsModel" "data" "[I") (by decide +kernel)
  have iX8 : ∀ w ∈ wsX80, w ∈ wsX8_laidWords := fun _ h => List.mem_cons_of_mem _ (List.mem_append_right _ h)
  intro H locs ls hP hD hS hl
  unfold f_X8_laidWords at hf
  refine lv_iconst (v := 0) S.1 S.2.1 dX8_laidWords_0 rfl ?_
  refine lv_istore_n (lv' := [(1, .int (0 : Int32)), (0, .ref (eA E 12 0))]) S.1 S.2.1 dX8_laidWords_1 rfl hl (by decide) rfl (fun ls hl => ?_)
  refine lv_iconst (v := 0) S.1 S.2.1 dX8_laidWords_2 rfl ?_
  refine lv_istore_n (lv' := [(2, .int (0 : Int32)), (1, .int (0 : Int32)), (0, .ref (eA E 12 0))]) S.1 S.2.1 dX8_laidWords_3 rfl hl (by decide) rfl (fun ls hl => ?_)
  obtain ⟨n_15, hf⟩ := hf
  have L4 : ∀ (K29 : Int32 → MI → MJ → Prop), (∀ (x1_12 : Int32) (I_13 : MI) (J_14 : MJ), K29 x1_12 I_13 J_14 → Wj p l e (rmX8_laidWords) s m args below meth c Qm E ps 3 I_13 J_14 29 [(1, .int x1_12)] []) → ∀ (n : Nat) (x1_1 : Int32) (x2_2 : Int32) (I_3 : MI) (J_4 : MJ), f_X8_laidWords_L4 K29 n x1_1 x2_2 I_3 J_4 → Wj p l e (rmX8_laidWords) s m args below meth c Qm E ps 3 I_3 J_4 4 [(0, .ref (eA E 12 0)), (1, .int x1_1), (2, .int x2_2)] [] := by
    intro K29 kx29 n
    induction n with
    | zero => intro x1_1 x2_2 I_3 J_4 hf; exact hf.elim
    | succ n ih4 =>
      intro x1_1 x2_2 I_3 J_4 hf
      have hf : f_X8_laidWords_B4 K29 (f_X8_laidWords_L4 K29 n) x1_1 x2_2 I_3 J_4 := hf
      intro H locs ls hP hD hS hl
      unfold f_X8_laidWords_B4 at hf
      refine lv_iload_n S.1 S.2.1 dX8_laidWords_4 rfl (lv_at hl 2 rfl) ?_
      refine lv_aload_n S.1 S.2.1 dX8_laidWords_5 rfl (lv_at hl 0 rfl) ?_
      refine gfX8_8 S iX8 hK hP (h12 0 (by decide)) k1 dX8_laidWords_6 ?_
      refine lv_iconst (v := 0) S.1 S.2.1 dX8_laidWords_9 rfl ?_
      obtain ⟨h_5, hf⟩ := hf
      refine R_iald S.1 S.2.1 hK hP (h12 2 (by decide)) (IAm2 E) h_5 dX8_laidWords_10 ?_
      refine lv_icmp_ge (tgt := 29) S.1 S.2.1 dX8_laidWords_11 (by decide) (fun h_6 => ?_) (fun h_6 => ?_)
      · have hf := hf.1 h_6
        exact kx29 _ _ _ hf _ _ _ hP hD hS (lv_sub hl [1] rfl)
      · have hf := hf.2 h_6
        refine lv_iload_n S.1 S.2.1 dX8_laidWords_14 rfl (lv_at hl 1 rfl) ?_
        refine lv_aload_n S.1 S.2.1 dX8_laidWords_15 rfl (lv_at hl 0 rfl) ?_
        refine lv_iload_n S.1 S.2.1 dX8_laidWords_16 rfl (lv_at hl 2 rfl) ?_
        refine lv_iconst (v := 2) S.1 S.2.1 dX8_laidWords_17 rfl ?_
        refine R_cVi (As := [.int x2_2, .int (2 : Int32)]) (rest := [.int x1_1]) S (c_X8_ofRow (h12 := h12)  hf) gX8_laidWords_X8_ofRow rfl yk_X8_ofRow ⟨⟨Nat.le_of_ble_eq_true rfl, Nat.le_of_ble_eq_true rfl⟩, rfl, rfl⟩ hK hP hD hS hX hA (h12 0 (by decide)) (cF_m E _ _ 0) rfl rfl hl.1 rfl (Nat.le_of_ble_eq_true rfl) ⟨Nat.zero_le _, Nat.zero_le _⟩ dX8_laidWords_18 (fun v_9 I_7 J_8 H locs hf hP hD hS => ?_)
        refine lv_iadd S.1 S.2.1 dX8_laidWords_21 ?_
        refine lv_topi (fun x1_10 ex1_10 => ?_)
        have hf := hf x1_10 ex1_10
        refine lv_istore_n (lv' := [(1, .int x1_10), (0, .ref (eA E 12 0)), (2, .int x2_2)]) S.1 S.2.1 dX8_laidWords_22 rfl hl (by decide) rfl (fun ls hl => ?_)
        refine nm_o hf (fun x2_11 ex2_11 hf => ?_)
        refine lv_iinc (v := x2_11) (lv' := [(2, .int x2_11), (1, .int x1_10), (0, .ref (eA E 12 0))]) S.1 S.2.1 dX8_laidWords_23 hl (k := 2) rfl (by rw [ex2_11]; rfl) (by decide) rfl (fun ls hl => ?_)
        refine lv_goto (tgt := 4) S.1 S.2.1 dX8_laidWords_26 (by decide) ?_
        exact ih4 _ _ _ _ hf _ _ _ hP hD hS (lv_sub hl [2, 1, 0] rfl)
  refine L4 _ (fun x1_12 I_13 J_14 hf H locs ls hP hD hS hl => ?_)  n_15 _ _ _ _ hf _ _ _ hP hD hS (lv_sub hl [2, 1, 0] rfl)
  refine lv_iload_n S.1 S.2.1 dX8_laidWords_29 rfl (lv_at hl 0 rfl) ?_
  exact hret hf rfl hP hD hS dX8_laidWords_30
abbrev rmX8_fullRows : Room := { frames := 3, cells := 0, slots := 0, locals := 63 }
theorem yk_X8_fullRows : yOk yX8_fullRows RX8 0 := by unfold yOk; decide +kernel
def f_X8_fullRows_B4 (K36 : Int32 → MI → MJ → Prop) (rec4 : Int32 → Int32 → MI → MJ → Prop) (x1_1 : Int32) (x2_2 : Int32) (I_3 : MI) (J_4 : MJ) : Prop :=
  (vp_in (0 : Int32) 1802 ∧ (((I_3 12 2 (0 : Int32).toNatClampNeg) ≤ x2_2 → K36 x1_1 I_3 J_4) ∧ (¬ (I_3 12 2 (0 : Int32).toNatClampNeg) ≤ x2_2 → f_X8_free x2_2 I_3 J_4 (fun (v_9 : Int32) (I_7 : MI) (J_8 : MJ) => ((v_9 = (0 : Int32) → ∀ x1_13 : Int32, x1_13 = (x1_1 + (1 : Int32)) → ∀ x2_14 : Int32, x2_14 = x2_2 + (1 : Int32) → rec4 x1_13 x2_14 I_7 J_8) ∧ (¬ v_9 = (0 : Int32) → ∀ x1_11 : Int32, x1_11 = (x1_1 + (0 : Int32)) → ∀ x2_12 : Int32, x2_12 = x2_2 + (1 : Int32) → rec4 x1_11 x2_12 I_7 J_8))))))
def f_X8_fullRows_L4 (K36 : Int32 → MI → MJ → Prop) : Nat → Int32 → Int32 → MI → MJ → Prop
  | 0, _, _, _, _ => False
  | n + 1, x1_1, x2_2, I_3, J_4 => f_X8_fullRows_B4 K36 (f_X8_fullRows_L4 K36 n) x1_1 x2_2 I_3 J_4
def f_X8_fullRows (I : MI) (J : MJ) (Q : Int32 → MI → MJ → Prop) : Prop :=
  ∃ n : Nat, f_X8_fullRows_L4 (fun (x1_15 : Int32) (I_16 : MI) (J_17 : MJ) => Q x1_15 I_16 J_17) n (0 : Int32) (0 : Int32) I J
set_option maxRecDepth 100000 in
set_option maxHeartbeats 4000000 in
theorem c_X8_fullRows {l : Launch} {E : EV} {ps : List (Nat × Nat)} (h12 : ∀ r, r < 17 → (12, r) ∈ ps) {I : MI} {J : MJ} {Q : Int32 → MI → MJ → Prop} (hf : f_X8_fullRows I J Q) : KI l yX8_fullRows wsX8_fullRows rmX8_fullRows E ps [.ref (eA E 12 0)] I J Q := by
  refine K_ofI (cc := cX8_fullRows) (maxL := 3) (ty := .int) (by decide +kernel) rfl (Nat.le_of_ble_eq_true rfl) (fun p e s m args below meth c Qm hret S hK hX => ?_)
  have hA : ∀ q, s.heap.size ≤ q → AA E ps s.heap.size q := fun _ h => Or.inr h
  have k1 := S.2.2.2.2 (.fieldLink RX8 17 "RhymeRoofsModel" "data" "[I") (by decide +kernel)
  have iX8 : ∀ w ∈ wsX80, w ∈ wsX8_fullRows := fun _ h => List.mem_cons_of_mem _ (List.mem_append_right _ h)
  intro H locs ls hP hD hS hl
  unfold f_X8_fullRows at hf
  refine lv_iconst (v := 0) S.1 S.2.1 dX8_fullRows_0 rfl ?_
  refine lv_istore_n (lv' := [(1, .int (0 : Int32)), (0, .ref (eA E 12 0))]) S.1 S.2.1 dX8_fullRows_1 rfl hl (by decide) rfl (fun ls hl => ?_)
  refine lv_iconst (v := 0) S.1 S.2.1 dX8_fullRows_2 rfl ?_
  refine lv_istore_n (lv' := [(2, .int (0 : Int32)), (1, .int (0 : Int32)), (0, .ref (eA E 12 0))]) S.1 S.2.1 dX8_fullRows_3 rfl hl (by decide) rfl (fun ls hl => ?_)
  obtain ⟨n_18, hf⟩ := hf
  have L4 : ∀ (K36 : Int32 → MI → MJ → Prop), (∀ (x1_15 : Int32) (I_16 : MI) (J_17 : MJ), K36 x1_15 I_16 J_17 → Wj p l e (rmX8_fullRows) s m args below meth c Qm E ps 3 I_16 J_17 36 [(1, .int x1_15)] []) → ∀ (n : Nat) (x1_1 : Int32) (x2_2 : Int32) (I_3 : MI) (J_4 : MJ), f_X8_fullRows_L4 K36 n x1_1 x2_2 I_3 J_4 → Wj p l e (rmX8_fullRows) s m args below meth c Qm E ps 3 I_3 J_4 4 [(0, .ref (eA E 12 0)), (1, .int x1_1), (2, .int x2_2)] [] := by
    intro K36 kx36 n
    induction n with
    | zero => intro x1_1 x2_2 I_3 J_4 hf; exact hf.elim
    | succ n ih4 =>
      intro x1_1 x2_2 I_3 J_4 hf
      have hf : f_X8_fullRows_B4 K36 (f_X8_fullRows_L4 K36 n) x1_1 x2_2 I_3 J_4 := hf
      intro H locs ls hP hD hS hl
      unfold f_X8_fullRows_B4 at hf
      refine lv_iload_n S.1 S.2.1 dX8_fullRows_4 rfl (lv_at hl 2 rfl) ?_
      refine lv_aload_n S.1 S.2.1 dX8_fullRows_5 rfl (lv_at hl 0 rfl) ?_
      refine gfX8_8 S iX8 hK hP (h12 0 (by decide)) k1 dX8_fullRows_6 ?_
      refine lv_iconst (v := 0) S.1 S.2.1 dX8_fullRows_9 rfl ?_
      obtain ⟨h_5, hf⟩ := hf
      refine R_iald S.1 S.2.1 hK hP (h12 2 (by decide)) (IAm2 E) h_5 dX8_fullRows_10 ?_
      refine lv_icmp_ge (tgt := 36) S.1 S.2.1 dX8_fullRows_11 (by decide) (fun h_6 => ?_) (fun h_6 => ?_)
      · have hf := hf.1 h_6
        exact kx36 _ _ _ hf _ _ _ hP hD hS (lv_sub hl [1] rfl)
      · have hf := hf.2 h_6
        refine lv_iload_n S.1 S.2.1 dX8_fullRows_14 rfl (lv_at hl 1 rfl) ?_
        refine lv_aload_n S.1 S.2.1 dX8_fullRows_15 rfl (lv_at hl 0 rfl) ?_
        refine lv_iload_n S.1 S.2.1 dX8_fullRows_16 rfl (lv_at hl 2 rfl) ?_
        refine R_cVi (As := [.int x2_2]) (rest := [.int x1_1]) S (c_X8_free (h12 := h12)  hf) gX8_fullRows_X8_free rfl yk_X8_free ⟨⟨Nat.le_of_ble_eq_true rfl, Nat.le_of_ble_eq_true rfl⟩, rfl, rfl⟩ hK hP hD hS hX hA (h12 0 (by decide)) (cF_m E _ _ 0) rfl rfl hl.1 rfl (Nat.le_of_ble_eq_true rfl) ⟨Nat.zero_le _, Nat.zero_le _⟩ dX8_fullRows_17 (fun v_9 I_7 J_8 H locs hf hP hD hS => ?_)
        refine lv_if_ne (tgt := 27) S.1 S.2.1 dX8_fullRows_20 (by decide) (fun h_10 => ?_) (fun h_10 => ?_)
        · have hf := hf.2 h_10
          refine lv_iconst (v := 0) S.1 S.2.1 dX8_fullRows_27 rfl ?_
          refine lv_iadd S.1 S.2.1 dX8_fullRows_28 ?_
          refine lv_topi (fun x1_11 ex1_11 => ?_)
          have hf := hf x1_11 ex1_11
          refine lv_istore_n (lv' := [(1, .int x1_11), (0, .ref (eA E 12 0)), (2, .int x2_2)]) S.1 S.2.1 dX8_fullRows_29 rfl hl (by decide) rfl (fun ls hl => ?_)
          refine nm_o hf (fun x2_12 ex2_12 hf => ?_)
          refine lv_iinc (v := x2_12) (lv' := [(2, .int x2_12), (1, .int x1_11), (0, .ref (eA E 12 0))]) S.1 S.2.1 dX8_fullRows_30 hl (k := 2) rfl (by rw [ex2_12]; rfl) (by decide) rfl (fun ls hl => ?_)
          refine lv_goto (tgt := 4) S.1 S.2.1 dX8_fullRows_33 (by decide) ?_
          exact ih4 _ _ _ _ hf _ _ _ hP hD hS (lv_sub hl [2, 1, 0] rfl)
        · have hf := hf.1 h_10
          refine lv_iconst (v := 1) S.1 S.2.1 dX8_fullRows_23 rfl ?_
          refine lv_goto (tgt := 28) S.1 S.2.1 dX8_fullRows_24 (by decide) ?_
          refine lv_iadd S.1 S.2.1 dX8_fullRows_28 ?_
          refine lv_topi (fun x1_13 ex1_13 => ?_)
          have hf := hf x1_13 ex1_13
          refine lv_istore_n (lv' := [(1, .int x1_13), (0, .ref (eA E 12 0)), (2, .int x2_2)]) S.1 S.2.1 dX8_fullRows_29 rfl hl (by decide) rfl (fun ls hl => ?_)
          refine nm_o hf (fun x2_14 ex2_14 hf => ?_)
          refine lv_iinc (v := x2_14) (lv' := [(2, .int x2_14), (1, .int x1_13), (0, .ref (eA E 12 0))]) S.1 S.2.1 dX8_fullRows_30 hl (k := 2) rfl (by rw [ex2_14]; rfl) (by decide) rfl (fun ls hl => ?_)
          refine lv_goto (tgt := 4) S.1 S.2.1 dX8_fullRows_33 (by decide) ?_
          exact ih4 _ _ _ _ hf _ _ _ hP hD hS (lv_sub hl [2, 1, 0] rfl)
  refine L4 _ (fun x1_15 I_16 J_17 hf H locs ls hP hD hS hl => ?_)  n_18 _ _ _ _ hf _ _ _ hP hD hS (lv_sub hl [2, 1, 0] rfl)
  refine lv_iload_n S.1 S.2.1 dX8_fullRows_36 rfl (lv_at hl 0 rfl) ?_
  exact hret hf rfl hP hD hS dX8_fullRows_37
abbrev rmX8_told : Room := { frames := 7, cells := 0, slots := 0, locals := 154 }
theorem yk_X8_told : yOk yX8_told RX8 1 := by unfold yOk; decide +kernel
def f_X8_told (x1 : Int32) (I : MI) (J : MJ) (Q : Int32 → MI → MJ → Prop) : Prop :=
  ((x1 = (8 : Int32) → f_X8_laidWords I J (fun (v_4 : Int32) (I_2 : MI) (J_3 : MJ) => Q v_4 I_2 J_3)) ∧ (¬ x1 = (8 : Int32) → ((x1 = (9 : Int32) → f_X8_fullRows I J (fun (v_7 : Int32) (I_5 : MI) (J_6 : MJ) => Q v_7 I_5 J_6)) ∧ (¬ x1 = (9 : Int32) → ((x1 = (10 : Int32) → f_X8_plays I J (fun (v_10 : Int32) (I_8 : MI) (J_9 : MJ) => Q v_10 I_8 J_9)) ∧ (¬ x1 = (10 : Int32) → ((x1 = (11 : Int32) → f_X8_wordsOfAll I J (fun (v_13 : Int32) (I_11 : MI) (J_12 : MJ) => Q v_13 I_11 J_12)) ∧ (¬ x1 = (11 : Int32) → (vp_in x1 1802 ∧ Q (I 12 2 x1.toNatClampNeg) I J)))))))))
set_option maxRecDepth 100000 in
set_option maxHeartbeats 4000000 in
theorem c_X8_told {l : Launch} {E : EV} {ps : List (Nat × Nat)} (h12 : ∀ r, r < 17 → (12, r) ∈ ps) {x1 : Int32} {I : MI} {J : MJ} {Q : Int32 → MI → MJ → Prop} (hf : f_X8_told x1 I J Q) : KI l yX8_told wsX8_told rmX8_told E ps [.ref (eA E 12 0), .int x1] I J Q := by
  refine K_ofI (cc := cX8_told) (maxL := 2) (ty := .int) (by decide +kernel) rfl (Nat.le_of_ble_eq_true rfl) (fun p e s m args below meth c Qm hret S hK hX => ?_)
  have hA : ∀ q, s.heap.size ≤ q → AA E ps s.heap.size q := fun _ h => Or.inr h
  have k1 := S.2.2.2.2 (.fieldLink RX8 17 "RhymeRoofsModel" "data" "[I") (by decide +kernel)
  have iX8 : ∀ w ∈ wsX80, w ∈ wsX8_told := fun _ h => List.mem_cons_of_mem _ (List.mem_append_right _ h)
  intro H locs ls hP hD hS hl
  unfold f_X8_told at hf
  refine lv_iload_n S.1 S.2.1 dX8_told_0 rfl (lv_at hl 1 rfl) ?_
  refine Classical.byCases (p := x1 = (8 : Int32)) (fun h_1 => ?_) (fun h_1_0 => ?_)
  · have hf := hf.1 h_1
    refine R_swIn (tgt := 32) (off := 31) S.1 S.2.1 dX8_told_1 h_1 (by decide) (by decide) ?_
    refine lv_aload_n S.1 S.2.1 dX8_told_32 rfl (lv_at hl 0 rfl) ?_
    refine R_cVi (As := []) (rest := []) S (c_X8_laidWords (h12 := h12)  hf) gX8_told_X8_laidWords rfl yk_X8_laidWords ⟨⟨Nat.le_of_ble_eq_true rfl, Nat.le_of_ble_eq_true rfl⟩, rfl, rfl⟩ hK hP hD hS hX hA (h12 0 (by decide)) (cF_m E _ _ 0) rfl rfl hl.1 rfl (Nat.le_of_ble_eq_true rfl) ⟨Nat.zero_le _, Nat.zero_le _⟩ dX8_told_33 (fun v_4 I_2 J_3 H locs hf hP hD hS => ?_)
    exact hret hf rfl hP hD hS dX8_told_36
  have hf := hf.2 h_1_0
  refine Classical.byCases (p := x1 = (9 : Int32)) (fun h_1 => ?_) (fun h_1_1 => ?_)
  · have hf := hf.1 h_1
    refine R_swIn (tgt := 37) (off := 36) S.1 S.2.1 dX8_told_1 h_1 (by decide) (by decide) ?_
    refine lv_aload_n S.1 S.2.1 dX8_told_37 rfl (lv_at hl 0 rfl) ?_
    refine R_cVi (As := []) (rest := []) S (c_X8_fullRows (h12 := h12)  hf) gX8_told_X8_fullRows rfl yk_X8_fullRows ⟨⟨Nat.le_of_ble_eq_true rfl, Nat.le_of_ble_eq_true rfl⟩, rfl, rfl⟩ hK hP hD hS hX hA (h12 0 (by decide)) (cF_m E _ _ 0) rfl rfl hl.1 rfl (Nat.le_of_ble_eq_true rfl) ⟨Nat.zero_le _, Nat.zero_le _⟩ dX8_told_38 (fun v_7 I_5 J_6 H locs hf hP hD hS => ?_)
    exact hret hf rfl hP hD hS dX8_told_41
  have hf := hf.2 h_1_1
  refine Classical.byCases (p := x1 = (10 : Int32)) (fun h_1 => ?_) (fun h_1_2 => ?_)
  · have hf := hf.1 h_1
    refine R_swIn (tgt := 42) (off := 41) S.1 S.2.1 dX8_told_1 h_1 (by decide) (by decide) ?_
    refine lv_aload_n S.1 S.2.1 dX8_told_42 rfl (lv_at hl 0 rfl) ?_
    refine R_cVi (As := []) (rest := []) S (c_X8_plays (h12 := h12)  hf) gX8_told_X8_plays rfl yk_X8_plays ⟨⟨Nat.le_of_ble_eq_true rfl, Nat.le_of_ble_eq_true rfl⟩, rfl, rfl⟩ hK hP hD hS hX hA (h12 0 (by decide)) (cF_m E _ _ 0) rfl rfl hl.1 rfl (Nat.le_of_ble_eq_true rfl) ⟨Nat.zero_le _, Nat.zero_le _⟩ dX8_told_43 (fun v_10 I_8 J_9 H locs hf hP hD hS => ?_)
    exact hret hf rfl hP hD hS dX8_told_46
  have hf := hf.2 h_1_2
  refine Classical.byCases (p := x1 = (11 : Int32)) (fun h_1 => ?_) (fun h_1_3 => ?_)
  · have hf := hf.1 h_1
    refine R_swIn (tgt := 47) (off := 46) S.1 S.2.1 dX8_told_1 h_1 (by decide) (by decide) ?_
    refine lv_aload_n S.1 S.2.1 dX8_told_47 rfl (lv_at hl 0 rfl) ?_
    refine R_cVi (As := []) (rest := []) S (c_X8_wordsOfAll (h12 := h12)  hf) gX8_told_X8_wordsOfAll rfl yk_X8_wordsOfAll ⟨⟨Nat.le_of_ble_eq_true rfl, Nat.le_of_ble_eq_true rfl⟩, rfl, rfl⟩ hK hP hD hS hX hA (h12 0 (by decide)) (cF_m E _ _ 0) rfl rfl hl.1 rfl (Nat.le_of_ble_eq_true rfl) ⟨Nat.zero_le _, Nat.zero_le _⟩ dX8_told_48 (fun v_13 I_11 J_12 H locs hf hP hD hS => ?_)
    exact hret hf rfl hP hD hS dX8_told_51
  have hf := hf.2 h_1_3
  refine lv_tableOut (tgt := 52) S.1 S.2.1 dX8_told_1 (by have q0 := ne_I (z := 8) h_1_0 (by decide); have q1 := ne_I (z := 9) h_1_1 (by decide); have q2 := ne_I (z := 10) h_1_2 (by decide); have q3 := ne_I (z := 11) h_1_3 (by decide); omega) (by decide) ?_
  refine lv_aload_n S.1 S.2.1 dX8_told_52 rfl (lv_at hl 0 rfl) ?_
  refine gfX8_8 S iX8 hK hP (h12 0 (by decide)) k1 dX8_told_53 ?_
  refine lv_iload_n S.1 S.2.1 dX8_told_56 rfl (lv_at hl 1 rfl) ?_
  obtain ⟨h_14, hf⟩ := hf
  refine R_iald S.1 S.2.1 hK hP (h12 2 (by decide)) (IAm2 E) h_14 dX8_told_57 ?_
  exact hret hf rfl hP hD hS dX8_told_58
abbrev rmX8_state : Room := { frames := 8, cells := 0, slots := 0, locals := 175 }
theorem yk_X8_state : yOk yX8_state RX8 1 := by unfold yOk; decide +kernel
def f_X8_state_J21 (Q : Int32 → MI → MJ → Prop) (x1_6 : Int32) (s_7 : Int32) (I_8 : MI) (J_9 : MJ) : Prop :=
  f_X8_fails s_7 (1 : Int32) I_8 J_9 (fun (v_12 : Int32) (I_10 : MI) (J_11 : MJ) => ((v_12 = (0 : Int32) → f_X8_told x1_6 I_10 J_11 (fun (v_16 : Int32) (I_14 : MI) (J_15 : MJ) => Q v_16 I_14 J_15)) ∧ (¬ v_12 = (0 : Int32) → Q (0 : Int32) I_10 J_11)))
def f_X8_state (x1 : Int32) (I : MI) (J : MJ) (Q : Int32 → MI → MJ → Prop) : Prop :=
  ∀ I_1 : MI, I_1 = sI I 12 0 0 (0 : Int32) → f_X8_in x1 (0 : Int32) (11 : Int32) I_1 J (fun (v_4 : Int32) (I_2 : MI) (J_3 : MJ) => ((v_4 = (0 : Int32) → f_X8_state_J21 Q x1 (1 : Int32) I_2 J_3) ∧ (¬ v_4 = (0 : Int32) → f_X8_state_J21 Q x1 (0 : Int32) I_2 J_3)))
set_option maxRecDepth 100000 in
set_option maxHeartbeats 4000000 in
theorem c_X8_state {l : Launch} {E : EV} {ps : List (Nat × Nat)} (h12 : ∀ r, r < 17 → (12, r) ∈ ps) {x1 : Int32} {I : MI} {J : MJ} {Q : Int32 → MI → MJ → Prop} (hf : f_X8_state x1 I J Q) : KI l yX8_state wsX8_state rmX8_state E ps [.ref (eA E 12 0), .int x1] I J Q := by
  refine K_ofI (cc := cX8_state) (maxL := 2) (ty := .int) (by decide +kernel) rfl (Nat.le_of_ble_eq_true rfl) (fun p e s m args below meth c Qm hret S hK hX => ?_)
  have hA : ∀ q, s.heap.size ≤ q → AA E ps s.heap.size q := fun _ h => Or.inr h
  have k1 := S.2.2.2.2 (.fieldLink RX8 49 "RhymeRoofsModel" "thrown" "I") (by decide +kernel)
  have iX8 : ∀ w ∈ wsX80, w ∈ wsX8_state := fun _ h => List.mem_cons_of_mem _ (List.mem_append_right _ h)
  have jn21 : ∀ (x1_6 : Int32) (s_7 : Int32) (I_8 : MI) (J_9 : MJ), f_X8_state_J21 Q x1_6 s_7 I_8 J_9 → Wj p l e (rmX8_state) s m args below meth c Qm E ps 2 I_8 J_9 21 [(0, .ref (eA E 12 0)), (1, .int x1_6)] [.int s_7, .ref (eA E 12 0)] := by
    intro x1_6 s_7 I_8 J_9 hf H locs ls hP hD hS hl
    unfold f_X8_state_J21 at hf
    refine lv_iconst (v := 1) S.1 S.2.1 dX8_state_21 rfl ?_
    refine R_cVi (As := [.int s_7, .int (1 : Int32)]) (rest := []) S (c_X8_fails (h12 := h12)  hf) gX8_state_X8_fails rfl yk_X8_fails ⟨⟨Nat.le_of_ble_eq_true rfl, Nat.le_of_ble_eq_true rfl⟩, rfl, rfl⟩ hK hP hD hS hX hA (h12 0 (by decide)) (cF_m E _ _ 0) rfl rfl hl.1 rfl (Nat.le_of_ble_eq_true rfl) ⟨Nat.zero_le _, Nat.zero_le _⟩ dX8_state_22 (fun v_12 I_10 J_11 H locs hf hP hD hS => ?_)
    refine lv_if_eq (tgt := 32) S.1 S.2.1 dX8_state_25 (by decide) (fun h_13 => ?_) (fun h_13 => ?_)
    · have hf := hf.1 h_13
      refine lv_aload_n S.1 S.2.1 dX8_state_32 rfl (lv_at hl 0 rfl) ?_
      refine lv_iload_n S.1 S.2.1 dX8_state_33 rfl (lv_at hl 1 rfl) ?_
      refine R_cVi (As := [.int x1_6]) (rest := []) S (c_X8_told (h12 := h12)  hf) gX8_state_X8_told rfl yk_X8_told ⟨⟨Nat.le_of_ble_eq_true rfl, Nat.le_of_ble_eq_true rfl⟩, rfl, rfl⟩ hK hP hD hS hX hA (h12 0 (by decide)) (cF_m E _ _ 0) rfl rfl hl.1 rfl (Nat.le_of_ble_eq_true rfl) ⟨Nat.zero_le _, Nat.zero_le _⟩ dX8_state_34 (fun v_16 I_14 J_15 H locs hf hP hD hS => ?_)
      exact hret hf rfl hP hD hS dX8_state_37
    · have hf := hf.2 h_13
      refine lv_iconst (v := 0) S.1 S.2.1 dX8_state_28 rfl ?_
      refine lv_goto (tgt := 37) S.1 S.2.1 dX8_state_29 (by decide) ?_
      exact hret hf rfl hP hD hS dX8_state_37
  intro H locs ls hP hD hS hl
  unfold f_X8_state at hf
  refine lv_aload_n S.1 S.2.1 dX8_state_0 rfl (lv_at hl 0 rfl) ?_
  refine lv_iconst (v := 0) S.1 S.2.1 dX8_state_1 rfl ?_
  refine nm_o hf (fun I_1 eI_1 hf => ?_)
  refine pfX8_0 S iX8 hK hP hD hS (h12 0 (by decide)) k1 dX8_state_2 eI_1 (fun H locs hP hD hS => ?_)
  refine lv_aload_n S.1 S.2.1 dX8_state_5 rfl (lv_at hl 0 rfl) ?_
  refine lv_iload_n S.1 S.2.1 dX8_state_6 rfl (lv_at hl 1 rfl) ?_
  refine lv_iconst (v := 0) S.1 S.2.1 dX8_state_7 rfl ?_
  refine lv_bipush (v := 11) S.1 S.2.1 dX8_state_8 rfl ?_
  refine R_cSi (As := [.int x1, .int (0 : Int32), .int (11 : Int32)]) (rest := [.ref (eA E 12 0)]) S (c_X8_in   hf) gX8_state_X8_in rfl yk_X8_in ⟨⟨Nat.le_of_ble_eq_true rfl, Nat.le_of_ble_eq_true rfl⟩, rfl, rfl⟩ hK hP hD hS hX hA rfl hl.1 rfl (Nat.le_of_ble_eq_true rfl) ⟨Nat.zero_le _, Nat.zero_le _⟩ dX8_state_10 (fun v_4 I_2 J_3 H locs hf hP hD hS => ?_)
  refine lv_if_ne (tgt := 20) S.1 S.2.1 dX8_state_13 (by decide) (fun h_5 => ?_) (fun h_5 => ?_)
  · have hf := hf.2 h_5
    refine lv_iconst (v := 0) S.1 S.2.1 dX8_state_20 rfl ?_
    exact jn21 _ _ _ _ hf _ _ _ hP hD hS (lv_sub hl [0, 1] rfl)
  · have hf := hf.1 h_5
    refine lv_iconst (v := 1) S.1 S.2.1 dX8_state_16 rfl ?_
    refine lv_goto (tgt := 21) S.1 S.2.1 dX8_state_17 (by decide) ?_
    exact jn21 _ _ _ _ hf _ _ _ hP hD hS (lv_sub hl [0, 1] rfl)
