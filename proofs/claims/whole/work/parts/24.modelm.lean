abbrev rmX8_bestPlay : Room := { frames := 8, cells := 0, slots := 0, locals := 183 }
theorem yk_X8_bestPlay : yOk yX8_bestPlay RX8 0 := by unfold yOk; decide +kernel
def f_X8_bestPlay_J64 (K81 : Int32 → Int32 → MI → MJ → Prop) (rec17 : Int32 → Int32 → Int32 → MI → MJ → Prop) (x3_12 : Int32) (x4_26 : Int32) (x5_27 : Int32) (I_28 : MI) (J_29 : MJ) : Prop :=
  ∀ x1_30 : Int32, x1_30 = (((10 : Int32) * x3_12) + x4_26) → ∀ x4_31 : Int32, x4_31 = x4_26 + (1 : Int32) → rec17 x1_30 x5_27 x4_31 I_28 J_29
def f_X8_bestPlay_B17 (x3_12 : Int32) (K81 : Int32 → Int32 → MI → MJ → Prop) (rec17 : Int32 → Int32 → Int32 → MI → MJ → Prop) (x1_10 : Int32) (x2_11 : Int32) (x4_13 : Int32) (I_14 : MI) (J_15 : MJ) : Prop :=
  (vp_in (0 : Int32) 1802 ∧ (((I_14 12 2 (0 : Int32).toNatClampNeg) ≤ x4_13 → K81 x1_10 x2_11 I_14 J_15) ∧ (¬ (I_14 12 2 (0 : Int32).toNatClampNeg) ≤ x4_13 → f_X8_refusal x3_12 x4_13 I_14 J_15 (fun (v_20 : Int32) (I_18 : MI) (J_19 : MJ) => ((v_20 = (0 : Int32) → f_X8_rankOf x3_12 x4_13 I_18 J_19 (fun (v_24 : Int32) (I_22 : MI) (J_23 : MJ) => ((x1_10 = (-1 : Int32) → f_X8_bestPlay_J64 K81 rec17 x3_12 x4_13 v_24 I_22 J_23) ∧ (¬ x1_10 = (-1 : Int32) → ((x2_11 < v_24 → f_X8_bestPlay_J64 K81 rec17 x3_12 x4_13 v_24 I_22 J_23) ∧ (¬ x2_11 < v_24 → ∀ x4_33 : Int32, x4_33 = x4_13 + (1 : Int32) → rec17 x1_10 x2_11 x4_33 I_22 J_23)))))) ∧ (¬ v_20 = (0 : Int32) → ∀ x4_34 : Int32, x4_34 = x4_13 + (1 : Int32) → rec17 x1_10 x2_11 x4_34 I_18 J_19))))))
def f_X8_bestPlay_L17 (x3_12 : Int32) (K81 : Int32 → Int32 → MI → MJ → Prop) : Nat → Int32 → Int32 → Int32 → MI → MJ → Prop
  | 0, _, _, _, _, _ => False
  | n + 1, x1_10, x2_11, x4_13, I_14, J_15 => f_X8_bestPlay_B17 x3_12 K81 (f_X8_bestPlay_L17 x3_12 K81 n) x1_10 x2_11 x4_13 I_14 J_15
def f_X8_bestPlay_B6 (K87 : Int32 → MI → MJ → Prop) (rec6 : Int32 → Int32 → Int32 → MI → MJ → Prop) (x1_1 : Int32) (x2_2 : Int32) (x3_3 : Int32) (I_4 : MI) (J_5 : MJ) : Prop :=
  f_X8_handNow I_4 J_5 (fun (v_8 : Int32) (I_6 : MI) (J_7 : MJ) => ((v_8 ≤ x3_3 → K87 x1_1 I_6 J_7) ∧ (¬ v_8 ≤ x3_3 → ∃ n : Nat, f_X8_bestPlay_L17 x3_3 (fun (x1_35 : Int32) (x2_36 : Int32) (I_37 : MI) (J_38 : MJ) => ∀ x3_39 : Int32, x3_39 = x3_3 + (1 : Int32) → rec6 x1_35 x2_36 x3_39 I_37 J_38) n x1_1 x2_2 (0 : Int32) I_6 J_7)))
def f_X8_bestPlay_L6 (K87 : Int32 → MI → MJ → Prop) : Nat → Int32 → Int32 → Int32 → MI → MJ → Prop
  | 0, _, _, _, _, _ => False
  | n + 1, x1_1, x2_2, x3_3, I_4, J_5 => f_X8_bestPlay_B6 K87 (f_X8_bestPlay_L6 K87 n) x1_1 x2_2 x3_3 I_4 J_5
def f_X8_bestPlay (I : MI) (J : MJ) (Q : Int32 → MI → MJ → Prop) : Prop :=
  ∃ n : Nat, f_X8_bestPlay_L6 (fun (x1_41 : Int32) (I_42 : MI) (J_43 : MJ) => Q x1_41 I_42 J_43) n (-1 : Int32) (0 : Int32) (0 : Int32) I J
set_option maxRecDepth 100000 in
set_option maxHeartbeats 4000000 in
theorem c_X8_bestPlay {l : Launch} {E : EV} {ps : List (Nat × Nat)} (h12 : ∀ r, r < 17 → (12, r) ∈ ps) {I : MI} {J : MJ} {Q : Int32 → MI → MJ → Prop} (hf : f_X8_bestPlay I J Q) : KI l yX8_bestPlay wsX8_bestPlay rmX8_bestPlay E ps [.ref (eA E 12 0)] I J Q := by
  refine K_ofI (cc := cX8_bestPlay) (maxL := 6) (ty := .int) (by decide +kernel) rfl (Nat.le_of_ble_eq_true rfl) (fun p e s m args below meth c Qm hret S hK hX => ?_)
  have hA : ∀ q, s.heap.size ≤ q → AA E ps s.heap.size q := fun _ h => Or.inr h
  have k1 := S.2.2.2.2 (.fieldLink RX8 17 "RhymeRoofsModel" "data" "[I") (by decide +kernel)
  have iX8 : ∀ w ∈ wsX80, w ∈ wsX8_bestPlay := fun _ h => List.mem_cons_of_mem _ (List.mem_append_right _ h)
  intro H locs ls hP hD hS hl
  unfold f_X8_bestPlay at hf
  refine lv_iconst (v := (-1)) S.1 S.2.1 dX8_bestPlay_0 rfl ?_
  refine lv_istore_n (lv' := [(1, .int (-1 : Int32)), (0, .ref (eA E 12 0))]) S.1 S.2.1 dX8_bestPlay_1 rfl hl (by decide) rfl (fun ls hl => ?_)
  refine lv_iconst (v := 0) S.1 S.2.1 dX8_bestPlay_2 rfl ?_
  refine lv_istore_n (lv' := [(2, .int (0 : Int32)), (1, .int (-1 : Int32)), (0, .ref (eA E 12 0))]) S.1 S.2.1 dX8_bestPlay_3 rfl hl (by decide) rfl (fun ls hl => ?_)
  refine lv_iconst (v := 0) S.1 S.2.1 dX8_bestPlay_4 rfl ?_
  refine lv_istore_n (lv' := [(3, .int (0 : Int32)), (2, .int (0 : Int32)), (1, .int (-1 : Int32)), (0, .ref (eA E 12 0))]) S.1 S.2.1 dX8_bestPlay_5 rfl hl (by decide) rfl (fun ls hl => ?_)
  obtain ⟨n_44, hf⟩ := hf
  have L6 : ∀ (K87 : Int32 → MI → MJ → Prop), (∀ (x1_41 : Int32) (I_42 : MI) (J_43 : MJ), K87 x1_41 I_42 J_43 → Wj p l e (rmX8_bestPlay) s m args below meth c Qm E ps 6 I_42 J_43 87 [(1, .int x1_41)] []) → ∀ (n : Nat) (x1_1 : Int32) (x2_2 : Int32) (x3_3 : Int32) (I_4 : MI) (J_5 : MJ), f_X8_bestPlay_L6 K87 n x1_1 x2_2 x3_3 I_4 J_5 → Wj p l e (rmX8_bestPlay) s m args below meth c Qm E ps 6 I_4 J_5 6 [(0, .ref (eA E 12 0)), (1, .int x1_1), (2, .int x2_2), (3, .int x3_3)] [] := by
    intro K87 kx87 n
    induction n with
    | zero => intro x1_1 x2_2 x3_3 I_4 J_5 hf; exact hf.elim
    | succ n ih6 =>
      intro x1_1 x2_2 x3_3 I_4 J_5 hf
      have hf : f_X8_bestPlay_B6 K87 (f_X8_bestPlay_L6 K87 n) x1_1 x2_2 x3_3 I_4 J_5 := hf
      intro H locs ls hP hD hS hl
      unfold f_X8_bestPlay_B6 at hf
      refine lv_iload_n S.1 S.2.1 dX8_bestPlay_6 rfl (lv_at hl 3 rfl) ?_
      refine lv_aload_n S.1 S.2.1 dX8_bestPlay_7 rfl (lv_at hl 0 rfl) ?_
      refine R_cVi (As := []) (rest := [.int x3_3]) S (c_X8_handNow (h12 := h12)  hf) gX8_bestPlay_X8_handNow rfl yk_X8_handNow ⟨⟨Nat.le_of_ble_eq_true rfl, Nat.le_of_ble_eq_true rfl⟩, rfl, rfl⟩ hK hP hD hS hX hA (h12 0 (by decide)) (cF_m E _ _ 0) rfl rfl hl.1 rfl (Nat.le_of_ble_eq_true rfl) ⟨Nat.zero_le _, Nat.zero_le _⟩ dX8_bestPlay_8 (fun v_8 I_6 J_7 H locs hf hP hD hS => ?_)
      refine lv_icmp_ge (tgt := 87) S.1 S.2.1 dX8_bestPlay_11 (by decide) (fun h_9 => ?_) (fun h_9 => ?_)
      · have hf := hf.1 h_9
        exact kx87 _ _ _ hf _ _ _ hP hD hS (lv_sub hl [1] rfl)
      · have hf := hf.2 h_9
        refine lv_iconst (v := 0) S.1 S.2.1 dX8_bestPlay_14 rfl ?_
        refine lv_istore (lv' := [(4, .int (0 : Int32)), (0, .ref (eA E 12 0)), (1, .int x1_1), (2, .int x2_2), (3, .int x3_3)]) S.1 S.2.1 dX8_bestPlay_15 hl (by decide) rfl (fun ls hl => ?_)
        obtain ⟨n_40, hf⟩ := hf
        have L17 : ∀ (x3_12 : Int32), ∀ (K81 : Int32 → Int32 → MI → MJ → Prop), (∀ (x1_35 : Int32) (x2_36 : Int32) (I_37 : MI) (J_38 : MJ), K81 x1_35 x2_36 I_37 J_38 → Wj p l e (rmX8_bestPlay) s m args below meth c Qm E ps 6 I_37 J_38 81 [(0, .ref (eA E 12 0)), (1, .int x1_35), (2, .int x2_36), (3, .int x3_12)] []) → ∀ (n : Nat) (x1_10 : Int32) (x2_11 : Int32) (x4_13 : Int32) (I_14 : MI) (J_15 : MJ), f_X8_bestPlay_L17 x3_12 K81 n x1_10 x2_11 x4_13 I_14 J_15 → Wj p l e (rmX8_bestPlay) s m args below meth c Qm E ps 6 I_14 J_15 17 [(0, .ref (eA E 12 0)), (1, .int x1_10), (2, .int x2_11), (3, .int x3_12), (4, .int x4_13)] [] := by
          intro x3_12 K81 kx81 n
          induction n with
          | zero => intro x1_10 x2_11 x4_13 I_14 J_15 hf; exact hf.elim
          | succ n ih17 =>
            intro x1_10 x2_11 x4_13 I_14 J_15 hf
            have hf : f_X8_bestPlay_B17 x3_12 K81 (f_X8_bestPlay_L17 x3_12 K81 n) x1_10 x2_11 x4_13 I_14 J_15 := hf
            have jn64 : ∀ (x4_26 : Int32) (x5_27 : Int32) (I_28 : MI) (J_29 : MJ), f_X8_bestPlay_J64 K81 (f_X8_bestPlay_L17 x3_12 K81 n) x3_12 x4_26 x5_27 I_28 J_29 → Wj p l e (rmX8_bestPlay) s m args below meth c Qm E ps 6 I_28 J_29 64 [(0, .ref (eA E 12 0)), (3, .int x3_12), (4, .int x4_26), (5, .int x5_27)] [] := by
              intro x4_26 x5_27 I_28 J_29 hf H locs ls hP hD hS hl
              unfold f_X8_bestPlay_J64 at hf
              refine lv_bipush (v := 10) S.1 S.2.1 dX8_bestPlay_64 rfl ?_
              refine lv_iload_n S.1 S.2.1 dX8_bestPlay_66 rfl (lv_at hl 1 rfl) ?_
              refine lv_imul S.1 S.2.1 dX8_bestPlay_67 ?_
              refine lv_iload S.1 S.2.1 dX8_bestPlay_68 (lv_at hl 2 rfl) ?_
              refine lv_iadd S.1 S.2.1 dX8_bestPlay_70 ?_
              refine lv_topi (fun x1_30 ex1_30 => ?_)
              have hf := hf x1_30 ex1_30
              refine lv_istore_n (lv' := [(1, .int x1_30), (0, .ref (eA E 12 0)), (3, .int x3_12), (4, .int x4_26), (5, .int x5_27)]) S.1 S.2.1 dX8_bestPlay_71 rfl hl (by decide) rfl (fun ls hl => ?_)
              refine lv_iload S.1 S.2.1 dX8_bestPlay_72 (lv_at hl 4 rfl) ?_
              refine lv_istore_n (lv' := [(2, .int x5_27), (1, .int x1_30), (0, .ref (eA E 12 0)), (3, .int x3_12), (4, .int x4_26), (5, .int x5_27)]) S.1 S.2.1 dX8_bestPlay_74 rfl hl (by decide) rfl (fun ls hl => ?_)
              refine nm_o hf (fun x4_31 ex4_31 hf => ?_)
              refine lv_iinc (v := x4_31) (lv' := [(4, .int x4_31), (2, .int x5_27), (1, .int x1_30), (0, .ref (eA E 12 0)), (3, .int x3_12), (5, .int x5_27)]) S.1 S.2.1 dX8_bestPlay_75 hl (k := 4) rfl (by rw [ex4_31]; rfl) (by decide) rfl (fun ls hl => ?_)
              refine lv_goto (tgt := 17) S.1 S.2.1 dX8_bestPlay_78 (by decide) ?_
              exact ih17 _ _ _ _ _ hf _ _ _ hP hD hS (lv_sub hl [3, 2, 1, 4, 0] rfl)
            intro H locs ls hP hD hS hl
            unfold f_X8_bestPlay_B17 at hf
            refine lv_iload S.1 S.2.1 dX8_bestPlay_17 (lv_at hl 4 rfl) ?_
            refine lv_aload_n S.1 S.2.1 dX8_bestPlay_19 rfl (lv_at hl 0 rfl) ?_
            refine gfX8_8 S iX8 hK hP (h12 0 (by decide)) k1 dX8_bestPlay_20 ?_
            refine lv_iconst (v := 0) S.1 S.2.1 dX8_bestPlay_23 rfl ?_
            obtain ⟨h_16, hf⟩ := hf
            refine R_iald S.1 S.2.1 hK hP (h12 2 (by decide)) (IAm2 E) h_16 dX8_bestPlay_24 ?_
            refine lv_icmp_ge (tgt := 81) S.1 S.2.1 dX8_bestPlay_25 (by decide) (fun h_17 => ?_) (fun h_17 => ?_)
            · have hf := hf.1 h_17
              exact kx81 _ _ _ _ hf _ _ _ hP hD hS (lv_sub hl [0, 1, 2, 3] rfl)
            · have hf := hf.2 h_17
              refine lv_aload_n S.1 S.2.1 dX8_bestPlay_28 rfl (lv_at hl 0 rfl) ?_
              refine lv_iload_n S.1 S.2.1 dX8_bestPlay_29 rfl (lv_at hl 3 rfl) ?_
              refine lv_iload S.1 S.2.1 dX8_bestPlay_30 (lv_at hl 4 rfl) ?_
              refine R_cVi (As := [.int x3_12, .int x4_13]) (rest := []) S (c_X8_refusal (h12 := h12)  hf) gX8_bestPlay_X8_refusal rfl yk_X8_refusal ⟨⟨Nat.le_of_ble_eq_true rfl, Nat.le_of_ble_eq_true rfl⟩, rfl, rfl⟩ hK hP hD hS hX hA (h12 0 (by decide)) (cF_m E _ _ 0) rfl rfl hl.1 rfl (Nat.le_of_ble_eq_true rfl) ⟨Nat.zero_le _, Nat.zero_le _⟩ dX8_bestPlay_32 (fun v_20 I_18 J_19 H locs hf hP hD hS => ?_)
              refine lv_if_eq (tgt := 41) S.1 S.2.1 dX8_bestPlay_35 (by decide) (fun h_21 => ?_) (fun h_21 => ?_)
              · have hf := hf.1 h_21
                refine lv_aload_n S.1 S.2.1 dX8_bestPlay_41 rfl (lv_at hl 0 rfl) ?_
                refine lv_iload_n S.1 S.2.1 dX8_bestPlay_42 rfl (lv_at hl 3 rfl) ?_
                refine lv_iload S.1 S.2.1 dX8_bestPlay_43 (lv_at hl 4 rfl) ?_
                refine R_cVi (As := [.int x3_12, .int x4_13]) (rest := []) S (c_X8_rankOf (h12 := h12)  hf) gX8_bestPlay_X8_rankOf rfl yk_X8_rankOf ⟨⟨Nat.le_of_ble_eq_true rfl, Nat.le_of_ble_eq_true rfl⟩, rfl, rfl⟩ hK hP hD hS hX hA (h12 0 (by decide)) (cF_m E _ _ 0) rfl rfl hl.1 rfl (Nat.le_of_ble_eq_true rfl) ⟨Nat.zero_le _, Nat.zero_le _⟩ dX8_bestPlay_45 (fun v_24 I_22 J_23 H locs hf hP hD hS => ?_)
                refine lv_istore (lv' := [(5, .int v_24), (0, .ref (eA E 12 0)), (1, .int x1_10), (2, .int x2_11), (3, .int x3_12), (4, .int x4_13)]) S.1 S.2.1 dX8_bestPlay_48 hl (by decide) rfl (fun ls hl => ?_)
                refine lv_iload_n S.1 S.2.1 dX8_bestPlay_50 rfl (lv_at hl 2 rfl) ?_
                refine lv_iconst (v := (-1)) S.1 S.2.1 dX8_bestPlay_51 rfl ?_
                refine lv_icmp_eq (tgt := 64) S.1 S.2.1 dX8_bestPlay_52 (by decide) (fun h_25 => ?_) (fun h_25 => ?_)
                · have hf := hf.1 h_25
                  exact jn64 _ _ _ _ hf _ _ _ hP hD hS (lv_sub hl [1, 4, 5, 0] rfl)
                · have hf := hf.2 h_25
                  refine lv_iload S.1 S.2.1 dX8_bestPlay_55 (lv_at hl 0 rfl) ?_
                  refine lv_iload_n S.1 S.2.1 dX8_bestPlay_57 rfl (lv_at hl 3 rfl) ?_
                  refine lv_icmp_gt (tgt := 64) S.1 S.2.1 dX8_bestPlay_58 (by decide) (fun h_32 => ?_) (fun h_32 => ?_)
                  · have hf := hf.1 h_32
                    exact jn64 _ _ _ _ hf _ _ _ hP hD hS (lv_sub hl [1, 4, 5, 0] rfl)
                  · have hf := hf.2 h_32
                    refine lv_goto (tgt := 75) S.1 S.2.1 dX8_bestPlay_61 (by decide) ?_
                    refine nm_o hf (fun x4_33 ex4_33 hf => ?_)
                    refine lv_iinc (v := x4_33) (lv' := [(4, .int x4_33), (5, .int v_24), (0, .ref (eA E 12 0)), (1, .int x1_10), (2, .int x2_11), (3, .int x3_12)]) S.1 S.2.1 dX8_bestPlay_75 hl (k := 5) rfl (by rw [ex4_33]; rfl) (by decide) rfl (fun ls hl => ?_)
                    refine lv_goto (tgt := 17) S.1 S.2.1 dX8_bestPlay_78 (by decide) ?_
                    exact ih17 _ _ _ _ _ hf _ _ _ hP hD hS (lv_sub hl [2, 3, 4, 5, 0] rfl)
              · have hf := hf.2 h_21
                refine lv_goto (tgt := 75) S.1 S.2.1 dX8_bestPlay_38 (by decide) ?_
                refine nm_o hf (fun x4_34 ex4_34 hf => ?_)
                refine lv_iinc (v := x4_34) (lv' := [(4, .int x4_34), (0, .ref (eA E 12 0)), (1, .int x1_10), (2, .int x2_11), (3, .int x3_12)]) S.1 S.2.1 dX8_bestPlay_75 hl (k := 4) rfl (by rw [ex4_34]; rfl) (by decide) rfl (fun ls hl => ?_)
                refine lv_goto (tgt := 17) S.1 S.2.1 dX8_bestPlay_78 (by decide) ?_
                exact ih17 _ _ _ _ _ hf _ _ _ hP hD hS (lv_sub hl [1, 2, 3, 4, 0] rfl)
        refine L17 _ _ (fun x1_35 x2_36 I_37 J_38 hf H locs ls hP hD hS hl => ?_)  n_40 _ _ _ _ _ hf _ _ _ hP hD hS (lv_sub hl [1, 2, 3, 4, 0] rfl)
        refine nm_o hf (fun x3_39 ex3_39 hf => ?_)
        refine lv_iinc (v := x3_39) (lv' := [(3, .int x3_39), (0, .ref (eA E 12 0)), (1, .int x1_35), (2, .int x2_36)]) S.1 S.2.1 dX8_bestPlay_81 hl (k := 3) rfl (by rw [ex3_39]; rfl) (by decide) rfl (fun ls hl => ?_)
        refine lv_goto (tgt := 6) S.1 S.2.1 dX8_bestPlay_84 (by decide) ?_
        exact ih6 _ _ _ _ _ hf _ _ _ hP hD hS (lv_sub hl [1, 2, 3, 0] rfl)
  refine L6 _ (fun x1_41 I_42 J_43 hf H locs ls hP hD hS hl => ?_)  n_44 _ _ _ _ _ hf _ _ _ hP hD hS (lv_sub hl [3, 2, 1, 0] rfl)
  refine lv_iload_n S.1 S.2.1 dX8_bestPlay_87 rfl (lv_at hl 0 rfl) ?_
  exact hret hf rfl hP hD hS dX8_bestPlay_88
abbrev rmX8_wordsOfAll : Room := { frames := 2, cells := 0, slots := 0, locals := 42 }
theorem yk_X8_wordsOfAll : yOk yX8_wordsOfAll RX8 0 := by unfold yOk; decide +kernel
def f_X8_wordsOfAll_B4 (K29 : Int32 → MI → MJ → Prop) (rec4 : Int32 → Int32 → MI → MJ → Prop) (x1_1 : Int32) (x2_2 : Int32) (I_3 : MI) (J_4 : MJ) : Prop :=
  (vp_in (1 : Int32) 1802 ∧ (((I_3 12 2 (1 : Int32).toNatClampNeg) ≤ x2_2 → K29 x1_1 I_3 J_4) ∧ (¬ (I_3 12 2 (1 : Int32).toNatClampNeg) ≤ x2_2 → f_X8_ofPlayer x2_2 (1 : Int32) I_3 J_4 (fun (v_9 : Int32) (I_7 : MI) (J_8 : MJ) => ∀ x1_10 : Int32, x1_10 = (x1_1 + v_9) → ∀ x2_11 : Int32, x2_11 = x2_2 + (1 : Int32) → rec4 x1_10 x2_11 I_7 J_8))))
def f_X8_wordsOfAll_L4 (K29 : Int32 → MI → MJ → Prop) : Nat → Int32 → Int32 → MI → MJ → Prop
  | 0, _, _, _, _ => False
  | n + 1, x1_1, x2_2, I_3, J_4 => f_X8_wordsOfAll_B4 K29 (f_X8_wordsOfAll_L4 K29 n) x1_1 x2_2 I_3 J_4
def f_X8_wordsOfAll (I : MI) (J : MJ) (Q : Int32 → MI → MJ → Prop) : Prop :=
  ∃ n : Nat, f_X8_wordsOfAll_L4 (fun (x1_12 : Int32) (I_13 : MI) (J_14 : MJ) => Q x1_12 I_13 J_14) n (0 : Int32) (0 : Int32) I J
set_option maxRecDepth 100000 in
set_option maxHeartbeats 4000000 in
theorem c_X8_wordsOfAll {l : Launch} {E : EV} {ps : List (Nat × Nat)} (h12 : ∀ r, r < 17 → (12, r) ∈ ps) {I : MI} {J : MJ} {Q : Int32 → MI → MJ → Prop} (hf : f_X8_wordsOfAll I J Q) : KI l yX8_wordsOfAll wsX8_wordsOfAll rmX8_wordsOfAll E ps [.ref (eA E 12 0)] I J Q := by
  refine K_ofI (cc := cX8_wordsOfAll) (maxL := 3) (ty := .int) (by decide +kernel) rfl (Nat.le_of_ble_eq_true rfl) (fun p e s m args below meth c Qm hret S hK hX => ?_)
  have hA : ∀ q, s.heap.size ≤ q → AA E ps s.heap.size q := fun _ h => Or.inr h
  have k1 := S.2.2.2.2 (.fieldLink RX8 17 "RhymeRoofsModel" "data" "[I") (by decide +kernel)
  have iX8 : ∀ w ∈ wsX80, w ∈ wsX8_wordsOfAll := fun _ h => List.mem_cons_of_mem _ (List.mem_append_right _ h)
  intro H locs ls hP hD hS hl
  unfold f_X8_wordsOfAll at hf
  refine lv_iconst (v := 0) S.1 S.2.1 dX8_wordsOfAll_0 rfl ?_
  refine lv_istore_n (lv' := [(1, .int (0 : Int32)), (0, .ref (eA E 12 0))]) S.1 S.2.1 dX8_wordsOfAll_1 rfl hl (by decide) rfl (fun ls hl => ?_)
  refine lv_iconst (v := 0) S.1 S.2.1 dX8_wordsOfAll_2 rfl ?_
  refine lv_istore_n (lv' := [(2, .int (0 : Int32)), (1, .int (0 : Int32)), (0, .ref (eA E 12 0))]) S.1 S.2.1 dX8_wordsOfAll_3 rfl hl (by decide) rfl (fun ls hl => ?_)
  obtain ⟨n_15, hf⟩ := hf
  have L4 : ∀ (K29 : Int32 → MI → MJ → Prop), (∀ (x1_12 : Int32) (I_13 : MI) (J_14 : MJ), K29 x1_12 I_13 J_14 → Wj p l e (rmX8_wordsOfAll) s m args below meth c Qm E ps 3 I_13 J_14 29 [(1, .int x1_12)] []) → ∀ (n : Nat) (x1_1 : Int32) (x2_2 : Int32) (I_3 : MI) (J_4 : MJ), f_X8_wordsOfAll_L4 K29 n x1_1 x2_2 I_3 J_4 → Wj p l e (rmX8_wordsOfAll) s m args below meth c Qm E ps 3 I_3 J_4 4 [(0, .ref (eA E 12 0)), (1, .int x1_1), (2, .int x2_2)] [] := by
    intro K29 kx29 n
    induction n with
    | zero => intro x1_1 x2_2 I_3 J_4 hf; exact hf.elim
    | succ n ih4 =>
      intro x1_1 x2_2 I_3 J_4 hf
      have hf : f_X8_wordsOfAll_B4 K29 (f_X8_wordsOfAll_L4 K29 n) x1_1 x2_2 I_3 J_4 := hf
      intro H locs ls hP hD hS hl
      unfold f_X8_wordsOfAll_B4 at hf
      refine lv_iload_n S.1 S.2.1 dX8_wordsOfAll_4 rfl (lv_at hl 2 rfl) ?_
      refine lv_aload_n S.1 S.2.1 dX8_wordsOfAll_5 rfl (lv_at hl 0 rfl) ?_
      refine gfX8_8 S iX8 hK hP (h12 0 (by decide)) k1 dX8_wordsOfAll_6 ?_
      refine lv_iconst (v := 1) S.1 S.2.1 dX8_wordsOfAll_9 rfl ?_
      obtain ⟨h_5, hf⟩ := hf
      refine R_iald S.1 S.2.1 hK hP (h12 2 (by decide)) (IAm2 E) h_5 dX8_wordsOfAll_10 ?_
      refine lv_icmp_ge (tgt := 29) S.1 S.2.1 dX8_wordsOfAll_11 (by decide) (fun h_6 => ?_) (fun h_6 => ?_)
      · have hf := hf.1 h_6
        exact kx29 _ _ _ hf _ _ _ hP hD hS (lv_sub hl [1] rfl)
      · have hf := hf.2 h_6
        refine lv_iload_n S.1 S.2.1 dX8_wordsOfAll_14 rfl (lv_at hl 1 rfl) ?_
        refine lv_aload_n S.1 S.2.1 dX8_wordsOfAll_15 rfl (lv_at hl 0 rfl) ?_
        refine lv_iload_n S.1 S.2.1 dX8_wordsOfAll_16 rfl (lv_at hl 2 rfl) ?_
        refine lv_iconst (v := 1) S.1 S.2.1 dX8_wordsOfAll_17 rfl ?_
        refine R_cVi (As := [.int x2_2, .int (1 : Int32)]) (rest := [.int x1_1]) S (c_X8_ofPlayer (h12 := h12)  hf) gX8_wordsOfAll_X8_ofPlayer rfl yk_X8_ofPlayer ⟨⟨Nat.le_of_ble_eq_true rfl, Nat.le_of_ble_eq_true rfl⟩, rfl, rfl⟩ hK hP hD hS hX hA (h12 0 (by decide)) (cF_m E _ _ 0) rfl rfl hl.1 rfl (Nat.le_of_ble_eq_true rfl) ⟨Nat.zero_le _, Nat.zero_le _⟩ dX8_wordsOfAll_18 (fun v_9 I_7 J_8 H locs hf hP hD hS => ?_)
        refine lv_iadd S.1 S.2.1 dX8_wordsOfAll_21 ?_
        refine lv_topi (fun x1_10 ex1_10 => ?_)
        have hf := hf x1_10 ex1_10
        refine lv_istore_n (lv' := [(1, .int x1_10), (0, .ref (eA E 12 0)), (2, .int x2_2)]) S.1 S.2.1 dX8_wordsOfAll_22 rfl hl (by decide) rfl (fun ls hl => ?_)
        refine nm_o hf (fun x2_11 ex2_11 hf => ?_)
        refine lv_iinc (v := x2_11) (lv' := [(2, .int x2_11), (1, .int x1_10), (0, .ref (eA E 12 0))]) S.1 S.2.1 dX8_wordsOfAll_23 hl (k := 2) rfl (by rw [ex2_11]; rfl) (by decide) rfl (fun ls hl => ?_)
        refine lv_goto (tgt := 4) S.1 S.2.1 dX8_wordsOfAll_26 (by decide) ?_
        exact ih4 _ _ _ _ hf _ _ _ hP hD hS (lv_sub hl [2, 1, 0] rfl)
  refine L4 _ (fun x1_12 I_13 J_14 hf H locs ls hP hD hS hl => ?_)  n_15 _ _ _ _ hf _ _ _ hP hD hS (lv_sub hl [2, 1, 0] rfl)
  refine lv_iload_n S.1 S.2.1 dX8_wordsOfAll_29 rfl (lv_at hl 0 rfl) ?_
  exact hret hf rfl hP hD hS dX8_wordsOfAll_30
abbrev rmX8_nextTurn : Room := { frames := 0, cells := 0, slots := 0, locals := 0 }
theorem yk_X8_nextTurn : yOk yX8_nextTurn RX8 0 := by unfold yOk; decide +kernel
def f_X8_nextTurn (I : MI) (J : MJ) (Q : MI → MJ → Prop) : Prop :=
  (vp_in (5 : Int32) 1802 ∧ (vp_in (1 : Int32) 1802 ∧ (¬ (I 12 2 (1 : Int32).toNatClampNeg) = 0 ∧ (vp_in (5 : Int32) 1802 ∧ ∀ I_5 : MI, I_5 = sI I 12 2 (5 : Int32).toNatClampNeg (((I 12 2 (5 : Int32).toNatClampNeg) + (1 : Int32)) - ((I 12 2 (5 : Int32).toNatClampNeg) + (1 : Int32)) / (I 12 2 (1 : Int32).toNatClampNeg) * (I 12 2 (1 : Int32).toNatClampNeg)) → Q I_5 J))))
set_option maxRecDepth 100000 in
set_option maxHeartbeats 4000000 in
theorem c_X8_nextTurn {l : Launch} {E : EV} {ps : List (Nat × Nat)} (h12 : ∀ r, r < 17 → (12, r) ∈ ps) {I : MI} {J : MJ} {Q : MI → MJ → Prop} (hf : f_X8_nextTurn I J Q) : KV l yX8_nextTurn wsX8_nextTurn rmX8_nextTurn E ps [.ref (eA E 12 0)] I J Q := by
  refine K_ofV (cc := cX8_nextTurn) (maxL := 1) (by decide +kernel) rfl (Nat.le_of_ble_eq_true rfl) (fun p e s m args below meth c Qm hret S hK hX => ?_)
  have hA : ∀ q, s.heap.size ≤ q → AA E ps s.heap.size q := fun _ h => Or.inr h
  have k1 := S.2.2.2.2 (.fieldLink RX8 17 "RhymeRoofsModel" "data" "[I") (by decide +kernel)
  have iX8 : ∀ w ∈ wsX80, w ∈ wsX8_nextTurn := fun _ h => List.mem_cons_of_mem _ (List.mem_append_right _ h)
  intro H locs ls hP hD hS hl
  unfold f_X8_nextTurn at hf
  refine lv_aload_n S.1 S.2.1 dX8_nextTurn_0 rfl (lv_at hl 0 rfl) ?_
  refine gfX8_8 S iX8 hK hP (h12 0 (by decide)) k1 dX8_nextTurn_1 ?_
  refine lv_iconst (v := 5) S.1 S.2.1 dX8_nextTurn_4 rfl ?_
  refine lv_aload_n S.1 S.2.1 dX8_nextTurn_5 rfl (lv_at hl 0 rfl) ?_
  refine gfX8_8 S iX8 hK hP (h12 0 (by decide)) k1 dX8_nextTurn_6 ?_
  refine lv_iconst (v := 5) S.1 S.2.1 dX8_nextTurn_9 rfl ?_
  obtain ⟨h_1, hf⟩ := hf
  refine R_iald S.1 S.2.1 hK hP (h12 2 (by decide)) (IAm2 E) h_1 dX8_nextTurn_10 ?_
  refine lv_iconst (v := 1) S.1 S.2.1 dX8_nextTurn_11 rfl ?_
  refine lv_iadd S.1 S.2.1 dX8_nextTurn_12 ?_
  refine lv_aload_n S.1 S.2.1 dX8_nextTurn_13 rfl (lv_at hl 0 rfl) ?_
  refine gfX8_8 S iX8 hK hP (h12 0 (by decide)) k1 dX8_nextTurn_14 ?_
  refine lv_iconst (v := 1) S.1 S.2.1 dX8_nextTurn_17 rfl ?_
  obtain ⟨h_2, hf⟩ := hf
  refine R_iald S.1 S.2.1 hK hP (h12 2 (by decide)) (IAm2 E) h_2 dX8_nextTurn_18 ?_
  obtain ⟨h_3, hf⟩ := hf
  refine lv_irem S.1 S.2.1 dX8_nextTurn_19 h_3 ?_
  obtain ⟨h_4, hf⟩ := hf
  refine nm_o hf (fun I_5 eI_5 hf => ?_)
  refine R_iast S.1 S.2.1 hK hP hD hS (h12 2 (by decide)) (IAm2 E) h_4 dX8_nextTurn_20 eI_5 (fun H locs hP hD hS => ?_)
  exact hret hf hP hD hS dX8_nextTurn_21
