abbrev rmX8_readAlike : Room := { frames := 2, cells := 0, slots := 0, locals := 42 }
theorem yk_X8_readAlike : yOk yX8_readAlike RX8 0 := by unfold yOk; decide +kernel
def f_X8_readAlike_J93 (K116 : MI → MJ → Prop) (rec38 : MI → MJ → Prop) (x1_34 : Int32) (I_35 : MI) (J_36 : MJ) : Prop :=
  (vp_in x1_34 1802 ∧ ∀ I_38 : MI, I_38 = sI I_35 12 3 x1_34.toNatClampNeg (I_35 12 0 17) → ∀ I_39 : MI, I_39 = sI I_38 12 0 4 ((I_38 12 0 4) + (1 : Int32)) → rec38 I_39 J_36)
def f_X8_readAlike_B38 (K116 : MI → MJ → Prop) (rec38 : MI → MJ → Prop) (I_15 : MI) (J_16 : MJ) : Prop :=
  f_X8_isGood I_15 J_16 (fun (v_19 : Int32) (I_17 : MI) (J_18 : MJ) => ((v_19 = (0 : Int32) → K116 I_17 J_18) ∧ (¬ v_19 = (0 : Int32) → f_X8_byteAt (I_17 12 0 4) I_17 J_18 (fun (v_23 : Int32) (I_21 : MI) (J_22 : MJ) => f_X8_isLetter v_23 I_21 J_22 (fun (v_26 : Int32) (I_24 : MI) (J_25 : MJ) => ((v_26 = (0 : Int32) → K116 I_24 J_25) ∧ (¬ v_26 = (0 : Int32) → f_X8_byteAt (I_24 12 0 4) I_24 J_25 (fun (v_30 : Int32) (I_28 : MI) (J_29 : MJ) => ∀ x1_31 : Int32, x1_31 = (((10 : Int32) + v_30) - (97 : Int32)) → (vp_in x1_31 1802 ∧ (((I_28 12 3 x1_31.toNatClampNeg) = (0 : Int32) → f_X8_readAlike_J93 K116 rec38 x1_31 I_28 J_29) ∧ (¬ (I_28 12 3 x1_31.toNatClampNeg) = (0 : Int32) → f_X8_report (-4 : Int32) (I_28 12 0 4) I_28 J_29 (fun (I_40 : MI) (J_41 : MJ) => f_X8_readAlike_J93 K116 rec38 x1_31 I_40 J_41))))))))))))
def f_X8_readAlike_L38 (K116 : MI → MJ → Prop) : Nat → MI → MJ → Prop
  | 0, _, _ => False
  | n + 1, I_15, J_16 => f_X8_readAlike_B38 K116 (f_X8_readAlike_L38 K116 n) I_15 J_16
def f_X8_readAlike_J28 (Q : MI → MJ → Prop) (I_12 : MI) (J_13 : MJ) : Prop :=
  ∀ I_14 : MI, I_14 = sI I_12 12 0 17 ((I_12 12 0 17) + (1 : Int32)) → ∃ n : Nat, f_X8_readAlike_L38 (fun (I_42 : MI) (J_43 : MJ) => Q I_42 J_43) n  I_14 J_13
def f_X8_readAlike (I : MI) (J : MJ) (Q : MI → MJ → Prop) : Prop :=
  f_X8_isGood I J (fun (v_3 : Int32) (I_1 : MI) (J_2 : MJ) => ((v_3 = (0 : Int32) → Q I_1 J_2) ∧ (¬ v_3 = (0 : Int32) → f_X8_ahead I_1 J_2 (fun (v_7 : Int32) (I_5 : MI) (J_6 : MJ) => f_X8_isLetter v_7 I_5 J_6 (fun (v_10 : Int32) (I_8 : MI) (J_9 : MJ) => ((v_10 = (0 : Int32) → f_X8_report (-2 : Int32) (I_8 12 0 4) I_8 J_9 (fun (I_45 : MI) (J_46 : MJ) => f_X8_readAlike_J28 Q I_45 J_46)) ∧ (¬ v_10 = (0 : Int32) → f_X8_readAlike_J28 Q I_8 J_9)))))))
set_option maxRecDepth 100000 in
set_option maxHeartbeats 4000000 in
theorem c_X8_readAlike {l : Launch} {E : EV} {ps : List (Nat × Nat)} (h12 : ∀ r, r < 17 → (12, r) ∈ ps) {I : MI} {J : MJ} {Q : MI → MJ → Prop} (hf : f_X8_readAlike I J Q) : KV l yX8_readAlike wsX8_readAlike rmX8_readAlike E ps [.ref (eA E 12 0)] I J Q := by
  refine K_ofV (cc := cX8_readAlike) (maxL := 2) (by decide +kernel) rfl (Nat.le_of_ble_eq_true rfl) (fun p e s m args below meth c Qm hret S hK hX => ?_)
  have hA : ∀ q, s.heap.size ≤ q → AA E ps s.heap.size q := fun _ h => Or.inr h
  have k1 := S.2.2.2.2 (.fieldLink RX8 158 "RhymeRoofsModel" "groups" "I") (by decide +kernel)
  have iX8 : ∀ w ∈ wsX80, w ∈ wsX8_readAlike := fun _ h => List.mem_cons_of_mem _ (List.mem_append_right _ h)
  have k2 := S.2.2.2.2 (.fieldLink RX8 65 "RhymeRoofsModel" "position" "I") (by decide +kernel)
  have k3 := S.2.2.2.2 (.fieldLink RX8 20 "RhymeRoofsModel" "draft" "[I") (by decide +kernel)
  have jn28 : ∀ (I_12 : MI) (J_13 : MJ), f_X8_readAlike_J28 Q I_12 J_13 → Wj p l e (rmX8_readAlike) s m args below meth c Qm E ps 2 I_12 J_13 28 [(0, .ref (eA E 12 0))] [] := by
    intro I_12 J_13 hf H locs ls hP hD hS hl
    unfold f_X8_readAlike_J28 at hf
    refine lv_aload_n S.1 S.2.1 dX8_readAlike_28 rfl (lv_at hl 0 rfl) ?_
    refine lv_dup S.1 S.2.1 dX8_readAlike_29 rfl ?_
    refine gfX8_17 S iX8 hK hP (h12 0 (by decide)) k1 dX8_readAlike_30 ?_
    refine lv_iconst (v := 1) S.1 S.2.1 dX8_readAlike_33 rfl ?_
    refine lv_iadd S.1 S.2.1 dX8_readAlike_34 ?_
    refine nm_o hf (fun I_14 eI_14 hf => ?_)
    refine pfX8_17 S iX8 hK hP hD hS (h12 0 (by decide)) k1 dX8_readAlike_35 eI_14 (fun H locs hP hD hS => ?_)
    obtain ⟨n_44, hf⟩ := hf
    have L38 : ∀ (K116 : MI → MJ → Prop), (∀ (I_42 : MI) (J_43 : MJ), K116 I_42 J_43 → Wj p l e (rmX8_readAlike) s m args below meth c Qm E ps 2 I_42 J_43 116 [] []) → ∀ (n : Nat) (I_15 : MI) (J_16 : MJ), f_X8_readAlike_L38 K116 n I_15 J_16 → Wj p l e (rmX8_readAlike) s m args below meth c Qm E ps 2 I_15 J_16 38 [(0, .ref (eA E 12 0))] [] := by
      intro K116 kx116 n
      induction n with
      | zero => intro I_15 J_16 hf; exact hf.elim
      | succ n ih38 =>
        intro I_15 J_16 hf
        have hf : f_X8_readAlike_B38 K116 (f_X8_readAlike_L38 K116 n) I_15 J_16 := hf
        have jn93 : ∀ (x1_34 : Int32) (I_35 : MI) (J_36 : MJ), f_X8_readAlike_J93 K116 (f_X8_readAlike_L38 K116 n) x1_34 I_35 J_36 → Wj p l e (rmX8_readAlike) s m args below meth c Qm E ps 2 I_35 J_36 93 [(0, .ref (eA E 12 0)), (1, .int x1_34)] [] := by
          intro x1_34 I_35 J_36 hf H locs ls hP hD hS hl
          unfold f_X8_readAlike_J93 at hf
          refine lv_aload_n S.1 S.2.1 dX8_readAlike_93 rfl (lv_at hl 0 rfl) ?_
          refine gfX8_9 S iX8 hK hP (h12 0 (by decide)) k3 dX8_readAlike_94 ?_
          refine lv_iload_n S.1 S.2.1 dX8_readAlike_97 rfl (lv_at hl 1 rfl) ?_
          refine lv_aload_n S.1 S.2.1 dX8_readAlike_98 rfl (lv_at hl 0 rfl) ?_
          refine gfX8_17 S iX8 hK hP (h12 0 (by decide)) k1 dX8_readAlike_99 ?_
          obtain ⟨h_37, hf⟩ := hf
          refine nm_o hf (fun I_38 eI_38 hf => ?_)
          refine R_iast S.1 S.2.1 hK hP hD hS (h12 3 (by decide)) (IAm3 E) h_37 dX8_readAlike_102 eI_38 (fun H locs hP hD hS => ?_)
          refine lv_aload_n S.1 S.2.1 dX8_readAlike_103 rfl (lv_at hl 0 rfl) ?_
          refine lv_dup S.1 S.2.1 dX8_readAlike_104 rfl ?_
          refine gfX8_4 S iX8 hK hP (h12 0 (by decide)) k2 dX8_readAlike_105 ?_
          refine lv_iconst (v := 1) S.1 S.2.1 dX8_readAlike_108 rfl ?_
          refine lv_iadd S.1 S.2.1 dX8_readAlike_109 ?_
          refine nm_o hf (fun I_39 eI_39 hf => ?_)
          refine pfX8_4 S iX8 hK hP hD hS (h12 0 (by decide)) k2 dX8_readAlike_110 eI_39 (fun H locs hP hD hS => ?_)
          refine lv_goto (tgt := 38) S.1 S.2.1 dX8_readAlike_113 (by decide) ?_
          exact ih38 _ _ hf _ _ _ hP hD hS (lv_sub hl [0] rfl)
        intro H locs ls hP hD hS hl
        unfold f_X8_readAlike_B38 at hf
        refine lv_aload_n S.1 S.2.1 dX8_readAlike_38 rfl (lv_at hl 0 rfl) ?_
        refine R_cVi (As := []) (rest := []) S (c_X8_isGood (h12 := h12)  hf) gX8_readAlike_X8_isGood rfl yk_X8_isGood ⟨⟨Nat.le_of_ble_eq_true rfl, Nat.le_of_ble_eq_true rfl⟩, rfl, rfl⟩ hK hP hD hS hX hA (h12 0 (by decide)) (cF_m E _ _ 0) rfl rfl hl.1 rfl (Nat.le_of_ble_eq_true rfl) ⟨Nat.zero_le _, Nat.zero_le _⟩ dX8_readAlike_39 (fun v_19 I_17 J_18 H locs hf hP hD hS => ?_)
        refine lv_if_eq (tgt := 116) S.1 S.2.1 dX8_readAlike_42 (by decide) (fun h_20 => ?_) (fun h_20 => ?_)
        · have hf := hf.1 h_20
          exact kx116 _ _ hf _ _ _ hP hD hS (lv_sub hl [] rfl)
        · have hf := hf.2 h_20
          refine lv_aload_n S.1 S.2.1 dX8_readAlike_45 rfl (lv_at hl 0 rfl) ?_
          refine lv_aload_n S.1 S.2.1 dX8_readAlike_46 rfl (lv_at hl 0 rfl) ?_
          refine gfX8_4 S iX8 hK hP (h12 0 (by decide)) k2 dX8_readAlike_47 ?_
          refine R_cVi (As := [.int (I_17 12 0 4)]) (rest := []) S (c_X8_byteAt (h12 := h12)  hf) gX8_readAlike_X8_byteAt rfl yk_X8_byteAt ⟨⟨Nat.le_of_ble_eq_true rfl, Nat.le_of_ble_eq_true rfl⟩, rfl, rfl⟩ hK hP hD hS hX hA (h12 0 (by decide)) (cF_m E _ _ 0) rfl rfl hl.1 rfl (Nat.le_of_ble_eq_true rfl) ⟨Nat.zero_le _, Nat.zero_le _⟩ dX8_readAlike_50 (fun v_23 I_21 J_22 H locs hf hP hD hS => ?_)
          refine R_cSi (As := [.int v_23]) (rest := []) S (c_X8_isLetter   hf) gX8_readAlike_X8_isLetter rfl yk_X8_isLetter ⟨⟨Nat.le_of_ble_eq_true rfl, Nat.le_of_ble_eq_true rfl⟩, rfl, rfl⟩ hK hP hD hS hX hA rfl hl.1 rfl (Nat.le_of_ble_eq_true rfl) ⟨Nat.zero_le _, Nat.zero_le _⟩ dX8_readAlike_53 (fun v_26 I_24 J_25 H locs hf hP hD hS => ?_)
          refine lv_if_eq (tgt := 116) S.1 S.2.1 dX8_readAlike_56 (by decide) (fun h_27 => ?_) (fun h_27 => ?_)
          · have hf := hf.1 h_27
            exact kx116 _ _ hf _ _ _ hP hD hS (lv_sub hl [] rfl)
          · have hf := hf.2 h_27
            refine lv_bipush (v := 10) S.1 S.2.1 dX8_readAlike_59 rfl ?_
            refine lv_aload_n S.1 S.2.1 dX8_readAlike_61 rfl (lv_at hl 0 rfl) ?_
            refine lv_aload_n S.1 S.2.1 dX8_readAlike_62 rfl (lv_at hl 0 rfl) ?_
            refine gfX8_4 S iX8 hK hP (h12 0 (by decide)) k2 dX8_readAlike_63 ?_
            refine R_cVi (As := [.int (I_24 12 0 4)]) (rest := [.int (10 : Int32)]) S (c_X8_byteAt (h12 := h12)  hf) gX8_readAlike_X8_byteAt rfl yk_X8_byteAt ⟨⟨Nat.le_of_ble_eq_true rfl, Nat.le_of_ble_eq_true rfl⟩, rfl, rfl⟩ hK hP hD hS hX hA (h12 0 (by decide)) (cF_m E _ _ 0) rfl rfl hl.1 rfl (Nat.le_of_ble_eq_true rfl) ⟨Nat.zero_le _, Nat.zero_le _⟩ dX8_readAlike_66 (fun v_30 I_28 J_29 H locs hf hP hD hS => ?_)
            refine lv_iadd S.1 S.2.1 dX8_readAlike_69 ?_
            refine lv_bipush (v := 97) S.1 S.2.1 dX8_readAlike_70 rfl ?_
            refine lv_isub S.1 S.2.1 dX8_readAlike_72 ?_
            refine lv_topi (fun x1_31 ex1_31 => ?_)
            have hf := hf x1_31 ex1_31
            refine lv_istore_n (lv' := [(1, .int x1_31), (0, .ref (eA E 12 0))]) S.1 S.2.1 dX8_readAlike_73 rfl hl (by decide) rfl (fun ls hl => ?_)
            refine lv_aload_n S.1 S.2.1 dX8_readAlike_74 rfl (lv_at hl 1 rfl) ?_
            refine gfX8_9 S iX8 hK hP (h12 0 (by decide)) k3 dX8_readAlike_75 ?_
            refine lv_iload_n S.1 S.2.1 dX8_readAlike_78 rfl (lv_at hl 0 rfl) ?_
            obtain ⟨h_32, hf⟩ := hf
            refine R_iald S.1 S.2.1 hK hP (h12 3 (by decide)) (IAm3 E) h_32 dX8_readAlike_79 ?_
            refine lv_if_eq (tgt := 93) S.1 S.2.1 dX8_readAlike_80 (by decide) (fun h_33 => ?_) (fun h_33 => ?_)
            · have hf := hf.1 h_33
              exact jn93 _ _ _ hf _ _ _ hP hD hS (lv_sub hl [1, 0] rfl)
            · have hf := hf.2 h_33
              refine lv_aload_n S.1 S.2.1 dX8_readAlike_83 rfl (lv_at hl 1 rfl) ?_
              refine lv_bipush (v := (-4)) S.1 S.2.1 dX8_readAlike_84 rfl ?_
              refine lv_aload_n S.1 S.2.1 dX8_readAlike_86 rfl (lv_at hl 1 rfl) ?_
              refine gfX8_4 S iX8 hK hP (h12 0 (by decide)) k2 dX8_readAlike_87 ?_
              refine R_cVv (As := [.int (-4 : Int32), .int (I_28 12 0 4)]) (rest := []) S (c_X8_report (h12 := h12)  hf) gX8_readAlike_X8_report rfl yk_X8_report ⟨⟨Nat.le_of_ble_eq_true rfl, Nat.le_of_ble_eq_true rfl⟩, rfl, rfl⟩ hK hP hD hS hX hA (h12 0 (by decide)) (cF_m E _ _ 0) rfl rfl hl.1 rfl (Nat.le_of_ble_eq_true rfl) ⟨Nat.zero_le _, Nat.zero_le _⟩ dX8_readAlike_90 (fun I_40 J_41 H locs hf hP hD hS => ?_)
              exact jn93 _ _ _ hf _ _ _ hP hD hS (lv_sub hl [1, 0] rfl)
    refine L38 _ (fun I_42 J_43 hf H locs ls hP hD hS hl => ?_)  n_44  _ _ hf _ _ _ hP hD hS (lv_sub hl [0] rfl)
    exact hret hf hP hD hS dX8_readAlike_116
  intro H locs ls hP hD hS hl
  unfold f_X8_readAlike at hf
  refine lv_aload_n S.1 S.2.1 dX8_readAlike_0 rfl (lv_at hl 0 rfl) ?_
  refine R_cVi (As := []) (rest := []) S (c_X8_isGood (h12 := h12)  hf) gX8_readAlike_X8_isGood rfl yk_X8_isGood ⟨⟨Nat.le_of_ble_eq_true rfl, Nat.le_of_ble_eq_true rfl⟩, rfl, rfl⟩ hK hP hD hS hX hA (h12 0 (by decide)) (cF_m E _ _ 0) rfl rfl hl.1 rfl (Nat.le_of_ble_eq_true rfl) ⟨Nat.zero_le _, Nat.zero_le _⟩ dX8_readAlike_1 (fun v_3 I_1 J_2 H locs hf hP hD hS => ?_)
  refine lv_if_ne (tgt := 8) S.1 S.2.1 dX8_readAlike_4 (by decide) (fun h_4 => ?_) (fun h_4 => ?_)
  · have hf := hf.2 h_4
    refine lv_aload_n S.1 S.2.1 dX8_readAlike_8 rfl (lv_at hl 0 rfl) ?_
    refine R_cVi (As := []) (rest := []) S (c_X8_ahead (h12 := h12)  hf) gX8_readAlike_X8_ahead rfl yk_X8_ahead ⟨⟨Nat.le_of_ble_eq_true rfl, Nat.le_of_ble_eq_true rfl⟩, rfl, rfl⟩ hK hP hD hS hX hA (h12 0 (by decide)) (cF_m E _ _ 0) rfl rfl hl.1 rfl (Nat.le_of_ble_eq_true rfl) ⟨Nat.zero_le _, Nat.zero_le _⟩ dX8_readAlike_9 (fun v_7 I_5 J_6 H locs hf hP hD hS => ?_)
    refine R_cSi (As := [.int v_7]) (rest := []) S (c_X8_isLetter   hf) gX8_readAlike_X8_isLetter rfl yk_X8_isLetter ⟨⟨Nat.le_of_ble_eq_true rfl, Nat.le_of_ble_eq_true rfl⟩, rfl, rfl⟩ hK hP hD hS hX hA rfl hl.1 rfl (Nat.le_of_ble_eq_true rfl) ⟨Nat.zero_le _, Nat.zero_le _⟩ dX8_readAlike_12 (fun v_10 I_8 J_9 H locs hf hP hD hS => ?_)
    refine lv_if_ne (tgt := 28) S.1 S.2.1 dX8_readAlike_15 (by decide) (fun h_11 => ?_) (fun h_11 => ?_)
    · have hf := hf.2 h_11
      exact jn28 _ _ hf _ _ _ hP hD hS (lv_sub hl [0] rfl)
    · have hf := hf.1 h_11
      refine lv_aload_n S.1 S.2.1 dX8_readAlike_18 rfl (lv_at hl 0 rfl) ?_
      refine lv_bipush (v := (-2)) S.1 S.2.1 dX8_readAlike_19 rfl ?_
      refine lv_aload_n S.1 S.2.1 dX8_readAlike_21 rfl (lv_at hl 0 rfl) ?_
      refine gfX8_4 S iX8 hK hP (h12 0 (by decide)) k2 dX8_readAlike_22 ?_
      refine R_cVv (As := [.int (-2 : Int32), .int (I_8 12 0 4)]) (rest := []) S (c_X8_report (h12 := h12)  hf) gX8_readAlike_X8_report rfl yk_X8_report ⟨⟨Nat.le_of_ble_eq_true rfl, Nat.le_of_ble_eq_true rfl⟩, rfl, rfl⟩ hK hP hD hS hX hA (h12 0 (by decide)) (cF_m E _ _ 0) rfl rfl hl.1 rfl (Nat.le_of_ble_eq_true rfl) ⟨Nat.zero_le _, Nat.zero_le _⟩ dX8_readAlike_25 (fun I_45 J_46 H locs hf hP hD hS => ?_)
      exact jn28 _ _ hf _ _ _ hP hD hS (lv_sub hl [0] rfl)
  · have hf := hf.1 h_4
    exact hret hf hP hD hS dX8_readAlike_7
