abbrev rmX8_takeWord : Room := { frames := 4, cells := 0, slots := 0, locals := 85 }
theorem yk_X8_takeWord : yOk yX8_takeWord RX8 1 := by unfold yOk; decide +kernel
def f_X8_takeWord_B16 (w : Nat) (K48 : Int32 → MI → MJ → Prop) (rec16 : Int32 → MI → MJ → Prop) (x2_8 : Int32) (I_9 : MI) (J_10 : MJ) : Prop :=
  (((nI (sxL.getD w 0)) ≤ x2_8 → K48 x2_8 I_9 J_10) ∧ (¬ (nI (sxL.getD w 0)) ≤ x2_8 → f_X8_byteAt ((I_9 12 0 4) + x2_8) I_9 J_10 (fun (v_17 : Int32) (I_15 : MI) (J_16 : MJ) => (vp_in x2_8 (sxL.getD w 0) ∧ ((v_17 = (sxC w x2_8.toNatClampNeg) → ∀ x2_23 : Int32, x2_23 = x2_8 + (1 : Int32) → rec16 x2_23 I_15 J_16) ∧ (¬ v_17 = (sxC w x2_8.toNatClampNeg) → K48 x2_8 I_15 J_16))))))
def f_X8_takeWord_L16 (w : Nat) (K48 : Int32 → MI → MJ → Prop) : Nat → Int32 → MI → MJ → Prop
  | 0, _, _, _ => False
  | n + 1, x2_8, I_9, J_10 => f_X8_takeWord_B16 w K48 (f_X8_takeWord_L16 w K48 n) x2_8 I_9 J_10
def f_X8_takeWord_J48 (w : Nat) (Q : Int32 → MI → MJ → Prop) (x2_27 : Int32) (I_28 : MI) (J_29 : MJ) : Prop :=
  ((x2_27 < (nI (sxL.getD w 0)) → Q (0 : Int32) I_28 J_29) ∧ (¬ x2_27 < (nI (sxL.getD w 0)) → f_X8_byteAt ((I_28 12 0 4) + x2_27) I_28 J_29 (fun (v_36 : Int32) (I_34 : MI) (J_35 : MJ) => f_X8_in v_36 (97 : Int32) (122 : Int32) I_34 J_35 (fun (v_39 : Int32) (I_37 : MI) (J_38 : MJ) => ((v_39 = (0 : Int32) → ∀ I_41 : MI, I_41 = sI I_37 12 0 4 ((I_37 12 0 4) + x2_27) → Q (1 : Int32) I_41 J_38) ∧ (¬ v_39 = (0 : Int32) → Q (0 : Int32) I_37 J_38))))))
def f_X8_takeWord (w : Nat) (I : MI) (J : MJ) (Q : Int32 → MI → MJ → Prop) : Prop :=
  f_X8_isGood I J (fun (v_3 : Int32) (I_1 : MI) (J_2 : MJ) => ((v_3 = (0 : Int32) → Q (0 : Int32) I_1 J_2) ∧ (¬ v_3 = (0 : Int32) → f_X8_ahead I_1 J_2 (fun (v_7 : Int32) (I_5 : MI) (J_6 : MJ) => ∃ n : Nat, f_X8_takeWord_L16 w (fun (x2_24 : Int32) (I_25 : MI) (J_26 : MJ) => f_X8_takeWord_J48 w Q x2_24 I_25 J_26) n (0 : Int32) I_5 J_6))))
set_option maxRecDepth 100000 in
set_option maxHeartbeats 4000000 in
theorem c_X8_takeWord {l : Launch} {E : EV} {ps : List (Nat × Nat)} (h12 : ∀ r, r < 17 → (12, r) ∈ ps) {w : Nat} (hw : w < 13) {I : MI} {J : MJ} {Q : Int32 → MI → MJ → Prop} (hf : f_X8_takeWord w I J Q) : KI l yX8_takeWord wsX8_takeWord rmX8_takeWord E ps [.ref (eA E 12 0), .ref (eK E w)] I J Q := by
  refine K_ofI (cc := cX8_takeWord) (maxL := 3) (ty := .boolean) (by decide +kernel) rfl (Nat.le_of_ble_eq_true rfl) (fun p e s m args below meth c Qm hret S hK hX => ?_)
  have hA : ∀ q, s.heap.size ≤ q → AA E ps s.heap.size q := fun _ h => Or.inr h
  have k1 := S.2.2.2.2 (.fieldLink RX8 65 "RhymeRoofsModel" "position" "I") (by decide +kernel)
  have iX8 : ∀ w ∈ wsX80, w ∈ wsX8_takeWord := fun _ h => List.mem_cons_of_mem _ (List.mem_append_right _ h)
  have jn48 : ∀ (x2_27 : Int32) (I_28 : MI) (J_29 : MJ), f_X8_takeWord_J48 w Q x2_27 I_28 J_29 → Wj p l e (rmX8_takeWord) s m args below meth c Qm E ps 3 I_28 J_29 48 [(0, .ref (eA E 12 0)), (1, .ref (eK E w)), (2, .int x2_27)] [] := by
    intro x2_27 I_28 J_29 hf H locs ls hP hD hS hl
    unfold f_X8_takeWord_J48 at hf
    refine lv_iload_n S.1 S.2.1 dX8_takeWord_48 rfl (lv_at hl 2 rfl) ?_
    refine lv_aload_n S.1 S.2.1 dX8_takeWord_49 rfl (lv_at hl 1 rfl) ?_
    refine R_cTi (As := []) (rest := [.int x2_27]) hw S (c_J0_length_8abf5 hw (Q := fun v I1 J1 => nI (sxL.getD w 0) = v ∧ I_28 = I1 ∧ J_29 = J1) ⟨rfl, rfl, rfl⟩) gX8_takeWord_J0_length_8abf5 rfl yk_J0_length_8abf5 ⟨⟨Nat.le_of_ble_eq_true rfl, Nat.le_of_ble_eq_true rfl⟩, rfl, rfl⟩ hK hP hD hS hX hA rfl hl.1 rfl (Nat.le_of_ble_eq_true rfl) ⟨Nat.zero_le _, Nat.zero_le _⟩ dX8_takeWord_50 (fun v_30 I_31 J_32 H locs hq hP hD hS => ?_)
    obtain ⟨rfl, rfl, rfl⟩ := hq
    refine lv_icmp_lt (tgt := 76) S.1 S.2.1 dX8_takeWord_53 (by decide) (fun h_33 => ?_) (fun h_33 => ?_)
    · have hf := hf.1 h_33
      refine lv_iconst (v := 0) S.1 S.2.1 dX8_takeWord_76 rfl ?_
      exact hret hf rfl hP hD hS dX8_takeWord_77
    · have hf := hf.2 h_33
      refine lv_aload_n S.1 S.2.1 dX8_takeWord_56 rfl (lv_at hl 0 rfl) ?_
      refine lv_aload_n S.1 S.2.1 dX8_takeWord_57 rfl (lv_at hl 0 rfl) ?_
      refine gfX8_4 S iX8 hK hP (h12 0 (by decide)) k1 dX8_takeWord_58 ?_
      refine lv_iload_n S.1 S.2.1 dX8_takeWord_61 rfl (lv_at hl 2 rfl) ?_
      refine lv_iadd S.1 S.2.1 dX8_takeWord_62 ?_
      refine R_cVi (As := [.int ((I_28 12 0 4) + x2_27)]) (rest := []) S (c_X8_byteAt (h12 := h12)  hf) gX8_takeWord_X8_byteAt rfl yk_X8_byteAt ⟨⟨Nat.le_of_ble_eq_true rfl, Nat.le_of_ble_eq_true rfl⟩, rfl, rfl⟩ hK hP hD hS hX hA (h12 0 (by decide)) (cF_m E _ _ 0) rfl rfl hl.1 rfl (Nat.le_of_ble_eq_true rfl) ⟨Nat.zero_le _, Nat.zero_le _⟩ dX8_takeWord_63 (fun v_36 I_34 J_35 H locs hf hP hD hS => ?_)
      refine lv_bipush (v := 97) S.1 S.2.1 dX8_takeWord_66 rfl ?_
      refine lv_bipush (v := 122) S.1 S.2.1 dX8_takeWord_68 rfl ?_
      refine R_cSi (As := [.int v_36, .int (97 : Int32), .int (122 : Int32)]) (rest := []) S (c_X8_in   hf) gX8_takeWord_X8_in rfl yk_X8_in ⟨⟨Nat.le_of_ble_eq_true rfl, Nat.le_of_ble_eq_true rfl⟩, rfl, rfl⟩ hK hP hD hS hX hA rfl hl.1 rfl (Nat.le_of_ble_eq_true rfl) ⟨Nat.zero_le _, Nat.zero_le _⟩ dX8_takeWord_70 (fun v_39 I_37 J_38 H locs hf hP hD hS => ?_)
      refine lv_if_eq (tgt := 78) S.1 S.2.1 dX8_takeWord_73 (by decide) (fun h_40 => ?_) (fun h_40 => ?_)
      · have hf := hf.1 h_40
        refine lv_aload_n S.1 S.2.1 dX8_takeWord_78 rfl (lv_at hl 0 rfl) ?_
        refine lv_dup S.1 S.2.1 dX8_takeWord_79 rfl ?_
        refine gfX8_4 S iX8 hK hP (h12 0 (by decide)) k1 dX8_takeWord_80 ?_
        refine lv_iload_n S.1 S.2.1 dX8_takeWord_83 rfl (lv_at hl 2 rfl) ?_
        refine lv_iadd S.1 S.2.1 dX8_takeWord_84 ?_
        refine nm_o hf (fun I_41 eI_41 hf => ?_)
        refine pfX8_4 S iX8 hK hP hD hS (h12 0 (by decide)) k1 dX8_takeWord_85 eI_41 (fun H locs hP hD hS => ?_)
        refine lv_iconst (v := 1) S.1 S.2.1 dX8_takeWord_88 rfl ?_
        exact hret hf rfl hP hD hS dX8_takeWord_89
      · have hf := hf.2 h_40
        refine lv_iconst (v := 0) S.1 S.2.1 dX8_takeWord_76 rfl ?_
        exact hret hf rfl hP hD hS dX8_takeWord_77
  intro H locs ls hP hD hS hl
  unfold f_X8_takeWord at hf
  refine lv_aload_n S.1 S.2.1 dX8_takeWord_0 rfl (lv_at hl 0 rfl) ?_
  refine R_cVi (As := []) (rest := []) S (c_X8_isGood (h12 := h12)  hf) gX8_takeWord_X8_isGood rfl yk_X8_isGood ⟨⟨Nat.le_of_ble_eq_true rfl, Nat.le_of_ble_eq_true rfl⟩, rfl, rfl⟩ hK hP hD hS hX hA (h12 0 (by decide)) (cF_m E _ _ 0) rfl rfl hl.1 rfl (Nat.le_of_ble_eq_true rfl) ⟨Nat.zero_le _, Nat.zero_le _⟩ dX8_takeWord_1 (fun v_3 I_1 J_2 H locs hf hP hD hS => ?_)
  refine lv_if_ne (tgt := 9) S.1 S.2.1 dX8_takeWord_4 (by decide) (fun h_4 => ?_) (fun h_4 => ?_)
  · have hf := hf.2 h_4
    refine lv_aload_n S.1 S.2.1 dX8_takeWord_9 rfl (lv_at hl 0 rfl) ?_
    refine R_cVi (As := []) (rest := []) S (c_X8_ahead (h12 := h12)  hf) gX8_takeWord_X8_ahead rfl yk_X8_ahead ⟨⟨Nat.le_of_ble_eq_true rfl, Nat.le_of_ble_eq_true rfl⟩, rfl, rfl⟩ hK hP hD hS hX hA (h12 0 (by decide)) (cF_m E _ _ 0) rfl rfl hl.1 rfl (Nat.le_of_ble_eq_true rfl) ⟨Nat.zero_le _, Nat.zero_le _⟩ dX8_takeWord_10 (fun v_7 I_5 J_6 H locs hf hP hD hS => ?_)
    refine lv_pop S.1 S.2.1 dX8_takeWord_13 rfl ?_
    refine lv_iconst (v := 0) S.1 S.2.1 dX8_takeWord_14 rfl ?_
    refine lv_istore_n (lv' := [(2, .int (0 : Int32)), (0, .ref (eA E 12 0)), (1, .ref (eK E w))]) S.1 S.2.1 dX8_takeWord_15 rfl hl (by decide) rfl (fun ls hl => ?_)
    obtain ⟨n_42, hf⟩ := hf
    have L16 : ∀ (K48 : Int32 → MI → MJ → Prop), (∀ (x2_24 : Int32) (I_25 : MI) (J_26 : MJ), K48 x2_24 I_25 J_26 → Wj p l e (rmX8_takeWord) s m args below meth c Qm E ps 3 I_25 J_26 48 [(0, .ref (eA E 12 0)), (1, .ref (eK E w)), (2, .int x2_24)] []) → ∀ (n : Nat) (x2_8 : Int32) (I_9 : MI) (J_10 : MJ), f_X8_takeWord_L16 w K48 n x2_8 I_9 J_10 → Wj p l e (rmX8_takeWord) s m args below meth c Qm E ps 3 I_9 J_10 16 [(0, .ref (eA E 12 0)), (1, .ref (eK E w)), (2, .int x2_8)] [] := by
      intro K48 kx48 n
      induction n with
      | zero => intro x2_8 I_9 J_10 hf; exact hf.elim
      | succ n ih16 =>
        intro x2_8 I_9 J_10 hf
        have hf : f_X8_takeWord_B16 w K48 (f_X8_takeWord_L16 w K48 n) x2_8 I_9 J_10 := hf
        intro H locs ls hP hD hS hl
        unfold f_X8_takeWord_B16 at hf
        refine lv_iload_n S.1 S.2.1 dX8_takeWord_16 rfl (lv_at hl 2 rfl) ?_
        refine lv_aload_n S.1 S.2.1 dX8_takeWord_17 rfl (lv_at hl 1 rfl) ?_
        refine R_cTi (As := []) (rest := [.int x2_8]) hw S (c_J0_length_8abf5 hw (Q := fun v I1 J1 => nI (sxL.getD w 0) = v ∧ I_9 = I1 ∧ J_10 = J1) ⟨rfl, rfl, rfl⟩) gX8_takeWord_J0_length_8abf5 rfl yk_J0_length_8abf5 ⟨⟨Nat.le_of_ble_eq_true rfl, Nat.le_of_ble_eq_true rfl⟩, rfl, rfl⟩ hK hP hD hS hX hA rfl hl.1 rfl (Nat.le_of_ble_eq_true rfl) ⟨Nat.zero_le _, Nat.zero_le _⟩ dX8_takeWord_18 (fun v_11 I_12 J_13 H locs hq hP hD hS => ?_)
        obtain ⟨rfl, rfl, rfl⟩ := hq
        refine lv_icmp_ge (tgt := 48) S.1 S.2.1 dX8_takeWord_21 (by decide) (fun h_14 => ?_) (fun h_14 => ?_)
        · have hf := hf.1 h_14
          exact kx48 _ _ _ hf _ _ _ hP hD hS (lv_sub hl [0, 1, 2] rfl)
        · have hf := hf.2 h_14
          refine lv_aload_n S.1 S.2.1 dX8_takeWord_24 rfl (lv_at hl 0 rfl) ?_
          refine lv_aload_n S.1 S.2.1 dX8_takeWord_25 rfl (lv_at hl 0 rfl) ?_
          refine gfX8_4 S iX8 hK hP (h12 0 (by decide)) k1 dX8_takeWord_26 ?_
          refine lv_iload_n S.1 S.2.1 dX8_takeWord_29 rfl (lv_at hl 2 rfl) ?_
          refine lv_iadd S.1 S.2.1 dX8_takeWord_30 ?_
          refine R_cVi (As := [.int ((I_9 12 0 4) + x2_8)]) (rest := []) S (c_X8_byteAt (h12 := h12)  hf) gX8_takeWord_X8_byteAt rfl yk_X8_byteAt ⟨⟨Nat.le_of_ble_eq_true rfl, Nat.le_of_ble_eq_true rfl⟩, rfl, rfl⟩ hK hP hD hS hX hA (h12 0 (by decide)) (cF_m E _ _ 0) rfl rfl hl.1 rfl (Nat.le_of_ble_eq_true rfl) ⟨Nat.zero_le _, Nat.zero_le _⟩ dX8_takeWord_31 (fun v_17 I_15 J_16 H locs hf hP hD hS => ?_)
          refine lv_aload_n S.1 S.2.1 dX8_takeWord_34 rfl (lv_at hl 1 rfl) ?_
          refine lv_iload_n S.1 S.2.1 dX8_takeWord_35 rfl (lv_at hl 2 rfl) ?_
          obtain ⟨h_18, hf⟩ := hf
          refine R_cTi (As := [.int x2_8]) (rest := [.int v_17]) hw S (c_charAt hw h_18 (Q := fun v I1 J1 => sxC w x2_8.toNatClampNeg = v ∧ I_15 = I1 ∧ J_16 = J1) ⟨rfl, rfl, rfl⟩) gX8_takeWord_J0_charAt_5068e rfl yk_J0_charAt_5068e ⟨⟨Nat.le_of_ble_eq_true rfl, Nat.le_of_ble_eq_true rfl⟩, rfl, rfl⟩ hK hP hD hS hX hA rfl hl.1 rfl (Nat.le_of_ble_eq_true rfl) ⟨Nat.zero_le _, Nat.zero_le _⟩ dX8_takeWord_36 (fun v_19 I_20 J_21 H locs hq hP hD hS => ?_)
          obtain ⟨rfl, rfl, rfl⟩ := hq
          refine lv_icmp_ne (tgt := 48) S.1 S.2.1 dX8_takeWord_39 (by decide) (fun h_22 => ?_) (fun h_22 => ?_)
          · have hf := hf.2 h_22
            exact kx48 _ _ _ hf _ _ _ hP hD hS (lv_sub hl [0, 1, 2] rfl)
          · have hf := hf.1 h_22
            refine nm_o hf (fun x2_23 ex2_23 hf => ?_)
            refine lv_iinc (v := x2_23) (lv' := [(2, .int x2_23), (0, .ref (eA E 12 0)), (1, .ref (eK E w))]) S.1 S.2.1 dX8_takeWord_42 hl (k := 2) rfl (by rw [ex2_23]; rfl) (by decide) rfl (fun ls hl => ?_)
            refine lv_goto (tgt := 16) S.1 S.2.1 dX8_takeWord_45 (by decide) ?_
            exact ih16 _ _ _ hf _ _ _ hP hD hS (lv_sub hl [1, 2, 0] rfl)
    refine L16 _ (fun x2_24 I_25 J_26 hf H locs ls hP hD hS hl => ?_)  n_42 _ _ _ hf _ _ _ hP hD hS (lv_sub hl [1, 2, 0] rfl)
    exact jn48 _ _ _ hf _ _ _ hP hD hS (lv_sub hl [0, 1, 2] rfl)
  · have hf := hf.1 h_4
    refine lv_iconst (v := 0) S.1 S.2.1 dX8_takeWord_7 rfl ?_
    exact hret hf rfl hP hD hS dX8_takeWord_8
abbrev rmX8_expect : Room := { frames := 2, cells := 0, slots := 0, locals := 41 }
theorem yk_X8_expect : yOk yX8_expect RX8 1 := by unfold yOk; decide +kernel
def f_X8_expect (x1 : Int32) (I : MI) (J : MJ) (Q : MI → MJ → Prop) : Prop :=
  f_X8_isGood I J (fun (v_3 : Int32) (I_1 : MI) (J_2 : MJ) => ((v_3 = (0 : Int32) → Q I_1 J_2) ∧ (¬ v_3 = (0 : Int32) → f_X8_ahead I_1 J_2 (fun (v_7 : Int32) (I_5 : MI) (J_6 : MJ) => ((v_7 = x1 → ∀ I_11 : MI, I_11 = sI I_5 12 0 4 ((I_5 12 0 4) + (1 : Int32)) → Q I_11 J_6) ∧ (¬ v_7 = x1 → f_X8_report (-2 : Int32) (I_5 12 0 4) I_5 J_6 (fun (I_9 : MI) (J_10 : MJ) => Q I_9 J_10)))))))
set_option maxRecDepth 100000 in
set_option maxHeartbeats 4000000 in
theorem c_X8_expect {l : Launch} {E : EV} {ps : List (Nat × Nat)} (h12 : ∀ r, r < 17 → (12, r) ∈ ps) {x1 : Int32} {I : MI} {J : MJ} {Q : MI → MJ → Prop} (hf : f_X8_expect x1 I J Q) : KV l yX8_expect wsX8_expect rmX8_expect E ps [.ref (eA E 12 0), .int x1] I J Q := by
  refine K_ofV (cc := cX8_expect) (maxL := 2) (by decide +kernel) rfl (Nat.le_of_ble_eq_true rfl) (fun p e s m args below meth c Qm hret S hK hX => ?_)
  have hA : ∀ q, s.heap.size ≤ q → AA E ps s.heap.size q := fun _ h => Or.inr h
  have k1 := S.2.2.2.2 (.fieldLink RX8 65 "RhymeRoofsModel" "position" "I") (by decide +kernel)
  have iX8 : ∀ w ∈ wsX80, w ∈ wsX8_expect := fun _ h => List.mem_cons_of_mem _ (List.mem_append_right _ h)
  intro H locs ls hP hD hS hl
  unfold f_X8_expect at hf
  refine lv_aload_n S.1 S.2.1 dX8_expect_0 rfl (lv_at hl 0 rfl) ?_
  refine R_cVi (As := []) (rest := []) S (c_X8_isGood (h12 := h12)  hf) gX8_expect_X8_isGood rfl yk_X8_isGood ⟨⟨Nat.le_of_ble_eq_true rfl, Nat.le_of_ble_eq_true rfl⟩, rfl, rfl⟩ hK hP hD hS hX hA (h12 0 (by decide)) (cF_m E _ _ 0) rfl rfl hl.1 rfl (Nat.le_of_ble_eq_true rfl) ⟨Nat.zero_le _, Nat.zero_le _⟩ dX8_expect_1 (fun v_3 I_1 J_2 H locs hf hP hD hS => ?_)
  refine lv_if_ne (tgt := 8) S.1 S.2.1 dX8_expect_4 (by decide) (fun h_4 => ?_) (fun h_4 => ?_)
  · have hf := hf.2 h_4
    refine lv_aload_n S.1 S.2.1 dX8_expect_8 rfl (lv_at hl 0 rfl) ?_
    refine R_cVi (As := []) (rest := []) S (c_X8_ahead (h12 := h12)  hf) gX8_expect_X8_ahead rfl yk_X8_ahead ⟨⟨Nat.le_of_ble_eq_true rfl, Nat.le_of_ble_eq_true rfl⟩, rfl, rfl⟩ hK hP hD hS hX hA (h12 0 (by decide)) (cF_m E _ _ 0) rfl rfl hl.1 rfl (Nat.le_of_ble_eq_true rfl) ⟨Nat.zero_le _, Nat.zero_le _⟩ dX8_expect_9 (fun v_7 I_5 J_6 H locs hf hP hD hS => ?_)
    refine lv_iload_n S.1 S.2.1 dX8_expect_12 rfl (lv_at hl 1 rfl) ?_
    refine lv_icmp_ne (tgt := 29) S.1 S.2.1 dX8_expect_13 (by decide) (fun h_8 => ?_) (fun h_8 => ?_)
    · have hf := hf.2 h_8
      refine lv_aload_n S.1 S.2.1 dX8_expect_29 rfl (lv_at hl 0 rfl) ?_
      refine lv_bipush (v := (-2)) S.1 S.2.1 dX8_expect_30 rfl ?_
      refine lv_aload_n S.1 S.2.1 dX8_expect_32 rfl (lv_at hl 0 rfl) ?_
      refine gfX8_4 S iX8 hK hP (h12 0 (by decide)) k1 dX8_expect_33 ?_
      refine R_cVv (As := [.int (-2 : Int32), .int (I_5 12 0 4)]) (rest := []) S (c_X8_report (h12 := h12)  hf) gX8_expect_X8_report rfl yk_X8_report ⟨⟨Nat.le_of_ble_eq_true rfl, Nat.le_of_ble_eq_true rfl⟩, rfl, rfl⟩ hK hP hD hS hX hA (h12 0 (by decide)) (cF_m E _ _ 0) rfl rfl hl.1 rfl (Nat.le_of_ble_eq_true rfl) ⟨Nat.zero_le _, Nat.zero_le _⟩ dX8_expect_36 (fun I_9 J_10 H locs hf hP hD hS => ?_)
      exact hret hf hP hD hS dX8_expect_39
    · have hf := hf.1 h_8
      refine lv_aload_n S.1 S.2.1 dX8_expect_16 rfl (lv_at hl 0 rfl) ?_
      refine lv_dup S.1 S.2.1 dX8_expect_17 rfl ?_
      refine gfX8_4 S iX8 hK hP (h12 0 (by decide)) k1 dX8_expect_18 ?_
      refine lv_iconst (v := 1) S.1 S.2.1 dX8_expect_21 rfl ?_
      refine lv_iadd S.1 S.2.1 dX8_expect_22 ?_
      refine nm_o hf (fun I_11 eI_11 hf => ?_)
      refine pfX8_4 S iX8 hK hP hD hS (h12 0 (by decide)) k1 dX8_expect_23 eI_11 (fun H locs hP hD hS => ?_)
      refine lv_goto (tgt := 39) S.1 S.2.1 dX8_expect_26 (by decide) ?_
      exact hret hf hP hD hS dX8_expect_39
  · have hf := hf.1 h_4
    exact hret hf hP hD hS dX8_expect_7
abbrev rmX8_number : Room := { frames := 2, cells := 0, slots := 0, locals := 42 }
theorem yk_X8_number : yOk yX8_number RX8 2 := by unfold yOk; decide +kernel
def f_X8_number_B41 (K90 : Int32 → MI → MJ → Prop) (rec41 : Int32 → MI → MJ → Prop) (x3_13 : Int32) (I_14 : MI) (J_15 : MJ) : Prop :=
  f_X8_byteAt (I_14 12 0 4) I_14 J_15 (fun (v_18 : Int32) (I_16 : MI) (J_17 : MJ) => f_X8_isDigit v_18 I_16 J_17 (fun (v_21 : Int32) (I_19 : MI) (J_20 : MJ) => ((v_21 = (0 : Int32) → K90 x3_13 I_19 J_20) ∧ (¬ v_21 = (0 : Int32) → f_X8_byteAt (I_19 12 0 4) I_19 J_20 (fun (v_25 : Int32) (I_23 : MI) (J_24 : MJ) => f_X8_min (100000000 : Int32) ((((10 : Int32) * x3_13) + v_25) - (48 : Int32)) I_23 J_24 (fun (v_28 : Int32) (I_26 : MI) (J_27 : MJ) => ∀ I_29 : MI, I_29 = sI I_26 12 0 4 ((I_26 12 0 4) + (1 : Int32)) → rec41 v_28 I_29 J_27))))))
def f_X8_number_L41 (K90 : Int32 → MI → MJ → Prop) : Nat → Int32 → MI → MJ → Prop
  | 0, _, _, _ => False
  | n + 1, x3_13, I_14, J_15 => f_X8_number_B41 K90 (f_X8_number_L41 K90 n) x3_13 I_14 J_15
def f_X8_number_J109 (Q : Int32 → MI → MJ → Prop) (x3_37 : Int32) (I_38 : MI) (J_39 : MJ) : Prop :=
  f_X8_isGood I_38 J_39 (fun (v_42 : Int32) (I_40 : MI) (J_41 : MJ) => ((v_42 = (0 : Int32) → Q (0 : Int32) I_40 J_41) ∧ (¬ v_42 = (0 : Int32) → Q x3_37 I_40 J_41)))
def f_X8_number (x1 : Int32) (x2 : Int32) (I : MI) (J : MJ) (Q : Int32 → MI → MJ → Prop) : Prop :=
  f_X8_isGood I J (fun (v_3 : Int32) (I_1 : MI) (J_2 : MJ) => ((v_3 = (0 : Int32) → Q (0 : Int32) I_1 J_2) ∧ (¬ v_3 = (0 : Int32) → f_X8_ahead I_1 J_2 (fun (v_7 : Int32) (I_5 : MI) (J_6 : MJ) => f_X8_isDigit v_7 I_5 J_6 (fun (v_10 : Int32) (I_8 : MI) (J_9 : MJ) => ((v_10 = (0 : Int32) → f_X8_report (-2 : Int32) (I_8 12 0 4) I_8 J_9 (fun (I_47 : MI) (J_48 : MJ) => Q (0 : Int32) I_47 J_48)) ∧ (¬ v_10 = (0 : Int32) → ∀ I_12 : MI, I_12 = sI I_8 12 0 13 (I_8 12 0 4) → ∃ n : Nat, f_X8_number_L41 (fun (x3_30 : Int32) (I_31 : MI) (J_32 : MJ) => f_X8_in x3_30 x1 x2 I_31 J_32 (fun (v_35 : Int32) (I_33 : MI) (J_34 : MJ) => ((v_35 = (0 : Int32) → f_X8_report (-3 : Int32) (I_33 12 0 13) I_33 J_34 (fun (I_44 : MI) (J_45 : MJ) => f_X8_number_J109 Q x3_30 I_44 J_45)) ∧ (¬ v_35 = (0 : Int32) → f_X8_number_J109 Q x3_30 I_33 J_34)))) n (0 : Int32) I_12 J_9)))))))
set_option maxRecDepth 100000 in
set_option maxHeartbeats 4000000 in
theorem c_X8_number {l : Launch} {E : EV} {ps : List (Nat × Nat)} (h12 : ∀ r, r < 17 → (12, r) ∈ ps) {x1 : Int32} {x2 : Int32} {I : MI} {J : MJ} {Q : Int32 → MI → MJ → Prop} (hf : f_X8_number x1 x2 I J Q) : KI l yX8_number wsX8_number rmX8_number E ps [.ref (eA E 12 0), .int x1, .int x2] I J Q := by
  refine K_ofI (cc := cX8_number) (maxL := 4) (ty := .int) (by decide +kernel) rfl (Nat.le_of_ble_eq_true rfl) (fun p e s m args below meth c Qm hret S hK hX => ?_)
  have hA : ∀ q, s.heap.size ≤ q → AA E ps s.heap.size q := fun _ h => Or.inr h
  have k1 := S.2.2.2.2 (.fieldLink RX8 65 "RhymeRoofsModel" "position" "I") (by decide +kernel)
  have iX8 : ∀ w ∈ wsX80, w ∈ wsX8_number := fun _ h => List.mem_cons_of_mem _ (List.mem_append_right _ h)
  have k2 := S.2.2.2.2 (.fieldLink RX8 106 "RhymeRoofsModel" "numberStart" "I") (by decide +kernel)
  have k3 := S.2.2.2.2 (.constant RX8 109 (100000000)) (by decide +kernel)
  have jn109 : ∀ (x3_37 : Int32) (I_38 : MI) (J_39 : MJ), f_X8_number_J109 Q x3_37 I_38 J_39 → Wj p l e (rmX8_number) s m args below meth c Qm E ps 4 I_38 J_39 109 [(0, .ref (eA E 12 0)), (3, .int x3_37)] [] := by
    intro x3_37 I_38 J_39 hf H locs ls hP hD hS hl
    unfold f_X8_number_J109 at hf
    refine lv_aload_n S.1 S.2.1 dX8_number_109 rfl (lv_at hl 0 rfl) ?_
    refine R_cVi (As := []) (rest := []) S (c_X8_isGood (h12 := h12)  hf) gX8_number_X8_isGood rfl yk_X8_isGood ⟨⟨Nat.le_of_ble_eq_true rfl, Nat.le_of_ble_eq_true rfl⟩, rfl, rfl⟩ hK hP hD hS hX hA (h12 0 (by decide)) (cF_m E _ _ 0) rfl rfl hl.1 rfl (Nat.le_of_ble_eq_true rfl) ⟨Nat.zero_le _, Nat.zero_le _⟩ dX8_number_110 (fun v_42 I_40 J_41 H locs hf hP hD hS => ?_)
    refine lv_if_eq (tgt := 120) S.1 S.2.1 dX8_number_113 (by decide) (fun h_43 => ?_) (fun h_43 => ?_)
    · have hf := hf.1 h_43
      refine lv_iconst (v := 0) S.1 S.2.1 dX8_number_120 rfl ?_
      exact hret hf rfl hP hD hS dX8_number_121
    · have hf := hf.2 h_43
      refine lv_iload_n S.1 S.2.1 dX8_number_116 rfl (lv_at hl 1 rfl) ?_
      refine lv_goto (tgt := 121) S.1 S.2.1 dX8_number_117 (by decide) ?_
      exact hret hf rfl hP hD hS dX8_number_121
  intro H locs ls hP hD hS hl
  unfold f_X8_number at hf
  refine lv_aload_n S.1 S.2.1 dX8_number_0 rfl (lv_at hl 0 rfl) ?_
  refine R_cVi (As := []) (rest := []) S (c_X8_isGood (h12 := h12)  hf) gX8_number_X8_isGood rfl yk_X8_isGood ⟨⟨Nat.le_of_ble_eq_true rfl, Nat.le_of_ble_eq_true rfl⟩, rfl, rfl⟩ hK hP hD hS hX hA (h12 0 (by decide)) (cF_m E _ _ 0) rfl rfl hl.1 rfl (Nat.le_of_ble_eq_true rfl) ⟨Nat.zero_le _, Nat.zero_le _⟩ dX8_number_1 (fun v_3 I_1 J_2 H locs hf hP hD hS => ?_)
  refine lv_if_ne (tgt := 9) S.1 S.2.1 dX8_number_4 (by decide) (fun h_4 => ?_) (fun h_4 => ?_)
  · have hf := hf.2 h_4
    refine lv_aload_n S.1 S.2.1 dX8_number_9 rfl (lv_at hl 0 rfl) ?_
    refine R_cVi (As := []) (rest := []) S (c_X8_ahead (h12 := h12)  hf) gX8_number_X8_ahead rfl yk_X8_ahead ⟨⟨Nat.le_of_ble_eq_true rfl, Nat.le_of_ble_eq_true rfl⟩, rfl, rfl⟩ hK hP hD hS hX hA (h12 0 (by decide)) (cF_m E _ _ 0) rfl rfl hl.1 rfl (Nat.le_of_ble_eq_true rfl) ⟨Nat.zero_le _, Nat.zero_le _⟩ dX8_number_10 (fun v_7 I_5 J_6 H locs hf hP hD hS => ?_)
    refine R_cSi (As := [.int v_7]) (rest := []) S (c_X8_isDigit   hf) gX8_number_X8_isDigit rfl yk_X8_isDigit ⟨⟨Nat.le_of_ble_eq_true rfl, Nat.le_of_ble_eq_true rfl⟩, rfl, rfl⟩ hK hP hD hS hX hA rfl hl.1 rfl (Nat.le_of_ble_eq_true rfl) ⟨Nat.zero_le _, Nat.zero_le _⟩ dX8_number_13 (fun v_10 I_8 J_9 H locs hf hP hD hS => ?_)
    refine lv_if_ne (tgt := 31) S.1 S.2.1 dX8_number_16 (by decide) (fun h_11 => ?_) (fun h_11 => ?_)
    · have hf := hf.2 h_11
      refine lv_aload_n S.1 S.2.1 dX8_number_31 rfl (lv_at hl 0 rfl) ?_
      refine lv_aload_n S.1 S.2.1 dX8_number_32 rfl (lv_at hl 0 rfl) ?_
      refine gfX8_4 S iX8 hK hP (h12 0 (by decide)) k1 dX8_number_33 ?_
      refine nm_o hf (fun I_12 eI_12 hf => ?_)
      refine pfX8_13 S iX8 hK hP hD hS (h12 0 (by decide)) k2 dX8_number_36 eI_12 (fun H locs hP hD hS => ?_)
      refine lv_iconst (v := 0) S.1 S.2.1 dX8_number_39 rfl ?_
      refine lv_istore_n (lv' := [(3, .int (0 : Int32)), (0, .ref (eA E 12 0)), (1, .int x1), (2, .int x2)]) S.1 S.2.1 dX8_number_40 rfl hl (by decide) rfl (fun ls hl => ?_)
      obtain ⟨n_46, hf⟩ := hf
      have L41 : ∀ (K90 : Int32 → MI → MJ → Prop), (∀ (x3_30 : Int32) (I_31 : MI) (J_32 : MJ), K90 x3_30 I_31 J_32 → Wj p l e (rmX8_number) s m args below meth c Qm E ps 4 I_31 J_32 90 [(0, .ref (eA E 12 0)), (1, .int x1), (2, .int x2), (3, .int x3_30)] []) → ∀ (n : Nat) (x3_13 : Int32) (I_14 : MI) (J_15 : MJ), f_X8_number_L41 K90 n x3_13 I_14 J_15 → Wj p l e (rmX8_number) s m args below meth c Qm E ps 4 I_14 J_15 41 [(0, .ref (eA E 12 0)), (1, .int x1), (2, .int x2), (3, .int x3_13)] [] := by
        intro K90 kx90 n
        induction n with
        | zero => intro x3_13 I_14 J_15 hf; exact hf.elim
        | succ n ih41 =>
          intro x3_13 I_14 J_15 hf
          have hf : f_X8_number_B41 K90 (f_X8_number_L41 K90 n) x3_13 I_14 J_15 := hf
          intro H locs ls hP hD hS hl
          unfold f_X8_number_B41 at hf
          refine lv_aload_n S.1 S.2.1 dX8_number_41 rfl (lv_at hl 0 rfl) ?_
          refine lv_aload_n S.1 S.2.1 dX8_number_42 rfl (lv_at hl 0 rfl) ?_
          refine gfX8_4 S iX8 hK hP (h12 0 (by decide)) k1 dX8_number_43 ?_
          refine R_cVi (As := [.int (I_14 12 0 4)]) (rest := []) S (c_X8_byteAt (h12 := h12)  hf) gX8_number_X8_byteAt rfl yk_X8_byteAt ⟨⟨Nat.le_of_ble_eq_true rfl, Nat.le_of_ble_eq_true rfl⟩, rfl, rfl⟩ hK hP hD hS hX hA (h12 0 (by decide)) (cF_m E _ _ 0) rfl rfl hl.1 rfl (Nat.le_of_ble_eq_true rfl) ⟨Nat.zero_le _, Nat.zero_le _⟩ dX8_number_46 (fun v_18 I_16 J_17 H locs hf hP hD hS => ?_)
          refine R_cSi (As := [.int v_18]) (rest := []) S (c_X8_isDigit   hf) gX8_number_X8_isDigit rfl yk_X8_isDigit ⟨⟨Nat.le_of_ble_eq_true rfl, Nat.le_of_ble_eq_true rfl⟩, rfl, rfl⟩ hK hP hD hS hX hA rfl hl.1 rfl (Nat.le_of_ble_eq_true rfl) ⟨Nat.zero_le _, Nat.zero_le _⟩ dX8_number_49 (fun v_21 I_19 J_20 H locs hf hP hD hS => ?_)
          refine lv_if_eq (tgt := 90) S.1 S.2.1 dX8_number_52 (by decide) (fun h_22 => ?_) (fun h_22 => ?_)
          · have hf := hf.1 h_22
            exact kx90 _ _ _ hf _ _ _ hP hD hS (lv_sub hl [0, 1, 2, 3] rfl)
          · have hf := hf.2 h_22
            refine lv_ldc (v := 100000000) S.1 S.2.1 S.2.2.2.1 k3 dX8_number_55 ?_
            refine lv_bipush (v := 10) S.1 S.2.1 dX8_number_57 rfl ?_
            refine lv_iload_n S.1 S.2.1 dX8_number_59 rfl (lv_at hl 3 rfl) ?_
            refine lv_imul S.1 S.2.1 dX8_number_60 ?_
            refine lv_aload_n S.1 S.2.1 dX8_number_61 rfl (lv_at hl 0 rfl) ?_
            refine lv_aload_n S.1 S.2.1 dX8_number_62 rfl (lv_at hl 0 rfl) ?_
            refine gfX8_4 S iX8 hK hP (h12 0 (by decide)) k1 dX8_number_63 ?_
            refine R_cVi (As := [.int (I_19 12 0 4)]) (rest := [.int ((10 : Int32) * x3_13), .int (100000000 : Int32)]) S (c_X8_byteAt (h12 := h12)  hf) gX8_number_X8_byteAt rfl yk_X8_byteAt ⟨⟨Nat.le_of_ble_eq_true rfl, Nat.le_of_ble_eq_true rfl⟩, rfl, rfl⟩ hK hP hD hS hX hA (h12 0 (by decide)) (cF_m E _ _ 0) rfl rfl hl.1 rfl (Nat.le_of_ble_eq_true rfl) ⟨Nat.zero_le _, Nat.zero_le _⟩ dX8_number_66 (fun v_25 I_23 J_24 H locs hf hP hD hS => ?_)
            refine lv_iadd S.1 S.2.1 dX8_number_69 ?_
            refine lv_bipush (v := 48) S.1 S.2.1 dX8_number_70 rfl ?_
            refine lv_isub S.1 S.2.1 dX8_number_72 ?_
            refine R_cSi (As := [.int (100000000 : Int32), .int ((((10 : Int32) * x3_13) + v_25) - (48 : Int32))]) (rest := []) S (c_X8_min   hf) gX8_number_X8_min rfl yk_X8_min ⟨⟨Nat.le_of_ble_eq_true rfl, Nat.le_of_ble_eq_true rfl⟩, rfl, rfl⟩ hK hP hD hS hX hA rfl hl.1 rfl (Nat.le_of_ble_eq_true rfl) ⟨Nat.zero_le _, Nat.zero_le _⟩ dX8_number_73 (fun v_28 I_26 J_27 H locs hf hP hD hS => ?_)
            refine lv_istore_n (lv' := [(3, .int v_28), (0, .ref (eA E 12 0)), (1, .int x1), (2, .int x2)]) S.1 S.2.1 dX8_number_76 rfl hl (by decide) rfl (fun ls hl => ?_)
            refine lv_aload_n S.1 S.2.1 dX8_number_77 rfl (lv_at hl 1 rfl) ?_
            refine lv_dup S.1 S.2.1 dX8_number_78 rfl ?_
            refine gfX8_4 S iX8 hK hP (h12 0 (by decide)) k1 dX8_number_79 ?_
            refine lv_iconst (v := 1) S.1 S.2.1 dX8_number_82 rfl ?_
            refine lv_iadd S.1 S.2.1 dX8_number_83 ?_
            refine nm_o hf (fun I_29 eI_29 hf => ?_)
            refine pfX8_4 S iX8 hK hP hD hS (h12 0 (by decide)) k1 dX8_number_84 eI_29 (fun H locs hP hD hS => ?_)
            refine lv_goto (tgt := 41) S.1 S.2.1 dX8_number_87 (by decide) ?_
            exact ih41 _ _ _ hf _ _ _ hP hD hS (lv_sub hl [1, 2, 3, 0] rfl)
      refine L41 _ (fun x3_30 I_31 J_32 hf H locs ls hP hD hS hl => ?_)  n_46 _ _ _ hf _ _ _ hP hD hS (lv_sub hl [1, 2, 3, 0] rfl)
      refine lv_iload_n S.1 S.2.1 dX8_number_90 rfl (lv_at hl 3 rfl) ?_
      refine lv_iload_n S.1 S.2.1 dX8_number_91 rfl (lv_at hl 1 rfl) ?_
      refine lv_iload_n S.1 S.2.1 dX8_number_92 rfl (lv_at hl 2 rfl) ?_
      refine R_cSi (As := [.int x3_30, .int x1, .int x2]) (rest := []) S (c_X8_in   hf) gX8_number_X8_in rfl yk_X8_in ⟨⟨Nat.le_of_ble_eq_true rfl, Nat.le_of_ble_eq_true rfl⟩, rfl, rfl⟩ hK hP hD hS hX hA rfl hl.1 rfl (Nat.le_of_ble_eq_true rfl) ⟨Nat.zero_le _, Nat.zero_le _⟩ dX8_number_93 (fun v_35 I_33 J_34 H locs hf hP hD hS => ?_)
      refine lv_if_ne (tgt := 109) S.1 S.2.1 dX8_number_96 (by decide) (fun h_36 => ?_) (fun h_36 => ?_)
      · have hf := hf.2 h_36
        exact jn109 _ _ _ hf _ _ _ hP hD hS (lv_sub hl [0, 3] rfl)
      · have hf := hf.1 h_36
        refine lv_aload_n S.1 S.2.1 dX8_number_99 rfl (lv_at hl 0 rfl) ?_
        refine lv_bipush (v := (-3)) S.1 S.2.1 dX8_number_100 rfl ?_
        refine lv_aload_n S.1 S.2.1 dX8_number_102 rfl (lv_at hl 0 rfl) ?_
        refine gfX8_13 S iX8 hK hP (h12 0 (by decide)) k2 dX8_number_103 ?_
        refine R_cVv (As := [.int (-3 : Int32), .int (I_33 12 0 13)]) (rest := []) S (c_X8_report (h12 := h12)  hf) gX8_number_X8_report rfl yk_X8_report ⟨⟨Nat.le_of_ble_eq_true rfl, Nat.le_of_ble_eq_true rfl⟩, rfl, rfl⟩ hK hP hD hS hX hA (h12 0 (by decide)) (cF_m E _ _ 0) rfl rfl hl.1 rfl (Nat.le_of_ble_eq_true rfl) ⟨Nat.zero_le _, Nat.zero_le _⟩ dX8_number_106 (fun I_44 J_45 H locs hf hP hD hS => ?_)
        exact jn109 _ _ _ hf _ _ _ hP hD hS (lv_sub hl [0, 3] rfl)
    · have hf := hf.1 h_11
      refine lv_aload_n S.1 S.2.1 dX8_number_19 rfl (lv_at hl 0 rfl) ?_
      refine lv_bipush (v := (-2)) S.1 S.2.1 dX8_number_20 rfl ?_
      refine lv_aload_n S.1 S.2.1 dX8_number_22 rfl (lv_at hl 0 rfl) ?_
      refine gfX8_4 S iX8 hK hP (h12 0 (by decide)) k1 dX8_number_23 ?_
      refine R_cVv (As := [.int (-2 : Int32), .int (I_8 12 0 4)]) (rest := []) S (c_X8_report (h12 := h12)  hf) gX8_number_X8_report rfl yk_X8_report ⟨⟨Nat.le_of_ble_eq_true rfl, Nat.le_of_ble_eq_true rfl⟩, rfl, rfl⟩ hK hP hD hS hX hA (h12 0 (by decide)) (cF_m E _ _ 0) rfl rfl hl.1 rfl (Nat.le_of_ble_eq_true rfl) ⟨Nat.zero_le _, Nat.zero_le _⟩ dX8_number_26 (fun I_47 J_48 H locs hf hP hD hS => ?_)
      refine lv_iconst (v := 0) S.1 S.2.1 dX8_number_29 rfl ?_
      exact hret hf rfl hP hD hS dX8_number_30
  · have hf := hf.1 h_4
    refine lv_iconst (v := 0) S.1 S.2.1 dX8_number_7 rfl ?_
    exact hret hf rfl hP hD hS dX8_number_8
