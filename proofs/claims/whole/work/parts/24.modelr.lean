abbrev rmX8_ofChains : Room := { frames := 6, cells := 0, slots := 0, locals := 141 }
theorem yk_X8_ofChains : yOk yX8_ofChains RX8 3 := by unfold yOk; decide +kernel
def f_X8_ofChains_J122 (K133 : Int32 → MI → MJ → Prop) (rec32 : Int32 → Int32 → MI → MJ → Prop) (x1_15 : Int32) (x2_16 : Int32) (x3_17 : Int32) (x5_19 : Int32) (x6_20 : Int32) (x7_31 : Int32) (s_32 : Int32) (s_33 : Int32) (I_34 : MI) (J_35 : MJ) : Prop :=
  f_X8_max s_33 s_32 I_34 J_35 (fun (v_38 : Int32) (I_36 : MI) (J_37 : MJ) => ∀ x7_39 : Int32, x7_39 = x7_31 + (1 : Int32) → rec32 v_38 x7_39 I_36 J_37)
def f_X8_ofChains_B32 (x1_15 : Int32) (x2_16 : Int32) (x3_17 : Int32) (x5_19 : Int32) (x6_20 : Int32) (K133 : Int32 → MI → MJ → Prop) (rec32 : Int32 → Int32 → MI → MJ → Prop) (x4_18 : Int32) (x7_21 : Int32) (I_22 : MI) (J_23 : MJ) : Prop :=
  ((x5_19 ≤ x7_21 → K133 x4_18 I_22 J_23) ∧ (¬ x5_19 ≤ x7_21 → ∀ x8_25 : Int32, x8_25 = (((8 : Int32) * x6_20) + x7_21) → (vp_in x8_25 2048 ∧ (((I_22 12 15 x8_25.toNatClampNeg) = (0 : Int32) → ∀ x7_55 : Int32, x7_55 = x7_21 + (1 : Int32) → rec32 x4_18 x7_55 I_22 J_23) ∧ (¬ (I_22 12 15 x8_25.toNatClampNeg) = (0 : Int32) → ((x3_17 = (2 : Int32) → f_X8_lettersOf x1_15 x6_20 I_22 J_23 (fun (v_45 : Int32) (I_43 : MI) (J_44 : MJ) => f_X8_free x2_16 I_43 J_44 (fun (v_48 : Int32) (I_46 : MI) (J_47 : MJ) => ((v_45 = v_48 → (vp_in x8_25 2048 ∧ ∀ x4_53 : Int32, x4_53 = (x4_18 + (I_46 12 15 x8_25.toNatClampNeg)) → ∀ x7_54 : Int32, x7_54 = x7_21 + (1 : Int32) → rec32 x4_53 x7_54 I_46 J_47)) ∧ (¬ v_45 = v_48 → ∀ x4_50 : Int32, x4_50 = (x4_18 + (0 : Int32)) → ∀ x7_51 : Int32, x7_51 = x7_21 + (1 : Int32) → rec32 x4_50 x7_51 I_46 J_47))))) ∧ (¬ x3_17 = (2 : Int32) → ((x3_17 = (0 : Int32) → f_X8_sizeOf x6_20 I_22 J_23 (fun (v_42 : Int32) (I_40 : MI) (J_41 : MJ) => f_X8_ofChains_J122 K133 rec32 x1_15 x2_16 x3_17 x5_19 x6_20 x7_21 v_42 x4_18 I_40 J_41)) ∧ (¬ x3_17 = (0 : Int32) → (vp_in x8_25 2048 ∧ f_X8_ofChains_J122 K133 rec32 x1_15 x2_16 x3_17 x5_19 x6_20 x7_21 (I_22 12 16 x8_25.toNatClampNeg) x4_18 I_22 J_23))))))))))
def f_X8_ofChains_L32 (x1_15 : Int32) (x2_16 : Int32) (x3_17 : Int32) (x5_19 : Int32) (x6_20 : Int32) (K133 : Int32 → MI → MJ → Prop) : Nat → Int32 → Int32 → MI → MJ → Prop
  | 0, _, _, _, _ => False
  | n + 1, x4_18, x7_21, I_22, J_23 => f_X8_ofChains_B32 x1_15 x2_16 x3_17 x5_19 x6_20 K133 (f_X8_ofChains_L32 x1_15 x2_16 x3_17 x5_19 x6_20 K133 n) x4_18 x7_21 I_22 J_23
def f_X8_ofChains_B20 (x1_6 : Int32) (x2_7 : Int32) (x3_8 : Int32) (x5_10 : Int32) (K139 : Int32 → MI → MJ → Prop) (rec20 : Int32 → Int32 → MI → MJ → Prop) (x4_9 : Int32) (x6_11 : Int32) (I_12 : MI) (J_13 : MJ) : Prop :=
  ((((1 : Int32) <<< (x5_10 &&& 31)) ≤ x6_11 → K139 x4_9 I_12 J_13) ∧ (¬ ((1 : Int32) <<< (x5_10 &&& 31)) ≤ x6_11 → ∃ n : Nat, f_X8_ofChains_L32 x1_6 x2_7 x3_8 x5_10 x6_11 (fun (x4_56 : Int32) (I_57 : MI) (J_58 : MJ) => ∀ x6_59 : Int32, x6_59 = x6_11 + (1 : Int32) → rec20 x4_56 x6_59 I_57 J_58) n x4_9 (0 : Int32) I_12 J_13))
def f_X8_ofChains_L20 (x1_6 : Int32) (x2_7 : Int32) (x3_8 : Int32) (x5_10 : Int32) (K139 : Int32 → MI → MJ → Prop) : Nat → Int32 → Int32 → MI → MJ → Prop
  | 0, _, _, _, _ => False
  | n + 1, x4_9, x6_11, I_12, J_13 => f_X8_ofChains_B20 x1_6 x2_7 x3_8 x5_10 K139 (f_X8_ofChains_L20 x1_6 x2_7 x3_8 x5_10 K139 n) x4_9 x6_11 I_12 J_13
def f_X8_ofChains (x1 : Int32) (x2 : Int32) (x3 : Int32) (I : MI) (J : MJ) (Q : Int32 → MI → MJ → Prop) : Prop :=
  f_X8_ofPlayer x1 (1 : Int32) I J (fun (v_3 : Int32) (I_1 : MI) (J_2 : MJ) => f_X8_layChains x1 x2 I_1 J_2 (fun (I_4 : MI) (J_5 : MJ) => ∃ n : Nat, f_X8_ofChains_L20 x1 x2 x3 v_3 (fun (x4_61 : Int32) (I_62 : MI) (J_63 : MJ) => Q x4_61 I_62 J_63) n (0 : Int32) (1 : Int32) I_4 J_5))
set_option maxRecDepth 100000 in
set_option maxHeartbeats 4000000 in
theorem c_X8_ofChains {l : Launch} {E : EV} {ps : List (Nat × Nat)} (h12 : ∀ r, r < 17 → (12, r) ∈ ps) {x1 : Int32} {x2 : Int32} {x3 : Int32} {I : MI} {J : MJ} {Q : Int32 → MI → MJ → Prop} (hf : f_X8_ofChains x1 x2 x3 I J Q) : KI l yX8_ofChains wsX8_ofChains rmX8_ofChains E ps [.ref (eA E 12 0), .int x1, .int x2, .int x3] I J Q := by
  refine K_ofI (cc := cX8_ofChains) (maxL := 9) (ty := .int) (by decide +kernel) rfl (Nat.le_of_ble_eq_true rfl) (fun p e s m args below meth c Qm hret S hK hX => ?_)
  have hA : ∀ q, s.heap.size ≤ q → AA E ps s.heap.size q := fun _ h => Or.inr h
  have k1 := S.2.2.2.2 (.fieldLink RX8 35 "RhymeRoofsModel" "orders" "[I") (by decide +kernel)
  have iX8 : ∀ w ∈ wsX80, w ∈ wsX8_ofChains := fun _ h => List.mem_cons_of_mem _ (List.mem_append_right _ h)
  have k2 := S.2.2.2.2 (.fieldLink RX8 38 "RhymeRoofsModel" "most" "[I") (by decide +kernel)
  intro H locs ls hP hD hS hl
  unfold f_X8_ofChains at hf
  refine lv_iconst (v := 0) S.1 S.2.1 dX8_ofChains_0 rfl ?_
  refine lv_istore (lv' := [(4, .int (0 : Int32)), (0, .ref (eA E 12 0)), (1, .int x1), (2, .int x2), (3, .int x3)]) S.1 S.2.1 dX8_ofChains_1 hl (by decide) rfl (fun ls hl => ?_)
  refine lv_aload_n S.1 S.2.1 dX8_ofChains_3 rfl (lv_at hl 1 rfl) ?_
  refine lv_iload_n S.1 S.2.1 dX8_ofChains_4 rfl (lv_at hl 2 rfl) ?_
  refine lv_iconst (v := 1) S.1 S.2.1 dX8_ofChains_5 rfl ?_
  refine R_cVi (As := [.int x1, .int (1 : Int32)]) (rest := []) S (c_X8_ofPlayer (h12 := h12)  hf) gX8_ofChains_X8_ofPlayer rfl yk_X8_ofPlayer ⟨⟨Nat.le_of_ble_eq_true rfl, Nat.le_of_ble_eq_true rfl⟩, rfl, rfl⟩ hK hP hD hS hX hA (h12 0 (by decide)) (cF_m E _ _ 0) rfl rfl hl.1 rfl (Nat.le_of_ble_eq_true rfl) ⟨Nat.zero_le _, Nat.zero_le _⟩ dX8_ofChains_6 (fun v_3 I_1 J_2 H locs hf hP hD hS => ?_)
  refine lv_istore (lv' := [(5, .int v_3), (4, .int (0 : Int32)), (0, .ref (eA E 12 0)), (1, .int x1), (2, .int x2), (3, .int x3)]) S.1 S.2.1 dX8_ofChains_9 hl (by decide) rfl (fun ls hl => ?_)
  refine lv_aload_n S.1 S.2.1 dX8_ofChains_11 rfl (lv_at hl 2 rfl) ?_
  refine lv_iload_n S.1 S.2.1 dX8_ofChains_12 rfl (lv_at hl 3 rfl) ?_
  refine lv_iload_n S.1 S.2.1 dX8_ofChains_13 rfl (lv_at hl 4 rfl) ?_
  refine R_cVv (As := [.int x1, .int x2]) (rest := []) S (c_X8_layChains (h12 := h12)  hf) gX8_ofChains_X8_layChains rfl yk_X8_layChains ⟨⟨Nat.le_of_ble_eq_true rfl, Nat.le_of_ble_eq_true rfl⟩, rfl, rfl⟩ hK hP hD hS hX hA (h12 0 (by decide)) (cF_m E _ _ 0) rfl rfl hl.1 rfl (Nat.le_of_ble_eq_true rfl) ⟨Nat.zero_le _, Nat.zero_le _⟩ dX8_ofChains_14 (fun I_4 J_5 H locs hf hP hD hS => ?_)
  refine lv_iconst (v := 1) S.1 S.2.1 dX8_ofChains_17 rfl ?_
  refine lv_istore (lv' := [(6, .int (1 : Int32)), (5, .int v_3), (4, .int (0 : Int32)), (0, .ref (eA E 12 0)), (1, .int x1), (2, .int x2), (3, .int x3)]) S.1 S.2.1 dX8_ofChains_18 hl (by decide) rfl (fun ls hl => ?_)
  obtain ⟨n_64, hf⟩ := hf
  have L20 : ∀ (x1_6 : Int32), ∀ (x2_7 : Int32), ∀ (x3_8 : Int32), ∀ (x5_10 : Int32), ∀ (K139 : Int32 → MI → MJ → Prop), (∀ (x4_61 : Int32) (I_62 : MI) (J_63 : MJ), K139 x4_61 I_62 J_63 → Wj p l e (rmX8_ofChains) s m args below meth c Qm E ps 9 I_62 J_63 139 [(4, .int x4_61)] []) → ∀ (n : Nat) (x4_9 : Int32) (x6_11 : Int32) (I_12 : MI) (J_13 : MJ), f_X8_ofChains_L20 x1_6 x2_7 x3_8 x5_10 K139 n x4_9 x6_11 I_12 J_13 → Wj p l e (rmX8_ofChains) s m args below meth c Qm E ps 9 I_12 J_13 20 [(0, .ref (eA E 12 0)), (1, .int x1_6), (2, .int x2_7), (3, .int x3_8), (4, .int x4_9), (5, .int x5_10), (6, .int x6_11)] [] := by
    intro x1_6 x2_7 x3_8 x5_10 K139 kx139 n
    induction n with
    | zero => intro x4_9 x6_11 I_12 J_13 hf; exact hf.elim
    | succ n ih20 =>
      intro x4_9 x6_11 I_12 J_13 hf
      have hf : f_X8_ofChains_B20 x1_6 x2_7 x3_8 x5_10 K139 (f_X8_ofChains_L20 x1_6 x2_7 x3_8 x5_10 K139 n) x4_9 x6_11 I_12 J_13 := hf
      intro H locs ls hP hD hS hl
      unfold f_X8_ofChains_B20 at hf
      refine lv_iload S.1 S.2.1 dX8_ofChains_20 (lv_at hl 6 rfl) ?_
      refine lv_iconst (v := 1) S.1 S.2.1 dX8_ofChains_22 rfl ?_
      refine lv_iload S.1 S.2.1 dX8_ofChains_23 (lv_at hl 5 rfl) ?_
      refine lv_ishl S.1 S.2.1 dX8_ofChains_25 ?_
      refine lv_icmp_ge (tgt := 139) S.1 S.2.1 dX8_ofChains_26 (by decide) (fun h_14 => ?_) (fun h_14 => ?_)
      · have hf := hf.1 h_14
        exact kx139 _ _ _ hf _ _ _ hP hD hS (lv_sub hl [4] rfl)
      · have hf := hf.2 h_14
        refine lv_iconst (v := 0) S.1 S.2.1 dX8_ofChains_29 rfl ?_
        refine lv_istore (lv' := [(7, .int (0 : Int32)), (0, .ref (eA E 12 0)), (1, .int x1_6), (2, .int x2_7), (3, .int x3_8), (4, .int x4_9), (5, .int x5_10), (6, .int x6_11)]) S.1 S.2.1 dX8_ofChains_30 hl (by decide) rfl (fun ls hl => ?_)
        obtain ⟨n_60, hf⟩ := hf
        have L32 : ∀ (x1_15 : Int32), ∀ (x2_16 : Int32), ∀ (x3_17 : Int32), ∀ (x5_19 : Int32), ∀ (x6_20 : Int32), ∀ (K133 : Int32 → MI → MJ → Prop), (∀ (x4_56 : Int32) (I_57 : MI) (J_58 : MJ), K133 x4_56 I_57 J_58 → Wj p l e (rmX8_ofChains) s m args below meth c Qm E ps 9 I_57 J_58 133 [(0, .ref (eA E 12 0)), (1, .int x1_15), (2, .int x2_16), (3, .int x3_17), (4, .int x4_56), (5, .int x5_19), (6, .int x6_20)] []) → ∀ (n : Nat) (x4_18 : Int32) (x7_21 : Int32) (I_22 : MI) (J_23 : MJ), f_X8_ofChains_L32 x1_15 x2_16 x3_17 x5_19 x6_20 K133 n x4_18 x7_21 I_22 J_23 → Wj p l e (rmX8_ofChains) s m args below meth c Qm E ps 9 I_22 J_23 32 [(0, .ref (eA E 12 0)), (1, .int x1_15), (2, .int x2_16), (3, .int x3_17), (4, .int x4_18), (5, .int x5_19), (6, .int x6_20), (7, .int x7_21)] [] := by
          intro x1_15 x2_16 x3_17 x5_19 x6_20 K133 kx133 n
          induction n with
          | zero => intro x4_18 x7_21 I_22 J_23 hf; exact hf.elim
          | succ n ih32 =>
            intro x4_18 x7_21 I_22 J_23 hf
            have hf : f_X8_ofChains_B32 x1_15 x2_16 x3_17 x5_19 x6_20 K133 (f_X8_ofChains_L32 x1_15 x2_16 x3_17 x5_19 x6_20 K133 n) x4_18 x7_21 I_22 J_23 := hf
            have jn122 : ∀ (x7_31 : Int32) (s_32 : Int32) (s_33 : Int32) (I_34 : MI) (J_35 : MJ), f_X8_ofChains_J122 K133 (f_X8_ofChains_L32 x1_15 x2_16 x3_17 x5_19 x6_20 K133 n) x1_15 x2_16 x3_17 x5_19 x6_20 x7_31 s_32 s_33 I_34 J_35 → Wj p l e (rmX8_ofChains) s m args below meth c Qm E ps 9 I_34 J_35 122 [(0, .ref (eA E 12 0)), (1, .int x1_15), (2, .int x2_16), (3, .int x3_17), (5, .int x5_19), (6, .int x6_20), (7, .int x7_31)] [.int s_32, .int s_33] := by
              intro x7_31 s_32 s_33 I_34 J_35 hf H locs ls hP hD hS hl
              unfold f_X8_ofChains_J122 at hf
              refine R_cSi (As := [.int s_33, .int s_32]) (rest := []) S (c_X8_max   hf) gX8_ofChains_X8_max rfl yk_X8_max ⟨⟨Nat.le_of_ble_eq_true rfl, Nat.le_of_ble_eq_true rfl⟩, rfl, rfl⟩ hK hP hD hS hX hA rfl hl.1 rfl (Nat.le_of_ble_eq_true rfl) ⟨Nat.zero_le _, Nat.zero_le _⟩ dX8_ofChains_122 (fun v_38 I_36 J_37 H locs hf hP hD hS => ?_)
              refine lv_istore (lv' := [(4, .int v_38), (0, .ref (eA E 12 0)), (1, .int x1_15), (2, .int x2_16), (3, .int x3_17), (5, .int x5_19), (6, .int x6_20), (7, .int x7_31)]) S.1 S.2.1 dX8_ofChains_125 hl (by decide) rfl (fun ls hl => ?_)
              refine nm_o hf (fun x7_39 ex7_39 hf => ?_)
              refine lv_iinc (v := x7_39) (lv' := [(7, .int x7_39), (4, .int v_38), (0, .ref (eA E 12 0)), (1, .int x1_15), (2, .int x2_16), (3, .int x3_17), (5, .int x5_19), (6, .int x6_20)]) S.1 S.2.1 dX8_ofChains_127 hl (k := 7) rfl (by rw [ex7_39]; rfl) (by decide) rfl (fun ls hl => ?_)
              refine lv_goto (tgt := 32) S.1 S.2.1 dX8_ofChains_130 (by decide) ?_
              exact ih32 _ _ _ _ hf _ _ _ hP hD hS (lv_sub hl [2, 3, 4, 5, 1, 6, 7, 0] rfl)
            intro H locs ls hP hD hS hl
            unfold f_X8_ofChains_B32 at hf
            refine lv_iload S.1 S.2.1 dX8_ofChains_32 (lv_at hl 7 rfl) ?_
            refine lv_iload S.1 S.2.1 dX8_ofChains_34 (lv_at hl 5 rfl) ?_
            refine lv_icmp_ge (tgt := 133) S.1 S.2.1 dX8_ofChains_36 (by decide) (fun h_24 => ?_) (fun h_24 => ?_)
            · have hf := hf.1 h_24
              exact kx133 _ _ _ hf _ _ _ hP hD hS (lv_sub hl [0, 1, 2, 3, 4, 5, 6] rfl)
            · have hf := hf.2 h_24
              refine lv_bipush (v := 8) S.1 S.2.1 dX8_ofChains_39 rfl ?_
              refine lv_iload S.1 S.2.1 dX8_ofChains_41 (lv_at hl 6 rfl) ?_
              refine lv_imul S.1 S.2.1 dX8_ofChains_43 ?_
              refine lv_iload S.1 S.2.1 dX8_ofChains_44 (lv_at hl 7 rfl) ?_
              refine lv_iadd S.1 S.2.1 dX8_ofChains_46 ?_
              refine lv_topi (fun x8_25 ex8_25 => ?_)
              have hf := hf x8_25 ex8_25
              refine lv_istore (lv' := [(8, .int x8_25), (0, .ref (eA E 12 0)), (1, .int x1_15), (2, .int x2_16), (3, .int x3_17), (4, .int x4_18), (5, .int x5_19), (6, .int x6_20), (7, .int x7_21)]) S.1 S.2.1 dX8_ofChains_47 hl (by decide) rfl (fun ls hl => ?_)
              refine lv_aload_n S.1 S.2.1 dX8_ofChains_49 rfl (lv_at hl 1 rfl) ?_
              refine gfX8_19 S iX8 hK hP (h12 0 (by decide)) k1 dX8_ofChains_50 ?_
              refine lv_iload S.1 S.2.1 dX8_ofChains_53 (lv_at hl 0 rfl) ?_
              obtain ⟨h_26, hf⟩ := hf
              refine R_iald S.1 S.2.1 hK hP (h12 15 (by decide)) (IAm15 E) h_26 dX8_ofChains_55 ?_
              refine lv_if_ne (tgt := 62) S.1 S.2.1 dX8_ofChains_56 (by decide) (fun h_27 => ?_) (fun h_27 => ?_)
              · have hf := hf.2 h_27
                refine lv_iload_n S.1 S.2.1 dX8_ofChains_62 rfl (lv_at hl 4 rfl) ?_
                refine lv_iconst (v := 2) S.1 S.2.1 dX8_ofChains_63 rfl ?_
                refine lv_icmp_ne (tgt := 101) S.1 S.2.1 dX8_ofChains_64 (by decide) (fun h_28 => ?_) (fun h_28 => ?_)
                · have hf := hf.2 h_28
                  refine lv_iload S.1 S.2.1 dX8_ofChains_101 (lv_at hl 5 rfl) ?_
                  refine lv_iload_n S.1 S.2.1 dX8_ofChains_103 rfl (lv_at hl 4 rfl) ?_
                  refine lv_if_ne (tgt := 115) S.1 S.2.1 dX8_ofChains_104 (by decide) (fun h_29 => ?_) (fun h_29 => ?_)
                  · have hf := hf.2 h_29
                    refine lv_aload_n S.1 S.2.1 dX8_ofChains_115 rfl (lv_at hl 1 rfl) ?_
                    refine gfX8_20 S iX8 hK hP (h12 0 (by decide)) k2 dX8_ofChains_116 ?_
                    refine lv_iload S.1 S.2.1 dX8_ofChains_119 (lv_at hl 0 rfl) ?_
                    obtain ⟨h_30, hf⟩ := hf
                    refine R_iald S.1 S.2.1 hK hP (h12 16 (by decide)) (IAm16 E) h_30 dX8_ofChains_121 ?_
                    exact jn122 _ _ _ _ _ hf _ _ _ hP hD hS (lv_sub hl [1, 2, 3, 4, 6, 7, 8] rfl)
                  · have hf := hf.1 h_29
                    refine lv_iload S.1 S.2.1 dX8_ofChains_107 (lv_at hl 7 rfl) ?_
                    refine R_cSi (As := [.int x6_20]) (rest := [.int x4_18]) S (c_X8_sizeOf   hf) gX8_ofChains_X8_sizeOf rfl yk_X8_sizeOf ⟨⟨Nat.le_of_ble_eq_true rfl, Nat.le_of_ble_eq_true rfl⟩, rfl, rfl⟩ hK hP hD hS hX hA rfl hl.1 rfl (Nat.le_of_ble_eq_true rfl) ⟨Nat.zero_le _, Nat.zero_le _⟩ dX8_ofChains_109 (fun v_42 I_40 J_41 H locs hf hP hD hS => ?_)
                    refine lv_goto (tgt := 122) S.1 S.2.1 dX8_ofChains_112 (by decide) ?_
                    exact jn122 _ _ _ _ _ hf _ _ _ hP hD hS (lv_sub hl [1, 2, 3, 4, 6, 7, 8] rfl)
                · have hf := hf.1 h_28
                  refine lv_iload S.1 S.2.1 dX8_ofChains_67 (lv_at hl 5 rfl) ?_
                  refine lv_aload_n S.1 S.2.1 dX8_ofChains_69 rfl (lv_at hl 1 rfl) ?_
                  refine lv_iload_n S.1 S.2.1 dX8_ofChains_70 rfl (lv_at hl 2 rfl) ?_
                  refine lv_iload S.1 S.2.1 dX8_ofChains_71 (lv_at hl 7 rfl) ?_
                  refine R_cVi (As := [.int x1_15, .int x6_20]) (rest := [.int x4_18]) S (c_X8_lettersOf (h12 := h12)  hf) gX8_ofChains_X8_lettersOf rfl yk_X8_lettersOf ⟨⟨Nat.le_of_ble_eq_true rfl, Nat.le_of_ble_eq_true rfl⟩, rfl, rfl⟩ hK hP hD hS hX hA (h12 0 (by decide)) (cF_m E _ _ 0) rfl rfl hl.1 rfl (Nat.le_of_ble_eq_true rfl) ⟨Nat.zero_le _, Nat.zero_le _⟩ dX8_ofChains_73 (fun v_45 I_43 J_44 H locs hf hP hD hS => ?_)
                  refine lv_aload_n S.1 S.2.1 dX8_ofChains_76 rfl (lv_at hl 1 rfl) ?_
                  refine lv_iload_n S.1 S.2.1 dX8_ofChains_77 rfl (lv_at hl 3 rfl) ?_
                  refine R_cVi (As := [.int x2_16]) (rest := [.int v_45, .int x4_18]) S (c_X8_free (h12 := h12)  hf) gX8_ofChains_X8_free rfl yk_X8_free ⟨⟨Nat.le_of_ble_eq_true rfl, Nat.le_of_ble_eq_true rfl⟩, rfl, rfl⟩ hK hP hD hS hX hA (h12 0 (by decide)) (cF_m E _ _ 0) rfl rfl hl.1 rfl (Nat.le_of_ble_eq_true rfl) ⟨Nat.zero_le _, Nat.zero_le _⟩ dX8_ofChains_78 (fun v_48 I_46 J_47 H locs hf hP hD hS => ?_)
                  refine lv_icmp_ne (tgt := 94) S.1 S.2.1 dX8_ofChains_81 (by decide) (fun h_49 => ?_) (fun h_49 => ?_)
                  · have hf := hf.2 h_49
                    refine lv_iconst (v := 0) S.1 S.2.1 dX8_ofChains_94 rfl ?_
                    refine lv_iadd S.1 S.2.1 dX8_ofChains_95 ?_
                    refine lv_topi (fun x4_50 ex4_50 => ?_)
                    have hf := hf x4_50 ex4_50
                    refine lv_istore (lv' := [(4, .int x4_50), (8, .int x8_25), (0, .ref (eA E 12 0)), (1, .int x1_15), (2, .int x2_16), (3, .int x3_17), (5, .int x5_19), (6, .int x6_20), (7, .int x7_21)]) S.1 S.2.1 dX8_ofChains_96 hl (by decide) rfl (fun ls hl => ?_)
                    refine lv_goto (tgt := 127) S.1 S.2.1 dX8_ofChains_98 (by decide) ?_
                    refine nm_o hf (fun x7_51 ex7_51 hf => ?_)
                    refine lv_iinc (v := x7_51) (lv' := [(7, .int x7_51), (4, .int x4_50), (8, .int x8_25), (0, .ref (eA E 12 0)), (1, .int x1_15), (2, .int x2_16), (3, .int x3_17), (5, .int x5_19), (6, .int x6_20)]) S.1 S.2.1 dX8_ofChains_127 hl (k := 8) rfl (by rw [ex7_51]; rfl) (by decide) rfl (fun ls hl => ?_)
                    refine lv_goto (tgt := 32) S.1 S.2.1 dX8_ofChains_130 (by decide) ?_
                    exact ih32 _ _ _ _ hf _ _ _ hP hD hS (lv_sub hl [3, 4, 5, 6, 1, 7, 8, 0] rfl)
                  · have hf := hf.1 h_49
                    refine lv_aload_n S.1 S.2.1 dX8_ofChains_84 rfl (lv_at hl 1 rfl) ?_
                    refine gfX8_19 S iX8 hK hP (h12 0 (by decide)) k1 dX8_ofChains_85 ?_
                    refine lv_iload S.1 S.2.1 dX8_ofChains_88 (lv_at hl 0 rfl) ?_
                    obtain ⟨h_52, hf⟩ := hf
                    refine R_iald S.1 S.2.1 hK hP (h12 15 (by decide)) (IAm15 E) h_52 dX8_ofChains_90 ?_
                    refine lv_goto (tgt := 95) S.1 S.2.1 dX8_ofChains_91 (by decide) ?_
                    refine lv_iadd S.1 S.2.1 dX8_ofChains_95 ?_
                    refine lv_topi (fun x4_53 ex4_53 => ?_)
                    have hf := hf x4_53 ex4_53
                    refine lv_istore (lv' := [(4, .int x4_53), (8, .int x8_25), (0, .ref (eA E 12 0)), (1, .int x1_15), (2, .int x2_16), (3, .int x3_17), (5, .int x5_19), (6, .int x6_20), (7, .int x7_21)]) S.1 S.2.1 dX8_ofChains_96 hl (by decide) rfl (fun ls hl => ?_)
                    refine lv_goto (tgt := 127) S.1 S.2.1 dX8_ofChains_98 (by decide) ?_
                    refine nm_o hf (fun x7_54 ex7_54 hf => ?_)
                    refine lv_iinc (v := x7_54) (lv' := [(7, .int x7_54), (4, .int x4_53), (8, .int x8_25), (0, .ref (eA E 12 0)), (1, .int x1_15), (2, .int x2_16), (3, .int x3_17), (5, .int x5_19), (6, .int x6_20)]) S.1 S.2.1 dX8_ofChains_127 hl (k := 8) rfl (by rw [ex7_54]; rfl) (by decide) rfl (fun ls hl => ?_)
                    refine lv_goto (tgt := 32) S.1 S.2.1 dX8_ofChains_130 (by decide) ?_
                    exact ih32 _ _ _ _ hf _ _ _ hP hD hS (lv_sub hl [3, 4, 5, 6, 1, 7, 8, 0] rfl)
              · have hf := hf.1 h_27
                refine lv_goto (tgt := 127) S.1 S.2.1 dX8_ofChains_59 (by decide) ?_
                refine nm_o hf (fun x7_55 ex7_55 hf => ?_)
                refine lv_iinc (v := x7_55) (lv' := [(7, .int x7_55), (8, .int x8_25), (0, .ref (eA E 12 0)), (1, .int x1_15), (2, .int x2_16), (3, .int x3_17), (4, .int x4_18), (5, .int x5_19), (6, .int x6_20)]) S.1 S.2.1 dX8_ofChains_127 hl (k := 8) rfl (by rw [ex7_55]; rfl) (by decide) rfl (fun ls hl => ?_)
                refine lv_goto (tgt := 32) S.1 S.2.1 dX8_ofChains_130 (by decide) ?_
                exact ih32 _ _ _ _ hf _ _ _ hP hD hS (lv_sub hl [2, 3, 4, 5, 6, 7, 8, 0] rfl)
        refine L32 _ _ _ _ _ _ (fun x4_56 I_57 J_58 hf H locs ls hP hD hS hl => ?_)  n_60 _ _ _ _ hf _ _ _ hP hD hS (lv_sub hl [1, 2, 3, 4, 5, 6, 7, 0] rfl)
        refine nm_o hf (fun x6_59 ex6_59 hf => ?_)
        refine lv_iinc (v := x6_59) (lv' := [(6, .int x6_59), (0, .ref (eA E 12 0)), (1, .int x1_6), (2, .int x2_7), (3, .int x3_8), (4, .int x4_56), (5, .int x5_10)]) S.1 S.2.1 dX8_ofChains_133 hl (k := 6) rfl (by rw [ex6_59]; rfl) (by decide) rfl (fun ls hl => ?_)
        refine lv_goto (tgt := 20) S.1 S.2.1 dX8_ofChains_136 (by decide) ?_
        exact ih20 _ _ _ _ hf _ _ _ hP hD hS (lv_sub hl [1, 2, 3, 4, 5, 6, 0] rfl)
  refine L20 _ _ _ _ _ (fun x4_61 I_62 J_63 hf H locs ls hP hD hS hl => ?_)  n_64 _ _ _ _ hf _ _ _ hP hD hS (lv_sub hl [3, 4, 5, 6, 2, 1, 0] rfl)
  refine lv_iload S.1 S.2.1 dX8_ofChains_139 (lv_at hl 0 rfl) ?_
  exact hret hf rfl hP hD hS dX8_ofChains_141
abbrev rmX8_noRow : Room := { frames := 1, cells := 0, slots := 0, locals := 22 }
theorem yk_X8_noRow : yOk yX8_noRow RX8 1 := by unfold yOk; decide +kernel
def f_X8_noRow_J22 (Q : Int32 → MI → MJ → Prop) (s_6 : Int32) (I_7 : MI) (J_8 : MJ) : Prop :=
  f_X8_fails s_6 (1 : Int32) I_7 J_8 (fun (v_11 : Int32) (I_9 : MI) (J_10 : MJ) => (bo v_11 ∧ Q v_11 I_9 J_10))
def f_X8_noRow (x1 : Int32) (I : MI) (J : MJ) (Q : Int32 → MI → MJ → Prop) : Prop :=
  (vp_in (0 : Int32) 1802 ∧ f_X8_in x1 (0 : Int32) ((I 12 2 (0 : Int32).toNatClampNeg) - (1 : Int32)) I J (fun (v_4 : Int32) (I_2 : MI) (J_3 : MJ) => ((v_4 = (0 : Int32) → f_X8_noRow_J22 Q (1 : Int32) I_2 J_3) ∧ (¬ v_4 = (0 : Int32) → f_X8_noRow_J22 Q (0 : Int32) I_2 J_3))))
set_option maxRecDepth 100000 in
set_option maxHeartbeats 4000000 in
theorem c_X8_noRow {l : Launch} {E : EV} {ps : List (Nat × Nat)} (h12 : ∀ r, r < 17 → (12, r) ∈ ps) {x1 : Int32} {I : MI} {J : MJ} {Q : Int32 → MI → MJ → Prop} (hf : f_X8_noRow x1 I J Q) : KI l yX8_noRow wsX8_noRow rmX8_noRow E ps [.ref (eA E 12 0), .int x1] I J Q := by
  refine K_ofI (cc := cX8_noRow) (maxL := 2) (ty := .boolean) (by decide +kernel) rfl (Nat.le_of_ble_eq_true rfl) (fun p e s m args below meth c Qm hret S hK hX => ?_)
  have hA : ∀ q, s.heap.size ≤ q → AA E ps s.heap.size q := fun _ h => Or.inr h
  have k1 := S.2.2.2.2 (.fieldLink RX8 17 "RhymeRoofsModel" "data" "[I") (by decide +kernel)
  have iX8 : ∀ w ∈ wsX80, w ∈ wsX8_noRow := fun _ h => List.mem_cons_of_mem _ (List.mem_append_right _ h)
  have jn22 : ∀ (s_6 : Int32) (I_7 : MI) (J_8 : MJ), f_X8_noRow_J22 Q s_6 I_7 J_8 → Wj p l e (rmX8_noRow) s m args below meth c Qm E ps 2 I_7 J_8 22 [] [.int s_6, .ref (eA E 12 0)] := by
    intro s_6 I_7 J_8 hf H locs ls hP hD hS hl
    unfold f_X8_noRow_J22 at hf
    refine lv_iconst (v := 1) S.1 S.2.1 dX8_noRow_22 rfl ?_
    refine R_cVi (As := [.int s_6, .int (1 : Int32)]) (rest := []) S (c_X8_fails (h12 := h12)  hf) gX8_noRow_X8_fails rfl yk_X8_fails ⟨⟨Nat.le_of_ble_eq_true rfl, Nat.le_of_ble_eq_true rfl⟩, rfl, rfl⟩ hK hP hD hS hX hA (h12 0 (by decide)) (cF_m E _ _ 0) rfl rfl hl.1 rfl (Nat.le_of_ble_eq_true rfl) ⟨Nat.zero_le _, Nat.zero_le _⟩ dX8_noRow_23 (fun v_11 I_9 J_10 H locs hf hP hD hS => ?_)
    obtain ⟨h_12, hf⟩ := hf
    exact hret hf h_12.1 hP hD hS dX8_noRow_26
  intro H locs ls hP hD hS hl
  unfold f_X8_noRow at hf
  refine lv_aload_n S.1 S.2.1 dX8_noRow_0 rfl (lv_at hl 0 rfl) ?_
  refine lv_iload_n S.1 S.2.1 dX8_noRow_1 rfl (lv_at hl 1 rfl) ?_
  refine lv_iconst (v := 0) S.1 S.2.1 dX8_noRow_2 rfl ?_
  refine lv_aload_n S.1 S.2.1 dX8_noRow_3 rfl (lv_at hl 0 rfl) ?_
  refine gfX8_8 S iX8 hK hP (h12 0 (by decide)) k1 dX8_noRow_4 ?_
  refine lv_iconst (v := 0) S.1 S.2.1 dX8_noRow_7 rfl ?_
  obtain ⟨h_1, hf⟩ := hf
  refine R_iald S.1 S.2.1 hK hP (h12 2 (by decide)) (IAm2 E) h_1 dX8_noRow_8 ?_
  refine lv_iconst (v := 1) S.1 S.2.1 dX8_noRow_9 rfl ?_
  refine lv_isub S.1 S.2.1 dX8_noRow_10 ?_
  refine R_cSi (As := [.int x1, .int (0 : Int32), .int ((I 12 2 (0 : Int32).toNatClampNeg) - (1 : Int32))]) (rest := [.ref (eA E 12 0)]) S (c_X8_in   hf) gX8_noRow_X8_in rfl yk_X8_in ⟨⟨Nat.le_of_ble_eq_true rfl, Nat.le_of_ble_eq_true rfl⟩, rfl, rfl⟩ hK hP hD hS hX hA rfl hl.1 rfl (Nat.le_of_ble_eq_true rfl) ⟨Nat.zero_le _, Nat.zero_le _⟩ dX8_noRow_11 (fun v_4 I_2 J_3 H locs hf hP hD hS => ?_)
  refine lv_if_ne (tgt := 21) S.1 S.2.1 dX8_noRow_14 (by decide) (fun h_5 => ?_) (fun h_5 => ?_)
  · have hf := hf.2 h_5
    refine lv_iconst (v := 0) S.1 S.2.1 dX8_noRow_21 rfl ?_
    exact jn22 _ _ _ hf _ _ _ hP hD hS (lv_sub hl [] rfl)
  · have hf := hf.1 h_5
    refine lv_iconst (v := 1) S.1 S.2.1 dX8_noRow_17 rfl ?_
    refine lv_goto (tgt := 22) S.1 S.2.1 dX8_noRow_18 (by decide) ?_
    exact jn22 _ _ _ hf _ _ _ hP hD hS (lv_sub hl [] rfl)
abbrev rmX8_noPlayer : Room := { frames := 1, cells := 0, slots := 0, locals := 22 }
theorem yk_X8_noPlayer : yOk yX8_noPlayer RX8 1 := by unfold yOk; decide +kernel
def f_X8_noPlayer_J22 (Q : Int32 → MI → MJ → Prop) (s_6 : Int32) (I_7 : MI) (J_8 : MJ) : Prop :=
  f_X8_fails s_6 (1 : Int32) I_7 J_8 (fun (v_11 : Int32) (I_9 : MI) (J_10 : MJ) => (bo v_11 ∧ Q v_11 I_9 J_10))
def f_X8_noPlayer (x1 : Int32) (I : MI) (J : MJ) (Q : Int32 → MI → MJ → Prop) : Prop :=
  (vp_in (1 : Int32) 1802 ∧ f_X8_in x1 (0 : Int32) ((I 12 2 (1 : Int32).toNatClampNeg) - (1 : Int32)) I J (fun (v_4 : Int32) (I_2 : MI) (J_3 : MJ) => ((v_4 = (0 : Int32) → f_X8_noPlayer_J22 Q (1 : Int32) I_2 J_3) ∧ (¬ v_4 = (0 : Int32) → f_X8_noPlayer_J22 Q (0 : Int32) I_2 J_3))))
set_option maxRecDepth 100000 in
set_option maxHeartbeats 4000000 in
theorem c_X8_noPlayer {l : Launch} {E : EV} {ps : List (Nat × Nat)} (h12 : ∀ r, r < 17 → (12, r) ∈ ps) {x1 : Int32} {I : MI} {J : MJ} {Q : Int32 → MI → MJ → Prop} (hf : f_X8_noPlayer x1 I J Q) : KI l yX8_noPlayer wsX8_noPlayer rmX8_noPlayer E ps [.ref (eA E 12 0), .int x1] I J Q := by
  refine K_ofI (cc := cX8_noPlayer) (maxL := 2) (ty := .boolean) (by decide +kernel) rfl (Nat.le_of_ble_eq_true rfl) (fun p e s m args below meth c Qm hret S hK hX => ?_)
  have hA : ∀ q, s.heap.size ≤ q → AA E ps s.heap.size q := fun _ h => Or.inr h
  have k1 := S.2.2.2.2 (.fieldLink RX8 17 "RhymeRoofsModel" "data" "[I") (by decide +kernel)
  have iX8 : ∀ w ∈ wsX80, w ∈ wsX8_noPlayer := fun _ h => List.mem_cons_of_mem _ (List.mem_append_right _ h)
  have jn22 : ∀ (s_6 : Int32) (I_7 : MI) (J_8 : MJ), f_X8_noPlayer_J22 Q s_6 I_7 J_8 → Wj p l e (rmX8_noPlayer) s m args below meth c Qm E ps 2 I_7 J_8 22 [] [.int s_6, .ref (eA E 12 0)] := by
    intro s_6 I_7 J_8 hf H locs ls hP hD hS hl
    unfold f_X8_noPlayer_J22 at hf
    refine lv_iconst (v := 1) S.1 S.2.1 dX8_noPlayer_22 rfl ?_
    refine R_cVi (As := [.int s_6, .int (1 : Int32)]) (rest := []) S (c_X8_fails (h12 := h12)  hf) gX8_noPlayer_X8_fails rfl yk_X8_fails ⟨⟨Nat.le_of_ble_eq_true rfl, Nat.le_of_ble_eq_true rfl⟩, rfl, rfl⟩ hK hP hD hS hX hA (h12 0 (by decide)) (cF_m E _ _ 0) rfl rfl hl.1 rfl (Nat.le_of_ble_eq_true rfl) ⟨Nat.zero_le _, Nat.zero_le _⟩ dX8_noPlayer_23 (fun v_11 I_9 J_10 H locs hf hP hD hS => ?_)
    obtain ⟨h_12, hf⟩ := hf
    exact hret hf h_12.1 hP hD hS dX8_noPlayer_26
  intro H locs ls hP hD hS hl
  unfold f_X8_noPlayer at hf
  refine lv_aload_n S.1 S.2.1 dX8_noPlayer_0 rfl (lv_at hl 0 rfl) ?_
  refine lv_iload_n S.1 S.2.1 dX8_noPlayer_1 rfl (lv_at hl 1 rfl) ?_
  refine lv_iconst (v := 0) S.1 S.2.1 dX8_noPlayer_2 rfl ?_
  refine lv_aload_n S.1 S.2.1 dX8_noPlayer_3 rfl (lv_at hl 0 rfl) ?_
  refine gfX8_8 S iX8 hK hP (h12 0 (by decide)) k1 dX8_noPlayer_4 ?_
  refine lv_iconst (v := 1) S.1 S.2.1 dX8_noPlayer_7 rfl ?_
  obtain ⟨h_1, hf⟩ := hf
  refine R_iald S.1 S.2.1 hK hP (h12 2 (by decide)) (IAm2 E) h_1 dX8_noPlayer_8 ?_
  refine lv_iconst (v := 1) S.1 S.2.1 dX8_noPlayer_9 rfl ?_
  refine lv_isub S.1 S.2.1 dX8_noPlayer_10 ?_
  refine R_cSi (As := [.int x1, .int (0 : Int32), .int ((I 12 2 (1 : Int32).toNatClampNeg) - (1 : Int32))]) (rest := [.ref (eA E 12 0)]) S (c_X8_in   hf) gX8_noPlayer_X8_in rfl yk_X8_in ⟨⟨Nat.le_of_ble_eq_true rfl, Nat.le_of_ble_eq_true rfl⟩, rfl, rfl⟩ hK hP hD hS hX hA rfl hl.1 rfl (Nat.le_of_ble_eq_true rfl) ⟨Nat.zero_le _, Nat.zero_le _⟩ dX8_noPlayer_11 (fun v_4 I_2 J_3 H locs hf hP hD hS => ?_)
  refine lv_if_ne (tgt := 21) S.1 S.2.1 dX8_noPlayer_14 (by decide) (fun h_5 => ?_) (fun h_5 => ?_)
  · have hf := hf.2 h_5
    refine lv_iconst (v := 0) S.1 S.2.1 dX8_noPlayer_21 rfl ?_
    exact jn22 _ _ _ hf _ _ _ hP hD hS (lv_sub hl [] rfl)
  · have hf := hf.1 h_5
    refine lv_iconst (v := 1) S.1 S.2.1 dX8_noPlayer_17 rfl ?_
    refine lv_goto (tgt := 22) S.1 S.2.1 dX8_noPlayer_18 (by decide) ?_
    exact jn22 _ _ _ hf _ _ _ hP hD hS (lv_sub hl [] rfl)
