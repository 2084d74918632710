abbrev rmX5_readStatement : Room := { frames := 19, cells := 0, slots := 0, locals := 455 }
theorem yk_X5_readStatement : yOk yX5_readStatement RX5 0 := by unfold yOk; decide +kernel
def f_X5_readStatement (I : MI) (J : MJ) (Q : Int32 → MI → MJ → Prop) : Prop :=
  f_X5_runIs 1 I J (fun (v_3 : Int32) (I_1 : MI) (J_2 : MJ) => ((v_3 = (0 : Int32) → f_X5_runIs 2 I_1 J_2 (fun (v_7 : Int32) (I_5 : MI) (J_6 : MJ) => ((v_7 = (0 : Int32) → f_X5_runIs 3 I_5 J_6 (fun (v_11 : Int32) (I_9 : MI) (J_10 : MJ) => ((v_11 = (0 : Int32) → f_X5_runIs 4 I_9 J_10 (fun (v_15 : Int32) (I_13 : MI) (J_14 : MJ) => ((v_15 = (0 : Int32) → f_X5_runIs 5 I_13 J_14 (fun (v_19 : Int32) (I_17 : MI) (J_18 : MJ) => ((v_19 = (0 : Int32) → f_X5_runIs 6 I_17 J_18 (fun (v_23 : Int32) (I_21 : MI) (J_22 : MJ) => ((v_23 = (0 : Int32) → f_X5_runIs 7 I_21 J_22 (fun (v_27 : Int32) (I_25 : MI) (J_26 : MJ) => ((v_27 = (0 : Int32) → f_X5_fail (-2 : Int32) (I_25 11 4 7) I_25 J_26 (fun (v_31 : Int32) (I_29 : MI) (J_30 : MJ) => (bo v_31 ∧ Q v_31 I_29 J_30))) ∧ (¬ v_27 = (0 : Int32) → f_X3_clear 10 I_25 J_26 (fun (I_33 : MI) (J_34 : MJ) => f_X5_tellOnce (16 : Int32) I_33 J_34 (fun (v_37 : Int32) (I_35 : MI) (J_36 : MJ) => ((v_37 = (0 : Int32) → Q (0 : Int32) I_35 J_36) ∧ (¬ v_37 = (0 : Int32) → f_X5_readSum 6 (0 : Int32) I_35 J_36 (fun (v_41 : Int32) (I_39 : MI) (J_40 : MJ) => ((v_41 = (0 : Int32) → Q (0 : Int32) I_39 J_40) ∧ (¬ v_41 = (0 : Int32) → Q (1 : Int32) I_39 J_40))))))))))) ∧ (¬ v_23 = (0 : Int32) → f_X5_readHand I_21 J_22 (fun (v_45 : Int32) (I_43 : MI) (J_44 : MJ) => (bo v_45 ∧ Q v_45 I_43 J_44)))))) ∧ (¬ v_19 = (0 : Int32) → f_X5_readAlike I_17 J_18 (fun (v_49 : Int32) (I_47 : MI) (J_48 : MJ) => (bo v_49 ∧ Q v_49 I_47 J_48)))))) ∧ (¬ v_15 = (0 : Int32) → f_X5_readCrown I_13 J_14 (fun (v_53 : Int32) (I_51 : MI) (J_52 : MJ) => (bo v_53 ∧ Q v_53 I_51 J_52)))))) ∧ (¬ v_11 = (0 : Int32) → f_X5_readBonus I_9 J_10 (fun (v_57 : Int32) (I_55 : MI) (J_56 : MJ) => (bo v_57 ∧ Q v_57 I_55 J_56)))))) ∧ (¬ v_7 = (0 : Int32) → f_X5_readNeed I_5 J_6 (fun (v_61 : Int32) (I_59 : MI) (J_60 : MJ) => (bo v_61 ∧ Q v_61 I_59 J_60)))))) ∧ (¬ v_3 = (0 : Int32) → f_X5_readPlayers I_1 J_2 (fun (v_65 : Int32) (I_63 : MI) (J_64 : MJ) => (bo v_65 ∧ Q v_65 I_63 J_64)))))
set_option maxRecDepth 100000 in
set_option maxHeartbeats 4000000 in
theorem c_X5_readStatement {l : Launch} {E : EV} {ps : List (Nat × Nat)} (h11 : ∀ r, r < 11 → (11, r) ∈ ps) (hG : ∀ k r, k < 11 → r < 16 → (k, r) ∈ ps) {I : MI} {J : MJ} {Q : Int32 → MI → MJ → Prop} (hf : f_X5_readStatement I J Q) : KI l yX5_readStatement wsX5_readStatement rmX5_readStatement E ps [.ref (eA E 11 4)] I J Q := by
  refine K_ofI (cc := cX5_readStatement) (maxL := 1) (ty := .boolean) (by decide +kernel) rfl (Nat.le_of_ble_eq_true rfl) (fun p e s m args below meth c Qm hret S hK hX => ?_)
  have hA : ∀ q, s.heap.size ≤ q → AA E ps s.heap.size q := fun _ h => Or.inr h
  have k1 := S.2.2.2.2 (.fieldLink RX5 85 "RhymeRoofs$SetupReader" "tokenStart" "I") (by decide +kernel)
  have iX5 : ∀ w ∈ wsX50, w ∈ wsX5_readStatement := fun _ h => List.mem_cons_of_mem _ (List.mem_append_left _ (List.mem_append_left _ (List.mem_append_left _ (List.mem_append_right _ h))))
  have k2 := S.2.2.2.2 (.fieldLink RX5 12 "RhymeRoofs$SetupReader" "game" "LRhymeRoofs$Game;") (by decide +kernel)
  have k3 := S.2.2.2.2 (.fieldLink RX5 115 "RhymeRoofs$Game" "rules" "LRhymeRoofs$Rules;") (by decide +kernel)
  have iX1 : ∀ w ∈ wsX10, w ∈ wsX5_readStatement := fun _ h => List.mem_cons_of_mem _ (List.mem_append_left _ (List.mem_append_left _ (List.mem_append_right _ h)))
  have k4 := S.2.2.2.2 (.fieldLink RX5 162 "RhymeRoofs$Rules" "rank" "LRhymeRoofs$Rank;") (by decide +kernel)
  have iX4 : ∀ w ∈ wsX40, w ∈ wsX5_readStatement := fun _ h => List.mem_cons_of_mem _ (List.mem_append_left _ (List.mem_append_right _ h))
  intro H locs ls hP hD hS hl
  unfold f_X5_readStatement at hf
  refine lv_aload_n S.1 S.2.1 dX5_readStatement_0 rfl (lv_at hl 0 rfl) ?_
  refine va_ldcS S.1 S.2.1 S.2.2.2.1 (sxvX5_130 hX) dX5_readStatement_1 ?_
  refine R_cVi (As := [.ref (eK E 1)]) (rest := []) S (c_X5_runIs (h11 := h11) (hG := hG) (hw := (by decide)) hf) gX5_readStatement_X5_runIs rfl yk_X5_runIs ⟨⟨Nat.le_of_ble_eq_true rfl, Nat.le_of_ble_eq_true rfl⟩, rfl, rfl⟩ hK hP hD hS hX hA (h11 4 (by decide)) (cF_o E _ _ 4) rfl rfl hl.1 rfl (Nat.le_of_ble_eq_true rfl) ⟨Nat.zero_le _, Nat.zero_le _⟩ dX5_readStatement_3 (fun v_3 I_1 J_2 H locs hf hP hD hS => ?_)
  refine lv_if_eq (tgt := 14) S.1 S.2.1 dX5_readStatement_6 (by decide) (fun h_4 => ?_) (fun h_4 => ?_)
  · have hf := hf.1 h_4
    refine lv_aload_n S.1 S.2.1 dX5_readStatement_14 rfl (lv_at hl 0 rfl) ?_
    refine va_ldcS S.1 S.2.1 S.2.2.2.1 (sxvX5_135 hX) dX5_readStatement_15 ?_
    refine R_cVi (As := [.ref (eK E 2)]) (rest := []) S (c_X5_runIs (h11 := h11) (hG := hG) (hw := (by decide)) hf) gX5_readStatement_X5_runIs rfl yk_X5_runIs ⟨⟨Nat.le_of_ble_eq_true rfl, Nat.le_of_ble_eq_true rfl⟩, rfl, rfl⟩ hK hP hD hS hX hA (h11 4 (by decide)) (cF_o E _ _ 4) rfl rfl hl.1 rfl (Nat.le_of_ble_eq_true rfl) ⟨Nat.zero_le _, Nat.zero_le _⟩ dX5_readStatement_17 (fun v_7 I_5 J_6 H locs hf hP hD hS => ?_)
    refine lv_if_eq (tgt := 28) S.1 S.2.1 dX5_readStatement_20 (by decide) (fun h_8 => ?_) (fun h_8 => ?_)
    · have hf := hf.1 h_8
      refine lv_aload_n S.1 S.2.1 dX5_readStatement_28 rfl (lv_at hl 0 rfl) ?_
      refine va_ldcS S.1 S.2.1 S.2.2.2.1 (sxvX5_140 hX) dX5_readStatement_29 ?_
      refine R_cVi (As := [.ref (eK E 3)]) (rest := []) S (c_X5_runIs (h11 := h11) (hG := hG) (hw := (by decide)) hf) gX5_readStatement_X5_runIs rfl yk_X5_runIs ⟨⟨Nat.le_of_ble_eq_true rfl, Nat.le_of_ble_eq_true rfl⟩, rfl, rfl⟩ hK hP hD hS hX hA (h11 4 (by decide)) (cF_o E _ _ 4) rfl rfl hl.1 rfl (Nat.le_of_ble_eq_true rfl) ⟨Nat.zero_le _, Nat.zero_le _⟩ dX5_readStatement_31 (fun v_11 I_9 J_10 H locs hf hP hD hS => ?_)
      refine lv_if_eq (tgt := 42) S.1 S.2.1 dX5_readStatement_34 (by decide) (fun h_12 => ?_) (fun h_12 => ?_)
      · have hf := hf.1 h_12
        refine lv_aload_n S.1 S.2.1 dX5_readStatement_42 rfl (lv_at hl 0 rfl) ?_
        refine va_ldcS S.1 S.2.1 S.2.2.2.1 (sxvX5_145 hX) dX5_readStatement_43 ?_
        refine R_cVi (As := [.ref (eK E 4)]) (rest := []) S (c_X5_runIs (h11 := h11) (hG := hG) (hw := (by decide)) hf) gX5_readStatement_X5_runIs rfl yk_X5_runIs ⟨⟨Nat.le_of_ble_eq_true rfl, Nat.le_of_ble_eq_true rfl⟩, rfl, rfl⟩ hK hP hD hS hX hA (h11 4 (by decide)) (cF_o E _ _ 4) rfl rfl hl.1 rfl (Nat.le_of_ble_eq_true rfl) ⟨Nat.zero_le _, Nat.zero_le _⟩ dX5_readStatement_45 (fun v_15 I_13 J_14 H locs hf hP hD hS => ?_)
        refine lv_if_eq (tgt := 56) S.1 S.2.1 dX5_readStatement_48 (by decide) (fun h_16 => ?_) (fun h_16 => ?_)
        · have hf := hf.1 h_16
          refine lv_aload_n S.1 S.2.1 dX5_readStatement_56 rfl (lv_at hl 0 rfl) ?_
          refine va_ldcS S.1 S.2.1 S.2.2.2.1 (sxvX5_150 hX) dX5_readStatement_57 ?_
          refine R_cVi (As := [.ref (eK E 5)]) (rest := []) S (c_X5_runIs (h11 := h11) (hG := hG) (hw := (by decide)) hf) gX5_readStatement_X5_runIs rfl yk_X5_runIs ⟨⟨Nat.le_of_ble_eq_true rfl, Nat.le_of_ble_eq_true rfl⟩, rfl, rfl⟩ hK hP hD hS hX hA (h11 4 (by decide)) (cF_o E _ _ 4) rfl rfl hl.1 rfl (Nat.le_of_ble_eq_true rfl) ⟨Nat.zero_le _, Nat.zero_le _⟩ dX5_readStatement_59 (fun v_19 I_17 J_18 H locs hf hP hD hS => ?_)
          refine lv_if_eq (tgt := 70) S.1 S.2.1 dX5_readStatement_62 (by decide) (fun h_20 => ?_) (fun h_20 => ?_)
          · have hf := hf.1 h_20
            refine lv_aload_n S.1 S.2.1 dX5_readStatement_70 rfl (lv_at hl 0 rfl) ?_
            refine va_ldcS S.1 S.2.1 S.2.2.2.1 (sxvX5_155 hX) dX5_readStatement_71 ?_
            refine R_cVi (As := [.ref (eK E 6)]) (rest := []) S (c_X5_runIs (h11 := h11) (hG := hG) (hw := (by decide)) hf) gX5_readStatement_X5_runIs rfl yk_X5_runIs ⟨⟨Nat.le_of_ble_eq_true rfl, Nat.le_of_ble_eq_true rfl⟩, rfl, rfl⟩ hK hP hD hS hX hA (h11 4 (by decide)) (cF_o E _ _ 4) rfl rfl hl.1 rfl (Nat.le_of_ble_eq_true rfl) ⟨Nat.zero_le _, Nat.zero_le _⟩ dX5_readStatement_73 (fun v_23 I_21 J_22 H locs hf hP hD hS => ?_)
            refine lv_if_eq (tgt := 84) S.1 S.2.1 dX5_readStatement_76 (by decide) (fun h_24 => ?_) (fun h_24 => ?_)
            · have hf := hf.1 h_24
              refine lv_aload_n S.1 S.2.1 dX5_readStatement_84 rfl (lv_at hl 0 rfl) ?_
              refine va_ldcS S.1 S.2.1 S.2.2.2.1 (sxvX5_160 hX) dX5_readStatement_85 ?_
              refine R_cVi (As := [.ref (eK E 7)]) (rest := []) S (c_X5_runIs (h11 := h11) (hG := hG) (hw := (by decide)) hf) gX5_readStatement_X5_runIs rfl yk_X5_runIs ⟨⟨Nat.le_of_ble_eq_true rfl, Nat.le_of_ble_eq_true rfl⟩, rfl, rfl⟩ hK hP hD hS hX hA (h11 4 (by decide)) (cF_o E _ _ 4) rfl rfl hl.1 rfl (Nat.le_of_ble_eq_true rfl) ⟨Nat.zero_le _, Nat.zero_le _⟩ dX5_readStatement_87 (fun v_27 I_25 J_26 H locs hf hP hD hS => ?_)
              refine lv_if_eq (tgt := 129) S.1 S.2.1 dX5_readStatement_90 (by decide) (fun h_28 => ?_) (fun h_28 => ?_)
              · have hf := hf.1 h_28
                refine lv_aload_n S.1 S.2.1 dX5_readStatement_129 rfl (lv_at hl 0 rfl) ?_
                refine lv_bipush (v := (-2)) S.1 S.2.1 dX5_readStatement_130 rfl ?_
                refine lv_aload_n S.1 S.2.1 dX5_readStatement_132 rfl (lv_at hl 0 rfl) ?_
                refine gfX5_7 S iX5 hK hP (h11 4 (by decide)) k1 dX5_readStatement_133 ?_
                refine R_cVi (As := [.int (-2 : Int32), .int (I_25 11 4 7)]) (rest := []) S (c_X5_fail (h11 := h11) (hG := hG)  hf) gX5_readStatement_X5_fail rfl yk_X5_fail ⟨⟨Nat.le_of_ble_eq_true rfl, Nat.le_of_ble_eq_true rfl⟩, rfl, rfl⟩ hK hP hD hS hX hA (h11 4 (by decide)) (cF_o E _ _ 4) rfl rfl hl.1 rfl (Nat.le_of_ble_eq_true rfl) ⟨Nat.zero_le _, Nat.zero_le _⟩ dX5_readStatement_136 (fun v_31 I_29 J_30 H locs hf hP hD hS => ?_)
                obtain ⟨h_32, hf⟩ := hf
                exact hret hf h_32.1 hP hD hS dX5_readStatement_139
              · have hf := hf.2 h_28
                refine lv_aload_n S.1 S.2.1 dX5_readStatement_93 rfl (lv_at hl 0 rfl) ?_
                refine gfX5_0 S iX5 hK hP (h11 4 (by decide)) k2 dX5_readStatement_94 ?_
                refine gfX1_0 S iX1 hK hP (by decide) ((fun r => hG 10 r (by decide)) 0 (by decide)) k3 dX5_readStatement_97 ?_
                refine gfX4_2 S iX4 hK hP (by decide) ((fun r => hG 10 r (by decide)) 1 (by decide)) k4 dX5_readStatement_100 ?_
                refine R_cVv (As := []) (rest := []) S (c_X3_clear (hB := (by decide)) (hM := (fun r => hG 10 r (by decide)))  hf) gX5_readStatement_X3_clear rfl yk_X3_clear ⟨⟨Nat.le_of_ble_eq_true rfl, Nat.le_of_ble_eq_true rfl⟩, rfl, rfl⟩ hK hP hD hS hX hA ((fun r => hG 10 r (by decide)) 2 (by decide)) (cF_g E (by decide) _ _ 2) rfl rfl hl.1 rfl (Nat.le_of_ble_eq_true rfl) ⟨Nat.zero_le _, Nat.zero_le _⟩ dX5_readStatement_103 (fun I_33 J_34 H locs hf hP hD hS => ?_)
                refine lv_aload_n S.1 S.2.1 dX5_readStatement_106 rfl (lv_at hl 0 rfl) ?_
                refine lv_bipush (v := 16) S.1 S.2.1 dX5_readStatement_107 rfl ?_
                refine R_cVi (As := [.int (16 : Int32)]) (rest := []) S (c_X5_tellOnce (h11 := h11) (hG := hG)  hf) gX5_readStatement_X5_tellOnce rfl yk_X5_tellOnce ⟨⟨Nat.le_of_ble_eq_true rfl, Nat.le_of_ble_eq_true rfl⟩, rfl, rfl⟩ hK hP hD hS hX hA (h11 4 (by decide)) (cF_o E _ _ 4) rfl rfl hl.1 rfl (Nat.le_of_ble_eq_true rfl) ⟨Nat.zero_le _, Nat.zero_le _⟩ dX5_readStatement_109 (fun v_37 I_35 J_36 H locs hf hP hD hS => ?_)
                refine lv_if_eq (tgt := 127) S.1 S.2.1 dX5_readStatement_112 (by decide) (fun h_38 => ?_) (fun h_38 => ?_)
                · have hf := hf.1 h_38
                  refine lv_iconst (v := 0) S.1 S.2.1 dX5_readStatement_127 rfl ?_
                  exact hret hf rfl hP hD hS dX5_readStatement_128
                · have hf := hf.2 h_38
                  refine lv_aload_n S.1 S.2.1 dX5_readStatement_115 rfl (lv_at hl 0 rfl) ?_
                  refine lv_iconst (v := 0) S.1 S.2.1 dX5_readStatement_116 rfl ?_
                  refine R_cVi (As := [.int (0 : Int32)]) (rest := []) S (c_X5_readSum 6 (h11 := h11) (hG := hG)  hf) gX5_readStatement_X5_readSum rfl yk_X5_readSum ⟨⟨Nat.le_of_ble_eq_true rfl, Nat.le_of_ble_eq_true rfl⟩, rfl, rfl⟩ hK hP hD hS hX hA (h11 4 (by decide)) (cF_o E _ _ 4) rfl rfl hl.1 rfl (Nat.le_of_ble_eq_true rfl) ⟨Nat.zero_le _, Nat.zero_le _⟩ dX5_readStatement_117 (fun v_41 I_39 J_40 H locs hf hP hD hS => ?_)
                  refine lv_if_eq (tgt := 127) S.1 S.2.1 dX5_readStatement_120 (by decide) (fun h_42 => ?_) (fun h_42 => ?_)
                  · have hf := hf.1 h_42
                    refine lv_iconst (v := 0) S.1 S.2.1 dX5_readStatement_127 rfl ?_
                    exact hret hf rfl hP hD hS dX5_readStatement_128
                  · have hf := hf.2 h_42
                    refine lv_iconst (v := 1) S.1 S.2.1 dX5_readStatement_123 rfl ?_
                    refine lv_goto (tgt := 128) S.1 S.2.1 dX5_readStatement_124 (by decide) ?_
                    exact hret hf rfl hP hD hS dX5_readStatement_128
            · have hf := hf.2 h_24
              refine lv_aload_n S.1 S.2.1 dX5_readStatement_79 rfl (lv_at hl 0 rfl) ?_
              refine R_cVi (As := []) (rest := []) S (c_X5_readHand (h11 := h11) (hG := hG)  hf) gX5_readStatement_X5_readHand rfl yk_X5_readHand ⟨⟨Nat.le_of_ble_eq_true rfl, Nat.le_of_ble_eq_true rfl⟩, rfl, rfl⟩ hK hP hD hS hX hA (h11 4 (by decide)) (cF_o E _ _ 4) rfl rfl hl.1 rfl (Nat.le_of_ble_eq_true rfl) ⟨Nat.zero_le _, Nat.zero_le _⟩ dX5_readStatement_80 (fun v_45 I_43 J_44 H locs hf hP hD hS => ?_)
              obtain ⟨h_46, hf⟩ := hf
              exact hret hf h_46.1 hP hD hS dX5_readStatement_83
          · have hf := hf.2 h_20
            refine lv_aload_n S.1 S.2.1 dX5_readStatement_65 rfl (lv_at hl 0 rfl) ?_
            refine R_cVi (As := []) (rest := []) S (c_X5_readAlike (h11 := h11) (hG := hG)  hf) gX5_readStatement_X5_readAlike rfl yk_X5_readAlike ⟨⟨Nat.le_of_ble_eq_true rfl, Nat.le_of_ble_eq_true rfl⟩, rfl, rfl⟩ hK hP hD hS hX hA (h11 4 (by decide)) (cF_o E _ _ 4) rfl rfl hl.1 rfl (Nat.le_of_ble_eq_true rfl) ⟨Nat.zero_le _, Nat.zero_le _⟩ dX5_readStatement_66 (fun v_49 I_47 J_48 H locs hf hP hD hS => ?_)
            obtain ⟨h_50, hf⟩ := hf
            exact hret hf h_50.1 hP hD hS dX5_readStatement_69
        · have hf := hf.2 h_16
          refine lv_aload_n S.1 S.2.1 dX5_readStatement_51 rfl (lv_at hl 0 rfl) ?_
          refine R_cVi (As := []) (rest := []) S (c_X5_readCrown (h11 := h11) (hG := hG)  hf) gX5_readStatement_X5_readCrown rfl yk_X5_readCrown ⟨⟨Nat.le_of_ble_eq_true rfl, Nat.le_of_ble_eq_true rfl⟩, rfl, rfl⟩ hK hP hD hS hX hA (h11 4 (by decide)) (cF_o E _ _ 4) rfl rfl hl.1 rfl (Nat.le_of_ble_eq_true rfl) ⟨Nat.zero_le _, Nat.zero_le _⟩ dX5_readStatement_52 (fun v_53 I_51 J_52 H locs hf hP hD hS => ?_)
          obtain ⟨h_54, hf⟩ := hf
          exact hret hf h_54.1 hP hD hS dX5_readStatement_55
      · have hf := hf.2 h_12
        refine lv_aload_n S.1 S.2.1 dX5_readStatement_37 rfl (lv_at hl 0 rfl) ?_
        refine R_cVi (As := []) (rest := []) S (c_X5_readBonus (h11 := h11) (hG := hG)  hf) gX5_readStatement_X5_readBonus rfl yk_X5_readBonus ⟨⟨Nat.le_of_ble_eq_true rfl, Nat.le_of_ble_eq_true rfl⟩, rfl, rfl⟩ hK hP hD hS hX hA (h11 4 (by decide)) (cF_o E _ _ 4) rfl rfl hl.1 rfl (Nat.le_of_ble_eq_true rfl) ⟨Nat.zero_le _, Nat.zero_le _⟩ dX5_readStatement_38 (fun v_57 I_55 J_56 H locs hf hP hD hS => ?_)
        obtain ⟨h_58, hf⟩ := hf
        exact hret hf h_58.1 hP hD hS dX5_readStatement_41
    · have hf := hf.2 h_8
      refine lv_aload_n S.1 S.2.1 dX5_readStatement_23 rfl (lv_at hl 0 rfl) ?_
      refine R_cVi (As := []) (rest := []) S (c_X5_readNeed (h11 := h11) (hG := hG)  hf) gX5_readStatement_X5_readNeed rfl yk_X5_readNeed ⟨⟨Nat.le_of_ble_eq_true rfl, Nat.le_of_ble_eq_true rfl⟩, rfl, rfl⟩ hK hP hD hS hX hA (h11 4 (by decide)) (cF_o E _ _ 4) rfl rfl hl.1 rfl (Nat.le_of_ble_eq_true rfl) ⟨Nat.zero_le _, Nat.zero_le _⟩ dX5_readStatement_24 (fun v_61 I_59 J_60 H locs hf hP hD hS => ?_)
      obtain ⟨h_62, hf⟩ := hf
      exact hret hf h_62.1 hP hD hS dX5_readStatement_27
  · have hf := hf.2 h_4
    refine lv_aload_n S.1 S.2.1 dX5_readStatement_9 rfl (lv_at hl 0 rfl) ?_
    refine R_cVi (As := []) (rest := []) S (c_X5_readPlayers (h11 := h11) (hG := hG)  hf) gX5_readStatement_X5_readPlayers rfl yk_X5_readPlayers ⟨⟨Nat.le_of_ble_eq_true rfl, Nat.le_of_ble_eq_true rfl⟩, rfl, rfl⟩ hK hP hD hS hX hA (h11 4 (by decide)) (cF_o E _ _ 4) rfl rfl hl.1 rfl (Nat.le_of_ble_eq_true rfl) ⟨Nat.zero_le _, Nat.zero_le _⟩ dX5_readStatement_10 (fun v_65 I_63 J_64 H locs hf hP hD hS => ?_)
    obtain ⟨h_66, hf⟩ := hf
    exact hret hf h_66.1 hP hD hS dX5_readStatement_13
