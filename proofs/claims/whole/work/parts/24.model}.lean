abbrev rmX8_load : Room := { frames := 28, cells := 0, slots := 0, locals := 625 }
theorem yk_X8_load : yOk yX8_load RX8 1 := by unfold yOk; decide +kernel
def f_X8_load_B88 (K110 : MI → MJ → Prop) (rec88 : MI → MJ → Prop) (I_27 : MI) (J_28 : MJ) : Prop :=
  f_X8_isGood I_27 J_28 (fun (v_31 : Int32) (I_29 : MI) (J_30 : MJ) => ((v_31 = (0 : Int32) → K110 I_29 J_30) ∧ (¬ v_31 = (0 : Int32) → f_X8_ahead I_29 J_30 (fun (v_35 : Int32) (I_33 : MI) (J_34 : MJ) => ((v_35 = (-1 : Int32) → K110 I_33 J_34) ∧ (¬ v_35 = (-1 : Int32) → f_X8_statement I_33 J_34 (fun (I_37 : MI) (J_38 : MJ) => rec88 I_37 J_38)))))))
def f_X8_load_L88 (K110 : MI → MJ → Prop) : Nat → MI → MJ → Prop
  | 0, _, _ => False
  | n + 1, I_27, J_28 => f_X8_load_B88 K110 (f_X8_load_L88 K110 n) I_27 J_28
def f_X8_load_J110 (Q : Int32 → MI → MJ → Prop) (I_41 : MI) (J_42 : MJ) : Prop :=
  ∀ I_43 : MI, I_43 = sI I_41 12 0 7 (I_41 12 0 6) → f_X8_isGood I_43 J_42 (fun (v_46 : Int32) (I_44 : MI) (J_45 : MJ) => ((v_46 = (0 : Int32) → Q (I_44 12 0 5) I_44 J_45) ∧ (¬ v_46 = (0 : Int32) → f_X8_remember I_44 J_45 (fun (I_48 : MI) (J_49 : MJ) => f_X8_copy 12 3 1802 12 2 1802 (1802 : Int32) I_48 J_49 (fun (I_50 : MI) (J_51 : MJ) => f_X8_wordsOfAll I_50 J_51 (fun (v_54 : Int32) (I_52 : MI) (J_53 : MJ) => Q v_54 I_52 J_53))))))
def f_X8_load_J23 (Q : Int32 → MI → MJ → Prop) (x1_6 : Int32) (s_7 : Int32) (I_8 : MI) (J_9 : MJ) : Prop :=
  f_X8_fails s_7 (1 : Int32) I_8 J_9 (fun (v_12 : Int32) (I_10 : MI) (J_11 : MJ) => ((v_12 = (0 : Int32) → ∀ I_14 : MI, I_14 = sI I_10 12 0 2 (0 : Int32) → ∀ I_15 : MI, I_15 = sI I_14 12 0 3 x1_6 → ∀ I_16 : MI, I_16 = sI I_15 12 0 4 (0 : Int32) → ∀ I_17 : MI, I_17 = sI I_16 12 0 5 (0 : Int32) → ∀ I_18 : MI, I_18 = sI I_17 12 0 6 (-1 : Int32) → ∀ I_19 : MI, I_19 = sI I_18 12 0 14 (0 : Int32) → ∀ I_20 : MI, I_20 = sI I_19 12 0 15 (0 : Int32) → ∀ I_21 : MI, I_21 = sI I_20 12 0 16 (0 : Int32) → ∀ I_22 : MI, I_22 = sI I_21 12 0 17 (0 : Int32) → f_X8_layGame 12 3 1802 I_22 J_11 (fun (I_23 : MI) (J_24 : MJ) => f_X8_readRoof I_23 J_24 (fun (I_25 : MI) (J_26 : MJ) => ∃ n : Nat, f_X8_load_L88 (fun (I_39 : MI) (J_40 : MJ) => f_X8_load_J110 Q I_39 J_40) n  I_25 J_26))) ∧ (¬ v_12 = (0 : Int32) → Q (0 : Int32) I_10 J_11)))
def f_X8_load (x1 : Int32) (I : MI) (J : MJ) (Q : Int32 → MI → MJ → Prop) : Prop :=
  ∀ I_1 : MI, I_1 = sI I 12 0 0 (0 : Int32) → f_X8_in x1 (0 : Int32) (I_1 12 0 2) I_1 J (fun (v_4 : Int32) (I_2 : MI) (J_3 : MJ) => ((v_4 = (0 : Int32) → f_X8_load_J23 Q x1 (1 : Int32) I_2 J_3) ∧ (¬ v_4 = (0 : Int32) → f_X8_load_J23 Q x1 (0 : Int32) I_2 J_3)))
set_option maxRecDepth 100000 in
set_option maxHeartbeats 4000000 in
theorem c_X8_load {l : Launch} {E : EV} {ps : List (Nat × Nat)} (h12 : ∀ r, r < 17 → (12, r) ∈ ps) (hR : (eT E)[3]? = some (eM E, .array .int)) {x1 : Int32} {I : MI} {J : MJ} {Q : Int32 → MI → MJ → Prop} (hf : f_X8_load x1 I J Q) : KI l yX8_load wsX8_load rmX8_load E ps [.ref (eA E 12 0), .int x1] I J Q := by
  refine K_ofI (cc := cX8_load) (maxL := 2) (ty := .int) (by decide +kernel) rfl (Nat.le_of_ble_eq_true rfl) (fun p e s m args below meth c Qm hret S hK hX => ?_)
  have hA : ∀ q, s.heap.size ≤ q → AA E ps s.heap.size q := fun _ h => Or.inr h
  have k1 := S.2.2.2.2 (.fieldLink RX8 49 "RhymeRoofsModel" "thrown" "I") (by decide +kernel)
  have iX8 : ∀ w ∈ wsX80, w ∈ wsX8_load := fun _ h => List.mem_cons_of_mem _ (List.mem_append_right _ h)
  have k2 := S.2.2.2.2 (.fieldLink RX8 59 "RhymeRoofsModel" "bufferLength" "I") (by decide +kernel)
  have k3 := S.2.2.2.2 (.fieldLink RX8 62 "RhymeRoofsModel" "textLength" "I") (by decide +kernel)
  have k4 := S.2.2.2.2 (.fieldLink RX8 65 "RhymeRoofsModel" "position" "I") (by decide +kernel)
  have k5 := S.2.2.2.2 (.fieldLink RX8 71 "RhymeRoofsModel" "error" "I") (by decide +kernel)
  have k6 := S.2.2.2.2 (.fieldLink RX8 74 "RhymeRoofsModel" "errorAt" "I") (by decide +kernel)
  have k7 := S.2.2.2.2 (.fieldLink RX8 114 "RhymeRoofsModel" "nesting" "I") (by decide +kernel)
  have k8 := S.2.2.2.2 (.fieldLink RX8 152 "RhymeRoofsModel" "seen" "I") (by decide +kernel)
  have k9 := S.2.2.2.2 (.fieldLink RX8 164 "RhymeRoofsModel" "hasHand" "Z") (by decide +kernel)
  have k10 := S.2.2.2.2 (.fieldLink RX8 158 "RhymeRoofsModel" "groups" "I") (by decide +kernel)
  have k11 := S.2.2.2.2 (.fieldLink RX8 20 "RhymeRoofsModel" "draft" "[I") (by decide +kernel)
  have k12 := S.2.2.2.2 (.fieldLink RX8 13 "RhymeRoofsModel" "errorOffset" "I") (by decide +kernel)
  have k13 := S.2.2.2.2 (.fieldLink RX8 17 "RhymeRoofsModel" "data" "[I") (by decide +kernel)
  have jn110 : ∀ (I_41 : MI) (J_42 : MJ), f_X8_load_J110 Q I_41 J_42 → Wj p l e (rmX8_load) s m args below meth c Qm E ps 2 I_41 J_42 110 [(0, .ref (eA E 12 0))] [] := by
    intro I_41 J_42 hf H locs ls hP hD hS hl
    unfold f_X8_load_J110 at hf
    refine lv_aload_n S.1 S.2.1 dX8_load_110 rfl (lv_at hl 0 rfl) ?_
    refine lv_aload_n S.1 S.2.1 dX8_load_111 rfl (lv_at hl 0 rfl) ?_
    refine gfX8_6 S iX8 hK hP (h12 0 (by decide)) k6 dX8_load_112 ?_
    refine nm_o hf (fun I_43 eI_43 hf => ?_)
    refine pfX8_7 S iX8 hK hP hD hS (h12 0 (by decide)) k12 dX8_load_115 eI_43 (fun H locs hP hD hS => ?_)
    refine lv_aload_n S.1 S.2.1 dX8_load_118 rfl (lv_at hl 0 rfl) ?_
    refine R_cVi (As := []) (rest := []) S (c_X8_isGood (h12 := h12)  hf) gX8_load_X8_isGood rfl yk_X8_isGood ⟨⟨Nat.le_of_ble_eq_true rfl, Nat.le_of_ble_eq_true rfl⟩, rfl, rfl⟩ hK hP hD hS hX hA (h12 0 (by decide)) (cF_m E _ _ 0) rfl rfl hl.1 rfl (Nat.le_of_ble_eq_true rfl) ⟨Nat.zero_le _, Nat.zero_le _⟩ dX8_load_119 (fun v_46 I_44 J_45 H locs hf hP hD hS => ?_)
    refine lv_if_ne (tgt := 130) S.1 S.2.1 dX8_load_122 (by decide) (fun h_47 => ?_) (fun h_47 => ?_)
    · have hf := hf.2 h_47
      refine lv_aload_n S.1 S.2.1 dX8_load_130 rfl (lv_at hl 0 rfl) ?_
      refine R_cVv (As := []) (rest := []) S (c_X8_remember (h12 := h12) (hR := hR)  hf) gX8_load_X8_remember rfl yk_X8_remember ⟨⟨Nat.le_of_ble_eq_true rfl, Nat.le_of_ble_eq_true rfl⟩, rfl, rfl⟩ hK hP hD hS hX hA (h12 0 (by decide)) (cF_m E _ _ 0) rfl rfl hl.1 rfl (Nat.le_of_ble_eq_true rfl) ⟨Nat.zero_le _, Nat.zero_le _⟩ dX8_load_131 (fun I_48 J_49 H locs hf hP hD hS => ?_)
      refine lv_aload_n S.1 S.2.1 dX8_load_134 rfl (lv_at hl 0 rfl) ?_
      refine gfX8_9 S iX8 hK hP (h12 0 (by decide)) k11 dX8_load_135 ?_
      refine lv_aload_n S.1 S.2.1 dX8_load_138 rfl (lv_at hl 0 rfl) ?_
      refine gfX8_8 S iX8 hK hP (h12 0 (by decide)) k13 dX8_load_139 ?_
      refine lv_sipush (v := 1802) S.1 S.2.1 dX8_load_142 rfl ?_
      refine R_cSv (As := [.ref (eA E 12 3), .ref (eA E 12 2), .int (1802 : Int32)]) (rest := []) S (c_X8_copy  (hm1 := (h12 3 (by decide))) (hc1 := (IAm3 E)) (hm2 := (h12 2 (by decide))) (hc2 := (IAm2 E)) hf) gX8_load_X8_copy rfl yk_X8_copy ⟨⟨Nat.le_of_ble_eq_true rfl, Nat.le_of_ble_eq_true rfl⟩, rfl, rfl⟩ hK hP hD hS hX hA rfl hl.1 rfl (Nat.le_of_ble_eq_true rfl) ⟨Nat.zero_le _, Nat.zero_le _⟩ dX8_load_145 (fun I_50 J_51 H locs hf hP hD hS => ?_)
      refine lv_aload_n S.1 S.2.1 dX8_load_148 rfl (lv_at hl 0 rfl) ?_
      refine R_cVi (As := []) (rest := []) S (c_X8_wordsOfAll (h12 := h12)  hf) gX8_load_X8_wordsOfAll rfl yk_X8_wordsOfAll ⟨⟨Nat.le_of_ble_eq_true rfl, Nat.le_of_ble_eq_true rfl⟩, rfl, rfl⟩ hK hP hD hS hX hA (h12 0 (by decide)) (cF_m E _ _ 0) rfl rfl hl.1 rfl (Nat.le_of_ble_eq_true rfl) ⟨Nat.zero_le _, Nat.zero_le _⟩ dX8_load_149 (fun v_54 I_52 J_53 H locs hf hP hD hS => ?_)
      exact hret hf rfl hP hD hS dX8_load_152
    · have hf := hf.1 h_47
      refine lv_aload_n S.1 S.2.1 dX8_load_125 rfl (lv_at hl 0 rfl) ?_
      refine gfX8_5 S iX8 hK hP (h12 0 (by decide)) k5 dX8_load_126 ?_
      exact hret hf rfl hP hD hS dX8_load_129
  have jn23 : ∀ (x1_6 : Int32) (s_7 : Int32) (I_8 : MI) (J_9 : MJ), f_X8_load_J23 Q x1_6 s_7 I_8 J_9 → Wj p l e (rmX8_load) s m args below meth c Qm E ps 2 I_8 J_9 23 [(0, .ref (eA E 12 0)), (1, .int x1_6)] [.int s_7, .ref (eA E 12 0)] := by
    intro x1_6 s_7 I_8 J_9 hf H locs ls hP hD hS hl
    unfold f_X8_load_J23 at hf
    refine lv_iconst (v := 1) S.1 S.2.1 dX8_load_23 rfl ?_
    refine R_cVi (As := [.int s_7, .int (1 : Int32)]) (rest := []) S (c_X8_fails (h12 := h12)  hf) gX8_load_X8_fails rfl yk_X8_fails ⟨⟨Nat.le_of_ble_eq_true rfl, Nat.le_of_ble_eq_true rfl⟩, rfl, rfl⟩ hK hP hD hS hX hA (h12 0 (by decide)) (cF_m E _ _ 0) rfl rfl hl.1 rfl (Nat.le_of_ble_eq_true rfl) ⟨Nat.zero_le _, Nat.zero_le _⟩ dX8_load_24 (fun v_12 I_10 J_11 H locs hf hP hD hS => ?_)
    refine lv_if_eq (tgt := 32) S.1 S.2.1 dX8_load_27 (by decide) (fun h_13 => ?_) (fun h_13 => ?_)
    · have hf := hf.1 h_13
      refine lv_aload_n S.1 S.2.1 dX8_load_32 rfl (lv_at hl 0 rfl) ?_
      refine lv_iconst (v := 0) S.1 S.2.1 dX8_load_33 rfl ?_
      refine nm_o hf (fun I_14 eI_14 hf => ?_)
      refine pfX8_2 S iX8 hK hP hD hS (h12 0 (by decide)) k2 dX8_load_34 eI_14 (fun H locs hP hD hS => ?_)
      refine lv_aload_n S.1 S.2.1 dX8_load_37 rfl (lv_at hl 0 rfl) ?_
      refine lv_iload_n S.1 S.2.1 dX8_load_38 rfl (lv_at hl 1 rfl) ?_
      refine nm_o hf (fun I_15 eI_15 hf => ?_)
      refine pfX8_3 S iX8 hK hP hD hS (h12 0 (by decide)) k3 dX8_load_39 eI_15 (fun H locs hP hD hS => ?_)
      refine lv_aload_n S.1 S.2.1 dX8_load_42 rfl (lv_at hl 0 rfl) ?_
      refine lv_iconst (v := 0) S.1 S.2.1 dX8_load_43 rfl ?_
      refine nm_o hf (fun I_16 eI_16 hf => ?_)
      refine pfX8_4 S iX8 hK hP hD hS (h12 0 (by decide)) k4 dX8_load_44 eI_16 (fun H locs hP hD hS => ?_)
      refine lv_aload_n S.1 S.2.1 dX8_load_47 rfl (lv_at hl 0 rfl) ?_
      refine lv_iconst (v := 0) S.1 S.2.1 dX8_load_48 rfl ?_
      refine nm_o hf (fun I_17 eI_17 hf => ?_)
      refine pfX8_5 S iX8 hK hP hD hS (h12 0 (by decide)) k5 dX8_load_49 eI_17 (fun H locs hP hD hS => ?_)
      refine lv_aload_n S.1 S.2.1 dX8_load_52 rfl (lv_at hl 0 rfl) ?_
      refine lv_iconst (v := (-1)) S.1 S.2.1 dX8_load_53 rfl ?_
      refine nm_o hf (fun I_18 eI_18 hf => ?_)
      refine pfX8_6 S iX8 hK hP hD hS (h12 0 (by decide)) k6 dX8_load_54 eI_18 (fun H locs hP hD hS => ?_)
      refine lv_aload_n S.1 S.2.1 dX8_load_57 rfl (lv_at hl 0 rfl) ?_
      refine lv_iconst (v := 0) S.1 S.2.1 dX8_load_58 rfl ?_
      refine nm_o hf (fun I_19 eI_19 hf => ?_)
      refine pfX8_14 S iX8 hK hP hD hS (h12 0 (by decide)) k7 dX8_load_59 eI_19 (fun H locs hP hD hS => ?_)
      refine lv_aload_n S.1 S.2.1 dX8_load_62 rfl (lv_at hl 0 rfl) ?_
      refine lv_iconst (v := 0) S.1 S.2.1 dX8_load_63 rfl ?_
      refine nm_o hf (fun I_20 eI_20 hf => ?_)
      refine pfX8_15 S iX8 hK hP hD hS (h12 0 (by decide)) k8 dX8_load_64 eI_20 (fun H locs hP hD hS => ?_)
      refine lv_aload_n S.1 S.2.1 dX8_load_67 rfl (lv_at hl 0 rfl) ?_
      refine lv_iconst (v := 0) S.1 S.2.1 dX8_load_68 rfl ?_
      refine nm_o hf (fun I_21 eI_21 hf => ?_)
      refine pfX8_16 S iX8 hK hP hD hS (h12 0 (by decide)) k9 bo0 dX8_load_69 eI_21 (fun H locs hP hD hS => ?_)
      refine lv_aload_n S.1 S.2.1 dX8_load_72 rfl (lv_at hl 0 rfl) ?_
      refine lv_iconst (v := 0) S.1 S.2.1 dX8_load_73 rfl ?_
      refine nm_o hf (fun I_22 eI_22 hf => ?_)
      refine pfX8_17 S iX8 hK hP hD hS (h12 0 (by decide)) k10 dX8_load_74 eI_22 (fun H locs hP hD hS => ?_)
      refine lv_aload_n S.1 S.2.1 dX8_load_77 rfl (lv_at hl 0 rfl) ?_
      refine gfX8_9 S iX8 hK hP (h12 0 (by decide)) k11 dX8_load_78 ?_
      refine R_cSv (As := [.ref (eA E 12 3)]) (rest := []) S (c_X8_layGame  (hm1 := (h12 3 (by decide))) (hc1 := (IAm3 E)) hf) gX8_load_X8_layGame rfl yk_X8_layGame ⟨⟨Nat.le_of_ble_eq_true rfl, Nat.le_of_ble_eq_true rfl⟩, rfl, rfl⟩ hK hP hD hS hX hA rfl hl.1 rfl (Nat.le_of_ble_eq_true rfl) ⟨Nat.zero_le _, Nat.zero_le _⟩ dX8_load_81 (fun I_23 J_24 H locs hf hP hD hS => ?_)
      refine lv_aload_n S.1 S.2.1 dX8_load_84 rfl (lv_at hl 0 rfl) ?_
      refine R_cVv (As := []) (rest := []) S (c_X8_readRoof (h12 := h12)  hf) gX8_load_X8_readRoof rfl yk_X8_readRoof ⟨⟨Nat.le_of_ble_eq_true rfl, Nat.le_of_ble_eq_true rfl⟩, rfl, rfl⟩ hK hP hD hS hX hA (h12 0 (by decide)) (cF_m E _ _ 0) rfl rfl hl.1 rfl (Nat.le_of_ble_eq_true rfl) ⟨Nat.zero_le _, Nat.zero_le _⟩ dX8_load_85 (fun I_25 J_26 H locs hf hP hD hS => ?_)
      obtain ⟨n_55, hf⟩ := hf
      have L88 : ∀ (K110 : MI → MJ → Prop), (∀ (I_39 : MI) (J_40 : MJ), K110 I_39 J_40 → Wj p l e (rmX8_load) s m args below meth c Qm E ps 2 I_39 J_40 110 [(0, .ref (eA E 12 0))] []) → ∀ (n : Nat) (I_27 : MI) (J_28 : MJ), f_X8_load_L88 K110 n I_27 J_28 → Wj p l e (rmX8_load) s m args below meth c Qm E ps 2 I_27 J_28 88 [(0, .ref (eA E 12 0))] [] := by
        intro K110 kx110 n
        induction n with
        | zero => intro I_27 J_28 hf; exact hf.elim
        | succ n ih88 =>
          intro I_27 J_28 hf
          have hf : f_X8_load_B88 K110 (f_X8_load_L88 K110 n) I_27 J_28 := hf
          intro H locs ls hP hD hS hl
          unfold f_X8_load_B88 at hf
          refine lv_aload_n S.1 S.2.1 dX8_load_88 rfl (lv_at hl 0 rfl) ?_
          refine R_cVi (As := []) (rest := []) S (c_X8_isGood (h12 := h12)  hf) gX8_load_X8_isGood rfl yk_X8_isGood ⟨⟨Nat.le_of_ble_eq_true rfl, Nat.le_of_ble_eq_true rfl⟩, rfl, rfl⟩ hK hP hD hS hX hA (h12 0 (by decide)) (cF_m E _ _ 0) rfl rfl hl.1 rfl (Nat.le_of_ble_eq_true rfl) ⟨Nat.zero_le _, Nat.zero_le _⟩ dX8_load_89 (fun v_31 I_29 J_30 H locs hf hP hD hS => ?_)
          refine lv_if_eq (tgt := 110) S.1 S.2.1 dX8_load_92 (by decide) (fun h_32 => ?_) (fun h_32 => ?_)
          · have hf := hf.1 h_32
            exact kx110 _ _ hf _ _ _ hP hD hS (lv_sub hl [0] rfl)
          · have hf := hf.2 h_32
            refine lv_aload_n S.1 S.2.1 dX8_load_95 rfl (lv_at hl 0 rfl) ?_
            refine R_cVi (As := []) (rest := []) S (c_X8_ahead (h12 := h12)  hf) gX8_load_X8_ahead rfl yk_X8_ahead ⟨⟨Nat.le_of_ble_eq_true rfl, Nat.le_of_ble_eq_true rfl⟩, rfl, rfl⟩ hK hP hD hS hX hA (h12 0 (by decide)) (cF_m E _ _ 0) rfl rfl hl.1 rfl (Nat.le_of_ble_eq_true rfl) ⟨Nat.zero_le _, Nat.zero_le _⟩ dX8_load_96 (fun v_35 I_33 J_34 H locs hf hP hD hS => ?_)
            refine lv_iconst (v := (-1)) S.1 S.2.1 dX8_load_99 rfl ?_
            refine lv_icmp_eq (tgt := 110) S.1 S.2.1 dX8_load_100 (by decide) (fun h_36 => ?_) (fun h_36 => ?_)
            · have hf := hf.1 h_36
              exact kx110 _ _ hf _ _ _ hP hD hS (lv_sub hl [0] rfl)
            · have hf := hf.2 h_36
              refine lv_aload_n S.1 S.2.1 dX8_load_103 rfl (lv_at hl 0 rfl) ?_
              refine R_cVv (As := []) (rest := []) S (c_X8_statement (h12 := h12)  hf) gX8_load_X8_statement rfl yk_X8_statement ⟨⟨Nat.le_of_ble_eq_true rfl, Nat.le_of_ble_eq_true rfl⟩, rfl, rfl⟩ hK hP hD hS hX hA (h12 0 (by decide)) (cF_m E _ _ 0) rfl rfl hl.1 rfl (Nat.le_of_ble_eq_true rfl) ⟨Nat.zero_le _, Nat.zero_le _⟩ dX8_load_104 (fun I_37 J_38 H locs hf hP hD hS => ?_)
              refine lv_goto (tgt := 88) S.1 S.2.1 dX8_load_107 (by decide) ?_
              exact ih88 _ _ hf _ _ _ hP hD hS (lv_sub hl [0] rfl)
      refine L88 _ (fun I_39 J_40 hf H locs ls hP hD hS hl => ?_)  n_55  _ _ hf _ _ _ hP hD hS (lv_sub hl [0] rfl)
      exact jn110 _ _ hf _ _ _ hP hD hS (lv_sub hl [0] rfl)
    · have hf := hf.2 h_13
      refine lv_iconst (v := 0) S.1 S.2.1 dX8_load_30 rfl ?_
      exact hret hf rfl hP hD hS dX8_load_31
  intro H locs ls hP hD hS hl
  unfold f_X8_load at hf
  refine lv_aload_n S.1 S.2.1 dX8_load_0 rfl (lv_at hl 0 rfl) ?_
  refine lv_iconst (v := 0) S.1 S.2.1 dX8_load_1 rfl ?_
  refine nm_o hf (fun I_1 eI_1 hf => ?_)
  refine pfX8_0 S iX8 hK hP hD hS (h12 0 (by decide)) k1 dX8_load_2 eI_1 (fun H locs hP hD hS => ?_)
  refine lv_aload_n S.1 S.2.1 dX8_load_5 rfl (lv_at hl 0 rfl) ?_
  refine lv_iload_n S.1 S.2.1 dX8_load_6 rfl (lv_at hl 1 rfl) ?_
  refine lv_iconst (v := 0) S.1 S.2.1 dX8_load_7 rfl ?_
  refine lv_aload_n S.1 S.2.1 dX8_load_8 rfl (lv_at hl 0 rfl) ?_
  refine gfX8_2 S iX8 hK hP (h12 0 (by decide)) k2 dX8_load_9 ?_
  refine R_cSi (As := [.int x1, .int (0 : Int32), .int (I_1 12 0 2)]) (rest := [.ref (eA E 12 0)]) S (c_X8_in   hf) gX8_load_X8_in rfl yk_X8_in ⟨⟨Nat.le_of_ble_eq_true rfl, Nat.le_of_ble_eq_true rfl⟩, rfl, rfl⟩ hK hP hD hS hX hA rfl hl.1 rfl (Nat.le_of_ble_eq_true rfl) ⟨Nat.zero_le _, Nat.zero_le _⟩ dX8_load_12 (fun v_4 I_2 J_3 H locs hf hP hD hS => ?_)
  refine lv_if_ne (tgt := 22) S.1 S.2.1 dX8_load_15 (by decide) (fun h_5 => ?_) (fun h_5 => ?_)
  · have hf := hf.2 h_5
    refine lv_iconst (v := 0) S.1 S.2.1 dX8_load_22 rfl ?_
    exact jn23 _ _ _ _ hf _ _ _ hP hD hS (lv_sub hl [0, 1] rfl)
  · have hf := hf.1 h_5
    refine lv_iconst (v := 1) S.1 S.2.1 dX8_load_18 rfl ?_
    refine lv_goto (tgt := 23) S.1 S.2.1 dX8_load_19 (by decide) ?_
    exact jn23 _ _ _ _ hf _ _ _ hP hD hS (lv_sub hl [0, 1] rfl)
