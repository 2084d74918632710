abbrev rmX5_read : Room := { frames := 20, cells := 0, slots := 0, locals := 475 }
theorem yk_X5_read : yOk yX5_read RX5 2 := by unfold yOk; decide +kernel
def f_X5_read_B77 (K132 : MI → MJ → Prop) (rec77 : Int32 → Int32 → MI → MJ → Prop) (x3_15 : Int32) (x4_16 : Int32) (I_17 : MI) (J_18 : MJ) : Prop :=
  (((600 : Int32) ≤ x4_16 → K132 I_17 J_18) ∧ (¬ (600 : Int32) ≤ x4_16 → ((x3_15 = (0 : Int32) → K132 I_17 J_18) ∧ (¬ x3_15 = (0 : Int32) → f_X5_peek I_17 J_18 (fun (v_23 : Int32) (I_21 : MI) (J_22 : MJ) => ((v_23 = (-1 : Int32) → K132 I_21 J_22) ∧ (¬ v_23 = (-1 : Int32) → f_X5_readRun I_21 J_22 (fun (v_27 : Int32) (I_25 : MI) (J_26 : MJ) => ((v_27 = (0 : Int32) → ∀ x4_29 : Int32, x4_29 = x4_16 + (1 : Int32) → rec77 (0 : Int32) x4_29 I_25 J_26) ∧ (¬ v_27 = (0 : Int32) → f_X5_readStatement I_25 J_26 (fun (v_32 : Int32) (I_30 : MI) (J_31 : MJ) => ((v_32 = (0 : Int32) → ∀ x4_34 : Int32, x4_34 = x4_16 + (1 : Int32) → rec77 (0 : Int32) x4_34 I_30 J_31) ∧ (¬ v_32 = (0 : Int32) → f_X5_readSign (59 : Int32) I_30 J_31 (fun (v_37 : Int32) (I_35 : MI) (J_36 : MJ) => ((v_37 = (0 : Int32) → ∀ x4_39 : Int32, x4_39 = x4_16 + (1 : Int32) → rec77 (0 : Int32) x4_39 I_35 J_36) ∧ (¬ v_37 = (0 : Int32) → ∀ x4_40 : Int32, x4_40 = x4_16 + (1 : Int32) → rec77 (1 : Int32) x4_40 I_35 J_36))))))))))))))))
def f_X5_read_L77 (K132 : MI → MJ → Prop) : Nat → Int32 → Int32 → MI → MJ → Prop
  | 0, _, _, _, _ => False
  | n + 1, x3_15, x4_16, I_17, J_18 => f_X5_read_B77 K132 (f_X5_read_L77 K132 n) x3_15 x4_16 I_17 J_18
def f_X5_read (x2 : Int32) (I : MI) (J : MJ) (Q : Int32 → MI → MJ → Prop) : Prop :=
  ∀ I_1 : MI, I_1 = sI I 11 4 3 (if (if (600 : Int32) < (600 : Int32) then (600 : Int32) else (600 : Int32)) < x2 then (if (600 : Int32) < (600 : Int32) then (600 : Int32) else (600 : Int32)) else x2) → ((¬ (0 : Int32) < 0 ∧ ¬ (0 : Int32) < 0 ∧ ¬ (I_1 11 4 3) < 0 ∧ (0 : Int32).toNatClampNeg + (I_1 11 4 3).toNatClampNeg ≤ 600 ∧ (0 : Int32).toNatClampNeg + (I_1 11 4 3).toNatClampNeg ≤ 600) ∧ ∀ I_3 : MI, I_3 = rI I_1 11 5 (va_cpy (I_1 11 1) (I_1 11 5) (0 : Int32).toNatClampNeg (0 : Int32).toNatClampNeg (I_1 11 4 3).toNatClampNeg) → ∀ I_4 : MI, I_4 = sI I_3 11 4 4 (0 : Int32) → ∀ I_5 : MI, I_5 = sI I_4 11 4 5 (0 : Int32) → ∀ I_6 : MI, I_6 = sI I_5 11 4 1 (-1 : Int32) → ∀ I_7 : MI, I_7 = sI I_6 11 4 8 (0 : Int32) → ∀ I_8 : MI, I_8 = sI I_7 11 4 9 (0 : Int32) → ∀ I_9 : MI, I_9 = sI I_8 11 4 10 (0 : Int32) → f_X1_reset 10 I_9 J (fun (I_10 : MI) (J_11 : MJ) => f_X5_readRoof I_10 J_11 (fun (v_14 : Int32) (I_12 : MI) (J_13 : MJ) => ∃ n : Nat, f_X5_read_L77 (fun (I_41 : MI) (J_42 : MJ) => Q (I_41 11 4 5) I_41 J_42) n v_14 (0 : Int32) I_12 J_13)))
set_option maxRecDepth 100000 in
set_option maxHeartbeats 4000000 in
theorem c_X5_read {l : Launch} {E : EV} {ps : List (Nat × Nat)} (h11 : ∀ r, r < 11 → (11, r) ∈ ps) (hG : ∀ k r, k < 11 → r < 16 → (k, r) ∈ ps) {x2 : Int32} {I : MI} {J : MJ} {Q : Int32 → MI → MJ → Prop} (hf : f_X5_read x2 I J Q) : KI l yX5_read wsX5_read rmX5_read E ps [.ref (eA E 11 4), .ref (eA E 11 1), .int x2] I J Q := by
  refine K_ofI (cc := cX5_read) (maxL := 5) (ty := .int) (by decide +kernel) rfl (Nat.le_of_ble_eq_true rfl) (fun p e s m args below meth c Qm hret S hK hX => ?_)
  have hA : ∀ q, s.heap.size ≤ q → AA E ps s.heap.size q := fun _ h => Or.inr h
  have k1 := S.2.2.2.2 (.fieldLink RX5 22 "RhymeRoofs$SetupReader" "text" "[I") (by decide +kernel)
  have iX5 : ∀ w ∈ wsX50, w ∈ wsX5_read := fun _ h => List.mem_cons_of_mem _ (List.mem_append_left _ (List.mem_append_left _ (List.mem_append_left _ (List.mem_append_right _ h))))
  have k2 := S.2.2.2.2 (.methodLink RX5 26 Lib.Math.min.name) (by decide +kernel)
  have k3 := S.2.2.2.2 (.static Lib.Math.min.name) (by decide +kernel)
  have k4 := S.2.2.2.2 (.initialized "java/lang/Math") (by decide +kernel)
  have k5 := S.2.2.2.2 (.code Lib.Math.min.name Lib.Math.min.code 2 (some .int)) (by decide +kernel)
  have k6 := S.2.2.2.2 (.fieldLink RX5 32 "RhymeRoofs$SetupReader" "end" "I") (by decide +kernel)
  have k7 := S.2.2.2.2 (.methodLink RX5 35 arraycopyName) (by decide +kernel)
  have k8 := S.2.2.2.2 (.native arraycopyName) (by decide +kernel)
  have k9 := S.2.2.2.2 (.static arraycopyName) (by decide +kernel)
  have k10 := S.2.2.2.2 (.initialized "java/lang/System") (by decide +kernel)
  have k11 := S.2.2.2.2 (.fieldLink RX5 41 "RhymeRoofs$SetupReader" "at" "I") (by decide +kernel)
  have k12 := S.2.2.2.2 (.fieldLink RX5 44 "RhymeRoofs$SetupReader" "error" "I") (by decide +kernel)
  have k13 := S.2.2.2.2 (.fieldLink RX5 18 "RhymeRoofs$SetupReader" "errorAt" "I") (by decide +kernel)
  have k14 := S.2.2.2.2 (.fieldLink RX5 47 "RhymeRoofs$SetupReader" "told" "I") (by decide +kernel)
  have k15 := S.2.2.2.2 (.fieldLink RX5 50 "RhymeRoofs$SetupReader" "handTold" "Z") (by decide +kernel)
  have k16 := S.2.2.2.2 (.fieldLink RX5 54 "RhymeRoofs$SetupReader" "grouped" "I") (by decide +kernel)
  have k17 := S.2.2.2.2 (.fieldLink RX5 12 "RhymeRoofs$SetupReader" "game" "LRhymeRoofs$Game;") (by decide +kernel)
  intro H locs ls hP hD hS hl
  unfold f_X5_read at hf
  refine lv_aload_n S.1 S.2.1 dX5_read_0 rfl (lv_at hl 0 rfl) ?_
  refine lv_iload_n S.1 S.2.1 dX5_read_1 rfl (lv_at hl 2 rfl) ?_
  refine lv_aload_n S.1 S.2.1 dX5_read_2 rfl (lv_at hl 1 rfl) ?_
  refine R_alenI S.1 S.2.1 hK hP (h11 1 (by decide)) (IAo1 E) dX5_read_3 ?_
  refine lv_aload_n S.1 S.2.1 dX5_read_4 rfl (lv_at hl 0 rfl) ?_
  refine gfX5_2 S iX5 hK hP (h11 4 (by decide)) k1 dX5_read_5 ?_
  refine R_alenI S.1 S.2.1 hK hP (h11 5 (by decide)) (IAo5 E) dX5_read_8 ?_
  refine va_mmin S.1 S.2.1 (S.2.2.1.trans hl.1.symm) S.2.2.2.1 k2 k3 k4 k5 (Nat.le_of_ble_eq_true rfl) (Nat.le_of_ble_eq_true rfl) (Nat.zero_le _) (Nat.zero_le _) dX5_read_9 ?_
  refine va_mmin S.1 S.2.1 (S.2.2.1.trans hl.1.symm) S.2.2.2.1 k2 k3 k4 k5 (Nat.le_of_ble_eq_true rfl) (Nat.le_of_ble_eq_true rfl) (Nat.zero_le _) (Nat.zero_le _) dX5_read_12 ?_
  refine nm_o hf (fun I_1 eI_1 hf => ?_)
  refine pfX5_3 S iX5 hK hP hD hS (h11 4 (by decide)) k6 dX5_read_15 eI_1 (fun H locs hP hD hS => ?_)
  refine lv_aload_n S.1 S.2.1 dX5_read_18 rfl (lv_at hl 1 rfl) ?_
  refine lv_iconst (v := 0) S.1 S.2.1 dX5_read_19 rfl ?_
  refine lv_aload_n S.1 S.2.1 dX5_read_20 rfl (lv_at hl 0 rfl) ?_
  refine gfX5_2 S iX5 hK hP (h11 4 (by decide)) k1 dX5_read_21 ?_
  refine lv_iconst (v := 0) S.1 S.2.1 dX5_read_24 rfl ?_
  refine lv_aload_n S.1 S.2.1 dX5_read_25 rfl (lv_at hl 0 rfl) ?_
  refine gfX5_3 S iX5 hK hP (h11 4 (by decide)) k6 dX5_read_26 ?_
  obtain ⟨h_2, hf⟩ := hf
  refine nm_o hf (fun I_3 eI_3 hf => ?_)
  refine R_cpyI S (hl.1) k7 k8 k9 k10 hK hP hD hS (h11 1 (by decide)) (IAo1 E) (h11 5 (by decide)) (IAo5 E) h_2 (Nat.le_of_ble_eq_true rfl) (Nat.le_of_ble_eq_true rfl) dX5_read_29 eI_3 (fun H locs hP hD hS => ?_)
  refine lv_aload_n S.1 S.2.1 dX5_read_32 rfl (lv_at hl 0 rfl) ?_
  refine lv_iconst (v := 0) S.1 S.2.1 dX5_read_33 rfl ?_
  refine nm_o hf (fun I_4 eI_4 hf => ?_)
  refine pfX5_4 S iX5 hK hP hD hS (h11 4 (by decide)) k11 dX5_read_34 eI_4 (fun H locs hP hD hS => ?_)
  refine lv_aload_n S.1 S.2.1 dX5_read_37 rfl (lv_at hl 0 rfl) ?_
  refine lv_iconst (v := 0) S.1 S.2.1 dX5_read_38 rfl ?_
  refine nm_o hf (fun I_5 eI_5 hf => ?_)
  refine pfX5_5 S iX5 hK hP hD hS (h11 4 (by decide)) k12 dX5_read_39 eI_5 (fun H locs hP hD hS => ?_)
  refine lv_aload_n S.1 S.2.1 dX5_read_42 rfl (lv_at hl 0 rfl) ?_
  refine lv_iconst (v := (-1)) S.1 S.2.1 dX5_read_43 rfl ?_
  refine nm_o hf (fun I_6 eI_6 hf => ?_)
  refine pfX5_1 S iX5 hK hP hD hS (h11 4 (by decide)) k13 dX5_read_44 eI_6 (fun H locs hP hD hS => ?_)
  refine lv_aload_n S.1 S.2.1 dX5_read_47 rfl (lv_at hl 0 rfl) ?_
  refine lv_iconst (v := 0) S.1 S.2.1 dX5_read_48 rfl ?_
  refine nm_o hf (fun I_7 eI_7 hf => ?_)
  refine pfX5_8 S iX5 hK hP hD hS (h11 4 (by decide)) k14 dX5_read_49 eI_7 (fun H locs hP hD hS => ?_)
  refine lv_aload_n S.1 S.2.1 dX5_read_52 rfl (lv_at hl 0 rfl) ?_
  refine lv_iconst (v := 0) S.1 S.2.1 dX5_read_53 rfl ?_
  refine nm_o hf (fun I_8 eI_8 hf => ?_)
  refine pfX5_9 S iX5 hK hP hD hS (h11 4 (by decide)) k15 bo0 dX5_read_54 eI_8 (fun H locs hP hD hS => ?_)
  refine lv_aload_n S.1 S.2.1 dX5_read_57 rfl (lv_at hl 0 rfl) ?_
  refine lv_iconst (v := 0) S.1 S.2.1 dX5_read_58 rfl ?_
  refine nm_o hf (fun I_9 eI_9 hf => ?_)
  refine pfX5_10 S iX5 hK hP hD hS (h11 4 (by decide)) k16 dX5_read_59 eI_9 (fun H locs hP hD hS => ?_)
  refine lv_aload_n S.1 S.2.1 dX5_read_62 rfl (lv_at hl 0 rfl) ?_
  refine gfX5_0 S iX5 hK hP (h11 4 (by decide)) k17 dX5_read_63 ?_
  refine R_cVv (As := []) (rest := []) S (c_X1_reset (hB := (by decide)) (hM := (fun r => hG 10 r (by decide)))  hf) gX5_read_X1_reset rfl yk_X1_reset ⟨⟨Nat.le_of_ble_eq_true rfl, Nat.le_of_ble_eq_true rfl⟩, rfl, rfl⟩ hK hP hD hS hX hA ((fun r => hG 10 r (by decide)) 0 (by decide)) (cF_g E (by decide) _ _ 0) rfl rfl hl.1 rfl (Nat.le_of_ble_eq_true rfl) ⟨Nat.zero_le _, Nat.zero_le _⟩ dX5_read_66 (fun I_10 J_11 H locs hf hP hD hS => ?_)
  refine lv_aload_n S.1 S.2.1 dX5_read_69 rfl (lv_at hl 0 rfl) ?_
  refine R_cVi (As := []) (rest := []) S (c_X5_readRoof (h11 := h11) (hG := hG)  hf) gX5_read_X5_readRoof rfl yk_X5_readRoof ⟨⟨Nat.le_of_ble_eq_true rfl, Nat.le_of_ble_eq_true rfl⟩, rfl, rfl⟩ hK hP hD hS hX hA (h11 4 (by decide)) (cF_o E _ _ 4) rfl rfl hl.1 rfl (Nat.le_of_ble_eq_true rfl) ⟨Nat.zero_le _, Nat.zero_le _⟩ dX5_read_70 (fun v_14 I_12 J_13 H locs hf hP hD hS => ?_)
  refine lv_istore_n (lv' := [(3, .int v_14), (0, .ref (eA E 11 4)), (1, .ref (eA E 11 1)), (2, .int x2)]) S.1 S.2.1 dX5_read_73 rfl hl (by decide) rfl (fun ls hl => ?_)
  refine lv_iconst (v := 0) S.1 S.2.1 dX5_read_74 rfl ?_
  refine lv_istore (lv' := [(4, .int (0 : Int32)), (3, .int v_14), (0, .ref (eA E 11 4)), (1, .ref (eA E 11 1)), (2, .int x2)]) S.1 S.2.1 dX5_read_75 hl (by decide) rfl (fun ls hl => ?_)
  obtain ⟨n_43, hf⟩ := hf
  have L77 : ∀ (K132 : MI → MJ → Prop), (∀ (I_41 : MI) (J_42 : MJ), K132 I_41 J_42 → Wj p l e (rmX5_read) s m args below meth c Qm E ps 5 I_41 J_42 132 [(0, .ref (eA E 11 4))] []) → ∀ (n : Nat) (x3_15 : Int32) (x4_16 : Int32) (I_17 : MI) (J_18 : MJ), f_X5_read_L77 K132 n x3_15 x4_16 I_17 J_18 → Wj p l e (rmX5_read) s m args below meth c Qm E ps 5 I_17 J_18 77 [(0, .ref (eA E 11 4)), (3, .int x3_15), (4, .int x4_16)] [] := by
    intro K132 kx132 n
    induction n with
    | zero => intro x3_15 x4_16 I_17 J_18 hf; exact hf.elim
    | succ n ih77 =>
      intro x3_15 x4_16 I_17 J_18 hf
      have hf : f_X5_read_B77 K132 (f_X5_read_L77 K132 n) x3_15 x4_16 I_17 J_18 := hf
      intro H locs ls hP hD hS hl
      unfold f_X5_read_B77 at hf
      refine lv_iload S.1 S.2.1 dX5_read_77 (lv_at hl 2 rfl) ?_
      refine lv_sipush (v := 600) S.1 S.2.1 dX5_read_79 rfl ?_
      refine lv_icmp_ge (tgt := 132) S.1 S.2.1 dX5_read_82 (by decide) (fun h_19 => ?_) (fun h_19 => ?_)
      · have hf := hf.1 h_19
        exact kx132 _ _ hf _ _ _ hP hD hS (lv_sub hl [0] rfl)
      · have hf := hf.2 h_19
        refine lv_iload_n S.1 S.2.1 dX5_read_85 rfl (lv_at hl 1 rfl) ?_
        refine lv_if_eq (tgt := 132) S.1 S.2.1 dX5_read_86 (by decide) (fun h_20 => ?_) (fun h_20 => ?_)
        · have hf := hf.1 h_20
          exact kx132 _ _ hf _ _ _ hP hD hS (lv_sub hl [0] rfl)
        · have hf := hf.2 h_20
          refine lv_aload_n S.1 S.2.1 dX5_read_89 rfl (lv_at hl 0 rfl) ?_
          refine R_cVi (As := []) (rest := []) S (c_X5_peek (h11 := h11) (hG := hG)  hf) gX5_read_X5_peek rfl yk_X5_peek ⟨⟨Nat.le_of_ble_eq_true rfl, Nat.le_of_ble_eq_true rfl⟩, rfl, rfl⟩ hK hP hD hS hX hA (h11 4 (by decide)) (cF_o E _ _ 4) rfl rfl hl.1 rfl (Nat.le_of_ble_eq_true rfl) ⟨Nat.zero_le _, Nat.zero_le _⟩ dX5_read_90 (fun v_23 I_21 J_22 H locs hf hP hD hS => ?_)
          refine lv_iconst (v := (-1)) S.1 S.2.1 dX5_read_93 rfl ?_
          refine lv_icmp_eq (tgt := 132) S.1 S.2.1 dX5_read_94 (by decide) (fun h_24 => ?_) (fun h_24 => ?_)
          · have hf := hf.1 h_24
            exact kx132 _ _ hf _ _ _ hP hD hS (lv_sub hl [0] rfl)
          · have hf := hf.2 h_24
            refine lv_aload_n S.1 S.2.1 dX5_read_97 rfl (lv_at hl 0 rfl) ?_
            refine R_cVi (As := []) (rest := []) S (c_X5_readRun (h11 := h11) (hG := hG)  hf) gX5_read_X5_readRun rfl yk_X5_readRun ⟨⟨Nat.le_of_ble_eq_true rfl, Nat.le_of_ble_eq_true rfl⟩, rfl, rfl⟩ hK hP hD hS hX hA (h11 4 (by decide)) (cF_o E _ _ 4) rfl rfl hl.1 rfl (Nat.le_of_ble_eq_true rfl) ⟨Nat.zero_le _, Nat.zero_le _⟩ dX5_read_98 (fun v_27 I_25 J_26 H locs hf hP hD hS => ?_)
            refine lv_if_eq (tgt := 124) S.1 S.2.1 dX5_read_101 (by decide) (fun h_28 => ?_) (fun h_28 => ?_)
            · have hf := hf.1 h_28
              refine lv_iconst (v := 0) S.1 S.2.1 dX5_read_124 rfl ?_
              refine lv_istore_n (lv' := [(3, .int (0 : Int32)), (0, .ref (eA E 11 4)), (4, .int x4_16)]) S.1 S.2.1 dX5_read_125 rfl hl (by decide) rfl (fun ls hl => ?_)
              refine nm_o hf (fun x4_29 ex4_29 hf => ?_)
              refine lv_iinc (v := x4_29) (lv' := [(4, .int x4_29), (3, .int (0 : Int32)), (0, .ref (eA E 11 4))]) S.1 S.2.1 dX5_read_126 hl (k := 2) rfl (by rw [ex4_29]; rfl) (by decide) rfl (fun ls hl => ?_)
              refine lv_goto (tgt := 77) S.1 S.2.1 dX5_read_129 (by decide) ?_
              exact ih77 _ _ _ _ hf _ _ _ hP hD hS (lv_sub hl [2, 1, 0] rfl)
            · have hf := hf.2 h_28
              refine lv_aload_n S.1 S.2.1 dX5_read_104 rfl (lv_at hl 0 rfl) ?_
              refine R_cVi (As := []) (rest := []) S (c_X5_readStatement (h11 := h11) (hG := hG)  hf) gX5_read_X5_readStatement rfl yk_X5_readStatement ⟨⟨Nat.le_of_ble_eq_true rfl, Nat.le_of_ble_eq_true rfl⟩, rfl, rfl⟩ hK hP hD hS hX hA (h11 4 (by decide)) (cF_o E _ _ 4) rfl rfl hl.1 rfl (Nat.le_of_ble_eq_true rfl) ⟨Nat.zero_le _, Nat.zero_le _⟩ dX5_read_105 (fun v_32 I_30 J_31 H locs hf hP hD hS => ?_)
              refine lv_if_eq (tgt := 124) S.1 S.2.1 dX5_read_108 (by decide) (fun h_33 => ?_) (fun h_33 => ?_)
              · have hf := hf.1 h_33
                refine lv_iconst (v := 0) S.1 S.2.1 dX5_read_124 rfl ?_
                refine lv_istore_n (lv' := [(3, .int (0 : Int32)), (0, .ref (eA E 11 4)), (4, .int x4_16)]) S.1 S.2.1 dX5_read_125 rfl hl (by decide) rfl (fun ls hl => ?_)
                refine nm_o hf (fun x4_34 ex4_34 hf => ?_)
                refine lv_iinc (v := x4_34) (lv' := [(4, .int x4_34), (3, .int (0 : Int32)), (0, .ref (eA E 11 4))]) S.1 S.2.1 dX5_read_126 hl (k := 2) rfl (by rw [ex4_34]; rfl) (by decide) rfl (fun ls hl => ?_)
                refine lv_goto (tgt := 77) S.1 S.2.1 dX5_read_129 (by decide) ?_
                exact ih77 _ _ _ _ hf _ _ _ hP hD hS (lv_sub hl [2, 1, 0] rfl)
              · have hf := hf.2 h_33
                refine lv_aload_n S.1 S.2.1 dX5_read_111 rfl (lv_at hl 0 rfl) ?_
                refine lv_bipush (v := 59) S.1 S.2.1 dX5_read_112 rfl ?_
                refine R_cVi (As := [.int (59 : Int32)]) (rest := []) S (c_X5_readSign (h11 := h11) (hG := hG)  hf) gX5_read_X5_readSign rfl yk_X5_readSign ⟨⟨Nat.le_of_ble_eq_true rfl, Nat.le_of_ble_eq_true rfl⟩, rfl, rfl⟩ hK hP hD hS hX hA (h11 4 (by decide)) (cF_o E _ _ 4) rfl rfl hl.1 rfl (Nat.le_of_ble_eq_true rfl) ⟨Nat.zero_le _, Nat.zero_le _⟩ dX5_read_114 (fun v_37 I_35 J_36 H locs hf hP hD hS => ?_)
                refine lv_if_eq (tgt := 124) S.1 S.2.1 dX5_read_117 (by decide) (fun h_38 => ?_) (fun h_38 => ?_)
                · have hf := hf.1 h_38
                  refine lv_iconst (v := 0) S.1 S.2.1 dX5_read_124 rfl ?_
                  refine lv_istore_n (lv' := [(3, .int (0 : Int32)), (0, .ref (eA E 11 4)), (4, .int x4_16)]) S.1 S.2.1 dX5_read_125 rfl hl (by decide) rfl (fun ls hl => ?_)
                  refine nm_o hf (fun x4_39 ex4_39 hf => ?_)
                  refine lv_iinc (v := x4_39) (lv' := [(4, .int x4_39), (3, .int (0 : Int32)), (0, .ref (eA E 11 4))]) S.1 S.2.1 dX5_read_126 hl (k := 2) rfl (by rw [ex4_39]; rfl) (by decide) rfl (fun ls hl => ?_)
                  refine lv_goto (tgt := 77) S.1 S.2.1 dX5_read_129 (by decide) ?_
                  exact ih77 _ _ _ _ hf _ _ _ hP hD hS (lv_sub hl [2, 1, 0] rfl)
                · have hf := hf.2 h_38
                  refine lv_iconst (v := 1) S.1 S.2.1 dX5_read_120 rfl ?_
                  refine lv_goto (tgt := 125) S.1 S.2.1 dX5_read_121 (by decide) ?_
                  refine lv_istore_n (lv' := [(3, .int (1 : Int32)), (0, .ref (eA E 11 4)), (4, .int x4_16)]) S.1 S.2.1 dX5_read_125 rfl hl (by decide) rfl (fun ls hl => ?_)
                  refine nm_o hf (fun x4_40 ex4_40 hf => ?_)
                  refine lv_iinc (v := x4_40) (lv' := [(4, .int x4_40), (3, .int (1 : Int32)), (0, .ref (eA E 11 4))]) S.1 S.2.1 dX5_read_126 hl (k := 2) rfl (by rw [ex4_40]; rfl) (by decide) rfl (fun ls hl => ?_)
                  refine lv_goto (tgt := 77) S.1 S.2.1 dX5_read_129 (by decide) ?_
                  exact ih77 _ _ _ _ hf _ _ _ hP hD hS (lv_sub hl [2, 1, 0] rfl)
  refine L77 _ (fun I_41 J_42 hf H locs ls hP hD hS hl => ?_)  n_43 _ _ _ _ hf _ _ _ hP hD hS (lv_sub hl [2, 1, 0] rfl)
  refine lv_aload_n S.1 S.2.1 dX5_read_132 rfl (lv_at hl 0 rfl) ?_
  refine gfX5_5 S iX5 hK hP (h11 4 (by decide)) k12 dX5_read_133 ?_
  exact hret hf rfl hP hD hS dX5_read_136
