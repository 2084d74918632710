abbrev rmX8_layNow : Room := { frames := 6, cells := 0, slots := 0, locals := 133 }
theorem yk_X8_layNow : yOk yX8_layNow RX8 2 := by unfold yOk; decide +kernel
def f_X8_layNow_B33 (x1_12 : Int32) (x3_13 : Int32) (x5_14 : Int32) (x6_15 : Int32) (K83 : MI → MJ → Prop) (rec33 : Int32 → MI → MJ → Prop) (x7_16 : Int32) (I_17 : MI) (J_18 : MJ) : Prop :=
  ((x5_14 ≤ x7_16 → K83 I_17 J_18) ∧ (¬ x5_14 ≤ x7_16 → (vp_in (x6_15 + (1 : Int32)) 1802 ∧ f_X8_wordAt x3_13 x1_12 I_17 J_18 (fun (v_23 : Int32) (I_21 : MI) (J_22 : MJ) => (vp_in ((v_23 + (1 : Int32)) + x7_16) 1802 ∧ (vp_in (((x6_15 + (5 : Int32)) + (I_17 12 2 (x6_15 + (1 : Int32)).toNatClampNeg)) + x7_16) 1802 ∧ ∀ I_26 : MI, I_26 = sI I_21 12 2 (((x6_15 + (5 : Int32)) + (I_17 12 2 (x6_15 + (1 : Int32)).toNatClampNeg)) + x7_16).toNatClampNeg (I_21 12 2 ((v_23 + (1 : Int32)) + x7_16).toNatClampNeg) → ∀ x7_27 : Int32, x7_27 = x7_16 + (1 : Int32) → rec33 x7_27 I_26 J_22))))))
def f_X8_layNow_L33 (x1_12 : Int32) (x3_13 : Int32) (x5_14 : Int32) (x6_15 : Int32) (K83 : MI → MJ → Prop) : Nat → Int32 → MI → MJ → Prop
  | 0, _, _, _ => False
  | n + 1, x7_16, I_17, J_18 => f_X8_layNow_B33 x1_12 x3_13 x5_14 x6_15 K83 (f_X8_layNow_L33 x1_12 x3_13 x5_14 x6_15 K83 n) x7_16 I_17 J_18
def f_X8_layNow_B169 (x3_55 : Int32) (K207 : MI → MJ → Prop) (rec169 : Int32 → MI → MJ → Prop) (x7_56 : Int32) (I_57 : MI) (J_58 : MJ) : Prop :=
  f_X8_ofPlayer x3_55 (1 : Int32) I_57 J_58 (fun (v_61 : Int32) (I_59 : MI) (J_60 : MJ) => f_X8_wordAt x3_55 v_61 I_59 J_60 (fun (v_64 : Int32) (I_62 : MI) (J_63 : MJ) => ((v_64 ≤ x7_56 → K207 I_62 J_63) ∧ (¬ v_64 ≤ x7_56 → (vp_in (x7_56 + (9 : Int32)) 1802 ∧ (vp_in x7_56 1802 ∧ ∀ I_68 : MI, I_68 = sI I_62 12 2 x7_56.toNatClampNeg (I_62 12 2 (x7_56 + (9 : Int32)).toNatClampNeg) → ∀ x7_69 : Int32, x7_69 = x7_56 + (1 : Int32) → rec169 x7_69 I_68 J_63))))))
def f_X8_layNow_L169 (x3_55 : Int32) (K207 : MI → MJ → Prop) : Nat → Int32 → MI → MJ → Prop
  | 0, _, _, _ => False
  | n + 1, x7_56, I_57, J_58 => f_X8_layNow_B169 x3_55 K207 (f_X8_layNow_L169 x3_55 K207 n) x7_56 I_57 J_58
def f_X8_layNow (x1 : Int32) (x2 : Int32) (I : MI) (J : MJ) (Q : Int32 → MI → MJ → Prop) : Prop :=
  (vp_in (5 : Int32) 1802 ∧ ∀ x3_2 : Int32, x3_2 = I 12 2 (5 : Int32).toNatClampNeg → f_X8_pointsFor x3_2 x1 x2 I J (fun (v_5 : Int32) (I_3 : MI) (J_4 : MJ) => f_X8_lengthOf x3_2 x1 I_3 J_4 (fun (v_8 : Int32) (I_6 : MI) (J_7 : MJ) => f_X8_rowAt x2 I_6 J_7 (fun (v_11 : Int32) (I_9 : MI) (J_10 : MJ) => ∃ n : Nat, f_X8_layNow_L33 x1 x3_2 v_8 v_11 (fun (I_28 : MI) (J_29 : MJ) => (vp_in (v_11 + (1 : Int32)) 1802 ∧ (vp_in (v_11 + (1 : Int32)) 1802 ∧ ∀ I_32 : MI, I_32 = sI I_28 12 2 (v_11 + (1 : Int32)).toNatClampNeg ((I_28 12 2 (v_11 + (1 : Int32)).toNatClampNeg) + v_8) → (vp_in (v_11 + (2 : Int32)) 1802 ∧ (vp_in (v_11 + (2 : Int32)) 1802 ∧ ∀ I_35 : MI, I_35 = sI I_32 12 2 (v_11 + (2 : Int32)).toNatClampNeg ((I_32 12 2 (v_11 + (2 : Int32)).toNatClampNeg) + (1 : Int32)) → (vp_in (v_11 + (3 : Int32)) 1802 ∧ ∀ I_37 : MI, I_37 = sI I_35 12 2 (v_11 + (3 : Int32)).toNatClampNeg x3_2 → (vp_in (v_11 + (4 : Int32)) 1802 ∧ ∀ I_39 : MI, I_39 = sI I_37 12 2 (v_11 + (4 : Int32)).toNatClampNeg v_8 → f_X8_playerAt x3_2 I_39 J_29 (fun (v_42 : Int32) (I_40 : MI) (J_41 : MJ) => (vp_in (v_42 + (0 : Int32)) 1802 ∧ (vp_in (v_42 + (0 : Int32)) 1802 ∧ ∀ I_45 : MI, I_45 = sI I_40 12 2 (v_42 + (0 : Int32)).toNatClampNeg ((I_40 12 2 (v_42 + (0 : Int32)).toNatClampNeg) + v_5) → f_X8_playerAt x3_2 I_45 J_41 (fun (v_48 : Int32) (I_46 : MI) (J_47 : MJ) => (vp_in (v_48 + (1 : Int32)) 1802 ∧ (vp_in (v_48 + (1 : Int32)) 1802 ∧ ∀ I_51 : MI, I_51 = sI I_46 12 2 (v_48 + (1 : Int32)).toNatClampNeg ((I_46 12 2 (v_48 + (1 : Int32)).toNatClampNeg) - (1 : Int32)) → f_X8_wordAt x3_2 x1 I_51 J_47 (fun (v_54 : Int32) (I_52 : MI) (J_53 : MJ) => ∃ n : Nat, f_X8_layNow_L169 x3_2 (fun (I_70 : MI) (J_71 : MJ) => (vp_in (7 : Int32) 1802 ∧ ∀ I_73 : MI, I_73 = sI I_70 12 2 (7 : Int32).toNatClampNeg (0 : Int32) → f_X8_wordsOfAll I_73 J_71 (fun (v_76 : Int32) (I_74 : MI) (J_75 : MJ) => ((v_76 = (0 : Int32) → f_X8_endGame I_74 J_75 (fun (I_80 : MI) (J_81 : MJ) => Q v_5 I_80 J_81)) ∧ (¬ v_76 = (0 : Int32) → f_X8_nextTurn I_74 J_75 (fun (I_78 : MI) (J_79 : MJ) => Q v_5 I_78 J_79)))))) n v_54 I_52 J_53)))))))))))))) n (0 : Int32) I_9 J_10))))
set_option maxRecDepth 100000 in
set_option maxHeartbeats 4000000 in
theorem c_X8_layNow {l : Launch} {E : EV} {ps : List (Nat × Nat)} (h12 : ∀ r, r < 17 → (12, r) ∈ ps) {x1 : Int32} {x2 : Int32} {I : MI} {J : MJ} {Q : Int32 → MI → MJ → Prop} (hf : f_X8_layNow x1 x2 I J Q) : KI l yX8_layNow wsX8_layNow rmX8_layNow E ps [.ref (eA E 12 0), .int x1, .int x2] I J Q := by
  refine K_ofI (cc := cX8_layNow) (maxL := 8) (ty := .int) (by decide +kernel) rfl (Nat.le_of_ble_eq_true rfl) (fun p e s m args below meth c Qm hret S hK hX => ?_)
  have hA : ∀ q, s.heap.size ≤ q → AA E ps s.heap.size q := fun _ h => Or.inr h
  have k1 := S.2.2.2.2 (.fieldLink RX8 17 "RhymeRoofsModel" "data" "[I") (by decide +kernel)
  have iX8 : ∀ w ∈ wsX80, w ∈ wsX8_layNow := fun _ h => List.mem_cons_of_mem _ (List.mem_append_right _ h)
  intro H locs ls hP hD hS hl
  unfold f_X8_layNow at hf
  refine lv_aload_n S.1 S.2.1 dX8_layNow_0 rfl (lv_at hl 0 rfl) ?_
  refine gfX8_8 S iX8 hK hP (h12 0 (by decide)) k1 dX8_layNow_1 ?_
  refine lv_iconst (v := 5) S.1 S.2.1 dX8_layNow_4 rfl ?_
  obtain ⟨h_1, hf⟩ := hf
  refine R_iald S.1 S.2.1 hK hP (h12 2 (by decide)) (IAm2 E) h_1 dX8_layNow_5 ?_
  refine lv_topi (fun x3_2 ex3_2 => ?_)
  have hf := hf x3_2 ex3_2
  refine lv_istore_n (lv' := [(3, .int x3_2), (0, .ref (eA E 12 0)), (1, .int x1), (2, .int x2)]) S.1 S.2.1 dX8_layNow_6 rfl hl (by decide) rfl (fun ls hl => ?_)
  refine lv_aload_n S.1 S.2.1 dX8_layNow_7 rfl (lv_at hl 1 rfl) ?_
  refine lv_iload_n S.1 S.2.1 dX8_layNow_8 rfl (lv_at hl 0 rfl) ?_
  refine lv_iload_n S.1 S.2.1 dX8_layNow_9 rfl (lv_at hl 2 rfl) ?_
  refine lv_iload_n S.1 S.2.1 dX8_layNow_10 rfl (lv_at hl 3 rfl) ?_
  refine R_cVi (As := [.int x3_2, .int x1, .int x2]) (rest := []) S (c_X8_pointsFor (h12 := h12)  hf) gX8_layNow_X8_pointsFor rfl yk_X8_pointsFor ⟨⟨Nat.le_of_ble_eq_true rfl, Nat.le_of_ble_eq_true rfl⟩, rfl, rfl⟩ hK hP hD hS hX hA (h12 0 (by decide)) (cF_m E _ _ 0) rfl rfl hl.1 rfl (Nat.le_of_ble_eq_true rfl) ⟨Nat.zero_le _, Nat.zero_le _⟩ dX8_layNow_11 (fun v_5 I_3 J_4 H locs hf hP hD hS => ?_)
  refine lv_istore (lv' := [(4, .int v_5), (3, .int x3_2), (0, .ref (eA E 12 0)), (1, .int x1), (2, .int x2)]) S.1 S.2.1 dX8_layNow_14 hl (by decide) rfl (fun ls hl => ?_)
  refine lv_aload_n S.1 S.2.1 dX8_layNow_16 rfl (lv_at hl 2 rfl) ?_
  refine lv_iload_n S.1 S.2.1 dX8_layNow_17 rfl (lv_at hl 1 rfl) ?_
  refine lv_iload_n S.1 S.2.1 dX8_layNow_18 rfl (lv_at hl 3 rfl) ?_
  refine R_cVi (As := [.int x3_2, .int x1]) (rest := []) S (c_X8_lengthOf (h12 := h12)  hf) gX8_layNow_X8_lengthOf rfl yk_X8_lengthOf ⟨⟨Nat.le_of_ble_eq_true rfl, Nat.le_of_ble_eq_true rfl⟩, rfl, rfl⟩ hK hP hD hS hX hA (h12 0 (by decide)) (cF_m E _ _ 0) rfl rfl hl.1 rfl (Nat.le_of_ble_eq_true rfl) ⟨Nat.zero_le _, Nat.zero_le _⟩ dX8_layNow_19 (fun v_8 I_6 J_7 H locs hf hP hD hS => ?_)
  refine lv_istore (lv' := [(5, .int v_8), (4, .int v_5), (3, .int x3_2), (0, .ref (eA E 12 0)), (1, .int x1), (2, .int x2)]) S.1 S.2.1 dX8_layNow_22 hl (by decide) rfl (fun ls hl => ?_)
  refine lv_iload_n S.1 S.2.1 dX8_layNow_24 rfl (lv_at hl 5 rfl) ?_
  refine R_cSi (As := [.int x2]) (rest := []) S (c_X8_rowAt   hf) gX8_layNow_X8_rowAt rfl yk_X8_rowAt ⟨⟨Nat.le_of_ble_eq_true rfl, Nat.le_of_ble_eq_true rfl⟩, rfl, rfl⟩ hK hP hD hS hX hA rfl hl.1 rfl (Nat.le_of_ble_eq_true rfl) ⟨Nat.zero_le _, Nat.zero_le _⟩ dX8_layNow_25 (fun v_11 I_9 J_10 H locs hf hP hD hS => ?_)
  refine lv_istore (lv' := [(6, .int v_11), (5, .int v_8), (4, .int v_5), (3, .int x3_2), (0, .ref (eA E 12 0)), (1, .int x1), (2, .int x2)]) S.1 S.2.1 dX8_layNow_28 hl (by decide) rfl (fun ls hl => ?_)
  refine lv_iconst (v := 0) S.1 S.2.1 dX8_layNow_30 rfl ?_
  refine lv_istore (lv' := [(7, .int (0 : Int32)), (6, .int v_11), (5, .int v_8), (4, .int v_5), (3, .int x3_2), (0, .ref (eA E 12 0)), (1, .int x1), (2, .int x2)]) S.1 S.2.1 dX8_layNow_31 hl (by decide) rfl (fun ls hl => ?_)
  obtain ⟨n_83, hf⟩ := hf
  have L33 : ∀ (x1_12 : Int32), ∀ (x3_13 : Int32), ∀ (x5_14 : Int32), ∀ (x6_15 : Int32), ∀ (K83 : MI → MJ → Prop), (∀ (I_28 : MI) (J_29 : MJ), K83 I_28 J_29 → Wj p l e (rmX8_layNow) s m args below meth c Qm E ps 8 I_28 J_29 83 [(0, .ref (eA E 12 0)), (1, .int x1_12), (3, .int x3_13), (4, .int v_5), (5, .int x5_14), (6, .int x6_15)] []) → ∀ (n : Nat) (x7_16 : Int32) (I_17 : MI) (J_18 : MJ), f_X8_layNow_L33 x1_12 x3_13 x5_14 x6_15 K83 n x7_16 I_17 J_18 → Wj p l e (rmX8_layNow) s m args below meth c Qm E ps 8 I_17 J_18 33 [(0, .ref (eA E 12 0)), (1, .int x1_12), (3, .int x3_13), (4, .int v_5), (5, .int x5_14), (6, .int x6_15), (7, .int x7_16)] [] := by
    intro x1_12 x3_13 x5_14 x6_15 K83 kx83 n
    induction n with
    | zero => intro x7_16 I_17 J_18 hf; exact hf.elim
    | succ n ih33 =>
      intro x7_16 I_17 J_18 hf
      have hf : f_X8_layNow_B33 x1_12 x3_13 x5_14 x6_15 K83 (f_X8_layNow_L33 x1_12 x3_13 x5_14 x6_15 K83 n) x7_16 I_17 J_18 := hf
      intro H locs ls hP hD hS hl
      unfold f_X8_layNow_B33 at hf
      refine lv_iload S.1 S.2.1 dX8_layNow_33 (lv_at hl 6 rfl) ?_
      refine lv_iload S.1 S.2.1 dX8_layNow_35 (lv_at hl 4 rfl) ?_
      refine lv_icmp_ge (tgt := 83) S.1 S.2.1 dX8_layNow_37 (by decide) (fun h_19 => ?_) (fun h_19 => ?_)
      · have hf := hf.1 h_19
        exact kx83 _ _ hf _ _ _ hP hD hS (lv_sub hl [0, 1, 2, 3, 4, 5] rfl)
      · have hf := hf.2 h_19
        refine lv_aload_n S.1 S.2.1 dX8_layNow_40 rfl (lv_at hl 0 rfl) ?_
        refine gfX8_8 S iX8 hK hP (h12 0 (by decide)) k1 dX8_layNow_41 ?_
        refine lv_iload S.1 S.2.1 dX8_layNow_44 (lv_at hl 5 rfl) ?_
        refine lv_iconst (v := 5) S.1 S.2.1 dX8_layNow_46 rfl ?_
        refine lv_iadd S.1 S.2.1 dX8_layNow_47 ?_
        refine lv_aload_n S.1 S.2.1 dX8_layNow_48 rfl (lv_at hl 0 rfl) ?_
        refine gfX8_8 S iX8 hK hP (h12 0 (by decide)) k1 dX8_layNow_49 ?_
        refine lv_iload S.1 S.2.1 dX8_layNow_52 (lv_at hl 5 rfl) ?_
        refine lv_iconst (v := 1) S.1 S.2.1 dX8_layNow_54 rfl ?_
        refine lv_iadd S.1 S.2.1 dX8_layNow_55 ?_
        obtain ⟨h_20, hf⟩ := hf
        refine R_iald S.1 S.2.1 hK hP (h12 2 (by decide)) (IAm2 E) h_20 dX8_layNow_56 ?_
        refine lv_iadd S.1 S.2.1 dX8_layNow_57 ?_
        refine lv_iload S.1 S.2.1 dX8_layNow_58 (lv_at hl 6 rfl) ?_
        refine lv_iadd S.1 S.2.1 dX8_layNow_60 ?_
        refine lv_aload_n S.1 S.2.1 dX8_layNow_61 rfl (lv_at hl 0 rfl) ?_
        refine gfX8_8 S iX8 hK hP (h12 0 (by decide)) k1 dX8_layNow_62 ?_
        refine lv_iload_n S.1 S.2.1 dX8_layNow_65 rfl (lv_at hl 2 rfl) ?_
        refine lv_iload_n S.1 S.2.1 dX8_layNow_66 rfl (lv_at hl 1 rfl) ?_
        refine R_cSi (As := [.int x3_13, .int x1_12]) (rest := [.ref (eA E 12 2), .int (((x6_15 + (5 : Int32)) + (I_17 12 2 (x6_15 + (1 : Int32)).toNatClampNeg)) + x7_16), .ref (eA E 12 2)]) S (c_X8_wordAt   hf) gX8_layNow_X8_wordAt rfl yk_X8_wordAt ⟨⟨Nat.le_of_ble_eq_true rfl, Nat.le_of_ble_eq_true rfl⟩, rfl, rfl⟩ hK hP hD hS hX hA rfl hl.1 rfl (Nat.le_of_ble_eq_true rfl) ⟨Nat.zero_le _, Nat.zero_le _⟩ dX8_layNow_67 (fun v_23 I_21 J_22 H locs hf hP hD hS => ?_)
        refine lv_iconst (v := 1) S.1 S.2.1 dX8_layNow_70 rfl ?_
        refine lv_iadd S.1 S.2.1 dX8_layNow_71 ?_
        refine lv_iload S.1 S.2.1 dX8_layNow_72 (lv_at hl 6 rfl) ?_
        refine lv_iadd S.1 S.2.1 dX8_layNow_74 ?_
        obtain ⟨h_24, hf⟩ := hf
        refine R_iald S.1 S.2.1 hK hP (h12 2 (by decide)) (IAm2 E) h_24 dX8_layNow_75 ?_
        obtain ⟨h_25, hf⟩ := hf
        refine nm_o hf (fun I_26 eI_26 hf => ?_)
        refine R_iast S.1 S.2.1 hK hP hD hS (h12 2 (by decide)) (IAm2 E) h_25 dX8_layNow_76 eI_26 (fun H locs hP hD hS => ?_)
        refine nm_o hf (fun x7_27 ex7_27 hf => ?_)
        refine lv_iinc (v := x7_27) (lv' := [(7, .int x7_27), (0, .ref (eA E 12 0)), (1, .int x1_12), (3, .int x3_13), (4, .int v_5), (5, .int x5_14), (6, .int x6_15)]) S.1 S.2.1 dX8_layNow_77 hl (k := 6) rfl (by rw [ex7_27]; rfl) (by decide) rfl (fun ls hl => ?_)
        refine lv_goto (tgt := 33) S.1 S.2.1 dX8_layNow_80 (by decide) ?_
        exact ih33 _ _ _ hf _ _ _ hP hD hS (lv_sub hl [1, 2, 3, 4, 5, 6, 0] rfl)
  refine L33 _ _ _ _ _ (fun I_28 J_29 hf H locs ls hP hD hS hl => ?_)  n_83 _ _ _ hf _ _ _ hP hD hS (lv_sub hl [5, 6, 4, 3, 2, 1, 0] rfl)
  refine lv_aload_n S.1 S.2.1 dX8_layNow_83 rfl (lv_at hl 0 rfl) ?_
  refine gfX8_8 S iX8 hK hP (h12 0 (by decide)) k1 dX8_layNow_84 ?_
  refine lv_iload S.1 S.2.1 dX8_layNow_87 (lv_at hl 5 rfl) ?_
  refine lv_iconst (v := 1) S.1 S.2.1 dX8_layNow_89 rfl ?_
  refine lv_iadd S.1 S.2.1 dX8_layNow_90 ?_
  refine lv_dup2_11 S.1 S.2.1 dX8_layNow_91 rfl rfl ?_
  obtain ⟨h_30, hf⟩ := hf
  refine R_iald S.1 S.2.1 hK hP (h12 2 (by decide)) (IAm2 E) h_30 dX8_layNow_92 ?_
  refine lv_iload S.1 S.2.1 dX8_layNow_93 (lv_at hl 4 rfl) ?_
  refine lv_iadd S.1 S.2.1 dX8_layNow_95 ?_
  obtain ⟨h_31, hf⟩ := hf
  refine nm_o hf (fun I_32 eI_32 hf => ?_)
  refine R_iast S.1 S.2.1 hK hP hD hS (h12 2 (by decide)) (IAm2 E) h_31 dX8_layNow_96 eI_32 (fun H locs hP hD hS => ?_)
  refine lv_aload_n S.1 S.2.1 dX8_layNow_97 rfl (lv_at hl 0 rfl) ?_
  refine gfX8_8 S iX8 hK hP (h12 0 (by decide)) k1 dX8_layNow_98 ?_
  refine lv_iload S.1 S.2.1 dX8_layNow_101 (lv_at hl 5 rfl) ?_
  refine lv_iconst (v := 2) S.1 S.2.1 dX8_layNow_103 rfl ?_
  refine lv_iadd S.1 S.2.1 dX8_layNow_104 ?_
  refine lv_dup2_11 S.1 S.2.1 dX8_layNow_105 rfl rfl ?_
  obtain ⟨h_33, hf⟩ := hf
  refine R_iald S.1 S.2.1 hK hP (h12 2 (by decide)) (IAm2 E) h_33 dX8_layNow_106 ?_
  refine lv_iconst (v := 1) S.1 S.2.1 dX8_layNow_107 rfl ?_
  refine lv_iadd S.1 S.2.1 dX8_layNow_108 ?_
  obtain ⟨h_34, hf⟩ := hf
  refine nm_o hf (fun I_35 eI_35 hf => ?_)
  refine R_iast S.1 S.2.1 hK hP hD hS (h12 2 (by decide)) (IAm2 E) h_34 dX8_layNow_109 eI_35 (fun H locs hP hD hS => ?_)
  refine lv_aload_n S.1 S.2.1 dX8_layNow_110 rfl (lv_at hl 0 rfl) ?_
  refine gfX8_8 S iX8 hK hP (h12 0 (by decide)) k1 dX8_layNow_111 ?_
  refine lv_iload S.1 S.2.1 dX8_layNow_114 (lv_at hl 5 rfl) ?_
  refine lv_iconst (v := 3) S.1 S.2.1 dX8_layNow_116 rfl ?_
  refine lv_iadd S.1 S.2.1 dX8_layNow_117 ?_
  refine lv_iload_n S.1 S.2.1 dX8_layNow_118 rfl (lv_at hl 2 rfl) ?_
  obtain ⟨h_36, hf⟩ := hf
  refine nm_o hf (fun I_37 eI_37 hf => ?_)
  refine R_iast S.1 S.2.1 hK hP hD hS (h12 2 (by decide)) (IAm2 E) h_36 dX8_layNow_119 eI_37 (fun H locs hP hD hS => ?_)
  refine lv_aload_n S.1 S.2.1 dX8_layNow_120 rfl (lv_at hl 0 rfl) ?_
  refine gfX8_8 S iX8 hK hP (h12 0 (by decide)) k1 dX8_layNow_121 ?_
  refine lv_iload S.1 S.2.1 dX8_layNow_124 (lv_at hl 5 rfl) ?_
  refine lv_iconst (v := 4) S.1 S.2.1 dX8_layNow_126 rfl ?_
  refine lv_iadd S.1 S.2.1 dX8_layNow_127 ?_
  refine lv_iload S.1 S.2.1 dX8_layNow_128 (lv_at hl 4 rfl) ?_
  obtain ⟨h_38, hf⟩ := hf
  refine nm_o hf (fun I_39 eI_39 hf => ?_)
  refine R_iast S.1 S.2.1 hK hP hD hS (h12 2 (by decide)) (IAm2 E) h_38 dX8_layNow_130 eI_39 (fun H locs hP hD hS => ?_)
  refine lv_aload_n S.1 S.2.1 dX8_layNow_131 rfl (lv_at hl 0 rfl) ?_
  refine gfX8_8 S iX8 hK hP (h12 0 (by decide)) k1 dX8_layNow_132 ?_
  refine lv_iload_n S.1 S.2.1 dX8_layNow_135 rfl (lv_at hl 2 rfl) ?_
  refine R_cSi (As := [.int x3_2]) (rest := [.ref (eA E 12 2)]) S (c_X8_playerAt   hf) gX8_layNow_X8_playerAt rfl yk_X8_playerAt ⟨⟨Nat.le_of_ble_eq_true rfl, Nat.le_of_ble_eq_true rfl⟩, rfl, rfl⟩ hK hP hD hS hX hA rfl hl.1 rfl (Nat.le_of_ble_eq_true rfl) ⟨Nat.zero_le _, Nat.zero_le _⟩ dX8_layNow_136 (fun v_42 I_40 J_41 H locs hf hP hD hS => ?_)
  refine lv_iconst (v := 0) S.1 S.2.1 dX8_layNow_139 rfl ?_
  refine lv_iadd S.1 S.2.1 dX8_layNow_140 ?_
  refine lv_dup2_11 S.1 S.2.1 dX8_layNow_141 rfl rfl ?_
  obtain ⟨h_43, hf⟩ := hf
  refine R_iald S.1 S.2.1 hK hP (h12 2 (by decide)) (IAm2 E) h_43 dX8_layNow_142 ?_
  refine lv_iload S.1 S.2.1 dX8_layNow_143 (lv_at hl 3 rfl) ?_
  refine lv_iadd S.1 S.2.1 dX8_layNow_145 ?_
  obtain ⟨h_44, hf⟩ := hf
  refine nm_o hf (fun I_45 eI_45 hf => ?_)
  refine R_iast S.1 S.2.1 hK hP hD hS (h12 2 (by decide)) (IAm2 E) h_44 dX8_layNow_146 eI_45 (fun H locs hP hD hS => ?_)
  refine lv_aload_n S.1 S.2.1 dX8_layNow_147 rfl (lv_at hl 0 rfl) ?_
  refine gfX8_8 S iX8 hK hP (h12 0 (by decide)) k1 dX8_layNow_148 ?_
  refine lv_iload_n S.1 S.2.1 dX8_layNow_151 rfl (lv_at hl 2 rfl) ?_
  refine R_cSi (As := [.int x3_2]) (rest := [.ref (eA E 12 2)]) S (c_X8_playerAt   hf) gX8_layNow_X8_playerAt rfl yk_X8_playerAt ⟨⟨Nat.le_of_ble_eq_true rfl, Nat.le_of_ble_eq_true rfl⟩, rfl, rfl⟩ hK hP hD hS hX hA rfl hl.1 rfl (Nat.le_of_ble_eq_true rfl) ⟨Nat.zero_le _, Nat.zero_le _⟩ dX8_layNow_152 (fun v_48 I_46 J_47 H locs hf hP hD hS => ?_)
  refine lv_iconst (v := 1) S.1 S.2.1 dX8_layNow_155 rfl ?_
  refine lv_iadd S.1 S.2.1 dX8_layNow_156 ?_
  refine lv_dup2_11 S.1 S.2.1 dX8_layNow_157 rfl rfl ?_
  obtain ⟨h_49, hf⟩ := hf
  refine R_iald S.1 S.2.1 hK hP (h12 2 (by decide)) (IAm2 E) h_49 dX8_layNow_158 ?_
  refine lv_iconst (v := 1) S.1 S.2.1 dX8_layNow_159 rfl ?_
  refine lv_isub S.1 S.2.1 dX8_layNow_160 ?_
  obtain ⟨h_50, hf⟩ := hf
  refine nm_o hf (fun I_51 eI_51 hf => ?_)
  refine R_iast S.1 S.2.1 hK hP hD hS (h12 2 (by decide)) (IAm2 E) h_50 dX8_layNow_161 eI_51 (fun H locs hP hD hS => ?_)
  refine lv_iload_n S.1 S.2.1 dX8_layNow_162 rfl (lv_at hl 2 rfl) ?_
  refine lv_iload_n S.1 S.2.1 dX8_layNow_163 rfl (lv_at hl 1 rfl) ?_
  refine R_cSi (As := [.int x3_2, .int x1]) (rest := []) S (c_X8_wordAt   hf) gX8_layNow_X8_wordAt rfl yk_X8_wordAt ⟨⟨Nat.le_of_ble_eq_true rfl, Nat.le_of_ble_eq_true rfl⟩, rfl, rfl⟩ hK hP hD hS hX hA rfl hl.1 rfl (Nat.le_of_ble_eq_true rfl) ⟨Nat.zero_le _, Nat.zero_le _⟩ dX8_layNow_164 (fun v_54 I_52 J_53 H locs hf hP hD hS => ?_)
  refine lv_istore (lv' := [(7, .int v_54), (0, .ref (eA E 12 0)), (1, .int x1), (3, .int x3_2), (4, .int v_5), (5, .int v_8), (6, .int v_11)]) S.1 S.2.1 dX8_layNow_167 hl (by decide) rfl (fun ls hl => ?_)
  obtain ⟨n_82, hf⟩ := hf
  have L169 : ∀ (x3_55 : Int32), ∀ (K207 : MI → MJ → Prop), (∀ (I_70 : MI) (J_71 : MJ), K207 I_70 J_71 → Wj p l e (rmX8_layNow) s m args below meth c Qm E ps 8 I_70 J_71 207 [(0, .ref (eA E 12 0)), (4, .int v_5)] []) → ∀ (n : Nat) (x7_56 : Int32) (I_57 : MI) (J_58 : MJ), f_X8_layNow_L169 x3_55 K207 n x7_56 I_57 J_58 → Wj p l e (rmX8_layNow) s m args below meth c Qm E ps 8 I_57 J_58 169 [(0, .ref (eA E 12 0)), (3, .int x3_55), (4, .int v_5), (7, .int x7_56)] [] := by
    intro x3_55 K207 kx207 n
    induction n with
    | zero => intro x7_56 I_57 J_58 hf; exact hf.elim
    | succ n ih169 =>
      intro x7_56 I_57 J_58 hf
      have hf : f_X8_layNow_B169 x3_55 K207 (f_X8_layNow_L169 x3_55 K207 n) x7_56 I_57 J_58 := hf
      intro H locs ls hP hD hS hl
      unfold f_X8_layNow_B169 at hf
      refine lv_iload S.1 S.2.1 dX8_layNow_169 (lv_at hl 3 rfl) ?_
      refine lv_iload_n S.1 S.2.1 dX8_layNow_171 rfl (lv_at hl 1 rfl) ?_
      refine lv_aload_n S.1 S.2.1 dX8_layNow_172 rfl (lv_at hl 0 rfl) ?_
      refine lv_iload_n S.1 S.2.1 dX8_layNow_173 rfl (lv_at hl 1 rfl) ?_
      refine lv_iconst (v := 1) S.1 S.2.1 dX8_layNow_174 rfl ?_
      refine R_cVi (As := [.int x3_55, .int (1 : Int32)]) (rest := [.int x3_55, .int x7_56]) S (c_X8_ofPlayer (h12 := h12)  hf) gX8_layNow_X8_ofPlayer rfl yk_X8_ofPlayer ⟨⟨Nat.le_of_ble_eq_true rfl, Nat.le_of_ble_eq_true rfl⟩, rfl, rfl⟩ hK hP hD hS hX hA (h12 0 (by decide)) (cF_m E _ _ 0) rfl rfl hl.1 rfl (Nat.le_of_ble_eq_true rfl) ⟨Nat.zero_le _, Nat.zero_le _⟩ dX8_layNow_175 (fun v_61 I_59 J_60 H locs hf hP hD hS => ?_)
      refine R_cSi (As := [.int x3_55, .int v_61]) (rest := [.int x7_56]) S (c_X8_wordAt   hf) gX8_layNow_X8_wordAt rfl yk_X8_wordAt ⟨⟨Nat.le_of_ble_eq_true rfl, Nat.le_of_ble_eq_true rfl⟩, rfl, rfl⟩ hK hP hD hS hX hA rfl hl.1 rfl (Nat.le_of_ble_eq_true rfl) ⟨Nat.zero_le _, Nat.zero_le _⟩ dX8_layNow_178 (fun v_64 I_62 J_63 H locs hf hP hD hS => ?_)
      refine lv_icmp_ge (tgt := 207) S.1 S.2.1 dX8_layNow_181 (by decide) (fun h_65 => ?_) (fun h_65 => ?_)
      · have hf := hf.1 h_65
        exact kx207 _ _ hf _ _ _ hP hD hS (lv_sub hl [0, 2] rfl)
      · have hf := hf.2 h_65
        refine lv_aload_n S.1 S.2.1 dX8_layNow_184 rfl (lv_at hl 0 rfl) ?_
        refine gfX8_8 S iX8 hK hP (h12 0 (by decide)) k1 dX8_layNow_185 ?_
        refine lv_iload S.1 S.2.1 dX8_layNow_188 (lv_at hl 3 rfl) ?_
        refine lv_aload_n S.1 S.2.1 dX8_layNow_190 rfl (lv_at hl 0 rfl) ?_
        refine gfX8_8 S iX8 hK hP (h12 0 (by decide)) k1 dX8_layNow_191 ?_
        refine lv_iload S.1 S.2.1 dX8_layNow_194 (lv_at hl 3 rfl) ?_
        refine lv_bipush (v := 9) S.1 S.2.1 dX8_layNow_196 rfl ?_
        refine lv_iadd S.1 S.2.1 dX8_layNow_198 ?_
        obtain ⟨h_66, hf⟩ := hf
        refine R_iald S.1 S.2.1 hK hP (h12 2 (by decide)) (IAm2 E) h_66 dX8_layNow_199 ?_
        obtain ⟨h_67, hf⟩ := hf
        refine nm_o hf (fun I_68 eI_68 hf => ?_)
        refine R_iast S.1 S.2.1 hK hP hD hS (h12 2 (by decide)) (IAm2 E) h_67 dX8_layNow_200 eI_68 (fun H locs hP hD hS => ?_)
        refine nm_o hf (fun x7_69 ex7_69 hf => ?_)
        refine lv_iinc (v := x7_69) (lv' := [(7, .int x7_69), (0, .ref (eA E 12 0)), (3, .int x3_55), (4, .int v_5)]) S.1 S.2.1 dX8_layNow_201 hl (k := 3) rfl (by rw [ex7_69]; rfl) (by decide) rfl (fun ls hl => ?_)
        refine lv_goto (tgt := 169) S.1 S.2.1 dX8_layNow_204 (by decide) ?_
        exact ih169 _ _ _ hf _ _ _ hP hD hS (lv_sub hl [1, 2, 3, 0] rfl)
  refine L169 _ _ (fun I_70 J_71 hf H locs ls hP hD hS hl => ?_)  n_82 _ _ _ hf _ _ _ hP hD hS (lv_sub hl [1, 3, 4, 0] rfl)
  refine lv_aload_n S.1 S.2.1 dX8_layNow_207 rfl (lv_at hl 0 rfl) ?_
  refine gfX8_8 S iX8 hK hP (h12 0 (by decide)) k1 dX8_layNow_208 ?_
  refine lv_bipush (v := 7) S.1 S.2.1 dX8_layNow_211 rfl ?_
  refine lv_iconst (v := 0) S.1 S.2.1 dX8_layNow_213 rfl ?_
  obtain ⟨h_72, hf⟩ := hf
  refine nm_o hf (fun I_73 eI_73 hf => ?_)
  refine R_iast S.1 S.2.1 hK hP hD hS (h12 2 (by decide)) (IAm2 E) h_72 dX8_layNow_214 eI_73 (fun H locs hP hD hS => ?_)
  refine lv_aload_n S.1 S.2.1 dX8_layNow_215 rfl (lv_at hl 0 rfl) ?_
  refine R_cVi (As := []) (rest := []) S (c_X8_wordsOfAll (h12 := h12)  hf) gX8_layNow_X8_wordsOfAll rfl yk_X8_wordsOfAll ⟨⟨Nat.le_of_ble_eq_true rfl, Nat.le_of_ble_eq_true rfl⟩, rfl, rfl⟩ hK hP hD hS hX hA (h12 0 (by decide)) (cF_m E _ _ 0) rfl rfl hl.1 rfl (Nat.le_of_ble_eq_true rfl) ⟨Nat.zero_le _, Nat.zero_le _⟩ dX8_layNow_216 (fun v_76 I_74 J_75 H locs hf hP hD hS => ?_)
  refine lv_if_ne (tgt := 229) S.1 S.2.1 dX8_layNow_219 (by decide) (fun h_77 => ?_) (fun h_77 => ?_)
  · have hf := hf.2 h_77
    refine lv_aload_n S.1 S.2.1 dX8_layNow_229 rfl (lv_at hl 0 rfl) ?_
    refine R_cVv (As := []) (rest := []) S (c_X8_nextTurn (h12 := h12)  hf) gX8_layNow_X8_nextTurn rfl yk_X8_nextTurn ⟨⟨Nat.le_of_ble_eq_true rfl, Nat.le_of_ble_eq_true rfl⟩, rfl, rfl⟩ hK hP hD hS hX hA (h12 0 (by decide)) (cF_m E _ _ 0) rfl rfl hl.1 rfl (Nat.le_of_ble_eq_true rfl) ⟨Nat.zero_le _, Nat.zero_le _⟩ dX8_layNow_230 (fun I_78 J_79 H locs hf hP hD hS => ?_)
    refine lv_iload S.1 S.2.1 dX8_layNow_233 (lv_at hl 1 rfl) ?_
    exact hret hf rfl hP hD hS dX8_layNow_235
  · have hf := hf.1 h_77
    refine lv_aload_n S.1 S.2.1 dX8_layNow_222 rfl (lv_at hl 0 rfl) ?_
    refine R_cVv (As := []) (rest := []) S (c_X8_endGame (h12 := h12)  hf) gX8_layNow_X8_endGame rfl yk_X8_endGame ⟨⟨Nat.le_of_ble_eq_true rfl, Nat.le_of_ble_eq_true rfl⟩, rfl, rfl⟩ hK hP hD hS hX hA (h12 0 (by decide)) (cF_m E _ _ 0) rfl rfl hl.1 rfl (Nat.le_of_ble_eq_true rfl) ⟨Nat.zero_le _, Nat.zero_le _⟩ dX8_layNow_223 (fun I_80 J_81 H locs hf hP hD hS => ?_)
    refine lv_goto (tgt := 233) S.1 S.2.1 dX8_layNow_226 (by decide) ?_
    refine lv_iload S.1 S.2.1 dX8_layNow_233 (lv_at hl 1 rfl) ?_
    exact hret hf rfl hP hD hS dX8_layNow_235
abbrev rmX8_passNow : Room := { frames := 4, cells := 0, slots := 0, locals := 84 }
theorem yk_X8_passNow : yOk yX8_passNow RX8 0 := by unfold yOk; decide +kernel
def f_X8_passNow (I : MI) (J : MJ) (Q : MI → MJ → Prop) : Prop :=
  (vp_in (7 : Int32) 1802 ∧ (vp_in (7 : Int32) 1802 ∧ ∀ I_3 : MI, I_3 = sI I 12 2 (7 : Int32).toNatClampNeg ((I 12 2 (7 : Int32).toNatClampNeg) + (1 : Int32)) → (vp_in (7 : Int32) 1802 ∧ (vp_in (1 : Int32) 1802 ∧ (((I_3 12 2 (7 : Int32).toNatClampNeg) = (I_3 12 2 (1 : Int32).toNatClampNeg) → f_X8_endGame I_3 J (fun (I_9 : MI) (J_10 : MJ) => Q I_9 J_10)) ∧ (¬ (I_3 12 2 (7 : Int32).toNatClampNeg) = (I_3 12 2 (1 : Int32).toNatClampNeg) → f_X8_nextTurn I_3 J (fun (I_7 : MI) (J_8 : MJ) => Q I_7 J_8)))))))
set_option maxRecDepth 100000 in
set_option maxHeartbeats 4000000 in
theorem c_X8_passNow {l : Launch} {E : EV} {ps : List (Nat × Nat)} (h12 : ∀ r, r < 17 → (12, r) ∈ ps) {I : MI} {J : MJ} {Q : MI → MJ → Prop} (hf : f_X8_passNow I J Q) : KV l yX8_passNow wsX8_passNow rmX8_passNow E ps [.ref (eA E 12 0)] I J Q := by
  refine K_ofV (cc := cX8_passNow) (maxL := 1) (by decide +kernel) rfl (Nat.le_of_ble_eq_true rfl) (fun p e s m args below meth c Qm hret S hK hX => ?_)
  have hA : ∀ q, s.heap.size ≤ q → AA E ps s.heap.size q := fun _ h => Or.inr h
  have k1 := S.2.2.2.2 (.fieldLink RX8 17 "RhymeRoofsModel" "data" "[I") (by decide +kernel)
  have iX8 : ∀ w ∈ wsX80, w ∈ wsX8_passNow := fun _ h => List.mem_cons_of_mem _ (List.mem_append_right _ h)
  intro H locs ls hP hD hS hl
  unfold f_X8_passNow at hf
  refine lv_aload_n S.1 S.2.1 dX8_passNow_0 rfl (lv_at hl 0 rfl) ?_
  refine gfX8_8 S iX8 hK hP (h12 0 (by decide)) k1 dX8_passNow_1 ?_
  refine lv_bipush (v := 7) S.1 S.2.1 dX8_passNow_4 rfl ?_
  refine lv_dup2_11 S.1 S.2.1 dX8_passNow_6 rfl rfl ?_
  obtain ⟨h_1, hf⟩ := hf
  refine R_iald S.1 S.2.1 hK hP (h12 2 (by decide)) (IAm2 E) h_1 dX8_passNow_7 ?_
  refine lv_iconst (v := 1) S.1 S.2.1 dX8_passNow_8 rfl ?_
  refine lv_iadd S.1 S.2.1 dX8_passNow_9 ?_
  obtain ⟨h_2, hf⟩ := hf
  refine nm_o hf (fun I_3 eI_3 hf => ?_)
  refine R_iast S.1 S.2.1 hK hP hD hS (h12 2 (by decide)) (IAm2 E) h_2 dX8_passNow_10 eI_3 (fun H locs hP hD hS => ?_)
  refine lv_aload_n S.1 S.2.1 dX8_passNow_11 rfl (lv_at hl 0 rfl) ?_
  refine gfX8_8 S iX8 hK hP (h12 0 (by decide)) k1 dX8_passNow_12 ?_
  refine lv_bipush (v := 7) S.1 S.2.1 dX8_passNow_15 rfl ?_
  obtain ⟨h_4, hf⟩ := hf
  refine R_iald S.1 S.2.1 hK hP (h12 2 (by decide)) (IAm2 E) h_4 dX8_passNow_17 ?_
  refine lv_aload_n S.1 S.2.1 dX8_passNow_18 rfl (lv_at hl 0 rfl) ?_
  refine gfX8_8 S iX8 hK hP (h12 0 (by decide)) k1 dX8_passNow_19 ?_
  refine lv_iconst (v := 1) S.1 S.2.1 dX8_passNow_22 rfl ?_
  obtain ⟨h_5, hf⟩ := hf
  refine R_iald S.1 S.2.1 hK hP (h12 2 (by decide)) (IAm2 E) h_5 dX8_passNow_23 ?_
  refine lv_icmp_ne (tgt := 34) S.1 S.2.1 dX8_passNow_24 (by decide) (fun h_6 => ?_) (fun h_6 => ?_)
  · have hf := hf.2 h_6
    refine lv_aload_n S.1 S.2.1 dX8_passNow_34 rfl (lv_at hl 0 rfl) ?_
    refine R_cVv (As := []) (rest := []) S (c_X8_nextTurn (h12 := h12)  hf) gX8_passNow_X8_nextTurn rfl yk_X8_nextTurn ⟨⟨Nat.le_of_ble_eq_true rfl, Nat.le_of_ble_eq_true rfl⟩, rfl, rfl⟩ hK hP hD hS hX hA (h12 0 (by decide)) (cF_m E _ _ 0) rfl rfl hl.1 rfl (Nat.le_of_ble_eq_true rfl) ⟨Nat.zero_le _, Nat.zero_le _⟩ dX8_passNow_35 (fun I_7 J_8 H locs hf hP hD hS => ?_)
    exact hret hf hP hD hS dX8_passNow_38
  · have hf := hf.1 h_6
    refine lv_aload_n S.1 S.2.1 dX8_passNow_27 rfl (lv_at hl 0 rfl) ?_
    refine R_cVv (As := []) (rest := []) S (c_X8_endGame (h12 := h12)  hf) gX8_passNow_X8_endGame rfl yk_X8_endGame ⟨⟨Nat.le_of_ble_eq_true rfl, Nat.le_of_ble_eq_true rfl⟩, rfl, rfl⟩ hK hP hD hS hX hA (h12 0 (by decide)) (cF_m E _ _ 0) rfl rfl hl.1 rfl (Nat.le_of_ble_eq_true rfl) ⟨Nat.zero_le _, Nat.zero_le _⟩ dX8_passNow_28 (fun I_9 J_10 H locs hf hP hD hS => ?_)
    refine lv_goto (tgt := 38) S.1 S.2.1 dX8_passNow_31 (by decide) ?_
    exact hret hf hP hD hS dX8_passNow_38
