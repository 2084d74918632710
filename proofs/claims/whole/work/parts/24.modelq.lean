abbrev rmX8_layChains : Room := { frames := 5, cells := 0, slots := 0, locals := 109 }
theorem yk_X8_layChains : yOk yX8_layChains RX8 2 := by unfold yOk; decide +kernel
def f_X8_layChains_B195 (x1_46 : Int32) (x3_47 : Int32) (x6_48 : Int32) (x7_49 : Int32) (x8_50 : Int32) (x9_51 : Int32) (K350 : MI → MJ → Prop) (rec195 : Int32 → MI → MJ → Prop) (x10_52 : Int32) (I_53 : MI) (J_54 : MJ) : Prop :=
  ((x3_47 ≤ x10_52 → K350 I_53 J_54) ∧ (¬ x3_47 ≤ x10_52 → ∀ x11_56 : Int32, x11_56 = (((8 : Int32) * x9_51) + x10_52) → ((((x9_51 >>> (x10_52 &&& 31)) &&& (1 : Int32)) = (0 : Int32) → ∀ x10_58 : Int32, x10_58 = x10_52 + (1 : Int32) → rec195 x10_58 I_53 J_54) ∧ (¬ ((x9_51 >>> (x10_52 &&& 31)) &&& (1 : Int32)) = (0 : Int32) → (vp_in x11_56 2048 ∧ (((I_53 12 15 x11_56.toNatClampNeg) = (0 : Int32) → ∀ x10_61 : Int32, x10_61 = x10_52 + (1 : Int32) → rec195 x10_61 I_53 J_54) ∧ (¬ (I_53 12 15 x11_56.toNatClampNeg) = (0 : Int32) → f_X8_follows x1_46 x10_52 x7_49 I_53 J_54 (fun (v_64 : Int32) (I_62 : MI) (J_63 : MJ) => ((v_64 = (0 : Int32) → ∀ x10_97 : Int32, x10_97 = x10_52 + (1 : Int32) → rec195 x10_97 I_62 J_63) ∧ (¬ v_64 = (0 : Int32) → (vp_in x8_50 2048 ∧ (vp_in x11_56 2048 ∧ (vp_in x8_50 2048 ∧ ∀ I_69 : MI, I_69 = sI I_62 12 15 x8_50.toNatClampNeg ((I_62 12 15 x8_50.toNatClampNeg) + (I_62 12 15 x11_56.toNatClampNeg)) → f_X8_wordAt x1_46 x10_52 I_69 J_63 (fun (v_72 : Int32) (I_70 : MI) (J_71 : MJ) => f_X8_lengthOf x1_46 x10_52 I_70 J_71 (fun (v_75 : Int32) (I_73 : MI) (J_74 : MJ) => f_X8_wordAt x1_46 x7_49 I_73 J_74 (fun (v_78 : Int32) (I_76 : MI) (J_77 : MJ) => f_X8_lengthOf x1_46 x7_49 I_76 J_77 (fun (v_81 : Int32) (I_79 : MI) (J_80 : MJ) => f_X8_rhymeOf (v_72 + (1 : Int32)) v_75 (v_78 + (1 : Int32)) v_81 I_79 J_80 (fun (v_84 : Int32) (I_82 : MI) (J_83 : MJ) => (vp_in x8_50 2048 ∧ (vp_in x11_56 2048 ∧ f_X8_lengthOf x1_46 x7_49 I_82 J_83 (fun (v_89 : Int32) (I_87 : MI) (J_88 : MJ) => (vp_in (3 : Int32) 1802 ∧ f_X8_max (I_82 12 16 x8_50.toNatClampNeg) ((((I_82 12 16 x11_56.toNatClampNeg) + v_89) + ((I_87 12 2 (3 : Int32).toNatClampNeg) * v_84)) + x6_48) I_87 J_88 (fun (v_93 : Int32) (I_91 : MI) (J_92 : MJ) => (vp_in x8_50 2048 ∧ ∀ I_95 : MI, I_95 = sI I_91 12 16 x8_50.toNatClampNeg v_93 → ∀ x10_96 : Int32, x10_96 = x10_52 + (1 : Int32) → rec195 x10_96 I_95 J_92))))))))))))))))))))))))
def f_X8_layChains_L195 (x1_46 : Int32) (x3_47 : Int32) (x6_48 : Int32) (x7_49 : Int32) (x8_50 : Int32) (x9_51 : Int32) (K350 : MI → MJ → Prop) : Nat → Int32 → MI → MJ → Prop
  | 0, _, _, _ => False
  | n + 1, x10_52, I_53, J_54 => f_X8_layChains_B195 x1_46 x3_47 x6_48 x7_49 x8_50 x9_51 K350 (f_X8_layChains_L195 x1_46 x3_47 x6_48 x7_49 x8_50 x9_51 K350 n) x10_52 I_53 J_54
def f_X8_layChains_J155 (K356 : MI → MJ → Prop) (rec65 : Int32 → MI → MJ → Prop) (x1_23 : Int32) (x2_24 : Int32) (x3_25 : Int32) (x4_26 : Int32) (x5_27 : Int32) (x6_28 : Int32) (x7_106 : Int32) (x8_107 : Int32) (s_108 : Int32) (s_109 : Int32) (I_110 : MI) (J_111 : MJ) : Prop :=
  (vp_in s_109 2048 ∧ ∀ I_113 : MI, I_113 = sI I_110 12 15 s_109.toNatClampNeg s_108 → f_X8_lengthOf x1_23 x7_106 I_113 J_111 (fun (v_116 : Int32) (I_114 : MI) (J_115 : MJ) => (vp_in (3 : Int32) 1802 ∧ f_X8_rhymeThere x1_23 x7_106 x2_24 I_114 J_115 (fun (v_120 : Int32) (I_118 : MI) (J_119 : MJ) => (vp_in x8_107 2048 ∧ ∀ I_122 : MI, I_122 = sI I_118 12 16 x8_107.toNatClampNeg ((v_116 + ((I_114 12 2 (3 : Int32).toNatClampNeg) * v_120)) + x6_28) → ∀ x7_123 : Int32, x7_123 = x7_106 + (1 : Int32) → rec65 x7_123 I_122 J_119)))))
def f_X8_layChains_B65 (x1_23 : Int32) (x2_24 : Int32) (x3_25 : Int32) (x4_26 : Int32) (x5_27 : Int32) (x6_28 : Int32) (K356 : MI → MJ → Prop) (rec65 : Int32 → MI → MJ → Prop) (x7_29 : Int32) (I_30 : MI) (J_31 : MJ) : Prop :=
  ((x3_25 ≤ x7_29 → K356 I_30 J_31) ∧ (¬ x3_25 ≤ x7_29 → ∀ x8_33 : Int32, x8_33 = (((8 : Int32) * x4_26) + x7_29) → ∀ x9_34 : Int32, x9_34 = (x4_26 &&& (((1 : Int32) <<< (x7_29 &&& 31)) ^^^ (-1 : Int32))) → (vp_in x8_33 2048 ∧ ∀ I_36 : MI, I_36 = sI I_30 12 15 x8_33.toNatClampNeg (0 : Int32) → (vp_in x8_33 2048 ∧ ∀ I_38 : MI, I_38 = sI I_36 12 16 x8_33.toNatClampNeg (0 : Int32) → ((x9_34 = x4_26 → ∀ x7_40 : Int32, x7_40 = x7_29 + (1 : Int32) → rec65 x7_40 I_38 J_31) ∧ (¬ x9_34 = x4_26 → f_X8_free x2_24 I_38 J_31 (fun (v_43 : Int32) (I_41 : MI) (J_42 : MJ) => ((x5_27 ≤ v_43 → ((x9_34 = (0 : Int32) → f_X8_hinders x1_23 x7_29 x2_24 I_41 J_42 (fun (v_104 : Int32) (I_102 : MI) (J_103 : MJ) => ((v_104 = (0 : Int32) → f_X8_layChains_J155 K356 rec65 x1_23 x2_24 x3_25 x4_26 x5_27 x6_28 x7_29 x8_33 (1 : Int32) x8_33 I_102 J_103) ∧ (¬ v_104 = (0 : Int32) → f_X8_layChains_J155 K356 rec65 x1_23 x2_24 x3_25 x4_26 x5_27 x6_28 x7_29 x8_33 (0 : Int32) x8_33 I_102 J_103)))) ∧ (¬ x9_34 = (0 : Int32) → ∃ n : Nat, f_X8_layChains_L195 x1_23 x3_25 x6_28 x7_29 x8_33 x9_34 (fun (I_98 : MI) (J_99 : MJ) => ∀ x7_100 : Int32, x7_100 = x7_29 + (1 : Int32) → rec65 x7_100 I_98 J_99) n (0 : Int32) I_41 J_42))) ∧ (¬ x5_27 ≤ v_43 → ∀ x7_124 : Int32, x7_124 = x7_29 + (1 : Int32) → rec65 x7_124 I_41 J_42)))))))))
def f_X8_layChains_L65 (x1_23 : Int32) (x2_24 : Int32) (x3_25 : Int32) (x4_26 : Int32) (x5_27 : Int32) (x6_28 : Int32) (K356 : MI → MJ → Prop) : Nat → Int32 → MI → MJ → Prop
  | 0, _, _, _ => False
  | n + 1, x7_29, I_30, J_31 => f_X8_layChains_B65 x1_23 x2_24 x3_25 x4_26 x5_27 x6_28 K356 (f_X8_layChains_L65 x1_23 x2_24 x3_25 x4_26 x5_27 x6_28 K356 n) x7_29 I_30 J_31
def f_X8_layChains_J60 (K362 : MI → MJ → Prop) (rec10 : Int32 → MI → MJ → Prop) (x1_4 : Int32) (x2_5 : Int32) (x3_6 : Int32) (x4_18 : Int32) (x5_19 : Int32) (s_20 : Int32) (I_21 : MI) (J_22 : MJ) : Prop :=
  ∃ n : Nat, f_X8_layChains_L65 x1_4 x2_5 x3_6 x4_18 x5_19 s_20 (fun (I_125 : MI) (J_126 : MJ) => ∀ x4_127 : Int32, x4_127 = x4_18 + (1 : Int32) → rec10 x4_127 I_125 J_126) n (0 : Int32) I_21 J_22
def f_X8_layChains_B10 (x1_4 : Int32) (x2_5 : Int32) (x3_6 : Int32) (K362 : MI → MJ → Prop) (rec10 : Int32 → MI → MJ → Prop) (x4_7 : Int32) (I_8 : MI) (J_9 : MJ) : Prop :=
  ((((1 : Int32) <<< (x3_6 &&& 31)) ≤ x4_7 → K362 I_8 J_9) ∧ (¬ ((1 : Int32) <<< (x3_6 &&& 31)) ≤ x4_7 → f_X8_lettersOf x1_4 x4_7 I_8 J_9 (fun (v_13 : Int32) (I_11 : MI) (J_12 : MJ) => f_X8_free x2_5 I_11 J_12 (fun (v_16 : Int32) (I_14 : MI) (J_15 : MJ) => ((v_13 = v_16 → (vp_in (4 : Int32) 1802 ∧ f_X8_ofRow x2_5 (2 : Int32) I_14 J_15 (fun (v_132 : Int32) (I_130 : MI) (J_131 : MJ) => f_X8_sizeOf x4_7 I_130 J_131 (fun (v_135 : Int32) (I_133 : MI) (J_134 : MJ) => f_X8_layChains_J60 K362 rec10 x1_4 x2_5 x3_6 x4_7 v_13 ((I_14 12 2 (4 : Int32).toNatClampNeg) * (v_132 + v_135)) I_133 J_134)))) ∧ (¬ v_13 = v_16 → f_X8_layChains_J60 K362 rec10 x1_4 x2_5 x3_6 x4_7 v_13 (0 : Int32) I_14 J_15))))))
def f_X8_layChains_L10 (x1_4 : Int32) (x2_5 : Int32) (x3_6 : Int32) (K362 : MI → MJ → Prop) : Nat → Int32 → MI → MJ → Prop
  | 0, _, _, _ => False
  | n + 1, x4_7, I_8, J_9 => f_X8_layChains_B10 x1_4 x2_5 x3_6 K362 (f_X8_layChains_L10 x1_4 x2_5 x3_6 K362 n) x4_7 I_8 J_9
def f_X8_layChains (x1 : Int32) (x2 : Int32) (I : MI) (J : MJ) (Q : MI → MJ → Prop) : Prop :=
  f_X8_ofPlayer x1 (1 : Int32) I J (fun (v_3 : Int32) (I_1 : MI) (J_2 : MJ) => ∃ n : Nat, f_X8_layChains_L10 x1 x2 v_3 (fun (I_136 : MI) (J_137 : MJ) => Q I_136 J_137) n (1 : Int32) I_1 J_2)
set_option maxRecDepth 100000 in
set_option maxHeartbeats 4000000 in
theorem c_X8_layChains {l : Launch} {E : EV} {ps : List (Nat × Nat)} (h12 : ∀ r, r < 17 → (12, r) ∈ ps) {x1 : Int32} {x2 : Int32} {I : MI} {J : MJ} {Q : MI → MJ → Prop} (hf : f_X8_layChains x1 x2 I J Q) : KV l yX8_layChains wsX8_layChains rmX8_layChains E ps [.ref (eA E 12 0), .int x1, .int x2] I J Q := by
  refine K_ofV (cc := cX8_layChains) (maxL := 13) (by decide +kernel) rfl (Nat.le_of_ble_eq_true rfl) (fun p e s m args below meth c Qm hret S hK hX => ?_)
  have hA : ∀ q, s.heap.size ≤ q → AA E ps s.heap.size q := fun _ h => Or.inr h
  have k1 := S.2.2.2.2 (.fieldLink RX8 35 "RhymeRoofsModel" "orders" "[I") (by decide +kernel)
  have iX8 : ∀ w ∈ wsX80, w ∈ wsX8_layChains := fun _ h => List.mem_cons_of_mem _ (List.mem_append_right _ h)
  have k2 := S.2.2.2.2 (.fieldLink RX8 38 "RhymeRoofsModel" "most" "[I") (by decide +kernel)
  have k3 := S.2.2.2.2 (.fieldLink RX8 17 "RhymeRoofsModel" "data" "[I") (by decide +kernel)
  intro H locs ls hP hD hS hl
  unfold f_X8_layChains at hf
  refine lv_aload_n S.1 S.2.1 dX8_layChains_0 rfl (lv_at hl 0 rfl) ?_
  refine lv_iload_n S.1 S.2.1 dX8_layChains_1 rfl (lv_at hl 1 rfl) ?_
  refine lv_iconst (v := 1) S.1 S.2.1 dX8_layChains_2 rfl ?_
  refine R_cVi (As := [.int x1, .int (1 : Int32)]) (rest := []) S (c_X8_ofPlayer (h12 := h12)  hf) gX8_layChains_X8_ofPlayer rfl yk_X8_ofPlayer ⟨⟨Nat.le_of_ble_eq_true rfl, Nat.le_of_ble_eq_true rfl⟩, rfl, rfl⟩ hK hP hD hS hX hA (h12 0 (by decide)) (cF_m E _ _ 0) rfl rfl hl.1 rfl (Nat.le_of_ble_eq_true rfl) ⟨Nat.zero_le _, Nat.zero_le _⟩ dX8_layChains_3 (fun v_3 I_1 J_2 H locs hf hP hD hS => ?_)
  refine lv_istore_n (lv' := [(3, .int v_3), (0, .ref (eA E 12 0)), (1, .int x1), (2, .int x2)]) S.1 S.2.1 dX8_layChains_6 rfl hl (by decide) rfl (fun ls hl => ?_)
  refine lv_iconst (v := 1) S.1 S.2.1 dX8_layChains_7 rfl ?_
  refine lv_istore (lv' := [(4, .int (1 : Int32)), (3, .int v_3), (0, .ref (eA E 12 0)), (1, .int x1), (2, .int x2)]) S.1 S.2.1 dX8_layChains_8 hl (by decide) rfl (fun ls hl => ?_)
  obtain ⟨n_138, hf⟩ := hf
  have L10 : ∀ (x1_4 : Int32), ∀ (x2_5 : Int32), ∀ (x3_6 : Int32), ∀ (K362 : MI → MJ → Prop), (∀ (I_136 : MI) (J_137 : MJ), K362 I_136 J_137 → Wj p l e (rmX8_layChains) s m args below meth c Qm E ps 13 I_136 J_137 362 [] []) → ∀ (n : Nat) (x4_7 : Int32) (I_8 : MI) (J_9 : MJ), f_X8_layChains_L10 x1_4 x2_5 x3_6 K362 n x4_7 I_8 J_9 → Wj p l e (rmX8_layChains) s m args below meth c Qm E ps 13 I_8 J_9 10 [(0, .ref (eA E 12 0)), (1, .int x1_4), (2, .int x2_5), (3, .int x3_6), (4, .int x4_7)] [] := by
    intro x1_4 x2_5 x3_6 K362 kx362 n
    induction n with
    | zero => intro x4_7 I_8 J_9 hf; exact hf.elim
    | succ n ih10 =>
      intro x4_7 I_8 J_9 hf
      have hf : f_X8_layChains_B10 x1_4 x2_5 x3_6 K362 (f_X8_layChains_L10 x1_4 x2_5 x3_6 K362 n) x4_7 I_8 J_9 := hf
      have jn60 : ∀ (x4_18 : Int32) (x5_19 : Int32) (s_20 : Int32) (I_21 : MI) (J_22 : MJ), f_X8_layChains_J60 K362 (f_X8_layChains_L10 x1_4 x2_5 x3_6 K362 n) x1_4 x2_5 x3_6 x4_18 x5_19 s_20 I_21 J_22 → Wj p l e (rmX8_layChains) s m args below meth c Qm E ps 13 I_21 J_22 60 [(0, .ref (eA E 12 0)), (1, .int x1_4), (2, .int x2_5), (3, .int x3_6), (4, .int x4_18), (5, .int x5_19)] [.int s_20] := by
        intro x4_18 x5_19 s_20 I_21 J_22 hf H locs ls hP hD hS hl
        unfold f_X8_layChains_J60 at hf
        refine lv_istore (lv' := [(6, .int s_20), (0, .ref (eA E 12 0)), (1, .int x1_4), (2, .int x2_5), (3, .int x3_6), (4, .int x4_18), (5, .int x5_19)]) S.1 S.2.1 dX8_layChains_60 hl (by decide) rfl (fun ls hl => ?_)
        refine lv_iconst (v := 0) S.1 S.2.1 dX8_layChains_62 rfl ?_
        refine lv_istore (lv' := [(7, .int (0 : Int32)), (6, .int s_20), (0, .ref (eA E 12 0)), (1, .int x1_4), (2, .int x2_5), (3, .int x3_6), (4, .int x4_18), (5, .int x5_19)]) S.1 S.2.1 dX8_layChains_63 hl (by decide) rfl (fun ls hl => ?_)
        obtain ⟨n_128, hf⟩ := hf
        have L65 : ∀ (x1_23 : Int32), ∀ (x2_24 : Int32), ∀ (x3_25 : Int32), ∀ (x4_26 : Int32), ∀ (x5_27 : Int32), ∀ (x6_28 : Int32), ∀ (K356 : MI → MJ → Prop), (∀ (I_125 : MI) (J_126 : MJ), K356 I_125 J_126 → Wj p l e (rmX8_layChains) s m args below meth c Qm E ps 13 I_125 J_126 356 [(0, .ref (eA E 12 0)), (1, .int x1_23), (2, .int x2_24), (3, .int x3_25), (4, .int x4_26)] []) → ∀ (n : Nat) (x7_29 : Int32) (I_30 : MI) (J_31 : MJ), f_X8_layChains_L65 x1_23 x2_24 x3_25 x4_26 x5_27 x6_28 K356 n x7_29 I_30 J_31 → Wj p l e (rmX8_layChains) s m args below meth c Qm E ps 13 I_30 J_31 65 [(0, .ref (eA E 12 0)), (1, .int x1_23), (2, .int x2_24), (3, .int x3_25), (4, .int x4_26), (5, .int x5_27), (6, .int x6_28), (7, .int x7_29)] [] := by
          intro x1_23 x2_24 x3_25 x4_26 x5_27 x6_28 K356 kx356 n
          induction n with
          | zero => intro x7_29 I_30 J_31 hf; exact hf.elim
          | succ n ih65 =>
            intro x7_29 I_30 J_31 hf
            have hf : f_X8_layChains_B65 x1_23 x2_24 x3_25 x4_26 x5_27 x6_28 K356 (f_X8_layChains_L65 x1_23 x2_24 x3_25 x4_26 x5_27 x6_28 K356 n) x7_29 I_30 J_31 := hf
            have jn155 : ∀ (x7_106 : Int32) (x8_107 : Int32) (s_108 : Int32) (s_109 : Int32) (I_110 : MI) (J_111 : MJ), f_X8_layChains_J155 K356 (f_X8_layChains_L65 x1_23 x2_24 x3_25 x4_26 x5_27 x6_28 K356 n) x1_23 x2_24 x3_25 x4_26 x5_27 x6_28 x7_106 x8_107 s_108 s_109 I_110 J_111 → Wj p l e (rmX8_layChains) s m args below meth c Qm E ps 13 I_110 J_111 155 [(0, .ref (eA E 12 0)), (1, .int x1_23), (2, .int x2_24), (3, .int x3_25), (4, .int x4_26), (5, .int x5_27), (6, .int x6_28), (7, .int x7_106), (8, .int x8_107)] [.int s_108, .int s_109, .ref (eA E 12 15)] := by
              intro x7_106 x8_107 s_108 s_109 I_110 J_111 hf H locs ls hP hD hS hl
              unfold f_X8_layChains_J155 at hf
              obtain ⟨h_112, hf⟩ := hf
              refine nm_o hf (fun I_113 eI_113 hf => ?_)
              refine R_iast S.1 S.2.1 hK hP hD hS (h12 15 (by decide)) (IAm15 E) h_112 dX8_layChains_155 eI_113 (fun H locs hP hD hS => ?_)
              refine lv_aload_n S.1 S.2.1 dX8_layChains_156 rfl (lv_at hl 0 rfl) ?_
              refine gfX8_20 S iX8 hK hP (h12 0 (by decide)) k2 dX8_layChains_157 ?_
              refine lv_iload S.1 S.2.1 dX8_layChains_160 (lv_at hl 8 rfl) ?_
              refine lv_aload_n S.1 S.2.1 dX8_layChains_162 rfl (lv_at hl 0 rfl) ?_
              refine lv_iload_n S.1 S.2.1 dX8_layChains_163 rfl (lv_at hl 1 rfl) ?_
              refine lv_iload S.1 S.2.1 dX8_layChains_164 (lv_at hl 7 rfl) ?_
              refine R_cVi (As := [.int x1_23, .int x7_106]) (rest := [.int x8_107, .ref (eA E 12 16)]) S (c_X8_lengthOf (h12 := h12)  hf) gX8_layChains_X8_lengthOf rfl yk_X8_lengthOf ⟨⟨Nat.le_of_ble_eq_true rfl, Nat.le_of_ble_eq_true rfl⟩, rfl, rfl⟩ hK hP hD hS hX hA (h12 0 (by decide)) (cF_m E _ _ 0) rfl rfl hl.1 rfl (Nat.le_of_ble_eq_true rfl) ⟨Nat.zero_le _, Nat.zero_le _⟩ dX8_layChains_166 (fun v_116 I_114 J_115 H locs hf hP hD hS => ?_)
              refine lv_aload_n S.1 S.2.1 dX8_layChains_169 rfl (lv_at hl 0 rfl) ?_
              refine gfX8_8 S iX8 hK hP (h12 0 (by decide)) k3 dX8_layChains_170 ?_
              refine lv_iconst (v := 3) S.1 S.2.1 dX8_layChains_173 rfl ?_
              obtain ⟨h_117, hf⟩ := hf
              refine R_iald S.1 S.2.1 hK hP (h12 2 (by decide)) (IAm2 E) h_117 dX8_layChains_174 ?_
              refine lv_aload_n S.1 S.2.1 dX8_layChains_175 rfl (lv_at hl 0 rfl) ?_
              refine lv_iload_n S.1 S.2.1 dX8_layChains_176 rfl (lv_at hl 1 rfl) ?_
              refine lv_iload S.1 S.2.1 dX8_layChains_177 (lv_at hl 7 rfl) ?_
              refine lv_iload_n S.1 S.2.1 dX8_layChains_179 rfl (lv_at hl 2 rfl) ?_
              refine R_cVi (As := [.int x1_23, .int x7_106, .int x2_24]) (rest := [.int (I_114 12 2 (3 : Int32).toNatClampNeg), .int v_116, .int x8_107, .ref (eA E 12 16)]) S (c_X8_rhymeThere (h12 := h12)  hf) gX8_layChains_X8_rhymeThere rfl yk_X8_rhymeThere ⟨⟨Nat.le_of_ble_eq_true rfl, Nat.le_of_ble_eq_true rfl⟩, rfl, rfl⟩ hK hP hD hS hX hA (h12 0 (by decide)) (cF_m E _ _ 0) rfl rfl hl.1 rfl (Nat.le_of_ble_eq_true rfl) ⟨Nat.zero_le _, Nat.zero_le _⟩ dX8_layChains_180 (fun v_120 I_118 J_119 H locs hf hP hD hS => ?_)
              refine lv_imul S.1 S.2.1 dX8_layChains_183 ?_
              refine lv_iadd S.1 S.2.1 dX8_layChains_184 ?_
              refine lv_iload S.1 S.2.1 dX8_layChains_185 (lv_at hl 6 rfl) ?_
              refine lv_iadd S.1 S.2.1 dX8_layChains_187 ?_
              obtain ⟨h_121, hf⟩ := hf
              refine nm_o hf (fun I_122 eI_122 hf => ?_)
              refine R_iast S.1 S.2.1 hK hP hD hS (h12 16 (by decide)) (IAm16 E) h_121 dX8_layChains_188 eI_122 (fun H locs hP hD hS => ?_)
              refine lv_goto (tgt := 350) S.1 S.2.1 dX8_layChains_189 (by decide) ?_
              refine nm_o hf (fun x7_123 ex7_123 hf => ?_)
              refine lv_iinc (v := x7_123) (lv' := [(7, .int x7_123), (0, .ref (eA E 12 0)), (1, .int x1_23), (2, .int x2_24), (3, .int x3_25), (4, .int x4_26), (5, .int x5_27), (6, .int x6_28), (8, .int x8_107)]) S.1 S.2.1 dX8_layChains_350 hl (k := 7) rfl (by rw [ex7_123]; rfl) (by decide) rfl (fun ls hl => ?_)
              refine lv_goto (tgt := 65) S.1 S.2.1 dX8_layChains_353 (by decide) ?_
              exact ih65 _ _ _ hf _ _ _ hP hD hS (lv_sub hl [1, 2, 3, 4, 5, 6, 7, 0] rfl)
            intro H locs ls hP hD hS hl
            unfold f_X8_layChains_B65 at hf
            refine lv_iload S.1 S.2.1 dX8_layChains_65 (lv_at hl 7 rfl) ?_
            refine lv_iload_n S.1 S.2.1 dX8_layChains_67 rfl (lv_at hl 3 rfl) ?_
            refine lv_icmp_ge (tgt := 356) S.1 S.2.1 dX8_layChains_68 (by decide) (fun h_32 => ?_) (fun h_32 => ?_)
            · have hf := hf.1 h_32
              exact kx356 _ _ hf _ _ _ hP hD hS (lv_sub hl [0, 1, 2, 3, 4] rfl)
            · have hf := hf.2 h_32
              refine lv_bipush (v := 8) S.1 S.2.1 dX8_layChains_71 rfl ?_
              refine lv_iload S.1 S.2.1 dX8_layChains_73 (lv_at hl 4 rfl) ?_
              refine lv_imul S.1 S.2.1 dX8_layChains_75 ?_
              refine lv_iload S.1 S.2.1 dX8_layChains_76 (lv_at hl 7 rfl) ?_
              refine lv_iadd S.1 S.2.1 dX8_layChains_78 ?_
              refine lv_topi (fun x8_33 ex8_33 => ?_)
              have hf := hf x8_33 ex8_33
              refine lv_istore (lv' := [(8, .int x8_33), (0, .ref (eA E 12 0)), (1, .int x1_23), (2, .int x2_24), (3, .int x3_25), (4, .int x4_26), (5, .int x5_27), (6, .int x6_28), (7, .int x7_29)]) S.1 S.2.1 dX8_layChains_79 hl (by decide) rfl (fun ls hl => ?_)
              refine lv_iload S.1 S.2.1 dX8_layChains_81 (lv_at hl 5 rfl) ?_
              refine lv_iconst (v := 1) S.1 S.2.1 dX8_layChains_83 rfl ?_
              refine lv_iload S.1 S.2.1 dX8_layChains_84 (lv_at hl 8 rfl) ?_
              refine lv_ishl S.1 S.2.1 dX8_layChains_86 ?_
              refine lv_iconst (v := (-1)) S.1 S.2.1 dX8_layChains_87 rfl ?_
              refine lv_ixor S.1 S.2.1 dX8_layChains_88 ?_
              refine lv_iand S.1 S.2.1 dX8_layChains_89 ?_
              refine lv_topi (fun x9_34 ex9_34 => ?_)
              have hf := hf x9_34 ex9_34
              refine lv_istore (lv' := [(9, .int x9_34), (8, .int x8_33), (0, .ref (eA E 12 0)), (1, .int x1_23), (2, .int x2_24), (3, .int x3_25), (4, .int x4_26), (5, .int x5_27), (6, .int x6_28), (7, .int x7_29)]) S.1 S.2.1 dX8_layChains_90 hl (by decide) rfl (fun ls hl => ?_)
              refine lv_aload_n S.1 S.2.1 dX8_layChains_92 rfl (lv_at hl 2 rfl) ?_
              refine gfX8_19 S iX8 hK hP (h12 0 (by decide)) k1 dX8_layChains_93 ?_
              refine lv_iload S.1 S.2.1 dX8_layChains_96 (lv_at hl 1 rfl) ?_
              refine lv_iconst (v := 0) S.1 S.2.1 dX8_layChains_98 rfl ?_
              obtain ⟨h_35, hf⟩ := hf
              refine nm_o hf (fun I_36 eI_36 hf => ?_)
              refine R_iast S.1 S.2.1 hK hP hD hS (h12 15 (by decide)) (IAm15 E) h_35 dX8_layChains_99 eI_36 (fun H locs hP hD hS => ?_)
              refine lv_aload_n S.1 S.2.1 dX8_layChains_100 rfl (lv_at hl 2 rfl) ?_
              refine gfX8_20 S iX8 hK hP (h12 0 (by decide)) k2 dX8_layChains_101 ?_
              refine lv_iload S.1 S.2.1 dX8_layChains_104 (lv_at hl 1 rfl) ?_
              refine lv_iconst (v := 0) S.1 S.2.1 dX8_layChains_106 rfl ?_
              obtain ⟨h_37, hf⟩ := hf
              refine nm_o hf (fun I_38 eI_38 hf => ?_)
              refine R_iast S.1 S.2.1 hK hP hD hS (h12 16 (by decide)) (IAm16 E) h_37 dX8_layChains_107 eI_38 (fun H locs hP hD hS => ?_)
              refine lv_iload S.1 S.2.1 dX8_layChains_108 (lv_at hl 0 rfl) ?_
              refine lv_iload S.1 S.2.1 dX8_layChains_110 (lv_at hl 6 rfl) ?_
              refine lv_icmp_eq (tgt := 350) S.1 S.2.1 dX8_layChains_112 (by decide) (fun h_39 => ?_) (fun h_39 => ?_)
              · have hf := hf.1 h_39
                refine nm_o hf (fun x7_40 ex7_40 hf => ?_)
                refine lv_iinc (v := x7_40) (lv' := [(7, .int x7_40), (9, .int x9_34), (8, .int x8_33), (0, .ref (eA E 12 0)), (1, .int x1_23), (2, .int x2_24), (3, .int x3_25), (4, .int x4_26), (5, .int x5_27), (6, .int x6_28)]) S.1 S.2.1 dX8_layChains_350 hl (k := 9) rfl (by rw [ex7_40]; rfl) (by decide) rfl (fun ls hl => ?_)
                refine lv_goto (tgt := 65) S.1 S.2.1 dX8_layChains_353 (by decide) ?_
                exact ih65 _ _ _ hf _ _ _ hP hD hS (lv_sub hl [3, 4, 5, 6, 7, 8, 9, 0] rfl)
              · have hf := hf.2 h_39
                refine lv_iload S.1 S.2.1 dX8_layChains_115 (lv_at hl 7 rfl) ?_
                refine lv_aload_n S.1 S.2.1 dX8_layChains_117 rfl (lv_at hl 2 rfl) ?_
                refine lv_iload_n S.1 S.2.1 dX8_layChains_118 rfl (lv_at hl 4 rfl) ?_
                refine R_cVi (As := [.int x2_24]) (rest := [.int x5_27]) S (c_X8_free (h12 := h12)  hf) gX8_layChains_X8_free rfl yk_X8_free ⟨⟨Nat.le_of_ble_eq_true rfl, Nat.le_of_ble_eq_true rfl⟩, rfl, rfl⟩ hK hP hD hS hX hA (h12 0 (by decide)) (cF_m E _ _ 0) rfl rfl hl.1 rfl (Nat.le_of_ble_eq_true rfl) ⟨Nat.zero_le _, Nat.zero_le _⟩ dX8_layChains_119 (fun v_43 I_41 J_42 H locs hf hP hD hS => ?_)
                refine lv_icmp_le (tgt := 128) S.1 S.2.1 dX8_layChains_122 (by decide) (fun h_44 => ?_) (fun h_44 => ?_)
                · have hf := hf.1 h_44
                  refine lv_iload S.1 S.2.1 dX8_layChains_128 (lv_at hl 0 rfl) ?_
                  refine lv_if_ne (tgt := 192) S.1 S.2.1 dX8_layChains_130 (by decide) (fun h_45 => ?_) (fun h_45 => ?_)
                  · have hf := hf.2 h_45
                    refine lv_iconst (v := 0) S.1 S.2.1 dX8_layChains_192 rfl ?_
                    refine lv_istore (lv' := [(10, .int (0 : Int32)), (9, .int x9_34), (8, .int x8_33), (0, .ref (eA E 12 0)), (1, .int x1_23), (2, .int x2_24), (3, .int x3_25), (4, .int x4_26), (5, .int x5_27), (6, .int x6_28), (7, .int x7_29)]) S.1 S.2.1 dX8_layChains_193 hl (by decide) rfl (fun ls hl => ?_)
                    obtain ⟨n_101, hf⟩ := hf
                    have L195 : ∀ (x1_46 : Int32), ∀ (x3_47 : Int32), ∀ (x6_48 : Int32), ∀ (x7_49 : Int32), ∀ (x8_50 : Int32), ∀ (x9_51 : Int32), ∀ (K350 : MI → MJ → Prop), (∀ (I_98 : MI) (J_99 : MJ), K350 I_98 J_99 → Wj p l e (rmX8_layChains) s m args below meth c Qm E ps 13 I_98 J_99 350 [(0, .ref (eA E 12 0)), (1, .int x1_46), (2, .int x2_24), (3, .int x3_47), (4, .int x4_26), (5, .int x5_27), (6, .int x6_48), (7, .int x7_49)] []) → ∀ (n : Nat) (x10_52 : Int32) (I_53 : MI) (J_54 : MJ), f_X8_layChains_L195 x1_46 x3_47 x6_48 x7_49 x8_50 x9_51 K350 n x10_52 I_53 J_54 → Wj p l e (rmX8_layChains) s m args below meth c Qm E ps 13 I_53 J_54 195 [(0, .ref (eA E 12 0)), (1, .int x1_46), (2, .int x2_24), (3, .int x3_47), (4, .int x4_26), (5, .int x5_27), (6, .int x6_48), (7, .int x7_49), (8, .int x8_50), (9, .int x9_51), (10, .int x10_52)] [] := by
                      intro x1_46 x3_47 x6_48 x7_49 x8_50 x9_51 K350 kx350 n
                      induction n with
                      | zero => intro x10_52 I_53 J_54 hf; exact hf.elim
                      | succ n ih195 =>
                        intro x10_52 I_53 J_54 hf
                        have hf : f_X8_layChains_B195 x1_46 x3_47 x6_48 x7_49 x8_50 x9_51 K350 (f_X8_layChains_L195 x1_46 x3_47 x6_48 x7_49 x8_50 x9_51 K350 n) x10_52 I_53 J_54 := hf
                        intro H locs ls hP hD hS hl
                        unfold f_X8_layChains_B195 at hf
                        refine lv_iload S.1 S.2.1 dX8_layChains_195 (lv_at hl 10 rfl) ?_
                        refine lv_iload_n S.1 S.2.1 dX8_layChains_197 rfl (lv_at hl 3 rfl) ?_
                        refine lv_icmp_ge (tgt := 350) S.1 S.2.1 dX8_layChains_198 (by decide) (fun h_55 => ?_) (fun h_55 => ?_)
                        · have hf := hf.1 h_55
                          exact kx350 _ _ hf _ _ _ hP hD hS (lv_sub hl [0, 1, 2, 3, 4, 5, 6, 7] rfl)
                        · have hf := hf.2 h_55
                          refine lv_bipush (v := 8) S.1 S.2.1 dX8_layChains_201 rfl ?_
                          refine lv_iload S.1 S.2.1 dX8_layChains_203 (lv_at hl 9 rfl) ?_
                          refine lv_imul S.1 S.2.1 dX8_layChains_205 ?_
                          refine lv_iload S.1 S.2.1 dX8_layChains_206 (lv_at hl 10 rfl) ?_
                          refine lv_iadd S.1 S.2.1 dX8_layChains_208 ?_
                          refine lv_topi (fun x11_56 ex11_56 => ?_)
                          have hf := hf x11_56 ex11_56
                          refine lv_istore (lv' := [(11, .int x11_56), (0, .ref (eA E 12 0)), (1, .int x1_46), (2, .int x2_24), (3, .int x3_47), (4, .int x4_26), (5, .int x5_27), (6, .int x6_48), (7, .int x7_49), (8, .int x8_50), (9, .int x9_51), (10, .int x10_52)]) S.1 S.2.1 dX8_layChains_209 hl (by decide) rfl (fun ls hl => ?_)
                          refine lv_iload S.1 S.2.1 dX8_layChains_211 (lv_at hl 10 rfl) ?_
                          refine lv_iload S.1 S.2.1 dX8_layChains_213 (lv_at hl 11 rfl) ?_
                          refine lv_ishr S.1 S.2.1 dX8_layChains_215 ?_
                          refine lv_iconst (v := 1) S.1 S.2.1 dX8_layChains_216 rfl ?_
                          refine lv_iand S.1 S.2.1 dX8_layChains_217 ?_
                          refine lv_if_eq (tgt := 344) S.1 S.2.1 dX8_layChains_218 (by decide) (fun h_57 => ?_) (fun h_57 => ?_)
                          · have hf := hf.1 h_57
                            refine nm_o hf (fun x10_58 ex10_58 hf => ?_)
                            refine lv_iinc (v := x10_58) (lv' := [(10, .int x10_58), (11, .int x11_56), (0, .ref (eA E 12 0)), (1, .int x1_46), (2, .int x2_24), (3, .int x3_47), (4, .int x4_26), (5, .int x5_27), (6, .int x6_48), (7, .int x7_49), (8, .int x8_50), (9, .int x9_51)]) S.1 S.2.1 dX8_layChains_344 hl (k := 11) rfl (by rw [ex10_58]; rfl) (by decide) rfl (fun ls hl => ?_)
                            refine lv_goto (tgt := 195) S.1 S.2.1 dX8_layChains_347 (by decide) ?_
                            exact ih195 _ _ _ hf _ _ _ hP hD hS (lv_sub hl [2, 3, 4, 5, 6, 7, 8, 9, 10, 11, 0] rfl)
                          · have hf := hf.2 h_57
                            refine lv_aload_n S.1 S.2.1 dX8_layChains_221 rfl (lv_at hl 1 rfl) ?_
                            refine gfX8_19 S iX8 hK hP (h12 0 (by decide)) k1 dX8_layChains_222 ?_
                            refine lv_iload S.1 S.2.1 dX8_layChains_225 (lv_at hl 0 rfl) ?_
                            obtain ⟨h_59, hf⟩ := hf
                            refine R_iald S.1 S.2.1 hK hP (h12 15 (by decide)) (IAm15 E) h_59 dX8_layChains_227 ?_
                            refine lv_if_eq (tgt := 344) S.1 S.2.1 dX8_layChains_228 (by decide) (fun h_60 => ?_) (fun h_60 => ?_)
                            · have hf := hf.1 h_60
                              refine nm_o hf (fun x10_61 ex10_61 hf => ?_)
                              refine lv_iinc (v := x10_61) (lv' := [(10, .int x10_61), (11, .int x11_56), (0, .ref (eA E 12 0)), (1, .int x1_46), (2, .int x2_24), (3, .int x3_47), (4, .int x4_26), (5, .int x5_27), (6, .int x6_48), (7, .int x7_49), (8, .int x8_50), (9, .int x9_51)]) S.1 S.2.1 dX8_layChains_344 hl (k := 11) rfl (by rw [ex10_61]; rfl) (by decide) rfl (fun ls hl => ?_)
                              refine lv_goto (tgt := 195) S.1 S.2.1 dX8_layChains_347 (by decide) ?_
                              exact ih195 _ _ _ hf _ _ _ hP hD hS (lv_sub hl [2, 3, 4, 5, 6, 7, 8, 9, 10, 11, 0] rfl)
                            · have hf := hf.2 h_60
                              refine lv_aload_n S.1 S.2.1 dX8_layChains_231 rfl (lv_at hl 1 rfl) ?_
                              refine lv_iload_n S.1 S.2.1 dX8_layChains_232 rfl (lv_at hl 2 rfl) ?_
                              refine lv_iload S.1 S.2.1 dX8_layChains_233 (lv_at hl 11 rfl) ?_
                              refine lv_iload S.1 S.2.1 dX8_layChains_235 (lv_at hl 8 rfl) ?_
                              refine R_cVi (As := [.int x1_46, .int x10_52, .int x7_49]) (rest := []) S (c_X8_follows (h12 := h12)  hf) gX8_layChains_X8_follows rfl yk_X8_follows ⟨⟨Nat.le_of_ble_eq_true rfl, Nat.le_of_ble_eq_true rfl⟩, rfl, rfl⟩ hK hP hD hS hX hA (h12 0 (by decide)) (cF_m E _ _ 0) rfl rfl hl.1 rfl (Nat.le_of_ble_eq_true rfl) ⟨Nat.zero_le _, Nat.zero_le _⟩ dX8_layChains_237 (fun v_64 I_62 J_63 H locs hf hP hD hS => ?_)
                              refine lv_if_ne (tgt := 246) S.1 S.2.1 dX8_layChains_240 (by decide) (fun h_65 => ?_) (fun h_65 => ?_)
                              · have hf := hf.2 h_65
                                refine lv_aload_n S.1 S.2.1 dX8_layChains_246 rfl (lv_at hl 1 rfl) ?_
                                refine gfX8_19 S iX8 hK hP (h12 0 (by decide)) k1 dX8_layChains_247 ?_
                                refine lv_iload S.1 S.2.1 dX8_layChains_250 (lv_at hl 9 rfl) ?_
                                refine lv_dup2_11 S.1 S.2.1 dX8_layChains_252 rfl rfl ?_
                                obtain ⟨h_66, hf⟩ := hf
                                refine R_iald S.1 S.2.1 hK hP (h12 15 (by decide)) (IAm15 E) h_66 dX8_layChains_253 ?_
                                refine lv_aload_n S.1 S.2.1 dX8_layChains_254 rfl (lv_at hl 1 rfl) ?_
                                refine gfX8_19 S iX8 hK hP (h12 0 (by decide)) k1 dX8_layChains_255 ?_
                                refine lv_iload S.1 S.2.1 dX8_layChains_258 (lv_at hl 0 rfl) ?_
                                obtain ⟨h_67, hf⟩ := hf
                                refine R_iald S.1 S.2.1 hK hP (h12 15 (by decide)) (IAm15 E) h_67 dX8_layChains_260 ?_
                                refine lv_iadd S.1 S.2.1 dX8_layChains_261 ?_
                                obtain ⟨h_68, hf⟩ := hf
                                refine nm_o hf (fun I_69 eI_69 hf => ?_)
                                refine R_iast S.1 S.2.1 hK hP hD hS (h12 15 (by decide)) (IAm15 E) h_68 dX8_layChains_262 eI_69 (fun H locs hP hD hS => ?_)
                                refine lv_aload_n S.1 S.2.1 dX8_layChains_263 rfl (lv_at hl 1 rfl) ?_
                                refine lv_iload_n S.1 S.2.1 dX8_layChains_264 rfl (lv_at hl 2 rfl) ?_
                                refine lv_iload S.1 S.2.1 dX8_layChains_265 (lv_at hl 11 rfl) ?_
                                refine R_cSi (As := [.int x1_46, .int x10_52]) (rest := [.ref (eA E 12 0)]) S (c_X8_wordAt   hf) gX8_layChains_X8_wordAt rfl yk_X8_wordAt ⟨⟨Nat.le_of_ble_eq_true rfl, Nat.le_of_ble_eq_true rfl⟩, rfl, rfl⟩ hK hP hD hS hX hA rfl hl.1 rfl (Nat.le_of_ble_eq_true rfl) ⟨Nat.zero_le _, Nat.zero_le _⟩ dX8_layChains_267 (fun v_72 I_70 J_71 H locs hf hP hD hS => ?_)
                                refine lv_iconst (v := 1) S.1 S.2.1 dX8_layChains_270 rfl ?_
                                refine lv_iadd S.1 S.2.1 dX8_layChains_271 ?_
                                refine lv_aload_n S.1 S.2.1 dX8_layChains_272 rfl (lv_at hl 1 rfl) ?_
                                refine lv_iload_n S.1 S.2.1 dX8_layChains_273 rfl (lv_at hl 2 rfl) ?_
                                refine lv_iload S.1 S.2.1 dX8_layChains_274 (lv_at hl 11 rfl) ?_
                                refine R_cVi (As := [.int x1_46, .int x10_52]) (rest := [.int (v_72 + (1 : Int32)), .ref (eA E 12 0)]) S (c_X8_lengthOf (h12 := h12)  hf) gX8_layChains_X8_lengthOf rfl yk_X8_lengthOf ⟨⟨Nat.le_of_ble_eq_true rfl, Nat.le_of_ble_eq_true rfl⟩, rfl, rfl⟩ hK hP hD hS hX hA (h12 0 (by decide)) (cF_m E _ _ 0) rfl rfl hl.1 rfl (Nat.le_of_ble_eq_true rfl) ⟨Nat.zero_le _, Nat.zero_le _⟩ dX8_layChains_276 (fun v_75 I_73 J_74 H locs hf hP hD hS => ?_)
                                refine lv_iload_n S.1 S.2.1 dX8_layChains_279 rfl (lv_at hl 2 rfl) ?_
                                refine lv_iload S.1 S.2.1 dX8_layChains_280 (lv_at hl 8 rfl) ?_
                                refine R_cSi (As := [.int x1_46, .int x7_49]) (rest := [.int v_75, .int (v_72 + (1 : Int32)), .ref (eA E 12 0)]) S (c_X8_wordAt   hf) gX8_layChains_X8_wordAt rfl yk_X8_wordAt ⟨⟨Nat.le_of_ble_eq_true rfl, Nat.le_of_ble_eq_true rfl⟩, rfl, rfl⟩ hK hP hD hS hX hA rfl hl.1 rfl (Nat.le_of_ble_eq_true rfl) ⟨Nat.zero_le _, Nat.zero_le _⟩ dX8_layChains_282 (fun v_78 I_76 J_77 H locs hf hP hD hS => ?_)
                                refine lv_iconst (v := 1) S.1 S.2.1 dX8_layChains_285 rfl ?_
                                refine lv_iadd S.1 S.2.1 dX8_layChains_286 ?_
                                refine lv_aload_n S.1 S.2.1 dX8_layChains_287 rfl (lv_at hl 1 rfl) ?_
                                refine lv_iload_n S.1 S.2.1 dX8_layChains_288 rfl (lv_at hl 2 rfl) ?_
                                refine lv_iload S.1 S.2.1 dX8_layChains_289 (lv_at hl 8 rfl) ?_
                                refine R_cVi (As := [.int x1_46, .int x7_49]) (rest := [.int (v_78 + (1 : Int32)), .int v_75, .int (v_72 + (1 : Int32)), .ref (eA E 12 0)]) S (c_X8_lengthOf (h12 := h12)  hf) gX8_layChains_X8_lengthOf rfl yk_X8_lengthOf ⟨⟨Nat.le_of_ble_eq_true rfl, Nat.le_of_ble_eq_true rfl⟩, rfl, rfl⟩ hK hP hD hS hX hA (h12 0 (by decide)) (cF_m E _ _ 0) rfl rfl hl.1 rfl (Nat.le_of_ble_eq_true rfl) ⟨Nat.zero_le _, Nat.zero_le _⟩ dX8_layChains_291 (fun v_81 I_79 J_80 H locs hf hP hD hS => ?_)
                                refine R_cVi (As := [.int (v_72 + (1 : Int32)), .int v_75, .int (v_78 + (1 : Int32)), .int v_81]) (rest := []) S (c_X8_rhymeOf (h12 := h12)  hf) gX8_layChains_X8_rhymeOf rfl yk_X8_rhymeOf ⟨⟨Nat.le_of_ble_eq_true rfl, Nat.le_of_ble_eq_true rfl⟩, rfl, rfl⟩ hK hP hD hS hX hA (h12 0 (by decide)) (cF_m E _ _ 0) rfl rfl hl.1 rfl (Nat.le_of_ble_eq_true rfl) ⟨Nat.zero_le _, Nat.zero_le _⟩ dX8_layChains_294 (fun v_84 I_82 J_83 H locs hf hP hD hS => ?_)
                                refine lv_istore (lv' := [(12, .int v_84), (11, .int x11_56), (0, .ref (eA E 12 0)), (1, .int x1_46), (2, .int x2_24), (3, .int x3_47), (4, .int x4_26), (5, .int x5_27), (6, .int x6_48), (7, .int x7_49), (8, .int x8_50), (9, .int x9_51), (10, .int x10_52)]) S.1 S.2.1 dX8_layChains_297 hl (by decide) rfl (fun ls hl => ?_)
                                refine lv_aload_n S.1 S.2.1 dX8_layChains_299 rfl (lv_at hl 2 rfl) ?_
                                refine gfX8_20 S iX8 hK hP (h12 0 (by decide)) k2 dX8_layChains_300 ?_
                                refine lv_iload S.1 S.2.1 dX8_layChains_303 (lv_at hl 10 rfl) ?_
                                refine lv_aload_n S.1 S.2.1 dX8_layChains_305 rfl (lv_at hl 2 rfl) ?_
                                refine gfX8_20 S iX8 hK hP (h12 0 (by decide)) k2 dX8_layChains_306 ?_
                                refine lv_iload S.1 S.2.1 dX8_layChains_309 (lv_at hl 10 rfl) ?_
                                obtain ⟨h_85, hf⟩ := hf
                                refine R_iald S.1 S.2.1 hK hP (h12 16 (by decide)) (IAm16 E) h_85 dX8_layChains_311 ?_
                                refine lv_aload_n S.1 S.2.1 dX8_layChains_312 rfl (lv_at hl 2 rfl) ?_
                                refine gfX8_20 S iX8 hK hP (h12 0 (by decide)) k2 dX8_layChains_313 ?_
                                refine lv_iload S.1 S.2.1 dX8_layChains_316 (lv_at hl 1 rfl) ?_
                                obtain ⟨h_86, hf⟩ := hf
                                refine R_iald S.1 S.2.1 hK hP (h12 16 (by decide)) (IAm16 E) h_86 dX8_layChains_318 ?_
                                refine lv_aload_n S.1 S.2.1 dX8_layChains_319 rfl (lv_at hl 2 rfl) ?_
                                refine lv_iload_n S.1 S.2.1 dX8_layChains_320 rfl (lv_at hl 3 rfl) ?_
                                refine lv_iload S.1 S.2.1 dX8_layChains_321 (lv_at hl 9 rfl) ?_
                                refine R_cVi (As := [.int x1_46, .int x7_49]) (rest := [.int (I_82 12 16 x11_56.toNatClampNeg), .int (I_82 12 16 x8_50.toNatClampNeg), .int x8_50, .ref (eA E 12 16)]) S (c_X8_lengthOf (h12 := h12)  hf) gX8_layChains_X8_lengthOf rfl yk_X8_lengthOf ⟨⟨Nat.le_of_ble_eq_true rfl, Nat.le_of_ble_eq_true rfl⟩, rfl, rfl⟩ hK hP hD hS hX hA (h12 0 (by decide)) (cF_m E _ _ 0) rfl rfl hl.1 rfl (Nat.le_of_ble_eq_true rfl) ⟨Nat.zero_le _, Nat.zero_le _⟩ dX8_layChains_323 (fun v_89 I_87 J_88 H locs hf hP hD hS => ?_)
                                refine lv_iadd S.1 S.2.1 dX8_layChains_326 ?_
                                refine lv_aload_n S.1 S.2.1 dX8_layChains_327 rfl (lv_at hl 2 rfl) ?_
                                refine gfX8_8 S iX8 hK hP (h12 0 (by decide)) k3 dX8_layChains_328 ?_
                                refine lv_iconst (v := 3) S.1 S.2.1 dX8_layChains_331 rfl ?_
                                obtain ⟨h_90, hf⟩ := hf
                                refine R_iald S.1 S.2.1 hK hP (h12 2 (by decide)) (IAm2 E) h_90 dX8_layChains_332 ?_
                                refine lv_iload S.1 S.2.1 dX8_layChains_333 (lv_at hl 0 rfl) ?_
                                refine lv_imul S.1 S.2.1 dX8_layChains_335 ?_
                                refine lv_iadd S.1 S.2.1 dX8_layChains_336 ?_
                                refine lv_iload S.1 S.2.1 dX8_layChains_337 (lv_at hl 8 rfl) ?_
                                refine lv_iadd S.1 S.2.1 dX8_layChains_339 ?_
                                refine R_cSi (As := [.int (I_82 12 16 x8_50.toNatClampNeg), .int ((((I_82 12 16 x11_56.toNatClampNeg) + v_89) + ((I_87 12 2 (3 : Int32).toNatClampNeg) * v_84)) + x6_48)]) (rest := [.int x8_50, .ref (eA E 12 16)]) S (c_X8_max   hf) gX8_layChains_X8_max rfl yk_X8_max ⟨⟨Nat.le_of_ble_eq_true rfl, Nat.le_of_ble_eq_true rfl⟩, rfl, rfl⟩ hK hP hD hS hX hA rfl hl.1 rfl (Nat.le_of_ble_eq_true rfl) ⟨Nat.zero_le _, Nat.zero_le _⟩ dX8_layChains_340 (fun v_93 I_91 J_92 H locs hf hP hD hS => ?_)
                                obtain ⟨h_94, hf⟩ := hf
                                refine nm_o hf (fun I_95 eI_95 hf => ?_)
                                refine R_iast S.1 S.2.1 hK hP hD hS (h12 16 (by decide)) (IAm16 E) h_94 dX8_layChains_343 eI_95 (fun H locs hP hD hS => ?_)
                                refine nm_o hf (fun x10_96 ex10_96 hf => ?_)
                                refine lv_iinc (v := x10_96) (lv' := [(10, .int x10_96), (12, .int v_84), (11, .int x11_56), (0, .ref (eA E 12 0)), (1, .int x1_46), (2, .int x2_24), (3, .int x3_47), (4, .int x4_26), (5, .int x5_27), (6, .int x6_48), (7, .int x7_49), (8, .int x8_50), (9, .int x9_51)]) S.1 S.2.1 dX8_layChains_344 hl (k := 12) rfl (by rw [ex10_96]; rfl) (by decide) rfl (fun ls hl => ?_)
                                refine lv_goto (tgt := 195) S.1 S.2.1 dX8_layChains_347 (by decide) ?_
                                exact ih195 _ _ _ hf _ _ _ hP hD hS (lv_sub hl [3, 4, 5, 6, 7, 8, 9, 10, 11, 12, 0] rfl)
                              · have hf := hf.1 h_65
                                refine lv_goto (tgt := 344) S.1 S.2.1 dX8_layChains_243 (by decide) ?_
                                refine nm_o hf (fun x10_97 ex10_97 hf => ?_)
                                refine lv_iinc (v := x10_97) (lv' := [(10, .int x10_97), (11, .int x11_56), (0, .ref (eA E 12 0)), (1, .int x1_46), (2, .int x2_24), (3, .int x3_47), (4, .int x4_26), (5, .int x5_27), (6, .int x6_48), (7, .int x7_49), (8, .int x8_50), (9, .int x9_51)]) S.1 S.2.1 dX8_layChains_344 hl (k := 11) rfl (by rw [ex10_97]; rfl) (by decide) rfl (fun ls hl => ?_)
                                refine lv_goto (tgt := 195) S.1 S.2.1 dX8_layChains_347 (by decide) ?_
                                exact ih195 _ _ _ hf _ _ _ hP hD hS (lv_sub hl [2, 3, 4, 5, 6, 7, 8, 9, 10, 11, 0] rfl)
                    refine L195 _ _ _ _ _ _ _ (fun I_98 J_99 hf H locs ls hP hD hS hl => ?_)  n_101 _ _ _ hf _ _ _ hP hD hS (lv_sub hl [3, 4, 5, 6, 7, 8, 9, 10, 2, 1, 0] rfl)
                    refine nm_o hf (fun x7_100 ex7_100 hf => ?_)
                    refine lv_iinc (v := x7_100) (lv' := [(7, .int x7_100), (0, .ref (eA E 12 0)), (1, .int x1_23), (2, .int x2_24), (3, .int x3_25), (4, .int x4_26), (5, .int x5_27), (6, .int x6_28)]) S.1 S.2.1 dX8_layChains_350 hl (k := 7) rfl (by rw [ex7_100]; rfl) (by decide) rfl (fun ls hl => ?_)
                    refine lv_goto (tgt := 65) S.1 S.2.1 dX8_layChains_353 (by decide) ?_
                    exact ih65 _ _ _ hf _ _ _ hP hD hS (lv_sub hl [1, 2, 3, 4, 5, 6, 7, 0] rfl)
                  · have hf := hf.1 h_45
                    refine lv_aload_n S.1 S.2.1 dX8_layChains_133 rfl (lv_at hl 2 rfl) ?_
                    refine gfX8_19 S iX8 hK hP (h12 0 (by decide)) k1 dX8_layChains_134 ?_
                    refine lv_iload S.1 S.2.1 dX8_layChains_137 (lv_at hl 1 rfl) ?_
                    refine lv_aload_n S.1 S.2.1 dX8_layChains_139 rfl (lv_at hl 2 rfl) ?_
                    refine lv_iload_n S.1 S.2.1 dX8_layChains_140 rfl (lv_at hl 3 rfl) ?_
                    refine lv_iload S.1 S.2.1 dX8_layChains_141 (lv_at hl 9 rfl) ?_
                    refine lv_iload_n S.1 S.2.1 dX8_layChains_143 rfl (lv_at hl 4 rfl) ?_
                    refine R_cVi (As := [.int x1_23, .int x7_29, .int x2_24]) (rest := [.int x8_33, .ref (eA E 12 15)]) S (c_X8_hinders (h12 := h12)  hf) gX8_layChains_X8_hinders rfl yk_X8_hinders ⟨⟨Nat.le_of_ble_eq_true rfl, Nat.le_of_ble_eq_true rfl⟩, rfl, rfl⟩ hK hP hD hS hX hA (h12 0 (by decide)) (cF_m E _ _ 0) rfl rfl hl.1 rfl (Nat.le_of_ble_eq_true rfl) ⟨Nat.zero_le _, Nat.zero_le _⟩ dX8_layChains_144 (fun v_104 I_102 J_103 H locs hf hP hD hS => ?_)
                    refine lv_if_ne (tgt := 154) S.1 S.2.1 dX8_layChains_147 (by decide) (fun h_105 => ?_) (fun h_105 => ?_)
                    · have hf := hf.2 h_105
                      refine lv_iconst (v := 0) S.1 S.2.1 dX8_layChains_154 rfl ?_
                      exact jn155 _ _ _ _ _ _ hf _ _ _ hP hD hS (lv_sub hl [2, 3, 4, 5, 6, 7, 8, 9, 1] rfl)
                    · have hf := hf.1 h_105
                      refine lv_iconst (v := 1) S.1 S.2.1 dX8_layChains_150 rfl ?_
                      refine lv_goto (tgt := 155) S.1 S.2.1 dX8_layChains_151 (by decide) ?_
                      exact jn155 _ _ _ _ _ _ hf _ _ _ hP hD hS (lv_sub hl [2, 3, 4, 5, 6, 7, 8, 9, 1] rfl)
                · have hf := hf.2 h_44
                  refine lv_goto (tgt := 350) S.1 S.2.1 dX8_layChains_125 (by decide) ?_
                  refine nm_o hf (fun x7_124 ex7_124 hf => ?_)
                  refine lv_iinc (v := x7_124) (lv' := [(7, .int x7_124), (9, .int x9_34), (8, .int x8_33), (0, .ref (eA E 12 0)), (1, .int x1_23), (2, .int x2_24), (3, .int x3_25), (4, .int x4_26), (5, .int x5_27), (6, .int x6_28)]) S.1 S.2.1 dX8_layChains_350 hl (k := 9) rfl (by rw [ex7_124]; rfl) (by decide) rfl (fun ls hl => ?_)
                  refine lv_goto (tgt := 65) S.1 S.2.1 dX8_layChains_353 (by decide) ?_
                  exact ih65 _ _ _ hf _ _ _ hP hD hS (lv_sub hl [3, 4, 5, 6, 7, 8, 9, 0] rfl)
        refine L65 _ _ _ _ _ _ _ (fun I_125 J_126 hf H locs ls hP hD hS hl => ?_)  n_128 _ _ _ hf _ _ _ hP hD hS (lv_sub hl [2, 3, 4, 5, 6, 7, 1, 0] rfl)
        refine nm_o hf (fun x4_127 ex4_127 hf => ?_)
        refine lv_iinc (v := x4_127) (lv' := [(4, .int x4_127), (0, .ref (eA E 12 0)), (1, .int x1_4), (2, .int x2_5), (3, .int x3_6)]) S.1 S.2.1 dX8_layChains_356 hl (k := 4) rfl (by rw [ex4_127]; rfl) (by decide) rfl (fun ls hl => ?_)
        refine lv_goto (tgt := 10) S.1 S.2.1 dX8_layChains_359 (by decide) ?_
        exact ih10 _ _ _ hf _ _ _ hP hD hS (lv_sub hl [1, 2, 3, 4, 0] rfl)
      intro H locs ls hP hD hS hl
      unfold f_X8_layChains_B10 at hf
      refine lv_iload S.1 S.2.1 dX8_layChains_10 (lv_at hl 4 rfl) ?_
      refine lv_iconst (v := 1) S.1 S.2.1 dX8_layChains_12 rfl ?_
      refine lv_iload_n S.1 S.2.1 dX8_layChains_13 rfl (lv_at hl 3 rfl) ?_
      refine lv_ishl S.1 S.2.1 dX8_layChains_14 ?_
      refine lv_icmp_ge (tgt := 362) S.1 S.2.1 dX8_layChains_15 (by decide) (fun h_10 => ?_) (fun h_10 => ?_)
      · have hf := hf.1 h_10
        exact kx362 _ _ hf _ _ _ hP hD hS (lv_sub hl [] rfl)
      · have hf := hf.2 h_10
        refine lv_aload_n S.1 S.2.1 dX8_layChains_18 rfl (lv_at hl 0 rfl) ?_
        refine lv_iload_n S.1 S.2.1 dX8_layChains_19 rfl (lv_at hl 1 rfl) ?_
        refine lv_iload S.1 S.2.1 dX8_layChains_20 (lv_at hl 4 rfl) ?_
        refine R_cVi (As := [.int x1_4, .int x4_7]) (rest := []) S (c_X8_lettersOf (h12 := h12)  hf) gX8_layChains_X8_lettersOf rfl yk_X8_lettersOf ⟨⟨Nat.le_of_ble_eq_true rfl, Nat.le_of_ble_eq_true rfl⟩, rfl, rfl⟩ hK hP hD hS hX hA (h12 0 (by decide)) (cF_m E _ _ 0) rfl rfl hl.1 rfl (Nat.le_of_ble_eq_true rfl) ⟨Nat.zero_le _, Nat.zero_le _⟩ dX8_layChains_22 (fun v_13 I_11 J_12 H locs hf hP hD hS => ?_)
        refine lv_istore (lv' := [(5, .int v_13), (0, .ref (eA E 12 0)), (1, .int x1_4), (2, .int x2_5), (3, .int x3_6), (4, .int x4_7)]) S.1 S.2.1 dX8_layChains_25 hl (by decide) rfl (fun ls hl => ?_)
        refine lv_iload S.1 S.2.1 dX8_layChains_27 (lv_at hl 0 rfl) ?_
        refine lv_aload_n S.1 S.2.1 dX8_layChains_29 rfl (lv_at hl 1 rfl) ?_
        refine lv_iload_n S.1 S.2.1 dX8_layChains_30 rfl (lv_at hl 3 rfl) ?_
        refine R_cVi (As := [.int x2_5]) (rest := [.int v_13]) S (c_X8_free (h12 := h12)  hf) gX8_layChains_X8_free rfl yk_X8_free ⟨⟨Nat.le_of_ble_eq_true rfl, Nat.le_of_ble_eq_true rfl⟩, rfl, rfl⟩ hK hP hD hS hX hA (h12 0 (by decide)) (cF_m E _ _ 0) rfl rfl hl.1 rfl (Nat.le_of_ble_eq_true rfl) ⟨Nat.zero_le _, Nat.zero_le _⟩ dX8_layChains_31 (fun v_16 I_14 J_15 H locs hf hP hD hS => ?_)
        refine lv_icmp_ne (tgt := 59) S.1 S.2.1 dX8_layChains_34 (by decide) (fun h_17 => ?_) (fun h_17 => ?_)
        · have hf := hf.2 h_17
          refine lv_iconst (v := 0) S.1 S.2.1 dX8_layChains_59 rfl ?_
          exact jn60 _ _ _ _ _ hf _ _ _ hP hD hS (lv_sub hl [1, 2, 3, 4, 5, 0] rfl)
        · have hf := hf.1 h_17
          refine lv_aload_n S.1 S.2.1 dX8_layChains_37 rfl (lv_at hl 1 rfl) ?_
          refine gfX8_8 S iX8 hK hP (h12 0 (by decide)) k3 dX8_layChains_38 ?_
          refine lv_iconst (v := 4) S.1 S.2.1 dX8_layChains_41 rfl ?_
          obtain ⟨h_129, hf⟩ := hf
          refine R_iald S.1 S.2.1 hK hP (h12 2 (by decide)) (IAm2 E) h_129 dX8_layChains_42 ?_
          refine lv_aload_n S.1 S.2.1 dX8_layChains_43 rfl (lv_at hl 1 rfl) ?_
          refine lv_iload_n S.1 S.2.1 dX8_layChains_44 rfl (lv_at hl 3 rfl) ?_
          refine lv_iconst (v := 2) S.1 S.2.1 dX8_layChains_45 rfl ?_
          refine R_cVi (As := [.int x2_5, .int (2 : Int32)]) (rest := [.int (I_14 12 2 (4 : Int32).toNatClampNeg)]) S (c_X8_ofRow (h12 := h12)  hf) gX8_layChains_X8_ofRow rfl yk_X8_ofRow ⟨⟨Nat.le_of_ble_eq_true rfl, Nat.le_of_ble_eq_true rfl⟩, rfl, rfl⟩ hK hP hD hS hX hA (h12 0 (by decide)) (cF_m E _ _ 0) rfl rfl hl.1 rfl (Nat.le_of_ble_eq_true rfl) ⟨Nat.zero_le _, Nat.zero_le _⟩ dX8_layChains_46 (fun v_132 I_130 J_131 H locs hf hP hD hS => ?_)
          refine lv_iload S.1 S.2.1 dX8_layChains_49 (lv_at hl 5 rfl) ?_
          refine R_cSi (As := [.int x4_7]) (rest := [.int v_132, .int (I_14 12 2 (4 : Int32).toNatClampNeg)]) S (c_X8_sizeOf   hf) gX8_layChains_X8_sizeOf rfl yk_X8_sizeOf ⟨⟨Nat.le_of_ble_eq_true rfl, Nat.le_of_ble_eq_true rfl⟩, rfl, rfl⟩ hK hP hD hS hX hA rfl hl.1 rfl (Nat.le_of_ble_eq_true rfl) ⟨Nat.zero_le _, Nat.zero_le _⟩ dX8_layChains_51 (fun v_135 I_133 J_134 H locs hf hP hD hS => ?_)
          refine lv_iadd S.1 S.2.1 dX8_layChains_54 ?_
          refine lv_imul S.1 S.2.1 dX8_layChains_55 ?_
          refine lv_goto (tgt := 60) S.1 S.2.1 dX8_layChains_56 (by decide) ?_
          exact jn60 _ _ _ _ _ hf _ _ _ hP hD hS (lv_sub hl [1, 2, 3, 4, 5, 0] rfl)
  refine L10 _ _ _ _ (fun I_136 J_137 hf H locs ls hP hD hS hl => ?_)  n_138 _ _ _ hf _ _ _ hP hD hS (lv_sub hl [2, 3, 4, 1, 0] rfl)
  exact hret hf hP hD hS dX8_layChains_362
