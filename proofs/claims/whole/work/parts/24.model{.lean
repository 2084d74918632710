abbrev rmX8_checksum : Room := { frames := 8, cells := 0, slots := 0, locals := 175 }
theorem yk_X8_checksum : yOk yX8_checksum RX8 0 := by unfold yOk; decide +kernel
def f_X8_checksum_B9 (K34 : Int64 → MI → MJ → Prop) (rec9 : Int64 → Int32 → MI → MJ → Prop) (x1_2 : Int64) (x3_3 : Int32) (I_4 : MI) (J_5 : MJ) : Prop :=
  (((12 : Int32) ≤ x3_3 → K34 x1_2 I_4 J_5) ∧ (¬ (12 : Int32) ≤ x3_3 → f_X8_told x3_3 I_4 J_5 (fun (v_9 : Int32) (I_7 : MI) (J_8 : MJ) => ∀ x1_10 : Int64, x1_10 = (((31 : Int64) * x1_2) + (v_9.toInt64)) → ∀ x3_11 : Int32, x3_11 = x3_3 + (1 : Int32) → rec9 x1_10 x3_11 I_7 J_8)))
def f_X8_checksum_L9 (K34 : Int64 → MI → MJ → Prop) : Nat → Int64 → Int32 → MI → MJ → Prop
  | 0, _, _, _, _ => False
  | n + 1, x1_2, x3_3, I_4, J_5 => f_X8_checksum_B9 K34 (f_X8_checksum_L9 K34 n) x1_2 x3_3 I_4 J_5
def f_X8_checksum_B49 (x3_22 : Int32) (K76 : Int64 → MI → MJ → Prop) (rec49 : Int64 → Int32 → MI → MJ → Prop) (x1_21 : Int64) (x4_23 : Int32) (I_24 : MI) (J_25 : MJ) : Prop :=
  (((4 : Int32) ≤ x4_23 → K76 x1_21 I_24 J_25) ∧ (¬ (4 : Int32) ≤ x4_23 → f_X8_toldRow x3_22 x4_23 I_24 J_25 (fun (v_29 : Int32) (I_27 : MI) (J_28 : MJ) => ∀ x1_30 : Int64, x1_30 = (((31 : Int64) * x1_21) + (v_29.toInt64)) → ∀ x4_31 : Int32, x4_31 = x4_23 + (1 : Int32) → rec49 x1_30 x4_31 I_27 J_28)))
def f_X8_checksum_L49 (x3_22 : Int32) (K76 : Int64 → MI → MJ → Prop) : Nat → Int64 → Int32 → MI → MJ → Prop
  | 0, _, _, _, _ => False
  | n + 1, x1_21, x4_23, I_24, J_25 => f_X8_checksum_B49 x3_22 K76 (f_X8_checksum_L49 x3_22 K76 n) x1_21 x4_23 I_24 J_25
def f_X8_checksum_B79 (x3_36 : Int32) (K111 : Int64 → MI → MJ → Prop) (rec79 : Int64 → Int32 → MI → MJ → Prop) (x1_35 : Int64) (x4_37 : Int32) (I_38 : MI) (J_39 : MJ) : Prop :=
  f_X8_ofRow x3_36 (0 : Int32) I_38 J_39 (fun (v_42 : Int32) (I_40 : MI) (J_41 : MJ) => ((v_42 ≤ x4_37 → K111 x1_35 I_40 J_41) ∧ (¬ v_42 ≤ x4_37 → f_X8_toldTile x3_36 x4_37 I_40 J_41 (fun (v_46 : Int32) (I_44 : MI) (J_45 : MJ) => ∀ x1_47 : Int64, x1_47 = (((31 : Int64) * x1_35) + (v_46.toInt64)) → ∀ x4_48 : Int32, x4_48 = x4_37 + (1 : Int32) → rec79 x1_47 x4_48 I_44 J_45))))
def f_X8_checksum_L79 (x3_36 : Int32) (K111 : Int64 → MI → MJ → Prop) : Nat → Int64 → Int32 → MI → MJ → Prop
  | 0, _, _, _, _ => False
  | n + 1, x1_35, x4_37, I_38, J_39 => f_X8_checksum_B79 x3_36 K111 (f_X8_checksum_L79 x3_36 K111 n) x1_35 x4_37 I_38 J_39
def f_X8_checksum_B36 (K117 : Int64 → MI → MJ → Prop) (rec36 : Int64 → Int32 → MI → MJ → Prop) (x1_15 : Int64) (x3_16 : Int32) (I_17 : MI) (J_18 : MJ) : Prop :=
  (vp_in (0 : Int32) 1802 ∧ (((I_17 12 2 (0 : Int32).toNatClampNeg) ≤ x3_16 → K117 x1_15 I_17 J_18) ∧ (¬ (I_17 12 2 (0 : Int32).toNatClampNeg) ≤ x3_16 → ∃ n : Nat, f_X8_checksum_L49 x3_16 (fun (x1_32 : Int64) (I_33 : MI) (J_34 : MJ) => ∃ n : Nat, f_X8_checksum_L79 x3_16 (fun (x1_49 : Int64) (I_50 : MI) (J_51 : MJ) => ∀ x3_52 : Int32, x3_52 = x3_16 + (1 : Int32) → rec36 x1_49 x3_52 I_50 J_51) n x1_32 (0 : Int32) I_33 J_34) n x1_15 (0 : Int32) I_17 J_18)))
def f_X8_checksum_L36 (K117 : Int64 → MI → MJ → Prop) : Nat → Int64 → Int32 → MI → MJ → Prop
  | 0, _, _, _, _ => False
  | n + 1, x1_15, x3_16, I_17, J_18 => f_X8_checksum_B36 K117 (f_X8_checksum_L36 K117 n) x1_15 x3_16 I_17 J_18
def f_X8_checksum_B132 (x3_65 : Int32) (K159 : Int64 → MI → MJ → Prop) (rec132 : Int64 → Int32 → MI → MJ → Prop) (x1_64 : Int64) (x4_66 : Int32) (I_67 : MI) (J_68 : MJ) : Prop :=
  (((4 : Int32) ≤ x4_66 → K159 x1_64 I_67 J_68) ∧ (¬ (4 : Int32) ≤ x4_66 → f_X8_toldPlayer x3_65 x4_66 I_67 J_68 (fun (v_72 : Int32) (I_70 : MI) (J_71 : MJ) => ∀ x1_73 : Int64, x1_73 = (((31 : Int64) * x1_64) + (v_72.toInt64)) → ∀ x4_74 : Int32, x4_74 = x4_66 + (1 : Int32) → rec132 x1_73 x4_74 I_70 J_71)))
def f_X8_checksum_L132 (x3_65 : Int32) (K159 : Int64 → MI → MJ → Prop) : Nat → Int64 → Int32 → MI → MJ → Prop
  | 0, _, _, _, _ => False
  | n + 1, x1_64, x4_66, I_67, J_68 => f_X8_checksum_B132 x3_65 K159 (f_X8_checksum_L132 x3_65 K159 n) x1_64 x4_66 I_67 J_68
def f_X8_checksum_B176 (x3_88 : Int32) (x4_89 : Int32) (K218 : Int64 → MI → MJ → Prop) (rec176 : Int64 → Int32 → MI → MJ → Prop) (x1_87 : Int64) (x5_90 : Int32) (I_91 : MI) (J_92 : MJ) : Prop :=
  f_X8_lengthOf x3_88 x4_89 I_91 J_92 (fun (v_95 : Int32) (I_93 : MI) (J_94 : MJ) => ((v_95 ≤ x5_90 → K218 x1_87 I_93 J_94) ∧ (¬ v_95 ≤ x5_90 → f_X8_wordAt x3_88 x4_89 I_93 J_94 (fun (v_99 : Int32) (I_97 : MI) (J_98 : MJ) => (vp_in ((v_99 + (1 : Int32)) + x5_90) 1802 ∧ ∀ x1_101 : Int64, x1_101 = (((31 : Int64) * x1_87) + ((I_97 12 2 ((v_99 + (1 : Int32)) + x5_90).toNatClampNeg).toInt64)) → ∀ x5_102 : Int32, x5_102 = x5_90 + (1 : Int32) → rec176 x1_101 x5_102 I_97 J_98)))))
def f_X8_checksum_L176 (x3_88 : Int32) (x4_89 : Int32) (K218 : Int64 → MI → MJ → Prop) : Nat → Int64 → Int32 → MI → MJ → Prop
  | 0, _, _, _, _ => False
  | n + 1, x1_87, x5_90, I_91, J_92 => f_X8_checksum_B176 x3_88 x4_89 K218 (f_X8_checksum_L176 x3_88 x4_89 K218 n) x1_87 x5_90 I_91 J_92
def f_X8_checksum_B162 (x3_79 : Int32) (K224 : Int64 → MI → MJ → Prop) (rec162 : Int64 → Int32 → MI → MJ → Prop) (x1_78 : Int64) (x4_80 : Int32) (I_81 : MI) (J_82 : MJ) : Prop :=
  f_X8_ofPlayer x3_79 (1 : Int32) I_81 J_82 (fun (v_85 : Int32) (I_83 : MI) (J_84 : MJ) => ((v_85 ≤ x4_80 → K224 x1_78 I_83 J_84) ∧ (¬ v_85 ≤ x4_80 → ∃ n : Nat, f_X8_checksum_L176 x3_79 x4_80 (fun (x1_103 : Int64) (I_104 : MI) (J_105 : MJ) => ∀ x4_106 : Int32, x4_106 = x4_80 + (1 : Int32) → rec162 x1_103 x4_106 I_104 J_105) n x1_78 (0 : Int32) I_83 J_84)))
def f_X8_checksum_L162 (x3_79 : Int32) (K224 : Int64 → MI → MJ → Prop) : Nat → Int64 → Int32 → MI → MJ → Prop
  | 0, _, _, _, _ => False
  | n + 1, x1_78, x4_80, I_81, J_82 => f_X8_checksum_B162 x3_79 K224 (f_X8_checksum_L162 x3_79 K224 n) x1_78 x4_80 I_81 J_82
def f_X8_checksum_B119 (K230 : Int64 → MI → MJ → Prop) (rec119 : Int64 → Int32 → MI → MJ → Prop) (x1_58 : Int64) (x3_59 : Int32) (I_60 : MI) (J_61 : MJ) : Prop :=
  (vp_in (1 : Int32) 1802 ∧ (((I_60 12 2 (1 : Int32).toNatClampNeg) ≤ x3_59 → K230 x1_58 I_60 J_61) ∧ (¬ (I_60 12 2 (1 : Int32).toNatClampNeg) ≤ x3_59 → ∃ n : Nat, f_X8_checksum_L132 x3_59 (fun (x1_75 : Int64) (I_76 : MI) (J_77 : MJ) => ∃ n : Nat, f_X8_checksum_L162 x3_59 (fun (x1_108 : Int64) (I_109 : MI) (J_110 : MJ) => ∀ x3_111 : Int32, x3_111 = x3_59 + (1 : Int32) → rec119 x1_108 x3_111 I_109 J_110) n x1_75 (0 : Int32) I_76 J_77) n x1_58 (0 : Int32) I_60 J_61)))
def f_X8_checksum_L119 (K230 : Int64 → MI → MJ → Prop) : Nat → Int64 → Int32 → MI → MJ → Prop
  | 0, _, _, _, _ => False
  | n + 1, x1_58, x3_59, I_60, J_61 => f_X8_checksum_B119 K230 (f_X8_checksum_L119 K230 n) x1_58 x3_59 I_60 J_61
def f_X8_checksum (I : MI) (J : MJ) (Q : Int64 → MI → MJ → Prop) : Prop :=
  ∀ I_1 : MI, I_1 = sI I 12 0 0 (0 : Int32) → ∃ n : Nat, f_X8_checksum_L9 (fun (x1_12 : Int64) (I_13 : MI) (J_14 : MJ) => ∃ n : Nat, f_X8_checksum_L36 (fun (x1_55 : Int64) (I_56 : MI) (J_57 : MJ) => ∃ n : Nat, f_X8_checksum_L119 (fun (x1_114 : Int64) (I_115 : MI) (J_116 : MJ) => Q x1_114 I_115 J_116) n x1_55 (0 : Int32) I_56 J_57) n x1_12 (0 : Int32) I_13 J_14) n (0 : Int64) (0 : Int32) I_1 J
set_option maxRecDepth 100000 in
set_option maxHeartbeats 4000000 in
theorem c_X8_checksum {l : Launch} {E : EV} {ps : List (Nat × Nat)} (h12 : ∀ r, r < 17 → (12, r) ∈ ps) {I : MI} {J : MJ} {Q : Int64 → MI → MJ → Prop} (hf : f_X8_checksum I J Q) : KL l yX8_checksum wsX8_checksum rmX8_checksum E ps [.ref (eA E 12 0)] I J Q := by
  refine K_ofL (cc := cX8_checksum) (maxL := 6) (by decide +kernel) rfl (Nat.le_of_ble_eq_true rfl) (fun p e s m args below meth c Qm hret S hK hX => ?_)
  have hA : ∀ q, s.heap.size ≤ q → AA E ps s.heap.size q := fun _ h => Or.inr h
  have k1 := S.2.2.2.2 (.fieldLink RX8 49 "RhymeRoofsModel" "thrown" "I") (by decide +kernel)
  have iX8 : ∀ w ∈ wsX80, w ∈ wsX8_checksum := fun _ h => List.mem_cons_of_mem _ (List.mem_append_right _ h)
  have k2 := S.2.2.2.2 (.constantLong RX8 369 (31)) (by decide +kernel)
  have k3 := S.2.2.2.2 (.fieldLink RX8 17 "RhymeRoofsModel" "data" "[I") (by decide +kernel)
  intro H locs ls hP hD hS hl
  unfold f_X8_checksum at hf
  refine lv_aload_n S.1 S.2.1 dX8_checksum_0 rfl (lv_at hl 0 rfl) ?_
  refine lv_iconst (v := 0) S.1 S.2.1 dX8_checksum_1 rfl ?_
  refine nm_o hf (fun I_1 eI_1 hf => ?_)
  refine pfX8_0 S iX8 hK hP hD hS (h12 0 (by decide)) k1 dX8_checksum_2 eI_1 (fun H locs hP hD hS => ?_)
  refine lv_lconst (v := 0) S.1 S.2.1 dX8_checksum_5 rfl ?_
  refine lv_lstore_n (lv' := [(1, .long (0 : Int64)), (0, .ref (eA E 12 0))]) S.1 S.2.1 dX8_checksum_6 rfl hl (by decide) rfl (fun ls hl => ?_)
  refine lv_iconst (v := 0) S.1 S.2.1 dX8_checksum_7 rfl ?_
  refine lv_istore_n (lv' := [(3, .int (0 : Int32)), (1, .long (0 : Int64)), (0, .ref (eA E 12 0))]) S.1 S.2.1 dX8_checksum_8 rfl hl (by decide) rfl (fun ls hl => ?_)
  obtain ⟨n_119, hf⟩ := hf
  have L9 : ∀ (K34 : Int64 → MI → MJ → Prop), (∀ (x1_12 : Int64) (I_13 : MI) (J_14 : MJ), K34 x1_12 I_13 J_14 → Wj p l e (rmX8_checksum) s m args below meth c Qm E ps 6 I_13 J_14 34 [(0, .ref (eA E 12 0)), (1, .long x1_12)] []) → ∀ (n : Nat) (x1_2 : Int64) (x3_3 : Int32) (I_4 : MI) (J_5 : MJ), f_X8_checksum_L9 K34 n x1_2 x3_3 I_4 J_5 → Wj p l e (rmX8_checksum) s m args below meth c Qm E ps 6 I_4 J_5 9 [(0, .ref (eA E 12 0)), (1, .long x1_2), (3, .int x3_3)] [] := by
    intro K34 kx34 n
    induction n with
    | zero => intro x1_2 x3_3 I_4 J_5 hf; exact hf.elim
    | succ n ih9 =>
      intro x1_2 x3_3 I_4 J_5 hf
      have hf : f_X8_checksum_B9 K34 (f_X8_checksum_L9 K34 n) x1_2 x3_3 I_4 J_5 := hf
      intro H locs ls hP hD hS hl
      unfold f_X8_checksum_B9 at hf
      refine lv_iload_n S.1 S.2.1 dX8_checksum_9 rfl (lv_at hl 2 rfl) ?_
      refine lv_bipush (v := 12) S.1 S.2.1 dX8_checksum_10 rfl ?_
      refine lv_icmp_ge (tgt := 34) S.1 S.2.1 dX8_checksum_12 (by decide) (fun h_6 => ?_) (fun h_6 => ?_)
      · have hf := hf.1 h_6
        exact kx34 _ _ _ hf _ _ _ hP hD hS (lv_sub hl [0, 1] rfl)
      · have hf := hf.2 h_6
        refine lv_ldc2 (v := 31) S.1 S.2.1 S.2.2.2.1 k2 dX8_checksum_15 ?_
        refine lv_lload_n S.1 S.2.1 dX8_checksum_18 rfl (lv_at hl 1 rfl) ?_
        refine lv_lmul S.1 S.2.1 dX8_checksum_19 ?_
        refine lv_aload_n S.1 S.2.1 dX8_checksum_20 rfl (lv_at hl 0 rfl) ?_
        refine lv_iload_n S.1 S.2.1 dX8_checksum_21 rfl (lv_at hl 2 rfl) ?_
        refine R_cVi (As := [.int x3_3]) (rest := [.long ((31 : Int64) * x1_2)]) S (c_X8_told (h12 := h12)  hf) gX8_checksum_X8_told rfl yk_X8_told ⟨⟨Nat.le_of_ble_eq_true rfl, Nat.le_of_ble_eq_true rfl⟩, rfl, rfl⟩ hK hP hD hS hX hA (h12 0 (by decide)) (cF_m E _ _ 0) rfl rfl hl.1 rfl (Nat.le_of_ble_eq_true rfl) ⟨Nat.zero_le _, Nat.zero_le _⟩ dX8_checksum_22 (fun v_9 I_7 J_8 H locs hf hP hD hS => ?_)
        refine lv_i2l S.1 S.2.1 dX8_checksum_25 rfl ?_
        refine lv_ladd S.1 S.2.1 dX8_checksum_26 ?_
        refine lv_topl (fun x1_10 ex1_10 => ?_)
        have hf := hf x1_10 ex1_10
        refine lv_lstore_n (lv' := [(1, .long x1_10), (0, .ref (eA E 12 0)), (3, .int x3_3)]) S.1 S.2.1 dX8_checksum_27 rfl hl (by decide) rfl (fun ls hl => ?_)
        refine nm_o hf (fun x3_11 ex3_11 hf => ?_)
        refine lv_iinc (v := x3_11) (lv' := [(3, .int x3_11), (1, .long x1_10), (0, .ref (eA E 12 0))]) S.1 S.2.1 dX8_checksum_28 hl (k := 2) rfl (by rw [ex3_11]; rfl) (by decide) rfl (fun ls hl => ?_)
        refine lv_goto (tgt := 9) S.1 S.2.1 dX8_checksum_31 (by decide) ?_
        exact ih9 _ _ _ _ hf _ _ _ hP hD hS (lv_sub hl [2, 1, 0] rfl)
  refine L9 _ (fun x1_12 I_13 J_14 hf H locs ls hP hD hS hl => ?_)  n_119 _ _ _ _ hf _ _ _ hP hD hS (lv_sub hl [2, 1, 0] rfl)
  refine lv_iconst (v := 0) S.1 S.2.1 dX8_checksum_34 rfl ?_
  refine lv_istore_n (lv' := [(3, .int (0 : Int32)), (0, .ref (eA E 12 0)), (1, .long x1_12)]) S.1 S.2.1 dX8_checksum_35 rfl hl (by decide) rfl (fun ls hl => ?_)
  obtain ⟨n_118, hf⟩ := hf
  have L36 : ∀ (K117 : Int64 → MI → MJ → Prop), (∀ (x1_55 : Int64) (I_56 : MI) (J_57 : MJ), K117 x1_55 I_56 J_57 → Wj p l e (rmX8_checksum) s m args below meth c Qm E ps 6 I_56 J_57 117 [(0, .ref (eA E 12 0)), (1, .long x1_55)] []) → ∀ (n : Nat) (x1_15 : Int64) (x3_16 : Int32) (I_17 : MI) (J_18 : MJ), f_X8_checksum_L36 K117 n x1_15 x3_16 I_17 J_18 → Wj p l e (rmX8_checksum) s m args below meth c Qm E ps 6 I_17 J_18 36 [(0, .ref (eA E 12 0)), (1, .long x1_15), (3, .int x3_16)] [] := by
    intro K117 kx117 n
    induction n with
    | zero => intro x1_15 x3_16 I_17 J_18 hf; exact hf.elim
    | succ n ih36 =>
      intro x1_15 x3_16 I_17 J_18 hf
      have hf : f_X8_checksum_B36 K117 (f_X8_checksum_L36 K117 n) x1_15 x3_16 I_17 J_18 := hf
      intro H locs ls hP hD hS hl
      unfold f_X8_checksum_B36 at hf
      refine lv_iload_n S.1 S.2.1 dX8_checksum_36 rfl (lv_at hl 2 rfl) ?_
      refine lv_aload_n S.1 S.2.1 dX8_checksum_37 rfl (lv_at hl 0 rfl) ?_
      refine gfX8_8 S iX8 hK hP (h12 0 (by decide)) k3 dX8_checksum_38 ?_
      refine lv_iconst (v := 0) S.1 S.2.1 dX8_checksum_41 rfl ?_
      obtain ⟨h_19, hf⟩ := hf
      refine R_iald S.1 S.2.1 hK hP (h12 2 (by decide)) (IAm2 E) h_19 dX8_checksum_42 ?_
      refine lv_icmp_ge (tgt := 117) S.1 S.2.1 dX8_checksum_43 (by decide) (fun h_20 => ?_) (fun h_20 => ?_)
      · have hf := hf.1 h_20
        exact kx117 _ _ _ hf _ _ _ hP hD hS (lv_sub hl [0, 1] rfl)
      · have hf := hf.2 h_20
        refine lv_iconst (v := 0) S.1 S.2.1 dX8_checksum_46 rfl ?_
        refine lv_istore (lv' := [(4, .int (0 : Int32)), (0, .ref (eA E 12 0)), (1, .long x1_15), (3, .int x3_16)]) S.1 S.2.1 dX8_checksum_47 hl (by decide) rfl (fun ls hl => ?_)
        obtain ⟨n_54, hf⟩ := hf
        have L49 : ∀ (x3_22 : Int32), ∀ (K76 : Int64 → MI → MJ → Prop), (∀ (x1_32 : Int64) (I_33 : MI) (J_34 : MJ), K76 x1_32 I_33 J_34 → Wj p l e (rmX8_checksum) s m args below meth c Qm E ps 6 I_33 J_34 76 [(0, .ref (eA E 12 0)), (1, .long x1_32), (3, .int x3_22)] []) → ∀ (n : Nat) (x1_21 : Int64) (x4_23 : Int32) (I_24 : MI) (J_25 : MJ), f_X8_checksum_L49 x3_22 K76 n x1_21 x4_23 I_24 J_25 → Wj p l e (rmX8_checksum) s m args below meth c Qm E ps 6 I_24 J_25 49 [(0, .ref (eA E 12 0)), (1, .long x1_21), (3, .int x3_22), (4, .int x4_23)] [] := by
          intro x3_22 K76 kx76 n
          induction n with
          | zero => intro x1_21 x4_23 I_24 J_25 hf; exact hf.elim
          | succ n ih49 =>
            intro x1_21 x4_23 I_24 J_25 hf
            have hf : f_X8_checksum_B49 x3_22 K76 (f_X8_checksum_L49 x3_22 K76 n) x1_21 x4_23 I_24 J_25 := hf
            intro H locs ls hP hD hS hl
            unfold f_X8_checksum_B49 at hf
            refine lv_iload S.1 S.2.1 dX8_checksum_49 (lv_at hl 3 rfl) ?_
            refine lv_iconst (v := 4) S.1 S.2.1 dX8_checksum_51 rfl ?_
            refine lv_icmp_ge (tgt := 76) S.1 S.2.1 dX8_checksum_52 (by decide) (fun h_26 => ?_) (fun h_26 => ?_)
            · have hf := hf.1 h_26
              exact kx76 _ _ _ hf _ _ _ hP hD hS (lv_sub hl [0, 1, 2] rfl)
            · have hf := hf.2 h_26
              refine lv_ldc2 (v := 31) S.1 S.2.1 S.2.2.2.1 k2 dX8_checksum_55 ?_
              refine lv_lload_n S.1 S.2.1 dX8_checksum_58 rfl (lv_at hl 1 rfl) ?_
              refine lv_lmul S.1 S.2.1 dX8_checksum_59 ?_
              refine lv_aload_n S.1 S.2.1 dX8_checksum_60 rfl (lv_at hl 0 rfl) ?_
              refine lv_iload_n S.1 S.2.1 dX8_checksum_61 rfl (lv_at hl 2 rfl) ?_
              refine lv_iload S.1 S.2.1 dX8_checksum_62 (lv_at hl 3 rfl) ?_
              refine R_cVi (As := [.int x3_22, .int x4_23]) (rest := [.long ((31 : Int64) * x1_21)]) S (c_X8_toldRow (h12 := h12)  hf) gX8_checksum_X8_toldRow rfl yk_X8_toldRow ⟨⟨Nat.le_of_ble_eq_true rfl, Nat.le_of_ble_eq_true rfl⟩, rfl, rfl⟩ hK hP hD hS hX hA (h12 0 (by decide)) (cF_m E _ _ 0) rfl rfl hl.1 rfl (Nat.le_of_ble_eq_true rfl) ⟨Nat.zero_le _, Nat.zero_le _⟩ dX8_checksum_64 (fun v_29 I_27 J_28 H locs hf hP hD hS => ?_)
              refine lv_i2l S.1 S.2.1 dX8_checksum_67 rfl ?_
              refine lv_ladd S.1 S.2.1 dX8_checksum_68 ?_
              refine lv_topl (fun x1_30 ex1_30 => ?_)
              have hf := hf x1_30 ex1_30
              refine lv_lstore_n (lv' := [(1, .long x1_30), (0, .ref (eA E 12 0)), (3, .int x3_22), (4, .int x4_23)]) S.1 S.2.1 dX8_checksum_69 rfl hl (by decide) rfl (fun ls hl => ?_)
              refine nm_o hf (fun x4_31 ex4_31 hf => ?_)
              refine lv_iinc (v := x4_31) (lv' := [(4, .int x4_31), (1, .long x1_30), (0, .ref (eA E 12 0)), (3, .int x3_22)]) S.1 S.2.1 dX8_checksum_70 hl (k := 3) rfl (by rw [ex4_31]; rfl) (by decide) rfl (fun ls hl => ?_)
              refine lv_goto (tgt := 49) S.1 S.2.1 dX8_checksum_73 (by decide) ?_
              exact ih49 _ _ _ _ hf _ _ _ hP hD hS (lv_sub hl [2, 1, 3, 0] rfl)
        refine L49 _ _ (fun x1_32 I_33 J_34 hf H locs ls hP hD hS hl => ?_)  n_54 _ _ _ _ hf _ _ _ hP hD hS (lv_sub hl [1, 2, 3, 0] rfl)
        refine lv_iconst (v := 0) S.1 S.2.1 dX8_checksum_76 rfl ?_
        refine lv_istore (lv' := [(4, .int (0 : Int32)), (0, .ref (eA E 12 0)), (1, .long x1_32), (3, .int x3_16)]) S.1 S.2.1 dX8_checksum_77 hl (by decide) rfl (fun ls hl => ?_)
        obtain ⟨n_53, hf⟩ := hf
        have L79 : ∀ (x3_36 : Int32), ∀ (K111 : Int64 → MI → MJ → Prop), (∀ (x1_49 : Int64) (I_50 : MI) (J_51 : MJ), K111 x1_49 I_50 J_51 → Wj p l e (rmX8_checksum) s m args below meth c Qm E ps 6 I_50 J_51 111 [(0, .ref (eA E 12 0)), (1, .long x1_49), (3, .int x3_36)] []) → ∀ (n : Nat) (x1_35 : Int64) (x4_37 : Int32) (I_38 : MI) (J_39 : MJ), f_X8_checksum_L79 x3_36 K111 n x1_35 x4_37 I_38 J_39 → Wj p l e (rmX8_checksum) s m args below meth c Qm E ps 6 I_38 J_39 79 [(0, .ref (eA E 12 0)), (1, .long x1_35), (3, .int x3_36), (4, .int x4_37)] [] := by
          intro x3_36 K111 kx111 n
          induction n with
          | zero => intro x1_35 x4_37 I_38 J_39 hf; exact hf.elim
          | succ n ih79 =>
            intro x1_35 x4_37 I_38 J_39 hf
            have hf : f_X8_checksum_B79 x3_36 K111 (f_X8_checksum_L79 x3_36 K111 n) x1_35 x4_37 I_38 J_39 := hf
            intro H locs ls hP hD hS hl
            unfold f_X8_checksum_B79 at hf
            refine lv_iload S.1 S.2.1 dX8_checksum_79 (lv_at hl 3 rfl) ?_
            refine lv_aload_n S.1 S.2.1 dX8_checksum_81 rfl (lv_at hl 0 rfl) ?_
            refine lv_iload_n S.1 S.2.1 dX8_checksum_82 rfl (lv_at hl 2 rfl) ?_
            refine lv_iconst (v := 0) S.1 S.2.1 dX8_checksum_83 rfl ?_
            refine R_cVi (As := [.int x3_36, .int (0 : Int32)]) (rest := [.int x4_37]) S (c_X8_ofRow (h12 := h12)  hf) gX8_checksum_X8_ofRow rfl yk_X8_ofRow ⟨⟨Nat.le_of_ble_eq_true rfl, Nat.le_of_ble_eq_true rfl⟩, rfl, rfl⟩ hK hP hD hS hX hA (h12 0 (by decide)) (cF_m E _ _ 0) rfl rfl hl.1 rfl (Nat.le_of_ble_eq_true rfl) ⟨Nat.zero_le _, Nat.zero_le _⟩ dX8_checksum_84 (fun v_42 I_40 J_41 H locs hf hP hD hS => ?_)
            refine lv_icmp_ge (tgt := 111) S.1 S.2.1 dX8_checksum_87 (by decide) (fun h_43 => ?_) (fun h_43 => ?_)
            · have hf := hf.1 h_43
              exact kx111 _ _ _ hf _ _ _ hP hD hS (lv_sub hl [0, 1, 2] rfl)
            · have hf := hf.2 h_43
              refine lv_ldc2 (v := 31) S.1 S.2.1 S.2.2.2.1 k2 dX8_checksum_90 ?_
              refine lv_lload_n S.1 S.2.1 dX8_checksum_93 rfl (lv_at hl 1 rfl) ?_
              refine lv_lmul S.1 S.2.1 dX8_checksum_94 ?_
              refine lv_aload_n S.1 S.2.1 dX8_checksum_95 rfl (lv_at hl 0 rfl) ?_
              refine lv_iload_n S.1 S.2.1 dX8_checksum_96 rfl (lv_at hl 2 rfl) ?_
              refine lv_iload S.1 S.2.1 dX8_checksum_97 (lv_at hl 3 rfl) ?_
              refine R_cVi (As := [.int x3_36, .int x4_37]) (rest := [.long ((31 : Int64) * x1_35)]) S (c_X8_toldTile (h12 := h12)  hf) gX8_checksum_X8_toldTile rfl yk_X8_toldTile ⟨⟨Nat.le_of_ble_eq_true rfl, Nat.le_of_ble_eq_true rfl⟩, rfl, rfl⟩ hK hP hD hS hX hA (h12 0 (by decide)) (cF_m E _ _ 0) rfl rfl hl.1 rfl (Nat.le_of_ble_eq_true rfl) ⟨Nat.zero_le _, Nat.zero_le _⟩ dX8_checksum_99 (fun v_46 I_44 J_45 H locs hf hP hD hS => ?_)
              refine lv_i2l S.1 S.2.1 dX8_checksum_102 rfl ?_
              refine lv_ladd S.1 S.2.1 dX8_checksum_103 ?_
              refine lv_topl (fun x1_47 ex1_47 => ?_)
              have hf := hf x1_47 ex1_47
              refine lv_lstore_n (lv' := [(1, .long x1_47), (0, .ref (eA E 12 0)), (3, .int x3_36), (4, .int x4_37)]) S.1 S.2.1 dX8_checksum_104 rfl hl (by decide) rfl (fun ls hl => ?_)
              refine nm_o hf (fun x4_48 ex4_48 hf => ?_)
              refine lv_iinc (v := x4_48) (lv' := [(4, .int x4_48), (1, .long x1_47), (0, .ref (eA E 12 0)), (3, .int x3_36)]) S.1 S.2.1 dX8_checksum_105 hl (k := 3) rfl (by rw [ex4_48]; rfl) (by decide) rfl (fun ls hl => ?_)
              refine lv_goto (tgt := 79) S.1 S.2.1 dX8_checksum_108 (by decide) ?_
              exact ih79 _ _ _ _ hf _ _ _ hP hD hS (lv_sub hl [2, 1, 3, 0] rfl)
        refine L79 _ _ (fun x1_49 I_50 J_51 hf H locs ls hP hD hS hl => ?_)  n_53 _ _ _ _ hf _ _ _ hP hD hS (lv_sub hl [1, 2, 3, 0] rfl)
        refine nm_o hf (fun x3_52 ex3_52 hf => ?_)
        refine lv_iinc (v := x3_52) (lv' := [(3, .int x3_52), (0, .ref (eA E 12 0)), (1, .long x1_49)]) S.1 S.2.1 dX8_checksum_111 hl (k := 2) rfl (by rw [ex3_52]; rfl) (by decide) rfl (fun ls hl => ?_)
        refine lv_goto (tgt := 36) S.1 S.2.1 dX8_checksum_114 (by decide) ?_
        exact ih36 _ _ _ _ hf _ _ _ hP hD hS (lv_sub hl [1, 2, 0] rfl)
  refine L36 _ (fun x1_55 I_56 J_57 hf H locs ls hP hD hS hl => ?_)  n_118 _ _ _ _ hf _ _ _ hP hD hS (lv_sub hl [1, 2, 0] rfl)
  refine lv_iconst (v := 0) S.1 S.2.1 dX8_checksum_117 rfl ?_
  refine lv_istore_n (lv' := [(3, .int (0 : Int32)), (0, .ref (eA E 12 0)), (1, .long x1_55)]) S.1 S.2.1 dX8_checksum_118 rfl hl (by decide) rfl (fun ls hl => ?_)
  obtain ⟨n_117, hf⟩ := hf
  have L119 : ∀ (K230 : Int64 → MI → MJ → Prop), (∀ (x1_114 : Int64) (I_115 : MI) (J_116 : MJ), K230 x1_114 I_115 J_116 → Wj p l e (rmX8_checksum) s m args below meth c Qm E ps 6 I_115 J_116 230 [(1, .long x1_114)] []) → ∀ (n : Nat) (x1_58 : Int64) (x3_59 : Int32) (I_60 : MI) (J_61 : MJ), f_X8_checksum_L119 K230 n x1_58 x3_59 I_60 J_61 → Wj p l e (rmX8_checksum) s m args below meth c Qm E ps 6 I_60 J_61 119 [(0, .ref (eA E 12 0)), (1, .long x1_58), (3, .int x3_59)] [] := by
    intro K230 kx230 n
    induction n with
    | zero => intro x1_58 x3_59 I_60 J_61 hf; exact hf.elim
    | succ n ih119 =>
      intro x1_58 x3_59 I_60 J_61 hf
      have hf : f_X8_checksum_B119 K230 (f_X8_checksum_L119 K230 n) x1_58 x3_59 I_60 J_61 := hf
      intro H locs ls hP hD hS hl
      unfold f_X8_checksum_B119 at hf
      refine lv_iload_n S.1 S.2.1 dX8_checksum_119 rfl (lv_at hl 2 rfl) ?_
      refine lv_aload_n S.1 S.2.1 dX8_checksum_120 rfl (lv_at hl 0 rfl) ?_
      refine gfX8_8 S iX8 hK hP (h12 0 (by decide)) k3 dX8_checksum_121 ?_
      refine lv_iconst (v := 1) S.1 S.2.1 dX8_checksum_124 rfl ?_
      obtain ⟨h_62, hf⟩ := hf
      refine R_iald S.1 S.2.1 hK hP (h12 2 (by decide)) (IAm2 E) h_62 dX8_checksum_125 ?_
      refine lv_icmp_ge (tgt := 230) S.1 S.2.1 dX8_checksum_126 (by decide) (fun h_63 => ?_) (fun h_63 => ?_)
      · have hf := hf.1 h_63
        exact kx230 _ _ _ hf _ _ _ hP hD hS (lv_sub hl [1] rfl)
      · have hf := hf.2 h_63
        refine lv_iconst (v := 0) S.1 S.2.1 dX8_checksum_129 rfl ?_
        refine lv_istore (lv' := [(4, .int (0 : Int32)), (0, .ref (eA E 12 0)), (1, .long x1_58), (3, .int x3_59)]) S.1 S.2.1 dX8_checksum_130 hl (by decide) rfl (fun ls hl => ?_)
        obtain ⟨n_113, hf⟩ := hf
        have L132 : ∀ (x3_65 : Int32), ∀ (K159 : Int64 → MI → MJ → Prop), (∀ (x1_75 : Int64) (I_76 : MI) (J_77 : MJ), K159 x1_75 I_76 J_77 → Wj p l e (rmX8_checksum) s m args below meth c Qm E ps 6 I_76 J_77 159 [(0, .ref (eA E 12 0)), (1, .long x1_75), (3, .int x3_65)] []) → ∀ (n : Nat) (x1_64 : Int64) (x4_66 : Int32) (I_67 : MI) (J_68 : MJ), f_X8_checksum_L132 x3_65 K159 n x1_64 x4_66 I_67 J_68 → Wj p l e (rmX8_checksum) s m args below meth c Qm E ps 6 I_67 J_68 132 [(0, .ref (eA E 12 0)), (1, .long x1_64), (3, .int x3_65), (4, .int x4_66)] [] := by
          intro x3_65 K159 kx159 n
          induction n with
          | zero => intro x1_64 x4_66 I_67 J_68 hf; exact hf.elim
          | succ n ih132 =>
            intro x1_64 x4_66 I_67 J_68 hf
            have hf : f_X8_checksum_B132 x3_65 K159 (f_X8_checksum_L132 x3_65 K159 n) x1_64 x4_66 I_67 J_68 := hf
            intro H locs ls hP hD hS hl
            unfold f_X8_checksum_B132 at hf
            refine lv_iload S.1 S.2.1 dX8_checksum_132 (lv_at hl 3 rfl) ?_
            refine lv_iconst (v := 4) S.1 S.2.1 dX8_checksum_134 rfl ?_
            refine lv_icmp_ge (tgt := 159) S.1 S.2.1 dX8_checksum_135 (by decide) (fun h_69 => ?_) (fun h_69 => ?_)
            · have hf := hf.1 h_69
              exact kx159 _ _ _ hf _ _ _ hP hD hS (lv_sub hl [0, 1, 2] rfl)
            · have hf := hf.2 h_69
              refine lv_ldc2 (v := 31) S.1 S.2.1 S.2.2.2.1 k2 dX8_checksum_138 ?_
              refine lv_lload_n S.1 S.2.1 dX8_checksum_141 rfl (lv_at hl 1 rfl) ?_
              refine lv_lmul S.1 S.2.1 dX8_checksum_142 ?_
              refine lv_aload_n S.1 S.2.1 dX8_checksum_143 rfl (lv_at hl 0 rfl) ?_
              refine lv_iload_n S.1 S.2.1 dX8_checksum_144 rfl (lv_at hl 2 rfl) ?_
              refine lv_iload S.1 S.2.1 dX8_checksum_145 (lv_at hl 3 rfl) ?_
              refine R_cVi (As := [.int x3_65, .int x4_66]) (rest := [.long ((31 : Int64) * x1_64)]) S (c_X8_toldPlayer (h12 := h12)  hf) gX8_checksum_X8_toldPlayer rfl yk_X8_toldPlayer ⟨⟨Nat.le_of_ble_eq_true rfl, Nat.le_of_ble_eq_true rfl⟩, rfl, rfl⟩ hK hP hD hS hX hA (h12 0 (by decide)) (cF_m E _ _ 0) rfl rfl hl.1 rfl (Nat.le_of_ble_eq_true rfl) ⟨Nat.zero_le _, Nat.zero_le _⟩ dX8_checksum_147 (fun v_72 I_70 J_71 H locs hf hP hD hS => ?_)
              refine lv_i2l S.1 S.2.1 dX8_checksum_150 rfl ?_
              refine lv_ladd S.1 S.2.1 dX8_checksum_151 ?_
              refine lv_topl (fun x1_73 ex1_73 => ?_)
              have hf := hf x1_73 ex1_73
              refine lv_lstore_n (lv' := [(1, .long x1_73), (0, .ref (eA E 12 0)), (3, .int x3_65), (4, .int x4_66)]) S.1 S.2.1 dX8_checksum_152 rfl hl (by decide) rfl (fun ls hl => ?_)
              refine nm_o hf (fun x4_74 ex4_74 hf => ?_)
              refine lv_iinc (v := x4_74) (lv' := [(4, .int x4_74), (1, .long x1_73), (0, .ref (eA E 12 0)), (3, .int x3_65)]) S.1 S.2.1 dX8_checksum_153 hl (k := 3) rfl (by rw [ex4_74]; rfl) (by decide) rfl (fun ls hl => ?_)
              refine lv_goto (tgt := 132) S.1 S.2.1 dX8_checksum_156 (by decide) ?_
              exact ih132 _ _ _ _ hf _ _ _ hP hD hS (lv_sub hl [2, 1, 3, 0] rfl)
        refine L132 _ _ (fun x1_75 I_76 J_77 hf H locs ls hP hD hS hl => ?_)  n_113 _ _ _ _ hf _ _ _ hP hD hS (lv_sub hl [1, 2, 3, 0] rfl)
        refine lv_iconst (v := 0) S.1 S.2.1 dX8_checksum_159 rfl ?_
        refine lv_istore (lv' := [(4, .int (0 : Int32)), (0, .ref (eA E 12 0)), (1, .long x1_75), (3, .int x3_59)]) S.1 S.2.1 dX8_checksum_160 hl (by decide) rfl (fun ls hl => ?_)
        obtain ⟨n_112, hf⟩ := hf
        have L162 : ∀ (x3_79 : Int32), ∀ (K224 : Int64 → MI → MJ → Prop), (∀ (x1_108 : Int64) (I_109 : MI) (J_110 : MJ), K224 x1_108 I_109 J_110 → Wj p l e (rmX8_checksum) s m args below meth c Qm E ps 6 I_109 J_110 224 [(0, .ref (eA E 12 0)), (1, .long x1_108), (3, .int x3_79)] []) → ∀ (n : Nat) (x1_78 : Int64) (x4_80 : Int32) (I_81 : MI) (J_82 : MJ), f_X8_checksum_L162 x3_79 K224 n x1_78 x4_80 I_81 J_82 → Wj p l e (rmX8_checksum) s m args below meth c Qm E ps 6 I_81 J_82 162 [(0, .ref (eA E 12 0)), (1, .long x1_78), (3, .int x3_79), (4, .int x4_80)] [] := by
          intro x3_79 K224 kx224 n
          induction n with
          | zero => intro x1_78 x4_80 I_81 J_82 hf; exact hf.elim
          | succ n ih162 =>
            intro x1_78 x4_80 I_81 J_82 hf
            have hf : f_X8_checksum_B162 x3_79 K224 (f_X8_checksum_L162 x3_79 K224 n) x1_78 x4_80 I_81 J_82 := hf
            intro H locs ls hP hD hS hl
            unfold f_X8_checksum_B162 at hf
            refine lv_iload S.1 S.2.1 dX8_checksum_162 (lv_at hl 3 rfl) ?_
            refine lv_aload_n S.1 S.2.1 dX8_checksum_164 rfl (lv_at hl 0 rfl) ?_
            refine lv_iload_n S.1 S.2.1 dX8_checksum_165 rfl (lv_at hl 2 rfl) ?_
            refine lv_iconst (v := 1) S.1 S.2.1 dX8_checksum_166 rfl ?_
            refine R_cVi (As := [.int x3_79, .int (1 : Int32)]) (rest := [.int x4_80]) S (c_X8_ofPlayer (h12 := h12)  hf) gX8_checksum_X8_ofPlayer rfl yk_X8_ofPlayer ⟨⟨Nat.le_of_ble_eq_true rfl, Nat.le_of_ble_eq_true rfl⟩, rfl, rfl⟩ hK hP hD hS hX hA (h12 0 (by decide)) (cF_m E _ _ 0) rfl rfl hl.1 rfl (Nat.le_of_ble_eq_true rfl) ⟨Nat.zero_le _, Nat.zero_le _⟩ dX8_checksum_167 (fun v_85 I_83 J_84 H locs hf hP hD hS => ?_)
            refine lv_icmp_ge (tgt := 224) S.1 S.2.1 dX8_checksum_170 (by decide) (fun h_86 => ?_) (fun h_86 => ?_)
            · have hf := hf.1 h_86
              exact kx224 _ _ _ hf _ _ _ hP hD hS (lv_sub hl [0, 1, 2] rfl)
            · have hf := hf.2 h_86
              refine lv_iconst (v := 0) S.1 S.2.1 dX8_checksum_173 rfl ?_
              refine lv_istore (lv' := [(5, .int (0 : Int32)), (0, .ref (eA E 12 0)), (1, .long x1_78), (3, .int x3_79), (4, .int x4_80)]) S.1 S.2.1 dX8_checksum_174 hl (by decide) rfl (fun ls hl => ?_)
              obtain ⟨n_107, hf⟩ := hf
              have L176 : ∀ (x3_88 : Int32), ∀ (x4_89 : Int32), ∀ (K218 : Int64 → MI → MJ → Prop), (∀ (x1_103 : Int64) (I_104 : MI) (J_105 : MJ), K218 x1_103 I_104 J_105 → Wj p l e (rmX8_checksum) s m args below meth c Qm E ps 6 I_104 J_105 218 [(0, .ref (eA E 12 0)), (1, .long x1_103), (3, .int x3_88), (4, .int x4_89)] []) → ∀ (n : Nat) (x1_87 : Int64) (x5_90 : Int32) (I_91 : MI) (J_92 : MJ), f_X8_checksum_L176 x3_88 x4_89 K218 n x1_87 x5_90 I_91 J_92 → Wj p l e (rmX8_checksum) s m args below meth c Qm E ps 6 I_91 J_92 176 [(0, .ref (eA E 12 0)), (1, .long x1_87), (3, .int x3_88), (4, .int x4_89), (5, .int x5_90)] [] := by
                intro x3_88 x4_89 K218 kx218 n
                induction n with
                | zero => intro x1_87 x5_90 I_91 J_92 hf; exact hf.elim
                | succ n ih176 =>
                  intro x1_87 x5_90 I_91 J_92 hf
                  have hf : f_X8_checksum_B176 x3_88 x4_89 K218 (f_X8_checksum_L176 x3_88 x4_89 K218 n) x1_87 x5_90 I_91 J_92 := hf
                  intro H locs ls hP hD hS hl
                  unfold f_X8_checksum_B176 at hf
                  refine lv_iload S.1 S.2.1 dX8_checksum_176 (lv_at hl 4 rfl) ?_
                  refine lv_aload_n S.1 S.2.1 dX8_checksum_178 rfl (lv_at hl 0 rfl) ?_
                  refine lv_iload_n S.1 S.2.1 dX8_checksum_179 rfl (lv_at hl 2 rfl) ?_
                  refine lv_iload S.1 S.2.1 dX8_checksum_180 (lv_at hl 3 rfl) ?_
                  refine R_cVi (As := [.int x3_88, .int x4_89]) (rest := [.int x5_90]) S (c_X8_lengthOf (h12 := h12)  hf) gX8_checksum_X8_lengthOf rfl yk_X8_lengthOf ⟨⟨Nat.le_of_ble_eq_true rfl, Nat.le_of_ble_eq_true rfl⟩, rfl, rfl⟩ hK hP hD hS hX hA (h12 0 (by decide)) (cF_m E _ _ 0) rfl rfl hl.1 rfl (Nat.le_of_ble_eq_true rfl) ⟨Nat.zero_le _, Nat.zero_le _⟩ dX8_checksum_182 (fun v_95 I_93 J_94 H locs hf hP hD hS => ?_)
                  refine lv_icmp_ge (tgt := 218) S.1 S.2.1 dX8_checksum_185 (by decide) (fun h_96 => ?_) (fun h_96 => ?_)
                  · have hf := hf.1 h_96
                    exact kx218 _ _ _ hf _ _ _ hP hD hS (lv_sub hl [0, 1, 2, 3] rfl)
                  · have hf := hf.2 h_96
                    refine lv_ldc2 (v := 31) S.1 S.2.1 S.2.2.2.1 k2 dX8_checksum_188 ?_
                    refine lv_lload_n S.1 S.2.1 dX8_checksum_191 rfl (lv_at hl 1 rfl) ?_
                    refine lv_lmul S.1 S.2.1 dX8_checksum_192 ?_
                    refine lv_aload_n S.1 S.2.1 dX8_checksum_193 rfl (lv_at hl 0 rfl) ?_
                    refine gfX8_8 S iX8 hK hP (h12 0 (by decide)) k3 dX8_checksum_194 ?_
                    refine lv_iload_n S.1 S.2.1 dX8_checksum_197 rfl (lv_at hl 2 rfl) ?_
                    refine lv_iload S.1 S.2.1 dX8_checksum_198 (lv_at hl 3 rfl) ?_
                    refine R_cSi (As := [.int x3_88, .int x4_89]) (rest := [.ref (eA E 12 2), .long ((31 : Int64) * x1_87)]) S (c_X8_wordAt   hf) gX8_checksum_X8_wordAt rfl yk_X8_wordAt ⟨⟨Nat.le_of_ble_eq_true rfl, Nat.le_of_ble_eq_true rfl⟩, rfl, rfl⟩ hK hP hD hS hX hA rfl hl.1 rfl (Nat.le_of_ble_eq_true rfl) ⟨Nat.zero_le _, Nat.zero_le _⟩ dX8_checksum_200 (fun v_99 I_97 J_98 H locs hf hP hD hS => ?_)
                    refine lv_iconst (v := 1) S.1 S.2.1 dX8_checksum_203 rfl ?_
                    refine lv_iadd S.1 S.2.1 dX8_checksum_204 ?_
                    refine lv_iload S.1 S.2.1 dX8_checksum_205 (lv_at hl 4 rfl) ?_
                    refine lv_iadd S.1 S.2.1 dX8_checksum_207 ?_
                    obtain ⟨h_100, hf⟩ := hf
                    refine R_iald S.1 S.2.1 hK hP (h12 2 (by decide)) (IAm2 E) h_100 dX8_checksum_208 ?_
                    refine lv_i2l S.1 S.2.1 dX8_checksum_209 rfl ?_
                    refine lv_ladd S.1 S.2.1 dX8_checksum_210 ?_
                    refine lv_topl (fun x1_101 ex1_101 => ?_)
                    have hf := hf x1_101 ex1_101
                    refine lv_lstore_n (lv' := [(1, .long x1_101), (0, .ref (eA E 12 0)), (3, .int x3_88), (4, .int x4_89), (5, .int x5_90)]) S.1 S.2.1 dX8_checksum_211 rfl hl (by decide) rfl (fun ls hl => ?_)
                    refine nm_o hf (fun x5_102 ex5_102 hf => ?_)
                    refine lv_iinc (v := x5_102) (lv' := [(5, .int x5_102), (1, .long x1_101), (0, .ref (eA E 12 0)), (3, .int x3_88), (4, .int x4_89)]) S.1 S.2.1 dX8_checksum_212 hl (k := 4) rfl (by rw [ex5_102]; rfl) (by decide) rfl (fun ls hl => ?_)
                    refine lv_goto (tgt := 176) S.1 S.2.1 dX8_checksum_215 (by decide) ?_
                    exact ih176 _ _ _ _ hf _ _ _ hP hD hS (lv_sub hl [2, 1, 3, 4, 0] rfl)
              refine L176 _ _ _ (fun x1_103 I_104 J_105 hf H locs ls hP hD hS hl => ?_)  n_107 _ _ _ _ hf _ _ _ hP hD hS (lv_sub hl [1, 2, 3, 4, 0] rfl)
              refine nm_o hf (fun x4_106 ex4_106 hf => ?_)
              refine lv_iinc (v := x4_106) (lv' := [(4, .int x4_106), (0, .ref (eA E 12 0)), (1, .long x1_103), (3, .int x3_79)]) S.1 S.2.1 dX8_checksum_218 hl (k := 3) rfl (by rw [ex4_106]; rfl) (by decide) rfl (fun ls hl => ?_)
              refine lv_goto (tgt := 162) S.1 S.2.1 dX8_checksum_221 (by decide) ?_
              exact ih162 _ _ _ _ hf _ _ _ hP hD hS (lv_sub hl [1, 2, 3, 0] rfl)
        refine L162 _ _ (fun x1_108 I_109 J_110 hf H locs ls hP hD hS hl => ?_)  n_112 _ _ _ _ hf _ _ _ hP hD hS (lv_sub hl [1, 2, 3, 0] rfl)
        refine nm_o hf (fun x3_111 ex3_111 hf => ?_)
        refine lv_iinc (v := x3_111) (lv' := [(3, .int x3_111), (0, .ref (eA E 12 0)), (1, .long x1_108)]) S.1 S.2.1 dX8_checksum_224 hl (k := 2) rfl (by rw [ex3_111]; rfl) (by decide) rfl (fun ls hl => ?_)
        refine lv_goto (tgt := 119) S.1 S.2.1 dX8_checksum_227 (by decide) ?_
        exact ih119 _ _ _ _ hf _ _ _ hP hD hS (lv_sub hl [1, 2, 0] rfl)
  refine L119 _ (fun x1_114 I_115 J_116 hf H locs ls hP hD hS hl => ?_)  n_117 _ _ _ _ hf _ _ _ hP hD hS (lv_sub hl [1, 2, 0] rfl)
  refine lv_lload_n S.1 S.2.1 dX8_checksum_230 rfl (lv_at hl 0 rfl) ?_
  exact hret hf hP hD hS dX8_checksum_231
