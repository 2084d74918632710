abbrev rmX8_give : Room := { frames := 3, cells := 0, slots := 0, locals := 64 }
theorem yk_X8_give : yOk yX8_give RX8 2 := by unfold yOk; decide +kernel
def f_X8_give_B122 (x2_54 : Int32) (x4_55 : Int32) (K156 : MI → MJ → Prop) (rec122 : Int32 → MI → MJ → Prop) (x5_56 : Int32) (I_57 : MI) (J_58 : MJ) : Prop :=
  ((x2_54 ≤ x5_56 → K156 I_57 J_58) ∧ (¬ x2_54 ≤ x5_56 → (vp_in x5_56 600 ∧ (vp_in ((x4_55 + (1 : Int32)) + x5_56) 1802 ∧ ∀ I_62 : MI, I_62 = sI I_57 12 2 ((x4_55 + (1 : Int32)) + x5_56).toNatClampNeg ((I_57 12 1 x5_56.toNatClampNeg) - (97 : Int32)) → ∀ x5_63 : Int32, x5_63 = x5_56 + (1 : Int32) → rec122 x5_63 I_62 J_58))))
def f_X8_give_L122 (x2_54 : Int32) (x4_55 : Int32) (K156 : MI → MJ → Prop) : Nat → Int32 → MI → MJ → Prop
  | 0, _, _, _ => False
  | n + 1, x5_56, I_57, J_58 => f_X8_give_B122 x2_54 x4_55 K156 (f_X8_give_L122 x2_54 x4_55 K156 n) x5_56 I_57 J_58
def f_X8_give_J79 (Q : Int32 → MI → MJ → Prop) (x1_34 : Int32) (x2_35 : Int32) (s_36 : Int32) (I_37 : MI) (J_38 : MJ) : Prop :=
  f_X8_fails s_36 (3 : Int32) I_37 J_38 (fun (v_41 : Int32) (I_39 : MI) (J_40 : MJ) => ((v_41 = (0 : Int32) → f_X8_remember I_39 J_40 (fun (I_43 : MI) (J_44 : MJ) => ∀ I_45 : MI, I_45 = sI I_43 12 0 2 (0 : Int32) → f_X8_ofPlayer x1_34 (1 : Int32) I_45 J_44 (fun (v_48 : Int32) (I_46 : MI) (J_47 : MJ) => f_X8_wordAt x1_34 v_48 I_46 J_47 (fun (v_51 : Int32) (I_49 : MI) (J_50 : MJ) => (vp_in v_51 1802 ∧ ∀ I_53 : MI, I_53 = sI I_49 12 2 v_51.toNatClampNeg x2_35 → ∃ n : Nat, f_X8_give_L122 x2_35 v_51 (fun (I_64 : MI) (J_65 : MJ) => f_X8_playerAt x1_34 I_64 J_65 (fun (v_68 : Int32) (I_66 : MI) (J_67 : MJ) => (vp_in (v_68 + (1 : Int32)) 1802 ∧ (vp_in (v_68 + (1 : Int32)) 1802 ∧ ∀ I_71 : MI, I_71 = sI I_66 12 2 (v_68 + (1 : Int32)).toNatClampNeg ((I_66 12 2 (v_68 + (1 : Int32)).toNatClampNeg) + (1 : Int32)) → Q v_48 I_71 J_67)))) n (0 : Int32) I_53 J_50))))) ∧ (¬ v_41 = (0 : Int32) → Q (0 : Int32) I_39 J_40)))
def f_X8_give_J74 (Q : Int32 → MI → MJ → Prop) (x1_30 : Int32) (x2_31 : Int32) (I_32 : MI) (J_33 : MJ) : Prop :=
  f_X8_give_J79 Q x1_30 x2_31 (1 : Int32) I_32 J_33
def f_X8_give_J44 (Q : Int32 → MI → MJ → Prop) (x1_17 : Int32) (x2_18 : Int32) (s_19 : Int32) (I_20 : MI) (J_21 : MJ) : Prop :=
  f_X8_fails s_19 (2 : Int32) I_20 J_21 (fun (v_24 : Int32) (I_22 : MI) (J_23 : MJ) => ((v_24 = (0 : Int32) → f_X8_ofPlayer x1_17 (1 : Int32) I_22 J_23 (fun (v_28 : Int32) (I_26 : MI) (J_27 : MJ) => ((v_28 = (8 : Int32) → f_X8_give_J74 Q x1_17 x2_18 I_26 J_27) ∧ (¬ v_28 = (8 : Int32) → (vp_in (6 : Int32) 1802 ∧ (((I_26 12 2 (6 : Int32).toNatClampNeg) = (1 : Int32) → f_X8_give_J74 Q x1_17 x2_18 I_26 J_27) ∧ (¬ (I_26 12 2 (6 : Int32).toNatClampNeg) = (1 : Int32) → f_X8_give_J79 Q x1_17 x2_18 (0 : Int32) I_26 J_27))))))) ∧ (¬ v_24 = (0 : Int32) → Q (0 : Int32) I_22 J_23)))
def f_X8_give_J39 (Q : Int32 → MI → MJ → Prop) (x1_13 : Int32) (x2_14 : Int32) (I_15 : MI) (J_16 : MJ) : Prop :=
  f_X8_give_J44 Q x1_13 x2_14 (1 : Int32) I_15 J_16
def f_X8_give (x1 : Int32) (x2 : Int32) (I : MI) (J : MJ) (Q : Int32 → MI → MJ → Prop) : Prop :=
  ∀ I_1 : MI, I_1 = sI I 12 0 0 (0 : Int32) → f_X8_noPlayer x1 I_1 J (fun (v_4 : Int32) (I_2 : MI) (J_3 : MJ) => ((v_4 = (0 : Int32) → f_X8_min (8 : Int32) (I_2 12 0 2) I_2 J_3 (fun (v_8 : Int32) (I_6 : MI) (J_7 : MJ) => f_X8_in x2 (1 : Int32) v_8 I_6 J_7 (fun (v_11 : Int32) (I_9 : MI) (J_10 : MJ) => ((v_11 = (0 : Int32) → f_X8_give_J39 Q x1 x2 I_9 J_10) ∧ (¬ v_11 = (0 : Int32) → f_X8_areLetters x2 I_9 J_10 (fun (v_77 : Int32) (I_75 : MI) (J_76 : MJ) => ((v_77 = (0 : Int32) → f_X8_give_J39 Q x1 x2 I_75 J_76) ∧ (¬ v_77 = (0 : Int32) → f_X8_give_J44 Q x1 x2 (0 : Int32) I_75 J_76)))))))) ∧ (¬ v_4 = (0 : Int32) → Q (0 : Int32) I_2 J_3)))
set_option maxRecDepth 100000 in
set_option maxHeartbeats 4000000 in
theorem c_X8_give {l : Launch} {E : EV} {ps : List (Nat × Nat)} (h12 : ∀ r, r < 17 → (12, r) ∈ ps) (hR : (eT E)[3]? = some (eM E, .array .int)) {x1 : Int32} {x2 : Int32} {I : MI} {J : MJ} {Q : Int32 → MI → MJ → Prop} (hf : f_X8_give x1 x2 I J Q) : KI l yX8_give wsX8_give rmX8_give E ps [.ref (eA E 12 0), .int x1, .int x2] I J Q := by
  refine K_ofI (cc := cX8_give) (maxL := 6) (ty := .int) (by decide +kernel) rfl (Nat.le_of_ble_eq_true rfl) (fun p e s m args below meth c Qm hret S hK hX => ?_)
  have hA : ∀ q, s.heap.size ≤ q → AA E ps s.heap.size q := fun _ h => Or.inr h
  have k1 := S.2.2.2.2 (.fieldLink RX8 49 "RhymeRoofsModel" "thrown" "I") (by decide +kernel)
  have iX8 : ∀ w ∈ wsX80, w ∈ wsX8_give := fun _ h => List.mem_cons_of_mem _ (List.mem_append_right _ h)
  have k2 := S.2.2.2.2 (.fieldLink RX8 59 "RhymeRoofsModel" "bufferLength" "I") (by decide +kernel)
  have k3 := S.2.2.2.2 (.fieldLink RX8 17 "RhymeRoofsModel" "data" "[I") (by decide +kernel)
  have k4 := S.2.2.2.2 (.fieldLink RX8 9 "RhymeRoofsModel" "buffer" "[I") (by decide +kernel)
  have jn79 : ∀ (x1_34 : Int32) (x2_35 : Int32) (s_36 : Int32) (I_37 : MI) (J_38 : MJ), f_X8_give_J79 Q x1_34 x2_35 s_36 I_37 J_38 → Wj p l e (rmX8_give) s m args below meth c Qm E ps 6 I_37 J_38 79 [(0, .ref (eA E 12 0)), (1, .int x1_34), (2, .int x2_35)] [.int s_36, .ref (eA E 12 0)] := by
    intro x1_34 x2_35 s_36 I_37 J_38 hf H locs ls hP hD hS hl
    unfold f_X8_give_J79 at hf
    refine lv_iconst (v := 3) S.1 S.2.1 dX8_give_79 rfl ?_
    refine R_cVi (As := [.int s_36, .int (3 : Int32)]) (rest := []) S (c_X8_fails (h12 := h12)  hf) gX8_give_X8_fails rfl yk_X8_fails ⟨⟨Nat.le_of_ble_eq_true rfl, Nat.le_of_ble_eq_true rfl⟩, rfl, rfl⟩ hK hP hD hS hX hA (h12 0 (by decide)) (cF_m E _ _ 0) rfl rfl hl.1 rfl (Nat.le_of_ble_eq_true rfl) ⟨Nat.zero_le _, Nat.zero_le _⟩ dX8_give_80 (fun v_41 I_39 J_40 H locs hf hP hD hS => ?_)
    refine lv_if_eq (tgt := 88) S.1 S.2.1 dX8_give_83 (by decide) (fun h_42 => ?_) (fun h_42 => ?_)
    · have hf := hf.1 h_42
      refine lv_aload_n S.1 S.2.1 dX8_give_88 rfl (lv_at hl 0 rfl) ?_
      refine R_cVv (As := []) (rest := []) S (c_X8_remember (h12 := h12) (hR := hR)  hf) gX8_give_X8_remember rfl yk_X8_remember ⟨⟨Nat.le_of_ble_eq_true rfl, Nat.le_of_ble_eq_true rfl⟩, rfl, rfl⟩ hK hP hD hS hX hA (h12 0 (by decide)) (cF_m E _ _ 0) rfl rfl hl.1 rfl (Nat.le_of_ble_eq_true rfl) ⟨Nat.zero_le _, Nat.zero_le _⟩ dX8_give_89 (fun I_43 J_44 H locs hf hP hD hS => ?_)
      refine lv_aload_n S.1 S.2.1 dX8_give_92 rfl (lv_at hl 0 rfl) ?_
      refine lv_iconst (v := 0) S.1 S.2.1 dX8_give_93 rfl ?_
      refine nm_o hf (fun I_45 eI_45 hf => ?_)
      refine pfX8_2 S iX8 hK hP hD hS (h12 0 (by decide)) k2 dX8_give_94 eI_45 (fun H locs hP hD hS => ?_)
      refine lv_aload_n S.1 S.2.1 dX8_give_97 rfl (lv_at hl 0 rfl) ?_
      refine lv_iload_n S.1 S.2.1 dX8_give_98 rfl (lv_at hl 1 rfl) ?_
      refine lv_iconst (v := 1) S.1 S.2.1 dX8_give_99 rfl ?_
      refine R_cVi (As := [.int x1_34, .int (1 : Int32)]) (rest := []) S (c_X8_ofPlayer (h12 := h12)  hf) gX8_give_X8_ofPlayer rfl yk_X8_ofPlayer ⟨⟨Nat.le_of_ble_eq_true rfl, Nat.le_of_ble_eq_true rfl⟩, rfl, rfl⟩ hK hP hD hS hX hA (h12 0 (by decide)) (cF_m E _ _ 0) rfl rfl hl.1 rfl (Nat.le_of_ble_eq_true rfl) ⟨Nat.zero_le _, Nat.zero_le _⟩ dX8_give_100 (fun v_48 I_46 J_47 H locs hf hP hD hS => ?_)
      refine lv_istore_n (lv' := [(3, .int v_48), (0, .ref (eA E 12 0)), (1, .int x1_34), (2, .int x2_35)]) S.1 S.2.1 dX8_give_103 rfl hl (by decide) rfl (fun ls hl => ?_)
      refine lv_iload_n S.1 S.2.1 dX8_give_104 rfl (lv_at hl 2 rfl) ?_
      refine lv_iload_n S.1 S.2.1 dX8_give_105 rfl (lv_at hl 0 rfl) ?_
      refine R_cSi (As := [.int x1_34, .int v_48]) (rest := []) S (c_X8_wordAt   hf) gX8_give_X8_wordAt rfl yk_X8_wordAt ⟨⟨Nat.le_of_ble_eq_true rfl, Nat.le_of_ble_eq_true rfl⟩, rfl, rfl⟩ hK hP hD hS hX hA rfl hl.1 rfl (Nat.le_of_ble_eq_true rfl) ⟨Nat.zero_le _, Nat.zero_le _⟩ dX8_give_106 (fun v_51 I_49 J_50 H locs hf hP hD hS => ?_)
      refine lv_istore (lv' := [(4, .int v_51), (3, .int v_48), (0, .ref (eA E 12 0)), (1, .int x1_34), (2, .int x2_35)]) S.1 S.2.1 dX8_give_109 hl (by decide) rfl (fun ls hl => ?_)
      refine lv_aload_n S.1 S.2.1 dX8_give_111 rfl (lv_at hl 2 rfl) ?_
      refine gfX8_8 S iX8 hK hP (h12 0 (by decide)) k3 dX8_give_112 ?_
      refine lv_iload S.1 S.2.1 dX8_give_115 (lv_at hl 0 rfl) ?_
      refine lv_iload_n S.1 S.2.1 dX8_give_117 rfl (lv_at hl 4 rfl) ?_
      obtain ⟨h_52, hf⟩ := hf
      refine nm_o hf (fun I_53 eI_53 hf => ?_)
      refine R_iast S.1 S.2.1 hK hP hD hS (h12 2 (by decide)) (IAm2 E) h_52 dX8_give_118 eI_53 (fun H locs hP hD hS => ?_)
      refine lv_iconst (v := 0) S.1 S.2.1 dX8_give_119 rfl ?_
      refine lv_istore (lv' := [(5, .int (0 : Int32)), (4, .int v_51), (3, .int v_48), (0, .ref (eA E 12 0)), (1, .int x1_34), (2, .int x2_35)]) S.1 S.2.1 dX8_give_120 hl (by decide) rfl (fun ls hl => ?_)
      obtain ⟨n_72, hf⟩ := hf
      have L122 : ∀ (x2_54 : Int32), ∀ (x4_55 : Int32), ∀ (K156 : MI → MJ → Prop), (∀ (I_64 : MI) (J_65 : MJ), K156 I_64 J_65 → Wj p l e (rmX8_give) s m args below meth c Qm E ps 6 I_64 J_65 156 [(0, .ref (eA E 12 0)), (1, .int x1_34), (3, .int v_48)] []) → ∀ (n : Nat) (x5_56 : Int32) (I_57 : MI) (J_58 : MJ), f_X8_give_L122 x2_54 x4_55 K156 n x5_56 I_57 J_58 → Wj p l e (rmX8_give) s m args below meth c Qm E ps 6 I_57 J_58 122 [(0, .ref (eA E 12 0)), (1, .int x1_34), (2, .int x2_54), (3, .int v_48), (4, .int x4_55), (5, .int x5_56)] [] := by
        intro x2_54 x4_55 K156 kx156 n
        induction n with
        | zero => intro x5_56 I_57 J_58 hf; exact hf.elim
        | succ n ih122 =>
          intro x5_56 I_57 J_58 hf
          have hf : f_X8_give_B122 x2_54 x4_55 K156 (f_X8_give_L122 x2_54 x4_55 K156 n) x5_56 I_57 J_58 := hf
          intro H locs ls hP hD hS hl
          unfold f_X8_give_B122 at hf
          refine lv_iload S.1 S.2.1 dX8_give_122 (lv_at hl 5 rfl) ?_
          refine lv_iload_n S.1 S.2.1 dX8_give_124 rfl (lv_at hl 2 rfl) ?_
          refine lv_icmp_ge (tgt := 156) S.1 S.2.1 dX8_give_125 (by decide) (fun h_59 => ?_) (fun h_59 => ?_)
          · have hf := hf.1 h_59
            exact kx156 _ _ hf _ _ _ hP hD hS (lv_sub hl [0, 1, 3] rfl)
          · have hf := hf.2 h_59
            refine lv_aload_n S.1 S.2.1 dX8_give_128 rfl (lv_at hl 0 rfl) ?_
            refine gfX8_8 S iX8 hK hP (h12 0 (by decide)) k3 dX8_give_129 ?_
            refine lv_iload S.1 S.2.1 dX8_give_132 (lv_at hl 4 rfl) ?_
            refine lv_iconst (v := 1) S.1 S.2.1 dX8_give_134 rfl ?_
            refine lv_iadd S.1 S.2.1 dX8_give_135 ?_
            refine lv_iload S.1 S.2.1 dX8_give_136 (lv_at hl 5 rfl) ?_
            refine lv_iadd S.1 S.2.1 dX8_give_138 ?_
            refine lv_aload_n S.1 S.2.1 dX8_give_139 rfl (lv_at hl 0 rfl) ?_
            refine gfX8_1 S iX8 hK hP (h12 0 (by decide)) k4 dX8_give_140 ?_
            refine lv_iload S.1 S.2.1 dX8_give_143 (lv_at hl 5 rfl) ?_
            obtain ⟨h_60, hf⟩ := hf
            refine R_iald S.1 S.2.1 hK hP (h12 1 (by decide)) (IAm1 E) h_60 dX8_give_145 ?_
            refine lv_bipush (v := 97) S.1 S.2.1 dX8_give_146 rfl ?_
            refine lv_isub S.1 S.2.1 dX8_give_148 ?_
            obtain ⟨h_61, hf⟩ := hf
            refine nm_o hf (fun I_62 eI_62 hf => ?_)
            refine R_iast S.1 S.2.1 hK hP hD hS (h12 2 (by decide)) (IAm2 E) h_61 dX8_give_149 eI_62 (fun H locs hP hD hS => ?_)
            refine nm_o hf (fun x5_63 ex5_63 hf => ?_)
            refine lv_iinc (v := x5_63) (lv' := [(5, .int x5_63), (0, .ref (eA E 12 0)), (1, .int x1_34), (2, .int x2_54), (3, .int v_48), (4, .int x4_55)]) S.1 S.2.1 dX8_give_150 hl (k := 5) rfl (by rw [ex5_63]; rfl) (by decide) rfl (fun ls hl => ?_)
            refine lv_goto (tgt := 122) S.1 S.2.1 dX8_give_153 (by decide) ?_
            exact ih122 _ _ _ hf _ _ _ hP hD hS (lv_sub hl [1, 2, 3, 4, 5, 0] rfl)
      refine L122 _ _ _ (fun I_64 J_65 hf H locs ls hP hD hS hl => ?_)  n_72 _ _ _ hf _ _ _ hP hD hS (lv_sub hl [3, 4, 5, 2, 1, 0] rfl)
      refine lv_aload_n S.1 S.2.1 dX8_give_156 rfl (lv_at hl 0 rfl) ?_
      refine gfX8_8 S iX8 hK hP (h12 0 (by decide)) k3 dX8_give_157 ?_
      refine lv_iload_n S.1 S.2.1 dX8_give_160 rfl (lv_at hl 1 rfl) ?_
      refine R_cSi (As := [.int x1_34]) (rest := [.ref (eA E 12 2)]) S (c_X8_playerAt   hf) gX8_give_X8_playerAt rfl yk_X8_playerAt ⟨⟨Nat.le_of_ble_eq_true rfl, Nat.le_of_ble_eq_true rfl⟩, rfl, rfl⟩ hK hP hD hS hX hA rfl hl.1 rfl (Nat.le_of_ble_eq_true rfl) ⟨Nat.zero_le _, Nat.zero_le _⟩ dX8_give_161 (fun v_68 I_66 J_67 H locs hf hP hD hS => ?_)
      refine lv_iconst (v := 1) S.1 S.2.1 dX8_give_164 rfl ?_
      refine lv_iadd S.1 S.2.1 dX8_give_165 ?_
      refine lv_dup2_11 S.1 S.2.1 dX8_give_166 rfl rfl ?_
      obtain ⟨h_69, hf⟩ := hf
      refine R_iald S.1 S.2.1 hK hP (h12 2 (by decide)) (IAm2 E) h_69 dX8_give_167 ?_
      refine lv_iconst (v := 1) S.1 S.2.1 dX8_give_168 rfl ?_
      refine lv_iadd S.1 S.2.1 dX8_give_169 ?_
      obtain ⟨h_70, hf⟩ := hf
      refine nm_o hf (fun I_71 eI_71 hf => ?_)
      refine R_iast S.1 S.2.1 hK hP hD hS (h12 2 (by decide)) (IAm2 E) h_70 dX8_give_170 eI_71 (fun H locs hP hD hS => ?_)
      refine lv_iload_n S.1 S.2.1 dX8_give_171 rfl (lv_at hl 2 rfl) ?_
      exact hret hf rfl hP hD hS dX8_give_172
    · have hf := hf.2 h_42
      refine lv_iconst (v := 0) S.1 S.2.1 dX8_give_86 rfl ?_
      exact hret hf rfl hP hD hS dX8_give_87
  have jn74 : ∀ (x1_30 : Int32) (x2_31 : Int32) (I_32 : MI) (J_33 : MJ), f_X8_give_J74 Q x1_30 x2_31 I_32 J_33 → Wj p l e (rmX8_give) s m args below meth c Qm E ps 6 I_32 J_33 74 [(0, .ref (eA E 12 0)), (1, .int x1_30), (2, .int x2_31)] [.ref (eA E 12 0)] := by
    intro x1_30 x2_31 I_32 J_33 hf H locs ls hP hD hS hl
    unfold f_X8_give_J74 at hf
    refine lv_iconst (v := 1) S.1 S.2.1 dX8_give_74 rfl ?_
    refine lv_goto (tgt := 79) S.1 S.2.1 dX8_give_75 (by decide) ?_
    exact jn79 _ _ _ _ _ hf _ _ _ hP hD hS (lv_sub hl [0, 1, 2] rfl)
  have jn44 : ∀ (x1_17 : Int32) (x2_18 : Int32) (s_19 : Int32) (I_20 : MI) (J_21 : MJ), f_X8_give_J44 Q x1_17 x2_18 s_19 I_20 J_21 → Wj p l e (rmX8_give) s m args below meth c Qm E ps 6 I_20 J_21 44 [(0, .ref (eA E 12 0)), (1, .int x1_17), (2, .int x2_18)] [.int s_19, .ref (eA E 12 0)] := by
    intro x1_17 x2_18 s_19 I_20 J_21 hf H locs ls hP hD hS hl
    unfold f_X8_give_J44 at hf
    refine lv_iconst (v := 2) S.1 S.2.1 dX8_give_44 rfl ?_
    refine R_cVi (As := [.int s_19, .int (2 : Int32)]) (rest := []) S (c_X8_fails (h12 := h12)  hf) gX8_give_X8_fails rfl yk_X8_fails ⟨⟨Nat.le_of_ble_eq_true rfl, Nat.le_of_ble_eq_true rfl⟩, rfl, rfl⟩ hK hP hD hS hX hA (h12 0 (by decide)) (cF_m E _ _ 0) rfl rfl hl.1 rfl (Nat.le_of_ble_eq_true rfl) ⟨Nat.zero_le _, Nat.zero_le _⟩ dX8_give_45 (fun v_24 I_22 J_23 H locs hf hP hD hS => ?_)
    refine lv_if_ne (tgt := 86) S.1 S.2.1 dX8_give_48 (by decide) (fun h_25 => ?_) (fun h_25 => ?_)
    · have hf := hf.2 h_25
      refine lv_iconst (v := 0) S.1 S.2.1 dX8_give_86 rfl ?_
      exact hret hf rfl hP hD hS dX8_give_87
    · have hf := hf.1 h_25
      refine lv_aload_n S.1 S.2.1 dX8_give_51 rfl (lv_at hl 0 rfl) ?_
      refine lv_aload_n S.1 S.2.1 dX8_give_52 rfl (lv_at hl 0 rfl) ?_
      refine lv_iload_n S.1 S.2.1 dX8_give_53 rfl (lv_at hl 1 rfl) ?_
      refine lv_iconst (v := 1) S.1 S.2.1 dX8_give_54 rfl ?_
      refine R_cVi (As := [.int x1_17, .int (1 : Int32)]) (rest := [.ref (eA E 12 0)]) S (c_X8_ofPlayer (h12 := h12)  hf) gX8_give_X8_ofPlayer rfl yk_X8_ofPlayer ⟨⟨Nat.le_of_ble_eq_true rfl, Nat.le_of_ble_eq_true rfl⟩, rfl, rfl⟩ hK hP hD hS hX hA (h12 0 (by decide)) (cF_m E _ _ 0) rfl rfl hl.1 rfl (Nat.le_of_ble_eq_true rfl) ⟨Nat.zero_le _, Nat.zero_le _⟩ dX8_give_55 (fun v_28 I_26 J_27 H locs hf hP hD hS => ?_)
      refine lv_bipush (v := 8) S.1 S.2.1 dX8_give_58 rfl ?_
      refine lv_icmp_eq (tgt := 74) S.1 S.2.1 dX8_give_60 (by decide) (fun h_29 => ?_) (fun h_29 => ?_)
      · have hf := hf.1 h_29
        exact jn74 _ _ _ _ hf _ _ _ hP hD hS (lv_sub hl [0, 1, 2] rfl)
      · have hf := hf.2 h_29
        refine lv_aload_n S.1 S.2.1 dX8_give_63 rfl (lv_at hl 0 rfl) ?_
        refine gfX8_8 S iX8 hK hP (h12 0 (by decide)) k3 dX8_give_64 ?_
        refine lv_bipush (v := 6) S.1 S.2.1 dX8_give_67 rfl ?_
        obtain ⟨h_73, hf⟩ := hf
        refine R_iald S.1 S.2.1 hK hP (h12 2 (by decide)) (IAm2 E) h_73 dX8_give_69 ?_
        refine lv_iconst (v := 1) S.1 S.2.1 dX8_give_70 rfl ?_
        refine lv_icmp_ne (tgt := 78) S.1 S.2.1 dX8_give_71 (by decide) (fun h_74 => ?_) (fun h_74 => ?_)
        · have hf := hf.2 h_74
          refine lv_iconst (v := 0) S.1 S.2.1 dX8_give_78 rfl ?_
          exact jn79 _ _ _ _ _ hf _ _ _ hP hD hS (lv_sub hl [0, 1, 2] rfl)
        · have hf := hf.1 h_74
          exact jn74 _ _ _ _ hf _ _ _ hP hD hS (lv_sub hl [0, 1, 2] rfl)
  have jn39 : ∀ (x1_13 : Int32) (x2_14 : Int32) (I_15 : MI) (J_16 : MJ), f_X8_give_J39 Q x1_13 x2_14 I_15 J_16 → Wj p l e (rmX8_give) s m args below meth c Qm E ps 6 I_15 J_16 39 [(0, .ref (eA E 12 0)), (1, .int x1_13), (2, .int x2_14)] [.ref (eA E 12 0)] := by
    intro x1_13 x2_14 I_15 J_16 hf H locs ls hP hD hS hl
    unfold f_X8_give_J39 at hf
    refine lv_iconst (v := 1) S.1 S.2.1 dX8_give_39 rfl ?_
    refine lv_goto (tgt := 44) S.1 S.2.1 dX8_give_40 (by decide) ?_
    exact jn44 _ _ _ _ _ hf _ _ _ hP hD hS (lv_sub hl [0, 1, 2] rfl)
  intro H locs ls hP hD hS hl
  unfold f_X8_give at hf
  refine lv_aload_n S.1 S.2.1 dX8_give_0 rfl (lv_at hl 0 rfl) ?_
  refine lv_iconst (v := 0) S.1 S.2.1 dX8_give_1 rfl ?_
  refine nm_o hf (fun I_1 eI_1 hf => ?_)
  refine pfX8_0 S iX8 hK hP hD hS (h12 0 (by decide)) k1 dX8_give_2 eI_1 (fun H locs hP hD hS => ?_)
  refine lv_aload_n S.1 S.2.1 dX8_give_5 rfl (lv_at hl 0 rfl) ?_
  refine lv_iload_n S.1 S.2.1 dX8_give_6 rfl (lv_at hl 1 rfl) ?_
  refine R_cVi (As := [.int x1]) (rest := []) S (c_X8_noPlayer (h12 := h12)  hf) gX8_give_X8_noPlayer rfl yk_X8_noPlayer ⟨⟨Nat.le_of_ble_eq_true rfl, Nat.le_of_ble_eq_true rfl⟩, rfl, rfl⟩ hK hP hD hS hX hA (h12 0 (by decide)) (cF_m E _ _ 0) rfl rfl hl.1 rfl (Nat.le_of_ble_eq_true rfl) ⟨Nat.zero_le _, Nat.zero_le _⟩ dX8_give_7 (fun v_4 I_2 J_3 H locs hf hP hD hS => ?_)
  refine lv_if_ne (tgt := 86) S.1 S.2.1 dX8_give_10 (by decide) (fun h_5 => ?_) (fun h_5 => ?_)
  · have hf := hf.2 h_5
    refine lv_iconst (v := 0) S.1 S.2.1 dX8_give_86 rfl ?_
    exact hret hf rfl hP hD hS dX8_give_87
  · have hf := hf.1 h_5
    refine lv_aload_n S.1 S.2.1 dX8_give_13 rfl (lv_at hl 0 rfl) ?_
    refine lv_iload_n S.1 S.2.1 dX8_give_14 rfl (lv_at hl 2 rfl) ?_
    refine lv_iconst (v := 1) S.1 S.2.1 dX8_give_15 rfl ?_
    refine lv_bipush (v := 8) S.1 S.2.1 dX8_give_16 rfl ?_
    refine lv_aload_n S.1 S.2.1 dX8_give_18 rfl (lv_at hl 0 rfl) ?_
    refine gfX8_2 S iX8 hK hP (h12 0 (by decide)) k2 dX8_give_19 ?_
    refine R_cSi (As := [.int (8 : Int32), .int (I_2 12 0 2)]) (rest := [.int (1 : Int32), .int x2, .ref (eA E 12 0)]) S (c_X8_min   hf) gX8_give_X8_min rfl yk_X8_min ⟨⟨Nat.le_of_ble_eq_true rfl, Nat.le_of_ble_eq_true rfl⟩, rfl, rfl⟩ hK hP hD hS hX hA rfl hl.1 rfl (Nat.le_of_ble_eq_true rfl) ⟨Nat.zero_le _, Nat.zero_le _⟩ dX8_give_22 (fun v_8 I_6 J_7 H locs hf hP hD hS => ?_)
    refine R_cSi (As := [.int x2, .int (1 : Int32), .int v_8]) (rest := [.ref (eA E 12 0)]) S (c_X8_in   hf) gX8_give_X8_in rfl yk_X8_in ⟨⟨Nat.le_of_ble_eq_true rfl, Nat.le_of_ble_eq_true rfl⟩, rfl, rfl⟩ hK hP hD hS hX hA rfl hl.1 rfl (Nat.le_of_ble_eq_true rfl) ⟨Nat.zero_le _, Nat.zero_le _⟩ dX8_give_25 (fun v_11 I_9 J_10 H locs hf hP hD hS => ?_)
    refine lv_if_eq (tgt := 39) S.1 S.2.1 dX8_give_28 (by decide) (fun h_12 => ?_) (fun h_12 => ?_)
    · have hf := hf.1 h_12
      exact jn39 _ _ _ _ hf _ _ _ hP hD hS (lv_sub hl [0, 1, 2] rfl)
    · have hf := hf.2 h_12
      refine lv_aload_n S.1 S.2.1 dX8_give_31 rfl (lv_at hl 0 rfl) ?_
      refine lv_iload_n S.1 S.2.1 dX8_give_32 rfl (lv_at hl 2 rfl) ?_
      refine R_cVi (As := [.int x2]) (rest := [.ref (eA E 12 0)]) S (c_X8_areLetters (h12 := h12)  hf) gX8_give_X8_areLetters rfl yk_X8_areLetters ⟨⟨Nat.le_of_ble_eq_true rfl, Nat.le_of_ble_eq_true rfl⟩, rfl, rfl⟩ hK hP hD hS hX hA (h12 0 (by decide)) (cF_m E _ _ 0) rfl rfl hl.1 rfl (Nat.le_of_ble_eq_true rfl) ⟨Nat.zero_le _, Nat.zero_le _⟩ dX8_give_33 (fun v_77 I_75 J_76 H locs hf hP hD hS => ?_)
      refine lv_if_ne (tgt := 43) S.1 S.2.1 dX8_give_36 (by decide) (fun h_78 => ?_) (fun h_78 => ?_)
      · have hf := hf.2 h_78
        refine lv_iconst (v := 0) S.1 S.2.1 dX8_give_43 rfl ?_
        exact jn44 _ _ _ _ _ hf _ _ _ hP hD hS (lv_sub hl [0, 1, 2] rfl)
      · have hf := hf.1 h_78
        exact jn39 _ _ _ _ hf _ _ _ hP hD hS (lv_sub hl [0, 1, 2] rfl)
abbrev rmX8_undo : Room := { frames := 1, cells := 0, slots := 0, locals := 23 }
theorem yk_X8_undo : yOk yX8_undo RX8 0 := by unfold yOk; decide +kernel
def f_X8_undo (I : MI) (J : MJ) (Q : Int32 → MI → MJ → Prop) : Prop :=
  ∀ I_1 : MI, I_1 = sI I 12 0 0 (0 : Int32) → (((I_1 12 0 12) = (0 : Int32) → Q (-1 : Int32) I_1 J) ∧ (¬ (I_1 12 0 12) = (0 : Int32) → ∀ I_3 : MI, I_3 = sI I_1 12 0 12 ((I_1 12 0 12) - (1 : Int32)) → (vp_in (I_3 12 0 12) 8 ∧ f_X8_copy 12 (6 + (I_3 12 0 12).toNatClampNeg) 1802 12 2 1802 (1802 : Int32) I_3 J (fun (I_5 : MI) (J_6 : MJ) => Q (I_5 12 0 12) I_5 J_6))))
set_option maxRecDepth 100000 in
set_option maxHeartbeats 4000000 in
theorem c_X8_undo {l : Launch} {E : EV} {ps : List (Nat × Nat)} (h12 : ∀ r, r < 17 → (12, r) ∈ ps) (hR : (eT E)[3]? = some (eM E, .array .int)) {I : MI} {J : MJ} {Q : Int32 → MI → MJ → Prop} (hf : f_X8_undo I J Q) : KI l yX8_undo wsX8_undo rmX8_undo E ps [.ref (eA E 12 0)] I J Q := by
  refine K_ofI (cc := cX8_undo) (maxL := 1) (ty := .int) (by decide +kernel) rfl (Nat.le_of_ble_eq_true rfl) (fun p e s m args below meth c Qm hret S hK hX => ?_)
  have hA : ∀ q, s.heap.size ≤ q → AA E ps s.heap.size q := fun _ h => Or.inr h
  have k1 := S.2.2.2.2 (.fieldLink RX8 49 "RhymeRoofsModel" "thrown" "I") (by decide +kernel)
  have iX8 : ∀ w ∈ wsX80, w ∈ wsX8_undo := fun _ h => List.mem_cons_of_mem _ (List.mem_append_right _ h)
  have k2 := S.2.2.2.2 (.fieldLink RX8 363 "RhymeRoofsModel" "undoDepth" "I") (by decide +kernel)
  have k3 := S.2.2.2.2 (.fieldLink RX8 28 "RhymeRoofsModel" "history" "[[I") (by decide +kernel)
  have k4 := S.2.2.2.2 (.fieldLink RX8 17 "RhymeRoofsModel" "data" "[I") (by decide +kernel)
  intro H locs ls hP hD hS hl
  unfold f_X8_undo at hf
  refine lv_aload_n S.1 S.2.1 dX8_undo_0 rfl (lv_at hl 0 rfl) ?_
  refine lv_iconst (v := 0) S.1 S.2.1 dX8_undo_1 rfl ?_
  refine nm_o hf (fun I_1 eI_1 hf => ?_)
  refine pfX8_0 S iX8 hK hP hD hS (h12 0 (by decide)) k1 dX8_undo_2 eI_1 (fun H locs hP hD hS => ?_)
  refine lv_aload_n S.1 S.2.1 dX8_undo_5 rfl (lv_at hl 0 rfl) ?_
  refine gfX8_12 S iX8 hK hP (h12 0 (by decide)) k2 dX8_undo_6 ?_
  refine lv_if_ne (tgt := 14) S.1 S.2.1 dX8_undo_9 (by decide) (fun h_2 => ?_) (fun h_2 => ?_)
  · have hf := hf.2 h_2
    refine lv_aload_n S.1 S.2.1 dX8_undo_14 rfl (lv_at hl 0 rfl) ?_
    refine lv_dup S.1 S.2.1 dX8_undo_15 rfl ?_
    refine gfX8_12 S iX8 hK hP (h12 0 (by decide)) k2 dX8_undo_16 ?_
    refine lv_iconst (v := 1) S.1 S.2.1 dX8_undo_19 rfl ?_
    refine lv_isub S.1 S.2.1 dX8_undo_20 ?_
    refine nm_o hf (fun I_3 eI_3 hf => ?_)
    refine pfX8_12 S iX8 hK hP hD hS (h12 0 (by decide)) k2 dX8_undo_21 eI_3 (fun H locs hP hD hS => ?_)
    refine lv_aload_n S.1 S.2.1 dX8_undo_24 rfl (lv_at hl 0 rfl) ?_
    refine gfX8_11 S iX8 hK hP (h12 0 (by decide)) k3 dX8_undo_25 ?_
    refine lv_aload_n S.1 S.2.1 dX8_undo_28 rfl (lv_at hl 0 rfl) ?_
    refine gfX8_12 S iX8 hK hP (h12 0 (by decide)) k2 dX8_undo_29 ?_
    obtain ⟨h_4, hf⟩ := hf
    refine R_aldM S.1 S.2.1 hK hR hP (h12 5 (by decide)) h_4 dX8_undo_32 ?_
    refine lv_aload_n S.1 S.2.1 dX8_undo_33 rfl (lv_at hl 0 rfl) ?_
    refine gfX8_8 S iX8 hK hP (h12 0 (by decide)) k4 dX8_undo_34 ?_
    refine lv_sipush (v := 1802) S.1 S.2.1 dX8_undo_37 rfl ?_
    refine R_cSv (As := [.ref (eA E 12 (6 + (I_3 12 0 12).toNatClampNeg)), .ref (eA E 12 2), .int (1802 : Int32)]) (rest := []) S (c_X8_copy  (hm1 := (h12 _ (hst h_4))) (hc1 := (IAmh E (hs8 h_4))) (hm2 := (h12 2 (by decide))) (hc2 := (IAm2 E)) hf) gX8_undo_X8_copy rfl yk_X8_copy ⟨⟨Nat.le_of_ble_eq_true rfl, Nat.le_of_ble_eq_true rfl⟩, rfl, rfl⟩ hK hP hD hS hX hA rfl hl.1 rfl (Nat.le_of_ble_eq_true rfl) ⟨Nat.zero_le _, Nat.zero_le _⟩ dX8_undo_40 (fun I_5 J_6 H locs hf hP hD hS => ?_)
    refine lv_aload_n S.1 S.2.1 dX8_undo_43 rfl (lv_at hl 0 rfl) ?_
    refine gfX8_12 S iX8 hK hP (h12 0 (by decide)) k2 dX8_undo_44 ?_
    exact hret hf rfl hP hD hS dX8_undo_47
  · have hf := hf.1 h_2
    refine lv_iconst (v := (-1)) S.1 S.2.1 dX8_undo_12 rfl ?_
    exact hret hf rfl hP hD hS dX8_undo_13
