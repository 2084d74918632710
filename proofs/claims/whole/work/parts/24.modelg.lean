abbrev rmX8_readText : Room := { frames := 2, cells := 0, slots := 0, locals := 42 }
theorem yk_X8_readText : yOk yX8_readText RX8 1 := by unfold yOk; decide +kernel
def f_X8_readText_B62 (K84 : Int32 → MI → MJ → Prop) (rec62 : Int32 → MI → MJ → Prop) (x3_24 : Int32) (I_25 : MI) (J_26 : MJ) : Prop :=
  f_X8_byteAt ((I_25 12 0 4) + x3_24) I_25 J_26 (fun (v_29 : Int32) (I_27 : MI) (J_28 : MJ) => f_X8_isLetter v_29 I_27 J_28 (fun (v_32 : Int32) (I_30 : MI) (J_31 : MJ) => ((v_32 = (0 : Int32) → K84 x3_24 I_30 J_31) ∧ (¬ v_32 = (0 : Int32) → ∀ x3_34 : Int32, x3_34 = x3_24 + (1 : Int32) → rec62 x3_34 I_30 J_31))))
def f_X8_readText_L62 (K84 : Int32 → MI → MJ → Prop) : Nat → Int32 → MI → MJ → Prop
  | 0, _, _, _ => False
  | n + 1, x3_24, I_25, J_26 => f_X8_readText_B62 K84 (f_X8_readText_L62 K84 n) x3_24 I_25 J_26
def f_X8_readText_B130 (x3_58 : Int32) (x5_59 : Int32) (K168 : MI → MJ → Prop) (rec130 : Int32 → MI → MJ → Prop) (x6_60 : Int32) (I_61 : MI) (J_62 : MJ) : Prop :=
  ((x3_58 ≤ x6_60 → K168 I_61 J_62) ∧ (¬ x3_58 ≤ x6_60 → f_X8_byteAt ((I_61 12 0 4) + x6_60) I_61 J_62 (fun (v_66 : Int32) (I_64 : MI) (J_65 : MJ) => (vp_in ((x5_59 + (1 : Int32)) + x6_60) 1802 ∧ ∀ I_68 : MI, I_68 = sI I_64 12 3 ((x5_59 + (1 : Int32)) + x6_60).toNatClampNeg (v_66 - (97 : Int32)) → ∀ x6_69 : Int32, x6_69 = x6_60 + (1 : Int32) → rec130 x6_69 I_68 J_65))))
def f_X8_readText_L130 (x3_58 : Int32) (x5_59 : Int32) (K168 : MI → MJ → Prop) : Nat → Int32 → MI → MJ → Prop
  | 0, _, _, _ => False
  | n + 1, x6_60, I_61, J_62 => f_X8_readText_B130 x3_58 x5_59 K168 (f_X8_readText_L130 x3_58 x5_59 K168 n) x6_60 I_61 J_62
def f_X8_readText_J111 (Q : MI → MJ → Prop) (x1_47 : Int32) (x3_48 : Int32) (x5_49 : Int32) (I_50 : MI) (J_51 : MJ) : Prop :=
  f_X8_isGood I_50 J_51 (fun (v_54 : Int32) (I_52 : MI) (J_53 : MJ) => ((v_54 = (0 : Int32) → Q I_52 J_53) ∧ (¬ v_54 = (0 : Int32) → (vp_in x5_49 1802 ∧ ∀ I_57 : MI, I_57 = sI I_52 12 3 x5_49.toNatClampNeg x3_48 → ∃ n : Nat, f_X8_readText_L130 x3_48 x5_49 (fun (I_70 : MI) (J_71 : MJ) => f_X8_playerAt x1_47 I_70 J_71 (fun (v_74 : Int32) (I_72 : MI) (J_73 : MJ) => (vp_in (v_74 + (1 : Int32)) 1802 ∧ (vp_in (v_74 + (1 : Int32)) 1802 ∧ ∀ I_77 : MI, I_77 = sI I_72 12 3 (v_74 + (1 : Int32)).toNatClampNeg ((I_72 12 3 (v_74 + (1 : Int32)).toNatClampNeg) + (1 : Int32)) → ∀ I_78 : MI, I_78 = sI I_77 12 0 4 ((I_77 12 0 4) + x3_48) → Q I_78 J_73)))) n (0 : Int32) I_57 J_53))))
def f_X8_readText_J97 (Q : MI → MJ → Prop) (x1_39 : Int32) (x2_40 : Int32) (x3_41 : Int32) (x4_42 : Int32) (x5_43 : Int32) (I_44 : MI) (J_45 : MJ) : Prop :=
  ((x4_42 = (8 : Int32) → f_X8_report (-5 : Int32) x2_40 I_44 J_45 (fun (I_80 : MI) (J_81 : MJ) => f_X8_readText_J111 Q x1_39 x3_41 x5_43 I_80 J_81)) ∧ (¬ x4_42 = (8 : Int32) → f_X8_readText_J111 Q x1_39 x3_41 x5_43 I_44 J_45))
def f_X8_readText (x1 : Int32) (I : MI) (J : MJ) (Q : MI → MJ → Prop) : Prop :=
  f_X8_isGood I J (fun (v_3 : Int32) (I_1 : MI) (J_2 : MJ) => ((v_3 = (0 : Int32) → Q I_1 J_2) ∧ (¬ v_3 = (0 : Int32) → f_X8_ahead I_1 J_2 (fun (v_7 : Int32) (I_5 : MI) (J_6 : MJ) => f_X8_isLetter v_7 I_5 J_6 (fun (v_10 : Int32) (I_8 : MI) (J_9 : MJ) => ((v_10 = (0 : Int32) → f_X8_report (-2 : Int32) (I_8 12 0 4) I_8 J_9 (fun (I_85 : MI) (J_86 : MJ) => Q I_85 J_86)) ∧ (¬ v_10 = (0 : Int32) → ∀ x2_12 : Int32, x2_12 = I_8 12 0 4 → f_X8_playerAt x1 I_8 J_9 (fun (v_15 : Int32) (I_13 : MI) (J_14 : MJ) => (vp_in (v_15 + (1 : Int32)) 1802 ∧ ∀ x4_17 : Int32, x4_17 = I_13 12 3 (v_15 + (1 : Int32)).toNatClampNeg → f_X8_min x4_17 (7 : Int32) I_13 J_14 (fun (v_20 : Int32) (I_18 : MI) (J_19 : MJ) => f_X8_wordAt x1 v_20 I_18 J_19 (fun (v_23 : Int32) (I_21 : MI) (J_22 : MJ) => ∃ n : Nat, f_X8_readText_L62 (fun (x3_35 : Int32) (I_36 : MI) (J_37 : MJ) => ((x3_35 ≤ (8 : Int32) → f_X8_readText_J97 Q x1 x2_12 x3_35 x4_17 v_23 I_36 J_37) ∧ (¬ x3_35 ≤ (8 : Int32) → f_X8_report (-3 : Int32) x2_12 I_36 J_37 (fun (I_82 : MI) (J_83 : MJ) => f_X8_readText_J97 Q x1 x2_12 x3_35 x4_17 v_23 I_82 J_83)))) n (0 : Int32) I_21 J_22)))))))))))
set_option maxRecDepth 100000 in
set_option maxHeartbeats 4000000 in
theorem c_X8_readText {l : Launch} {E : EV} {ps : List (Nat × Nat)} (h12 : ∀ r, r < 17 → (12, r) ∈ ps) {x1 : Int32} {I : MI} {J : MJ} {Q : MI → MJ → Prop} (hf : f_X8_readText x1 I J Q) : KV l yX8_readText wsX8_readText rmX8_readText E ps [.ref (eA E 12 0), .int x1] I J Q := by
  refine K_ofV (cc := cX8_readText) (maxL := 7) (by decide +kernel) rfl (Nat.le_of_ble_eq_true rfl) (fun p e s m args below meth c Qm hret S hK hX => ?_)
  have hA : ∀ q, s.heap.size ≤ q → AA E ps s.heap.size q := fun _ h => Or.inr h
  have k1 := S.2.2.2.2 (.fieldLink RX8 65 "RhymeRoofsModel" "position" "I") (by decide +kernel)
  have iX8 : ∀ w ∈ wsX80, w ∈ wsX8_readText := fun _ h => List.mem_cons_of_mem _ (List.mem_append_right _ h)
  have k2 := S.2.2.2.2 (.fieldLink RX8 20 "RhymeRoofsModel" "draft" "[I") (by decide +kernel)
  have jn111 : ∀ (x1_47 : Int32) (x3_48 : Int32) (x5_49 : Int32) (I_50 : MI) (J_51 : MJ), f_X8_readText_J111 Q x1_47 x3_48 x5_49 I_50 J_51 → Wj p l e (rmX8_readText) s m args below meth c Qm E ps 7 I_50 J_51 111 [(0, .ref (eA E 12 0)), (1, .int x1_47), (3, .int x3_48), (5, .int x5_49)] [] := by
    intro x1_47 x3_48 x5_49 I_50 J_51 hf H locs ls hP hD hS hl
    unfold f_X8_readText_J111 at hf
    refine lv_aload_n S.1 S.2.1 dX8_readText_111 rfl (lv_at hl 0 rfl) ?_
    refine R_cVi (As := []) (rest := []) S (c_X8_isGood (h12 := h12)  hf) gX8_readText_X8_isGood rfl yk_X8_isGood ⟨⟨Nat.le_of_ble_eq_true rfl, Nat.le_of_ble_eq_true rfl⟩, rfl, rfl⟩ hK hP hD hS hX hA (h12 0 (by decide)) (cF_m E _ _ 0) rfl rfl hl.1 rfl (Nat.le_of_ble_eq_true rfl) ⟨Nat.zero_le _, Nat.zero_le _⟩ dX8_readText_112 (fun v_54 I_52 J_53 H locs hf hP hD hS => ?_)
    refine lv_if_ne (tgt := 119) S.1 S.2.1 dX8_readText_115 (by decide) (fun h_55 => ?_) (fun h_55 => ?_)
    · have hf := hf.2 h_55
      refine lv_aload_n S.1 S.2.1 dX8_readText_119 rfl (lv_at hl 0 rfl) ?_
      refine gfX8_9 S iX8 hK hP (h12 0 (by decide)) k2 dX8_readText_120 ?_
      refine lv_iload S.1 S.2.1 dX8_readText_123 (lv_at hl 3 rfl) ?_
      refine lv_iload_n S.1 S.2.1 dX8_readText_125 rfl (lv_at hl 2 rfl) ?_
      obtain ⟨h_56, hf⟩ := hf
      refine nm_o hf (fun I_57 eI_57 hf => ?_)
      refine R_iast S.1 S.2.1 hK hP hD hS (h12 3 (by decide)) (IAm3 E) h_56 dX8_readText_126 eI_57 (fun H locs hP hD hS => ?_)
      refine lv_iconst (v := 0) S.1 S.2.1 dX8_readText_127 rfl ?_
      refine lv_istore (lv' := [(6, .int (0 : Int32)), (0, .ref (eA E 12 0)), (1, .int x1_47), (3, .int x3_48), (5, .int x5_49)]) S.1 S.2.1 dX8_readText_128 hl (by decide) rfl (fun ls hl => ?_)
      obtain ⟨n_79, hf⟩ := hf
      have L130 : ∀ (x3_58 : Int32), ∀ (x5_59 : Int32), ∀ (K168 : MI → MJ → Prop), (∀ (I_70 : MI) (J_71 : MJ), K168 I_70 J_71 → Wj p l e (rmX8_readText) s m args below meth c Qm E ps 7 I_70 J_71 168 [(0, .ref (eA E 12 0)), (1, .int x1_47), (3, .int x3_58)] []) → ∀ (n : Nat) (x6_60 : Int32) (I_61 : MI) (J_62 : MJ), f_X8_readText_L130 x3_58 x5_59 K168 n x6_60 I_61 J_62 → Wj p l e (rmX8_readText) s m args below meth c Qm E ps 7 I_61 J_62 130 [(0, .ref (eA E 12 0)), (1, .int x1_47), (3, .int x3_58), (5, .int x5_59), (6, .int x6_60)] [] := by
        intro x3_58 x5_59 K168 kx168 n
        induction n with
        | zero => intro x6_60 I_61 J_62 hf; exact hf.elim
        | succ n ih130 =>
          intro x6_60 I_61 J_62 hf
          have hf : f_X8_readText_B130 x3_58 x5_59 K168 (f_X8_readText_L130 x3_58 x5_59 K168 n) x6_60 I_61 J_62 := hf
          intro H locs ls hP hD hS hl
          unfold f_X8_readText_B130 at hf
          refine lv_iload S.1 S.2.1 dX8_readText_130 (lv_at hl 4 rfl) ?_
          refine lv_iload_n S.1 S.2.1 dX8_readText_132 rfl (lv_at hl 2 rfl) ?_
          refine lv_icmp_ge (tgt := 168) S.1 S.2.1 dX8_readText_133 (by decide) (fun h_63 => ?_) (fun h_63 => ?_)
          · have hf := hf.1 h_63
            exact kx168 _ _ hf _ _ _ hP hD hS (lv_sub hl [0, 1, 2] rfl)
          · have hf := hf.2 h_63
            refine lv_aload_n S.1 S.2.1 dX8_readText_136 rfl (lv_at hl 0 rfl) ?_
            refine gfX8_9 S iX8 hK hP (h12 0 (by decide)) k2 dX8_readText_137 ?_
            refine lv_iload S.1 S.2.1 dX8_readText_140 (lv_at hl 3 rfl) ?_
            refine lv_iconst (v := 1) S.1 S.2.1 dX8_readText_142 rfl ?_
            refine lv_iadd S.1 S.2.1 dX8_readText_143 ?_
            refine lv_iload S.1 S.2.1 dX8_readText_144 (lv_at hl 4 rfl) ?_
            refine lv_iadd S.1 S.2.1 dX8_readText_146 ?_
            refine lv_aload_n S.1 S.2.1 dX8_readText_147 rfl (lv_at hl 0 rfl) ?_
            refine lv_aload_n S.1 S.2.1 dX8_readText_148 rfl (lv_at hl 0 rfl) ?_
            refine gfX8_4 S iX8 hK hP (h12 0 (by decide)) k1 dX8_readText_149 ?_
            refine lv_iload S.1 S.2.1 dX8_readText_152 (lv_at hl 4 rfl) ?_
            refine lv_iadd S.1 S.2.1 dX8_readText_154 ?_
            refine R_cVi (As := [.int ((I_61 12 0 4) + x6_60)]) (rest := [.int ((x5_59 + (1 : Int32)) + x6_60), .ref (eA E 12 3)]) S (c_X8_byteAt (h12 := h12)  hf) gX8_readText_X8_byteAt rfl yk_X8_byteAt ⟨⟨Nat.le_of_ble_eq_true rfl, Nat.le_of_ble_eq_true rfl⟩, rfl, rfl⟩ hK hP hD hS hX hA (h12 0 (by decide)) (cF_m E _ _ 0) rfl rfl hl.1 rfl (Nat.le_of_ble_eq_true rfl) ⟨Nat.zero_le _, Nat.zero_le _⟩ dX8_readText_155 (fun v_66 I_64 J_65 H locs hf hP hD hS => ?_)
            refine lv_bipush (v := 97) S.1 S.2.1 dX8_readText_158 rfl ?_
            refine lv_isub S.1 S.2.1 dX8_readText_160 ?_
            obtain ⟨h_67, hf⟩ := hf
            refine nm_o hf (fun I_68 eI_68 hf => ?_)
            refine R_iast S.1 S.2.1 hK hP hD hS (h12 3 (by decide)) (IAm3 E) h_67 dX8_readText_161 eI_68 (fun H locs hP hD hS => ?_)
            refine nm_o hf (fun x6_69 ex6_69 hf => ?_)
            refine lv_iinc (v := x6_69) (lv' := [(6, .int x6_69), (0, .ref (eA E 12 0)), (1, .int x1_47), (3, .int x3_58), (5, .int x5_59)]) S.1 S.2.1 dX8_readText_162 hl (k := 4) rfl (by rw [ex6_69]; rfl) (by decide) rfl (fun ls hl => ?_)
            refine lv_goto (tgt := 130) S.1 S.2.1 dX8_readText_165 (by decide) ?_
            exact ih130 _ _ _ hf _ _ _ hP hD hS (lv_sub hl [1, 2, 3, 4, 0] rfl)
      refine L130 _ _ _ (fun I_70 J_71 hf H locs ls hP hD hS hl => ?_)  n_79 _ _ _ hf _ _ _ hP hD hS (lv_sub hl [1, 2, 3, 4, 0] rfl)
      refine lv_aload_n S.1 S.2.1 dX8_readText_168 rfl (lv_at hl 0 rfl) ?_
      refine gfX8_9 S iX8 hK hP (h12 0 (by decide)) k2 dX8_readText_169 ?_
      refine lv_iload_n S.1 S.2.1 dX8_readText_172 rfl (lv_at hl 1 rfl) ?_
      refine R_cSi (As := [.int x1_47]) (rest := [.ref (eA E 12 3)]) S (c_X8_playerAt   hf) gX8_readText_X8_playerAt rfl yk_X8_playerAt ⟨⟨Nat.le_of_ble_eq_true rfl, Nat.le_of_ble_eq_true rfl⟩, rfl, rfl⟩ hK hP hD hS hX hA rfl hl.1 rfl (Nat.le_of_ble_eq_true rfl) ⟨Nat.zero_le _, Nat.zero_le _⟩ dX8_readText_173 (fun v_74 I_72 J_73 H locs hf hP hD hS => ?_)
      refine lv_iconst (v := 1) S.1 S.2.1 dX8_readText_176 rfl ?_
      refine lv_iadd S.1 S.2.1 dX8_readText_177 ?_
      refine lv_dup2_11 S.1 S.2.1 dX8_readText_178 rfl rfl ?_
      obtain ⟨h_75, hf⟩ := hf
      refine R_iald S.1 S.2.1 hK hP (h12 3 (by decide)) (IAm3 E) h_75 dX8_readText_179 ?_
      refine lv_iconst (v := 1) S.1 S.2.1 dX8_readText_180 rfl ?_
      refine lv_iadd S.1 S.2.1 dX8_readText_181 ?_
      obtain ⟨h_76, hf⟩ := hf
      refine nm_o hf (fun I_77 eI_77 hf => ?_)
      refine R_iast S.1 S.2.1 hK hP hD hS (h12 3 (by decide)) (IAm3 E) h_76 dX8_readText_182 eI_77 (fun H locs hP hD hS => ?_)
      refine lv_aload_n S.1 S.2.1 dX8_readText_183 rfl (lv_at hl 0 rfl) ?_
      refine lv_dup S.1 S.2.1 dX8_readText_184 rfl ?_
      refine gfX8_4 S iX8 hK hP (h12 0 (by decide)) k1 dX8_readText_185 ?_
      refine lv_iload_n S.1 S.2.1 dX8_readText_188 rfl (lv_at hl 2 rfl) ?_
      refine lv_iadd S.1 S.2.1 dX8_readText_189 ?_
      refine nm_o hf (fun I_78 eI_78 hf => ?_)
      refine pfX8_4 S iX8 hK hP hD hS (h12 0 (by decide)) k1 dX8_readText_190 eI_78 (fun H locs hP hD hS => ?_)
      exact hret hf hP hD hS dX8_readText_193
    · have hf := hf.1 h_55
      exact hret hf hP hD hS dX8_readText_118
  have jn97 : ∀ (x1_39 : Int32) (x2_40 : Int32) (x3_41 : Int32) (x4_42 : Int32) (x5_43 : Int32) (I_44 : MI) (J_45 : MJ), f_X8_readText_J97 Q x1_39 x2_40 x3_41 x4_42 x5_43 I_44 J_45 → Wj p l e (rmX8_readText) s m args below meth c Qm E ps 7 I_44 J_45 97 [(0, .ref (eA E 12 0)), (1, .int x1_39), (2, .int x2_40), (3, .int x3_41), (4, .int x4_42), (5, .int x5_43)] [] := by
    intro x1_39 x2_40 x3_41 x4_42 x5_43 I_44 J_45 hf H locs ls hP hD hS hl
    unfold f_X8_readText_J97 at hf
    refine lv_iload S.1 S.2.1 dX8_readText_97 (lv_at hl 4 rfl) ?_
    refine lv_bipush (v := 8) S.1 S.2.1 dX8_readText_99 rfl ?_
    refine lv_icmp_ne (tgt := 111) S.1 S.2.1 dX8_readText_101 (by decide) (fun h_46 => ?_) (fun h_46 => ?_)
    · have hf := hf.2 h_46
      exact jn111 _ _ _ _ _ hf _ _ _ hP hD hS (lv_sub hl [0, 1, 3, 5] rfl)
    · have hf := hf.1 h_46
      refine lv_aload_n S.1 S.2.1 dX8_readText_104 rfl (lv_at hl 0 rfl) ?_
      refine lv_bipush (v := (-5)) S.1 S.2.1 dX8_readText_105 rfl ?_
      refine lv_iload_n S.1 S.2.1 dX8_readText_107 rfl (lv_at hl 2 rfl) ?_
      refine R_cVv (As := [.int (-5 : Int32), .int x2_40]) (rest := []) S (c_X8_report (h12 := h12)  hf) gX8_readText_X8_report rfl yk_X8_report ⟨⟨Nat.le_of_ble_eq_true rfl, Nat.le_of_ble_eq_true rfl⟩, rfl, rfl⟩ hK hP hD hS hX hA (h12 0 (by decide)) (cF_m E _ _ 0) rfl rfl hl.1 rfl (Nat.le_of_ble_eq_true rfl) ⟨Nat.zero_le _, Nat.zero_le _⟩ dX8_readText_108 (fun I_80 J_81 H locs hf hP hD hS => ?_)
      exact jn111 _ _ _ _ _ hf _ _ _ hP hD hS (lv_sub hl [0, 1, 3, 5] rfl)
  intro H locs ls hP hD hS hl
  unfold f_X8_readText at hf
  refine lv_aload_n S.1 S.2.1 dX8_readText_0 rfl (lv_at hl 0 rfl) ?_
  refine R_cVi (As := []) (rest := []) S (c_X8_isGood (h12 := h12)  hf) gX8_readText_X8_isGood rfl yk_X8_isGood ⟨⟨Nat.le_of_ble_eq_true rfl, Nat.le_of_ble_eq_true rfl⟩, rfl, rfl⟩ hK hP hD hS hX hA (h12 0 (by decide)) (cF_m E _ _ 0) rfl rfl hl.1 rfl (Nat.le_of_ble_eq_true rfl) ⟨Nat.zero_le _, Nat.zero_le _⟩ dX8_readText_1 (fun v_3 I_1 J_2 H locs hf hP hD hS => ?_)
  refine lv_if_ne (tgt := 8) S.1 S.2.1 dX8_readText_4 (by decide) (fun h_4 => ?_) (fun h_4 => ?_)
  · have hf := hf.2 h_4
    refine lv_aload_n S.1 S.2.1 dX8_readText_8 rfl (lv_at hl 0 rfl) ?_
    refine R_cVi (As := []) (rest := []) S (c_X8_ahead (h12 := h12)  hf) gX8_readText_X8_ahead rfl yk_X8_ahead ⟨⟨Nat.le_of_ble_eq_true rfl, Nat.le_of_ble_eq_true rfl⟩, rfl, rfl⟩ hK hP hD hS hX hA (h12 0 (by decide)) (cF_m E _ _ 0) rfl rfl hl.1 rfl (Nat.le_of_ble_eq_true rfl) ⟨Nat.zero_le _, Nat.zero_le _⟩ dX8_readText_9 (fun v_7 I_5 J_6 H locs hf hP hD hS => ?_)
    refine R_cSi (As := [.int v_7]) (rest := []) S (c_X8_isLetter   hf) gX8_readText_X8_isLetter rfl yk_X8_isLetter ⟨⟨Nat.le_of_ble_eq_true rfl, Nat.le_of_ble_eq_true rfl⟩, rfl, rfl⟩ hK hP hD hS hX hA rfl hl.1 rfl (Nat.le_of_ble_eq_true rfl) ⟨Nat.zero_le _, Nat.zero_le _⟩ dX8_readText_12 (fun v_10 I_8 J_9 H locs hf hP hD hS => ?_)
    refine lv_if_ne (tgt := 29) S.1 S.2.1 dX8_readText_15 (by decide) (fun h_11 => ?_) (fun h_11 => ?_)
    · have hf := hf.2 h_11
      refine lv_aload_n S.1 S.2.1 dX8_readText_29 rfl (lv_at hl 0 rfl) ?_
      refine gfX8_4 S iX8 hK hP (h12 0 (by decide)) k1 dX8_readText_30 ?_
      refine lv_topi (fun x2_12 ex2_12 => ?_)
      have hf := hf x2_12 ex2_12
      refine lv_istore_n (lv' := [(2, .int x2_12), (0, .ref (eA E 12 0)), (1, .int x1)]) S.1 S.2.1 dX8_readText_33 rfl hl (by decide) rfl (fun ls hl => ?_)
      refine lv_iconst (v := 0) S.1 S.2.1 dX8_readText_34 rfl ?_
      refine lv_istore_n (lv' := [(3, .int (0 : Int32)), (2, .int x2_12), (0, .ref (eA E 12 0)), (1, .int x1)]) S.1 S.2.1 dX8_readText_35 rfl hl (by decide) rfl (fun ls hl => ?_)
      refine lv_aload_n S.1 S.2.1 dX8_readText_36 rfl (lv_at hl 2 rfl) ?_
      refine gfX8_9 S iX8 hK hP (h12 0 (by decide)) k2 dX8_readText_37 ?_
      refine lv_iload_n S.1 S.2.1 dX8_readText_40 rfl (lv_at hl 3 rfl) ?_
      refine R_cSi (As := [.int x1]) (rest := [.ref (eA E 12 3)]) S (c_X8_playerAt   hf) gX8_readText_X8_playerAt rfl yk_X8_playerAt ⟨⟨Nat.le_of_ble_eq_true rfl, Nat.le_of_ble_eq_true rfl⟩, rfl, rfl⟩ hK hP hD hS hX hA rfl hl.1 rfl (Nat.le_of_ble_eq_true rfl) ⟨Nat.zero_le _, Nat.zero_le _⟩ dX8_readText_41 (fun v_15 I_13 J_14 H locs hf hP hD hS => ?_)
      refine lv_iconst (v := 1) S.1 S.2.1 dX8_readText_44 rfl ?_
      refine lv_iadd S.1 S.2.1 dX8_readText_45 ?_
      obtain ⟨h_16, hf⟩ := hf
      refine R_iald S.1 S.2.1 hK hP (h12 3 (by decide)) (IAm3 E) h_16 dX8_readText_46 ?_
      refine lv_topi (fun x4_17 ex4_17 => ?_)
      have hf := hf x4_17 ex4_17
      refine lv_istore (lv' := [(4, .int x4_17), (3, .int (0 : Int32)), (2, .int x2_12), (0, .ref (eA E 12 0)), (1, .int x1)]) S.1 S.2.1 dX8_readText_47 hl (by decide) rfl (fun ls hl => ?_)
      refine lv_iload_n S.1 S.2.1 dX8_readText_49 rfl (lv_at hl 4 rfl) ?_
      refine lv_iload S.1 S.2.1 dX8_readText_50 (lv_at hl 0 rfl) ?_
      refine lv_bipush (v := 7) S.1 S.2.1 dX8_readText_52 rfl ?_
      refine R_cSi (As := [.int x4_17, .int (7 : Int32)]) (rest := [.int x1]) S (c_X8_min   hf) gX8_readText_X8_min rfl yk_X8_min ⟨⟨Nat.le_of_ble_eq_true rfl, Nat.le_of_ble_eq_true rfl⟩, rfl, rfl⟩ hK hP hD hS hX hA rfl hl.1 rfl (Nat.le_of_ble_eq_true rfl) ⟨Nat.zero_le _, Nat.zero_le _⟩ dX8_readText_54 (fun v_20 I_18 J_19 H locs hf hP hD hS => ?_)
      refine R_cSi (As := [.int x1, .int v_20]) (rest := []) S (c_X8_wordAt   hf) gX8_readText_X8_wordAt rfl yk_X8_wordAt ⟨⟨Nat.le_of_ble_eq_true rfl, Nat.le_of_ble_eq_true rfl⟩, rfl, rfl⟩ hK hP hD hS hX hA rfl hl.1 rfl (Nat.le_of_ble_eq_true rfl) ⟨Nat.zero_le _, Nat.zero_le _⟩ dX8_readText_57 (fun v_23 I_21 J_22 H locs hf hP hD hS => ?_)
      refine lv_istore (lv' := [(5, .int v_23), (4, .int x4_17), (3, .int (0 : Int32)), (2, .int x2_12), (0, .ref (eA E 12 0)), (1, .int x1)]) S.1 S.2.1 dX8_readText_60 hl (by decide) rfl (fun ls hl => ?_)
      obtain ⟨n_84, hf⟩ := hf
      have L62 : ∀ (K84 : Int32 → MI → MJ → Prop), (∀ (x3_35 : Int32) (I_36 : MI) (J_37 : MJ), K84 x3_35 I_36 J_37 → Wj p l e (rmX8_readText) s m args below meth c Qm E ps 7 I_36 J_37 84 [(0, .ref (eA E 12 0)), (1, .int x1), (2, .int x2_12), (3, .int x3_35), (4, .int x4_17), (5, .int v_23)] []) → ∀ (n : Nat) (x3_24 : Int32) (I_25 : MI) (J_26 : MJ), f_X8_readText_L62 K84 n x3_24 I_25 J_26 → Wj p l e (rmX8_readText) s m args below meth c Qm E ps 7 I_25 J_26 62 [(0, .ref (eA E 12 0)), (1, .int x1), (2, .int x2_12), (3, .int x3_24), (4, .int x4_17), (5, .int v_23)] [] := by
        intro K84 kx84 n
        induction n with
        | zero => intro x3_24 I_25 J_26 hf; exact hf.elim
        | succ n ih62 =>
          intro x3_24 I_25 J_26 hf
          have hf : f_X8_readText_B62 K84 (f_X8_readText_L62 K84 n) x3_24 I_25 J_26 := hf
          intro H locs ls hP hD hS hl
          unfold f_X8_readText_B62 at hf
          refine lv_aload_n S.1 S.2.1 dX8_readText_62 rfl (lv_at hl 0 rfl) ?_
          refine lv_aload_n S.1 S.2.1 dX8_readText_63 rfl (lv_at hl 0 rfl) ?_
          refine gfX8_4 S iX8 hK hP (h12 0 (by decide)) k1 dX8_readText_64 ?_
          refine lv_iload_n S.1 S.2.1 dX8_readText_67 rfl (lv_at hl 3 rfl) ?_
          refine lv_iadd S.1 S.2.1 dX8_readText_68 ?_
          refine R_cVi (As := [.int ((I_25 12 0 4) + x3_24)]) (rest := []) S (c_X8_byteAt (h12 := h12)  hf) gX8_readText_X8_byteAt rfl yk_X8_byteAt ⟨⟨Nat.le_of_ble_eq_true rfl, Nat.le_of_ble_eq_true rfl⟩, rfl, rfl⟩ hK hP hD hS hX hA (h12 0 (by decide)) (cF_m E _ _ 0) rfl rfl hl.1 rfl (Nat.le_of_ble_eq_true rfl) ⟨Nat.zero_le _, Nat.zero_le _⟩ dX8_readText_69 (fun v_29 I_27 J_28 H locs hf hP hD hS => ?_)
          refine R_cSi (As := [.int v_29]) (rest := []) S (c_X8_isLetter   hf) gX8_readText_X8_isLetter rfl yk_X8_isLetter ⟨⟨Nat.le_of_ble_eq_true rfl, Nat.le_of_ble_eq_true rfl⟩, rfl, rfl⟩ hK hP hD hS hX hA rfl hl.1 rfl (Nat.le_of_ble_eq_true rfl) ⟨Nat.zero_le _, Nat.zero_le _⟩ dX8_readText_72 (fun v_32 I_30 J_31 H locs hf hP hD hS => ?_)
          refine lv_if_eq (tgt := 84) S.1 S.2.1 dX8_readText_75 (by decide) (fun h_33 => ?_) (fun h_33 => ?_)
          · have hf := hf.1 h_33
            exact kx84 _ _ _ hf _ _ _ hP hD hS (lv_sub hl [0, 1, 2, 3, 4, 5] rfl)
          · have hf := hf.2 h_33
            refine nm_o hf (fun x3_34 ex3_34 hf => ?_)
            refine lv_iinc (v := x3_34) (lv' := [(3, .int x3_34), (0, .ref (eA E 12 0)), (1, .int x1), (2, .int x2_12), (4, .int x4_17), (5, .int v_23)]) S.1 S.2.1 dX8_readText_78 hl (k := 3) rfl (by rw [ex3_34]; rfl) (by decide) rfl (fun ls hl => ?_)
            refine lv_goto (tgt := 62) S.1 S.2.1 dX8_readText_81 (by decide) ?_
            exact ih62 _ _ _ hf _ _ _ hP hD hS (lv_sub hl [1, 2, 3, 0, 4, 5] rfl)
      refine L62 _ (fun x3_35 I_36 J_37 hf H locs ls hP hD hS hl => ?_)  n_84 _ _ _ hf _ _ _ hP hD hS (lv_sub hl [4, 5, 3, 2, 1, 0] rfl)
      refine lv_iload_n S.1 S.2.1 dX8_readText_84 rfl (lv_at hl 3 rfl) ?_
      refine lv_bipush (v := 8) S.1 S.2.1 dX8_readText_85 rfl ?_
      refine lv_icmp_le (tgt := 97) S.1 S.2.1 dX8_readText_87 (by decide) (fun h_38 => ?_) (fun h_38 => ?_)
      · have hf := hf.1 h_38
        exact jn97 _ _ _ _ _ _ _ hf _ _ _ hP hD hS (lv_sub hl [0, 1, 2, 3, 4, 5] rfl)
      · have hf := hf.2 h_38
        refine lv_aload_n S.1 S.2.1 dX8_readText_90 rfl (lv_at hl 0 rfl) ?_
        refine lv_bipush (v := (-3)) S.1 S.2.1 dX8_readText_91 rfl ?_
        refine lv_iload_n S.1 S.2.1 dX8_readText_93 rfl (lv_at hl 2 rfl) ?_
        refine R_cVv (As := [.int (-3 : Int32), .int x2_12]) (rest := []) S (c_X8_report (h12 := h12)  hf) gX8_readText_X8_report rfl yk_X8_report ⟨⟨Nat.le_of_ble_eq_true rfl, Nat.le_of_ble_eq_true rfl⟩, rfl, rfl⟩ hK hP hD hS hX hA (h12 0 (by decide)) (cF_m E _ _ 0) rfl rfl hl.1 rfl (Nat.le_of_ble_eq_true rfl) ⟨Nat.zero_le _, Nat.zero_le _⟩ dX8_readText_94 (fun I_82 J_83 H locs hf hP hD hS => ?_)
        exact jn97 _ _ _ _ _ _ _ hf _ _ _ hP hD hS (lv_sub hl [0, 1, 2, 3, 4, 5] rfl)
    · have hf := hf.1 h_11
      refine lv_aload_n S.1 S.2.1 dX8_readText_18 rfl (lv_at hl 0 rfl) ?_
      refine lv_bipush (v := (-2)) S.1 S.2.1 dX8_readText_19 rfl ?_
      refine lv_aload_n S.1 S.2.1 dX8_readText_21 rfl (lv_at hl 0 rfl) ?_
      refine gfX8_4 S iX8 hK hP (h12 0 (by decide)) k1 dX8_readText_22 ?_
      refine R_cVv (As := [.int (-2 : Int32), .int (I_8 12 0 4)]) (rest := []) S (c_X8_report (h12 := h12)  hf) gX8_readText_X8_report rfl yk_X8_report ⟨⟨Nat.le_of_ble_eq_true rfl, Nat.le_of_ble_eq_true rfl⟩, rfl, rfl⟩ hK hP hD hS hX hA (h12 0 (by decide)) (cF_m E _ _ 0) rfl rfl hl.1 rfl (Nat.le_of_ble_eq_true rfl) ⟨Nat.zero_le _, Nat.zero_le _⟩ dX8_readText_25 (fun I_85 J_86 H locs hf hP hD hS => ?_)
      exact hret hf hP hD hS dX8_readText_28
  · have hf := hf.1 h_4
    exact hret hf hP hD hS dX8_readText_7
abbrev rmX8_readHand : Room := { frames := 3, cells := 0, slots := 0, locals := 68 }
theorem yk_X8_readHand : yOk yX8_readHand RX8 0 := by unfold yOk; decide +kernel
def f_X8_readHand_B19 (x1_6 : Int32) (K41 : MI → MJ → Prop) (rec19 : MI → MJ → Prop) (I_7 : MI) (J_8 : MJ) : Prop :=
  f_X8_readText x1_6 I_7 J_8 (fun (I_9 : MI) (J_10 : MJ) => f_X8_isGood I_9 J_10 (fun (v_13 : Int32) (I_11 : MI) (J_12 : MJ) => ((v_13 = (0 : Int32) → K41 I_11 J_12) ∧ (¬ v_13 = (0 : Int32) → f_X8_ahead I_11 J_12 (fun (v_17 : Int32) (I_15 : MI) (J_16 : MJ) => f_X8_isLetter v_17 I_15 J_16 (fun (v_20 : Int32) (I_18 : MI) (J_19 : MJ) => ((v_20 = (0 : Int32) → K41 I_18 J_19) ∧ (¬ v_20 = (0 : Int32) → rec19 I_18 J_19))))))))
def f_X8_readHand_L19 (x1_6 : Int32) (K41 : MI → MJ → Prop) : Nat → MI → MJ → Prop
  | 0, _, _ => False
  | n + 1, I_7, J_8 => f_X8_readHand_B19 x1_6 K41 (f_X8_readHand_L19 x1_6 K41 n) I_7 J_8
def f_X8_readHand (I : MI) (J : MJ) (Q : MI → MJ → Prop) : Prop :=
  (vp_in (1 : Int32) 1802 ∧ f_X8_number (0 : Int32) ((I 12 3 (1 : Int32).toNatClampNeg) - (1 : Int32)) I J (fun (v_4 : Int32) (I_2 : MI) (J_3 : MJ) => ∀ I_5 : MI, I_5 = sI I_2 12 0 16 (1 : Int32) → ∃ n : Nat, f_X8_readHand_L19 v_4 (fun (I_22 : MI) (J_23 : MJ) => Q I_22 J_23) n  I_5 J_3))
set_option maxRecDepth 100000 in
set_option maxHeartbeats 4000000 in
theorem c_X8_readHand {l : Launch} {E : EV} {ps : List (Nat × Nat)} (h12 : ∀ r, r < 17 → (12, r) ∈ ps) {I : MI} {J : MJ} {Q : MI → MJ → Prop} (hf : f_X8_readHand I J Q) : KV l yX8_readHand wsX8_readHand rmX8_readHand E ps [.ref (eA E 12 0)] I J Q := by
  refine K_ofV (cc := cX8_readHand) (maxL := 2) (by decide +kernel) rfl (Nat.le_of_ble_eq_true rfl) (fun p e s m args below meth c Qm hret S hK hX => ?_)
  have hA : ∀ q, s.heap.size ≤ q → AA E ps s.heap.size q := fun _ h => Or.inr h
  have k1 := S.2.2.2.2 (.fieldLink RX8 20 "RhymeRoofsModel" "draft" "[I") (by decide +kernel)
  have iX8 : ∀ w ∈ wsX80, w ∈ wsX8_readHand := fun _ h => List.mem_cons_of_mem _ (List.mem_append_right _ h)
  have k2 := S.2.2.2.2 (.fieldLink RX8 164 "RhymeRoofsModel" "hasHand" "Z") (by decide +kernel)
  intro H locs ls hP hD hS hl
  unfold f_X8_readHand at hf
  refine lv_aload_n S.1 S.2.1 dX8_readHand_0 rfl (lv_at hl 0 rfl) ?_
  refine lv_iconst (v := 0) S.1 S.2.1 dX8_readHand_1 rfl ?_
  refine lv_aload_n S.1 S.2.1 dX8_readHand_2 rfl (lv_at hl 0 rfl) ?_
  refine gfX8_9 S iX8 hK hP (h12 0 (by decide)) k1 dX8_readHand_3 ?_
  refine lv_iconst (v := 1) S.1 S.2.1 dX8_readHand_6 rfl ?_
  obtain ⟨h_1, hf⟩ := hf
  refine R_iald S.1 S.2.1 hK hP (h12 3 (by decide)) (IAm3 E) h_1 dX8_readHand_7 ?_
  refine lv_iconst (v := 1) S.1 S.2.1 dX8_readHand_8 rfl ?_
  refine lv_isub S.1 S.2.1 dX8_readHand_9 ?_
  refine R_cVi (As := [.int (0 : Int32), .int ((I 12 3 (1 : Int32).toNatClampNeg) - (1 : Int32))]) (rest := []) S (c_X8_number (h12 := h12)  hf) gX8_readHand_X8_number rfl yk_X8_number ⟨⟨Nat.le_of_ble_eq_true rfl, Nat.le_of_ble_eq_true rfl⟩, rfl, rfl⟩ hK hP hD hS hX hA (h12 0 (by decide)) (cF_m E _ _ 0) rfl rfl hl.1 rfl (Nat.le_of_ble_eq_true rfl) ⟨Nat.zero_le _, Nat.zero_le _⟩ dX8_readHand_10 (fun v_4 I_2 J_3 H locs hf hP hD hS => ?_)
  refine lv_istore_n (lv' := [(1, .int v_4), (0, .ref (eA E 12 0))]) S.1 S.2.1 dX8_readHand_13 rfl hl (by decide) rfl (fun ls hl => ?_)
  refine lv_aload_n S.1 S.2.1 dX8_readHand_14 rfl (lv_at hl 1 rfl) ?_
  refine lv_iconst (v := 1) S.1 S.2.1 dX8_readHand_15 rfl ?_
  refine nm_o hf (fun I_5 eI_5 hf => ?_)
  refine pfX8_16 S iX8 hK hP hD hS (h12 0 (by decide)) k2 bo1 dX8_readHand_16 eI_5 (fun H locs hP hD hS => ?_)
  obtain ⟨n_24, hf⟩ := hf
  have L19 : ∀ (x1_6 : Int32), ∀ (K41 : MI → MJ → Prop), (∀ (I_22 : MI) (J_23 : MJ), K41 I_22 J_23 → Wj p l e (rmX8_readHand) s m args below meth c Qm E ps 2 I_22 J_23 41 [] []) → ∀ (n : Nat) (I_7 : MI) (J_8 : MJ), f_X8_readHand_L19 x1_6 K41 n I_7 J_8 → Wj p l e (rmX8_readHand) s m args below meth c Qm E ps 2 I_7 J_8 19 [(0, .ref (eA E 12 0)), (1, .int x1_6)] [] := by
    intro x1_6 K41 kx41 n
    induction n with
    | zero => intro I_7 J_8 hf; exact hf.elim
    | succ n ih19 =>
      intro I_7 J_8 hf
      have hf : f_X8_readHand_B19 x1_6 K41 (f_X8_readHand_L19 x1_6 K41 n) I_7 J_8 := hf
      intro H locs ls hP hD hS hl
      unfold f_X8_readHand_B19 at hf
      refine lv_aload_n S.1 S.2.1 dX8_readHand_19 rfl (lv_at hl 0 rfl) ?_
      refine lv_iload_n S.1 S.2.1 dX8_readHand_20 rfl (lv_at hl 1 rfl) ?_
      refine R_cVv (As := [.int x1_6]) (rest := []) S (c_X8_readText (h12 := h12)  hf) gX8_readHand_X8_readText rfl yk_X8_readText ⟨⟨Nat.le_of_ble_eq_true rfl, Nat.le_of_ble_eq_true rfl⟩, rfl, rfl⟩ hK hP hD hS hX hA (h12 0 (by decide)) (cF_m E _ _ 0) rfl rfl hl.1 rfl (Nat.le_of_ble_eq_true rfl) ⟨Nat.zero_le _, Nat.zero_le _⟩ dX8_readHand_21 (fun I_9 J_10 H locs hf hP hD hS => ?_)
      refine lv_aload_n S.1 S.2.1 dX8_readHand_24 rfl (lv_at hl 0 rfl) ?_
      refine R_cVi (As := []) (rest := []) S (c_X8_isGood (h12 := h12)  hf) gX8_readHand_X8_isGood rfl yk_X8_isGood ⟨⟨Nat.le_of_ble_eq_true rfl, Nat.le_of_ble_eq_true rfl⟩, rfl, rfl⟩ hK hP hD hS hX hA (h12 0 (by decide)) (cF_m E _ _ 0) rfl rfl hl.1 rfl (Nat.le_of_ble_eq_true rfl) ⟨Nat.zero_le _, Nat.zero_le _⟩ dX8_readHand_25 (fun v_13 I_11 J_12 H locs hf hP hD hS => ?_)
      refine lv_if_eq (tgt := 41) S.1 S.2.1 dX8_readHand_28 (by decide) (fun h_14 => ?_) (fun h_14 => ?_)
      · have hf := hf.1 h_14
        exact kx41 _ _ hf _ _ _ hP hD hS (lv_sub hl [] rfl)
      · have hf := hf.2 h_14
        refine lv_aload_n S.1 S.2.1 dX8_readHand_31 rfl (lv_at hl 0 rfl) ?_
        refine R_cVi (As := []) (rest := []) S (c_X8_ahead (h12 := h12)  hf) gX8_readHand_X8_ahead rfl yk_X8_ahead ⟨⟨Nat.le_of_ble_eq_true rfl, Nat.le_of_ble_eq_true rfl⟩, rfl, rfl⟩ hK hP hD hS hX hA (h12 0 (by decide)) (cF_m E _ _ 0) rfl rfl hl.1 rfl (Nat.le_of_ble_eq_true rfl) ⟨Nat.zero_le _, Nat.zero_le _⟩ dX8_readHand_32 (fun v_17 I_15 J_16 H locs hf hP hD hS => ?_)
        refine R_cSi (As := [.int v_17]) (rest := []) S (c_X8_isLetter   hf) gX8_readHand_X8_isLetter rfl yk_X8_isLetter ⟨⟨Nat.le_of_ble_eq_true rfl, Nat.le_of_ble_eq_true rfl⟩, rfl, rfl⟩ hK hP hD hS hX hA rfl hl.1 rfl (Nat.le_of_ble_eq_true rfl) ⟨Nat.zero_le _, Nat.zero_le _⟩ dX8_readHand_35 (fun v_20 I_18 J_19 H locs hf hP hD hS => ?_)
        refine lv_if_ne (tgt := 19) S.1 S.2.1 dX8_readHand_38 (by decide) (fun h_21 => ?_) (fun h_21 => ?_)
        · have hf := hf.2 h_21
          exact ih19 _ _ hf _ _ _ hP hD hS (lv_sub hl [0, 1] rfl)
        · have hf := hf.1 h_21
          exact kx41 _ _ hf _ _ _ hP hD hS (lv_sub hl [] rfl)
  refine L19 _ _ (fun I_22 J_23 hf H locs ls hP hD hS hl => ?_)  n_24  _ _ hf _ _ _ hP hD hS (lv_sub hl [1, 0] rfl)
  exact hret hf hP hD hS dX8_readHand_41
