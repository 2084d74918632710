abbrev rmX8_rankOf : Room := { frames := 7, cells := 0, slots := 0, locals := 158 }
theorem yk_X8_rankOf : yOk yX8_rankOf RX8 2 := by unfold yOk; decide +kernel
def f_X8_rankOf_B35 (x1_5 : Int32) (x2_6 : Int32) (K155 : MI → MJ → Prop) (rec35 : Int32 → Int32 → MI → MJ → Prop) (x3_7 : Int32) (x4_8 : Int32) (I_9 : MI) (J_10 : MJ) : Prop :=
  (vp_in (9 : Int32) 1802 ∧ (((I_9 12 2 (9 : Int32).toNatClampNeg) ≤ x4_8 → K155 I_9 J_10) ∧ (¬ (I_9 12 2 (9 : Int32).toNatClampNeg) ≤ x4_8 → (vp_in ((602 : Int32) + x4_8) 1802 ∧ ∀ x5_14 : Int32, x5_14 = I_9 12 2 ((602 : Int32) + x4_8).toNatClampNeg → (((1 : Int32) < x5_14 → ∀ x3_16 : Int32, x3_16 = x3_7 + (-1 : Int32) → (vp_in (x3_16 - (1 : Int32)) 1200 ∧ (vp_in x3_16 1200 ∧ f_X8_operate x5_14 (J_10 12 14 (x3_16 - (1 : Int32)).toNatClampNeg) (J_10 12 14 x3_16.toNatClampNeg) I_9 J_10 (fun (v_21 : Int64) (I_19 : MI) (J_20 : MJ) => (vp_in (x3_16 - (1 : Int32)) 1200 ∧ ∀ J_23 : MJ, J_23 = sJ J_20 12 14 (x3_16 - (1 : Int32)).toNatClampNeg v_21 → ∀ x4_24 : Int32, x4_24 = x4_8 + (1 : Int32) → rec35 x3_16 x4_24 I_19 J_23))))) ∧ (¬ (1 : Int32) < x5_14 → ∀ x4_25 : Int32, x4_25 = x4_8 + (1 : Int32) → ((x5_14 = (0 : Int32) → (vp_in ((602 : Int32) + x4_25) 1802 ∧ (vp_in x3_7 1200 ∧ ∀ J_37 : MJ, J_37 = sJ J_10 12 14 x3_7.toNatClampNeg ((I_9 12 2 ((602 : Int32) + x4_25).toNatClampNeg).toInt64) → ∀ x3_38 : Int32, x3_38 = x3_7 + (1 : Int32) → ∀ x4_39 : Int32, x4_39 = x4_25 + (1 : Int32) → rec35 x3_38 x4_39 I_9 J_37))) ∧ (¬ x5_14 = (0 : Int32) → (vp_in ((602 : Int32) + x4_25) 1802 ∧ f_X8_fact (I_9 12 2 ((602 : Int32) + x4_25).toNatClampNeg) x1_5 x2_6 I_9 J_10 (fun (v_30 : Int32) (I_28 : MI) (J_29 : MJ) => (vp_in x3_7 1200 ∧ ∀ J_32 : MJ, J_32 = sJ J_29 12 14 x3_7.toNatClampNeg (v_30.toInt64) → ∀ x3_33 : Int32, x3_33 = x3_7 + (1 : Int32) → ∀ x4_34 : Int32, x4_34 = x4_25 + (1 : Int32) → rec35 x3_33 x4_34 I_28 J_32)))))))))))
def f_X8_rankOf_L35 (x1_5 : Int32) (x2_6 : Int32) (K155 : MI → MJ → Prop) : Nat → Int32 → Int32 → MI → MJ → Prop
  | 0, _, _, _, _ => False
  | n + 1, x3_7, x4_8, I_9, J_10 => f_X8_rankOf_B35 x1_5 x2_6 K155 (f_X8_rankOf_L35 x1_5 x2_6 K155 n) x3_7 x4_8 I_9 J_10
def f_X8_rankOf (x1 : Int32) (x2 : Int32) (I : MI) (J : MJ) (Q : Int32 → MI → MJ → Prop) : Prop :=
  (vp_in (8 : Int32) 1802 ∧ (((I 12 2 (8 : Int32).toNatClampNeg) = (0 : Int32) → (vp_in (5 : Int32) 1802 ∧ f_X8_pointsFor (I 12 2 (5 : Int32).toNatClampNeg) x1 x2 I J (fun (v_47 : Int32) (I_45 : MI) (J_46 : MJ) => Q v_47 I_45 J_46))) ∧ (¬ (I 12 2 (8 : Int32).toNatClampNeg) = (0 : Int32) → (vp_in (0 : Int32) 1200 ∧ ∀ J_4 : MJ, J_4 = sJ J 12 14 (0 : Int32).toNatClampNeg (0 : Int64) → ∃ n : Nat, f_X8_rankOf_L35 x1 x2 (fun (I_40 : MI) (J_41 : MJ) => (vp_in (0 : Int32) 1200 ∧ Q ((J_41 12 14 (0 : Int32).toNatClampNeg).toInt32) I_40 J_41)) n (0 : Int32) (0 : Int32) I J_4))))
set_option maxRecDepth 100000 in
set_option maxHeartbeats 4000000 in
theorem c_X8_rankOf {l : Launch} {E : EV} {ps : List (Nat × Nat)} (h12 : ∀ r, r < 17 → (12, r) ∈ ps) {x1 : Int32} {x2 : Int32} {I : MI} {J : MJ} {Q : Int32 → MI → MJ → Prop} (hf : f_X8_rankOf x1 x2 I J Q) : KI l yX8_rankOf wsX8_rankOf rmX8_rankOf E ps [.ref (eA E 12 0), .int x1, .int x2] I J Q := by
  refine K_ofI (cc := cX8_rankOf) (maxL := 6) (ty := .int) (by decide +kernel) rfl (Nat.le_of_ble_eq_true rfl) (fun p e s m args below meth c Qm hret S hK hX => ?_)
  have hA : ∀ q, s.heap.size ≤ q → AA E ps s.heap.size q := fun _ h => Or.inr h
  have k1 := S.2.2.2.2 (.fieldLink RX8 17 "RhymeRoofsModel" "data" "[I") (by decide +kernel)
  have iX8 : ∀ w ∈ wsX80, w ∈ wsX8_rankOf := fun _ h => List.mem_cons_of_mem _ (List.mem_append_right _ h)
  have k2 := S.2.2.2.2 (.fieldLink RX8 31 "RhymeRoofsModel" "stack" "[J") (by decide +kernel)
  intro H locs ls hP hD hS hl
  unfold f_X8_rankOf at hf
  refine lv_aload_n S.1 S.2.1 dX8_rankOf_0 rfl (lv_at hl 0 rfl) ?_
  refine gfX8_8 S iX8 hK hP (h12 0 (by decide)) k1 dX8_rankOf_1 ?_
  refine lv_bipush (v := 8) S.1 S.2.1 dX8_rankOf_4 rfl ?_
  obtain ⟨h_1, hf⟩ := hf
  refine R_iald S.1 S.2.1 hK hP (h12 2 (by decide)) (IAm2 E) h_1 dX8_rankOf_6 ?_
  refine lv_if_ne (tgt := 23) S.1 S.2.1 dX8_rankOf_7 (by decide) (fun h_2 => ?_) (fun h_2 => ?_)
  · have hf := hf.2 h_2
    refine lv_iconst (v := 0) S.1 S.2.1 dX8_rankOf_23 rfl ?_
    refine lv_istore_n (lv' := [(3, .int (0 : Int32)), (0, .ref (eA E 12 0)), (1, .int x1), (2, .int x2)]) S.1 S.2.1 dX8_rankOf_24 rfl hl (by decide) rfl (fun ls hl => ?_)
    refine lv_aload_n S.1 S.2.1 dX8_rankOf_25 rfl (lv_at hl 1 rfl) ?_
    refine gfX8_18 S iX8 hK hP (h12 0 (by decide)) k2 dX8_rankOf_26 ?_
    refine lv_iconst (v := 0) S.1 S.2.1 dX8_rankOf_29 rfl ?_
    refine lv_lconst (v := 0) S.1 S.2.1 dX8_rankOf_30 rfl ?_
    obtain ⟨h_3, hf⟩ := hf
    refine nm_o hf (fun J_4 eJ_4 hf => ?_)
    refine R_last S.1 S.2.1 hK hP hD hS (h12 14 (by decide)) (LAm14 E) h_3 dX8_rankOf_31 eJ_4 (fun H locs hP hD hS => ?_)
    refine lv_iconst (v := 0) S.1 S.2.1 dX8_rankOf_32 rfl ?_
    refine lv_istore (lv' := [(4, .int (0 : Int32)), (3, .int (0 : Int32)), (0, .ref (eA E 12 0)), (1, .int x1), (2, .int x2)]) S.1 S.2.1 dX8_rankOf_33 hl (by decide) rfl (fun ls hl => ?_)
    obtain ⟨n_43, hf⟩ := hf
    have L35 : ∀ (x1_5 : Int32), ∀ (x2_6 : Int32), ∀ (K155 : MI → MJ → Prop), (∀ (I_40 : MI) (J_41 : MJ), K155 I_40 J_41 → Wj p l e (rmX8_rankOf) s m args below meth c Qm E ps 6 I_40 J_41 155 [(0, .ref (eA E 12 0))] []) → ∀ (n : Nat) (x3_7 : Int32) (x4_8 : Int32) (I_9 : MI) (J_10 : MJ), f_X8_rankOf_L35 x1_5 x2_6 K155 n x3_7 x4_8 I_9 J_10 → Wj p l e (rmX8_rankOf) s m args below meth c Qm E ps 6 I_9 J_10 35 [(0, .ref (eA E 12 0)), (1, .int x1_5), (2, .int x2_6), (3, .int x3_7), (4, .int x4_8)] [] := by
      intro x1_5 x2_6 K155 kx155 n
      induction n with
      | zero => intro x3_7 x4_8 I_9 J_10 hf; exact hf.elim
      | succ n ih35 =>
        intro x3_7 x4_8 I_9 J_10 hf
        have hf : f_X8_rankOf_B35 x1_5 x2_6 K155 (f_X8_rankOf_L35 x1_5 x2_6 K155 n) x3_7 x4_8 I_9 J_10 := hf
        intro H locs ls hP hD hS hl
        unfold f_X8_rankOf_B35 at hf
        refine lv_iload S.1 S.2.1 dX8_rankOf_35 (lv_at hl 4 rfl) ?_
        refine lv_aload_n S.1 S.2.1 dX8_rankOf_37 rfl (lv_at hl 0 rfl) ?_
        refine gfX8_8 S iX8 hK hP (h12 0 (by decide)) k1 dX8_rankOf_38 ?_
        refine lv_bipush (v := 9) S.1 S.2.1 dX8_rankOf_41 rfl ?_
        obtain ⟨h_11, hf⟩ := hf
        refine R_iald S.1 S.2.1 hK hP (h12 2 (by decide)) (IAm2 E) h_11 dX8_rankOf_43 ?_
        refine lv_icmp_ge (tgt := 155) S.1 S.2.1 dX8_rankOf_44 (by decide) (fun h_12 => ?_) (fun h_12 => ?_)
        · have hf := hf.1 h_12
          exact kx155 _ _ hf _ _ _ hP hD hS (lv_sub hl [0] rfl)
        · have hf := hf.2 h_12
          refine lv_aload_n S.1 S.2.1 dX8_rankOf_47 rfl (lv_at hl 0 rfl) ?_
          refine gfX8_8 S iX8 hK hP (h12 0 (by decide)) k1 dX8_rankOf_48 ?_
          refine lv_sipush (v := 602) S.1 S.2.1 dX8_rankOf_51 rfl ?_
          refine lv_iload S.1 S.2.1 dX8_rankOf_54 (lv_at hl 4 rfl) ?_
          refine lv_iadd S.1 S.2.1 dX8_rankOf_56 ?_
          obtain ⟨h_13, hf⟩ := hf
          refine R_iald S.1 S.2.1 hK hP (h12 2 (by decide)) (IAm2 E) h_13 dX8_rankOf_57 ?_
          refine lv_topi (fun x5_14 ex5_14 => ?_)
          have hf := hf x5_14 ex5_14
          refine lv_istore (lv' := [(5, .int x5_14), (0, .ref (eA E 12 0)), (1, .int x1_5), (2, .int x2_6), (3, .int x3_7), (4, .int x4_8)]) S.1 S.2.1 dX8_rankOf_58 hl (by decide) rfl (fun ls hl => ?_)
          refine lv_iload S.1 S.2.1 dX8_rankOf_60 (lv_at hl 0 rfl) ?_
          refine lv_iconst (v := 1) S.1 S.2.1 dX8_rankOf_62 rfl ?_
          refine lv_icmp_gt (tgt := 119) S.1 S.2.1 dX8_rankOf_63 (by decide) (fun h_15 => ?_) (fun h_15 => ?_)
          · have hf := hf.1 h_15
            refine nm_o hf (fun x3_16 ex3_16 hf => ?_)
            refine lv_iinc (v := x3_16) (lv' := [(3, .int x3_16), (5, .int x5_14), (0, .ref (eA E 12 0)), (1, .int x1_5), (2, .int x2_6), (4, .int x4_8)]) S.1 S.2.1 dX8_rankOf_119 hl (k := 4) rfl (by rw [ex3_16]; rfl) (by decide) rfl (fun ls hl => ?_)
            refine lv_aload_n S.1 S.2.1 dX8_rankOf_122 rfl (lv_at hl 2 rfl) ?_
            refine gfX8_18 S iX8 hK hP (h12 0 (by decide)) k2 dX8_rankOf_123 ?_
            refine lv_iload_n S.1 S.2.1 dX8_rankOf_126 rfl (lv_at hl 0 rfl) ?_
            refine lv_iconst (v := 1) S.1 S.2.1 dX8_rankOf_127 rfl ?_
            refine lv_isub S.1 S.2.1 dX8_rankOf_128 ?_
            refine lv_iload S.1 S.2.1 dX8_rankOf_129 (lv_at hl 1 rfl) ?_
            refine lv_aload_n S.1 S.2.1 dX8_rankOf_131 rfl (lv_at hl 2 rfl) ?_
            refine gfX8_18 S iX8 hK hP (h12 0 (by decide)) k2 dX8_rankOf_132 ?_
            refine lv_iload_n S.1 S.2.1 dX8_rankOf_135 rfl (lv_at hl 0 rfl) ?_
            refine lv_iconst (v := 1) S.1 S.2.1 dX8_rankOf_136 rfl ?_
            refine lv_isub S.1 S.2.1 dX8_rankOf_137 ?_
            obtain ⟨h_17, hf⟩ := hf
            refine R_lald S.1 S.2.1 hK hP (h12 14 (by decide)) (LAm14 E) h_17 dX8_rankOf_138 ?_
            refine lv_aload_n S.1 S.2.1 dX8_rankOf_139 rfl (lv_at hl 2 rfl) ?_
            refine gfX8_18 S iX8 hK hP (h12 0 (by decide)) k2 dX8_rankOf_140 ?_
            refine lv_iload_n S.1 S.2.1 dX8_rankOf_143 rfl (lv_at hl 0 rfl) ?_
            obtain ⟨h_18, hf⟩ := hf
            refine R_lald S.1 S.2.1 hK hP (h12 14 (by decide)) (LAm14 E) h_18 dX8_rankOf_144 ?_
            refine R_cSl (As := [.int x5_14, .long (J_10 12 14 (x3_16 - (1 : Int32)).toNatClampNeg), .long (J_10 12 14 x3_16.toNatClampNeg)]) (rest := [.int (x3_16 - (1 : Int32)), .ref (eA E 12 14)]) S (c_X8_operate   hf) gX8_rankOf_X8_operate rfl yk_X8_operate ⟨⟨Nat.le_of_ble_eq_true rfl, Nat.le_of_ble_eq_true rfl⟩, rfl, rfl⟩ hK hP hD hS hX hA rfl hl.1 rfl (Nat.le_of_ble_eq_true rfl) ⟨Nat.zero_le _, Nat.zero_le _⟩ dX8_rankOf_145 (fun v_21 I_19 J_20 H locs hf hP hD hS => ?_)
            obtain ⟨h_22, hf⟩ := hf
            refine nm_o hf (fun J_23 eJ_23 hf => ?_)
            refine R_last S.1 S.2.1 hK hP hD hS (h12 14 (by decide)) (LAm14 E) h_22 dX8_rankOf_148 eJ_23 (fun H locs hP hD hS => ?_)
            refine nm_o hf (fun x4_24 ex4_24 hf => ?_)
            refine lv_iinc (v := x4_24) (lv' := [(4, .int x4_24), (3, .int x3_16), (5, .int x5_14), (0, .ref (eA E 12 0)), (1, .int x1_5), (2, .int x2_6)]) S.1 S.2.1 dX8_rankOf_149 hl (k := 5) rfl (by rw [ex4_24]; rfl) (by decide) rfl (fun ls hl => ?_)
            refine lv_goto (tgt := 35) S.1 S.2.1 dX8_rankOf_152 (by decide) ?_
            exact ih35 _ _ _ _ hf _ _ _ hP hD hS (lv_sub hl [3, 4, 5, 1, 0] rfl)
          · have hf := hf.2 h_15
            refine nm_o hf (fun x4_25 ex4_25 hf => ?_)
            refine lv_iinc (v := x4_25) (lv' := [(4, .int x4_25), (5, .int x5_14), (0, .ref (eA E 12 0)), (1, .int x1_5), (2, .int x2_6), (3, .int x3_7)]) S.1 S.2.1 dX8_rankOf_66 hl (k := 5) rfl (by rw [ex4_25]; rfl) (by decide) rfl (fun ls hl => ?_)
            refine lv_aload_n S.1 S.2.1 dX8_rankOf_69 rfl (lv_at hl 2 rfl) ?_
            refine gfX8_18 S iX8 hK hP (h12 0 (by decide)) k2 dX8_rankOf_70 ?_
            refine lv_iload_n S.1 S.2.1 dX8_rankOf_73 rfl (lv_at hl 5 rfl) ?_
            refine lv_iload S.1 S.2.1 dX8_rankOf_74 (lv_at hl 1 rfl) ?_
            refine lv_if_ne (tgt := 94) S.1 S.2.1 dX8_rankOf_76 (by decide) (fun h_26 => ?_) (fun h_26 => ?_)
            · have hf := hf.2 h_26
              refine lv_aload_n S.1 S.2.1 dX8_rankOf_94 rfl (lv_at hl 2 rfl) ?_
              refine lv_aload_n S.1 S.2.1 dX8_rankOf_95 rfl (lv_at hl 2 rfl) ?_
              refine gfX8_8 S iX8 hK hP (h12 0 (by decide)) k1 dX8_rankOf_96 ?_
              refine lv_sipush (v := 602) S.1 S.2.1 dX8_rankOf_99 rfl ?_
              refine lv_iload S.1 S.2.1 dX8_rankOf_102 (lv_at hl 0 rfl) ?_
              refine lv_iadd S.1 S.2.1 dX8_rankOf_104 ?_
              obtain ⟨h_27, hf⟩ := hf
              refine R_iald S.1 S.2.1 hK hP (h12 2 (by decide)) (IAm2 E) h_27 dX8_rankOf_105 ?_
              refine lv_iload_n S.1 S.2.1 dX8_rankOf_106 rfl (lv_at hl 3 rfl) ?_
              refine lv_iload_n S.1 S.2.1 dX8_rankOf_107 rfl (lv_at hl 4 rfl) ?_
              refine R_cVi (As := [.int (I_9 12 2 ((602 : Int32) + x4_25).toNatClampNeg), .int x1_5, .int x2_6]) (rest := [.int x3_7, .ref (eA E 12 14)]) S (c_X8_fact (h12 := h12)  hf) gX8_rankOf_X8_fact rfl yk_X8_fact ⟨⟨Nat.le_of_ble_eq_true rfl, Nat.le_of_ble_eq_true rfl⟩, rfl, rfl⟩ hK hP hD hS hX hA (h12 0 (by decide)) (cF_m E _ _ 0) rfl rfl hl.1 rfl (Nat.le_of_ble_eq_true rfl) ⟨Nat.zero_le _, Nat.zero_le _⟩ dX8_rankOf_108 (fun v_30 I_28 J_29 H locs hf hP hD hS => ?_)
              refine lv_i2l S.1 S.2.1 dX8_rankOf_111 rfl ?_
              obtain ⟨h_31, hf⟩ := hf
              refine nm_o hf (fun J_32 eJ_32 hf => ?_)
              refine R_last S.1 S.2.1 hK hP hD hS (h12 14 (by decide)) (LAm14 E) h_31 dX8_rankOf_112 eJ_32 (fun H locs hP hD hS => ?_)
              refine nm_o hf (fun x3_33 ex3_33 hf => ?_)
              refine lv_iinc (v := x3_33) (lv' := [(3, .int x3_33), (4, .int x4_25), (5, .int x5_14), (0, .ref (eA E 12 0)), (1, .int x1_5), (2, .int x2_6)]) S.1 S.2.1 dX8_rankOf_113 hl (k := 5) rfl (by rw [ex3_33]; rfl) (by decide) rfl (fun ls hl => ?_)
              refine lv_goto (tgt := 149) S.1 S.2.1 dX8_rankOf_116 (by decide) ?_
              refine nm_o hf (fun x4_34 ex4_34 hf => ?_)
              refine lv_iinc (v := x4_34) (lv' := [(4, .int x4_34), (3, .int x3_33), (5, .int x5_14), (0, .ref (eA E 12 0)), (1, .int x1_5), (2, .int x2_6)]) S.1 S.2.1 dX8_rankOf_149 hl (k := 1) rfl (by rw [ex4_34]; rfl) (by decide) rfl (fun ls hl => ?_)
              refine lv_goto (tgt := 35) S.1 S.2.1 dX8_rankOf_152 (by decide) ?_
              exact ih35 _ _ _ _ hf _ _ _ hP hD hS (lv_sub hl [3, 4, 5, 1, 0] rfl)
            · have hf := hf.1 h_26
              refine lv_aload_n S.1 S.2.1 dX8_rankOf_79 rfl (lv_at hl 2 rfl) ?_
              refine gfX8_8 S iX8 hK hP (h12 0 (by decide)) k1 dX8_rankOf_80 ?_
              refine lv_sipush (v := 602) S.1 S.2.1 dX8_rankOf_83 rfl ?_
              refine lv_iload S.1 S.2.1 dX8_rankOf_86 (lv_at hl 0 rfl) ?_
              refine lv_iadd S.1 S.2.1 dX8_rankOf_88 ?_
              obtain ⟨h_35, hf⟩ := hf
              refine R_iald S.1 S.2.1 hK hP (h12 2 (by decide)) (IAm2 E) h_35 dX8_rankOf_89 ?_
              refine lv_i2l S.1 S.2.1 dX8_rankOf_90 rfl ?_
              refine lv_goto (tgt := 112) S.1 S.2.1 dX8_rankOf_91 (by decide) ?_
              obtain ⟨h_36, hf⟩ := hf
              refine nm_o hf (fun J_37 eJ_37 hf => ?_)
              refine R_last S.1 S.2.1 hK hP hD hS (h12 14 (by decide)) (LAm14 E) h_36 dX8_rankOf_112 eJ_37 (fun H locs hP hD hS => ?_)
              refine nm_o hf (fun x3_38 ex3_38 hf => ?_)
              refine lv_iinc (v := x3_38) (lv' := [(3, .int x3_38), (4, .int x4_25), (5, .int x5_14), (0, .ref (eA E 12 0)), (1, .int x1_5), (2, .int x2_6)]) S.1 S.2.1 dX8_rankOf_113 hl (k := 5) rfl (by rw [ex3_38]; rfl) (by decide) rfl (fun ls hl => ?_)
              refine lv_goto (tgt := 149) S.1 S.2.1 dX8_rankOf_116 (by decide) ?_
              refine nm_o hf (fun x4_39 ex4_39 hf => ?_)
              refine lv_iinc (v := x4_39) (lv' := [(4, .int x4_39), (3, .int x3_38), (5, .int x5_14), (0, .ref (eA E 12 0)), (1, .int x1_5), (2, .int x2_6)]) S.1 S.2.1 dX8_rankOf_149 hl (k := 1) rfl (by rw [ex4_39]; rfl) (by decide) rfl (fun ls hl => ?_)
              refine lv_goto (tgt := 35) S.1 S.2.1 dX8_rankOf_152 (by decide) ?_
              exact ih35 _ _ _ _ hf _ _ _ hP hD hS (lv_sub hl [3, 4, 5, 1, 0] rfl)
    refine L35 _ _ _ (fun I_40 J_41 hf H locs ls hP hD hS hl => ?_)  n_43 _ _ _ _ hf _ _ _ hP hD hS (lv_sub hl [2, 3, 4, 1, 0] rfl)
    refine lv_aload_n S.1 S.2.1 dX8_rankOf_155 rfl (lv_at hl 0 rfl) ?_
    refine gfX8_18 S iX8 hK hP (h12 0 (by decide)) k2 dX8_rankOf_156 ?_
    refine lv_iconst (v := 0) S.1 S.2.1 dX8_rankOf_159 rfl ?_
    obtain ⟨h_42, hf⟩ := hf
    refine R_lald S.1 S.2.1 hK hP (h12 14 (by decide)) (LAm14 E) h_42 dX8_rankOf_160 ?_
    refine lv_l2i S.1 S.2.1 dX8_rankOf_161 rfl ?_
    exact hret hf rfl hP hD hS dX8_rankOf_162
  · have hf := hf.1 h_2
    refine lv_aload_n S.1 S.2.1 dX8_rankOf_10 rfl (lv_at hl 0 rfl) ?_
    refine lv_aload_n S.1 S.2.1 dX8_rankOf_11 rfl (lv_at hl 0 rfl) ?_
    refine gfX8_8 S iX8 hK hP (h12 0 (by decide)) k1 dX8_rankOf_12 ?_
    refine lv_iconst (v := 5) S.1 S.2.1 dX8_rankOf_15 rfl ?_
    obtain ⟨h_44, hf⟩ := hf
    refine R_iald S.1 S.2.1 hK hP (h12 2 (by decide)) (IAm2 E) h_44 dX8_rankOf_16 ?_
    refine lv_iload_n S.1 S.2.1 dX8_rankOf_17 rfl (lv_at hl 1 rfl) ?_
    refine lv_iload_n S.1 S.2.1 dX8_rankOf_18 rfl (lv_at hl 2 rfl) ?_
    refine R_cVi (As := [.int (I 12 2 (5 : Int32).toNatClampNeg), .int x1, .int x2]) (rest := []) S (c_X8_pointsFor (h12 := h12)  hf) gX8_rankOf_X8_pointsFor rfl yk_X8_pointsFor ⟨⟨Nat.le_of_ble_eq_true rfl, Nat.le_of_ble_eq_true rfl⟩, rfl, rfl⟩ hK hP hD hS hX hA (h12 0 (by decide)) (cF_m E _ _ 0) rfl rfl hl.1 rfl (Nat.le_of_ble_eq_true rfl) ⟨Nat.zero_le _, Nat.zero_le _⟩ dX8_rankOf_19 (fun v_47 I_45 J_46 H locs hf hP hD hS => ?_)
    exact hret hf rfl hP hD hS dX8_rankOf_22
abbrev rmX8_handNow : Room := { frames := 2, cells := 0, slots := 0, locals := 42 }
theorem yk_X8_handNow : yOk yX8_handNow RX8 0 := by unfold yOk; decide +kernel
def f_X8_handNow (I : MI) (J : MJ) (Q : Int32 → MI → MJ → Prop) : Prop :=
  (vp_in (5 : Int32) 1802 ∧ f_X8_ofPlayer (I 12 2 (5 : Int32).toNatClampNeg) (1 : Int32) I J (fun (v_4 : Int32) (I_2 : MI) (J_3 : MJ) => Q v_4 I_2 J_3))
set_option maxRecDepth 100000 in
set_option maxHeartbeats 4000000 in
theorem c_X8_handNow {l : Launch} {E : EV} {ps : List (Nat × Nat)} (h12 : ∀ r, r < 17 → (12, r) ∈ ps) {I : MI} {J : MJ} {Q : Int32 → MI → MJ → Prop} (hf : f_X8_handNow I J Q) : KI l yX8_handNow wsX8_handNow rmX8_handNow E ps [.ref (eA E 12 0)] I J Q := by
  refine K_ofI (cc := cX8_handNow) (maxL := 1) (ty := .int) (by decide +kernel) rfl (Nat.le_of_ble_eq_true rfl) (fun p e s m args below meth c Qm hret S hK hX => ?_)
  have hA : ∀ q, s.heap.size ≤ q → AA E ps s.heap.size q := fun _ h => Or.inr h
  have k1 := S.2.2.2.2 (.fieldLink RX8 17 "RhymeRoofsModel" "data" "[I") (by decide +kernel)
  have iX8 : ∀ w ∈ wsX80, w ∈ wsX8_handNow := fun _ h => List.mem_cons_of_mem _ (List.mem_append_right _ h)
  intro H locs ls hP hD hS hl
  unfold f_X8_handNow at hf
  refine lv_aload_n S.1 S.2.1 dX8_handNow_0 rfl (lv_at hl 0 rfl) ?_
  refine lv_aload_n S.1 S.2.1 dX8_handNow_1 rfl (lv_at hl 0 rfl) ?_
  refine gfX8_8 S iX8 hK hP (h12 0 (by decide)) k1 dX8_handNow_2 ?_
  refine lv_iconst (v := 5) S.1 S.2.1 dX8_handNow_5 rfl ?_
  obtain ⟨h_1, hf⟩ := hf
  refine R_iald S.1 S.2.1 hK hP (h12 2 (by decide)) (IAm2 E) h_1 dX8_handNow_6 ?_
  refine lv_iconst (v := 1) S.1 S.2.1 dX8_handNow_7 rfl ?_
  refine R_cVi (As := [.int (I 12 2 (5 : Int32).toNatClampNeg), .int (1 : Int32)]) (rest := []) S (c_X8_ofPlayer (h12 := h12)  hf) gX8_handNow_X8_ofPlayer rfl yk_X8_ofPlayer ⟨⟨Nat.le_of_ble_eq_true rfl, Nat.le_of_ble_eq_true rfl⟩, rfl, rfl⟩ hK hP hD hS hX hA (h12 0 (by decide)) (cF_m E _ _ 0) rfl rfl hl.1 rfl (Nat.le_of_ble_eq_true rfl) ⟨Nat.zero_le _, Nat.zero_le _⟩ dX8_handNow_8 (fun v_4 I_2 J_3 H locs hf hP hD hS => ?_)
  exact hret hf rfl hP hD hS dX8_handNow_11
abbrev rmX8_plays : Room := { frames := 6, cells := 0, slots := 0, locals := 131 }
theorem yk_X8_plays : yOk yX8_plays RX8 0 := by unfold yOk; decide +kernel
def f_X8_plays_B14 (x2_10 : Int32) (K47 : Int32 → MI → MJ → Prop) (rec14 : Int32 → Int32 → MI → MJ → Prop) (x1_9 : Int32) (x3_11 : Int32) (I_12 : MI) (J_13 : MJ) : Prop :=
  (vp_in (0 : Int32) 1802 ∧ (((I_12 12 2 (0 : Int32).toNatClampNeg) ≤ x3_11 → K47 x1_9 I_12 J_13) ∧ (¬ (I_12 12 2 (0 : Int32).toNatClampNeg) ≤ x3_11 → f_X8_refusal x2_10 x3_11 I_12 J_13 (fun (v_18 : Int32) (I_16 : MI) (J_17 : MJ) => ((v_18 = (0 : Int32) → ∀ x1_22 : Int32, x1_22 = (x1_9 + (1 : Int32)) → ∀ x3_23 : Int32, x3_23 = x3_11 + (1 : Int32) → rec14 x1_22 x3_23 I_16 J_17) ∧ (¬ v_18 = (0 : Int32) → ∀ x1_20 : Int32, x1_20 = (x1_9 + (0 : Int32)) → ∀ x3_21 : Int32, x3_21 = x3_11 + (1 : Int32) → rec14 x1_20 x3_21 I_16 J_17))))))
def f_X8_plays_L14 (x2_10 : Int32) (K47 : Int32 → MI → MJ → Prop) : Nat → Int32 → Int32 → MI → MJ → Prop
  | 0, _, _, _, _ => False
  | n + 1, x1_9, x3_11, I_12, J_13 => f_X8_plays_B14 x2_10 K47 (f_X8_plays_L14 x2_10 K47 n) x1_9 x3_11 I_12 J_13
def f_X8_plays_B4 (K53 : Int32 → MI → MJ → Prop) (rec4 : Int32 → Int32 → MI → MJ → Prop) (x1_1 : Int32) (x2_2 : Int32) (I_3 : MI) (J_4 : MJ) : Prop :=
  f_X8_handNow I_3 J_4 (fun (v_7 : Int32) (I_5 : MI) (J_6 : MJ) => ((v_7 ≤ x2_2 → K53 x1_1 I_5 J_6) ∧ (¬ v_7 ≤ x2_2 → ∃ n : Nat, f_X8_plays_L14 x2_2 (fun (x1_24 : Int32) (I_25 : MI) (J_26 : MJ) => ∀ x2_27 : Int32, x2_27 = x2_2 + (1 : Int32) → rec4 x1_24 x2_27 I_25 J_26) n x1_1 (0 : Int32) I_5 J_6)))
def f_X8_plays_L4 (K53 : Int32 → MI → MJ → Prop) : Nat → Int32 → Int32 → MI → MJ → Prop
  | 0, _, _, _, _ => False
  | n + 1, x1_1, x2_2, I_3, J_4 => f_X8_plays_B4 K53 (f_X8_plays_L4 K53 n) x1_1 x2_2 I_3 J_4
def f_X8_plays (I : MI) (J : MJ) (Q : Int32 → MI → MJ → Prop) : Prop :=
  ∃ n : Nat, f_X8_plays_L4 (fun (x1_29 : Int32) (I_30 : MI) (J_31 : MJ) => Q x1_29 I_30 J_31) n (0 : Int32) (0 : Int32) I J
set_option maxRecDepth 100000 in
set_option maxHeartbeats 4000000 in
theorem c_X8_plays {l : Launch} {E : EV} {ps : List (Nat × Nat)} (h12 : ∀ r, r < 17 → (12, r) ∈ ps) {I : MI} {J : MJ} {Q : Int32 → MI → MJ → Prop} (hf : f_X8_plays I J Q) : KI l yX8_plays wsX8_plays rmX8_plays E ps [.ref (eA E 12 0)] I J Q := by
  refine K_ofI (cc := cX8_plays) (maxL := 4) (ty := .int) (by decide +kernel) rfl (Nat.le_of_ble_eq_true rfl) (fun p e s m args below meth c Qm hret S hK hX => ?_)
  have hA : ∀ q, s.heap.size ≤ q → AA E ps s.heap.size q := fun _ h => Or.inr h
  have k1 := S.2.2.2.2 (.fieldLink RX8 17 "RhymeRoofsModel" "data" "[I") (by decide +kernel)
  have iX8 : ∀ w ∈ wsX80, w ∈ wsX8_plays := fun _ h => List.mem_cons_of_mem _ (List.mem_append_right _ h)
  intro H locs ls hP hD hS hl
  unfold f_X8_plays at hf
  refine lv_iconst (v := 0) S.1 S.2.1 dX8_plays_0 rfl ?_
  refine lv_istore_n (lv' := [(1, .int (0 : Int32)), (0, .ref (eA E 12 0))]) S.1 S.2.1 dX8_plays_1 rfl hl (by decide) rfl (fun ls hl => ?_)
  refine lv_iconst (v := 0) S.1 S.2.1 dX8_plays_2 rfl ?_
  refine lv_istore_n (lv' := [(2, .int (0 : Int32)), (1, .int (0 : Int32)), (0, .ref (eA E 12 0))]) S.1 S.2.1 dX8_plays_3 rfl hl (by decide) rfl (fun ls hl => ?_)
  obtain ⟨n_32, hf⟩ := hf
  have L4 : ∀ (K53 : Int32 → MI → MJ → Prop), (∀ (x1_29 : Int32) (I_30 : MI) (J_31 : MJ), K53 x1_29 I_30 J_31 → Wj p l e (rmX8_plays) s m args below meth c Qm E ps 4 I_30 J_31 53 [(1, .int x1_29)] []) → ∀ (n : Nat) (x1_1 : Int32) (x2_2 : Int32) (I_3 : MI) (J_4 : MJ), f_X8_plays_L4 K53 n x1_1 x2_2 I_3 J_4 → Wj p l e (rmX8_plays) s m args below meth c Qm E ps 4 I_3 J_4 4 [(0, .ref (eA E 12 0)), (1, .int x1_1), (2, .int x2_2)] [] := by
    intro K53 kx53 n
    induction n with
    | zero => intro x1_1 x2_2 I_3 J_4 hf; exact hf.elim
    | succ n ih4 =>
      intro x1_1 x2_2 I_3 J_4 hf
      have hf : f_X8_plays_B4 K53 (f_X8_plays_L4 K53 n) x1_1 x2_2 I_3 J_4 := hf
      intro H locs ls hP hD hS hl
      unfold f_X8_plays_B4 at hf
      refine lv_iload_n S.1 S.2.1 dX8_plays_4 rfl (lv_at hl 2 rfl) ?_
      refine lv_aload_n S.1 S.2.1 dX8_plays_5 rfl (lv_at hl 0 rfl) ?_
      refine R_cVi (As := []) (rest := [.int x2_2]) S (c_X8_handNow (h12 := h12)  hf) gX8_plays_X8_handNow rfl yk_X8_handNow ⟨⟨Nat.le_of_ble_eq_true rfl, Nat.le_of_ble_eq_true rfl⟩, rfl, rfl⟩ hK hP hD hS hX hA (h12 0 (by decide)) (cF_m E _ _ 0) rfl rfl hl.1 rfl (Nat.le_of_ble_eq_true rfl) ⟨Nat.zero_le _, Nat.zero_le _⟩ dX8_plays_6 (fun v_7 I_5 J_6 H locs hf hP hD hS => ?_)
      refine lv_icmp_ge (tgt := 53) S.1 S.2.1 dX8_plays_9 (by decide) (fun h_8 => ?_) (fun h_8 => ?_)
      · have hf := hf.1 h_8
        exact kx53 _ _ _ hf _ _ _ hP hD hS (lv_sub hl [1] rfl)
      · have hf := hf.2 h_8
        refine lv_iconst (v := 0) S.1 S.2.1 dX8_plays_12 rfl ?_
        refine lv_istore_n (lv' := [(3, .int (0 : Int32)), (0, .ref (eA E 12 0)), (1, .int x1_1), (2, .int x2_2)]) S.1 S.2.1 dX8_plays_13 rfl hl (by decide) rfl (fun ls hl => ?_)
        obtain ⟨n_28, hf⟩ := hf
        have L14 : ∀ (x2_10 : Int32), ∀ (K47 : Int32 → MI → MJ → Prop), (∀ (x1_24 : Int32) (I_25 : MI) (J_26 : MJ), K47 x1_24 I_25 J_26 → Wj p l e (rmX8_plays) s m args below meth c Qm E ps 4 I_25 J_26 47 [(0, .ref (eA E 12 0)), (1, .int x1_24), (2, .int x2_10)] []) → ∀ (n : Nat) (x1_9 : Int32) (x3_11 : Int32) (I_12 : MI) (J_13 : MJ), f_X8_plays_L14 x2_10 K47 n x1_9 x3_11 I_12 J_13 → Wj p l e (rmX8_plays) s m args below meth c Qm E ps 4 I_12 J_13 14 [(0, .ref (eA E 12 0)), (1, .int x1_9), (2, .int x2_10), (3, .int x3_11)] [] := by
          intro x2_10 K47 kx47 n
          induction n with
          | zero => intro x1_9 x3_11 I_12 J_13 hf; exact hf.elim
          | succ n ih14 =>
            intro x1_9 x3_11 I_12 J_13 hf
            have hf : f_X8_plays_B14 x2_10 K47 (f_X8_plays_L14 x2_10 K47 n) x1_9 x3_11 I_12 J_13 := hf
            intro H locs ls hP hD hS hl
            unfold f_X8_plays_B14 at hf
            refine lv_iload_n S.1 S.2.1 dX8_plays_14 rfl (lv_at hl 3 rfl) ?_
            refine lv_aload_n S.1 S.2.1 dX8_plays_15 rfl (lv_at hl 0 rfl) ?_
            refine gfX8_8 S iX8 hK hP (h12 0 (by decide)) k1 dX8_plays_16 ?_
            refine lv_iconst (v := 0) S.1 S.2.1 dX8_plays_19 rfl ?_
            obtain ⟨h_14, hf⟩ := hf
            refine R_iald S.1 S.2.1 hK hP (h12 2 (by decide)) (IAm2 E) h_14 dX8_plays_20 ?_
            refine lv_icmp_ge (tgt := 47) S.1 S.2.1 dX8_plays_21 (by decide) (fun h_15 => ?_) (fun h_15 => ?_)
            · have hf := hf.1 h_15
              exact kx47 _ _ _ hf _ _ _ hP hD hS (lv_sub hl [0, 1, 2] rfl)
            · have hf := hf.2 h_15
              refine lv_iload_n S.1 S.2.1 dX8_plays_24 rfl (lv_at hl 1 rfl) ?_
              refine lv_aload_n S.1 S.2.1 dX8_plays_25 rfl (lv_at hl 0 rfl) ?_
              refine lv_iload_n S.1 S.2.1 dX8_plays_26 rfl (lv_at hl 2 rfl) ?_
              refine lv_iload_n S.1 S.2.1 dX8_plays_27 rfl (lv_at hl 3 rfl) ?_
              refine R_cVi (As := [.int x2_10, .int x3_11]) (rest := [.int x1_9]) S (c_X8_refusal (h12 := h12)  hf) gX8_plays_X8_refusal rfl yk_X8_refusal ⟨⟨Nat.le_of_ble_eq_true rfl, Nat.le_of_ble_eq_true rfl⟩, rfl, rfl⟩ hK hP hD hS hX hA (h12 0 (by decide)) (cF_m E _ _ 0) rfl rfl hl.1 rfl (Nat.le_of_ble_eq_true rfl) ⟨Nat.zero_le _, Nat.zero_le _⟩ dX8_plays_28 (fun v_18 I_16 J_17 H locs hf hP hD hS => ?_)
              refine lv_if_ne (tgt := 38) S.1 S.2.1 dX8_plays_31 (by decide) (fun h_19 => ?_) (fun h_19 => ?_)
              · have hf := hf.2 h_19
                refine lv_iconst (v := 0) S.1 S.2.1 dX8_plays_38 rfl ?_
                refine lv_iadd S.1 S.2.1 dX8_plays_39 ?_
                refine lv_topi (fun x1_20 ex1_20 => ?_)
                have hf := hf x1_20 ex1_20
                refine lv_istore_n (lv' := [(1, .int x1_20), (0, .ref (eA E 12 0)), (2, .int x2_10), (3, .int x3_11)]) S.1 S.2.1 dX8_plays_40 rfl hl (by decide) rfl (fun ls hl => ?_)
                refine nm_o hf (fun x3_21 ex3_21 hf => ?_)
                refine lv_iinc (v := x3_21) (lv' := [(3, .int x3_21), (1, .int x1_20), (0, .ref (eA E 12 0)), (2, .int x2_10)]) S.1 S.2.1 dX8_plays_41 hl (k := 3) rfl (by rw [ex3_21]; rfl) (by decide) rfl (fun ls hl => ?_)
                refine lv_goto (tgt := 14) S.1 S.2.1 dX8_plays_44 (by decide) ?_
                exact ih14 _ _ _ _ hf _ _ _ hP hD hS (lv_sub hl [2, 1, 3, 0] rfl)
              · have hf := hf.1 h_19
                refine lv_iconst (v := 1) S.1 S.2.1 dX8_plays_34 rfl ?_
                refine lv_goto (tgt := 39) S.1 S.2.1 dX8_plays_35 (by decide) ?_
                refine lv_iadd S.1 S.2.1 dX8_plays_39 ?_
                refine lv_topi (fun x1_22 ex1_22 => ?_)
                have hf := hf x1_22 ex1_22
                refine lv_istore_n (lv' := [(1, .int x1_22), (0, .ref (eA E 12 0)), (2, .int x2_10), (3, .int x3_11)]) S.1 S.2.1 dX8_plays_40 rfl hl (by decide) rfl (fun ls hl => ?_)
                refine nm_o hf (fun x3_23 ex3_23 hf => ?_)
                refine lv_iinc (v := x3_23) (lv' := [(3, .int x3_23), (1, .int x1_22), (0, .ref (eA E 12 0)), (2, .int x2_10)]) S.1 S.2.1 dX8_plays_41 hl (k := 3) rfl (by rw [ex3_23]; rfl) (by decide) rfl (fun ls hl => ?_)
                refine lv_goto (tgt := 14) S.1 S.2.1 dX8_plays_44 (by decide) ?_
                exact ih14 _ _ _ _ hf _ _ _ hP hD hS (lv_sub hl [2, 1, 3, 0] rfl)
        refine L14 _ _ (fun x1_24 I_25 J_26 hf H locs ls hP hD hS hl => ?_)  n_28 _ _ _ _ hf _ _ _ hP hD hS (lv_sub hl [1, 2, 3, 0] rfl)
        refine nm_o hf (fun x2_27 ex2_27 hf => ?_)
        refine lv_iinc (v := x2_27) (lv' := [(2, .int x2_27), (0, .ref (eA E 12 0)), (1, .int x1_24)]) S.1 S.2.1 dX8_plays_47 hl (k := 2) rfl (by rw [ex2_27]; rfl) (by decide) rfl (fun ls hl => ?_)
        refine lv_goto (tgt := 4) S.1 S.2.1 dX8_plays_50 (by decide) ?_
        exact ih4 _ _ _ _ hf _ _ _ hP hD hS (lv_sub hl [1, 2, 0] rfl)
  refine L4 _ (fun x1_29 I_30 J_31 hf H locs ls hP hD hS hl => ?_)  n_32 _ _ _ _ hf _ _ _ hP hD hS (lv_sub hl [2, 1, 0] rfl)
  refine lv_iload_n S.1 S.2.1 dX8_plays_53 rfl (lv_at hl 0 rfl) ?_
  exact hret hf rfl hP hD hS dX8_plays_54
