abbrev rmX8_append : Room := { frames := 0, cells := 0, slots := 0, locals := 0 }
theorem yk_X8_append : yOk yX8_append RX8 5 := by unfold yOk; decide +kernel
def f_X8_append_J76 (K120 : MI → MJ → Prop) (rec23 : Int32 → MI → MJ → Prop) (x1_3 : Int32) (x2_4 : Int32) (x3_5 : Int32) (x4_6 : Int32) (x5_7 : Int32) (x6_16 : Int32) (s_17 : Int32) (I_18 : MI) (J_19 : MJ) : Prop :=
  (¬ (4 : Int32) = 0 ∧ (vp_in (I_18 12 0 2) 600 ∧ ∀ I_22 : MI, I_22 = sI I_18 12 1 (I_18 12 0 2).toNatClampNeg ((s_17 >>> (((24 : Int32) - ((8 : Int32) * (x6_16 - x6_16 / (4 : Int32) * (4 : Int32)))) &&& 31)) &&& (255 : Int32)) → ∀ I_23 : MI, I_23 = sI I_22 12 0 2 ((I_22 12 0 2) + (1 : Int32)) → ∀ x6_24 : Int32, x6_24 = x6_16 + (1 : Int32) → rec23 x6_24 I_23 J_19))
def f_X8_append_B23 (x1_3 : Int32) (x2_4 : Int32) (x3_5 : Int32) (x4_6 : Int32) (x5_7 : Int32) (K120 : MI → MJ → Prop) (rec23 : Int32 → MI → MJ → Prop) (x6_8 : Int32) (I_9 : MI) (J_10 : MJ) : Prop :=
  (((20 : Int32) ≤ x6_8 → K120 I_9 J_10) ∧ (¬ (20 : Int32) ≤ x6_8 → (((4 : Int32) ≤ x6_8 → (((8 : Int32) ≤ x6_8 → (((12 : Int32) ≤ x6_8 → (((16 : Int32) ≤ x6_8 → f_X8_append_J76 K120 rec23 x1_3 x2_4 x3_5 x4_6 x5_7 x6_8 x5_7 I_9 J_10) ∧ (¬ (16 : Int32) ≤ x6_8 → f_X8_append_J76 K120 rec23 x1_3 x2_4 x3_5 x4_6 x5_7 x6_8 x4_6 I_9 J_10))) ∧ (¬ (12 : Int32) ≤ x6_8 → f_X8_append_J76 K120 rec23 x1_3 x2_4 x3_5 x4_6 x5_7 x6_8 x3_5 I_9 J_10))) ∧ (¬ (8 : Int32) ≤ x6_8 → f_X8_append_J76 K120 rec23 x1_3 x2_4 x3_5 x4_6 x5_7 x6_8 x2_4 I_9 J_10))) ∧ (¬ (4 : Int32) ≤ x6_8 → f_X8_append_J76 K120 rec23 x1_3 x2_4 x3_5 x4_6 x5_7 x6_8 x1_3 I_9 J_10))))
def f_X8_append_L23 (x1_3 : Int32) (x2_4 : Int32) (x3_5 : Int32) (x4_6 : Int32) (x5_7 : Int32) (K120 : MI → MJ → Prop) : Nat → Int32 → MI → MJ → Prop
  | 0, _, _, _ => False
  | n + 1, x6_8, I_9, J_10 => f_X8_append_B23 x1_3 x2_4 x3_5 x4_6 x5_7 K120 (f_X8_append_L23 x1_3 x2_4 x3_5 x4_6 x5_7 K120 n) x6_8 I_9 J_10
def f_X8_append (x1 : Int32) (x2 : Int32) (x3 : Int32) (x4 : Int32) (x5 : Int32) (I : MI) (J : MJ) (Q : Int32 → MI → MJ → Prop) : Prop :=
  ∀ I_1 : MI, I_1 = sI I 12 0 0 (0 : Int32) → ((((I_1 12 0 2) + (20 : Int32)) ≤ (600 : Int32) → ∃ n : Nat, f_X8_append_L23 x1 x2 x3 x4 x5 (fun (I_25 : MI) (J_26 : MJ) => Q (I_25 12 0 2) I_25 J_26) n (0 : Int32) I_1 J) ∧ (¬ ((I_1 12 0 2) + (20 : Int32)) ≤ (600 : Int32) → Q (-1 : Int32) I_1 J))
set_option maxRecDepth 100000 in
set_option maxHeartbeats 4000000 in
theorem c_X8_append {l : Launch} {E : EV} {ps : List (Nat × Nat)} (h12 : ∀ r, r < 17 → (12, r) ∈ ps) {x1 : Int32} {x2 : Int32} {x3 : Int32} {x4 : Int32} {x5 : Int32} {I : MI} {J : MJ} {Q : Int32 → MI → MJ → Prop} (hf : f_X8_append x1 x2 x3 x4 x5 I J Q) : KI l yX8_append wsX8_append rmX8_append E ps [.ref (eA E 12 0), .int x1, .int x2, .int x3, .int x4, .int x5] I J Q := by
  refine K_ofI (cc := cX8_append) (maxL := 8) (ty := .int) (by decide +kernel) rfl (Nat.le_of_ble_eq_true rfl) (fun p e s m args below meth c Qm hret S hK hX => ?_)
  have hA : ∀ q, s.heap.size ≤ q → AA E ps s.heap.size q := fun _ h => Or.inr h
  have k1 := S.2.2.2.2 (.fieldLink RX8 49 "RhymeRoofsModel" "thrown" "I") (by decide +kernel)
  have iX8 : ∀ w ∈ wsX80, w ∈ wsX8_append := fun _ h => List.mem_cons_of_mem _ (List.mem_append_right _ h)
  have k2 := S.2.2.2.2 (.fieldLink RX8 59 "RhymeRoofsModel" "bufferLength" "I") (by decide +kernel)
  have k3 := S.2.2.2.2 (.fieldLink RX8 9 "RhymeRoofsModel" "buffer" "[I") (by decide +kernel)
  intro H locs ls hP hD hS hl
  unfold f_X8_append at hf
  refine lv_aload_n S.1 S.2.1 dX8_append_0 rfl (lv_at hl 0 rfl) ?_
  refine lv_iconst (v := 0) S.1 S.2.1 dX8_append_1 rfl ?_
  refine nm_o hf (fun I_1 eI_1 hf => ?_)
  refine pfX8_0 S iX8 hK hP hD hS (h12 0 (by decide)) k1 dX8_append_2 eI_1 (fun H locs hP hD hS => ?_)
  refine lv_aload_n S.1 S.2.1 dX8_append_5 rfl (lv_at hl 0 rfl) ?_
  refine gfX8_2 S iX8 hK hP (h12 0 (by decide)) k2 dX8_append_6 ?_
  refine lv_bipush (v := 20) S.1 S.2.1 dX8_append_9 rfl ?_
  refine lv_iadd S.1 S.2.1 dX8_append_11 ?_
  refine lv_sipush (v := 600) S.1 S.2.1 dX8_append_12 rfl ?_
  refine lv_icmp_le (tgt := 20) S.1 S.2.1 dX8_append_15 (by decide) (fun h_2 => ?_) (fun h_2 => ?_)
  · have hf := hf.1 h_2
    refine lv_iconst (v := 0) S.1 S.2.1 dX8_append_20 rfl ?_
    refine lv_istore (lv' := [(6, .int (0 : Int32)), (0, .ref (eA E 12 0)), (1, .int x1), (2, .int x2), (3, .int x3), (4, .int x4), (5, .int x5)]) S.1 S.2.1 dX8_append_21 hl (by decide) rfl (fun ls hl => ?_)
    obtain ⟨n_27, hf⟩ := hf
    have L23 : ∀ (x1_3 : Int32), ∀ (x2_4 : Int32), ∀ (x3_5 : Int32), ∀ (x4_6 : Int32), ∀ (x5_7 : Int32), ∀ (K120 : MI → MJ → Prop), (∀ (I_25 : MI) (J_26 : MJ), K120 I_25 J_26 → Wj p l e (rmX8_append) s m args below meth c Qm E ps 8 I_25 J_26 120 [(0, .ref (eA E 12 0))] []) → ∀ (n : Nat) (x6_8 : Int32) (I_9 : MI) (J_10 : MJ), f_X8_append_L23 x1_3 x2_4 x3_5 x4_6 x5_7 K120 n x6_8 I_9 J_10 → Wj p l e (rmX8_append) s m args below meth c Qm E ps 8 I_9 J_10 23 [(0, .ref (eA E 12 0)), (1, .int x1_3), (2, .int x2_4), (3, .int x3_5), (4, .int x4_6), (5, .int x5_7), (6, .int x6_8)] [] := by
      intro x1_3 x2_4 x3_5 x4_6 x5_7 K120 kx120 n
      induction n with
      | zero => intro x6_8 I_9 J_10 hf; exact hf.elim
      | succ n ih23 =>
        intro x6_8 I_9 J_10 hf
        have hf : f_X8_append_B23 x1_3 x2_4 x3_5 x4_6 x5_7 K120 (f_X8_append_L23 x1_3 x2_4 x3_5 x4_6 x5_7 K120 n) x6_8 I_9 J_10 := hf
        have jn76 : ∀ (x6_16 : Int32) (s_17 : Int32) (I_18 : MI) (J_19 : MJ), f_X8_append_J76 K120 (f_X8_append_L23 x1_3 x2_4 x3_5 x4_6 x5_7 K120 n) x1_3 x2_4 x3_5 x4_6 x5_7 x6_16 s_17 I_18 J_19 → Wj p l e (rmX8_append) s m args below meth c Qm E ps 8 I_18 J_19 76 [(0, .ref (eA E 12 0)), (1, .int x1_3), (2, .int x2_4), (3, .int x3_5), (4, .int x4_6), (5, .int x5_7), (6, .int x6_16)] [.int s_17] := by
          intro x6_16 s_17 I_18 J_19 hf H locs ls hP hD hS hl
          unfold f_X8_append_J76 at hf
          refine lv_istore (lv' := [(7, .int s_17), (0, .ref (eA E 12 0)), (1, .int x1_3), (2, .int x2_4), (3, .int x3_5), (4, .int x4_6), (5, .int x5_7), (6, .int x6_16)]) S.1 S.2.1 dX8_append_76 hl (by decide) rfl (fun ls hl => ?_)
          refine lv_aload_n S.1 S.2.1 dX8_append_78 rfl (lv_at hl 1 rfl) ?_
          refine gfX8_1 S iX8 hK hP (h12 0 (by decide)) k3 dX8_append_79 ?_
          refine lv_aload_n S.1 S.2.1 dX8_append_82 rfl (lv_at hl 1 rfl) ?_
          refine gfX8_2 S iX8 hK hP (h12 0 (by decide)) k2 dX8_append_83 ?_
          refine lv_iload S.1 S.2.1 dX8_append_86 (lv_at hl 0 rfl) ?_
          refine lv_bipush (v := 24) S.1 S.2.1 dX8_append_88 rfl ?_
          refine lv_bipush (v := 8) S.1 S.2.1 dX8_append_90 rfl ?_
          refine lv_iload S.1 S.2.1 dX8_append_92 (lv_at hl 7 rfl) ?_
          refine lv_iconst (v := 4) S.1 S.2.1 dX8_append_94 rfl ?_
          obtain ⟨h_20, hf⟩ := hf
          refine lv_irem S.1 S.2.1 dX8_append_95 h_20 ?_
          refine lv_imul S.1 S.2.1 dX8_append_96 ?_
          refine lv_isub S.1 S.2.1 dX8_append_97 ?_
          refine lv_ishr S.1 S.2.1 dX8_append_98 ?_
          refine lv_sipush (v := 255) S.1 S.2.1 dX8_append_99 rfl ?_
          refine lv_iand S.1 S.2.1 dX8_append_102 ?_
          obtain ⟨h_21, hf⟩ := hf
          refine nm_o hf (fun I_22 eI_22 hf => ?_)
          refine R_iast S.1 S.2.1 hK hP hD hS (h12 1 (by decide)) (IAm1 E) h_21 dX8_append_103 eI_22 (fun H locs hP hD hS => ?_)
          refine lv_aload_n S.1 S.2.1 dX8_append_104 rfl (lv_at hl 1 rfl) ?_
          refine lv_dup S.1 S.2.1 dX8_append_105 rfl ?_
          refine gfX8_2 S iX8 hK hP (h12 0 (by decide)) k2 dX8_append_106 ?_
          refine lv_iconst (v := 1) S.1 S.2.1 dX8_append_109 rfl ?_
          refine lv_iadd S.1 S.2.1 dX8_append_110 ?_
          refine nm_o hf (fun I_23 eI_23 hf => ?_)
          refine pfX8_2 S iX8 hK hP hD hS (h12 0 (by decide)) k2 dX8_append_111 eI_23 (fun H locs hP hD hS => ?_)
          refine nm_o hf (fun x6_24 ex6_24 hf => ?_)
          refine lv_iinc (v := x6_24) (lv' := [(6, .int x6_24), (7, .int s_17), (0, .ref (eA E 12 0)), (1, .int x1_3), (2, .int x2_4), (3, .int x3_5), (4, .int x4_6), (5, .int x5_7)]) S.1 S.2.1 dX8_append_114 hl (k := 7) rfl (by rw [ex6_24]; rfl) (by decide) rfl (fun ls hl => ?_)
          refine lv_goto (tgt := 23) S.1 S.2.1 dX8_append_117 (by decide) ?_
          exact ih23 _ _ _ hf _ _ _ hP hD hS (lv_sub hl [2, 3, 4, 5, 6, 7, 0] rfl)
        intro H locs ls hP hD hS hl
        unfold f_X8_append_B23 at hf
        refine lv_iload S.1 S.2.1 dX8_append_23 (lv_at hl 6 rfl) ?_
        refine lv_bipush (v := 20) S.1 S.2.1 dX8_append_25 rfl ?_
        refine lv_icmp_ge (tgt := 120) S.1 S.2.1 dX8_append_27 (by decide) (fun h_11 => ?_) (fun h_11 => ?_)
        · have hf := hf.1 h_11
          exact kx120 _ _ hf _ _ _ hP hD hS (lv_sub hl [0] rfl)
        · have hf := hf.2 h_11
          refine lv_iload S.1 S.2.1 dX8_append_30 (lv_at hl 6 rfl) ?_
          refine lv_iconst (v := 4) S.1 S.2.1 dX8_append_32 rfl ?_
          refine lv_icmp_ge (tgt := 40) S.1 S.2.1 dX8_append_33 (by decide) (fun h_12 => ?_) (fun h_12 => ?_)
          · have hf := hf.1 h_12
            refine lv_iload S.1 S.2.1 dX8_append_40 (lv_at hl 6 rfl) ?_
            refine lv_bipush (v := 8) S.1 S.2.1 dX8_append_42 rfl ?_
            refine lv_icmp_ge (tgt := 51) S.1 S.2.1 dX8_append_44 (by decide) (fun h_13 => ?_) (fun h_13 => ?_)
            · have hf := hf.1 h_13
              refine lv_iload S.1 S.2.1 dX8_append_51 (lv_at hl 6 rfl) ?_
              refine lv_bipush (v := 12) S.1 S.2.1 dX8_append_53 rfl ?_
              refine lv_icmp_ge (tgt := 62) S.1 S.2.1 dX8_append_55 (by decide) (fun h_14 => ?_) (fun h_14 => ?_)
              · have hf := hf.1 h_14
                refine lv_iload S.1 S.2.1 dX8_append_62 (lv_at hl 6 rfl) ?_
                refine lv_bipush (v := 16) S.1 S.2.1 dX8_append_64 rfl ?_
                refine lv_icmp_ge (tgt := 74) S.1 S.2.1 dX8_append_66 (by decide) (fun h_15 => ?_) (fun h_15 => ?_)
                · have hf := hf.1 h_15
                  refine lv_iload S.1 S.2.1 dX8_append_74 (lv_at hl 5 rfl) ?_
                  exact jn76 _ _ _ _ hf _ _ _ hP hD hS (lv_sub hl [0, 1, 2, 3, 4, 5, 6] rfl)
                · have hf := hf.2 h_15
                  refine lv_iload S.1 S.2.1 dX8_append_69 (lv_at hl 4 rfl) ?_
                  refine lv_goto (tgt := 76) S.1 S.2.1 dX8_append_71 (by decide) ?_
                  exact jn76 _ _ _ _ hf _ _ _ hP hD hS (lv_sub hl [0, 1, 2, 3, 4, 5, 6] rfl)
              · have hf := hf.2 h_14
                refine lv_iload_n S.1 S.2.1 dX8_append_58 rfl (lv_at hl 3 rfl) ?_
                refine lv_goto (tgt := 76) S.1 S.2.1 dX8_append_59 (by decide) ?_
                exact jn76 _ _ _ _ hf _ _ _ hP hD hS (lv_sub hl [0, 1, 2, 3, 4, 5, 6] rfl)
            · have hf := hf.2 h_13
              refine lv_iload_n S.1 S.2.1 dX8_append_47 rfl (lv_at hl 2 rfl) ?_
              refine lv_goto (tgt := 76) S.1 S.2.1 dX8_append_48 (by decide) ?_
              exact jn76 _ _ _ _ hf _ _ _ hP hD hS (lv_sub hl [0, 1, 2, 3, 4, 5, 6] rfl)
          · have hf := hf.2 h_12
            refine lv_iload_n S.1 S.2.1 dX8_append_36 rfl (lv_at hl 1 rfl) ?_
            refine lv_goto (tgt := 76) S.1 S.2.1 dX8_append_37 (by decide) ?_
            exact jn76 _ _ _ _ hf _ _ _ hP hD hS (lv_sub hl [0, 1, 2, 3, 4, 5, 6] rfl)
    refine L23 _ _ _ _ _ _ (fun I_25 J_26 hf H locs ls hP hD hS hl => ?_)  n_27 _ _ _ hf _ _ _ hP hD hS (lv_sub hl [1, 2, 3, 4, 5, 6, 0] rfl)
    refine lv_aload_n S.1 S.2.1 dX8_append_120 rfl (lv_at hl 0 rfl) ?_
    refine gfX8_2 S iX8 hK hP (h12 0 (by decide)) k2 dX8_append_121 ?_
    exact hret hf rfl hP hD hS dX8_append_124
  · have hf := hf.2 h_2
    refine lv_iconst (v := (-1)) S.1 S.2.1 dX8_append_18 rfl ?_
    exact hret hf rfl hP hD hS dX8_append_19
abbrev rmX8_byteAt : Room := { frames := 0, cells := 0, slots := 0, locals := 0 }
theorem yk_X8_byteAt : yOk yX8_byteAt RX8 1 := by unfold yOk; decide +kernel
def f_X8_byteAt (x1 : Int32) (I : MI) (J : MJ) (Q : Int32 → MI → MJ → Prop) : Prop :=
  (((I 12 0 3) ≤ x1 → Q (-1 : Int32) I J) ∧ (¬ (I 12 0 3) ≤ x1 → (vp_in x1 600 ∧ Q (I 12 1 x1.toNatClampNeg) I J)))
set_option maxRecDepth 100000 in
set_option maxHeartbeats 4000000 in
theorem c_X8_byteAt {l : Launch} {E : EV} {ps : List (Nat × Nat)} (h12 : ∀ r, r < 17 → (12, r) ∈ ps) {x1 : Int32} {I : MI} {J : MJ} {Q : Int32 → MI → MJ → Prop} (hf : f_X8_byteAt x1 I J Q) : KI l yX8_byteAt wsX8_byteAt rmX8_byteAt E ps [.ref (eA E 12 0), .int x1] I J Q := by
  refine K_ofI (cc := cX8_byteAt) (maxL := 2) (ty := .int) (by decide +kernel) rfl (Nat.le_of_ble_eq_true rfl) (fun p e s m args below meth c Qm hret S hK hX => ?_)
  have hA : ∀ q, s.heap.size ≤ q → AA E ps s.heap.size q := fun _ h => Or.inr h
  have k1 := S.2.2.2.2 (.fieldLink RX8 62 "RhymeRoofsModel" "textLength" "I") (by decide +kernel)
  have iX8 : ∀ w ∈ wsX80, w ∈ wsX8_byteAt := fun _ h => List.mem_cons_of_mem _ (List.mem_append_right _ h)
  have k2 := S.2.2.2.2 (.fieldLink RX8 9 "RhymeRoofsModel" "buffer" "[I") (by decide +kernel)
  intro H locs ls hP hD hS hl
  unfold f_X8_byteAt at hf
  refine lv_iload_n S.1 S.2.1 dX8_byteAt_0 rfl (lv_at hl 1 rfl) ?_
  refine lv_aload_n S.1 S.2.1 dX8_byteAt_1 rfl (lv_at hl 0 rfl) ?_
  refine gfX8_3 S iX8 hK hP (h12 0 (by decide)) k1 dX8_byteAt_2 ?_
  refine lv_icmp_ge (tgt := 17) S.1 S.2.1 dX8_byteAt_5 (by decide) (fun h_1 => ?_) (fun h_1 => ?_)
  · have hf := hf.1 h_1
    refine lv_iconst (v := (-1)) S.1 S.2.1 dX8_byteAt_17 rfl ?_
    exact hret hf rfl hP hD hS dX8_byteAt_18
  · have hf := hf.2 h_1
    refine lv_aload_n S.1 S.2.1 dX8_byteAt_8 rfl (lv_at hl 0 rfl) ?_
    refine gfX8_1 S iX8 hK hP (h12 0 (by decide)) k2 dX8_byteAt_9 ?_
    refine lv_iload_n S.1 S.2.1 dX8_byteAt_12 rfl (lv_at hl 1 rfl) ?_
    obtain ⟨h_2, hf⟩ := hf
    refine R_iald S.1 S.2.1 hK hP (h12 1 (by decide)) (IAm1 E) h_2 dX8_byteAt_13 ?_
    refine lv_goto (tgt := 18) S.1 S.2.1 dX8_byteAt_14 (by decide) ?_
    exact hret hf rfl hP hD hS dX8_byteAt_18
abbrev rmX8_ahead : Room := { frames := 1, cells := 0, slots := 0, locals := 21 }
theorem yk_X8_ahead : yOk yX8_ahead RX8 0 := by unfold yOk; decide +kernel
def f_X8_ahead_B0 (K26 : MI → MJ → Prop) (rec0 : MI → MJ → Prop) (I_1 : MI) (J_2 : MJ) : Prop :=
  f_X8_byteAt (I_1 12 0 4) I_1 J_2 (fun (v_5 : Int32) (I_3 : MI) (J_4 : MJ) => ((v_5 = (32 : Int32) → ∀ I_7 : MI, I_7 = sI I_3 12 0 4 ((I_3 12 0 4) + (1 : Int32)) → rec0 I_7 J_4) ∧ (¬ v_5 = (32 : Int32) → K26 I_3 J_4)))
def f_X8_ahead_L0 (K26 : MI → MJ → Prop) : Nat → MI → MJ → Prop
  | 0, _, _ => False
  | n + 1, I_1, J_2 => f_X8_ahead_B0 K26 (f_X8_ahead_L0 K26 n) I_1 J_2
def f_X8_ahead (I : MI) (J : MJ) (Q : Int32 → MI → MJ → Prop) : Prop :=
  ∃ n : Nat, f_X8_ahead_L0 (fun (I_8 : MI) (J_9 : MJ) => f_X8_byteAt (I_8 12 0 4) I_8 J_9 (fun (v_12 : Int32) (I_10 : MI) (J_11 : MJ) => Q v_12 I_10 J_11)) n  I J
set_option maxRecDepth 100000 in
set_option maxHeartbeats 4000000 in
theorem c_X8_ahead {l : Launch} {E : EV} {ps : List (Nat × Nat)} (h12 : ∀ r, r < 17 → (12, r) ∈ ps) {I : MI} {J : MJ} {Q : Int32 → MI → MJ → Prop} (hf : f_X8_ahead I J Q) : KI l yX8_ahead wsX8_ahead rmX8_ahead E ps [.ref (eA E 12 0)] I J Q := by
  refine K_ofI (cc := cX8_ahead) (maxL := 1) (ty := .int) (by decide +kernel) rfl (Nat.le_of_ble_eq_true rfl) (fun p e s m args below meth c Qm hret S hK hX => ?_)
  have hA : ∀ q, s.heap.size ≤ q → AA E ps s.heap.size q := fun _ h => Or.inr h
  have k1 := S.2.2.2.2 (.fieldLink RX8 65 "RhymeRoofsModel" "position" "I") (by decide +kernel)
  have iX8 : ∀ w ∈ wsX80, w ∈ wsX8_ahead := fun _ h => List.mem_cons_of_mem _ (List.mem_append_right _ h)
  intro H locs ls hP hD hS hl
  unfold f_X8_ahead at hf
  obtain ⟨n_13, hf⟩ := hf
  have L0 : ∀ (K26 : MI → MJ → Prop), (∀ (I_8 : MI) (J_9 : MJ), K26 I_8 J_9 → Wj p l e (rmX8_ahead) s m args below meth c Qm E ps 1 I_8 J_9 26 [(0, .ref (eA E 12 0))] []) → ∀ (n : Nat) (I_1 : MI) (J_2 : MJ), f_X8_ahead_L0 K26 n I_1 J_2 → Wj p l e (rmX8_ahead) s m args below meth c Qm E ps 1 I_1 J_2 0 [(0, .ref (eA E 12 0))] [] := by
    intro K26 kx26 n
    induction n with
    | zero => intro I_1 J_2 hf; exact hf.elim
    | succ n ih0 =>
      intro I_1 J_2 hf
      have hf : f_X8_ahead_B0 K26 (f_X8_ahead_L0 K26 n) I_1 J_2 := hf
      intro H locs ls hP hD hS hl
      unfold f_X8_ahead_B0 at hf
      refine lv_aload_n S.1 S.2.1 dX8_ahead_0 rfl (lv_at hl 0 rfl) ?_
      refine lv_aload_n S.1 S.2.1 dX8_ahead_1 rfl (lv_at hl 0 rfl) ?_
      refine gfX8_4 S iX8 hK hP (h12 0 (by decide)) k1 dX8_ahead_2 ?_
      refine R_cVi (As := [.int (I_1 12 0 4)]) (rest := []) S (c_X8_byteAt (h12 := h12)  hf) gX8_ahead_X8_byteAt rfl yk_X8_byteAt ⟨⟨Nat.le_of_ble_eq_true rfl, Nat.le_of_ble_eq_true rfl⟩, rfl, rfl⟩ hK hP hD hS hX hA (h12 0 (by decide)) (cF_m E _ _ 0) rfl rfl hl.1 rfl (Nat.le_of_ble_eq_true rfl) ⟨Nat.zero_le _, Nat.zero_le _⟩ dX8_ahead_5 (fun v_5 I_3 J_4 H locs hf hP hD hS => ?_)
      refine lv_bipush (v := 32) S.1 S.2.1 dX8_ahead_8 rfl ?_
      refine lv_icmp_ne (tgt := 26) S.1 S.2.1 dX8_ahead_10 (by decide) (fun h_6 => ?_) (fun h_6 => ?_)
      · have hf := hf.2 h_6
        exact kx26 _ _ hf _ _ _ hP hD hS (lv_sub hl [0] rfl)
      · have hf := hf.1 h_6
        refine lv_aload_n S.1 S.2.1 dX8_ahead_13 rfl (lv_at hl 0 rfl) ?_
        refine lv_dup S.1 S.2.1 dX8_ahead_14 rfl ?_
        refine gfX8_4 S iX8 hK hP (h12 0 (by decide)) k1 dX8_ahead_15 ?_
        refine lv_iconst (v := 1) S.1 S.2.1 dX8_ahead_18 rfl ?_
        refine lv_iadd S.1 S.2.1 dX8_ahead_19 ?_
        refine nm_o hf (fun I_7 eI_7 hf => ?_)
        refine pfX8_4 S iX8 hK hP hD hS (h12 0 (by decide)) k1 dX8_ahead_20 eI_7 (fun H locs hP hD hS => ?_)
        refine lv_goto (tgt := 0) S.1 S.2.1 dX8_ahead_23 (by decide) ?_
        exact ih0 _ _ hf _ _ _ hP hD hS (lv_sub hl [0] rfl)
  refine L0 _ (fun I_8 J_9 hf H locs ls hP hD hS hl => ?_)  n_13  _ _ hf _ _ _ hP hD hS (lv_sub hl [0] rfl)
  refine lv_aload_n S.1 S.2.1 dX8_ahead_26 rfl (lv_at hl 0 rfl) ?_
  refine lv_aload_n S.1 S.2.1 dX8_ahead_27 rfl (lv_at hl 0 rfl) ?_
  refine gfX8_4 S iX8 hK hP (h12 0 (by decide)) k1 dX8_ahead_28 ?_
  refine R_cVi (As := [.int (I_8 12 0 4)]) (rest := []) S (c_X8_byteAt (h12 := h12)  hf) gX8_ahead_X8_byteAt rfl yk_X8_byteAt ⟨⟨Nat.le_of_ble_eq_true rfl, Nat.le_of_ble_eq_true rfl⟩, rfl, rfl⟩ hK hP hD hS hX hA (h12 0 (by decide)) (cF_m E _ _ 0) rfl rfl hl.1 rfl (Nat.le_of_ble_eq_true rfl) ⟨Nat.zero_le _, Nat.zero_le _⟩ dX8_ahead_31 (fun v_12 I_10 J_11 H locs hf hP hD hS => ?_)
  exact hret hf rfl hP hD hS dX8_ahead_34
abbrev rmX8_isGood : Room := { frames := 0, cells := 0, slots := 0, locals := 0 }
theorem yk_X8_isGood : yOk yX8_isGood RX8 0 := by unfold yOk; decide +kernel
def f_X8_isGood (I : MI) (J : MJ) (Q : Int32 → MI → MJ → Prop) : Prop :=
  (((I 12 0 5) = (0 : Int32) → Q (1 : Int32) I J) ∧ (¬ (I 12 0 5) = (0 : Int32) → Q (0 : Int32) I J))
set_option maxRecDepth 100000 in
set_option maxHeartbeats 4000000 in
theorem c_X8_isGood {l : Launch} {E : EV} {ps : List (Nat × Nat)} (h12 : ∀ r, r < 17 → (12, r) ∈ ps) {I : MI} {J : MJ} {Q : Int32 → MI → MJ → Prop} (hf : f_X8_isGood I J Q) : KI l yX8_isGood wsX8_isGood rmX8_isGood E ps [.ref (eA E 12 0)] I J Q := by
  refine K_ofI (cc := cX8_isGood) (maxL := 1) (ty := .boolean) (by decide +kernel) rfl (Nat.le_of_ble_eq_true rfl) (fun p e s m args below meth c Qm hret S hK hX => ?_)
  have hA : ∀ q, s.heap.size ≤ q → AA E ps s.heap.size q := fun _ h => Or.inr h
  have k1 := S.2.2.2.2 (.fieldLink RX8 71 "RhymeRoofsModel" "error" "I") (by decide +kernel)
  have iX8 : ∀ w ∈ wsX80, w ∈ wsX8_isGood := fun _ h => List.mem_cons_of_mem _ (List.mem_append_right _ h)
  intro H locs ls hP hD hS hl
  unfold f_X8_isGood at hf
  refine lv_aload_n S.1 S.2.1 dX8_isGood_0 rfl (lv_at hl 0 rfl) ?_
  refine gfX8_5 S iX8 hK hP (h12 0 (by decide)) k1 dX8_isGood_1 ?_
  refine lv_if_ne (tgt := 11) S.1 S.2.1 dX8_isGood_4 (by decide) (fun h_1 => ?_) (fun h_1 => ?_)
  · have hf := hf.2 h_1
    refine lv_iconst (v := 0) S.1 S.2.1 dX8_isGood_11 rfl ?_
    exact hret hf rfl hP hD hS dX8_isGood_12
  · have hf := hf.1 h_1
    refine lv_iconst (v := 1) S.1 S.2.1 dX8_isGood_7 rfl ?_
    refine lv_goto (tgt := 12) S.1 S.2.1 dX8_isGood_8 (by decide) ?_
    exact hret hf rfl hP hD hS dX8_isGood_12
abbrev rmX8_report : Room := { frames := 0, cells := 0, slots := 0, locals := 0 }
theorem yk_X8_report : yOk yX8_report RX8 2 := by unfold yOk; decide +kernel
def f_X8_report (x1 : Int32) (x2 : Int32) (I : MI) (J : MJ) (Q : MI → MJ → Prop) : Prop :=
  (((I 12 0 5) = (0 : Int32) → ∀ I_2 : MI, I_2 = sI I 12 0 5 x1 → ∀ I_3 : MI, I_3 = sI I_2 12 0 6 x2 → Q I_3 J) ∧ (¬ (I 12 0 5) = (0 : Int32) → Q I J))
set_option maxRecDepth 100000 in
set_option maxHeartbeats 4000000 in
theorem c_X8_report {l : Launch} {E : EV} {ps : List (Nat × Nat)} (h12 : ∀ r, r < 17 → (12, r) ∈ ps) {x1 : Int32} {x2 : Int32} {I : MI} {J : MJ} {Q : MI → MJ → Prop} (hf : f_X8_report x1 x2 I J Q) : KV l yX8_report wsX8_report rmX8_report E ps [.ref (eA E 12 0), .int x1, .int x2] I J Q := by
  refine K_ofV (cc := cX8_report) (maxL := 3) (by decide +kernel) rfl (Nat.le_of_ble_eq_true rfl) (fun p e s m args below meth c Qm hret S hK hX => ?_)
  have hA : ∀ q, s.heap.size ≤ q → AA E ps s.heap.size q := fun _ h => Or.inr h
  have k1 := S.2.2.2.2 (.fieldLink RX8 71 "RhymeRoofsModel" "error" "I") (by decide +kernel)
  have iX8 : ∀ w ∈ wsX80, w ∈ wsX8_report := fun _ h => List.mem_cons_of_mem _ (List.mem_append_right _ h)
  have k2 := S.2.2.2.2 (.fieldLink RX8 74 "RhymeRoofsModel" "errorAt" "I") (by decide +kernel)
  intro H locs ls hP hD hS hl
  unfold f_X8_report at hf
  refine lv_aload_n S.1 S.2.1 dX8_report_0 rfl (lv_at hl 0 rfl) ?_
  refine gfX8_5 S iX8 hK hP (h12 0 (by decide)) k1 dX8_report_1 ?_
  refine lv_if_eq (tgt := 8) S.1 S.2.1 dX8_report_4 (by decide) (fun h_1 => ?_) (fun h_1 => ?_)
  · have hf := hf.1 h_1
    refine lv_aload_n S.1 S.2.1 dX8_report_8 rfl (lv_at hl 0 rfl) ?_
    refine lv_iload_n S.1 S.2.1 dX8_report_9 rfl (lv_at hl 1 rfl) ?_
    refine nm_o hf (fun I_2 eI_2 hf => ?_)
    refine pfX8_5 S iX8 hK hP hD hS (h12 0 (by decide)) k1 dX8_report_10 eI_2 (fun H locs hP hD hS => ?_)
    refine lv_aload_n S.1 S.2.1 dX8_report_13 rfl (lv_at hl 0 rfl) ?_
    refine lv_iload_n S.1 S.2.1 dX8_report_14 rfl (lv_at hl 2 rfl) ?_
    refine nm_o hf (fun I_3 eI_3 hf => ?_)
    refine pfX8_6 S iX8 hK hP hD hS (h12 0 (by decide)) k2 dX8_report_15 eI_3 (fun H locs hP hD hS => ?_)
    exact hret hf hP hD hS dX8_report_18
  · have hf := hf.2 h_1
    exact hret hf hP hD hS dX8_report_7
abbrev rmX8_isDigit : Room := { frames := 1, cells := 0, slots := 0, locals := 22 }
theorem yk_X8_isDigit : yOk yX8_isDigit RX8 1 := by unfold yOk; decide +kernel
def f_X8_isDigit (x0 : Int32) (I : MI) (J : MJ) (Q : Int32 → MI → MJ → Prop) : Prop :=
  f_X8_in x0 (48 : Int32) (57 : Int32) I J (fun (v_3 : Int32) (I_1 : MI) (J_2 : MJ) => (bo v_3 ∧ Q v_3 I_1 J_2))
set_option maxRecDepth 100000 in
set_option maxHeartbeats 4000000 in
theorem c_X8_isDigit {l : Launch} {E : EV} {ps : List (Nat × Nat)}  {x0 : Int32} {I : MI} {J : MJ} {Q : Int32 → MI → MJ → Prop} (hf : f_X8_isDigit x0 I J Q) : KI l yX8_isDigit wsX8_isDigit rmX8_isDigit E ps [.int x0] I J Q := by
  refine K_ofI (cc := cX8_isDigit) (maxL := 1) (ty := .boolean) (by decide +kernel) rfl (Nat.le_of_ble_eq_true rfl) (fun p e s m args below meth c Qm hret S hK hX => ?_)
  have hA : ∀ q, s.heap.size ≤ q → AA E ps s.heap.size q := fun _ h => Or.inr h
  intro H locs ls hP hD hS hl
  unfold f_X8_isDigit at hf
  refine lv_iload_n S.1 S.2.1 dX8_isDigit_0 rfl (lv_at hl 0 rfl) ?_
  refine lv_bipush (v := 48) S.1 S.2.1 dX8_isDigit_1 rfl ?_
  refine lv_bipush (v := 57) S.1 S.2.1 dX8_isDigit_3 rfl ?_
  refine R_cSi (As := [.int x0, .int (48 : Int32), .int (57 : Int32)]) (rest := []) S (c_X8_in   hf) gX8_isDigit_X8_in rfl yk_X8_in ⟨⟨Nat.le_of_ble_eq_true rfl, Nat.le_of_ble_eq_true rfl⟩, rfl, rfl⟩ hK hP hD hS hX hA rfl hl.1 rfl (Nat.le_of_ble_eq_true rfl) ⟨Nat.zero_le _, Nat.zero_le _⟩ dX8_isDigit_5 (fun v_3 I_1 J_2 H locs hf hP hD hS => ?_)
  obtain ⟨h_4, hf⟩ := hf
  exact hret hf h_4.1 hP hD hS dX8_isDigit_8
