abbrev rmX1_putLetters : Room := { frames := 2, cells := 0, slots := 0, locals := 47 }
theorem yk_X1_putLetters : yOk yX1_putLetters RX1 2 := by unfold yOk; decide +kernel
def f_X1_putLetters_B9 (b : Nat) (x1_4 : Int64) (x3_5 : Int32) (x4_6 : Int32) (K65 : MI → MJ → Prop) (rec9 : Int32 → MI → MJ → Prop) (x5_7 : Int32) (I_8 : MI) (J_9 : MJ) : Prop :=
  ((x4_6 ≤ x5_7 → K65 I_8 J_9) ∧ (¬ x4_6 ≤ x5_7 → (vp_in x3_5 6 ∧ (((40 : Int32) ≤ (I_8 b 8 x3_5.toNatClampNeg) → K65 I_8 J_9) ∧ (¬ (40 : Int32) ≤ (I_8 b 8 x3_5.toNatClampNeg) → (vp_in x3_5 6 ∧ f_X6_letterAt x1_4 x5_7 I_8 J_9 (fun (v_16 : Int32) (I_14 : MI) (J_15 : MJ) => (vp_in ((x3_5 * (40 : Int32)) + (I_8 b 8 x3_5.toNatClampNeg)) 240 ∧ ∀ I_18 : MI, I_18 = sI I_14 b 7 ((x3_5 * (40 : Int32)) + (I_8 b 8 x3_5.toNatClampNeg)).toNatClampNeg v_16 → (vp_in x3_5 6 ∧ (vp_in x3_5 6 ∧ ∀ I_21 : MI, I_21 = sI I_18 b 8 x3_5.toNatClampNeg ((I_18 b 8 x3_5.toNatClampNeg) + (1 : Int32)) → ∀ x5_22 : Int32, x5_22 = x5_7 + (1 : Int32) → rec9 x5_22 I_21 J_15))))))))))
def f_X1_putLetters_L9 (b : Nat) (x1_4 : Int64) (x3_5 : Int32) (x4_6 : Int32) (K65 : MI → MJ → Prop) : Nat → Int32 → MI → MJ → Prop
  | 0, _, _, _ => False
  | n + 1, x5_7, I_8, J_9 => f_X1_putLetters_B9 b x1_4 x3_5 x4_6 K65 (f_X1_putLetters_L9 b x1_4 x3_5 x4_6 K65 n) x5_7 I_8 J_9
def f_X1_putLetters (b : Nat) (x1 : Int64) (x3 : Int32) (I : MI) (J : MJ) (Q : MI → MJ → Prop) : Prop :=
  f_X6_length x1 I J (fun (v_3 : Int32) (I_1 : MI) (J_2 : MJ) => ∃ n : Nat, f_X1_putLetters_L9 b x1 x3 v_3 (fun (I_23 : MI) (J_24 : MJ) => Q I_23 J_24) n (0 : Int32) I_1 J_2)
set_option maxRecDepth 100000 in
set_option maxHeartbeats 4000000 in
theorem c_X1_putLetters {l : Launch} {E : EV} {ps : List (Nat × Nat)} {b : Nat} (hB : b < 11) (hM : ∀ r, r < 16 → (b, r) ∈ ps) {x1 : Int64} {x3 : Int32} {I : MI} {J : MJ} {Q : MI → MJ → Prop} (hf : f_X1_putLetters b x1 x3 I J Q) : KV l yX1_putLetters wsX1_putLetters rmX1_putLetters E ps [.ref (eA E b 0), .long x1, .int x3] I J Q := by
  refine K_ofV (cc := cX1_putLetters) (maxL := 6) (by decide +kernel) rfl (Nat.le_of_ble_eq_true rfl) (fun p e s m args below meth c Qm hret S hK hX => ?_)
  have hA : ∀ q, s.heap.size ≤ q → AA E ps s.heap.size q := fun _ h => Or.inr h
  have k1 := S.2.2.2.2 (.fieldLink RX1 22 "RhymeRoofs$Game" "lettersOn" "[I") (by decide +kernel)
  have iX1 : ∀ w ∈ wsX10, w ∈ wsX1_putLetters := fun _ h => List.mem_cons_of_mem _ (List.mem_append_right _ h)
  have k2 := S.2.2.2.2 (.fieldLink RX1 18 "RhymeRoofs$Game" "letters" "[I") (by decide +kernel)
  intro H locs ls hP hD hS hl
  unfold f_X1_putLetters at hf
  refine lv_lload_n S.1 S.2.1 dX1_putLetters_0 rfl (lv_at hl 1 rfl) ?_
  refine R_cSi (As := [.long x1]) (rest := []) S (c_X6_length   hf) gX1_putLetters_X6_length rfl yk_X6_length ⟨⟨Nat.le_of_ble_eq_true rfl, Nat.le_of_ble_eq_true rfl⟩, rfl, rfl⟩ hK hP hD hS hX hA rfl hl.1 rfl (Nat.le_of_ble_eq_true rfl) ⟨Nat.zero_le _, Nat.zero_le _⟩ dX1_putLetters_1 (fun v_3 I_1 J_2 H locs hf hP hD hS => ?_)
  refine lv_istore (lv' := [(4, .int v_3), (0, .ref (eA E b 0)), (1, .long x1), (3, .int x3)]) S.1 S.2.1 dX1_putLetters_4 hl (by decide) rfl (fun ls hl => ?_)
  refine lv_iconst (v := 0) S.1 S.2.1 dX1_putLetters_6 rfl ?_
  refine lv_istore (lv' := [(5, .int (0 : Int32)), (4, .int v_3), (0, .ref (eA E b 0)), (1, .long x1), (3, .int x3)]) S.1 S.2.1 dX1_putLetters_7 hl (by decide) rfl (fun ls hl => ?_)
  obtain ⟨n_25, hf⟩ := hf
  have L9 : ∀ (x1_4 : Int64), ∀ (x3_5 : Int32), ∀ (x4_6 : Int32), ∀ (K65 : MI → MJ → Prop), (∀ (I_23 : MI) (J_24 : MJ), K65 I_23 J_24 → Wj p l e (rmX1_putLetters) s m args below meth c Qm E ps 6 I_23 J_24 65 [] []) → ∀ (n : Nat) (x5_7 : Int32) (I_8 : MI) (J_9 : MJ), f_X1_putLetters_L9 b x1_4 x3_5 x4_6 K65 n x5_7 I_8 J_9 → Wj p l e (rmX1_putLetters) s m args below meth c Qm E ps 6 I_8 J_9 9 [(0, .ref (eA E b 0)), (1, .long x1_4), (3, .int x3_5), (4, .int x4_6), (5, .int x5_7)] [] := by
    intro x1_4 x3_5 x4_6 K65 kx65 n
    induction n with
    | zero => intro x5_7 I_8 J_9 hf; exact hf.elim
    | succ n ih9 =>
      intro x5_7 I_8 J_9 hf
      have hf : f_X1_putLetters_B9 b x1_4 x3_5 x4_6 K65 (f_X1_putLetters_L9 b x1_4 x3_5 x4_6 K65 n) x5_7 I_8 J_9 := hf
      intro H locs ls hP hD hS hl
      unfold f_X1_putLetters_B9 at hf
      refine lv_iload S.1 S.2.1 dX1_putLetters_9 (lv_at hl 4 rfl) ?_
      refine lv_iload S.1 S.2.1 dX1_putLetters_11 (lv_at hl 3 rfl) ?_
      refine lv_icmp_ge (tgt := 65) S.1 S.2.1 dX1_putLetters_13 (by decide) (fun h_10 => ?_) (fun h_10 => ?_)
      · have hf := hf.1 h_10
        exact kx65 _ _ hf _ _ _ hP hD hS (lv_sub hl [] rfl)
      · have hf := hf.2 h_10
        refine lv_aload_n S.1 S.2.1 dX1_putLetters_16 rfl (lv_at hl 0 rfl) ?_
        refine gfX1_2 S iX1 hK hP hB (hM 0 (by decide)) k1 dX1_putLetters_17 ?_
        refine lv_iload_n S.1 S.2.1 dX1_putLetters_20 rfl (lv_at hl 2 rfl) ?_
        obtain ⟨h_11, hf⟩ := hf
        refine R_iald S.1 S.2.1 hK hP (hM 8 (by decide)) (IAg8 E hB) h_11 dX1_putLetters_21 ?_
        refine lv_bipush (v := 40) S.1 S.2.1 dX1_putLetters_22 rfl ?_
        refine lv_icmp_ge (tgt := 65) S.1 S.2.1 dX1_putLetters_24 (by decide) (fun h_12 => ?_) (fun h_12 => ?_)
        · have hf := hf.1 h_12
          exact kx65 _ _ hf _ _ _ hP hD hS (lv_sub hl [] rfl)
        · have hf := hf.2 h_12
          refine lv_aload_n S.1 S.2.1 dX1_putLetters_27 rfl (lv_at hl 0 rfl) ?_
          refine gfX1_1 S iX1 hK hP hB (hM 0 (by decide)) k2 dX1_putLetters_28 ?_
          refine lv_iload_n S.1 S.2.1 dX1_putLetters_31 rfl (lv_at hl 2 rfl) ?_
          refine lv_bipush (v := 40) S.1 S.2.1 dX1_putLetters_32 rfl ?_
          refine lv_imul S.1 S.2.1 dX1_putLetters_34 ?_
          refine lv_aload_n S.1 S.2.1 dX1_putLetters_35 rfl (lv_at hl 0 rfl) ?_
          refine gfX1_2 S iX1 hK hP hB (hM 0 (by decide)) k1 dX1_putLetters_36 ?_
          refine lv_iload_n S.1 S.2.1 dX1_putLetters_39 rfl (lv_at hl 2 rfl) ?_
          obtain ⟨h_13, hf⟩ := hf
          refine R_iald S.1 S.2.1 hK hP (hM 8 (by decide)) (IAg8 E hB) h_13 dX1_putLetters_40 ?_
          refine lv_iadd S.1 S.2.1 dX1_putLetters_41 ?_
          refine lv_lload_n S.1 S.2.1 dX1_putLetters_42 rfl (lv_at hl 1 rfl) ?_
          refine lv_iload S.1 S.2.1 dX1_putLetters_43 (lv_at hl 4 rfl) ?_
          refine R_cSi (As := [.long x1_4, .int x5_7]) (rest := [.int ((x3_5 * (40 : Int32)) + (I_8 b 8 x3_5.toNatClampNeg)), .ref (eA E b 7)]) S (c_X6_letterAt   hf) gX1_putLetters_X6_letterAt rfl yk_X6_letterAt ⟨⟨Nat.le_of_ble_eq_true rfl, Nat.le_of_ble_eq_true rfl⟩, rfl, rfl⟩ hK hP hD hS hX hA rfl hl.1 rfl (Nat.le_of_ble_eq_true rfl) ⟨Nat.zero_le _, Nat.zero_le _⟩ dX1_putLetters_45 (fun v_16 I_14 J_15 H locs hf hP hD hS => ?_)
          obtain ⟨h_17, hf⟩ := hf
          refine nm_o hf (fun I_18 eI_18 hf => ?_)
          refine R_iast S.1 S.2.1 hK hP hD hS (hM 7 (by decide)) (IAg7 E hB) h_17 dX1_putLetters_48 eI_18 (fun H locs hP hD hS => ?_)
          refine lv_aload_n S.1 S.2.1 dX1_putLetters_49 rfl (lv_at hl 0 rfl) ?_
          refine gfX1_2 S iX1 hK hP hB (hM 0 (by decide)) k1 dX1_putLetters_50 ?_
          refine lv_iload_n S.1 S.2.1 dX1_putLetters_53 rfl (lv_at hl 2 rfl) ?_
          refine lv_dup2_11 S.1 S.2.1 dX1_putLetters_54 rfl rfl ?_
          obtain ⟨h_19, hf⟩ := hf
          refine R_iald S.1 S.2.1 hK hP (hM 8 (by decide)) (IAg8 E hB) h_19 dX1_putLetters_55 ?_
          refine lv_iconst (v := 1) S.1 S.2.1 dX1_putLetters_56 rfl ?_
          refine lv_iadd S.1 S.2.1 dX1_putLetters_57 ?_
          obtain ⟨h_20, hf⟩ := hf
          refine nm_o hf (fun I_21 eI_21 hf => ?_)
          refine R_iast S.1 S.2.1 hK hP hD hS (hM 8 (by decide)) (IAg8 E hB) h_20 dX1_putLetters_58 eI_21 (fun H locs hP hD hS => ?_)
          refine nm_o hf (fun x5_22 ex5_22 hf => ?_)
          refine lv_iinc (v := x5_22) (lv' := [(5, .int x5_22), (0, .ref (eA E b 0)), (1, .long x1_4), (3, .int x3_5), (4, .int x4_6)]) S.1 S.2.1 dX1_putLetters_59 hl (k := 4) rfl (by rw [ex5_22]; rfl) (by decide) rfl (fun ls hl => ?_)
          refine lv_goto (tgt := 9) S.1 S.2.1 dX1_putLetters_62 (by decide) ?_
          exact ih9 _ _ _ hf _ _ _ hP hD hS (lv_sub hl [1, 2, 3, 4, 0] rfl)
  refine L9 _ _ _ _ (fun I_23 J_24 hf H locs ls hP hD hS hl => ?_)  n_25 _ _ _ hf _ _ _ hP hD hS (lv_sub hl [2, 3, 4, 1, 0] rfl)
  exact hret hf hP hD hS dX1_putLetters_65
abbrev rmX1_addWord : Room := { frames := 0, cells := 0, slots := 0, locals := 0 }
theorem yk_X1_addWord : yOk yX1_addWord RX1 2 := by unfold yOk; decide +kernel
def f_X1_addWord (b : Nat) (x1 : Int32) (x2 : Int64) (I : MI) (J : MJ) (Q : MI → MJ → Prop) : Prop :=
  (vp_in x1 4 ∧ (((8 : Int32) ≤ (I b 13 x1.toNatClampNeg) → Q I J) ∧ (¬ (8 : Int32) ≤ (I b 13 x1.toNatClampNeg) → (vp_in x1 4 ∧ (vp_in ((x1 * (8 : Int32)) + (I b 13 x1.toNatClampNeg)) 32 ∧ ∀ J_5 : MJ, J_5 = sJ J b 12 ((x1 * (8 : Int32)) + (I b 13 x1.toNatClampNeg)).toNatClampNeg x2 → (vp_in x1 4 ∧ (vp_in x1 4 ∧ ∀ I_8 : MI, I_8 = sI I b 13 x1.toNatClampNeg ((I b 13 x1.toNatClampNeg) + (1 : Int32)) → Q I_8 J_5)))))))
set_option maxRecDepth 100000 in
set_option maxHeartbeats 4000000 in
theorem c_X1_addWord {l : Launch} {E : EV} {ps : List (Nat × Nat)} {b : Nat} (hB : b < 11) (hM : ∀ r, r < 16 → (b, r) ∈ ps) {x1 : Int32} {x2 : Int64} {I : MI} {J : MJ} {Q : MI → MJ → Prop} (hf : f_X1_addWord b x1 x2 I J Q) : KV l yX1_addWord wsX1_addWord rmX1_addWord E ps [.ref (eA E b 0), .int x1, .long x2] I J Q := by
  refine K_ofV (cc := cX1_addWord) (maxL := 4) (by decide +kernel) rfl (Nat.le_of_ble_eq_true rfl) (fun p e s m args below meth c Qm hret S hK hX => ?_)
  have hA : ∀ q, s.heap.size ≤ q → AA E ps s.heap.size q := fun _ h => Or.inr h
  have k1 := S.2.2.2.2 (.fieldLink RX1 38 "RhymeRoofs$Game" "handSize" "[I") (by decide +kernel)
  have iX1 : ∀ w ∈ wsX10, w ∈ wsX1_addWord := fun _ h => List.mem_cons_of_mem _ (List.mem_append_right _ h)
  have k2 := S.2.2.2.2 (.fieldLink RX1 35 "RhymeRoofs$Game" "hands" "[J") (by decide +kernel)
  intro H locs ls hP hD hS hl
  unfold f_X1_addWord at hf
  refine lv_aload_n S.1 S.2.1 dX1_addWord_0 rfl (lv_at hl 0 rfl) ?_
  refine gfX1_7 S iX1 hK hP hB (hM 0 (by decide)) k1 dX1_addWord_1 ?_
  refine lv_iload_n S.1 S.2.1 dX1_addWord_4 rfl (lv_at hl 1 rfl) ?_
  obtain ⟨h_1, hf⟩ := hf
  refine R_iald S.1 S.2.1 hK hP (hM 13 (by decide)) (IAg13 E hB) h_1 dX1_addWord_5 ?_
  refine lv_bipush (v := 8) S.1 S.2.1 dX1_addWord_6 rfl ?_
  refine lv_icmp_ge (tgt := 38) S.1 S.2.1 dX1_addWord_8 (by decide) (fun h_2 => ?_) (fun h_2 => ?_)
  · have hf := hf.1 h_2
    exact hret hf hP hD hS dX1_addWord_38
  · have hf := hf.2 h_2
    refine lv_aload_n S.1 S.2.1 dX1_addWord_11 rfl (lv_at hl 0 rfl) ?_
    refine gfX1_6 S iX1 hK hP hB (hM 0 (by decide)) k2 dX1_addWord_12 ?_
    refine lv_iload_n S.1 S.2.1 dX1_addWord_15 rfl (lv_at hl 1 rfl) ?_
    refine lv_bipush (v := 8) S.1 S.2.1 dX1_addWord_16 rfl ?_
    refine lv_imul S.1 S.2.1 dX1_addWord_18 ?_
    refine lv_aload_n S.1 S.2.1 dX1_addWord_19 rfl (lv_at hl 0 rfl) ?_
    refine gfX1_7 S iX1 hK hP hB (hM 0 (by decide)) k1 dX1_addWord_20 ?_
    refine lv_iload_n S.1 S.2.1 dX1_addWord_23 rfl (lv_at hl 1 rfl) ?_
    obtain ⟨h_3, hf⟩ := hf
    refine R_iald S.1 S.2.1 hK hP (hM 13 (by decide)) (IAg13 E hB) h_3 dX1_addWord_24 ?_
    refine lv_iadd S.1 S.2.1 dX1_addWord_25 ?_
    refine lv_lload_n S.1 S.2.1 dX1_addWord_26 rfl (lv_at hl 2 rfl) ?_
    obtain ⟨h_4, hf⟩ := hf
    refine nm_o hf (fun J_5 eJ_5 hf => ?_)
    refine R_last S.1 S.2.1 hK hP hD hS (hM 12 (by decide)) (LAg12 E hB) h_4 dX1_addWord_27 eJ_5 (fun H locs hP hD hS => ?_)
    refine lv_aload_n S.1 S.2.1 dX1_addWord_28 rfl (lv_at hl 0 rfl) ?_
    refine gfX1_7 S iX1 hK hP hB (hM 0 (by decide)) k1 dX1_addWord_29 ?_
    refine lv_iload_n S.1 S.2.1 dX1_addWord_32 rfl (lv_at hl 1 rfl) ?_
    refine lv_dup2_11 S.1 S.2.1 dX1_addWord_33 rfl rfl ?_
    obtain ⟨h_6, hf⟩ := hf
    refine R_iald S.1 S.2.1 hK hP (hM 13 (by decide)) (IAg13 E hB) h_6 dX1_addWord_34 ?_
    refine lv_iconst (v := 1) S.1 S.2.1 dX1_addWord_35 rfl ?_
    refine lv_iadd S.1 S.2.1 dX1_addWord_36 ?_
    obtain ⟨h_7, hf⟩ := hf
    refine nm_o hf (fun I_8 eI_8 hf => ?_)
    refine R_iast S.1 S.2.1 hK hP hD hS (hM 13 (by decide)) (IAg13 E hB) h_7 dX1_addWord_37 eI_8 (fun H locs hP hD hS => ?_)
    exact hret hf hP hD hS dX1_addWord_38
abbrev rmX1_removeWord : Room := { frames := 0, cells := 0, slots := 0, locals := 0 }
theorem yk_X1_removeWord : yOk yX1_removeWord RX1 2 := by unfold yOk; decide +kernel
def f_X1_removeWord_B18 (b : Nat) (x1_5 : Int32) (x3_6 : Int32) (K55 : MI → MJ → Prop) (rec18 : Int32 → MI → MJ → Prop) (x4_7 : Int32) (I_8 : MI) (J_9 : MJ) : Prop :=
  (vp_in x1_5 4 ∧ (((I_8 b 13 x1_5.toNatClampNeg) ≤ x4_7 → K55 I_8 J_9) ∧ (¬ (I_8 b 13 x1_5.toNatClampNeg) ≤ x4_7 → (vp_in ((x3_6 + x4_7) + (1 : Int32)) 32 ∧ (vp_in (x3_6 + x4_7) 32 ∧ ∀ J_14 : MJ, J_14 = sJ J_9 b 12 (x3_6 + x4_7).toNatClampNeg (J_9 b 12 ((x3_6 + x4_7) + (1 : Int32)).toNatClampNeg) → ∀ x4_15 : Int32, x4_15 = x4_7 + (1 : Int32) → rec18 x4_15 I_8 J_14)))))
def f_X1_removeWord_L18 (b : Nat) (x1_5 : Int32) (x3_6 : Int32) (K55 : MI → MJ → Prop) : Nat → Int32 → MI → MJ → Prop
  | 0, _, _, _ => False
  | n + 1, x4_7, I_8, J_9 => f_X1_removeWord_B18 b x1_5 x3_6 K55 (f_X1_removeWord_L18 b x1_5 x3_6 K55 n) x4_7 I_8 J_9
def f_X1_removeWord (b : Nat) (x1 : Int32) (x2 : Int32) (I : MI) (J : MJ) (Q : MI → MJ → Prop) : Prop :=
  ∀ x3_1 : Int32, x3_1 = (x1 * (8 : Int32)) → (vp_in x1 4 ∧ (vp_in x1 4 ∧ ∀ I_4 : MI, I_4 = sI I b 13 x1.toNatClampNeg ((I b 13 x1.toNatClampNeg) - (1 : Int32)) → ∃ n : Nat, f_X1_removeWord_L18 b x1 x3_1 (fun (I_16 : MI) (J_17 : MJ) => Q I_16 J_17) n x2 I_4 J))
set_option maxRecDepth 100000 in
set_option maxHeartbeats 4000000 in
theorem c_X1_removeWord {l : Launch} {E : EV} {ps : List (Nat × Nat)} {b : Nat} (hB : b < 11) (hM : ∀ r, r < 16 → (b, r) ∈ ps) {x1 : Int32} {x2 : Int32} {I : MI} {J : MJ} {Q : MI → MJ → Prop} (hf : f_X1_removeWord b x1 x2 I J Q) : KV l yX1_removeWord wsX1_removeWord rmX1_removeWord E ps [.ref (eA E b 0), .int x1, .int x2] I J Q := by
  refine K_ofV (cc := cX1_removeWord) (maxL := 5) (by decide +kernel) rfl (Nat.le_of_ble_eq_true rfl) (fun p e s m args below meth c Qm hret S hK hX => ?_)
  have hA : ∀ q, s.heap.size ≤ q → AA E ps s.heap.size q := fun _ h => Or.inr h
  have k1 := S.2.2.2.2 (.fieldLink RX1 38 "RhymeRoofs$Game" "handSize" "[I") (by decide +kernel)
  have iX1 : ∀ w ∈ wsX10, w ∈ wsX1_removeWord := fun _ h => List.mem_cons_of_mem _ (List.mem_append_right _ h)
  have k2 := S.2.2.2.2 (.fieldLink RX1 35 "RhymeRoofs$Game" "hands" "[J") (by decide +kernel)
  intro H locs ls hP hD hS hl
  unfold f_X1_removeWord at hf
  refine lv_iload_n S.1 S.2.1 dX1_removeWord_0 rfl (lv_at hl 1 rfl) ?_
  refine lv_bipush (v := 8) S.1 S.2.1 dX1_removeWord_1 rfl ?_
  refine lv_imul S.1 S.2.1 dX1_removeWord_3 ?_
  refine lv_topi (fun x3_1 ex3_1 => ?_)
  have hf := hf x3_1 ex3_1
  refine lv_istore_n (lv' := [(3, .int x3_1), (0, .ref (eA E b 0)), (1, .int x1), (2, .int x2)]) S.1 S.2.1 dX1_removeWord_4 rfl hl (by decide) rfl (fun ls hl => ?_)
  refine lv_aload_n S.1 S.2.1 dX1_removeWord_5 rfl (lv_at hl 1 rfl) ?_
  refine gfX1_7 S iX1 hK hP hB (hM 0 (by decide)) k1 dX1_removeWord_6 ?_
  refine lv_iload_n S.1 S.2.1 dX1_removeWord_9 rfl (lv_at hl 2 rfl) ?_
  refine lv_dup2_11 S.1 S.2.1 dX1_removeWord_10 rfl rfl ?_
  obtain ⟨h_2, hf⟩ := hf
  refine R_iald S.1 S.2.1 hK hP (hM 13 (by decide)) (IAg13 E hB) h_2 dX1_removeWord_11 ?_
  refine lv_iconst (v := 1) S.1 S.2.1 dX1_removeWord_12 rfl ?_
  refine lv_isub S.1 S.2.1 dX1_removeWord_13 ?_
  obtain ⟨h_3, hf⟩ := hf
  refine nm_o hf (fun I_4 eI_4 hf => ?_)
  refine R_iast S.1 S.2.1 hK hP hD hS (hM 13 (by decide)) (IAg13 E hB) h_3 dX1_removeWord_14 eI_4 (fun H locs hP hD hS => ?_)
  refine lv_iload_n S.1 S.2.1 dX1_removeWord_15 rfl (lv_at hl 3 rfl) ?_
  refine lv_istore (lv' := [(4, .int x2), (3, .int x3_1), (0, .ref (eA E b 0)), (1, .int x1), (2, .int x2)]) S.1 S.2.1 dX1_removeWord_16 hl (by decide) rfl (fun ls hl => ?_)
  obtain ⟨n_18, hf⟩ := hf
  have L18 : ∀ (x1_5 : Int32), ∀ (x3_6 : Int32), ∀ (K55 : MI → MJ → Prop), (∀ (I_16 : MI) (J_17 : MJ), K55 I_16 J_17 → Wj p l e (rmX1_removeWord) s m args below meth c Qm E ps 5 I_16 J_17 55 [] []) → ∀ (n : Nat) (x4_7 : Int32) (I_8 : MI) (J_9 : MJ), f_X1_removeWord_L18 b x1_5 x3_6 K55 n x4_7 I_8 J_9 → Wj p l e (rmX1_removeWord) s m args below meth c Qm E ps 5 I_8 J_9 18 [(0, .ref (eA E b 0)), (1, .int x1_5), (3, .int x3_6), (4, .int x4_7)] [] := by
    intro x1_5 x3_6 K55 kx55 n
    induction n with
    | zero => intro x4_7 I_8 J_9 hf; exact hf.elim
    | succ n ih18 =>
      intro x4_7 I_8 J_9 hf
      have hf : f_X1_removeWord_B18 b x1_5 x3_6 K55 (f_X1_removeWord_L18 b x1_5 x3_6 K55 n) x4_7 I_8 J_9 := hf
      intro H locs ls hP hD hS hl
      unfold f_X1_removeWord_B18 at hf
      refine lv_iload S.1 S.2.1 dX1_removeWord_18 (lv_at hl 3 rfl) ?_
      refine lv_aload_n S.1 S.2.1 dX1_removeWord_20 rfl (lv_at hl 0 rfl) ?_
      refine gfX1_7 S iX1 hK hP hB (hM 0 (by decide)) k1 dX1_removeWord_21 ?_
      refine lv_iload_n S.1 S.2.1 dX1_removeWord_24 rfl (lv_at hl 1 rfl) ?_
      obtain ⟨h_10, hf⟩ := hf
      refine R_iald S.1 S.2.1 hK hP (hM 13 (by decide)) (IAg13 E hB) h_10 dX1_removeWord_25 ?_
      refine lv_icmp_ge (tgt := 55) S.1 S.2.1 dX1_removeWord_26 (by decide) (fun h_11 => ?_) (fun h_11 => ?_)
      · have hf := hf.1 h_11
        exact kx55 _ _ hf _ _ _ hP hD hS (lv_sub hl [] rfl)
      · have hf := hf.2 h_11
        refine lv_aload_n S.1 S.2.1 dX1_removeWord_29 rfl (lv_at hl 0 rfl) ?_
        refine gfX1_6 S iX1 hK hP hB (hM 0 (by decide)) k2 dX1_removeWord_30 ?_
        refine lv_iload_n S.1 S.2.1 dX1_removeWord_33 rfl (lv_at hl 2 rfl) ?_
        refine lv_iload S.1 S.2.1 dX1_removeWord_34 (lv_at hl 3 rfl) ?_
        refine lv_iadd S.1 S.2.1 dX1_removeWord_36 ?_
        refine lv_aload_n S.1 S.2.1 dX1_removeWord_37 rfl (lv_at hl 0 rfl) ?_
        refine gfX1_6 S iX1 hK hP hB (hM 0 (by decide)) k2 dX1_removeWord_38 ?_
        refine lv_iload_n S.1 S.2.1 dX1_removeWord_41 rfl (lv_at hl 2 rfl) ?_
        refine lv_iload S.1 S.2.1 dX1_removeWord_42 (lv_at hl 3 rfl) ?_
        refine lv_iadd S.1 S.2.1 dX1_removeWord_44 ?_
        refine lv_iconst (v := 1) S.1 S.2.1 dX1_removeWord_45 rfl ?_
        refine lv_iadd S.1 S.2.1 dX1_removeWord_46 ?_
        obtain ⟨h_12, hf⟩ := hf
        refine R_lald S.1 S.2.1 hK hP (hM 12 (by decide)) (LAg12 E hB) h_12 dX1_removeWord_47 ?_
        obtain ⟨h_13, hf⟩ := hf
        refine nm_o hf (fun J_14 eJ_14 hf => ?_)
        refine R_last S.1 S.2.1 hK hP hD hS (hM 12 (by decide)) (LAg12 E hB) h_13 dX1_removeWord_48 eJ_14 (fun H locs hP hD hS => ?_)
        refine nm_o hf (fun x4_15 ex4_15 hf => ?_)
        refine lv_iinc (v := x4_15) (lv' := [(4, .int x4_15), (0, .ref (eA E b 0)), (1, .int x1_5), (3, .int x3_6)]) S.1 S.2.1 dX1_removeWord_49 hl (k := 3) rfl (by rw [ex4_15]; rfl) (by decide) rfl (fun ls hl => ?_)
        refine lv_goto (tgt := 18) S.1 S.2.1 dX1_removeWord_52 (by decide) ?_
        exact ih18 _ _ _ hf _ _ _ hP hD hS (lv_sub hl [1, 2, 3, 0] rfl)
  refine L18 _ _ _ (fun I_16 J_17 hf H locs ls hP hD hS hl => ?_)  n_18 _ _ _ hf _ _ _ hP hD hS (lv_sub hl [2, 3, 1, 0] rfl)
  exact hret hf hP hD hS dX1_removeWord_55
abbrev rmX1_payOwners : Room := { frames := 1, cells := 0, slots := 0, locals := 21 }
theorem yk_X1_payOwners : yOk yX1_payOwners RX1 0 := by unfold yOk; decide +kernel
def f_X1_payOwners_B2 (b : Nat) (K59 : MI → MJ → Prop) (rec2 : Int32 → MI → MJ → Prop) (x1_1 : Int32) (I_2 : MI) (J_3 : MJ) : Prop :=
  (((I_2 b 1 3) ≤ x1_1 → K59 I_2 J_3) ∧ (¬ (I_2 b 1 3) ≤ x1_1 → (vp_in x1_1 6 ∧ (((I_2 b 11 x1_1.toNatClampNeg) = (-1 : Int32) → ∀ x1_7 : Int32, x1_7 = x1_1 + (1 : Int32) → rec2 x1_7 I_2 J_3) ∧ (¬ (I_2 b 11 x1_1.toNatClampNeg) = (-1 : Int32) → f_X1_freeTiles b x1_1 I_2 J_3 (fun (v_10 : Int32) (I_8 : MI) (J_9 : MJ) => ((v_10 ≤ (0 : Int32) → ∀ x1_12 : Int32, x1_12 = x1_1 + (1 : Int32) → rec2 x1_12 I_8 J_9) ∧ (¬ v_10 ≤ (0 : Int32) → (vp_in x1_1 6 ∧ (vp_in (I_8 b 11 x1_1.toNatClampNeg) 4 ∧ (vp_in x1_1 6 ∧ (¬ (2 : Int32) = 0 ∧ (vp_in (I_8 b 11 x1_1.toNatClampNeg) 4 ∧ ∀ I_18 : MI, I_18 = sI I_8 b 14 (I_8 b 11 x1_1.toNatClampNeg).toNatClampNeg ((I_8 b 14 (I_8 b 11 x1_1.toNatClampNeg).toNatClampNeg) + ((I_8 b 8 x1_1.toNatClampNeg) / (2 : Int32))) → ∀ x1_19 : Int32, x1_19 = x1_1 + (1 : Int32) → rec2 x1_19 I_18 J_9)))))))))))))
def f_X1_payOwners_L2 (b : Nat) (K59 : MI → MJ → Prop) : Nat → Int32 → MI → MJ → Prop
  | 0, _, _, _ => False
  | n + 1, x1_1, I_2, J_3 => f_X1_payOwners_B2 b K59 (f_X1_payOwners_L2 b K59 n) x1_1 I_2 J_3
def f_X1_payOwners (b : Nat) (I : MI) (J : MJ) (Q : MI → MJ → Prop) : Prop :=
  ∃ n : Nat, f_X1_payOwners_L2 b (fun (I_20 : MI) (J_21 : MJ) => Q I_20 J_21) n (0 : Int32) I J
set_option maxRecDepth 100000 in
set_option maxHeartbeats 4000000 in
theorem c_X1_payOwners {l : Launch} {E : EV} {ps : List (Nat × Nat)} {b : Nat} (hB : b < 11) (hM : ∀ r, r < 16 → (b, r) ∈ ps) {I : MI} {J : MJ} {Q : MI → MJ → Prop} (hf : f_X1_payOwners b I J Q) : KV l yX1_payOwners wsX1_payOwners rmX1_payOwners E ps [.ref (eA E b 0)] I J Q := by
  refine K_ofV (cc := cX1_payOwners) (maxL := 2) (by decide +kernel) rfl (Nat.le_of_ble_eq_true rfl) (fun p e s m args below meth c Qm hret S hK hX => ?_)
  have hA : ∀ q, s.heap.size ≤ q → AA E ps s.heap.size q := fun _ h => Or.inr h
  have k1 := S.2.2.2.2 (.fieldLink RX1 12 "RhymeRoofs$Game" "rules" "LRhymeRoofs$Rules;") (by decide +kernel)
  have iX1 : ∀ w ∈ wsX10, w ∈ wsX1_payOwners := fun _ h => List.mem_cons_of_mem _ (List.mem_append_left _ (List.mem_append_right _ h))
  have k2 := S.2.2.2.2 (.fieldLink RX1 83 "RhymeRoofs$Rules" "rows" "I") (by decide +kernel)
  have iX4 : ∀ w ∈ wsX40, w ∈ wsX1_payOwners := fun _ h => List.mem_cons_of_mem _ (List.mem_append_right _ h)
  have k3 := S.2.2.2.2 (.fieldLink RX1 32 "RhymeRoofs$Game" "ownerOf" "[I") (by decide +kernel)
  have k4 := S.2.2.2.2 (.fieldLink RX1 41 "RhymeRoofs$Game" "points" "[I") (by decide +kernel)
  have k5 := S.2.2.2.2 (.fieldLink RX1 22 "RhymeRoofs$Game" "lettersOn" "[I") (by decide +kernel)
  intro H locs ls hP hD hS hl
  unfold f_X1_payOwners at hf
  refine lv_iconst (v := 0) S.1 S.2.1 dX1_payOwners_0 rfl ?_
  refine lv_istore_n (lv' := [(1, .int (0 : Int32)), (0, .ref (eA E b 0))]) S.1 S.2.1 dX1_payOwners_1 rfl hl (by decide) rfl (fun ls hl => ?_)
  obtain ⟨n_22, hf⟩ := hf
  have L2 : ∀ (K59 : MI → MJ → Prop), (∀ (I_20 : MI) (J_21 : MJ), K59 I_20 J_21 → Wj p l e (rmX1_payOwners) s m args below meth c Qm E ps 2 I_20 J_21 59 [] []) → ∀ (n : Nat) (x1_1 : Int32) (I_2 : MI) (J_3 : MJ), f_X1_payOwners_L2 b K59 n x1_1 I_2 J_3 → Wj p l e (rmX1_payOwners) s m args below meth c Qm E ps 2 I_2 J_3 2 [(0, .ref (eA E b 0)), (1, .int x1_1)] [] := by
    intro K59 kx59 n
    induction n with
    | zero => intro x1_1 I_2 J_3 hf; exact hf.elim
    | succ n ih2 =>
      intro x1_1 I_2 J_3 hf
      have hf : f_X1_payOwners_B2 b K59 (f_X1_payOwners_L2 b K59 n) x1_1 I_2 J_3 := hf
      intro H locs ls hP hD hS hl
      unfold f_X1_payOwners_B2 at hf
      refine lv_iload_n S.1 S.2.1 dX1_payOwners_2 rfl (lv_at hl 1 rfl) ?_
      refine lv_aload_n S.1 S.2.1 dX1_payOwners_3 rfl (lv_at hl 0 rfl) ?_
      refine gfX1_0 S iX1 hK hP hB (hM 0 (by decide)) k1 dX1_payOwners_4 ?_
      refine gfX4_3 S iX4 hK hP hB (hM 1 (by decide)) k2 dX1_payOwners_7 ?_
      refine lv_icmp_ge (tgt := 59) S.1 S.2.1 dX1_payOwners_10 (by decide) (fun h_4 => ?_) (fun h_4 => ?_)
      · have hf := hf.1 h_4
        exact kx59 _ _ hf _ _ _ hP hD hS (lv_sub hl [] rfl)
      · have hf := hf.2 h_4
        refine lv_aload_n S.1 S.2.1 dX1_payOwners_13 rfl (lv_at hl 0 rfl) ?_
        refine gfX1_5 S iX1 hK hP hB (hM 0 (by decide)) k3 dX1_payOwners_14 ?_
        refine lv_iload_n S.1 S.2.1 dX1_payOwners_17 rfl (lv_at hl 1 rfl) ?_
        obtain ⟨h_5, hf⟩ := hf
        refine R_iald S.1 S.2.1 hK hP (hM 11 (by decide)) (IAg11 E hB) h_5 dX1_payOwners_18 ?_
        refine lv_iconst (v := (-1)) S.1 S.2.1 dX1_payOwners_19 rfl ?_
        refine lv_icmp_eq (tgt := 53) S.1 S.2.1 dX1_payOwners_20 (by decide) (fun h_6 => ?_) (fun h_6 => ?_)
        · have hf := hf.1 h_6
          refine nm_o hf (fun x1_7 ex1_7 hf => ?_)
          refine lv_iinc (v := x1_7) (lv' := [(1, .int x1_7), (0, .ref (eA E b 0))]) S.1 S.2.1 dX1_payOwners_53 hl (k := 1) rfl (by rw [ex1_7]; rfl) (by decide) rfl (fun ls hl => ?_)
          refine lv_goto (tgt := 2) S.1 S.2.1 dX1_payOwners_56 (by decide) ?_
          exact ih2 _ _ _ hf _ _ _ hP hD hS (lv_sub hl [1, 0] rfl)
        · have hf := hf.2 h_6
          refine lv_aload_n S.1 S.2.1 dX1_payOwners_23 rfl (lv_at hl 0 rfl) ?_
          refine lv_iload_n S.1 S.2.1 dX1_payOwners_24 rfl (lv_at hl 1 rfl) ?_
          refine R_cVi (As := [.int x1_1]) (rest := []) S (c_X1_freeTiles (hB := hB) (hM := hM)  hf) gX1_payOwners_X1_freeTiles rfl yk_X1_freeTiles ⟨⟨Nat.le_of_ble_eq_true rfl, Nat.le_of_ble_eq_true rfl⟩, rfl, rfl⟩ hK hP hD hS hX hA (hM 0 (by decide)) (cF_g E hB _ _ 0) rfl rfl hl.1 rfl (Nat.le_of_ble_eq_true rfl) ⟨Nat.zero_le _, Nat.zero_le _⟩ dX1_payOwners_25 (fun v_10 I_8 J_9 H locs hf hP hD hS => ?_)
          refine lv_if_le (tgt := 53) S.1 S.2.1 dX1_payOwners_28 (by decide) (fun h_11 => ?_) (fun h_11 => ?_)
          · have hf := hf.1 h_11
            refine nm_o hf (fun x1_12 ex1_12 hf => ?_)
            refine lv_iinc (v := x1_12) (lv' := [(1, .int x1_12), (0, .ref (eA E b 0))]) S.1 S.2.1 dX1_payOwners_53 hl (k := 1) rfl (by rw [ex1_12]; rfl) (by decide) rfl (fun ls hl => ?_)
            refine lv_goto (tgt := 2) S.1 S.2.1 dX1_payOwners_56 (by decide) ?_
            exact ih2 _ _ _ hf _ _ _ hP hD hS (lv_sub hl [1, 0] rfl)
          · have hf := hf.2 h_11
            refine lv_aload_n S.1 S.2.1 dX1_payOwners_31 rfl (lv_at hl 0 rfl) ?_
            refine gfX1_8 S iX1 hK hP hB (hM 0 (by decide)) k4 dX1_payOwners_32 ?_
            refine lv_aload_n S.1 S.2.1 dX1_payOwners_35 rfl (lv_at hl 0 rfl) ?_
            refine gfX1_5 S iX1 hK hP hB (hM 0 (by decide)) k3 dX1_payOwners_36 ?_
            refine lv_iload_n S.1 S.2.1 dX1_payOwners_39 rfl (lv_at hl 1 rfl) ?_
            obtain ⟨h_13, hf⟩ := hf
            refine R_iald S.1 S.2.1 hK hP (hM 11 (by decide)) (IAg11 E hB) h_13 dX1_payOwners_40 ?_
            refine lv_dup2_11 S.1 S.2.1 dX1_payOwners_41 rfl rfl ?_
            obtain ⟨h_14, hf⟩ := hf
            refine R_iald S.1 S.2.1 hK hP (hM 14 (by decide)) (IAg14 E hB) h_14 dX1_payOwners_42 ?_
            refine lv_aload_n S.1 S.2.1 dX1_payOwners_43 rfl (lv_at hl 0 rfl) ?_
            refine gfX1_2 S iX1 hK hP hB (hM 0 (by decide)) k5 dX1_payOwners_44 ?_
            refine lv_iload_n S.1 S.2.1 dX1_payOwners_47 rfl (lv_at hl 1 rfl) ?_
            obtain ⟨h_15, hf⟩ := hf
            refine R_iald S.1 S.2.1 hK hP (hM 8 (by decide)) (IAg8 E hB) h_15 dX1_payOwners_48 ?_
            refine lv_iconst (v := 2) S.1 S.2.1 dX1_payOwners_49 rfl ?_
            obtain ⟨h_16, hf⟩ := hf
            refine lv_idiv S.1 S.2.1 dX1_payOwners_50 h_16 ?_
            refine lv_iadd S.1 S.2.1 dX1_payOwners_51 ?_
            obtain ⟨h_17, hf⟩ := hf
            refine nm_o hf (fun I_18 eI_18 hf => ?_)
            refine R_iast S.1 S.2.1 hK hP hD hS (hM 14 (by decide)) (IAg14 E hB) h_17 dX1_payOwners_52 eI_18 (fun H locs hP hD hS => ?_)
            refine nm_o hf (fun x1_19 ex1_19 hf => ?_)
            refine lv_iinc (v := x1_19) (lv' := [(1, .int x1_19), (0, .ref (eA E b 0))]) S.1 S.2.1 dX1_payOwners_53 hl (k := 1) rfl (by rw [ex1_19]; rfl) (by decide) rfl (fun ls hl => ?_)
            refine lv_goto (tgt := 2) S.1 S.2.1 dX1_payOwners_56 (by decide) ?_
            exact ih2 _ _ _ hf _ _ _ hP hD hS (lv_sub hl [1, 0] rfl)
  refine L2 _ (fun I_20 J_21 hf H locs ls hP hD hS hl => ?_)  n_22 _ _ _ hf _ _ _ hP hD hS (lv_sub hl [1, 0] rfl)
  exact hret hf hP hD hS dX1_payOwners_59
