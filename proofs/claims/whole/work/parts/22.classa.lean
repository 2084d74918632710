abbrev rmX0_prepare : Room := { frames := 1, cells := 0, slots := 0, locals := 29 }
theorem yk_X0_prepare : yOk yX0_prepare RX0 3 := by unfold yOk; decide +kernel
def f_X0_prepare_J143 (g : Nat) (K175 : MI → MJ → Prop) (rec87 : Int32 → MI → MJ → Prop) (x2_24 : Int32) (x4_25 : Int32) (x5_26 : Int64) (x7_42 : Int32) (x10_43 : Int32) (s_44 : Int32) (I_45 : MI) (J_46 : MJ) : Prop :=
  ((s_44 = (0 : Int32) → (vp_in ((x4_25 * (8 : Int32)) + x7_42) 64 ∧ ∀ I_49 : MI, I_49 = sI I_45 11 10 ((x4_25 * (8 : Int32)) + x7_42).toNatClampNeg (-1 : Int32) → ∀ x7_50 : Int32, x7_50 = x7_42 + (1 : Int32) → rec87 x7_50 I_49 J_46)) ∧ (¬ s_44 = (0 : Int32) → (vp_in ((x4_25 * (8 : Int32)) + x7_42) 64 ∧ ∀ I_52 : MI, I_52 = sI I_45 11 10 ((x4_25 * (8 : Int32)) + x7_42).toNatClampNeg x10_43 → ∀ x7_53 : Int32, x7_53 = x7_42 + (1 : Int32) → rec87 x7_53 I_52 J_46)))
def f_X0_prepare_J142 (g : Nat) (K175 : MI → MJ → Prop) (rec87 : Int32 → MI → MJ → Prop) (x2_24 : Int32) (x4_25 : Int32) (x5_26 : Int64) (x7_38 : Int32) (x10_39 : Int32) (I_40 : MI) (J_41 : MJ) : Prop :=
  f_X0_prepare_J143 g K175 rec87 x2_24 x4_25 x5_26 x7_38 x10_39 (0 : Int32) I_40 J_41
def f_X0_prepare_B87 (g : Nat) (x2_24 : Int32) (x4_25 : Int32) (x5_26 : Int64) (K175 : MI → MJ → Prop) (rec87 : Int32 → MI → MJ → Prop) (x7_27 : Int32) (I_28 : MI) (J_29 : MJ) : Prop :=
  (((I_28 11 6 7) ≤ x7_27 → K175 I_28 J_29) ∧ (¬ (I_28 11 6 7) ≤ x7_27 → f_X1_wordOf g x2_24 x7_27 I_28 J_29 (fun (v_33 : Int64) (I_31 : MI) (J_32 : MJ) => f_X4_rhymeOf g x5_26 v_33 I_31 J_32 (fun (v_36 : Int32) (I_34 : MI) (J_35 : MJ) => ((x5_26 = v_33 → f_X0_prepare_J142 g K175 rec87 x2_24 x4_25 x5_26 x7_27 v_36 I_34 J_35) ∧ (¬ x5_26 = v_33 → ((v_36 < (I_34 g 1 5) → f_X0_prepare_J142 g K175 rec87 x2_24 x4_25 x5_26 x7_27 v_36 I_34 J_35) ∧ (¬ v_36 < (I_34 g 1 5) → f_X0_prepare_J143 g K175 rec87 x2_24 x4_25 x5_26 x7_27 v_36 (1 : Int32) I_34 J_35))))))))
def f_X0_prepare_L87 (g : Nat) (x2_24 : Int32) (x4_25 : Int32) (x5_26 : Int64) (K175 : MI → MJ → Prop) : Nat → Int32 → MI → MJ → Prop
  | 0, _, _, _ => False
  | n + 1, x7_27, I_28, J_29 => f_X0_prepare_B87 g x2_24 x4_25 x5_26 K175 (f_X0_prepare_L87 g x2_24 x4_25 x5_26 K175 n) x7_27 I_28 J_29
def f_X0_prepare_B54 (g : Nat) (x2_11 : Int32) (K181 : MI → MJ → Prop) (rec54 : Int32 → MI → MJ → Prop) (x4_12 : Int32) (I_13 : MI) (J_14 : MJ) : Prop :=
  (((I_13 11 6 7) ≤ x4_12 → K181 I_13 J_14) ∧ (¬ (I_13 11 6 7) ≤ x4_12 → f_X1_wordOf g x2_11 x4_12 I_13 J_14 (fun (v_18 : Int64) (I_16 : MI) (J_17 : MJ) => f_X6_length v_18 I_16 J_17 (fun (v_21 : Int32) (I_19 : MI) (J_20 : MJ) => (vp_in x4_12 8 ∧ ∀ I_23 : MI, I_23 = sI I_19 11 9 x4_12.toNatClampNeg v_21 → ∃ n : Nat, f_X0_prepare_L87 g x2_11 x4_12 v_18 (fun (I_55 : MI) (J_56 : MJ) => ∀ x4_57 : Int32, x4_57 = x4_12 + (1 : Int32) → rec54 x4_57 I_55 J_56) n (0 : Int32) I_23 J_20)))))
def f_X0_prepare_L54 (g : Nat) (x2_11 : Int32) (K181 : MI → MJ → Prop) : Nat → Int32 → MI → MJ → Prop
  | 0, _, _, _ => False
  | n + 1, x4_12, I_13, J_14 => f_X0_prepare_B54 g x2_11 K181 (f_X0_prepare_L54 g x2_11 K181 n) x4_12 I_13 J_14
def f_X0_prepare (g : Nat) (x2 : Int32) (x3 : Int32) (I : MI) (J : MJ) (Q : MI → MJ → Prop) : Prop :=
  (vp_in x2 4 ∧ ∀ I_2 : MI, I_2 = sI I 11 6 7 (I g 13 x2.toNatClampNeg) → f_X1_freeTiles g x3 I_2 J (fun (v_5 : Int32) (I_3 : MI) (J_4 : MJ) => ∀ I_6 : MI, I_6 = sI I_3 11 6 8 v_5 → (vp_in x3 6 ∧ ∀ I_8 : MI, I_8 = sI I_6 11 6 9 (I_6 g 9 x3.toNatClampNeg) → ∀ I_9 : MI, I_9 = sI I_8 11 6 10 (I_8 g 1 6) → ∀ I_10 : MI, I_10 = sI I_9 11 6 11 (I_9 g 1 7) → ∃ n : Nat, f_X0_prepare_L54 g x2 (fun (I_59 : MI) (J_60 : MJ) => Q I_59 J_60) n (0 : Int32) I_10 J_4)))
set_option maxRecDepth 100000 in
set_option maxHeartbeats 4000000 in
theorem c_X0_prepare {l : Launch} {E : EV} {ps : List (Nat × Nat)} (h11 : ∀ r, r < 11 → (11, r) ∈ ps) {g : Nat} (hBg : g < 11) (hMg : ∀ r, r < 16 → (g, r) ∈ ps) {x2 : Int32} {x3 : Int32} {I : MI} {J : MJ} {Q : MI → MJ → Prop} (hf : f_X0_prepare g x2 x3 I J Q) : KV l yX0_prepare wsX0_prepare rmX0_prepare E ps [.ref (eA E 11 6), .ref (eA E g 0), .int x2, .int x3] I J Q := by
  refine K_ofV (cc := cX0_prepare) (maxL := 12) (by decide +kernel) rfl (Nat.le_of_ble_eq_true rfl) (fun p e s m args below meth c Qm hret S hK hX => ?_)
  have hA : ∀ q, s.heap.size ≤ q → AA E ps s.heap.size q := fun _ h => Or.inr h
  have k1 := S.2.2.2.2 (.fieldLink RX0 68 "RhymeRoofs$Game" "handSize" "[I") (by decide +kernel)
  have iX1 : ∀ w ∈ wsX10, w ∈ wsX0_prepare := fun _ h => List.mem_cons_of_mem _ (List.mem_append_left _ (List.mem_append_left _ (List.mem_append_right _ h)))
  have k2 := S.2.2.2.2 (.fieldLink RX0 44 "RhymeRoofs$Chains" "size" "I") (by decide +kernel)
  have iX0 : ∀ w ∈ wsX00, w ∈ wsX0_prepare := fun _ h => List.mem_cons_of_mem _ (List.mem_append_left _ (List.mem_append_right _ h))
  have k3 := S.2.2.2.2 (.fieldLink RX0 75 "RhymeRoofs$Chains" "free" "I") (by decide +kernel)
  have k4 := S.2.2.2.2 (.fieldLink RX0 78 "RhymeRoofs$Game" "wordsOn" "[I") (by decide +kernel)
  have k5 := S.2.2.2.2 (.fieldLink RX0 81 "RhymeRoofs$Chains" "wordsBefore" "I") (by decide +kernel)
  have k6 := S.2.2.2.2 (.fieldLink RX0 84 "RhymeRoofs$Game" "rules" "LRhymeRoofs$Rules;") (by decide +kernel)
  have k7 := S.2.2.2.2 (.fieldLink RX0 88 "RhymeRoofs$Rules" "bonus" "I") (by decide +kernel)
  have iX4 : ∀ w ∈ wsX40, w ∈ wsX0_prepare := fun _ h => List.mem_cons_of_mem _ (List.mem_append_right _ h)
  have k8 := S.2.2.2.2 (.fieldLink RX0 93 "RhymeRoofs$Chains" "bonus" "I") (by decide +kernel)
  have k9 := S.2.2.2.2 (.fieldLink RX0 94 "RhymeRoofs$Rules" "crown" "I") (by decide +kernel)
  have k10 := S.2.2.2.2 (.fieldLink RX0 97 "RhymeRoofs$Chains" "crown" "I") (by decide +kernel)
  have k11 := S.2.2.2.2 (.fieldLink RX0 18 "RhymeRoofs$Chains" "lengths" "[I") (by decide +kernel)
  have k12 := S.2.2.2.2 (.fieldLink RX0 21 "RhymeRoofs$Chains" "rhymes" "[I") (by decide +kernel)
  have k13 := S.2.2.2.2 (.fieldLink RX0 108 "RhymeRoofs$Rules" "need" "I") (by decide +kernel)
  intro H locs ls hP hD hS hl
  unfold f_X0_prepare at hf
  refine lv_aload_n S.1 S.2.1 dX0_prepare_0 rfl (lv_at hl 0 rfl) ?_
  refine lv_aload_n S.1 S.2.1 dX0_prepare_1 rfl (lv_at hl 1 rfl) ?_
  refine gfX1_7 S iX1 hK hP hBg (hMg 0 (by decide)) k1 dX0_prepare_2 ?_
  refine lv_iload_n S.1 S.2.1 dX0_prepare_5 rfl (lv_at hl 2 rfl) ?_
  obtain ⟨h_1, hf⟩ := hf
  refine R_iald S.1 S.2.1 hK hP (hMg 13 (by decide)) (IAg13 E hBg) h_1 dX0_prepare_6 ?_
  refine nm_o hf (fun I_2 eI_2 hf => ?_)
  refine pfX0_7 S iX0 hK hP hD hS (h11 6 (by decide)) k2 dX0_prepare_7 eI_2 (fun H locs hP hD hS => ?_)
  refine lv_aload_n S.1 S.2.1 dX0_prepare_10 rfl (lv_at hl 0 rfl) ?_
  refine lv_aload_n S.1 S.2.1 dX0_prepare_11 rfl (lv_at hl 1 rfl) ?_
  refine lv_iload_n S.1 S.2.1 dX0_prepare_12 rfl (lv_at hl 3 rfl) ?_
  refine R_cVi (As := [.int x3]) (rest := [.ref (eA E 11 6)]) S (c_X1_freeTiles (hB := hBg) (hM := hMg)  hf) gX0_prepare_X1_freeTiles rfl yk_X1_freeTiles ⟨⟨Nat.le_of_ble_eq_true rfl, Nat.le_of_ble_eq_true rfl⟩, rfl, rfl⟩ hK hP hD hS hX hA (hMg 0 (by decide)) (cF_g E hBg _ _ 0) rfl rfl hl.1 rfl (Nat.le_of_ble_eq_true rfl) ⟨Nat.zero_le _, Nat.zero_le _⟩ dX0_prepare_13 (fun v_5 I_3 J_4 H locs hf hP hD hS => ?_)
  refine nm_o hf (fun I_6 eI_6 hf => ?_)
  refine pfX0_8 S iX0 hK hP hD hS (h11 6 (by decide)) k3 dX0_prepare_16 eI_6 (fun H locs hP hD hS => ?_)
  refine lv_aload_n S.1 S.2.1 dX0_prepare_19 rfl (lv_at hl 0 rfl) ?_
  refine lv_aload_n S.1 S.2.1 dX0_prepare_20 rfl (lv_at hl 1 rfl) ?_
  refine gfX1_3 S iX1 hK hP hBg (hMg 0 (by decide)) k4 dX0_prepare_21 ?_
  refine lv_iload_n S.1 S.2.1 dX0_prepare_24 rfl (lv_at hl 3 rfl) ?_
  obtain ⟨h_7, hf⟩ := hf
  refine R_iald S.1 S.2.1 hK hP (hMg 9 (by decide)) (IAg9 E hBg) h_7 dX0_prepare_25 ?_
  refine nm_o hf (fun I_8 eI_8 hf => ?_)
  refine pfX0_9 S iX0 hK hP hD hS (h11 6 (by decide)) k5 dX0_prepare_26 eI_8 (fun H locs hP hD hS => ?_)
  refine lv_aload_n S.1 S.2.1 dX0_prepare_29 rfl (lv_at hl 0 rfl) ?_
  refine lv_aload_n S.1 S.2.1 dX0_prepare_30 rfl (lv_at hl 1 rfl) ?_
  refine gfX1_0 S iX1 hK hP hBg (hMg 0 (by decide)) k6 dX0_prepare_31 ?_
  refine gfX4_6 S iX4 hK hP hBg (hMg 1 (by decide)) k7 dX0_prepare_34 ?_
  refine nm_o hf (fun I_9 eI_9 hf => ?_)
  refine pfX0_10 S iX0 hK hP hD hS (h11 6 (by decide)) k8 dX0_prepare_37 eI_9 (fun H locs hP hD hS => ?_)
  refine lv_aload_n S.1 S.2.1 dX0_prepare_40 rfl (lv_at hl 0 rfl) ?_
  refine lv_aload_n S.1 S.2.1 dX0_prepare_41 rfl (lv_at hl 1 rfl) ?_
  refine gfX1_0 S iX1 hK hP hBg (hMg 0 (by decide)) k6 dX0_prepare_42 ?_
  refine gfX4_7 S iX4 hK hP hBg (hMg 1 (by decide)) k9 dX0_prepare_45 ?_
  refine nm_o hf (fun I_10 eI_10 hf => ?_)
  refine pfX0_11 S iX0 hK hP hD hS (h11 6 (by decide)) k10 dX0_prepare_48 eI_10 (fun H locs hP hD hS => ?_)
  refine lv_iconst (v := 0) S.1 S.2.1 dX0_prepare_51 rfl ?_
  refine lv_istore (lv' := [(4, .int (0 : Int32)), (0, .ref (eA E 11 6)), (1, .ref (eA E g 0)), (2, .int x2), (3, .int x3)]) S.1 S.2.1 dX0_prepare_52 hl (by decide) rfl (fun ls hl => ?_)
  obtain ⟨n_61, hf⟩ := hf
  have L54 : ∀ (x2_11 : Int32), ∀ (K181 : MI → MJ → Prop), (∀ (I_59 : MI) (J_60 : MJ), K181 I_59 J_60 → Wj p l e (rmX0_prepare) s m args below meth c Qm E ps 12 I_59 J_60 181 [] []) → ∀ (n : Nat) (x4_12 : Int32) (I_13 : MI) (J_14 : MJ), f_X0_prepare_L54 g x2_11 K181 n x4_12 I_13 J_14 → Wj p l e (rmX0_prepare) s m args below meth c Qm E ps 12 I_13 J_14 54 [(0, .ref (eA E 11 6)), (1, .ref (eA E g 0)), (2, .int x2_11), (4, .int x4_12)] [] := by
    intro x2_11 K181 kx181 n
    induction n with
    | zero => intro x4_12 I_13 J_14 hf; exact hf.elim
    | succ n ih54 =>
      intro x4_12 I_13 J_14 hf
      have hf : f_X0_prepare_B54 g x2_11 K181 (f_X0_prepare_L54 g x2_11 K181 n) x4_12 I_13 J_14 := hf
      intro H locs ls hP hD hS hl
      unfold f_X0_prepare_B54 at hf
      refine lv_iload S.1 S.2.1 dX0_prepare_54 (lv_at hl 3 rfl) ?_
      refine lv_aload_n S.1 S.2.1 dX0_prepare_56 rfl (lv_at hl 0 rfl) ?_
      refine gfX0_7 S iX0 hK hP (h11 6 (by decide)) k2 dX0_prepare_57 ?_
      refine lv_icmp_ge (tgt := 181) S.1 S.2.1 dX0_prepare_60 (by decide) (fun h_15 => ?_) (fun h_15 => ?_)
      · have hf := hf.1 h_15
        exact kx181 _ _ hf _ _ _ hP hD hS (lv_sub hl [] rfl)
      · have hf := hf.2 h_15
        refine lv_aload_n S.1 S.2.1 dX0_prepare_63 rfl (lv_at hl 1 rfl) ?_
        refine lv_iload_n S.1 S.2.1 dX0_prepare_64 rfl (lv_at hl 2 rfl) ?_
        refine lv_iload S.1 S.2.1 dX0_prepare_65 (lv_at hl 3 rfl) ?_
        refine R_cVl (As := [.int x2_11, .int x4_12]) (rest := []) S (c_X1_wordOf (hB := hBg) (hM := hMg)  hf) gX0_prepare_X1_wordOf rfl yk_X1_wordOf ⟨⟨Nat.le_of_ble_eq_true rfl, Nat.le_of_ble_eq_true rfl⟩, rfl, rfl⟩ hK hP hD hS hX hA (hMg 0 (by decide)) (cF_g E hBg _ _ 0) rfl rfl hl.1 rfl (Nat.le_of_ble_eq_true rfl) ⟨Nat.zero_le _, Nat.zero_le _⟩ dX0_prepare_67 (fun v_18 I_16 J_17 H locs hf hP hD hS => ?_)
        refine lv_lstore (lv' := [(5, .long v_18), (0, .ref (eA E 11 6)), (1, .ref (eA E g 0)), (2, .int x2_11), (4, .int x4_12)]) S.1 S.2.1 dX0_prepare_70 hl (by decide) rfl (fun ls hl => ?_)
        refine lv_aload_n S.1 S.2.1 dX0_prepare_72 rfl (lv_at hl 1 rfl) ?_
        refine gfX0_5 S iX0 hK hP (h11 6 (by decide)) k11 dX0_prepare_73 ?_
        refine lv_iload S.1 S.2.1 dX0_prepare_76 (lv_at hl 4 rfl) ?_
        refine lv_lload S.1 S.2.1 dX0_prepare_78 (lv_at hl 0 rfl) ?_
        refine R_cSi (As := [.long v_18]) (rest := [.int x4_12, .ref (eA E 11 9)]) S (c_X6_length   hf) gX0_prepare_X6_length rfl yk_X6_length ⟨⟨Nat.le_of_ble_eq_true rfl, Nat.le_of_ble_eq_true rfl⟩, rfl, rfl⟩ hK hP hD hS hX hA rfl hl.1 rfl (Nat.le_of_ble_eq_true rfl) ⟨Nat.zero_le _, Nat.zero_le _⟩ dX0_prepare_80 (fun v_21 I_19 J_20 H locs hf hP hD hS => ?_)
        obtain ⟨h_22, hf⟩ := hf
        refine nm_o hf (fun I_23 eI_23 hf => ?_)
        refine R_iast S.1 S.2.1 hK hP hD hS (h11 9 (by decide)) (IAo9 E) h_22 dX0_prepare_83 eI_23 (fun H locs hP hD hS => ?_)
        refine lv_iconst (v := 0) S.1 S.2.1 dX0_prepare_84 rfl ?_
        refine lv_istore (lv' := [(7, .int (0 : Int32)), (5, .long v_18), (0, .ref (eA E 11 6)), (1, .ref (eA E g 0)), (2, .int x2_11), (4, .int x4_12)]) S.1 S.2.1 dX0_prepare_85 hl (by decide) rfl (fun ls hl => ?_)
        obtain ⟨n_58, hf⟩ := hf
        have L87 : ∀ (x2_24 : Int32), ∀ (x4_25 : Int32), ∀ (x5_26 : Int64), ∀ (K175 : MI → MJ → Prop), (∀ (I_55 : MI) (J_56 : MJ), K175 I_55 J_56 → Wj p l e (rmX0_prepare) s m args below meth c Qm E ps 12 I_55 J_56 175 [(0, .ref (eA E 11 6)), (1, .ref (eA E g 0)), (2, .int x2_24), (4, .int x4_25)] []) → ∀ (n : Nat) (x7_27 : Int32) (I_28 : MI) (J_29 : MJ), f_X0_prepare_L87 g x2_24 x4_25 x5_26 K175 n x7_27 I_28 J_29 → Wj p l e (rmX0_prepare) s m args below meth c Qm E ps 12 I_28 J_29 87 [(0, .ref (eA E 11 6)), (1, .ref (eA E g 0)), (2, .int x2_24), (4, .int x4_25), (5, .long x5_26), (7, .int x7_27)] [] := by
          intro x2_24 x4_25 x5_26 K175 kx175 n
          induction n with
          | zero => intro x7_27 I_28 J_29 hf; exact hf.elim
          | succ n ih87 =>
            intro x7_27 I_28 J_29 hf
            have hf : f_X0_prepare_B87 g x2_24 x4_25 x5_26 K175 (f_X0_prepare_L87 g x2_24 x4_25 x5_26 K175 n) x7_27 I_28 J_29 := hf
            have jn143 : ∀ (x7_42 : Int32) (x10_43 : Int32) (s_44 : Int32) (I_45 : MI) (J_46 : MJ), f_X0_prepare_J143 g K175 (f_X0_prepare_L87 g x2_24 x4_25 x5_26 K175 n) x2_24 x4_25 x5_26 x7_42 x10_43 s_44 I_45 J_46 → Wj p l e (rmX0_prepare) s m args below meth c Qm E ps 12 I_45 J_46 143 [(0, .ref (eA E 11 6)), (1, .ref (eA E g 0)), (2, .int x2_24), (4, .int x4_25), (5, .long x5_26), (7, .int x7_42), (10, .int x10_43)] [.int s_44] := by
              intro x7_42 x10_43 s_44 I_45 J_46 hf H locs ls hP hD hS hl
              unfold f_X0_prepare_J143 at hf
              refine lv_istore (lv' := [(11, .int s_44), (0, .ref (eA E 11 6)), (1, .ref (eA E g 0)), (2, .int x2_24), (4, .int x4_25), (5, .long x5_26), (7, .int x7_42), (10, .int x10_43)]) S.1 S.2.1 dX0_prepare_143 hl (by decide) rfl (fun ls hl => ?_)
              refine lv_aload_n S.1 S.2.1 dX0_prepare_145 rfl (lv_at hl 1 rfl) ?_
              refine gfX0_6 S iX0 hK hP (h11 6 (by decide)) k12 dX0_prepare_146 ?_
              refine lv_iload S.1 S.2.1 dX0_prepare_149 (lv_at hl 4 rfl) ?_
              refine lv_bipush (v := 8) S.1 S.2.1 dX0_prepare_151 rfl ?_
              refine lv_imul S.1 S.2.1 dX0_prepare_153 ?_
              refine lv_iload S.1 S.2.1 dX0_prepare_154 (lv_at hl 6 rfl) ?_
              refine lv_iadd S.1 S.2.1 dX0_prepare_156 ?_
              refine lv_iload S.1 S.2.1 dX0_prepare_157 (lv_at hl 0 rfl) ?_
              refine lv_if_eq (tgt := 167) S.1 S.2.1 dX0_prepare_159 (by decide) (fun h_47 => ?_) (fun h_47 => ?_)
              · have hf := hf.1 h_47
                refine lv_iconst (v := (-1)) S.1 S.2.1 dX0_prepare_167 rfl ?_
                obtain ⟨h_48, hf⟩ := hf
                refine nm_o hf (fun I_49 eI_49 hf => ?_)
                refine R_iast S.1 S.2.1 hK hP hD hS (h11 10 (by decide)) (IAo10 E) h_48 dX0_prepare_168 eI_49 (fun H locs hP hD hS => ?_)
                refine nm_o hf (fun x7_50 ex7_50 hf => ?_)
                refine lv_iinc (v := x7_50) (lv' := [(7, .int x7_50), (11, .int s_44), (0, .ref (eA E 11 6)), (1, .ref (eA E g 0)), (2, .int x2_24), (4, .int x4_25), (5, .long x5_26), (10, .int x10_43)]) S.1 S.2.1 dX0_prepare_169 hl (k := 6) rfl (by rw [ex7_50]; rfl) (by decide) rfl (fun ls hl => ?_)
                refine lv_goto (tgt := 87) S.1 S.2.1 dX0_prepare_172 (by decide) ?_
                exact ih87 _ _ _ hf _ _ _ hP hD hS (lv_sub hl [2, 3, 4, 5, 6, 0] rfl)
              · have hf := hf.2 h_47
                refine lv_iload S.1 S.2.1 dX0_prepare_162 (lv_at hl 7 rfl) ?_
                refine lv_goto (tgt := 168) S.1 S.2.1 dX0_prepare_164 (by decide) ?_
                obtain ⟨h_51, hf⟩ := hf
                refine nm_o hf (fun I_52 eI_52 hf => ?_)
                refine R_iast S.1 S.2.1 hK hP hD hS (h11 10 (by decide)) (IAo10 E) h_51 dX0_prepare_168 eI_52 (fun H locs hP hD hS => ?_)
                refine nm_o hf (fun x7_53 ex7_53 hf => ?_)
                refine lv_iinc (v := x7_53) (lv' := [(7, .int x7_53), (11, .int s_44), (0, .ref (eA E 11 6)), (1, .ref (eA E g 0)), (2, .int x2_24), (4, .int x4_25), (5, .long x5_26), (10, .int x10_43)]) S.1 S.2.1 dX0_prepare_169 hl (k := 6) rfl (by rw [ex7_53]; rfl) (by decide) rfl (fun ls hl => ?_)
                refine lv_goto (tgt := 87) S.1 S.2.1 dX0_prepare_172 (by decide) ?_
                exact ih87 _ _ _ hf _ _ _ hP hD hS (lv_sub hl [2, 3, 4, 5, 6, 0] rfl)
            have jn142 : ∀ (x7_38 : Int32) (x10_39 : Int32) (I_40 : MI) (J_41 : MJ), f_X0_prepare_J142 g K175 (f_X0_prepare_L87 g x2_24 x4_25 x5_26 K175 n) x2_24 x4_25 x5_26 x7_38 x10_39 I_40 J_41 → Wj p l e (rmX0_prepare) s m args below meth c Qm E ps 12 I_40 J_41 142 [(0, .ref (eA E 11 6)), (1, .ref (eA E g 0)), (2, .int x2_24), (4, .int x4_25), (5, .long x5_26), (7, .int x7_38), (10, .int x10_39)] [] := by
              intro x7_38 x10_39 I_40 J_41 hf H locs ls hP hD hS hl
              unfold f_X0_prepare_J142 at hf
              refine lv_iconst (v := 0) S.1 S.2.1 dX0_prepare_142 rfl ?_
              exact jn143 _ _ _ _ _ hf _ _ _ hP hD hS (lv_sub hl [0, 1, 2, 3, 4, 5, 6] rfl)
            intro H locs ls hP hD hS hl
            unfold f_X0_prepare_B87 at hf
            refine lv_iload S.1 S.2.1 dX0_prepare_87 (lv_at hl 5 rfl) ?_
            refine lv_aload_n S.1 S.2.1 dX0_prepare_89 rfl (lv_at hl 0 rfl) ?_
            refine gfX0_7 S iX0 hK hP (h11 6 (by decide)) k2 dX0_prepare_90 ?_
            refine lv_icmp_ge (tgt := 175) S.1 S.2.1 dX0_prepare_93 (by decide) (fun h_30 => ?_) (fun h_30 => ?_)
            · have hf := hf.1 h_30
              exact kx175 _ _ hf _ _ _ hP hD hS (lv_sub hl [0, 1, 2, 3] rfl)
            · have hf := hf.2 h_30
              refine lv_aload_n S.1 S.2.1 dX0_prepare_96 rfl (lv_at hl 1 rfl) ?_
              refine lv_iload_n S.1 S.2.1 dX0_prepare_97 rfl (lv_at hl 2 rfl) ?_
              refine lv_iload S.1 S.2.1 dX0_prepare_98 (lv_at hl 5 rfl) ?_
              refine R_cVl (As := [.int x2_24, .int x7_27]) (rest := []) S (c_X1_wordOf (hB := hBg) (hM := hMg)  hf) gX0_prepare_X1_wordOf rfl yk_X1_wordOf ⟨⟨Nat.le_of_ble_eq_true rfl, Nat.le_of_ble_eq_true rfl⟩, rfl, rfl⟩ hK hP hD hS hX hA (hMg 0 (by decide)) (cF_g E hBg _ _ 0) rfl rfl hl.1 rfl (Nat.le_of_ble_eq_true rfl) ⟨Nat.zero_le _, Nat.zero_le _⟩ dX0_prepare_100 (fun v_33 I_31 J_32 H locs hf hP hD hS => ?_)
              refine lv_lstore (lv' := [(8, .long v_33), (0, .ref (eA E 11 6)), (1, .ref (eA E g 0)), (2, .int x2_24), (4, .int x4_25), (5, .long x5_26), (7, .int x7_27)]) S.1 S.2.1 dX0_prepare_103 hl (by decide) rfl (fun ls hl => ?_)
              refine lv_aload_n S.1 S.2.1 dX0_prepare_105 rfl (lv_at hl 2 rfl) ?_
              refine gfX1_0 S iX1 hK hP hBg (hMg 0 (by decide)) k6 dX0_prepare_106 ?_
              refine lv_lload S.1 S.2.1 dX0_prepare_109 (lv_at hl 5 rfl) ?_
              refine lv_lload S.1 S.2.1 dX0_prepare_111 (lv_at hl 0 rfl) ?_
              refine R_cVi (As := [.long x5_26, .long v_33]) (rest := []) S (c_X4_rhymeOf (hB := hBg) (hM := hMg)  hf) gX0_prepare_X4_rhymeOf rfl yk_X4_rhymeOf ⟨⟨Nat.le_of_ble_eq_true rfl, Nat.le_of_ble_eq_true rfl⟩, rfl, rfl⟩ hK hP hD hS hX hA (hMg 1 (by decide)) (cF_g E hBg _ _ 1) rfl rfl hl.1 rfl (Nat.le_of_ble_eq_true rfl) ⟨Nat.zero_le _, Nat.zero_le _⟩ dX0_prepare_113 (fun v_36 I_34 J_35 H locs hf hP hD hS => ?_)
              refine lv_istore (lv' := [(10, .int v_36), (8, .long v_33), (0, .ref (eA E 11 6)), (1, .ref (eA E g 0)), (2, .int x2_24), (4, .int x4_25), (5, .long x5_26), (7, .int x7_27)]) S.1 S.2.1 dX0_prepare_116 hl (by decide) rfl (fun ls hl => ?_)
              refine lv_lload S.1 S.2.1 dX0_prepare_118 (lv_at hl 6 rfl) ?_
              refine lv_lload S.1 S.2.1 dX0_prepare_120 (lv_at hl 1 rfl) ?_
              refine W.lcmp S.1 S.2.1 dX0_prepare_122 ?_
              refine lv_if_eq (tgt := 142) S.1 S.2.1 dX0_prepare_123 (by decide) (fun h_37 => ?_) (fun h_37 => ?_)
              · have hf := hf.1 ((lg_eq0 _ _).mp h_37)
                exact jn142 _ _ _ _ hf _ _ _ hP hD hS (lv_sub hl [2, 3, 4, 5, 6, 7, 0] rfl)
              · have hf := hf.2 (fun q => h_37 ((lg_eq0 _ _).mpr q))
                refine lv_iload S.1 S.2.1 dX0_prepare_126 (lv_at hl 0 rfl) ?_
                refine lv_aload_n S.1 S.2.1 dX0_prepare_128 rfl (lv_at hl 3 rfl) ?_
                refine gfX1_0 S iX1 hK hP hBg (hMg 0 (by decide)) k6 dX0_prepare_129 ?_
                refine gfX4_5 S iX4 hK hP hBg (hMg 1 (by decide)) k13 dX0_prepare_132 ?_
                refine lv_icmp_lt (tgt := 142) S.1 S.2.1 dX0_prepare_135 (by decide) (fun h_54 => ?_) (fun h_54 => ?_)
                · have hf := hf.1 h_54
                  exact jn142 _ _ _ _ hf _ _ _ hP hD hS (lv_sub hl [2, 3, 4, 5, 6, 7, 0] rfl)
                · have hf := hf.2 h_54
                  refine lv_iconst (v := 1) S.1 S.2.1 dX0_prepare_138 rfl ?_
                  refine lv_goto (tgt := 143) S.1 S.2.1 dX0_prepare_139 (by decide) ?_
                  exact jn143 _ _ _ _ _ hf _ _ _ hP hD hS (lv_sub hl [2, 3, 4, 5, 6, 7, 0] rfl)
        refine L87 _ _ _ _ (fun I_55 J_56 hf H locs ls hP hD hS hl => ?_)  n_58 _ _ _ hf _ _ _ hP hD hS (lv_sub hl [2, 3, 4, 5, 1, 0] rfl)
        refine nm_o hf (fun x4_57 ex4_57 hf => ?_)
        refine lv_iinc (v := x4_57) (lv' := [(4, .int x4_57), (0, .ref (eA E 11 6)), (1, .ref (eA E g 0)), (2, .int x2_11)]) S.1 S.2.1 dX0_prepare_175 hl (k := 3) rfl (by rw [ex4_57]; rfl) (by decide) rfl (fun ls hl => ?_)
        refine lv_goto (tgt := 54) S.1 S.2.1 dX0_prepare_178 (by decide) ?_
        exact ih54 _ _ _ hf _ _ _ hP hD hS (lv_sub hl [1, 2, 3, 0] rfl)
  refine L54 _ _ (fun I_59 J_60 hf H locs ls hP hD hS hl => ?_)  n_61 _ _ _ hf _ _ _ hP hD hS (lv_sub hl [1, 2, 3, 0] rfl)
  exact hret hf hP hD hS dX0_prepare_181
abbrev rmX0_lettersOf : Room := { frames := 0, cells := 0, slots := 0, locals := 0 }
theorem yk_X0_lettersOf : yOk yX0_lettersOf RX0 1 := by unfold yOk; decide +kernel
def f_X0_lettersOf_B4 (x1_1 : Int32) (K35 : Int32 → MI → MJ → Prop) (rec4 : Int32 → Int32 → MI → MJ → Prop) (x2_2 : Int32) (x3_3 : Int32) (I_4 : MI) (J_5 : MJ) : Prop :=
  (((I_4 11 6 7) ≤ x3_3 → K35 x2_2 I_4 J_5) ∧ (¬ (I_4 11 6 7) ≤ x3_3 → (((x1_1 &&& ((1 : Int32) <<< (x3_3 &&& 31))) = (0 : Int32) → ∀ x3_8 : Int32, x3_8 = x3_3 + (1 : Int32) → rec4 x2_2 x3_8 I_4 J_5) ∧ (¬ (x1_1 &&& ((1 : Int32) <<< (x3_3 &&& 31))) = (0 : Int32) → (vp_in x3_3 8 ∧ ∀ x2_10 : Int32, x2_10 = (x2_2 + (I_4 11 9 x3_3.toNatClampNeg)) → ∀ x3_11 : Int32, x3_11 = x3_3 + (1 : Int32) → rec4 x2_10 x3_11 I_4 J_5)))))
def f_X0_lettersOf_L4 (x1_1 : Int32) (K35 : Int32 → MI → MJ → Prop) : Nat → Int32 → Int32 → MI → MJ → Prop
  | 0, _, _, _, _ => False
  | n + 1, x2_2, x3_3, I_4, J_5 => f_X0_lettersOf_B4 x1_1 K35 (f_X0_lettersOf_L4 x1_1 K35 n) x2_2 x3_3 I_4 J_5
def f_X0_lettersOf (x1 : Int32) (I : MI) (J : MJ) (Q : Int32 → MI → MJ → Prop) : Prop :=
  ∃ n : Nat, f_X0_lettersOf_L4 x1 (fun (x2_12 : Int32) (I_13 : MI) (J_14 : MJ) => Q x2_12 I_13 J_14) n (0 : Int32) (0 : Int32) I J
set_option maxRecDepth 100000 in
set_option maxHeartbeats 4000000 in
theorem c_X0_lettersOf {l : Launch} {E : EV} {ps : List (Nat × Nat)} (h11 : ∀ r, r < 11 → (11, r) ∈ ps) {x1 : Int32} {I : MI} {J : MJ} {Q : Int32 → MI → MJ → Prop} (hf : f_X0_lettersOf x1 I J Q) : KI l yX0_lettersOf wsX0_lettersOf rmX0_lettersOf E ps [.ref (eA E 11 6), .int x1] I J Q := by
  refine K_ofI (cc := cX0_lettersOf) (maxL := 4) (ty := .int) (by decide +kernel) rfl (Nat.le_of_ble_eq_true rfl) (fun p e s m args below meth c Qm hret S hK hX => ?_)
  have hA : ∀ q, s.heap.size ≤ q → AA E ps s.heap.size q := fun _ h => Or.inr h
  have k1 := S.2.2.2.2 (.fieldLink RX0 44 "RhymeRoofs$Chains" "size" "I") (by decide +kernel)
  have iX0 : ∀ w ∈ wsX00, w ∈ wsX0_lettersOf := fun _ h => List.mem_cons_of_mem _ (List.mem_append_right _ h)
  have k2 := S.2.2.2.2 (.fieldLink RX0 18 "RhymeRoofs$Chains" "lengths" "[I") (by decide +kernel)
  intro H locs ls hP hD hS hl
  unfold f_X0_lettersOf at hf
  refine lv_iconst (v := 0) S.1 S.2.1 dX0_lettersOf_0 rfl ?_
  refine lv_istore_n (lv' := [(2, .int (0 : Int32)), (0, .ref (eA E 11 6)), (1, .int x1)]) S.1 S.2.1 dX0_lettersOf_1 rfl hl (by decide) rfl (fun ls hl => ?_)
  refine lv_iconst (v := 0) S.1 S.2.1 dX0_lettersOf_2 rfl ?_
  refine lv_istore_n (lv' := [(3, .int (0 : Int32)), (2, .int (0 : Int32)), (0, .ref (eA E 11 6)), (1, .int x1)]) S.1 S.2.1 dX0_lettersOf_3 rfl hl (by decide) rfl (fun ls hl => ?_)
  obtain ⟨n_15, hf⟩ := hf
  have L4 : ∀ (x1_1 : Int32), ∀ (K35 : Int32 → MI → MJ → Prop), (∀ (x2_12 : Int32) (I_13 : MI) (J_14 : MJ), K35 x2_12 I_13 J_14 → Wj p l e (rmX0_lettersOf) s m args below meth c Qm E ps 4 I_13 J_14 35 [(2, .int x2_12)] []) → ∀ (n : Nat) (x2_2 : Int32) (x3_3 : Int32) (I_4 : MI) (J_5 : MJ), f_X0_lettersOf_L4 x1_1 K35 n x2_2 x3_3 I_4 J_5 → Wj p l e (rmX0_lettersOf) s m args below meth c Qm E ps 4 I_4 J_5 4 [(0, .ref (eA E 11 6)), (1, .int x1_1), (2, .int x2_2), (3, .int x3_3)] [] := by
    intro x1_1 K35 kx35 n
    induction n with
    | zero => intro x2_2 x3_3 I_4 J_5 hf; exact hf.elim
    | succ n ih4 =>
      intro x2_2 x3_3 I_4 J_5 hf
      have hf : f_X0_lettersOf_B4 x1_1 K35 (f_X0_lettersOf_L4 x1_1 K35 n) x2_2 x3_3 I_4 J_5 := hf
      intro H locs ls hP hD hS hl
      unfold f_X0_lettersOf_B4 at hf
      refine lv_iload_n S.1 S.2.1 dX0_lettersOf_4 rfl (lv_at hl 3 rfl) ?_
      refine lv_aload_n S.1 S.2.1 dX0_lettersOf_5 rfl (lv_at hl 0 rfl) ?_
      refine gfX0_7 S iX0 hK hP (h11 6 (by decide)) k1 dX0_lettersOf_6 ?_
      refine lv_icmp_ge (tgt := 35) S.1 S.2.1 dX0_lettersOf_9 (by decide) (fun h_6 => ?_) (fun h_6 => ?_)
      · have hf := hf.1 h_6
        exact kx35 _ _ _ hf _ _ _ hP hD hS (lv_sub hl [2] rfl)
      · have hf := hf.2 h_6
        refine lv_iload_n S.1 S.2.1 dX0_lettersOf_12 rfl (lv_at hl 1 rfl) ?_
        refine lv_iconst (v := 1) S.1 S.2.1 dX0_lettersOf_13 rfl ?_
        refine lv_iload_n S.1 S.2.1 dX0_lettersOf_14 rfl (lv_at hl 3 rfl) ?_
        refine lv_ishl S.1 S.2.1 dX0_lettersOf_15 ?_
        refine lv_iand S.1 S.2.1 dX0_lettersOf_16 ?_
        refine lv_if_eq (tgt := 29) S.1 S.2.1 dX0_lettersOf_17 (by decide) (fun h_7 => ?_) (fun h_7 => ?_)
        · have hf := hf.1 h_7
          refine nm_o hf (fun x3_8 ex3_8 hf => ?_)
          refine lv_iinc (v := x3_8) (lv' := [(3, .int x3_8), (0, .ref (eA E 11 6)), (1, .int x1_1), (2, .int x2_2)]) S.1 S.2.1 dX0_lettersOf_29 hl (k := 3) rfl (by rw [ex3_8]; rfl) (by decide) rfl (fun ls hl => ?_)
          refine lv_goto (tgt := 4) S.1 S.2.1 dX0_lettersOf_32 (by decide) ?_
          exact ih4 _ _ _ _ hf _ _ _ hP hD hS (lv_sub hl [1, 2, 3, 0] rfl)
        · have hf := hf.2 h_7
          refine lv_iload_n S.1 S.2.1 dX0_lettersOf_20 rfl (lv_at hl 2 rfl) ?_
          refine lv_aload_n S.1 S.2.1 dX0_lettersOf_21 rfl (lv_at hl 0 rfl) ?_
          refine gfX0_5 S iX0 hK hP (h11 6 (by decide)) k2 dX0_lettersOf_22 ?_
          refine lv_iload_n S.1 S.2.1 dX0_lettersOf_25 rfl (lv_at hl 3 rfl) ?_
          obtain ⟨h_9, hf⟩ := hf
          refine R_iald S.1 S.2.1 hK hP (h11 9 (by decide)) (IAo9 E) h_9 dX0_lettersOf_26 ?_
          refine lv_iadd S.1 S.2.1 dX0_lettersOf_27 ?_
          refine lv_topi (fun x2_10 ex2_10 => ?_)
          have hf := hf x2_10 ex2_10
          refine lv_istore_n (lv' := [(2, .int x2_10), (0, .ref (eA E 11 6)), (1, .int x1_1), (3, .int x3_3)]) S.1 S.2.1 dX0_lettersOf_28 rfl hl (by decide) rfl (fun ls hl => ?_)
          refine nm_o hf (fun x3_11 ex3_11 hf => ?_)
          refine lv_iinc (v := x3_11) (lv' := [(3, .int x3_11), (2, .int x2_10), (0, .ref (eA E 11 6)), (1, .int x1_1)]) S.1 S.2.1 dX0_lettersOf_29 hl (k := 3) rfl (by rw [ex3_11]; rfl) (by decide) rfl (fun ls hl => ?_)
          refine lv_goto (tgt := 4) S.1 S.2.1 dX0_lettersOf_32 (by decide) ?_
          exact ih4 _ _ _ _ hf _ _ _ hP hD hS (lv_sub hl [2, 3, 1, 0] rfl)
  refine L4 _ _ (fun x2_12 I_13 J_14 hf H locs ls hP hD hS hl => ?_)  n_15 _ _ _ _ hf _ _ _ hP hD hS (lv_sub hl [2, 3, 1, 0] rfl)
  refine lv_iload_n S.1 S.2.1 dX0_lettersOf_35 rfl (lv_at hl 0 rfl) ?_
  exact hret hf rfl hP hD hS dX0_lettersOf_36
abbrev rmX2_keep : Room := { frames := 4, cells := 0, slots := 0, locals := 127 }
theorem yk_X2_keep : yOk yX2_keep RX2 1 := by unfold yOk; decide +kernel
def f_X2_keep_J35 (g : Nat) (Q : MI → MJ → Prop) (s_5 : Int32) (I_6 : MI) (J_7 : MJ) : Prop :=
  ∀ I_8 : MI, I_8 = sI I_6 11 2 1 s_5 → (((8 : Int32) ≤ (I_8 11 2 2) → ∀ I_10 : MI, I_10 = sI I_8 11 2 2 (8 : Int32) → Q I_10 J_7) ∧ (¬ (8 : Int32) ≤ (I_8 11 2 2) → ∀ I_11 : MI, I_11 = sI I_8 11 2 2 ((I_8 11 2 2) + (1 : Int32)) → Q I_11 J_7))
def f_X2_keep (g : Nat) (I : MI) (J : MJ) (Q : MI → MJ → Prop) : Prop :=
  (vp_in (I 11 2 1) 8 ∧ f_X1_copyFrom (2 + (I 11 2 1).toNatClampNeg) g I J (fun (I_2 : MI) (J_3 : MJ) => (((8 : Int32) ≤ ((I_2 11 2 1) + (1 : Int32)) → f_X2_keep_J35 g Q (0 : Int32) I_2 J_3) ∧ (¬ (8 : Int32) ≤ ((I_2 11 2 1) + (1 : Int32)) → f_X2_keep_J35 g Q ((I_2 11 2 1) + (1 : Int32)) I_2 J_3))))
set_option maxRecDepth 100000 in
set_option maxHeartbeats 4000000 in
theorem c_X2_keep {l : Launch} {E : EV} {ps : List (Nat × Nat)} (h11 : ∀ r, r < 11 → (11, r) ∈ ps) (hG : ∀ k r, k < 11 → r < 16 → (k, r) ∈ ps) (hR : (eT E)[2]? = some (eG E, .object "RhymeRoofs$Game")) {g : Nat} (hBg : g < 11) (hMg : ∀ r, r < 16 → (g, r) ∈ ps) {I : MI} {J : MJ} {Q : MI → MJ → Prop} (hf : f_X2_keep g I J Q) : KV l yX2_keep wsX2_keep rmX2_keep E ps [.ref (eA E 11 2), .ref (eA E g 0)] I J Q := by
  refine K_ofV (cc := cX2_keep) (maxL := 2) (by decide +kernel) rfl (Nat.le_of_ble_eq_true rfl) (fun p e s m args below meth c Qm hret S hK hX => ?_)
  have hA : ∀ q, s.heap.size ≤ q → AA E ps s.heap.size q := fun _ h => Or.inr h
  have k1 := S.2.2.2.2 (.fieldLink RX2 11 "RhymeRoofs$History" "past" "[LRhymeRoofs$Game;") (by decide +kernel)
  have iX2 : ∀ w ∈ wsX20, w ∈ wsX2_keep := fun _ h => List.mem_cons_of_mem _ (List.mem_append_left _ (List.mem_append_left _ (List.mem_append_left _ (List.mem_append_right _ h))))
  have k2 := S.2.2.2.2 (.fieldLink RX2 17 "RhymeRoofs$History" "next" "I") (by decide +kernel)
  have k3 := S.2.2.2.2 (.fieldLink RX2 21 "RhymeRoofs$History" "count" "I") (by decide +kernel)
  have jn35 : ∀ (s_5 : Int32) (I_6 : MI) (J_7 : MJ), f_X2_keep_J35 g Q s_5 I_6 J_7 → Wj p l e (rmX2_keep) s m args below meth c Qm E ps 2 I_6 J_7 35 [(0, .ref (eA E 11 2))] [.int s_5, .ref (eA E 11 2)] := by
    intro s_5 I_6 J_7 hf H locs ls hP hD hS hl
    unfold f_X2_keep_J35 at hf
    refine nm_o hf (fun I_8 eI_8 hf => ?_)
    refine pfX2_1 S iX2 hK hP hD hS (h11 2 (by decide)) k2 dX2_keep_35 eI_8 (fun H locs hP hD hS => ?_)
    refine lv_aload_n S.1 S.2.1 dX2_keep_38 rfl (lv_at hl 0 rfl) ?_
    refine lv_aload_n S.1 S.2.1 dX2_keep_39 rfl (lv_at hl 0 rfl) ?_
    refine gfX2_2 S iX2 hK hP (h11 2 (by decide)) k3 dX2_keep_40 ?_
    refine lv_bipush (v := 8) S.1 S.2.1 dX2_keep_43 rfl ?_
    refine lv_icmp_ge (tgt := 57) S.1 S.2.1 dX2_keep_45 (by decide) (fun h_9 => ?_) (fun h_9 => ?_)
    · have hf := hf.1 h_9
      refine lv_bipush (v := 8) S.1 S.2.1 dX2_keep_57 rfl ?_
      refine nm_o hf (fun I_10 eI_10 hf => ?_)
      refine pfX2_2 S iX2 hK hP hD hS (h11 2 (by decide)) k3 dX2_keep_59 eI_10 (fun H locs hP hD hS => ?_)
      exact hret hf hP hD hS dX2_keep_62
    · have hf := hf.2 h_9
      refine lv_aload_n S.1 S.2.1 dX2_keep_48 rfl (lv_at hl 0 rfl) ?_
      refine gfX2_2 S iX2 hK hP (h11 2 (by decide)) k3 dX2_keep_49 ?_
      refine lv_iconst (v := 1) S.1 S.2.1 dX2_keep_52 rfl ?_
      refine lv_iadd S.1 S.2.1 dX2_keep_53 ?_
      refine lv_goto (tgt := 59) S.1 S.2.1 dX2_keep_54 (by decide) ?_
      refine nm_o hf (fun I_11 eI_11 hf => ?_)
      refine pfX2_2 S iX2 hK hP hD hS (h11 2 (by decide)) k3 dX2_keep_59 eI_11 (fun H locs hP hD hS => ?_)
      exact hret hf hP hD hS dX2_keep_62
  intro H locs ls hP hD hS hl
  unfold f_X2_keep at hf
  refine lv_aload_n S.1 S.2.1 dX2_keep_0 rfl (lv_at hl 0 rfl) ?_
  refine gfX2_0 S iX2 hK hP (h11 2 (by decide)) k1 dX2_keep_1 ?_
  refine lv_aload_n S.1 S.2.1 dX2_keep_4 rfl (lv_at hl 0 rfl) ?_
  refine gfX2_1 S iX2 hK hP (h11 2 (by decide)) k2 dX2_keep_5 ?_
  obtain ⟨h_1, hf⟩ := hf
  refine R_aldG S.1 S.2.1 hK hR hP (h11 3 (by decide)) h_1 dX2_keep_8 ?_
  refine lv_aload_n S.1 S.2.1 dX2_keep_9 rfl (lv_at hl 1 rfl) ?_
  refine R_cVv (As := [.ref (eA E g 0)]) (rest := []) S (c_X1_copyFrom (hB := (pst h_1)) (hM := (fun r => hG _ r (pst h_1))) (hBg := hBg) (hMg := hMg) hf) gX2_keep_X1_copyFrom rfl yk_X1_copyFrom ⟨⟨Nat.le_of_ble_eq_true rfl, Nat.le_of_ble_eq_true rfl⟩, rfl, rfl⟩ hK hP hD hS hX hA ((fun r => hG _ r (pst h_1)) 0 (by decide)) (cF_g E (pst h_1) _ _ 0) rfl rfl hl.1 rfl (Nat.le_of_ble_eq_true rfl) ⟨Nat.zero_le _, Nat.zero_le _⟩ dX2_keep_10 (fun I_2 J_3 H locs hf hP hD hS => ?_)
  refine lv_aload_n S.1 S.2.1 dX2_keep_13 rfl (lv_at hl 0 rfl) ?_
  refine lv_aload_n S.1 S.2.1 dX2_keep_14 rfl (lv_at hl 0 rfl) ?_
  refine gfX2_1 S iX2 hK hP (h11 2 (by decide)) k2 dX2_keep_15 ?_
  refine lv_iconst (v := 1) S.1 S.2.1 dX2_keep_18 rfl ?_
  refine lv_iadd S.1 S.2.1 dX2_keep_19 ?_
  refine lv_bipush (v := 8) S.1 S.2.1 dX2_keep_20 rfl ?_
  refine lv_icmp_ge (tgt := 34) S.1 S.2.1 dX2_keep_22 (by decide) (fun h_4 => ?_) (fun h_4 => ?_)
  · have hf := hf.1 h_4
    refine lv_iconst (v := 0) S.1 S.2.1 dX2_keep_34 rfl ?_
    exact jn35 _ _ _ hf _ _ _ hP hD hS (lv_sub hl [0] rfl)
  · have hf := hf.2 h_4
    refine lv_aload_n S.1 S.2.1 dX2_keep_25 rfl (lv_at hl 0 rfl) ?_
    refine gfX2_1 S iX2 hK hP (h11 2 (by decide)) k2 dX2_keep_26 ?_
    refine lv_iconst (v := 1) S.1 S.2.1 dX2_keep_29 rfl ?_
    refine lv_iadd S.1 S.2.1 dX2_keep_30 ?_
    refine lv_goto (tgt := 35) S.1 S.2.1 dX2_keep_31 (by decide) ?_
    exact jn35 _ _ _ hf _ _ _ hP hD hS (lv_sub hl [0] rfl)
abbrev rmX2_restore : Room := { frames := 4, cells := 0, slots := 0, locals := 127 }
theorem yk_X2_restore : yOk yX2_restore RX2 1 := by unfold yOk; decide +kernel
def f_X2_restore_J28 (g : Nat) (Q : Int32 → MI → MJ → Prop) (s_3 : Int32) (I_4 : MI) (J_5 : MJ) : Prop :=
  ∀ I_6 : MI, I_6 = sI I_4 11 2 1 s_3 → ∀ I_7 : MI, I_7 = sI I_6 11 2 2 ((I_6 11 2 2) - (1 : Int32)) → (vp_in (I_7 11 2 1) 8 ∧ f_X1_copyFrom g (2 + (I_7 11 2 1).toNatClampNeg) I_7 J_5 (fun (I_9 : MI) (J_10 : MJ) => Q (I_9 11 2 2) I_9 J_10))
def f_X2_restore (g : Nat) (I : MI) (J : MJ) (Q : Int32 → MI → MJ → Prop) : Prop :=
  (((I 11 2 2) = (0 : Int32) → Q (-1 : Int32) I J) ∧ (¬ (I 11 2 2) = (0 : Int32) → (((I 11 2 1) ≤ (0 : Int32) → f_X2_restore_J28 g Q (7 : Int32) I J) ∧ (¬ (I 11 2 1) ≤ (0 : Int32) → f_X2_restore_J28 g Q ((I 11 2 1) - (1 : Int32)) I J))))
set_option maxRecDepth 100000 in
set_option maxHeartbeats 4000000 in
theorem c_X2_restore {l : Launch} {E : EV} {ps : List (Nat × Nat)} (h11 : ∀ r, r < 11 → (11, r) ∈ ps) (hG : ∀ k r, k < 11 → r < 16 → (k, r) ∈ ps) (hR : (eT E)[2]? = some (eG E, .object "RhymeRoofs$Game")) {g : Nat} (hBg : g < 11) (hMg : ∀ r, r < 16 → (g, r) ∈ ps) {I : MI} {J : MJ} {Q : Int32 → MI → MJ → Prop} (hf : f_X2_restore g I J Q) : KI l yX2_restore wsX2_restore rmX2_restore E ps [.ref (eA E 11 2), .ref (eA E g 0)] I J Q := by
  refine K_ofI (cc := cX2_restore) (maxL := 2) (ty := .int) (by decide +kernel) rfl (Nat.le_of_ble_eq_true rfl) (fun p e s m args below meth c Qm hret S hK hX => ?_)
  have hA : ∀ q, s.heap.size ≤ q → AA E ps s.heap.size q := fun _ h => Or.inr h
  have k1 := S.2.2.2.2 (.fieldLink RX2 21 "RhymeRoofs$History" "count" "I") (by decide +kernel)
  have iX2 : ∀ w ∈ wsX20, w ∈ wsX2_restore := fun _ h => List.mem_cons_of_mem _ (List.mem_append_left _ (List.mem_append_left _ (List.mem_append_left _ (List.mem_append_right _ h))))
  have k2 := S.2.2.2.2 (.fieldLink RX2 17 "RhymeRoofs$History" "next" "I") (by decide +kernel)
  have k3 := S.2.2.2.2 (.fieldLink RX2 11 "RhymeRoofs$History" "past" "[LRhymeRoofs$Game;") (by decide +kernel)
  have jn28 : ∀ (s_3 : Int32) (I_4 : MI) (J_5 : MJ), f_X2_restore_J28 g Q s_3 I_4 J_5 → Wj p l e (rmX2_restore) s m args below meth c Qm E ps 2 I_4 J_5 28 [(0, .ref (eA E 11 2)), (1, .ref (eA E g 0))] [.int s_3, .ref (eA E 11 2)] := by
    intro s_3 I_4 J_5 hf H locs ls hP hD hS hl
    unfold f_X2_restore_J28 at hf
    refine nm_o hf (fun I_6 eI_6 hf => ?_)
    refine pfX2_1 S iX2 hK hP hD hS (h11 2 (by decide)) k2 dX2_restore_28 eI_6 (fun H locs hP hD hS => ?_)
    refine lv_aload_n S.1 S.2.1 dX2_restore_31 rfl (lv_at hl 0 rfl) ?_
    refine lv_dup S.1 S.2.1 dX2_restore_32 rfl ?_
    refine gfX2_2 S iX2 hK hP (h11 2 (by decide)) k1 dX2_restore_33 ?_
    refine lv_iconst (v := 1) S.1 S.2.1 dX2_restore_36 rfl ?_
    refine lv_isub S.1 S.2.1 dX2_restore_37 ?_
    refine nm_o hf (fun I_7 eI_7 hf => ?_)
    refine pfX2_2 S iX2 hK hP hD hS (h11 2 (by decide)) k1 dX2_restore_38 eI_7 (fun H locs hP hD hS => ?_)
    refine lv_aload_n S.1 S.2.1 dX2_restore_41 rfl (lv_at hl 1 rfl) ?_
    refine lv_aload_n S.1 S.2.1 dX2_restore_42 rfl (lv_at hl 0 rfl) ?_
    refine gfX2_0 S iX2 hK hP (h11 2 (by decide)) k3 dX2_restore_43 ?_
    refine lv_aload_n S.1 S.2.1 dX2_restore_46 rfl (lv_at hl 0 rfl) ?_
    refine gfX2_1 S iX2 hK hP (h11 2 (by decide)) k2 dX2_restore_47 ?_
    obtain ⟨h_8, hf⟩ := hf
    refine R_aldG S.1 S.2.1 hK hR hP (h11 3 (by decide)) h_8 dX2_restore_50 ?_
    refine R_cVv (As := [.ref (eA E (2 + (I_7 11 2 1).toNatClampNeg) 0)]) (rest := []) S (c_X1_copyFrom (hB := hBg) (hM := hMg) (hBg := (pst h_8)) (hMg := (fun r => hG _ r (pst h_8))) hf) gX2_restore_X1_copyFrom rfl yk_X1_copyFrom ⟨⟨Nat.le_of_ble_eq_true rfl, Nat.le_of_ble_eq_true rfl⟩, rfl, rfl⟩ hK hP hD hS hX hA (hMg 0 (by decide)) (cF_g E hBg _ _ 0) rfl rfl hl.1 rfl (Nat.le_of_ble_eq_true rfl) ⟨Nat.zero_le _, Nat.zero_le _⟩ dX2_restore_51 (fun I_9 J_10 H locs hf hP hD hS => ?_)
    refine lv_aload_n S.1 S.2.1 dX2_restore_54 rfl (lv_at hl 0 rfl) ?_
    refine gfX2_2 S iX2 hK hP (h11 2 (by decide)) k1 dX2_restore_55 ?_
    exact hret hf rfl hP hD hS dX2_restore_58
  intro H locs ls hP hD hS hl
  unfold f_X2_restore at hf
  refine lv_aload_n S.1 S.2.1 dX2_restore_0 rfl (lv_at hl 0 rfl) ?_
  refine gfX2_2 S iX2 hK hP (h11 2 (by decide)) k1 dX2_restore_1 ?_
  refine lv_if_ne (tgt := 9) S.1 S.2.1 dX2_restore_4 (by decide) (fun h_1 => ?_) (fun h_1 => ?_)
  · have hf := hf.2 h_1
    refine lv_aload_n S.1 S.2.1 dX2_restore_9 rfl (lv_at hl 0 rfl) ?_
    refine lv_aload_n S.1 S.2.1 dX2_restore_10 rfl (lv_at hl 0 rfl) ?_
    refine gfX2_1 S iX2 hK hP (h11 2 (by decide)) k2 dX2_restore_11 ?_
    refine lv_if_le (tgt := 26) S.1 S.2.1 dX2_restore_14 (by decide) (fun h_2 => ?_) (fun h_2 => ?_)
    · have hf := hf.1 h_2
      refine lv_bipush (v := 7) S.1 S.2.1 dX2_restore_26 rfl ?_
      exact jn28 _ _ _ hf _ _ _ hP hD hS (lv_sub hl [0, 1] rfl)
    · have hf := hf.2 h_2
      refine lv_aload_n S.1 S.2.1 dX2_restore_17 rfl (lv_at hl 0 rfl) ?_
      refine gfX2_1 S iX2 hK hP (h11 2 (by decide)) k2 dX2_restore_18 ?_
      refine lv_iconst (v := 1) S.1 S.2.1 dX2_restore_21 rfl ?_
      refine lv_isub S.1 S.2.1 dX2_restore_22 ?_
      refine lv_goto (tgt := 28) S.1 S.2.1 dX2_restore_23 (by decide) ?_
      exact jn28 _ _ _ hf _ _ _ hP hD hS (lv_sub hl [0, 1] rfl)
  · have hf := hf.1 h_1
    refine lv_iconst (v := (-1)) S.1 S.2.1 dX2_restore_7 rfl ?_
    exact hret hf rfl hP hD hS dX2_restore_8
abbrev rmX0_note : Room := { frames := 1, cells := 0, slots := 0, locals := 64 }
theorem yk_X0_note : yOk yX0_note RX0 4 := by unfold yOk; decide +kernel
def f_X0_note (x1 : Int32) (x2 : Int32) (x3 : Int32) (x4 : Int32) (I : MI) (J : MJ) (Q : MI → MJ → Prop) : Prop :=
  ∀ x5_1 : Int32, x5_1 = ((x1 * (8 : Int32)) + x2) → (vp_in x5_1 2048 ∧ (vp_in x5_1 2048 ∧ ∀ I_4 : MI, I_4 = sI I 11 7 x5_1.toNatClampNeg ((I 11 7 x5_1.toNatClampNeg) + x3) → (vp_in x5_1 2048 ∧ (vp_in x5_1 2048 ∧ ∀ I_7 : MI, I_7 = sI I_4 11 8 x5_1.toNatClampNeg (if (I_4 11 8 x5_1.toNatClampNeg) < x4 then x4 else I_4 11 8 x5_1.toNatClampNeg) → f_J6_bitCount_0f7a4 x1 I_7 J (fun (v_10 : Int32) (I_8 : MI) (J_9 : MJ) => ∀ I_11 : MI, I_11 = sI I_8 11 6 0 (if (I_7 11 6 0) < v_10 then v_10 else I_7 11 6 0) → ∀ I_12 : MI, I_12 = sI I_11 11 6 1 (if (I_11 11 6 1) < x4 then x4 else I_11 11 6 1) → f_X0_lettersOf x1 I_12 J_9 (fun (v_15 : Int32) (I_13 : MI) (J_14 : MJ) => ((v_15 = (I_13 11 6 8) → ∀ I_17 : MI, I_17 = sI I_13 11 6 2 ((I_13 11 6 2) + x3) → Q I_17 J_14) ∧ (¬ v_15 = (I_13 11 6 8) → Q I_13 J_14))))))))
set_option maxRecDepth 100000 in
set_option maxHeartbeats 4000000 in
theorem c_X0_note {l : Launch} {E : EV} {ps : List (Nat × Nat)} (h11 : ∀ r, r < 11 → (11, r) ∈ ps) {x1 : Int32} {x2 : Int32} {x3 : Int32} {x4 : Int32} {I : MI} {J : MJ} {Q : MI → MJ → Prop} (hf : f_X0_note x1 x2 x3 x4 I J Q) : KV l yX0_note wsX0_note rmX0_note E ps [.ref (eA E 11 6), .int x1, .int x2, .int x3, .int x4] I J Q := by
  refine K_ofV (cc := cX0_note) (maxL := 6) (by decide +kernel) rfl (Nat.le_of_ble_eq_true rfl) (fun p e s m args below meth c Qm hret S hK hX => ?_)
  have hA : ∀ q, s.heap.size ≤ q → AA E ps s.heap.size q := fun _ h => Or.inr h
  have k1 := S.2.2.2.2 (.fieldLink RX0 11 "RhymeRoofs$Chains" "ways" "[I") (by decide +kernel)
  have iX0 : ∀ w ∈ wsX00, w ∈ wsX0_note := fun _ h => List.mem_cons_of_mem _ (List.mem_append_right _ h)
  have k2 := S.2.2.2.2 (.fieldLink RX0 15 "RhymeRoofs$Chains" "bestPoints" "[I") (by decide +kernel)
  have k3 := S.2.2.2.2 (.methodLink RX0 119 Lib.Math.max.name) (by decide +kernel)
  have k4 := S.2.2.2.2 (.static Lib.Math.max.name) (by decide +kernel)
  have k5 := S.2.2.2.2 (.initialized "java/lang/Math") (by decide +kernel)
  have k6 := S.2.2.2.2 (.code Lib.Math.max.name Lib.Math.max.code 2 (some .int)) (by decide +kernel)
  have k7 := S.2.2.2.2 (.fieldLink RX0 24 "RhymeRoofs$Chains" "mostWords" "I") (by decide +kernel)
  have k8 := S.2.2.2.2 (.fieldLink RX0 28 "RhymeRoofs$Chains" "mostPoints" "I") (by decide +kernel)
  have k9 := S.2.2.2.2 (.fieldLink RX0 75 "RhymeRoofs$Chains" "free" "I") (by decide +kernel)
  have k10 := S.2.2.2.2 (.fieldLink RX0 31 "RhymeRoofs$Chains" "thatFill" "I") (by decide +kernel)
  intro H locs ls hP hD hS hl
  unfold f_X0_note at hf
  refine lv_iload_n S.1 S.2.1 dX0_note_0 rfl (lv_at hl 1 rfl) ?_
  refine lv_bipush (v := 8) S.1 S.2.1 dX0_note_1 rfl ?_
  refine lv_imul S.1 S.2.1 dX0_note_3 ?_
  refine lv_iload_n S.1 S.2.1 dX0_note_4 rfl (lv_at hl 2 rfl) ?_
  refine lv_iadd S.1 S.2.1 dX0_note_5 ?_
  refine lv_topi (fun x5_1 ex5_1 => ?_)
  have hf := hf x5_1 ex5_1
  refine lv_istore (lv' := [(5, .int x5_1), (0, .ref (eA E 11 6)), (1, .int x1), (2, .int x2), (3, .int x3), (4, .int x4)]) S.1 S.2.1 dX0_note_6 hl (by decide) rfl (fun ls hl => ?_)
  refine lv_aload_n S.1 S.2.1 dX0_note_8 rfl (lv_at hl 1 rfl) ?_
  refine gfX0_3 S iX0 hK hP (h11 6 (by decide)) k1 dX0_note_9 ?_
  refine lv_iload S.1 S.2.1 dX0_note_12 (lv_at hl 0 rfl) ?_
  refine lv_dup2_11 S.1 S.2.1 dX0_note_14 rfl rfl ?_
  obtain ⟨h_2, hf⟩ := hf
  refine R_iald S.1 S.2.1 hK hP (h11 7 (by decide)) (IAo7 E) h_2 dX0_note_15 ?_
  refine lv_iload_n S.1 S.2.1 dX0_note_16 rfl (lv_at hl 4 rfl) ?_
  refine lv_iadd S.1 S.2.1 dX0_note_17 ?_
  obtain ⟨h_3, hf⟩ := hf
  refine nm_o hf (fun I_4 eI_4 hf => ?_)
  refine R_iast S.1 S.2.1 hK hP hD hS (h11 7 (by decide)) (IAo7 E) h_3 dX0_note_18 eI_4 (fun H locs hP hD hS => ?_)
  refine lv_aload_n S.1 S.2.1 dX0_note_19 rfl (lv_at hl 1 rfl) ?_
  refine gfX0_4 S iX0 hK hP (h11 6 (by decide)) k2 dX0_note_20 ?_
  refine lv_iload S.1 S.2.1 dX0_note_23 (lv_at hl 0 rfl) ?_
  refine lv_aload_n S.1 S.2.1 dX0_note_25 rfl (lv_at hl 1 rfl) ?_
  refine gfX0_4 S iX0 hK hP (h11 6 (by decide)) k2 dX0_note_26 ?_
  refine lv_iload S.1 S.2.1 dX0_note_29 (lv_at hl 0 rfl) ?_
  obtain ⟨h_5, hf⟩ := hf
  refine R_iald S.1 S.2.1 hK hP (h11 8 (by decide)) (IAo8 E) h_5 dX0_note_31 ?_
  refine lv_iload S.1 S.2.1 dX0_note_32 (lv_at hl 5 rfl) ?_
  refine va_mmax S.1 S.2.1 (S.2.2.1.trans hl.1.symm) S.2.2.2.1 k3 k4 k5 k6 (Nat.le_of_ble_eq_true rfl) (Nat.le_of_ble_eq_true rfl) (Nat.zero_le _) (Nat.zero_le _) dX0_note_34 ?_
  obtain ⟨h_6, hf⟩ := hf
  refine nm_o hf (fun I_7 eI_7 hf => ?_)
  refine R_iast S.1 S.2.1 hK hP hD hS (h11 8 (by decide)) (IAo8 E) h_6 dX0_note_37 eI_7 (fun H locs hP hD hS => ?_)
  refine lv_aload_n S.1 S.2.1 dX0_note_38 rfl (lv_at hl 1 rfl) ?_
  refine lv_aload_n S.1 S.2.1 dX0_note_39 rfl (lv_at hl 1 rfl) ?_
  refine gfX0_0 S iX0 hK hP (h11 6 (by decide)) k7 dX0_note_40 ?_
  refine lv_iload_n S.1 S.2.1 dX0_note_43 rfl (lv_at hl 2 rfl) ?_
  refine R_cSi (As := [.int x1]) (rest := [.int (I_7 11 6 0), .ref (eA E 11 6)]) S (c_J6_bitCount_0f7a4   hf) gX0_note_J6_bitCount_0f7a4 rfl yk_J6_bitCount_0f7a4 ⟨⟨Nat.le_of_ble_eq_true rfl, Nat.le_of_ble_eq_true rfl⟩, rfl, rfl⟩ hK hP hD hS hX hA rfl hl.1 rfl (Nat.le_of_ble_eq_true rfl) ⟨Nat.zero_le _, Nat.zero_le _⟩ dX0_note_44 (fun v_10 I_8 J_9 H locs hf hP hD hS => ?_)
  refine va_mmax S.1 S.2.1 (S.2.2.1.trans hl.1.symm) S.2.2.2.1 k3 k4 k5 k6 (Nat.le_of_ble_eq_true rfl) (Nat.le_of_ble_eq_true rfl) (Nat.zero_le _) (Nat.zero_le _) dX0_note_47 ?_
  refine nm_o hf (fun I_11 eI_11 hf => ?_)
  refine pfX0_0 S iX0 hK hP hD hS (h11 6 (by decide)) k7 dX0_note_50 eI_11 (fun H locs hP hD hS => ?_)
  refine lv_aload_n S.1 S.2.1 dX0_note_53 rfl (lv_at hl 1 rfl) ?_
  refine lv_aload_n S.1 S.2.1 dX0_note_54 rfl (lv_at hl 1 rfl) ?_
  refine gfX0_1 S iX0 hK hP (h11 6 (by decide)) k8 dX0_note_55 ?_
  refine lv_iload S.1 S.2.1 dX0_note_58 (lv_at hl 5 rfl) ?_
  refine va_mmax S.1 S.2.1 (S.2.2.1.trans hl.1.symm) S.2.2.2.1 k3 k4 k5 k6 (Nat.le_of_ble_eq_true rfl) (Nat.le_of_ble_eq_true rfl) (Nat.zero_le _) (Nat.zero_le _) dX0_note_60 ?_
  refine nm_o hf (fun I_12 eI_12 hf => ?_)
  refine pfX0_1 S iX0 hK hP hD hS (h11 6 (by decide)) k8 dX0_note_63 eI_12 (fun H locs hP hD hS => ?_)
  refine lv_aload_n S.1 S.2.1 dX0_note_66 rfl (lv_at hl 1 rfl) ?_
  refine lv_iload_n S.1 S.2.1 dX0_note_67 rfl (lv_at hl 2 rfl) ?_
  refine R_cVi (As := [.int x1]) (rest := []) S (c_X0_lettersOf (h11 := h11)  hf) gX0_note_X0_lettersOf rfl yk_X0_lettersOf ⟨⟨Nat.le_of_ble_eq_true rfl, Nat.le_of_ble_eq_true rfl⟩, rfl, rfl⟩ hK hP hD hS hX hA (h11 6 (by decide)) (cF_o E _ _ 6) rfl rfl hl.1 rfl (Nat.le_of_ble_eq_true rfl) ⟨Nat.zero_le _, Nat.zero_le _⟩ dX0_note_68 (fun v_15 I_13 J_14 H locs hf hP hD hS => ?_)
  refine lv_aload_n S.1 S.2.1 dX0_note_71 rfl (lv_at hl 1 rfl) ?_
  refine gfX0_8 S iX0 hK hP (h11 6 (by decide)) k9 dX0_note_72 ?_
  refine lv_icmp_ne (tgt := 88) S.1 S.2.1 dX0_note_75 (by decide) (fun h_16 => ?_) (fun h_16 => ?_)
  · have hf := hf.2 h_16
    exact hret hf hP hD hS dX0_note_88
  · have hf := hf.1 h_16
    refine lv_aload_n S.1 S.2.1 dX0_note_78 rfl (lv_at hl 1 rfl) ?_
    refine lv_dup S.1 S.2.1 dX0_note_79 rfl ?_
    refine gfX0_2 S iX0 hK hP (h11 6 (by decide)) k10 dX0_note_80 ?_
    refine lv_iload_n S.1 S.2.1 dX0_note_83 rfl (lv_at hl 4 rfl) ?_
    refine lv_iadd S.1 S.2.1 dX0_note_84 ?_
    refine nm_o hf (fun I_17 eI_17 hf => ?_)
    refine pfX0_2 S iX0 hK hP hD hS (h11 6 (by decide)) k10 dX0_note_85 eI_17 (fun H locs hP hD hS => ?_)
    exact hret hf hP hD hS dX0_note_88
abbrev rmX0_extend : Room := { frames := 2, cells := 0, slots := 0, locals := 89 }
theorem yk_X0_extend : yOk yX0_extend RX0 1 := by unfold yOk; decide +kernel
def f_X0_extend_J155 (K193 : MI → MJ → Prop) (rec47 : Int32 → MI → MJ → Prop) (x1_17 : Int32) (x2_18 : Int32) (x3_19 : Int32) (x4_20 : Int32) (x5_21 : Int32) (x6_46 : Int32) (s_47 : Int32) (s_48 : Int32) (I_49 : MI) (J_50 : MJ) : Prop :=
  ∀ x9_51 : Int32, x9_51 = (s_48 + s_47) → (vp_in x5_21 2048 ∧ (vp_in x5_21 2048 ∧ f_X0_note (x1_17 ||| ((1 : Int32) <<< (x6_46 &&& 31))) x6_46 (I_49 11 7 x5_21.toNatClampNeg) ((I_49 11 8 x5_21.toNatClampNeg) + x9_51) I_49 J_50 (fun (I_54 : MI) (J_55 : MJ) => ∀ x6_56 : Int32, x6_56 = x6_46 + (1 : Int32) → rec47 x6_56 I_54 J_55)))
def f_X0_extend_J95 (K193 : MI → MJ → Prop) (rec47 : Int32 → MI → MJ → Prop) (x1_17 : Int32) (x2_18 : Int32) (x3_19 : Int32) (x4_20 : Int32) (x5_21 : Int32) (x6_31 : Int32) (x7_32 : Int32) (s_33 : Int32) (I_34 : MI) (J_35 : MJ) : Prop :=
  ((s_33 = (0 : Int32) → ∀ x6_37 : Int32, x6_37 = x6_31 + (1 : Int32) → rec47 x6_37 I_34 J_35) ∧ (¬ s_33 = (0 : Int32) → ((x7_32 = (-1 : Int32) → ∀ x6_39 : Int32, x6_39 = x6_31 + (1 : Int32) → rec47 x6_39 I_34 J_35) ∧ (¬ x7_32 = (-1 : Int32) → (vp_in x6_31 8 ∧ ((x2_18 < (I_34 11 9 x6_31.toNatClampNeg) → ∀ x6_42 : Int32, x6_42 = x6_31 + (1 : Int32) → rec47 x6_42 I_34 J_35) ∧ (¬ x2_18 < (I_34 11 9 x6_31.toNatClampNeg) → (vp_in x6_31 8 ∧ (vp_in x6_31 8 ∧ (((I_34 11 9 x6_31.toNatClampNeg) = x2_18 → f_X0_extend_J155 K193 rec47 x1_17 x2_18 x3_19 x4_20 x5_21 x6_31 ((I_34 11 6 11) * x3_19) ((I_34 11 9 x6_31.toNatClampNeg) + ((I_34 11 6 10) * x7_32)) I_34 J_35) ∧ (¬ (I_34 11 9 x6_31.toNatClampNeg) = x2_18 → f_X0_extend_J155 K193 rec47 x1_17 x2_18 x3_19 x4_20 x5_21 x6_31 (0 : Int32) ((I_34 11 9 x6_31.toNatClampNeg) + ((I_34 11 6 10) * x7_32)) I_34 J_35)))))))))))
def f_X0_extend_B47 (x1_17 : Int32) (x2_18 : Int32) (x3_19 : Int32) (x4_20 : Int32) (x5_21 : Int32) (K193 : MI → MJ → Prop) (rec47 : Int32 → MI → MJ → Prop) (x6_22 : Int32) (I_23 : MI) (J_24 : MJ) : Prop :=
  (((I_23 11 6 7) ≤ x6_22 → K193 I_23 J_24) ∧ (¬ (I_23 11 6 7) ≤ x6_22 → (vp_in x5_21 2048 ∧ (((I_23 11 7 x5_21.toNatClampNeg) ≤ (0 : Int32) → K193 I_23 J_24) ∧ (¬ (I_23 11 7 x5_21.toNatClampNeg) ≤ (0 : Int32) → (vp_in ((x4_20 * (8 : Int32)) + x6_22) 64 ∧ ∀ x7_29 : Int32, x7_29 = I_23 11 10 ((x4_20 * (8 : Int32)) + x6_22).toNatClampNeg → (((x1_17 &&& ((1 : Int32) <<< (x6_22 &&& 31))) = (0 : Int32) → f_X0_extend_J95 K193 rec47 x1_17 x2_18 x3_19 x4_20 x5_21 x6_22 x7_29 (1 : Int32) I_23 J_24) ∧ (¬ (x1_17 &&& ((1 : Int32) <<< (x6_22 &&& 31))) = (0 : Int32) → f_X0_extend_J95 K193 rec47 x1_17 x2_18 x3_19 x4_20 x5_21 x6_22 x7_29 (0 : Int32) I_23 J_24))))))))
def f_X0_extend_L47 (x1_17 : Int32) (x2_18 : Int32) (x3_19 : Int32) (x4_20 : Int32) (x5_21 : Int32) (K193 : MI → MJ → Prop) : Nat → Int32 → MI → MJ → Prop
  | 0, _, _, _ => False
  | n + 1, x6_22, I_23, J_24 => f_X0_extend_B47 x1_17 x2_18 x3_19 x4_20 x5_21 K193 (f_X0_extend_L47 x1_17 x2_18 x3_19 x4_20 x5_21 K193 n) x6_22 I_23 J_24
def f_X0_extend_B26 (x1_9 : Int32) (x2_10 : Int32) (x3_11 : Int32) (K199 : MI → MJ → Prop) (rec26 : Int32 → MI → MJ → Prop) (x4_12 : Int32) (I_13 : MI) (J_14 : MJ) : Prop :=
  (((I_13 11 6 7) ≤ x4_12 → K199 I_13 J_14) ∧ (¬ (I_13 11 6 7) ≤ x4_12 → ∀ x5_16 : Int32, x5_16 = ((x1_9 * (8 : Int32)) + x4_12) → ∃ n : Nat, f_X0_extend_L47 x1_9 x2_10 x3_11 x4_12 x5_16 (fun (I_57 : MI) (J_58 : MJ) => ∀ x4_59 : Int32, x4_59 = x4_12 + (1 : Int32) → rec26 x4_59 I_57 J_58) n (0 : Int32) I_13 J_14))
def f_X0_extend_L26 (x1_9 : Int32) (x2_10 : Int32) (x3_11 : Int32) (K199 : MI → MJ → Prop) : Nat → Int32 → MI → MJ → Prop
  | 0, _, _, _ => False
  | n + 1, x4_12, I_13, J_14 => f_X0_extend_B26 x1_9 x2_10 x3_11 K199 (f_X0_extend_L26 x1_9 x2_10 x3_11 K199 n) x4_12 I_13 J_14
def f_X0_extend (x1 : Int32) (I : MI) (J : MJ) (Q : MI → MJ → Prop) : Prop :=
  f_X0_lettersOf x1 I J (fun (v_3 : Int32) (I_1 : MI) (J_2 : MJ) => ∀ x2_4 : Int32, x2_4 = ((I 11 6 8) - v_3) → f_J6_bitCount_0f7a4 x1 I_1 J_2 (fun (v_7 : Int32) (I_5 : MI) (J_6 : MJ) => ∀ x3_8 : Int32, x3_8 = (((I_1 11 6 9) + v_7) + (1 : Int32)) → ∃ n : Nat, f_X0_extend_L26 x1 x2_4 x3_8 (fun (I_61 : MI) (J_62 : MJ) => Q I_61 J_62) n (0 : Int32) I_5 J_6))
set_option maxRecDepth 100000 in
set_option maxHeartbeats 4000000 in
theorem c_X0_extend {l : Launch} {E : EV} {ps : List (Nat × Nat)} (h11 : ∀ r, r < 11 → (11, r) ∈ ps) {x1 : Int32} {I : MI} {J : MJ} {Q : MI → MJ → Prop} (hf : f_X0_extend x1 I J Q) : KV l yX0_extend wsX0_extend rmX0_extend E ps [.ref (eA E 11 6), .int x1] I J Q := by
  refine K_ofV (cc := cX0_extend) (maxL := 10) (by decide +kernel) rfl (Nat.le_of_ble_eq_true rfl) (fun p e s m args below meth c Qm hret S hK hX => ?_)
  have hA : ∀ q, s.heap.size ≤ q → AA E ps s.heap.size q := fun _ h => Or.inr h
  have k1 := S.2.2.2.2 (.fieldLink RX0 75 "RhymeRoofs$Chains" "free" "I") (by decide +kernel)
  have iX0 : ∀ w ∈ wsX00, w ∈ wsX0_extend := fun _ h => List.mem_cons_of_mem _ (List.mem_append_right _ h)
  have k2 := S.2.2.2.2 (.fieldLink RX0 81 "RhymeRoofs$Chains" "wordsBefore" "I") (by decide +kernel)
  have k3 := S.2.2.2.2 (.fieldLink RX0 44 "RhymeRoofs$Chains" "size" "I") (by decide +kernel)
  have k4 := S.2.2.2.2 (.fieldLink RX0 11 "RhymeRoofs$Chains" "ways" "[I") (by decide +kernel)
  have k5 := S.2.2.2.2 (.fieldLink RX0 21 "RhymeRoofs$Chains" "rhymes" "[I") (by decide +kernel)
  have k6 := S.2.2.2.2 (.fieldLink RX0 18 "RhymeRoofs$Chains" "lengths" "[I") (by decide +kernel)
  have k7 := S.2.2.2.2 (.fieldLink RX0 93 "RhymeRoofs$Chains" "bonus" "I") (by decide +kernel)
  have k8 := S.2.2.2.2 (.fieldLink RX0 15 "RhymeRoofs$Chains" "bestPoints" "[I") (by decide +kernel)
  have k9 := S.2.2.2.2 (.fieldLink RX0 97 "RhymeRoofs$Chains" "crown" "I") (by decide +kernel)
  intro H locs ls hP hD hS hl
  unfold f_X0_extend at hf
  refine lv_aload_n S.1 S.2.1 dX0_extend_0 rfl (lv_at hl 0 rfl) ?_
  refine gfX0_8 S iX0 hK hP (h11 6 (by decide)) k1 dX0_extend_1 ?_
  refine lv_aload_n S.1 S.2.1 dX0_extend_4 rfl (lv_at hl 0 rfl) ?_
  refine lv_iload_n S.1 S.2.1 dX0_extend_5 rfl (lv_at hl 1 rfl) ?_
  refine R_cVi (As := [.int x1]) (rest := [.int (I 11 6 8)]) S (c_X0_lettersOf (h11 := h11)  hf) gX0_extend_X0_lettersOf rfl yk_X0_lettersOf ⟨⟨Nat.le_of_ble_eq_true rfl, Nat.le_of_ble_eq_true rfl⟩, rfl, rfl⟩ hK hP hD hS hX hA (h11 6 (by decide)) (cF_o E _ _ 6) rfl rfl hl.1 rfl (Nat.le_of_ble_eq_true rfl) ⟨Nat.zero_le _, Nat.zero_le _⟩ dX0_extend_6 (fun v_3 I_1 J_2 H locs hf hP hD hS => ?_)
  refine lv_isub S.1 S.2.1 dX0_extend_9 ?_
  refine lv_topi (fun x2_4 ex2_4 => ?_)
  have hf := hf x2_4 ex2_4
  refine lv_istore_n (lv' := [(2, .int x2_4), (0, .ref (eA E 11 6)), (1, .int x1)]) S.1 S.2.1 dX0_extend_10 rfl hl (by decide) rfl (fun ls hl => ?_)
  refine lv_aload_n S.1 S.2.1 dX0_extend_11 rfl (lv_at hl 1 rfl) ?_
  refine gfX0_9 S iX0 hK hP (h11 6 (by decide)) k2 dX0_extend_12 ?_
  refine lv_iload_n S.1 S.2.1 dX0_extend_15 rfl (lv_at hl 2 rfl) ?_
  refine R_cSi (As := [.int x1]) (rest := [.int (I_1 11 6 9)]) S (c_J6_bitCount_0f7a4   hf) gX0_extend_J6_bitCount_0f7a4 rfl yk_J6_bitCount_0f7a4 ⟨⟨Nat.le_of_ble_eq_true rfl, Nat.le_of_ble_eq_true rfl⟩, rfl, rfl⟩ hK hP hD hS hX hA rfl hl.1 rfl (Nat.le_of_ble_eq_true rfl) ⟨Nat.zero_le _, Nat.zero_le _⟩ dX0_extend_16 (fun v_7 I_5 J_6 H locs hf hP hD hS => ?_)
  refine lv_iadd S.1 S.2.1 dX0_extend_19 ?_
  refine lv_iconst (v := 1) S.1 S.2.1 dX0_extend_20 rfl ?_
  refine lv_iadd S.1 S.2.1 dX0_extend_21 ?_
  refine lv_topi (fun x3_8 ex3_8 => ?_)
  have hf := hf x3_8 ex3_8
  refine lv_istore_n (lv' := [(3, .int x3_8), (2, .int x2_4), (0, .ref (eA E 11 6)), (1, .int x1)]) S.1 S.2.1 dX0_extend_22 rfl hl (by decide) rfl (fun ls hl => ?_)
  refine lv_iconst (v := 0) S.1 S.2.1 dX0_extend_23 rfl ?_
  refine lv_istore (lv' := [(4, .int (0 : Int32)), (3, .int x3_8), (2, .int x2_4), (0, .ref (eA E 11 6)), (1, .int x1)]) S.1 S.2.1 dX0_extend_24 hl (by decide) rfl (fun ls hl => ?_)
  obtain ⟨n_63, hf⟩ := hf
  have L26 : ∀ (x1_9 : Int32), ∀ (x2_10 : Int32), ∀ (x3_11 : Int32), ∀ (K199 : MI → MJ → Prop), (∀ (I_61 : MI) (J_62 : MJ), K199 I_61 J_62 → Wj p l e (rmX0_extend) s m args below meth c Qm E ps 10 I_61 J_62 199 [] []) → ∀ (n : Nat) (x4_12 : Int32) (I_13 : MI) (J_14 : MJ), f_X0_extend_L26 x1_9 x2_10 x3_11 K199 n x4_12 I_13 J_14 → Wj p l e (rmX0_extend) s m args below meth c Qm E ps 10 I_13 J_14 26 [(0, .ref (eA E 11 6)), (1, .int x1_9), (2, .int x2_10), (3, .int x3_11), (4, .int x4_12)] [] := by
    intro x1_9 x2_10 x3_11 K199 kx199 n
    induction n with
    | zero => intro x4_12 I_13 J_14 hf; exact hf.elim
    | succ n ih26 =>
      intro x4_12 I_13 J_14 hf
      have hf : f_X0_extend_B26 x1_9 x2_10 x3_11 K199 (f_X0_extend_L26 x1_9 x2_10 x3_11 K199 n) x4_12 I_13 J_14 := hf
      intro H locs ls hP hD hS hl
      unfold f_X0_extend_B26 at hf
      refine lv_iload S.1 S.2.1 dX0_extend_26 (lv_at hl 4 rfl) ?_
      refine lv_aload_n S.1 S.2.1 dX0_extend_28 rfl (lv_at hl 0 rfl) ?_
      refine gfX0_7 S iX0 hK hP (h11 6 (by decide)) k3 dX0_extend_29 ?_
      refine lv_icmp_ge (tgt := 199) S.1 S.2.1 dX0_extend_32 (by decide) (fun h_15 => ?_) (fun h_15 => ?_)
      · have hf := hf.1 h_15
        exact kx199 _ _ hf _ _ _ hP hD hS (lv_sub hl [] rfl)
      · have hf := hf.2 h_15
        refine lv_iload_n S.1 S.2.1 dX0_extend_35 rfl (lv_at hl 1 rfl) ?_
        refine lv_bipush (v := 8) S.1 S.2.1 dX0_extend_36 rfl ?_
        refine lv_imul S.1 S.2.1 dX0_extend_38 ?_
        refine lv_iload S.1 S.2.1 dX0_extend_39 (lv_at hl 4 rfl) ?_
        refine lv_iadd S.1 S.2.1 dX0_extend_41 ?_
        refine lv_topi (fun x5_16 ex5_16 => ?_)
        have hf := hf x5_16 ex5_16
        refine lv_istore (lv' := [(5, .int x5_16), (0, .ref (eA E 11 6)), (1, .int x1_9), (2, .int x2_10), (3, .int x3_11), (4, .int x4_12)]) S.1 S.2.1 dX0_extend_42 hl (by decide) rfl (fun ls hl => ?_)
        refine lv_iconst (v := 0) S.1 S.2.1 dX0_extend_44 rfl ?_
        refine lv_istore (lv' := [(6, .int (0 : Int32)), (5, .int x5_16), (0, .ref (eA E 11 6)), (1, .int x1_9), (2, .int x2_10), (3, .int x3_11), (4, .int x4_12)]) S.1 S.2.1 dX0_extend_45 hl (by decide) rfl (fun ls hl => ?_)
        obtain ⟨n_60, hf⟩ := hf
        have L47 : ∀ (x1_17 : Int32), ∀ (x2_18 : Int32), ∀ (x3_19 : Int32), ∀ (x4_20 : Int32), ∀ (x5_21 : Int32), ∀ (K193 : MI → MJ → Prop), (∀ (I_57 : MI) (J_58 : MJ), K193 I_57 J_58 → Wj p l e (rmX0_extend) s m args below meth c Qm E ps 10 I_57 J_58 193 [(0, .ref (eA E 11 6)), (1, .int x1_17), (2, .int x2_18), (3, .int x3_19), (4, .int x4_20)] []) → ∀ (n : Nat) (x6_22 : Int32) (I_23 : MI) (J_24 : MJ), f_X0_extend_L47 x1_17 x2_18 x3_19 x4_20 x5_21 K193 n x6_22 I_23 J_24 → Wj p l e (rmX0_extend) s m args below meth c Qm E ps 10 I_23 J_24 47 [(0, .ref (eA E 11 6)), (1, .int x1_17), (2, .int x2_18), (3, .int x3_19), (4, .int x4_20), (5, .int x5_21), (6, .int x6_22)] [] := by
          intro x1_17 x2_18 x3_19 x4_20 x5_21 K193 kx193 n
          induction n with
          | zero => intro x6_22 I_23 J_24 hf; exact hf.elim
          | succ n ih47 =>
            intro x6_22 I_23 J_24 hf
            have hf : f_X0_extend_B47 x1_17 x2_18 x3_19 x4_20 x5_21 K193 (f_X0_extend_L47 x1_17 x2_18 x3_19 x4_20 x5_21 K193 n) x6_22 I_23 J_24 := hf
            have jn155 : ∀ (x6_46 : Int32) (s_47 : Int32) (s_48 : Int32) (I_49 : MI) (J_50 : MJ), f_X0_extend_J155 K193 (f_X0_extend_L47 x1_17 x2_18 x3_19 x4_20 x5_21 K193 n) x1_17 x2_18 x3_19 x4_20 x5_21 x6_46 s_47 s_48 I_49 J_50 → Wj p l e (rmX0_extend) s m args below meth c Qm E ps 10 I_49 J_50 155 [(0, .ref (eA E 11 6)), (1, .int x1_17), (2, .int x2_18), (3, .int x3_19), (4, .int x4_20), (5, .int x5_21), (6, .int x6_46)] [.int s_47, .int s_48] := by
              intro x6_46 s_47 s_48 I_49 J_50 hf H locs ls hP hD hS hl
              unfold f_X0_extend_J155 at hf
              refine lv_iadd S.1 S.2.1 dX0_extend_155 ?_
              refine lv_topi (fun x9_51 ex9_51 => ?_)
              have hf := hf x9_51 ex9_51
              refine lv_istore (lv' := [(9, .int x9_51), (0, .ref (eA E 11 6)), (1, .int x1_17), (2, .int x2_18), (3, .int x3_19), (4, .int x4_20), (5, .int x5_21), (6, .int x6_46)]) S.1 S.2.1 dX0_extend_156 hl (by decide) rfl (fun ls hl => ?_)
              refine lv_aload_n S.1 S.2.1 dX0_extend_158 rfl (lv_at hl 1 rfl) ?_
              refine lv_iload_n S.1 S.2.1 dX0_extend_159 rfl (lv_at hl 2 rfl) ?_
              refine lv_iconst (v := 1) S.1 S.2.1 dX0_extend_160 rfl ?_
              refine lv_iload S.1 S.2.1 dX0_extend_161 (lv_at hl 7 rfl) ?_
              refine lv_ishl S.1 S.2.1 dX0_extend_163 ?_
              refine lv_ior S.1 S.2.1 dX0_extend_164 ?_
              refine lv_iload S.1 S.2.1 dX0_extend_165 (lv_at hl 7 rfl) ?_
              refine lv_aload_n S.1 S.2.1 dX0_extend_167 rfl (lv_at hl 1 rfl) ?_
              refine gfX0_3 S iX0 hK hP (h11 6 (by decide)) k4 dX0_extend_168 ?_
              refine lv_iload S.1 S.2.1 dX0_extend_171 (lv_at hl 6 rfl) ?_
              obtain ⟨h_52, hf⟩ := hf
              refine R_iald S.1 S.2.1 hK hP (h11 7 (by decide)) (IAo7 E) h_52 dX0_extend_173 ?_
              refine lv_aload_n S.1 S.2.1 dX0_extend_174 rfl (lv_at hl 1 rfl) ?_
              refine gfX0_4 S iX0 hK hP (h11 6 (by decide)) k8 dX0_extend_175 ?_
              refine lv_iload S.1 S.2.1 dX0_extend_178 (lv_at hl 6 rfl) ?_
              obtain ⟨h_53, hf⟩ := hf
              refine R_iald S.1 S.2.1 hK hP (h11 8 (by decide)) (IAo8 E) h_53 dX0_extend_180 ?_
              refine lv_iload S.1 S.2.1 dX0_extend_181 (lv_at hl 0 rfl) ?_
              refine lv_iadd S.1 S.2.1 dX0_extend_183 ?_
              refine R_cVv (As := [.int (x1_17 ||| ((1 : Int32) <<< (x6_46 &&& 31))), .int x6_46, .int (I_49 11 7 x5_21.toNatClampNeg), .int ((I_49 11 8 x5_21.toNatClampNeg) + x9_51)]) (rest := []) S (c_X0_note (h11 := h11)  hf) gX0_extend_X0_note rfl yk_X0_note ⟨⟨Nat.le_of_ble_eq_true rfl, Nat.le_of_ble_eq_true rfl⟩, rfl, rfl⟩ hK hP hD hS hX hA (h11 6 (by decide)) (cF_o E _ _ 6) rfl rfl hl.1 rfl (Nat.le_of_ble_eq_true rfl) ⟨Nat.zero_le _, Nat.zero_le _⟩ dX0_extend_184 (fun I_54 J_55 H locs hf hP hD hS => ?_)
              refine nm_o hf (fun x6_56 ex6_56 hf => ?_)
              refine lv_iinc (v := x6_56) (lv' := [(6, .int x6_56), (9, .int x9_51), (0, .ref (eA E 11 6)), (1, .int x1_17), (2, .int x2_18), (3, .int x3_19), (4, .int x4_20), (5, .int x5_21)]) S.1 S.2.1 dX0_extend_187 hl (k := 7) rfl (by rw [ex6_56]; rfl) (by decide) rfl (fun ls hl => ?_)
              refine lv_goto (tgt := 47) S.1 S.2.1 dX0_extend_190 (by decide) ?_
              exact ih47 _ _ _ hf _ _ _ hP hD hS (lv_sub hl [2, 3, 4, 5, 6, 7, 0] rfl)
            have jn95 : ∀ (x6_31 : Int32) (x7_32 : Int32) (s_33 : Int32) (I_34 : MI) (J_35 : MJ), f_X0_extend_J95 K193 (f_X0_extend_L47 x1_17 x2_18 x3_19 x4_20 x5_21 K193 n) x1_17 x2_18 x3_19 x4_20 x5_21 x6_31 x7_32 s_33 I_34 J_35 → Wj p l e (rmX0_extend) s m args below meth c Qm E ps 10 I_34 J_35 95 [(0, .ref (eA E 11 6)), (1, .int x1_17), (2, .int x2_18), (3, .int x3_19), (4, .int x4_20), (5, .int x5_21), (6, .int x6_31), (7, .int x7_32)] [.int s_33] := by
              intro x6_31 x7_32 s_33 I_34 J_35 hf H locs ls hP hD hS hl
              unfold f_X0_extend_J95 at hf
              refine lv_istore (lv' := [(8, .int s_33), (0, .ref (eA E 11 6)), (1, .int x1_17), (2, .int x2_18), (3, .int x3_19), (4, .int x4_20), (5, .int x5_21), (6, .int x6_31), (7, .int x7_32)]) S.1 S.2.1 dX0_extend_95 hl (by decide) rfl (fun ls hl => ?_)
              refine lv_iload S.1 S.2.1 dX0_extend_97 (lv_at hl 0 rfl) ?_
              refine lv_if_eq (tgt := 187) S.1 S.2.1 dX0_extend_99 (by decide) (fun h_36 => ?_) (fun h_36 => ?_)
              · have hf := hf.1 h_36
                refine nm_o hf (fun x6_37 ex6_37 hf => ?_)
                refine lv_iinc (v := x6_37) (lv' := [(6, .int x6_37), (8, .int s_33), (0, .ref (eA E 11 6)), (1, .int x1_17), (2, .int x2_18), (3, .int x3_19), (4, .int x4_20), (5, .int x5_21), (7, .int x7_32)]) S.1 S.2.1 dX0_extend_187 hl (k := 7) rfl (by rw [ex6_37]; rfl) (by decide) rfl (fun ls hl => ?_)
                refine lv_goto (tgt := 47) S.1 S.2.1 dX0_extend_190 (by decide) ?_
                exact ih47 _ _ _ hf _ _ _ hP hD hS (lv_sub hl [2, 3, 4, 5, 6, 7, 0] rfl)
              · have hf := hf.2 h_36
                refine lv_iload S.1 S.2.1 dX0_extend_102 (lv_at hl 8 rfl) ?_
                refine lv_iconst (v := (-1)) S.1 S.2.1 dX0_extend_104 rfl ?_
                refine lv_icmp_eq (tgt := 187) S.1 S.2.1 dX0_extend_105 (by decide) (fun h_38 => ?_) (fun h_38 => ?_)
                · have hf := hf.1 h_38
                  refine nm_o hf (fun x6_39 ex6_39 hf => ?_)
                  refine lv_iinc (v := x6_39) (lv' := [(6, .int x6_39), (8, .int s_33), (0, .ref (eA E 11 6)), (1, .int x1_17), (2, .int x2_18), (3, .int x3_19), (4, .int x4_20), (5, .int x5_21), (7, .int x7_32)]) S.1 S.2.1 dX0_extend_187 hl (k := 7) rfl (by rw [ex6_39]; rfl) (by decide) rfl (fun ls hl => ?_)
                  refine lv_goto (tgt := 47) S.1 S.2.1 dX0_extend_190 (by decide) ?_
                  exact ih47 _ _ _ hf _ _ _ hP hD hS (lv_sub hl [2, 3, 4, 5, 6, 7, 0] rfl)
                · have hf := hf.2 h_38
                  refine lv_aload_n S.1 S.2.1 dX0_extend_108 rfl (lv_at hl 1 rfl) ?_
                  refine gfX0_5 S iX0 hK hP (h11 6 (by decide)) k6 dX0_extend_109 ?_
                  refine lv_iload S.1 S.2.1 dX0_extend_112 (lv_at hl 7 rfl) ?_
                  obtain ⟨h_40, hf⟩ := hf
                  refine R_iald S.1 S.2.1 hK hP (h11 9 (by decide)) (IAo9 E) h_40 dX0_extend_114 ?_
                  refine lv_iload_n S.1 S.2.1 dX0_extend_115 rfl (lv_at hl 3 rfl) ?_
                  refine lv_icmp_gt (tgt := 187) S.1 S.2.1 dX0_extend_116 (by decide) (fun h_41 => ?_) (fun h_41 => ?_)
                  · have hf := hf.1 h_41
                    refine nm_o hf (fun x6_42 ex6_42 hf => ?_)
                    refine lv_iinc (v := x6_42) (lv' := [(6, .int x6_42), (8, .int s_33), (0, .ref (eA E 11 6)), (1, .int x1_17), (2, .int x2_18), (3, .int x3_19), (4, .int x4_20), (5, .int x5_21), (7, .int x7_32)]) S.1 S.2.1 dX0_extend_187 hl (k := 7) rfl (by rw [ex6_42]; rfl) (by decide) rfl (fun ls hl => ?_)
                    refine lv_goto (tgt := 47) S.1 S.2.1 dX0_extend_190 (by decide) ?_
                    exact ih47 _ _ _ hf _ _ _ hP hD hS (lv_sub hl [2, 3, 4, 5, 6, 7, 0] rfl)
                  · have hf := hf.2 h_41
                    refine lv_aload_n S.1 S.2.1 dX0_extend_119 rfl (lv_at hl 1 rfl) ?_
                    refine gfX0_5 S iX0 hK hP (h11 6 (by decide)) k6 dX0_extend_120 ?_
                    refine lv_iload S.1 S.2.1 dX0_extend_123 (lv_at hl 7 rfl) ?_
                    obtain ⟨h_43, hf⟩ := hf
                    refine R_iald S.1 S.2.1 hK hP (h11 9 (by decide)) (IAo9 E) h_43 dX0_extend_125 ?_
                    refine lv_aload_n S.1 S.2.1 dX0_extend_126 rfl (lv_at hl 1 rfl) ?_
                    refine gfX0_10 S iX0 hK hP (h11 6 (by decide)) k7 dX0_extend_127 ?_
                    refine lv_iload S.1 S.2.1 dX0_extend_130 (lv_at hl 8 rfl) ?_
                    refine lv_imul S.1 S.2.1 dX0_extend_132 ?_
                    refine lv_iadd S.1 S.2.1 dX0_extend_133 ?_
                    refine lv_aload_n S.1 S.2.1 dX0_extend_134 rfl (lv_at hl 1 rfl) ?_
                    refine gfX0_5 S iX0 hK hP (h11 6 (by decide)) k6 dX0_extend_135 ?_
                    refine lv_iload S.1 S.2.1 dX0_extend_138 (lv_at hl 7 rfl) ?_
                    obtain ⟨h_44, hf⟩ := hf
                    refine R_iald S.1 S.2.1 hK hP (h11 9 (by decide)) (IAo9 E) h_44 dX0_extend_140 ?_
                    refine lv_iload_n S.1 S.2.1 dX0_extend_141 rfl (lv_at hl 3 rfl) ?_
                    refine lv_icmp_ne (tgt := 154) S.1 S.2.1 dX0_extend_142 (by decide) (fun h_45 => ?_) (fun h_45 => ?_)
                    · have hf := hf.2 h_45
                      refine lv_iconst (v := 0) S.1 S.2.1 dX0_extend_154 rfl ?_
                      exact jn155 _ _ _ _ _ hf _ _ _ hP hD hS (lv_sub hl [1, 2, 3, 4, 5, 6, 7] rfl)
                    · have hf := hf.1 h_45
                      refine lv_aload_n S.1 S.2.1 dX0_extend_145 rfl (lv_at hl 1 rfl) ?_
                      refine gfX0_11 S iX0 hK hP (h11 6 (by decide)) k9 dX0_extend_146 ?_
                      refine lv_iload_n S.1 S.2.1 dX0_extend_149 rfl (lv_at hl 4 rfl) ?_
                      refine lv_imul S.1 S.2.1 dX0_extend_150 ?_
                      refine lv_goto (tgt := 155) S.1 S.2.1 dX0_extend_151 (by decide) ?_
                      exact jn155 _ _ _ _ _ hf _ _ _ hP hD hS (lv_sub hl [1, 2, 3, 4, 5, 6, 7] rfl)
            intro H locs ls hP hD hS hl
            unfold f_X0_extend_B47 at hf
            refine lv_iload S.1 S.2.1 dX0_extend_47 (lv_at hl 6 rfl) ?_
            refine lv_aload_n S.1 S.2.1 dX0_extend_49 rfl (lv_at hl 0 rfl) ?_
            refine gfX0_7 S iX0 hK hP (h11 6 (by decide)) k3 dX0_extend_50 ?_
            refine lv_icmp_ge (tgt := 193) S.1 S.2.1 dX0_extend_53 (by decide) (fun h_25 => ?_) (fun h_25 => ?_)
            · have hf := hf.1 h_25
              exact kx193 _ _ hf _ _ _ hP hD hS (lv_sub hl [0, 1, 2, 3, 4] rfl)
            · have hf := hf.2 h_25
              refine lv_aload_n S.1 S.2.1 dX0_extend_56 rfl (lv_at hl 0 rfl) ?_
              refine gfX0_3 S iX0 hK hP (h11 6 (by decide)) k4 dX0_extend_57 ?_
              refine lv_iload S.1 S.2.1 dX0_extend_60 (lv_at hl 5 rfl) ?_
              obtain ⟨h_26, hf⟩ := hf
              refine R_iald S.1 S.2.1 hK hP (h11 7 (by decide)) (IAo7 E) h_26 dX0_extend_62 ?_
              refine lv_if_le (tgt := 193) S.1 S.2.1 dX0_extend_63 (by decide) (fun h_27 => ?_) (fun h_27 => ?_)
              · have hf := hf.1 h_27
                exact kx193 _ _ hf _ _ _ hP hD hS (lv_sub hl [0, 1, 2, 3, 4] rfl)
              · have hf := hf.2 h_27
                refine lv_aload_n S.1 S.2.1 dX0_extend_66 rfl (lv_at hl 0 rfl) ?_
                refine gfX0_6 S iX0 hK hP (h11 6 (by decide)) k5 dX0_extend_67 ?_
                refine lv_iload S.1 S.2.1 dX0_extend_70 (lv_at hl 4 rfl) ?_
                refine lv_bipush (v := 8) S.1 S.2.1 dX0_extend_72 rfl ?_
                refine lv_imul S.1 S.2.1 dX0_extend_74 ?_
                refine lv_iload S.1 S.2.1 dX0_extend_75 (lv_at hl 6 rfl) ?_
                refine lv_iadd S.1 S.2.1 dX0_extend_77 ?_
                obtain ⟨h_28, hf⟩ := hf
                refine R_iald S.1 S.2.1 hK hP (h11 10 (by decide)) (IAo10 E) h_28 dX0_extend_78 ?_
                refine lv_topi (fun x7_29 ex7_29 => ?_)
                have hf := hf x7_29 ex7_29
                refine lv_istore (lv' := [(7, .int x7_29), (0, .ref (eA E 11 6)), (1, .int x1_17), (2, .int x2_18), (3, .int x3_19), (4, .int x4_20), (5, .int x5_21), (6, .int x6_22)]) S.1 S.2.1 dX0_extend_79 hl (by decide) rfl (fun ls hl => ?_)
                refine lv_iload_n S.1 S.2.1 dX0_extend_81 rfl (lv_at hl 2 rfl) ?_
                refine lv_iconst (v := 1) S.1 S.2.1 dX0_extend_82 rfl ?_
                refine lv_iload S.1 S.2.1 dX0_extend_83 (lv_at hl 7 rfl) ?_
                refine lv_ishl S.1 S.2.1 dX0_extend_85 ?_
                refine lv_iand S.1 S.2.1 dX0_extend_86 ?_
                refine lv_if_ne (tgt := 94) S.1 S.2.1 dX0_extend_87 (by decide) (fun h_30 => ?_) (fun h_30 => ?_)
                · have hf := hf.2 h_30
                  refine lv_iconst (v := 0) S.1 S.2.1 dX0_extend_94 rfl ?_
                  exact jn95 _ _ _ _ _ hf _ _ _ hP hD hS (lv_sub hl [1, 2, 3, 4, 5, 6, 7, 0] rfl)
                · have hf := hf.1 h_30
                  refine lv_iconst (v := 1) S.1 S.2.1 dX0_extend_90 rfl ?_
                  refine lv_goto (tgt := 95) S.1 S.2.1 dX0_extend_91 (by decide) ?_
                  exact jn95 _ _ _ _ _ hf _ _ _ hP hD hS (lv_sub hl [1, 2, 3, 4, 5, 6, 7, 0] rfl)
        refine L47 _ _ _ _ _ _ (fun I_57 J_58 hf H locs ls hP hD hS hl => ?_)  n_60 _ _ _ hf _ _ _ hP hD hS (lv_sub hl [2, 3, 4, 5, 6, 1, 0] rfl)
        refine nm_o hf (fun x4_59 ex4_59 hf => ?_)
        refine lv_iinc (v := x4_59) (lv' := [(4, .int x4_59), (0, .ref (eA E 11 6)), (1, .int x1_9), (2, .int x2_10), (3, .int x3_11)]) S.1 S.2.1 dX0_extend_193 hl (k := 4) rfl (by rw [ex4_59]; rfl) (by decide) rfl (fun ls hl => ?_)
        refine lv_goto (tgt := 26) S.1 S.2.1 dX0_extend_196 (by decide) ?_
        exact ih26 _ _ _ hf _ _ _ hP hD hS (lv_sub hl [1, 2, 3, 4, 0] rfl)
  refine L26 _ _ _ _ (fun I_61 J_62 hf H locs ls hP hD hS hl => ?_)  n_63 _ _ _ hf _ _ _ hP hD hS (lv_sub hl [3, 4, 2, 1, 0] rfl)
  exact hret hf hP hD hS dX0_extend_199
abbrev rmX0_search : Room := { frames := 3, cells := 0, slots := 0, locals := 118 }
theorem yk_X0_search : yOk yX0_search RX0 3 := by unfold yOk; decide +kernel
def f_X0_search_B41 (g : Nat) (x2_10 : Int32) (x3_11 : Int32) (K93 : MI → MJ → Prop) (rec41 : Int32 → MI → MJ → Prop) (x4_12 : Int32) (I_13 : MI) (J_14 : MJ) : Prop :=
  (((I_13 11 6 7) ≤ x4_12 → K93 I_13 J_14) ∧ (¬ (I_13 11 6 7) ≤ x4_12 → f_X1_wordOf g x2_10 x4_12 I_13 J_14 (fun (v_18 : Int64) (I_16 : MI) (J_17 : MJ) => f_X1_obstacle g v_18 x3_11 I_16 J_17 (fun (v_21 : Int32) (I_19 : MI) (J_20 : MJ) => ((v_21 = (0 : Int32) → f_X1_pointsFor g v_18 x3_11 I_19 J_20 (fun (v_26 : Int32) (I_24 : MI) (J_25 : MJ) => f_X0_note ((1 : Int32) <<< (x4_12 &&& 31)) x4_12 (1 : Int32) v_26 I_24 J_25 (fun (I_27 : MI) (J_28 : MJ) => ∀ x4_29 : Int32, x4_29 = x4_12 + (1 : Int32) → rec41 x4_29 I_27 J_28))) ∧ (¬ v_21 = (0 : Int32) → ∀ x4_23 : Int32, x4_23 = x4_12 + (1 : Int32) → rec41 x4_23 I_19 J_20))))))
def f_X0_search_L41 (g : Nat) (x2_10 : Int32) (x3_11 : Int32) (K93 : MI → MJ → Prop) : Nat → Int32 → MI → MJ → Prop
  | 0, _, _, _ => False
  | n + 1, x4_12, I_13, J_14 => f_X0_search_B41 g x2_10 x3_11 K93 (f_X0_search_L41 g x2_10 x3_11 K93 n) x4_12 I_13 J_14
def f_X0_search_B96 (g : Nat) (K119 : MI → MJ → Prop) (rec96 : Int32 → MI → MJ → Prop) (x4_32 : Int32) (I_33 : MI) (J_34 : MJ) : Prop :=
  ((((1 : Int32) <<< ((I_33 11 6 7) &&& 31)) ≤ x4_32 → K119 I_33 J_34) ∧ (¬ ((1 : Int32) <<< ((I_33 11 6 7) &&& 31)) ≤ x4_32 → f_X0_extend x4_32 I_33 J_34 (fun (I_36 : MI) (J_37 : MJ) => ∀ x4_38 : Int32, x4_38 = x4_32 + (1 : Int32) → rec96 x4_38 I_36 J_37)))
def f_X0_search_L96 (g : Nat) (K119 : MI → MJ → Prop) : Nat → Int32 → MI → MJ → Prop
  | 0, _, _, _ => False
  | n + 1, x4_32, I_33, J_34 => f_X0_search_B96 g K119 (f_X0_search_L96 g K119 n) x4_32 I_33 J_34
def f_X0_search (g : Nat) (x2 : Int32) (x3 : Int32) (I : MI) (J : MJ) (Q : MI → MJ → Prop) : Prop :=
  ∀ I_1 : MI, I_1 = sI I 11 6 0 (0 : Int32) → ∀ I_2 : MI, I_2 = sI I_1 11 6 1 (0 : Int32) → ∀ I_3 : MI, I_3 = sI I_2 11 6 2 (0 : Int32) → f_J7_fill_53178 11 7 2048 (0 : Int32) I_3 J (fun (I_4 : MI) (J_5 : MJ) => f_J7_fill_53178 11 8 2048 (0 : Int32) I_4 J_5 (fun (I_6 : MI) (J_7 : MJ) => f_X0_prepare g x2 x3 I_6 J_7 (fun (I_8 : MI) (J_9 : MJ) => ∃ n : Nat, f_X0_search_L41 g x2 x3 (fun (I_30 : MI) (J_31 : MJ) => ∃ n : Nat, f_X0_search_L96 g (fun (I_39 : MI) (J_40 : MJ) => Q I_39 J_40) n (1 : Int32) I_30 J_31) n (0 : Int32) I_8 J_9)))
set_option maxRecDepth 100000 in
set_option maxHeartbeats 4000000 in
theorem c_X0_search {l : Launch} {E : EV} {ps : List (Nat × Nat)} (h11 : ∀ r, r < 11 → (11, r) ∈ ps) {g : Nat} (hBg : g < 11) (hMg : ∀ r, r < 16 → (g, r) ∈ ps) {x2 : Int32} {x3 : Int32} {I : MI} {J : MJ} {Q : MI → MJ → Prop} (hf : f_X0_search g x2 x3 I J Q) : KV l yX0_search wsX0_search rmX0_search E ps [.ref (eA E 11 6), .ref (eA E g 0), .int x2, .int x3] I J Q := by
  refine K_ofV (cc := cX0_search) (maxL := 7) (by decide +kernel) rfl (Nat.le_of_ble_eq_true rfl) (fun p e s m args below meth c Qm hret S hK hX => ?_)
  have hA : ∀ q, s.heap.size ≤ q → AA E ps s.heap.size q := fun _ h => Or.inr h
  have k1 := S.2.2.2.2 (.fieldLink RX0 24 "RhymeRoofs$Chains" "mostWords" "I") (by decide +kernel)
  have iX0 : ∀ w ∈ wsX00, w ∈ wsX0_search := fun _ h => List.mem_cons_of_mem _ (List.mem_append_left _ (List.mem_append_left _ (List.mem_append_right _ h)))
  have k2 := S.2.2.2.2 (.fieldLink RX0 28 "RhymeRoofs$Chains" "mostPoints" "I") (by decide +kernel)
  have k3 := S.2.2.2.2 (.fieldLink RX0 31 "RhymeRoofs$Chains" "thatFill" "I") (by decide +kernel)
  have k4 := S.2.2.2.2 (.fieldLink RX0 11 "RhymeRoofs$Chains" "ways" "[I") (by decide +kernel)
  have k5 := S.2.2.2.2 (.fieldLink RX0 15 "RhymeRoofs$Chains" "bestPoints" "[I") (by decide +kernel)
  have k6 := S.2.2.2.2 (.fieldLink RX0 44 "RhymeRoofs$Chains" "size" "I") (by decide +kernel)
  intro H locs ls hP hD hS hl
  unfold f_X0_search at hf
  refine lv_aload_n S.1 S.2.1 dX0_search_0 rfl (lv_at hl 0 rfl) ?_
  refine lv_iconst (v := 0) S.1 S.2.1 dX0_search_1 rfl ?_
  refine nm_o hf (fun I_1 eI_1 hf => ?_)
  refine pfX0_0 S iX0 hK hP hD hS (h11 6 (by decide)) k1 dX0_search_2 eI_1 (fun H locs hP hD hS => ?_)
  refine lv_aload_n S.1 S.2.1 dX0_search_5 rfl (lv_at hl 0 rfl) ?_
  refine lv_iconst (v := 0) S.1 S.2.1 dX0_search_6 rfl ?_
  refine nm_o hf (fun I_2 eI_2 hf => ?_)
  refine pfX0_1 S iX0 hK hP hD hS (h11 6 (by decide)) k2 dX0_search_7 eI_2 (fun H locs hP hD hS => ?_)
  refine lv_aload_n S.1 S.2.1 dX0_search_10 rfl (lv_at hl 0 rfl) ?_
  refine lv_iconst (v := 0) S.1 S.2.1 dX0_search_11 rfl ?_
  refine nm_o hf (fun I_3 eI_3 hf => ?_)
  refine pfX0_2 S iX0 hK hP hD hS (h11 6 (by decide)) k3 dX0_search_12 eI_3 (fun H locs hP hD hS => ?_)
  refine lv_aload_n S.1 S.2.1 dX0_search_15 rfl (lv_at hl 0 rfl) ?_
  refine gfX0_3 S iX0 hK hP (h11 6 (by decide)) k4 dX0_search_16 ?_
  refine lv_iconst (v := 0) S.1 S.2.1 dX0_search_19 rfl ?_
  refine R_cSv (As := [.ref (eA E 11 7), .int (0 : Int32)]) (rest := []) S (c_J7_fill_53178  (hm1 := (h11 7 (by decide))) (hc1 := (IAo7 E)) hf) gX0_search_J7_fill_53178 rfl yk_J7_fill_53178 ⟨⟨Nat.le_of_ble_eq_true rfl, Nat.le_of_ble_eq_true rfl⟩, rfl, rfl⟩ hK hP hD hS hX hA rfl hl.1 rfl (Nat.le_of_ble_eq_true rfl) ⟨Nat.zero_le _, Nat.zero_le _⟩ dX0_search_20 (fun I_4 J_5 H locs hf hP hD hS => ?_)
  refine lv_aload_n S.1 S.2.1 dX0_search_23 rfl (lv_at hl 0 rfl) ?_
  refine gfX0_4 S iX0 hK hP (h11 6 (by decide)) k5 dX0_search_24 ?_
  refine lv_iconst (v := 0) S.1 S.2.1 dX0_search_27 rfl ?_
  refine R_cSv (As := [.ref (eA E 11 8), .int (0 : Int32)]) (rest := []) S (c_J7_fill_53178  (hm1 := (h11 8 (by decide))) (hc1 := (IAo8 E)) hf) gX0_search_J7_fill_53178 rfl yk_J7_fill_53178 ⟨⟨Nat.le_of_ble_eq_true rfl, Nat.le_of_ble_eq_true rfl⟩, rfl, rfl⟩ hK hP hD hS hX hA rfl hl.1 rfl (Nat.le_of_ble_eq_true rfl) ⟨Nat.zero_le _, Nat.zero_le _⟩ dX0_search_28 (fun I_6 J_7 H locs hf hP hD hS => ?_)
  refine lv_aload_n S.1 S.2.1 dX0_search_31 rfl (lv_at hl 0 rfl) ?_
  refine lv_aload_n S.1 S.2.1 dX0_search_32 rfl (lv_at hl 1 rfl) ?_
  refine lv_iload_n S.1 S.2.1 dX0_search_33 rfl (lv_at hl 2 rfl) ?_
  refine lv_iload_n S.1 S.2.1 dX0_search_34 rfl (lv_at hl 3 rfl) ?_
  refine R_cVv (As := [.ref (eA E g 0), .int x2, .int x3]) (rest := []) S (c_X0_prepare (h11 := h11) (hBg := hBg) (hMg := hMg) hf) gX0_search_X0_prepare rfl yk_X0_prepare ⟨⟨Nat.le_of_ble_eq_true rfl, Nat.le_of_ble_eq_true rfl⟩, rfl, rfl⟩ hK hP hD hS hX hA (h11 6 (by decide)) (cF_o E _ _ 6) rfl rfl hl.1 rfl (Nat.le_of_ble_eq_true rfl) ⟨Nat.zero_le _, Nat.zero_le _⟩ dX0_search_35 (fun I_8 J_9 H locs hf hP hD hS => ?_)
  refine lv_iconst (v := 0) S.1 S.2.1 dX0_search_38 rfl ?_
  refine lv_istore (lv' := [(4, .int (0 : Int32)), (0, .ref (eA E 11 6)), (1, .ref (eA E g 0)), (2, .int x2), (3, .int x3)]) S.1 S.2.1 dX0_search_39 hl (by decide) rfl (fun ls hl => ?_)
  obtain ⟨n_42, hf⟩ := hf
  have L41 : ∀ (x2_10 : Int32), ∀ (x3_11 : Int32), ∀ (K93 : MI → MJ → Prop), (∀ (I_30 : MI) (J_31 : MJ), K93 I_30 J_31 → Wj p l e (rmX0_search) s m args below meth c Qm E ps 7 I_30 J_31 93 [(0, .ref (eA E 11 6))] []) → ∀ (n : Nat) (x4_12 : Int32) (I_13 : MI) (J_14 : MJ), f_X0_search_L41 g x2_10 x3_11 K93 n x4_12 I_13 J_14 → Wj p l e (rmX0_search) s m args below meth c Qm E ps 7 I_13 J_14 41 [(0, .ref (eA E 11 6)), (1, .ref (eA E g 0)), (2, .int x2_10), (3, .int x3_11), (4, .int x4_12)] [] := by
    intro x2_10 x3_11 K93 kx93 n
    induction n with
    | zero => intro x4_12 I_13 J_14 hf; exact hf.elim
    | succ n ih41 =>
      intro x4_12 I_13 J_14 hf
      have hf : f_X0_search_B41 g x2_10 x3_11 K93 (f_X0_search_L41 g x2_10 x3_11 K93 n) x4_12 I_13 J_14 := hf
      intro H locs ls hP hD hS hl
      unfold f_X0_search_B41 at hf
      refine lv_iload S.1 S.2.1 dX0_search_41 (lv_at hl 4 rfl) ?_
      refine lv_aload_n S.1 S.2.1 dX0_search_43 rfl (lv_at hl 0 rfl) ?_
      refine gfX0_7 S iX0 hK hP (h11 6 (by decide)) k6 dX0_search_44 ?_
      refine lv_icmp_ge (tgt := 93) S.1 S.2.1 dX0_search_47 (by decide) (fun h_15 => ?_) (fun h_15 => ?_)
      · have hf := hf.1 h_15
        exact kx93 _ _ hf _ _ _ hP hD hS (lv_sub hl [0] rfl)
      · have hf := hf.2 h_15
        refine lv_aload_n S.1 S.2.1 dX0_search_50 rfl (lv_at hl 1 rfl) ?_
        refine lv_iload_n S.1 S.2.1 dX0_search_51 rfl (lv_at hl 2 rfl) ?_
        refine lv_iload S.1 S.2.1 dX0_search_52 (lv_at hl 4 rfl) ?_
        refine R_cVl (As := [.int x2_10, .int x4_12]) (rest := []) S (c_X1_wordOf (hB := hBg) (hM := hMg)  hf) gX0_search_X1_wordOf rfl yk_X1_wordOf ⟨⟨Nat.le_of_ble_eq_true rfl, Nat.le_of_ble_eq_true rfl⟩, rfl, rfl⟩ hK hP hD hS hX hA (hMg 0 (by decide)) (cF_g E hBg _ _ 0) rfl rfl hl.1 rfl (Nat.le_of_ble_eq_true rfl) ⟨Nat.zero_le _, Nat.zero_le _⟩ dX0_search_54 (fun v_18 I_16 J_17 H locs hf hP hD hS => ?_)
        refine lv_lstore (lv' := [(5, .long v_18), (0, .ref (eA E 11 6)), (1, .ref (eA E g 0)), (2, .int x2_10), (3, .int x3_11), (4, .int x4_12)]) S.1 S.2.1 dX0_search_57 hl (by decide) rfl (fun ls hl => ?_)
        refine lv_aload_n S.1 S.2.1 dX0_search_59 rfl (lv_at hl 2 rfl) ?_
        refine lv_lload S.1 S.2.1 dX0_search_60 (lv_at hl 0 rfl) ?_
        refine lv_iload_n S.1 S.2.1 dX0_search_62 rfl (lv_at hl 4 rfl) ?_
        refine R_cVi (As := [.long v_18, .int x3_11]) (rest := []) S (c_X1_obstacle (hB := hBg) (hM := hMg)  hf) gX0_search_X1_obstacle rfl yk_X1_obstacle ⟨⟨Nat.le_of_ble_eq_true rfl, Nat.le_of_ble_eq_true rfl⟩, rfl, rfl⟩ hK hP hD hS hX hA (hMg 0 (by decide)) (cF_g E hBg _ _ 0) rfl rfl hl.1 rfl (Nat.le_of_ble_eq_true rfl) ⟨Nat.zero_le _, Nat.zero_le _⟩ dX0_search_63 (fun v_21 I_19 J_20 H locs hf hP hD hS => ?_)
        refine lv_if_ne (tgt := 87) S.1 S.2.1 dX0_search_66 (by decide) (fun h_22 => ?_) (fun h_22 => ?_)
        · have hf := hf.2 h_22
          refine nm_o hf (fun x4_23 ex4_23 hf => ?_)
          refine lv_iinc (v := x4_23) (lv' := [(4, .int x4_23), (5, .long v_18), (0, .ref (eA E 11 6)), (1, .ref (eA E g 0)), (2, .int x2_10), (3, .int x3_11)]) S.1 S.2.1 dX0_search_87 hl (k := 5) rfl (by rw [ex4_23]; rfl) (by decide) rfl (fun ls hl => ?_)
          refine lv_goto (tgt := 41) S.1 S.2.1 dX0_search_90 (by decide) ?_
          exact ih41 _ _ _ hf _ _ _ hP hD hS (lv_sub hl [2, 3, 4, 5, 0] rfl)
        · have hf := hf.1 h_22
          refine lv_aload_n S.1 S.2.1 dX0_search_69 rfl (lv_at hl 1 rfl) ?_
          refine lv_iconst (v := 1) S.1 S.2.1 dX0_search_70 rfl ?_
          refine lv_iload S.1 S.2.1 dX0_search_71 (lv_at hl 5 rfl) ?_
          refine lv_ishl S.1 S.2.1 dX0_search_73 ?_
          refine lv_iload S.1 S.2.1 dX0_search_74 (lv_at hl 5 rfl) ?_
          refine lv_iconst (v := 1) S.1 S.2.1 dX0_search_76 rfl ?_
          refine lv_aload_n S.1 S.2.1 dX0_search_77 rfl (lv_at hl 2 rfl) ?_
          refine lv_lload S.1 S.2.1 dX0_search_78 (lv_at hl 0 rfl) ?_
          refine lv_iload_n S.1 S.2.1 dX0_search_80 rfl (lv_at hl 4 rfl) ?_
          refine R_cVi (As := [.long v_18, .int x3_11]) (rest := [.int (1 : Int32), .int x4_12, .int ((1 : Int32) <<< (x4_12 &&& 31)), .ref (eA E 11 6)]) S (c_X1_pointsFor (hB := hBg) (hM := hMg)  hf) gX0_search_X1_pointsFor rfl yk_X1_pointsFor ⟨⟨Nat.le_of_ble_eq_true rfl, Nat.le_of_ble_eq_true rfl⟩, rfl, rfl⟩ hK hP hD hS hX hA (hMg 0 (by decide)) (cF_g E hBg _ _ 0) rfl rfl hl.1 rfl (Nat.le_of_ble_eq_true rfl) ⟨Nat.zero_le _, Nat.zero_le _⟩ dX0_search_81 (fun v_26 I_24 J_25 H locs hf hP hD hS => ?_)
          refine R_cVv (As := [.int ((1 : Int32) <<< (x4_12 &&& 31)), .int x4_12, .int (1 : Int32), .int v_26]) (rest := []) S (c_X0_note (h11 := h11)  hf) gX0_search_X0_note rfl yk_X0_note ⟨⟨Nat.le_of_ble_eq_true rfl, Nat.le_of_ble_eq_true rfl⟩, rfl, rfl⟩ hK hP hD hS hX hA (h11 6 (by decide)) (cF_o E _ _ 6) rfl rfl hl.1 rfl (Nat.le_of_ble_eq_true rfl) ⟨Nat.zero_le _, Nat.zero_le _⟩ dX0_search_84 (fun I_27 J_28 H locs hf hP hD hS => ?_)
          refine nm_o hf (fun x4_29 ex4_29 hf => ?_)
          refine lv_iinc (v := x4_29) (lv' := [(4, .int x4_29), (5, .long v_18), (0, .ref (eA E 11 6)), (1, .ref (eA E g 0)), (2, .int x2_10), (3, .int x3_11)]) S.1 S.2.1 dX0_search_87 hl (k := 5) rfl (by rw [ex4_29]; rfl) (by decide) rfl (fun ls hl => ?_)
          refine lv_goto (tgt := 41) S.1 S.2.1 dX0_search_90 (by decide) ?_
          exact ih41 _ _ _ hf _ _ _ hP hD hS (lv_sub hl [2, 3, 4, 5, 0] rfl)
  refine L41 _ _ _ (fun I_30 J_31 hf H locs ls hP hD hS hl => ?_)  n_42 _ _ _ hf _ _ _ hP hD hS (lv_sub hl [1, 2, 3, 4, 0] rfl)
  refine lv_iconst (v := 1) S.1 S.2.1 dX0_search_93 rfl ?_
  refine lv_istore (lv' := [(4, .int (1 : Int32)), (0, .ref (eA E 11 6))]) S.1 S.2.1 dX0_search_94 hl (by decide) rfl (fun ls hl => ?_)
  obtain ⟨n_41, hf⟩ := hf
  have L96 : ∀ (K119 : MI → MJ → Prop), (∀ (I_39 : MI) (J_40 : MJ), K119 I_39 J_40 → Wj p l e (rmX0_search) s m args below meth c Qm E ps 7 I_39 J_40 119 [] []) → ∀ (n : Nat) (x4_32 : Int32) (I_33 : MI) (J_34 : MJ), f_X0_search_L96 g K119 n x4_32 I_33 J_34 → Wj p l e (rmX0_search) s m args below meth c Qm E ps 7 I_33 J_34 96 [(0, .ref (eA E 11 6)), (4, .int x4_32)] [] := by
    intro K119 kx119 n
    induction n with
    | zero => intro x4_32 I_33 J_34 hf; exact hf.elim
    | succ n ih96 =>
      intro x4_32 I_33 J_34 hf
      have hf : f_X0_search_B96 g K119 (f_X0_search_L96 g K119 n) x4_32 I_33 J_34 := hf
      intro H locs ls hP hD hS hl
      unfold f_X0_search_B96 at hf
      refine lv_iload S.1 S.2.1 dX0_search_96 (lv_at hl 1 rfl) ?_
      refine lv_iconst (v := 1) S.1 S.2.1 dX0_search_98 rfl ?_
      refine lv_aload_n S.1 S.2.1 dX0_search_99 rfl (lv_at hl 0 rfl) ?_
      refine gfX0_7 S iX0 hK hP (h11 6 (by decide)) k6 dX0_search_100 ?_
      refine lv_ishl S.1 S.2.1 dX0_search_103 ?_
      refine lv_icmp_ge (tgt := 119) S.1 S.2.1 dX0_search_104 (by decide) (fun h_35 => ?_) (fun h_35 => ?_)
      · have hf := hf.1 h_35
        exact kx119 _ _ hf _ _ _ hP hD hS (lv_sub hl [] rfl)
      · have hf := hf.2 h_35
        refine lv_aload_n S.1 S.2.1 dX0_search_107 rfl (lv_at hl 0 rfl) ?_
        refine lv_iload S.1 S.2.1 dX0_search_108 (lv_at hl 1 rfl) ?_
        refine R_cVv (As := [.int x4_32]) (rest := []) S (c_X0_extend (h11 := h11)  hf) gX0_search_X0_extend rfl yk_X0_extend ⟨⟨Nat.le_of_ble_eq_true rfl, Nat.le_of_ble_eq_true rfl⟩, rfl, rfl⟩ hK hP hD hS hX hA (h11 6 (by decide)) (cF_o E _ _ 6) rfl rfl hl.1 rfl (Nat.le_of_ble_eq_true rfl) ⟨Nat.zero_le _, Nat.zero_le _⟩ dX0_search_110 (fun I_36 J_37 H locs hf hP hD hS => ?_)
        refine nm_o hf (fun x4_38 ex4_38 hf => ?_)
        refine lv_iinc (v := x4_38) (lv' := [(4, .int x4_38), (0, .ref (eA E 11 6))]) S.1 S.2.1 dX0_search_113 hl (k := 1) rfl (by rw [ex4_38]; rfl) (by decide) rfl (fun ls hl => ?_)
        refine lv_goto (tgt := 96) S.1 S.2.1 dX0_search_116 (by decide) ?_
        exact ih96 _ _ _ hf _ _ _ hP hD hS (lv_sub hl [1, 0] rfl)
  refine L96 _ (fun I_39 J_40 hf H locs ls hP hD hS hl => ?_)  n_41 _ _ _ hf _ _ _ hP hD hS (lv_sub hl [1, 0] rfl)
  exact hret hf hP hD hS dX0_search_119
