abbrev rmX0_prepare : Room := { frames := 1, cells := 0, slots := 0, locals := 29 }
theorem yk_X0_prepare : yOk yX0_prepare RX0 3 := by unfold yOk; decide +kernel
def f_X0_prepare_J143 (g : Nat) (K175 : MI → MJ → Prop) (rec87 : Int32 → MI → MJ → Prop) (x2_24 : Int32) (x4_25 : Int32) (x5_26 : Int64) (x7_42 : Int32) (x10_43 : Int32) (s_44 : Int32) (I_45 : MI) (J_46 : MJ) : Prop :=
  ((s_44 = (0 : Int32) → (vp_in ((x4_25 * (8 : Int32)) + x7_42) 64 ∧ ∀ I_49 : MI, I_49 = sI I_45 11 10 ((x4_25 * (8 : Int32)) + x7_42).toNatClampNeg (-1 : Int32) → ∀ x7_50 : Int32, x7_50 = x7_42 + (1 : Int32) → rec87 x7_50 I_49 J_46)) ∧ (¬ s_44 = (0 : Int32) → (vp_in ((x4_25 * (8 : Int32)) + x7_42) 64 ∧ ∀ I_52 : MI, I_52 = sI I_45 11 10 ((x4_25 * (8 : Int32)) + x7_42).toNatClampNeg x10_43 → ∀ x7_53 : Int32, x7_53 = x7_42 + (1 : Int32) → rec87 x7_53 I_52 J_46)))
def f_X0_prepare_J142 (g : Nat) (K175 : MI → MJ → Prop) (rec87 : Int32 → MI → MJ → Prop) (x2_24 : Int32) (x4_25 : Int32) (x5_26 : Int64) (x7_38 : Int32) (x10_39 : Int32) (I_40 : MI) (J_41 : MJ) : Prop :=
  f_X0_prepare_J143 g K175 rec87 x2_24 x4_25 x5_26 x7_38 x10_39 (0 : Int32) I_40 J_41
def f_X0_prepare_B87 (g : Nat) (x2_24 : Int32) (x4_25 : Int32) (x5_26 : Int64) (K175 : MI → MJ → Prop) (rec87 : Int32 → MI → MJ → Prop) (x7_27 : Int32) (I_28 : MI) (J_29 : MJ) : Prop :=
  (((I_28 11 6 7) ≤ x7_27 → K175 I_28 J_29) ∧ (¬ (I_28 11 6 7) ≤ x7_27 → f_X1_wordOf g x2_24 x7_27 I_28 J_29 (fun (v_33 : Int64) (I_31 : MI) (J_32 : MJ) => f_X4_rhymeOf g x5_26 v_33 I_31 J_32 (fun (v_36 : Int32) (I_34 : MI) (J_35 : MJ) => ((x5_26 = v_33 → f_X0_prepare_J142 g K175 rec87 x2_24 x4_25 x5_26 x7_27 v_36 I_34 J_35) ∧ (¬ x5_26 = v_33 → ((v_36 < (I_34 g 1 5) → f_X0_prepare_J142 g K175 rec87 x2_24 x4_25 x5_26 x7_27 v_36 I_34 J_35) ∧ (¬ v_36 < (I_34 g 1 5) → f_X0_prepare_J143 g K175 rec87 x2_24 x4_25 x5_26 x7_27 v_36 (1 : Int32) I_34 J_35))))))))
def f_X0_prepare_L87 (g : Nat) (x2_24 : Int32) (x4_25 : Int32) (x5_26 : Int64) (K175 : MI → MJ → Prop) : Nat → Int32 → MI → MJ → Prop
  | 0, _, _, _ => False
  | n + 1, x7_27, I_28, J_29 => f_X0_prepare_B87 g x2_24 x4_25 x5_26 K175 (f_X0_prepare_L87 g x2_24 x4_25 x5_26 K175 n) x7_27 I_28 J_29
def f_X0_prepare_B54 (g : Nat) (x2_11 : Int32) (K181 : MI → MJ → Prop) (rec54 : Int32 → MI → MJ → Prop) (x4_12 : Int32) (I_13 : MI) (J_14 : MJ) : Prop :=
  (((I_13 11 6 7) ≤ x4_12 → K181 I_13 J_14) ∧ (¬ (I_13 11 6 7) ≤ x4_12 → f_X1_wordOf g x2_11 x4_12 I_13 J_14 (fun (v_18 : Int64) (I_16 : MI) (J_17 : MJ) => f_X6_length v_18 I_16 J_17 (fun (v_21 : Int32) (I_19 : MI) (J_20 : MJ) => (vp_in x4_12 8 ∧ ∀ I_23 : MI, I_23 = sI I_19 11 9 x4_12.toNatClampNeg v_21 → ∃ n : Nat, f_X0_prepare_L87 g x2_11 x4_12 v_18 (fun (I_55 : MI) (J_56 : MJ) => ∀ x4_57 : Int32, x4_57 = x4_12 + (1 : Int32) → rec54 x4_57 I_55 J_56) n (0 : Int32) I_23 J_20)))))
def f_X0_prepare_L54 (g : Nat) (x2_11 : Int32) (K181 : MI → MJ → Prop) : Nat → Int32 → MI → MJ → Prop
  | 0, _, _, _ => False
  | n + 1, x4_12, I_13, J_14 => f_X0_prepare_B54 g x2_11 K181 (f_X0_prepare_L54 g x2_11 K181 n) x4_12 I_13 J_14
def f_X0_prepare (g : Nat) (x2 : Int32) (x3 : Int32) (I : MI) (J : MJ) (Q : MI → MJ → Prop) : Prop :=
  (vp_in x2 4 ∧ ∀ I_2 : MI, I_2 = sI I 11 6 7 (I g 13 x2.toNatClampNeg) → f_X1_freeTiles g x3 I_2 J (fun (v_5 : Int32) (I_3 : MI) (J_4 : MJ) => ∀ I_6 : MI, I_6 = sI I_3 11 6 8 v_5 → (vp_in x3 6 ∧ ∀ I_8 : MI, I_8 = sI I_6 11 6 9 (I_6 g 9 x3.toNatClampNeg) → ∀ I_9 : MI, I_9 = sI I_8 11 6 10 (I_8 g 1 6) → ∀ I_10 : MI, I_10 = sI I_9 11 6 11 (I_9 g 1 7) → ∃ n : Nat, f_X0_prepare_L54 g x2 (fun (I_59 : MI) (J_60 : MJ) => Q I_59 J_60) n (0 : Int32) I_10 J_4)))
set_option maxRecDepth 100000 in
set_option maxHeartbeats 4000000 in
theorem c_X0_prepare {l : Launch} {E : EV} {ps : List (Nat × Nat)} (h11 : ∀ r, r < 11 → (11, r) ∈ ps) {g : Nat} (hBg : g < 11) (hMg : ∀ r, r < 16 → (g, r) ∈ ps) {x2 : Int32} {x3 : Int32} {I : MI} {J : MJ} {Q : MI → MJ → Prop} (hf : f_X0_prepare g x2 x3 I J Q) : KV l yX0_prepare wsX0_prepare rmX0_prepare E ps [.ref (eA E 11 6), .ref (eA E g 0), .int x2, .int x3] I J Q := by
  refine K_ofV (cc := cX0_prepare) (maxL := 12) (by decide +kernel) rfl (Nat.le_of_ble_eq_true rfl) (fun p e s m args below meth c Qm hret S hK hX => ?_)
  have hA : ∀ q, s.heap.size ≤ q → AA E ps s.heap.size q := fun _ h => Or.inr h
  have k1 := S.2.2.2.2 (.fieldLink RX0 68 "RhymeRoofs$Game" "handSize" "[I") (by decide +kernel)
  have iX1 : ∀ w ∈ wsX10, w ∈ wsX0_prepare := fun _ h => List.mem_cons_of_mem _ (List.mem_append_left _ (List.mem_append_left _ (List.mem_append_right _ h)))
  have k2 := S.2.2.2.2 (.fieldLink RX0 44 "RhymeRoofs$Chains" "size" "I") (by decide +kernel)
  have iX0 : ∀ w ∈ wsX00, w ∈ wsX0_prepare := fun _ h => List.mem_cons_of_mem _ (List.mem_append_left _ (List.mem_append_right _ h))
  have k3 := S.2.2.2.2 (.fieldLink RX0 75 "RhymeRoofs$Chains" "free" "I") (by decide +kernel)
  have k4 := S.2.2.2.2 (.fieldLink RX0 78 "RhymeRoofs$Game" "wordsOn" "[I") (by decide +kernel)
  have k5 := S.2.2.2.2 (.fieldLink RX0 81 "RhymeRoofs$Chains" "wordsBefore" "I") (by decide +kernel)
  have k6 := S.2.2.2.2 (.fieldLink RX0 84 "RhymeRoofs$Game" "rules" "LRhymeRoofs$Rules;") (by decide +kernel)
  have k7 := S.2.2.2.2 (.fieldLink RX0 88 "RhymeRoofs$Rules" "bonus" "I") (by decide +kernel)
  have iX4 : ∀ w ∈ wsX40, w ∈ wsX0_prepare := fun _ h => List.mem_cons_of_mem _ (List.mem_append_right _ h)
  have k8 := S.2.2.2.2 (.fieldLink RX0 93 "RhymeRoofs$Chains" "bonus" "I") (by decide +kernel)
  have k9 := S.2.2.2.2 (.fieldLink RX0 94 "RhymeRoofs$Rules" "crown" "I") (by decide +kernel)
  have k10 := S.2.2.2.2 (.fieldLink RX0 97 "RhymeRoofs$Chains" "crown" "I") (by decide +kernel)
  have k11 := S.2.2.2.2 (.fieldLink RX0 18 "RhymeRoofs$Chains" "lengths" "[I") (by decide +kernel)
  have k12 := S.2.2.2.2 (.fieldLink RX0 21 "RhymeRoofs$Chains" "rhymes" "[I") (by decide +kernel)
  have k13 := S.2.2.2.2 (.fieldLink RX0 108 "RhymeRoofs$Rules" "need" "I") (by decide +kernel)
  intro H locs ls hP hD hS hl
  unfold f_X0_prepare at hf
  refine lv_aload_n S.1 S.2.1 dX0_prepare_0 rfl (lv_at hl 0 rfl) ?_
  refine lv_aload_n S.1 S.2.1 dX0_prepare_1 rfl (lv_at hl 1 rfl) ?_
  refine gfX1_7 S iX1 hK hP hBg (hMg 0 (by decide)) k1 dX0_prepare_2 ?_
  refine lv_iload_n S.1 S.2.1 dX0_prepare_5 rfl (lv_at hl 2 rfl) ?_
  obtain ⟨h_1, hf⟩ := hf
  refine R_iald S.1 S.2.1 hK hP (hMg 13 (by decide)) (IAg13 E hBg) h_1 dX0_prepare_6 ?_
  refine nm_o hf (fun I_2 eI_2 hf => ?_)
  refine pfX0_7 S iX0 hK hP hD hS (h11 6 (by decide)) k2 dX0_prepare_7 eI_2 (fun H locs hP hD hS => ?_)
  refine lv_aload_n S.1 S.2.1 dX0_prepare_10 rfl (lv_at hl 0 rfl) ?_
  refine lv_aload_n S.1 S.2.1 dX0_prepare_11 rfl (lv_at hl 1 rfl) ?_
  refine lv_iload_n S.1 S.2.1 dX0_prepare_12 rfl (lv_at hl 3 rfl) ?_
  refine R_cVi (As := [.int x3]) (rest := [.ref (eA E 11 6)]) S (c_X1_freeTiles (hB := hBg) (hM := hMg)  hf) gX0_prepare_X1_freeTiles rfl yk_X1_freeTiles ⟨⟨Nat.le_of_ble_eq_true rfl, Nat.le_of_ble_eq_true rfl⟩, rfl, rfl⟩ hK hP hD hS hX hA (hMg 0 (by decide)) (cF_g E hBg _ _ 0) rfl rfl hl.1 rfl (Nat.le_of_ble_eq_true rfl) ⟨Nat.zero_le _, Nat.zero_le _⟩ dX0_prepare_13 (fun v_5 I_3 J_4 H locs hf hP hD hS => ?_)
  refine nm_o hf (fun I_6 eI_6 hf => ?_)
  refine pfX0_8 S iX0 hK hP hD hS (h11 6 (by decide)) k3 dX0_prepare_16 eI_6 (fun H locs hP hD hS => ?_)
  refine lv_aload_n S.1 S.2.1 dX0_prepare_19 rfl (lv_at hl 0 rfl) ?_
  refine lv_aload_n S.1 S.2.1 dX0_prepare_20 rfl (lv_at hl 1 rfl) ?_
  refine gfX1_3 S iX1 hK hP hBg (hMg 0 (by decide)) k4 dX0_prepare_21 ?_
  refine lv_iload_n S.1 S.2.1 dX0_prepare_24 rfl (lv_at hl 3 rfl) ?_
  obtain ⟨h_7, hf⟩ := hf
  refine R_iald S.1 S.2.1 hK hP (hMg 9 (by decide)) (IAg9 E hBg) h_7 dX0_prepare_25 ?_
  refine nm_o hf (fun I_8 eI_8 hf => ?_)
  refine pfX0_9 S iX0 hK hP hD hS (h11 6 (by decide)) k5 dX0_prepare_26 eI_8 (fun H locs hP hD hS => ?_)
  refine lv_aload_n S.1 S.2.1 dX0_prepare_29 rfl (lv_at hl 0 rfl) ?_
  refine lv_aload_n S.1 S.2.1 dX0_prepare_30 rfl (lv_at hl 1 rfl) ?_
  refine gfX1_0 S iX1 hK hP hBg (hMg 0 (by decide)) k6 dX0_prepare_31 ?_
  refine gfX4_6 S iX4 hK hP hBg (hMg 1 (by decide)) k7 dX0_prepare_34 ?_
  refine nm_o hf (fun I_9 eI_9 hf => ?_)
  refine pfX0_10 S iX0 hK hP hD hS (h11 6 (by decide)) k8 dX0_prepare_37 eI_9 (fun H locs hP hD hS => ?_)
  refine lv_aload_n S.1 S.2.1 dX0_prepare_40 rfl (lv_at hl 0 rfl) ?_
  refine lv_aload_n S.1 S.2.1 dX0_prepare_41 rfl (lv_at hl 1 rfl) ?_
  refine gfX1_0 S iX1 hK hP hBg (hMg 0 (by decide)) k6 dX0_prepare_42 ?_
  refine gfX4_7 S iX4 hK hP hBg (hMg 1 (by decide)) k9 dX0_prepare_45 ?_
  refine nm_o hf (fun I_10 eI_10 hf => ?_)
  refine pfX0_11 S iX0 hK hP hD hS (h11 6 (by decide)) k10 dX0_prepare_48 eI_10 (fun H locs hP hD hS => ?_)
  refine lv_iconst (v := 0) S.1 S.2.1 dX0_prepare_51 rfl ?_
  refine lv_istore (lv' := [(4, .int (0 : Int32)), (0, .ref (eA E 11 6)), (1, .ref (eA E g 0)), (2, .int x2), (3, .int x3)]) S.1 S.2.1 dX0_prepare_52 hl (by decide) rfl (fun ls hl => ?_)
  obtain ⟨n_61, hf⟩ := hf
  have L54 : ∀ (x2_11 : Int32), ∀ (K181 : MI → MJ → Prop), (∀ (I_59 : MI) (J_60 : MJ), K181 I_59 J_60 → Wj p l e (rmX0_prepare) s m args below meth c Qm E ps 12 I_59 J_60 181 [] []) → ∀ (n : Nat) (x4_12 : Int32) (I_13 : MI) (J_14 : MJ), f_X0_prepare_L54 g x2_11 K181 n x4_12 I_13 J_14 → Wj p l e (rmX0_prepare) s m args below meth c Qm E ps 12 I_13 J_14 54 [(0, .ref (eA E 11 6)), (1, .ref (eA E g 0)), (2, .int x2_11), (4, .int x4_12)] [] := by
    intro x2_11 K181 kx181 n
    induction n with
    | zero => intro x4_12 I_13 J_14 hf; exact hf.elim
    | succ n ih54 =>
      intro x4_12 I_13 J_14 hf
      have hf : f_X0_prepare_B54 g x2_11 K181 (f_X0_prepare_L54 g x2_11 K181 n) x4_12 I_13 J_14 := hf
      intro H locs ls hP hD hS hl
      unfold f_X0_prepare_B54 at hf
      refine lv_iload S.1 S.2.1 dX0_prepare_54 (lv_at hl 3 rfl) ?_
      refine lv_aload_n S.1 S.2.1 dX0_prepare_56 rfl (lv_at hl 0 rfl) ?_
      refine gfX0_7 S iX0 hK hP (h11 6 (by decide)) k2 dX0_prepare_57 ?_
      refine lv_icmp_ge (tgt := 181) S.1 S.2.1 dX0_prepare_60 (by decide) (fun h_15 => ?_) (fun h_15 => ?_)
      · have hf := hf.1 h_15
        exact kx181 _ _ hf _ _ _ hP hD hS (lv_sub hl [] rfl)
      · have hf := hf.2 h_15
        refine lv_aload_n S.1 S.2.1 dX0_prepare_63 rfl (lv_at hl 1 rfl) ?_
        refine lv_iload_n S.1 S.2.1 dX0_prepare_64 rfl (lv_at hl 2 rfl) ?_
        refine lv_iload S.1 S.2.1 dX0_prepare_65 (lv_at hl 3 rfl) ?_
        refine R_cVl (As := [.int x2_11, .int x4_12]) (rest := []) S (c_X1_wordOf (hB := hBg) (hM := hMg)  hf) gX0_prepare_X1_wordOf rfl yk_X1_wordOf ⟨⟨Nat.le_of_ble_eq_true rfl, Nat.le_of_ble_eq_true rfl⟩, rfl, rfl⟩ hK hP hD hS hX hA (hMg 0 (by decide)) (cF_g E hBg _ _ 0) rfl rfl hl.1 rfl (Nat.le_of_ble_eq_true rfl) ⟨Nat.zero_le _, Nat.zero_le _⟩ dX0_prepare_67 (fun v_18 I_16 J_17 H locs hf hP hD hS => ?_)
        refine lv_lstore (lv' := [(5, .long v_18), (0, .ref (eA E 11 6)), (1, .ref (eA E g 0)), (2, .int x2_11), (4, .int x4_12)]) S.1 S.2.1 dX0_prepare_70 hl (by decide) rfl (fun ls hl => ?_)
        refine lv_aload_n S.1 S.2.1 dX0_prepare_72 rfl (lv_at hl 1 rfl) ?_
        refine gfX0_5 S iX0 hK hP (h11 6 (by decide)) k11 dX0_prepare_73 ?_
        refine lv_iload S.1 S.2.1 dX0_prepare_76 (lv_at hl 4 rfl) ?_
        refine lv_lload S.1 S.2.1 dX0_prepare_78 (lv_at hl 0 rfl) ?_
        refine R_cSi (As := [.long v_18]) (rest := [.int x4_12, .ref (eA E 11 9)]) S (c_X6_length   hf) gX0_prepare_X6_length rfl yk_X6_length ⟨⟨Nat.le_of_ble_eq_true rfl, Nat.le_of_ble_eq_true rfl⟩, rfl, rfl⟩ hK hP hD hS hX hA rfl hl.1 rfl (Nat.le_of_ble_eq_true rfl) ⟨Nat.zero_le _, Nat.zero_le _⟩ dX0_prepare_80 (fun v_21 I_19 J_20 H locs hf hP hD hS => ?_)
        obtain ⟨h_22, hf⟩ := hf
        refine nm_o hf (fun I_23 eI_23 hf => ?_)
        refine R_iast S.1 S.2.1 hK hP hD hS (h11 9 (by decide)) (IAo9 E) h_22 dX0_prepare_83 eI_23 (fun H locs hP hD hS => ?_)
        refine lv_iconst (v := 0) S.1 S.2.1 dX0_prepare_84 rfl ?_
        refine lv_istore (lv' := [(7, .int (0 : Int32)), (5, .long v_18), (0, .ref (eA E 11 6)), (1, .ref (eA E g 0)), (2, .int x2_11), (4, .int x4_12)]) S.1 S.2.1 dX0_prepare_85 hl (by decide) rfl (fun ls hl => ?_)
        obtain ⟨n_58, hf⟩ := hf
        have L87 : ∀ (x2_24 : Int32), ∀ (x4_25 : Int32), ∀ (x5_26 : Int64), ∀ (K175 : MI → MJ → Prop), (∀ (I_55 : MI) (J_56 : MJ), K175 I_55 J_56 → Wj p l e (rmX0_prepare) s m args below meth c Qm E ps 12 I_55 J_56 175 [(0, .ref (eA E 11 6)), (1, .ref (eA E g 0)), (2, .int x2_24), (4, .int x4_25)] []) → ∀ (n : Nat) (x7_27 : Int32) (I_28 : MI) (J_29 : MJ), f_X0_prepare_L87 g x2_24 x4_25 x5_26 K175 n x7_27 I_28 J_29 → Wj p l e (rmX0_prepare) s m args below meth c Qm E ps 12 I_28 J_29 87 [(0, .ref (eA E 11 6)), (1, .ref (eA E g 0)), (2, .int x2_24), (4, .int x4_25), (5, .long x5_26), (7, .int x7_27)] [] := by
          intro x2_24 x4_25 x5_26 K175 kx175 n
          induction n with
          | zero => intro x7_27 I_28 J_29 hf; exact hf.elim
          | succ n ih87 =>
            intro x7_27 I_28 J_29 hf
            have hf : f_X0_prepare_B87 g x2_24 x4_25 x5_26 K175 (f_X0_prepare_L87 g x2_24 x4_25 x5_26 K175 n) x7_27 I_28 J_29 := hf
            have jn143 : ∀ (x7_42 : Int32) (x10_43 : Int32) (s_44 : Int32) (I_45 : MI) (J_46 : MJ), f_X0_prepare_J143 g K175 (f_X0_prepare_L87 g x2_24 x4_25 x5_26 K175 n) x2_24 x4_25 x5_26 x7_42 x10_43 s_44 I_45 J_46 → Wj p l e (rmX0_prepare) s m args below meth c Qm E ps 12 I_45 J_46 143 [(0, .ref (eA E 11 6)), (1, .ref (eA E g 0)), (2, .int x2_24), (4, .int x4_25), (5, .long x5_26), (7, .int x7_42), (10, .int x10_43)] [.int s_44] := by
              intro x7_42 x10_43 s_44 I_45 J_46 hf H locs ls hP hD hS hl
              unfold f_X0_prepare_J143 at hf
              refine lv_istore (lv' := [(11, .int s_44), (0, .ref (eA E 11 6)), (1, .ref (eA E g 0)), (2, .int x2_24), (4, .int x4_25), (5, .long x5_26), (7, .int x7_42), (10, .int x10_43)]) S.1 S.2.1 dX0_prepare_143 hl (by decide) rfl (fun ls hl => ?_)
              refine lv_aload_n S.1 S.2.1 dX0_prepare_145 rfl (lv_at hl 1 rfl) ?_
              refine gfX0_6 S iX0 hK hP (h11 6 (by decide)) k12 dX0_prepare_146 ?_
              refine lv_iload S.1 S.2.1 dX0_prepare_149 (lv_at hl 4 rfl) ?_
              refine lv_bipush (v := 8) S.1 S.2.1 dX0_prepare_151 rfl ?_
              refine lv_imul S.1 S.2.1 dX0_prepare_153 ?_
              refine lv_iload S.1 S.2.1 dX0_prepare_154 (lv_at hl 6 rfl) ?_
              refine lv_iadd S.1 S.2.1 dX0_prepare_156 ?_
              refine lv_iload S.1 S.2.1 dX0_prepare_157 (lv_at hl 0 rfl) ?_
              refine lv_if_eq (tgt := 167) S.1 S.2.1 dX0_prepare_159 (by decide) (fun h_47 => ?_) (fun h_47 => ?_)
              · have hf := hf.1 h_47
                refine lv_iconst (v := (-1)) S.1 S.2.1 dX0_prepare_167 rfl ?_
                obtain ⟨h_48, hf⟩ := hf
                refine nm_o hf (fun I_49 eI_49 hf => ?_)
                refine R_iast S.1 S.2.1 hK hP hD hS (h11 10 (by decide)) (IAo10 E) h_48 dX0_prepare_168 eI_49 (fun H locs hP hD hS => ?_)
                refine nm_o hf (fun x7_50 ex7_50 hf => ?_)
                refine lv_iinc (v := x7_50) (lv' := [(7, .int x7_50), (11, .int s_44), (0, .ref (eA E 11 6)), (1, .ref (eA E g 0)), (2, .int x2_24), (4, .int x4_25), (5, .long x5_26), (10, .int x10_43)]) S.1 S.2.1 dX0_prepare_169 hl (k := 6) rfl (by rw [ex7_50]; rfl) (by decide) rfl (fun ls hl => ?_)
                refine lv_goto (tgt := 87) S.1 S.2.1 dX0_prepare_172 (by decide) ?_
                exact ih87 _ _ _ hf _ _ _ hP hD hS (lv_sub hl [2, 3, 4, 5, 6, 0] rfl)
              · have hf := hf.2 h_47
                refine lv_iload S.1 S.2.1 dX0_prepare_162 (lv_at hl 7 rfl) ?_
                refine lv_goto (tgt := 168) S.1 S.2.1 dX0_prepare_164 (by decide) ?_
                obtain ⟨h_51, hf⟩ := hf
                refine nm_o hf (fun I_52 eI_52 hf => ?_)
                refine R_iast S.1 S.2.1 hK hP hD hS (h11 10 (by decide)) (IAo10 E) h_51 dX0_prepare_168 eI_52 (fun H locs hP hD hS => ?_)
                refine nm_o hf (fun x7_53 ex7_53 hf => ?_)
                refine lv_iinc (v := x7_53) (lv' := [(7, .int x7_53), (11, .int s_44), (0, .ref (eA E 11 6)), (1, .ref (eA E g 0)), (2, .int x2_24), (4, .int x4_25), (5, .long x5_26), (10, .int x10_43)]) S.1 S.2.1 dX0_prepare_169 hl (k := 6) rfl (by rw [ex7_53]; rfl) (by decide) rfl (fun ls hl => ?_)
                refine lv_goto (tgt := 87) S.1 S.2.1 dX0_prepare_172 (by decide) ?_
                exact ih87 _ _ _ hf _ _ _ hP hD hS (lv_sub hl [2, 3, 4, 5, 6, 0] rfl)
            have jn142 : ∀ (x7_38 : Int32) (x10_39 : Int32) (I_40 : MI) (J_41 : MJ), f_X0_prepare_J142 g K175 (f_X0_prepare_L87 g x2_24 x4_25 x5_26 K175 n) x2_24 x4_25 x5_26 x7_38 x10_39 I_40 J_41 → Wj p l e (rmX0_prepare) s m args below meth c Qm E ps 12 I_40 J_41 142 [(0, .ref (eA E 11 6)), (1, .ref (eA E g 0)), (2, .int x2_24), (4, .int x4_25), (5, .long x5_26), (7, .int x7_38), (10, .int x10_39)] [] := by
              intro x7_38 x10_39 I_40 J_41 hf H locs ls hP hD hS hl
              unfold f_X0_prepare_J142 at hf
              refine lv_iconst (v := 0) S.1 S.2.1 dX0_prepare_142 rfl ?_
              exact jn143 _ _ _ _ _ hf _ _ _ hP hD hS (lv_sub hl [0, 1, 2, 3, 4, 5, 6] rfl)
            intro H locs ls hP hD hS hl
            unfold f_X0_prepare_B87 at hf
            refine lv_iload S.1 S.2.1 dX0_prepare_87 (lv_at hl 5 rfl) ?_
            refine lv_aload_n S.1 S.2.1 dX0_prepare_89 rfl (lv_at hl 0 rfl) ?_
            refine gfX0_7 S iX0 hK hP (h11 6 (by decide)) k2 dX0_prepare_90 ?_
            refine lv_icmp_ge (tgt := 175) S.1 S.2.1 dX0_prepare_93 (by decide) (fun h_30 => ?_) (fun h_30 => ?_)
            · have hf := hf.1 h_30
              exact kx175 _ _ hf _ _ _ hP hD hS (lv_sub hl [0, 1, 2, 3] rfl)
            · have hf := hf.2 h_30
              refine lv_aload_n S.1 S.2.1 dX0_prepare_96 rfl (lv_at hl 1 rfl) ?_
              refine lv_iload_n S.1 S.2.1 dX0_prepare_97 rfl (lv_at hl 2 rfl) ?_
              refine lv_iload S.1 S.2.1 dX0_prepare_98 (lv_at hl 5 rfl) ?_
              refine R_cVl (As := [.int x2_24, .int x7_27]) (rest := []) S (c_X1_wordOf (hB := hBg) (hM := hMg)  hf) gX0_prepare_X1_wordOf rfl yk_X1_wordOf ⟨⟨Nat.le_of_ble_eq_true rfl, Nat.le_of_ble_eq_true rfl⟩, rfl, rfl⟩ hK hP hD hS hX hA (hMg 0 (by decide)) (cF_g E hBg _ _ 0) rfl rfl hl.1 rfl (Nat.le_of_ble_eq_true rfl) ⟨Nat.zero_le _, Nat.zero_le _⟩ dX0_prepare_100 (fun v_33 I_31 J_32 H locs hf hP hD hS => ?_)
              refine lv_lstore (lv' := [(8, .long v_33), (0, .ref (eA E 11 6)), (1, .ref (eA E g 0)), (2, .int x2_24), (4, .int x4_25), (5, .long x5_26), (7, .int x7_27)]) S.1 S.2.1 dX0_prepare_103 hl (by decide) rfl (fun ls hl => ?_)
              refine lv_aload_n S.1 S.2.1 dX0_prepare_105 rfl (lv_at hl 2 rfl) ?_
              refine gfX1_0 S iX1 hK hP hBg (hMg 0 (by decide)) k6 dX0_prepare_106 ?_
              refine lv_lload S.1 S.2.1 dX0_prepare_109 (lv_at hl 5 rfl) ?_
              refine lv_lload S.1 S.2.1 dX0_prepare_111 (lv_at hl 0 rfl) ?_
              refine R_cVi (As := [.long x5_26, .long v_33]) (rest := []) S (c_X4_rhymeOf (hB := hBg) (hM := hMg)  hf) gX0_prepare_X4_rhymeOf rfl yk_X4_rhymeOf ⟨⟨Nat.le_of_ble_eq_true rfl, Nat.le_of_ble_eq_true rfl⟩, rfl, rfl⟩ hK hP hD hS hX hA (hMg 1 (by decide)) (cF_g E hBg _ _ 1) rfl rfl hl.1 rfl (Nat.le_of_ble_eq_true rfl) ⟨Nat.zero_le _, Nat.zero_le _⟩ dX0_prepare_113 (fun v_36 I_34 J_35 H locs hf hP hD hS => ?_)
              refine lv_istore (lv' := [(10, .int v_36), (8, .long v_33), (0, .ref (eA E 11 6)), (1, .ref (eA E g 0)), (2, .int x2_24), (4, .int x4_25), (5, .long x5_26), (7, .int x7_27)]) S.1 S.2.1 dX0_prepare_116 hl (by decide) rfl (fun ls hl => ?_)
              refine lv_lload S.1 S.2.1 dX0_prepare_118 (lv_at hl 6 rfl) ?_
              refine lv_lload S.1 S.2.1 dX0_prepare_120 (lv_at hl 1 rfl) ?_
              refine W.lcmp S.1 S.2.1 dX0_prepare_122 ?_
              refine lv_if_eq (tgt := 142) S.1 S.2.1 dX0_prepare_123 (by decide) (fun h_37 => ?_) (fun h_37 => ?_)
              · have hf := hf.1 ((lg_eq0 _ _).mp h_37)
                exact jn142 _ _ _ _ hf _ _ _ hP hD hS (lv_sub hl [2, 3, 4, 5, 6, 7, 0] rfl)
              · have hf := hf.2 (fun q => h_37 ((lg_eq0 _ _).mpr q))
                refine lv_iload S.1 S.2.1 dX0_prepare_126 (lv_at hl 0 rfl) ?_
                refine lv_aload_n S.1 S.2.1 dX0_prepare_128 rfl (lv_at hl 3 rfl) ?_
                refine gfX1_0 S iX1 hK hP hBg (hMg 0 (by decide)) k6 dX0_prepare_129 ?_
                refine gfX4_5 S iX4 hK hP hBg (hMg 1 (by decide)) k13 dX0_prepare_132 ?_
                refine lv_icmp_lt (tgt := 142) S.1 S.2.1 dX0_prepare_135 (by decide) (fun h_54 => ?_) (fun h_54 => ?_)
                · have hf := hf.1 h_54
                  exact jn142 _ _ _ _ hf _ _ _ hP hD hS (lv_sub hl [2, 3, 4, 5, 6, 7, 0] rfl)
                · have hf := hf.2 h_54
                  refine lv_iconst (v := 1) S.1 S.2.1 dX0_prepare_138 rfl ?_
                  refine lv_goto (tgt := 143) S.1 S.2.1 dX0_prepare_139 (by decide) ?_
                  exact jn143 _ _ _ _ _ hf _ _ _ hP hD hS (lv_sub hl [2, 3, 4, 5, 6, 7, 0] rfl)
        refine L87 _ _ _ _ (fun I_55 J_56 hf H locs ls hP hD hS hl => ?_)  n_58 _ _ _ hf _ _ _ hP hD hS (lv_sub hl [2, 3, 4, 5, 1, 0] rfl)
        refine nm_o hf (fun x4_57 ex4_57 hf => ?_)
        refine lv_iinc (v := x4_57) (lv' := [(4, .int x4_57), (0, .ref (eA E 11 6)), (1, .ref (eA E g 0)), (2, .int x2_11)]) S.1 S.2.1 dX0_prepare_175 hl (k := 3) rfl (by rw [ex4_57]; rfl) (by decide) rfl (fun ls hl => ?_)
        refine lv_goto (tgt := 54) S.1 S.2.1 dX0_prepare_178 (by decide) ?_
        exact ih54 _ _ _ hf _ _ _ hP hD hS (lv_sub hl [1, 2, 3, 0] rfl)
  refine L54 _ _ (fun I_59 J_60 hf H locs ls hP hD hS hl => ?_)  n_61 _ _ _ hf _ _ _ hP hD hS (lv_sub hl [1, 2, 3, 0] rfl)
  exact hret hf hP hD hS dX0_prepare_181
abbrev rmX0_lettersOf : Room := { frames := 0, cells := 0, slots := 0, locals := 0 }
theorem yk_X0_lettersOf : yOk yX0_lettersOf RX0 1 := by unfold yOk; decide +kernel
def f_X0_lettersOf_B4 (x1_1 : Int32) (K35 : Int32 → MI → MJ → Prop) (rec4 : Int32 → Int32 → MI → MJ → Prop) (x2_2 : Int32) (x3_3 : Int32) (I_4 : MI) (J_5 : MJ) : Prop :=
  (((I_4 11 6 7) ≤ x3_3 → K35 x2_2 I_4 J_5) ∧ (¬ (I_4 11 6 7) ≤ x3_3 → (((x1_1 &&& ((1 : Int32) <<< (x3_3 &&& 31))) = (0 : Int32) → ∀ x3_8 : Int32, x3_8 = x3_3 + (1 : Int32) → rec4 x2_2 x3_8 I_4 J_5) ∧ (¬ (x1_1 &&& ((1 : Int32) <<< (x3_3 &&& 31))) = (0 : Int32) → (vp_in x3_3 8 ∧ ∀ x2_10 : Int32, x2_10 = (x2_2 + (I_4 11 9 x3_3.toNatClampNeg)) → ∀ x3_11 : Int32, x3_11 = x3_3 + (1 : Int32) → rec4 x2_10 x3_11 I_4 J_5)))))
def f_X0_lettersOf_L4 (x1_1 : Int32) (K35 : Int32 → MI → MJ → Prop) : Nat → Int32 → Int32 → MI → MJ → Prop
  | 0, _, _, _, _ => False
  | n + 1, x2_2, x3_3, I_4, J_5 => f_X0_lettersOf_B4 x1_1 K35 (f_X0_lettersOf_L4 x1_1 K35 n) x2_2 x3_3 I_4 J_5
def f_X0_lettersOf (x1 : Int32) (I : MI) (J : MJ) (Q : Int32 → MI → MJ → Prop) : Prop :=
  ∃ n : Nat, f_X0_lettersOf_L4 x1 (fun (x2_12 : Int32) (I_13 : MI) (J_14 : MJ) => Q x2_12 I_13 J_14) n (0 : Int32) (0 : Int32) I J
set_option maxRecDepth 100000 in
set_option maxHeartbeats 4000000 in
theorem c_X0_lettersOf {l : Launch} {E : EV} {ps : List (Nat × Nat)} (h11 : ∀ r, r < 11 → (11, r) ∈ ps) {x1 : Int32} {I : MI} {J : MJ} {Q : Int32 → MI → MJ → Prop} (hf : f_X0_lettersOf x1 I J Q) : KI l yX0_lettersOf wsX0_lettersOf rmX0_lettersOf E ps [.ref (eA E 11 6), .int x1] I J Q := by
  refine K_ofI (cc := cX0_lettersOf) (maxL := 4) (ty := .int) (by decide +kernel) rfl (Nat.le_of_ble_eq_true rfl) (fun p e s m args below meth c Qm hret S hK hX => ?_)
  have hA : ∀ q, s.heap.size ≤ q → AA E ps s.heap.size q := fun _ h => Or.inr h
  have k1 := S.2.2.2.2 (.fieldLink RX0 44 "RhymeRoofs$Chains" "size" "I") (by decide +kernel)
  have iX0 : ∀ w ∈ wsX00, w ∈ wsX0_lettersOf := fun _ h => List.mem_cons_of_mem _ (List.mem_append_right _ h)
  have k2 := S.2.2.2.2 (.fieldLink RX0 18 "RhymeRoofs$Chains" "lengths" "[I") (by decide +kernel)
  intro H locs ls hP hD hS hl
  unfold f_X0_lettersOf at hf
  refine lv_iconst (v := 0) S.1 S.2.1 dX0_lettersOf_0 rfl ?_
  refine lv_istore_n (lv' := [(2, .int (0 : Int32)), (0, .ref (eA E 11 6)), (1, .int x1)]) S.1 S.2.1 dX0_lettersOf_1 rfl hl (by decide) rfl (fun ls hl => ?_)
  refine lv_iconst (v := 0) S.1 S.2.1 dX0_lettersOf_2 rfl ?_
  refine lv_istore_n (lv' := [(3, .int (0 : Int32)), (2, .int (0 : Int32)), (0, .ref (eA E 11 6)), (1, .int x1)]) S.1 S.2.1 dX0_lettersOf_3 rfl hl (by decide) rfl (fun ls hl => ?_)
  obtain ⟨n_15, hf⟩ := hf
  have L4 : ∀ (x1_1 : Int32), ∀ (K35 : Int32 → MI → MJ → Prop), (∀ (x2_12 : Int32) (I_13 : MI) (J_14 : MJ), K35 x2_12 I_13 J_14 → Wj p l e (rmX0_lettersOf) s m args below meth c Qm E ps 4 I_13 J_14 35 [(2, .int x2_12)] []) → ∀ (n : Nat) (x2_2 : Int32) (x3_3 : Int32) (I_4 : MI) (J_5 : MJ), f_X0_lettersOf_L4 x1_1 K35 n x2_2 x3_3 I_4 J_5 → Wj p l e (rmX0_lettersOf) s m args below meth c Qm E ps 4 I_4 J_5 4 [(0, .ref (eA E 11 6)), (1, .int x1_1), (2, .int x2_2), (3, .int x3_3)] [] := by
    intro x1_1 K35 kx35 n
    induction n with
    | zero => intro x2_2 x3_3 I_4 J_5 hf; exact hf.elim
    | succ n ih4 =>
      intro x2_2 x3_3 I_4 J_5 hf
      have hf : f_X0_lettersOf_B4 x1_1 K35 (f_X0_lettersOf_L4 x1_1 K35 n) x2_2 x3_3 I_4 J_5 := hf
      intro H locs ls hP hD hS hl
      unfold f_X0_lettersOf_B4 at hf
      refine lv_iload_n S.1 S.2.1 dX0_lettersOf_4 rfl (lv_at hl 3 rfl) ?_
      refine lv_aload_n S.1 S.2.1 dX0_lettersOf_5 rfl (lv_at hl 0 rfl) ?_
      refine gfX0_7 S iX0 hK hP (h11 6 (by decide)) k1 dX0_lettersOf_6 ?_
      refine lv_icmp_ge (tgt := 35) S.1 S.2.1 dX0_lettersOf_9 (by decide) (fun h_6 => ?_) (fun h_6 => ?_)
      · have hf := hf.1 h_6
        exact kx35 _ _ _ hf _ _ _ hP hD hS (lv_sub hl [2] rfl)
      · have hf := hf.2 h_6
        refine lv_iload_n S.1 S.2.1 dX0_lettersOf_12 rfl (lv_at hl 1 rfl) ?_
        refine lv_iconst (v := 1) S.1 S.2.1 dX0_lettersOf_13 rfl ?_
        refine lv_iload_n S.1 S.2.1 dX0_lettersOf_14 rfl (lv_at hl 3 rfl) ?_
        refine lv_ishl S.1 S.2.1 dX0_lettersOf_15 ?_
        refine lv_iand S.1 S.2.1 dX0_lettersOf_16 ?_
        refine lv_if_eq (tgt := 29) S.1 S.2.1 dX0_lettersOf_17 (by decide) (fun h_7 => ?_) (fun h_7 => ?_)
        · have hf := hf.1 h_7
          refine nm_o hf (fun x3_8 ex3_8 hf => ?_)
          refine lv_iinc (v := x3_8) (lv' := [(3, .int x3_8), (0, .ref (eA E 11 6)), (1, .int x1_1), (2, .int x2_2)]) S.1 S.2.1 dX0_lettersOf_29 hl (k := 3) rfl (by rw [ex3_8]; rfl) (by decide) rfl (fun ls hl => ?_)
          refine lv_goto (tgt := 4) S.1 S.2.1 dX0_lettersOf_32 (by decide) ?_
          exact ih4 _ _ _ _ hf _ _ _ hP hD hS (lv_sub hl [1, 2, 3, 0] rfl)
        · have hf := hf.2 h_7
          refine lv_iload_n S.1 S.2.1 dX0_lettersOf_20 rfl (lv_at hl 2 rfl) ?_
          refine lv_aload_n S.1 S.2.1 dX0_lettersOf_21 rfl (lv_at hl 0 rfl) ?_
          refine gfX0_5 S iX0 hK hP (h11 6 (by decide)) k2 dX0_lettersOf_22 ?_
          refine lv_iload_n S.1 S.2.1 dX0_lettersOf_25 rfl (lv_at hl 3 rfl) ?_
          obtain ⟨h_9, hf⟩ := hf
          refine R_iald S.1 S.2.1 hK hP (h11 9 (by decide)) (IAo9 E) h_9 dX0_lettersOf_26 ?_
          refine lv_iadd S.1 S.2.1 dX0_lettersOf_27 ?_
          refine lv_topi (fun x2_10 ex2_10 => ?_)
          have hf := hf x2_10 ex2_10
          refine lv_istore_n (lv' := [(2, .int x2_10), (0, .ref (eA E 11 6)), (1, .int x1_1), (3, .int x3_3)]) S.1 S.2.1 dX0_lettersOf_28 rfl hl (by decide) rfl (fun ls hl => ?_)
          refine nm_o hf (fun x3_11 ex3_11 hf => ?_)
          refine lv_iinc (v := x3_11) (lv' := [(3, .int x3_11), (2, .int x2_10), (0, .ref (eA E 11 6)), (1, .int x1_1)]) S.1 S.2.1 dX0_lettersOf_29 hl (k := 3) rfl (by rw [ex3_11]; rfl) (by decide) rfl (fun ls hl => ?_)
          refine lv_goto (tgt := 4) S.1 S.2.1 dX0_lettersOf_32 (by decide) ?_
          exact ih4 _ _ _ _ hf _ _ _ hP hD hS (lv_sub hl [2, 3, 1, 0] rfl)
  refine L4 _ _ (fun x2_12 I_13 J_14 hf H locs ls hP hD hS hl => ?_)  n_15 _ _ _ _ hf _ _ _ hP hD hS (lv_sub hl [2, 3, 1, 0] rfl)
  refine lv_iload_n S.1 S.2.1 dX0_lettersOf_35 rfl (lv_at hl 0 rfl) ?_
  exact hret hf rfl hP hD hS dX0_lettersOf_36
