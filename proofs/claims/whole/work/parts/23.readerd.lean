abbrev rmX5_readAlike : Room := { frames := 2, cells := 0, slots := 0, locals := 42 }
theorem yk_X5_readAlike : yOk yX5_readAlike RX5 0 := by unfold yOk; decide +kernel
def f_X5_readAlike_B29 (x1_8 : Int32) (K99 : MI → MJ → Prop) (K60 : Int32 → MI → MJ → Prop) (rec29 : Int32 → MI → MJ → Prop) (x2_9 : Int32) (I_10 : MI) (J_11 : MJ) : Prop :=
  (((I_10 11 4 4) ≤ x2_9 → K99 I_10 J_11) ∧ (¬ (I_10 11 4 4) ≤ x2_9 → (vp_in x2_9 600 ∧ ∀ x3_14 : Int32, x3_14 = (((I_10 11 5 x2_9.toNatClampNeg) - (97 : Int32)) + (1 : Int32)) → ((((I_10 11 4 10) &&& ((1 : Int32) <<< (x3_14 &&& 31))) = (0 : Int32) → ∀ I_16 : MI, I_16 = sI I_10 11 4 10 ((I_10 11 4 10) ||| ((1 : Int32) <<< (x3_14 &&& 31))) → (vp_in x3_14 32 ∧ ∀ I_18 : MI, I_18 = sI I_16 10 4 x3_14.toNatClampNeg x1_8 → ∀ x2_19 : Int32, x2_19 = x2_9 + (1 : Int32) → rec29 x2_19 I_18 J_11)) ∧ (¬ ((I_10 11 4 10) &&& ((1 : Int32) <<< (x3_14 &&& 31))) = (0 : Int32) → K60 x2_9 I_10 J_11)))))
def f_X5_readAlike_L29 (x1_8 : Int32) (K99 : MI → MJ → Prop) (K60 : Int32 → MI → MJ → Prop) : Nat → Int32 → MI → MJ → Prop
  | 0, _, _, _ => False
  | n + 1, x2_9, I_10, J_11 => f_X5_readAlike_B29 x1_8 K99 K60 (f_X5_readAlike_L29 x1_8 K99 K60 n) x2_9 I_10 J_11
def f_X5_readAlike (I : MI) (J : MJ) (Q : Int32 → MI → MJ → Prop) : Prop :=
  f_X5_readRun I J (fun (v_3 : Int32) (I_1 : MI) (J_2 : MJ) => ((v_3 = (0 : Int32) → Q (0 : Int32) I_1 J_2) ∧ (¬ v_3 = (0 : Int32) → (vp_in (I_1 11 4 7) 600 ∧ ∀ x1_6 : Int32, x1_6 = (((I_1 11 5 (I_1 11 4 7).toNatClampNeg) - (97 : Int32)) + (1 : Int32)) → ∀ x2_7 : Int32, x2_7 = I_1 11 4 7 → ∃ n : Nat, f_X5_readAlike_L29 x1_6 (fun (I_20 : MI) (J_21 : MJ) => Q (1 : Int32) I_20 J_21) (fun (x2_22 : Int32) (I_23 : MI) (J_24 : MJ) => f_X5_fail (-4 : Int32) x2_22 I_23 J_24 (fun (v_27 : Int32) (I_25 : MI) (J_26 : MJ) => (bo v_27 ∧ Q v_27 I_25 J_26))) n x2_7 I_1 J_2))))
set_option maxRecDepth 100000 in
set_option maxHeartbeats 4000000 in
theorem c_X5_readAlike {l : Launch} {E : EV} {ps : List (Nat × Nat)} (h11 : ∀ r, r < 11 → (11, r) ∈ ps) (hG : ∀ k r, k < 11 → r < 16 → (k, r) ∈ ps) {I : MI} {J : MJ} {Q : Int32 → MI → MJ → Prop} (hf : f_X5_readAlike I J Q) : KI l yX5_readAlike wsX5_readAlike rmX5_readAlike E ps [.ref (eA E 11 4)] I J Q := by
  refine K_ofI (cc := cX5_readAlike) (maxL := 4) (ty := .boolean) (by decide +kernel) rfl (Nat.le_of_ble_eq_true rfl) (fun p e s m args below meth c Qm hret S hK hX => ?_)
  have hA : ∀ q, s.heap.size ≤ q → AA E ps s.heap.size q := fun _ h => Or.inr h
  have k1 := S.2.2.2.2 (.fieldLink RX5 22 "RhymeRoofs$SetupReader" "text" "[I") (by decide +kernel)
  have iX5 : ∀ w ∈ wsX50, w ∈ wsX5_readAlike := fun _ h => List.mem_cons_of_mem _ (List.mem_append_left _ (List.mem_append_left _ (List.mem_append_right _ h)))
  have k2 := S.2.2.2.2 (.fieldLink RX5 85 "RhymeRoofs$SetupReader" "tokenStart" "I") (by decide +kernel)
  have k3 := S.2.2.2.2 (.fieldLink RX5 41 "RhymeRoofs$SetupReader" "at" "I") (by decide +kernel)
  have k4 := S.2.2.2.2 (.fieldLink RX5 54 "RhymeRoofs$SetupReader" "grouped" "I") (by decide +kernel)
  have k5 := S.2.2.2.2 (.fieldLink RX5 12 "RhymeRoofs$SetupReader" "game" "LRhymeRoofs$Game;") (by decide +kernel)
  have k6 := S.2.2.2.2 (.fieldLink RX5 115 "RhymeRoofs$Game" "rules" "LRhymeRoofs$Rules;") (by decide +kernel)
  have iX1 : ∀ w ∈ wsX10, w ∈ wsX5_readAlike := fun _ h => List.mem_cons_of_mem _ (List.mem_append_left _ (List.mem_append_right _ h))
  have k7 := S.2.2.2.2 (.fieldLink RX5 184 "RhymeRoofs$Rules" "groups" "[I") (by decide +kernel)
  have iX4 : ∀ w ∈ wsX40, w ∈ wsX5_readAlike := fun _ h => List.mem_cons_of_mem _ (List.mem_append_right _ h)
  intro H locs ls hP hD hS hl
  unfold f_X5_readAlike at hf
  refine lv_aload_n S.1 S.2.1 dX5_readAlike_0 rfl (lv_at hl 0 rfl) ?_
  refine R_cVi (As := []) (rest := []) S (c_X5_readRun (h11 := h11) (hG := hG)  hf) gX5_readAlike_X5_readRun rfl yk_X5_readRun ⟨⟨Nat.le_of_ble_eq_true rfl, Nat.le_of_ble_eq_true rfl⟩, rfl, rfl⟩ hK hP hD hS hX hA (h11 4 (by decide)) (cF_o E _ _ 4) rfl rfl hl.1 rfl (Nat.le_of_ble_eq_true rfl) ⟨Nat.zero_le _, Nat.zero_le _⟩ dX5_readAlike_1 (fun v_3 I_1 J_2 H locs hf hP hD hS => ?_)
  refine lv_if_ne (tgt := 9) S.1 S.2.1 dX5_readAlike_4 (by decide) (fun h_4 => ?_) (fun h_4 => ?_)
  · have hf := hf.2 h_4
    refine lv_aload_n S.1 S.2.1 dX5_readAlike_9 rfl (lv_at hl 0 rfl) ?_
    refine gfX5_2 S iX5 hK hP (h11 4 (by decide)) k1 dX5_readAlike_10 ?_
    refine lv_aload_n S.1 S.2.1 dX5_readAlike_13 rfl (lv_at hl 0 rfl) ?_
    refine gfX5_7 S iX5 hK hP (h11 4 (by decide)) k2 dX5_readAlike_14 ?_
    obtain ⟨h_5, hf⟩ := hf
    refine R_iald S.1 S.2.1 hK hP (h11 5 (by decide)) (IAo5 E) h_5 dX5_readAlike_17 ?_
    refine lv_bipush (v := 97) S.1 S.2.1 dX5_readAlike_18 rfl ?_
    refine lv_isub S.1 S.2.1 dX5_readAlike_20 ?_
    refine lv_iconst (v := 1) S.1 S.2.1 dX5_readAlike_21 rfl ?_
    refine lv_iadd S.1 S.2.1 dX5_readAlike_22 ?_
    refine lv_topi (fun x1_6 ex1_6 => ?_)
    have hf := hf x1_6 ex1_6
    refine lv_istore_n (lv' := [(1, .int x1_6), (0, .ref (eA E 11 4))]) S.1 S.2.1 dX5_readAlike_23 rfl hl (by decide) rfl (fun ls hl => ?_)
    refine lv_aload_n S.1 S.2.1 dX5_readAlike_24 rfl (lv_at hl 1 rfl) ?_
    refine gfX5_7 S iX5 hK hP (h11 4 (by decide)) k2 dX5_readAlike_25 ?_
    refine lv_topi (fun x2_7 ex2_7 => ?_)
    have hf := hf x2_7 ex2_7
    refine lv_istore_n (lv' := [(2, .int x2_7), (1, .int x1_6), (0, .ref (eA E 11 4))]) S.1 S.2.1 dX5_readAlike_28 rfl hl (by decide) rfl (fun ls hl => ?_)
    obtain ⟨n_29, hf⟩ := hf
    have L29 : ∀ (x1_8 : Int32), ∀ (K99 : MI → MJ → Prop), ∀ (K60 : Int32 → MI → MJ → Prop), (∀ (I_20 : MI) (J_21 : MJ), K99 I_20 J_21 → Wj p l e (rmX5_readAlike) s m args below meth c Qm E ps 4 I_20 J_21 99 [] []) → (∀ (x2_22 : Int32) (I_23 : MI) (J_24 : MJ), K60 x2_22 I_23 J_24 → Wj p l e (rmX5_readAlike) s m args below meth c Qm E ps 4 I_23 J_24 60 [(0, .ref (eA E 11 4)), (2, .int x2_22)] []) → ∀ (n : Nat) (x2_9 : Int32) (I_10 : MI) (J_11 : MJ), f_X5_readAlike_L29 x1_8 K99 K60 n x2_9 I_10 J_11 → Wj p l e (rmX5_readAlike) s m args below meth c Qm E ps 4 I_10 J_11 29 [(0, .ref (eA E 11 4)), (1, .int x1_8), (2, .int x2_9)] [] := by
      intro x1_8 K99 K60 kx99 kx60 n
      induction n with
      | zero => intro x2_9 I_10 J_11 hf; exact hf.elim
      | succ n ih29 =>
        intro x2_9 I_10 J_11 hf
        have hf : f_X5_readAlike_B29 x1_8 K99 K60 (f_X5_readAlike_L29 x1_8 K99 K60 n) x2_9 I_10 J_11 := hf
        intro H locs ls hP hD hS hl
        unfold f_X5_readAlike_B29 at hf
        refine lv_iload_n S.1 S.2.1 dX5_readAlike_29 rfl (lv_at hl 2 rfl) ?_
        refine lv_aload_n S.1 S.2.1 dX5_readAlike_30 rfl (lv_at hl 0 rfl) ?_
        refine gfX5_4 S iX5 hK hP (h11 4 (by decide)) k3 dX5_readAlike_31 ?_
        refine lv_icmp_ge (tgt := 99) S.1 S.2.1 dX5_readAlike_34 (by decide) (fun h_12 => ?_) (fun h_12 => ?_)
        · have hf := hf.1 h_12
          exact kx99 _ _ hf _ _ _ hP hD hS (lv_sub hl [] rfl)
        · have hf := hf.2 h_12
          refine lv_aload_n S.1 S.2.1 dX5_readAlike_37 rfl (lv_at hl 0 rfl) ?_
          refine gfX5_2 S iX5 hK hP (h11 4 (by decide)) k1 dX5_readAlike_38 ?_
          refine lv_iload_n S.1 S.2.1 dX5_readAlike_41 rfl (lv_at hl 2 rfl) ?_
          obtain ⟨h_13, hf⟩ := hf
          refine R_iald S.1 S.2.1 hK hP (h11 5 (by decide)) (IAo5 E) h_13 dX5_readAlike_42 ?_
          refine lv_bipush (v := 97) S.1 S.2.1 dX5_readAlike_43 rfl ?_
          refine lv_isub S.1 S.2.1 dX5_readAlike_45 ?_
          refine lv_iconst (v := 1) S.1 S.2.1 dX5_readAlike_46 rfl ?_
          refine lv_iadd S.1 S.2.1 dX5_readAlike_47 ?_
          refine lv_topi (fun x3_14 ex3_14 => ?_)
          have hf := hf x3_14 ex3_14
          refine lv_istore_n (lv' := [(3, .int x3_14), (0, .ref (eA E 11 4)), (1, .int x1_8), (2, .int x2_9)]) S.1 S.2.1 dX5_readAlike_48 rfl hl (by decide) rfl (fun ls hl => ?_)
          refine lv_aload_n S.1 S.2.1 dX5_readAlike_49 rfl (lv_at hl 1 rfl) ?_
          refine gfX5_10 S iX5 hK hP (h11 4 (by decide)) k4 dX5_readAlike_50 ?_
          refine lv_iconst (v := 1) S.1 S.2.1 dX5_readAlike_53 rfl ?_
          refine lv_iload_n S.1 S.2.1 dX5_readAlike_54 rfl (lv_at hl 0 rfl) ?_
          refine lv_ishl S.1 S.2.1 dX5_readAlike_55 ?_
          refine lv_iand S.1 S.2.1 dX5_readAlike_56 ?_
          refine lv_if_eq (tgt := 68) S.1 S.2.1 dX5_readAlike_57 (by decide) (fun h_15 => ?_) (fun h_15 => ?_)
          · have hf := hf.1 h_15
            refine lv_aload_n S.1 S.2.1 dX5_readAlike_68 rfl (lv_at hl 1 rfl) ?_
            refine lv_dup S.1 S.2.1 dX5_readAlike_69 rfl ?_
            refine gfX5_10 S iX5 hK hP (h11 4 (by decide)) k4 dX5_readAlike_70 ?_
            refine lv_iconst (v := 1) S.1 S.2.1 dX5_readAlike_73 rfl ?_
            refine lv_iload_n S.1 S.2.1 dX5_readAlike_74 rfl (lv_at hl 0 rfl) ?_
            refine lv_ishl S.1 S.2.1 dX5_readAlike_75 ?_
            refine lv_ior S.1 S.2.1 dX5_readAlike_76 ?_
            refine nm_o hf (fun I_16 eI_16 hf => ?_)
            refine pfX5_10 S iX5 hK hP hD hS (h11 4 (by decide)) k4 dX5_readAlike_77 eI_16 (fun H locs hP hD hS => ?_)
            refine lv_aload_n S.1 S.2.1 dX5_readAlike_80 rfl (lv_at hl 1 rfl) ?_
            refine gfX5_0 S iX5 hK hP (h11 4 (by decide)) k5 dX5_readAlike_81 ?_
            refine gfX1_0 S iX1 hK hP (by decide) ((fun r => hG 10 r (by decide)) 0 (by decide)) k6 dX5_readAlike_84 ?_
            refine gfX4_1 S iX4 hK hP (by decide) ((fun r => hG 10 r (by decide)) 1 (by decide)) k7 dX5_readAlike_87 ?_
            refine lv_iload_n S.1 S.2.1 dX5_readAlike_90 rfl (lv_at hl 0 rfl) ?_
            refine lv_iload_n S.1 S.2.1 dX5_readAlike_91 rfl (lv_at hl 2 rfl) ?_
            obtain ⟨h_17, hf⟩ := hf
            refine nm_o hf (fun I_18 eI_18 hf => ?_)
            refine R_iast S.1 S.2.1 hK hP hD hS ((fun r => hG 10 r (by decide)) 4 (by decide)) (IAg4 E (by decide)) h_17 dX5_readAlike_92 eI_18 (fun H locs hP hD hS => ?_)
            refine nm_o hf (fun x2_19 ex2_19 hf => ?_)
            refine lv_iinc (v := x2_19) (lv' := [(2, .int x2_19), (3, .int x3_14), (0, .ref (eA E 11 4)), (1, .int x1_8)]) S.1 S.2.1 dX5_readAlike_93 hl (k := 3) rfl (by rw [ex2_19]; rfl) (by decide) rfl (fun ls hl => ?_)
            refine lv_goto (tgt := 29) S.1 S.2.1 dX5_readAlike_96 (by decide) ?_
            exact ih29 _ _ _ hf _ _ _ hP hD hS (lv_sub hl [2, 3, 0] rfl)
          · have hf := hf.2 h_15
            exact kx60 _ _ _ hf _ _ _ hP hD hS (lv_sub hl [1, 3] rfl)
    refine L29 _ _ _ (fun I_20 J_21 hf H locs ls hP hD hS hl => ?_) (fun x2_22 I_23 J_24 hf H locs ls hP hD hS hl => ?_)  n_29 _ _ _ hf _ _ _ hP hD hS (lv_sub hl [2, 1, 0] rfl)
    · refine lv_iconst (v := 1) S.1 S.2.1 dX5_readAlike_99 rfl ?_
      exact hret hf rfl hP hD hS dX5_readAlike_100
    · refine lv_aload_n S.1 S.2.1 dX5_readAlike_60 rfl (lv_at hl 0 rfl) ?_
      refine lv_bipush (v := (-4)) S.1 S.2.1 dX5_readAlike_61 rfl ?_
      refine lv_iload_n S.1 S.2.1 dX5_readAlike_63 rfl (lv_at hl 1 rfl) ?_
      refine R_cVi (As := [.int (-4 : Int32), .int x2_22]) (rest := []) S (c_X5_fail (h11 := h11) (hG := hG)  hf) gX5_readAlike_X5_fail rfl yk_X5_fail ⟨⟨Nat.le_of_ble_eq_true rfl, Nat.le_of_ble_eq_true rfl⟩, rfl, rfl⟩ hK hP hD hS hX hA (h11 4 (by decide)) (cF_o E _ _ 4) rfl rfl hl.1 rfl (Nat.le_of_ble_eq_true rfl) ⟨Nat.zero_le _, Nat.zero_le _⟩ dX5_readAlike_64 (fun v_27 I_25 J_26 H locs hf hP hD hS => ?_)
      obtain ⟨h_28, hf⟩ := hf
      exact hret hf h_28.1 hP hD hS dX5_readAlike_67
  · have hf := hf.1 h_4
    refine lv_iconst (v := 0) S.1 S.2.1 dX5_readAlike_7 rfl ?_
    exact hret hf rfl hP hD hS dX5_readAlike_8
abbrev rmX5_readHand : Room := { frames := 2, cells := 0, slots := 0, locals := 86 }
theorem yk_X5_readHand : yOk yX5_readHand RX5 0 := by unfold yOk; decide +kernel
def f_X5_readHand_J54 (K142 : MI → MJ → Prop) (K61 : MI → MJ → Prop) (K77 : MI → MJ → Prop) (K102 : MI → MJ → Prop) (rec34 : Int32 → MI → MJ → Prop) (x1_7 : Int32) (x2_13 : Int32) (I_14 : MI) (J_15 : MJ) : Prop :=
  f_X5_readRun I_14 J_15 (fun (v_18 : Int32) (I_16 : MI) (J_17 : MJ) => ((v_18 = (0 : Int32) → K61 I_16 J_17) ∧ (¬ v_18 = (0 : Int32) → ((((I_16 11 4 4) - (I_16 11 4 7)) ≤ (8 : Int32) → (vp_in x1_7 4 ∧ (((I_16 10 13 x1_7.toNatClampNeg) < (8 : Int32) → f_X6_ofBytes 11 5 600 (I_16 11 4 7) (I_16 11 4 4) I_16 J_17 (fun (v_25 : Int64) (I_23 : MI) (J_24 : MJ) => f_X1_addWord 10 x1_7 v_25 I_23 J_24 (fun (I_26 : MI) (J_27 : MJ) => ∀ x2_28 : Int32, x2_28 = x2_13 + (1 : Int32) → rec34 x2_28 I_26 J_27))) ∧ (¬ (I_16 10 13 x1_7.toNatClampNeg) < (8 : Int32) → K102 I_16 J_17)))) ∧ (¬ ((I_16 11 4 4) - (I_16 11 4 7)) ≤ (8 : Int32) → K77 I_16 J_17)))))
def f_X5_readHand_B34 (x1_7 : Int32) (K142 : MI → MJ → Prop) (K61 : MI → MJ → Prop) (K77 : MI → MJ → Prop) (K102 : MI → MJ → Prop) (rec34 : Int32 → MI → MJ → Prop) (x2_8 : Int32) (I_9 : MI) (J_10 : MJ) : Prop :=
  (((8 : Int32) < x2_8 → K142 I_9 J_10) ∧ (¬ (8 : Int32) < x2_8 → ((x2_8 = (0 : Int32) → f_X5_readHand_J54 K142 K61 K77 K102 rec34 x1_7 x2_8 I_9 J_10) ∧ (¬ x2_8 = (0 : Int32) → f_X5_peek I_9 J_10 (fun (v_31 : Int32) (I_29 : MI) (J_30 : MJ) => f_X6_isLetter v_31 I_29 J_30 (fun (v_34 : Int32) (I_32 : MI) (J_33 : MJ) => ((v_34 = (0 : Int32) → K142 I_32 J_33) ∧ (¬ v_34 = (0 : Int32) → f_X5_readHand_J54 K142 K61 K77 K102 rec34 x1_7 x2_8 I_32 J_33))))))))
def f_X5_readHand_L34 (x1_7 : Int32) (K142 : MI → MJ → Prop) (K61 : MI → MJ → Prop) (K77 : MI → MJ → Prop) (K102 : MI → MJ → Prop) : Nat → Int32 → MI → MJ → Prop
  | 0, _, _, _ => False
  | n + 1, x2_8, I_9, J_10 => f_X5_readHand_B34 x1_7 K142 K61 K77 K102 (f_X5_readHand_L34 x1_7 K142 K61 K77 K102 n) x2_8 I_9 J_10
def f_X5_readHand (I : MI) (J : MJ) (Q : Int32 → MI → MJ → Prop) : Prop :=
  f_X5_readNumber (0 : Int32) ((I 10 1 4) - (1 : Int32)) I J (fun (v_3 : Int32) (I_1 : MI) (J_2 : MJ) => ((v_3 = (0 : Int32) → Q (0 : Int32) I_1 J_2) ∧ (¬ v_3 = (0 : Int32) → ∀ x1_5 : Int32, x1_5 = I_1 11 4 6 → ∀ I_6 : MI, I_6 = sI I_1 11 4 9 (1 : Int32) → ∃ n : Nat, f_X5_readHand_L34 x1_5 (fun (I_36 : MI) (J_37 : MJ) => Q (1 : Int32) I_36 J_37) (fun (I_38 : MI) (J_39 : MJ) => Q (0 : Int32) I_38 J_39) (fun (I_40 : MI) (J_41 : MJ) => f_X5_fail (-3 : Int32) (I_40 11 4 7) I_40 J_41 (fun (v_44 : Int32) (I_42 : MI) (J_43 : MJ) => (bo v_44 ∧ Q v_44 I_42 J_43))) (fun (I_46 : MI) (J_47 : MJ) => f_X5_fail (-5 : Int32) (I_46 11 4 7) I_46 J_47 (fun (v_50 : Int32) (I_48 : MI) (J_49 : MJ) => (bo v_50 ∧ Q v_50 I_48 J_49))) n (0 : Int32) I_6 J_2)))
set_option maxRecDepth 100000 in
set_option maxHeartbeats 4000000 in
theorem c_X5_readHand {l : Launch} {E : EV} {ps : List (Nat × Nat)} (h11 : ∀ r, r < 11 → (11, r) ∈ ps) (hG : ∀ k r, k < 11 → r < 16 → (k, r) ∈ ps) {I : MI} {J : MJ} {Q : Int32 → MI → MJ → Prop} (hf : f_X5_readHand I J Q) : KI l yX5_readHand wsX5_readHand rmX5_readHand E ps [.ref (eA E 11 4)] I J Q := by
  refine K_ofI (cc := cX5_readHand) (maxL := 3) (ty := .boolean) (by decide +kernel) rfl (Nat.le_of_ble_eq_true rfl) (fun p e s m args below meth c Qm hret S hK hX => ?_)
  have hA : ∀ q, s.heap.size ≤ q → AA E ps s.heap.size q := fun _ h => Or.inr h
  have k1 := S.2.2.2.2 (.fieldLink RX5 12 "RhymeRoofs$SetupReader" "game" "LRhymeRoofs$Game;") (by decide +kernel)
  have iX5 : ∀ w ∈ wsX50, w ∈ wsX5_readHand := fun _ h => List.mem_cons_of_mem _ (List.mem_append_left _ (List.mem_append_left _ (List.mem_append_right _ h)))
  have k2 := S.2.2.2.2 (.fieldLink RX5 115 "RhymeRoofs$Game" "rules" "LRhymeRoofs$Rules;") (by decide +kernel)
  have iX1 : ∀ w ∈ wsX10, w ∈ wsX5_readHand := fun _ h => List.mem_cons_of_mem _ (List.mem_append_left _ (List.mem_append_right _ h))
  have k3 := S.2.2.2.2 (.fieldLink RX5 176 "RhymeRoofs$Rules" "players" "I") (by decide +kernel)
  have iX4 : ∀ w ∈ wsX40, w ∈ wsX5_readHand := fun _ h => List.mem_cons_of_mem _ (List.mem_append_right _ h)
  have k4 := S.2.2.2.2 (.fieldLink RX5 88 "RhymeRoofs$SetupReader" "number" "I") (by decide +kernel)
  have k5 := S.2.2.2.2 (.fieldLink RX5 50 "RhymeRoofs$SetupReader" "handTold" "Z") (by decide +kernel)
  have k6 := S.2.2.2.2 (.fieldLink RX5 41 "RhymeRoofs$SetupReader" "at" "I") (by decide +kernel)
  have k7 := S.2.2.2.2 (.fieldLink RX5 85 "RhymeRoofs$SetupReader" "tokenStart" "I") (by decide +kernel)
  have k8 := S.2.2.2.2 (.fieldLink RX5 187 "RhymeRoofs$Game" "handSize" "[I") (by decide +kernel)
  have k9 := S.2.2.2.2 (.fieldLink RX5 22 "RhymeRoofs$SetupReader" "text" "[I") (by decide +kernel)
  intro H locs ls hP hD hS hl
  unfold f_X5_readHand at hf
  refine lv_aload_n S.1 S.2.1 dX5_readHand_0 rfl (lv_at hl 0 rfl) ?_
  refine lv_iconst (v := 0) S.1 S.2.1 dX5_readHand_1 rfl ?_
  refine lv_aload_n S.1 S.2.1 dX5_readHand_2 rfl (lv_at hl 0 rfl) ?_
  refine gfX5_0 S iX5 hK hP (h11 4 (by decide)) k1 dX5_readHand_3 ?_
  refine gfX1_0 S iX1 hK hP (by decide) ((fun r => hG 10 r (by decide)) 0 (by decide)) k2 dX5_readHand_6 ?_
  refine gfX4_4 S iX4 hK hP (by decide) ((fun r => hG 10 r (by decide)) 1 (by decide)) k3 dX5_readHand_9 ?_
  refine lv_iconst (v := 1) S.1 S.2.1 dX5_readHand_12 rfl ?_
  refine lv_isub S.1 S.2.1 dX5_readHand_13 ?_
  refine R_cVi (As := [.int (0 : Int32), .int ((I 10 1 4) - (1 : Int32))]) (rest := []) S (c_X5_readNumber (h11 := h11) (hG := hG)  hf) gX5_readHand_X5_readNumber rfl yk_X5_readNumber ⟨⟨Nat.le_of_ble_eq_true rfl, Nat.le_of_ble_eq_true rfl⟩, rfl, rfl⟩ hK hP hD hS hX hA (h11 4 (by decide)) (cF_o E _ _ 4) rfl rfl hl.1 rfl (Nat.le_of_ble_eq_true rfl) ⟨Nat.zero_le _, Nat.zero_le _⟩ dX5_readHand_14 (fun v_3 I_1 J_2 H locs hf hP hD hS => ?_)
  refine lv_if_ne (tgt := 22) S.1 S.2.1 dX5_readHand_17 (by decide) (fun h_4 => ?_) (fun h_4 => ?_)
  · have hf := hf.2 h_4
    refine lv_aload_n S.1 S.2.1 dX5_readHand_22 rfl (lv_at hl 0 rfl) ?_
    refine gfX5_6 S iX5 hK hP (h11 4 (by decide)) k4 dX5_readHand_23 ?_
    refine lv_topi (fun x1_5 ex1_5 => ?_)
    have hf := hf x1_5 ex1_5
    refine lv_istore_n (lv' := [(1, .int x1_5), (0, .ref (eA E 11 4))]) S.1 S.2.1 dX5_readHand_26 rfl hl (by decide) rfl (fun ls hl => ?_)
    refine lv_aload_n S.1 S.2.1 dX5_readHand_27 rfl (lv_at hl 1 rfl) ?_
    refine lv_iconst (v := 1) S.1 S.2.1 dX5_readHand_28 rfl ?_
    refine nm_o hf (fun I_6 eI_6 hf => ?_)
    refine pfX5_9 S iX5 hK hP hD hS (h11 4 (by decide)) k5 bo1 dX5_readHand_29 eI_6 (fun H locs hP hD hS => ?_)
    refine lv_iconst (v := 0) S.1 S.2.1 dX5_readHand_32 rfl ?_
    refine lv_istore_n (lv' := [(2, .int (0 : Int32)), (1, .int x1_5), (0, .ref (eA E 11 4))]) S.1 S.2.1 dX5_readHand_33 rfl hl (by decide) rfl (fun ls hl => ?_)
    obtain ⟨n_52, hf⟩ := hf
    have L34 : ∀ (x1_7 : Int32), ∀ (K142 : MI → MJ → Prop), ∀ (K61 : MI → MJ → Prop), ∀ (K77 : MI → MJ → Prop), ∀ (K102 : MI → MJ → Prop), (∀ (I_36 : MI) (J_37 : MJ), K142 I_36 J_37 → Wj p l e (rmX5_readHand) s m args below meth c Qm E ps 3 I_36 J_37 142 [] []) → (∀ (I_38 : MI) (J_39 : MJ), K61 I_38 J_39 → Wj p l e (rmX5_readHand) s m args below meth c Qm E ps 3 I_38 J_39 61 [] []) → (∀ (I_40 : MI) (J_41 : MJ), K77 I_40 J_41 → Wj p l e (rmX5_readHand) s m args below meth c Qm E ps 3 I_40 J_41 77 [(0, .ref (eA E 11 4))] []) → (∀ (I_46 : MI) (J_47 : MJ), K102 I_46 J_47 → Wj p l e (rmX5_readHand) s m args below meth c Qm E ps 3 I_46 J_47 102 [(0, .ref (eA E 11 4))] []) → ∀ (n : Nat) (x2_8 : Int32) (I_9 : MI) (J_10 : MJ), f_X5_readHand_L34 x1_7 K142 K61 K77 K102 n x2_8 I_9 J_10 → Wj p l e (rmX5_readHand) s m args below meth c Qm E ps 3 I_9 J_10 34 [(0, .ref (eA E 11 4)), (1, .int x1_7), (2, .int x2_8)] [] := by
      intro x1_7 K142 K61 K77 K102 kx142 kx61 kx77 kx102 n
      induction n with
      | zero => intro x2_8 I_9 J_10 hf; exact hf.elim
      | succ n ih34 =>
        intro x2_8 I_9 J_10 hf
        have hf : f_X5_readHand_B34 x1_7 K142 K61 K77 K102 (f_X5_readHand_L34 x1_7 K142 K61 K77 K102 n) x2_8 I_9 J_10 := hf
        have jn54 : ∀ (x2_13 : Int32) (I_14 : MI) (J_15 : MJ), f_X5_readHand_J54 K142 K61 K77 K102 (f_X5_readHand_L34 x1_7 K142 K61 K77 K102 n) x1_7 x2_13 I_14 J_15 → Wj p l e (rmX5_readHand) s m args below meth c Qm E ps 3 I_14 J_15 54 [(0, .ref (eA E 11 4)), (1, .int x1_7), (2, .int x2_13)] [] := by
          intro x2_13 I_14 J_15 hf H locs ls hP hD hS hl
          unfold f_X5_readHand_J54 at hf
          refine lv_aload_n S.1 S.2.1 dX5_readHand_54 rfl (lv_at hl 0 rfl) ?_
          refine R_cVi (As := []) (rest := []) S (c_X5_readRun (h11 := h11) (hG := hG)  hf) gX5_readHand_X5_readRun rfl yk_X5_readRun ⟨⟨Nat.le_of_ble_eq_true rfl, Nat.le_of_ble_eq_true rfl⟩, rfl, rfl⟩ hK hP hD hS hX hA (h11 4 (by decide)) (cF_o E _ _ 4) rfl rfl hl.1 rfl (Nat.le_of_ble_eq_true rfl) ⟨Nat.zero_le _, Nat.zero_le _⟩ dX5_readHand_55 (fun v_18 I_16 J_17 H locs hf hP hD hS => ?_)
          refine lv_if_ne (tgt := 63) S.1 S.2.1 dX5_readHand_58 (by decide) (fun h_19 => ?_) (fun h_19 => ?_)
          · have hf := hf.2 h_19
            refine lv_aload_n S.1 S.2.1 dX5_readHand_63 rfl (lv_at hl 0 rfl) ?_
            refine gfX5_4 S iX5 hK hP (h11 4 (by decide)) k6 dX5_readHand_64 ?_
            refine lv_aload_n S.1 S.2.1 dX5_readHand_67 rfl (lv_at hl 0 rfl) ?_
            refine gfX5_7 S iX5 hK hP (h11 4 (by decide)) k7 dX5_readHand_68 ?_
            refine lv_isub S.1 S.2.1 dX5_readHand_71 ?_
            refine lv_bipush (v := 8) S.1 S.2.1 dX5_readHand_72 rfl ?_
            refine lv_icmp_le (tgt := 88) S.1 S.2.1 dX5_readHand_74 (by decide) (fun h_20 => ?_) (fun h_20 => ?_)
            · have hf := hf.1 h_20
              refine lv_aload_n S.1 S.2.1 dX5_readHand_88 rfl (lv_at hl 0 rfl) ?_
              refine gfX5_0 S iX5 hK hP (h11 4 (by decide)) k1 dX5_readHand_89 ?_
              refine gfX1_7 S iX1 hK hP (by decide) ((fun r => hG 10 r (by decide)) 0 (by decide)) k8 dX5_readHand_92 ?_
              refine lv_iload_n S.1 S.2.1 dX5_readHand_95 rfl (lv_at hl 1 rfl) ?_
              obtain ⟨h_21, hf⟩ := hf
              refine R_iald S.1 S.2.1 hK hP ((fun r => hG 10 r (by decide)) 13 (by decide)) (IAg13 E (by decide)) h_21 dX5_readHand_96 ?_
              refine lv_bipush (v := 8) S.1 S.2.1 dX5_readHand_97 rfl ?_
              refine lv_icmp_lt (tgt := 113) S.1 S.2.1 dX5_readHand_99 (by decide) (fun h_22 => ?_) (fun h_22 => ?_)
              · have hf := hf.1 h_22
                refine lv_aload_n S.1 S.2.1 dX5_readHand_113 rfl (lv_at hl 0 rfl) ?_
                refine gfX5_0 S iX5 hK hP (h11 4 (by decide)) k1 dX5_readHand_114 ?_
                refine lv_iload_n S.1 S.2.1 dX5_readHand_117 rfl (lv_at hl 1 rfl) ?_
                refine lv_aload_n S.1 S.2.1 dX5_readHand_118 rfl (lv_at hl 0 rfl) ?_
                refine gfX5_2 S iX5 hK hP (h11 4 (by decide)) k9 dX5_readHand_119 ?_
                refine lv_aload_n S.1 S.2.1 dX5_readHand_122 rfl (lv_at hl 0 rfl) ?_
                refine gfX5_7 S iX5 hK hP (h11 4 (by decide)) k7 dX5_readHand_123 ?_
                refine lv_aload_n S.1 S.2.1 dX5_readHand_126 rfl (lv_at hl 0 rfl) ?_
                refine gfX5_4 S iX5 hK hP (h11 4 (by decide)) k6 dX5_readHand_127 ?_
                refine R_cSl (As := [.ref (eA E 11 5), .int (I_16 11 4 7), .int (I_16 11 4 4)]) (rest := [.int x1_7, .ref (eA E 10 0)]) S (c_X6_ofBytes  (hm1 := (h11 5 (by decide))) (hc1 := (IAo5 E)) hf) gX5_readHand_X6_ofBytes rfl yk_X6_ofBytes ⟨⟨Nat.le_of_ble_eq_true rfl, Nat.le_of_ble_eq_true rfl⟩, rfl, rfl⟩ hK hP hD hS hX hA rfl hl.1 rfl (Nat.le_of_ble_eq_true rfl) ⟨Nat.zero_le _, Nat.zero_le _⟩ dX5_readHand_130 (fun v_25 I_23 J_24 H locs hf hP hD hS => ?_)
                refine R_cVv (As := [.int x1_7, .long v_25]) (rest := []) S (c_X1_addWord (hB := (by decide)) (hM := (fun r => hG 10 r (by decide)))  hf) gX5_readHand_X1_addWord rfl yk_X1_addWord ⟨⟨Nat.le_of_ble_eq_true rfl, Nat.le_of_ble_eq_true rfl⟩, rfl, rfl⟩ hK hP hD hS hX hA ((fun r => hG 10 r (by decide)) 0 (by decide)) (cF_g E (by decide) _ _ 0) rfl rfl hl.1 rfl (Nat.le_of_ble_eq_true rfl) ⟨Nat.zero_le _, Nat.zero_le _⟩ dX5_readHand_133 (fun I_26 J_27 H locs hf hP hD hS => ?_)
                refine nm_o hf (fun x2_28 ex2_28 hf => ?_)
                refine lv_iinc (v := x2_28) (lv' := [(2, .int x2_28), (0, .ref (eA E 11 4)), (1, .int x1_7)]) S.1 S.2.1 dX5_readHand_136 hl (k := 2) rfl (by rw [ex2_28]; rfl) (by decide) rfl (fun ls hl => ?_)
                refine lv_goto (tgt := 34) S.1 S.2.1 dX5_readHand_139 (by decide) ?_
                exact ih34 _ _ _ hf _ _ _ hP hD hS (lv_sub hl [1, 2, 0] rfl)
              · have hf := hf.2 h_22
                exact kx102 _ _ hf _ _ _ hP hD hS (lv_sub hl [0] rfl)
            · have hf := hf.2 h_20
              exact kx77 _ _ hf _ _ _ hP hD hS (lv_sub hl [0] rfl)
          · have hf := hf.1 h_19
            exact kx61 _ _ hf _ _ _ hP hD hS (lv_sub hl [] rfl)
        intro H locs ls hP hD hS hl
        unfold f_X5_readHand_B34 at hf
        refine lv_iload_n S.1 S.2.1 dX5_readHand_34 rfl (lv_at hl 2 rfl) ?_
        refine lv_bipush (v := 8) S.1 S.2.1 dX5_readHand_35 rfl ?_
        refine lv_icmp_gt (tgt := 142) S.1 S.2.1 dX5_readHand_37 (by decide) (fun h_11 => ?_) (fun h_11 => ?_)
        · have hf := hf.1 h_11
          exact kx142 _ _ hf _ _ _ hP hD hS (lv_sub hl [] rfl)
        · have hf := hf.2 h_11
          refine lv_iload_n S.1 S.2.1 dX5_readHand_40 rfl (lv_at hl 2 rfl) ?_
          refine lv_if_eq (tgt := 54) S.1 S.2.1 dX5_readHand_41 (by decide) (fun h_12 => ?_) (fun h_12 => ?_)
          · have hf := hf.1 h_12
            exact jn54 _ _ _ hf _ _ _ hP hD hS (lv_sub hl [0, 1, 2] rfl)
          · have hf := hf.2 h_12
            refine lv_aload_n S.1 S.2.1 dX5_readHand_44 rfl (lv_at hl 0 rfl) ?_
            refine R_cVi (As := []) (rest := []) S (c_X5_peek (h11 := h11) (hG := hG)  hf) gX5_readHand_X5_peek rfl yk_X5_peek ⟨⟨Nat.le_of_ble_eq_true rfl, Nat.le_of_ble_eq_true rfl⟩, rfl, rfl⟩ hK hP hD hS hX hA (h11 4 (by decide)) (cF_o E _ _ 4) rfl rfl hl.1 rfl (Nat.le_of_ble_eq_true rfl) ⟨Nat.zero_le _, Nat.zero_le _⟩ dX5_readHand_45 (fun v_31 I_29 J_30 H locs hf hP hD hS => ?_)
            refine R_cSi (As := [.int v_31]) (rest := []) S (c_X6_isLetter   hf) gX5_readHand_X6_isLetter rfl yk_X6_isLetter ⟨⟨Nat.le_of_ble_eq_true rfl, Nat.le_of_ble_eq_true rfl⟩, rfl, rfl⟩ hK hP hD hS hX hA rfl hl.1 rfl (Nat.le_of_ble_eq_true rfl) ⟨Nat.zero_le _, Nat.zero_le _⟩ dX5_readHand_48 (fun v_34 I_32 J_33 H locs hf hP hD hS => ?_)
            refine lv_if_eq (tgt := 142) S.1 S.2.1 dX5_readHand_51 (by decide) (fun h_35 => ?_) (fun h_35 => ?_)
            · have hf := hf.1 h_35
              exact kx142 _ _ hf _ _ _ hP hD hS (lv_sub hl [] rfl)
            · have hf := hf.2 h_35
              exact jn54 _ _ _ hf _ _ _ hP hD hS (lv_sub hl [0, 1, 2] rfl)
    refine L34 _ _ _ _ _ (fun I_36 J_37 hf H locs ls hP hD hS hl => ?_) (fun I_38 J_39 hf H locs ls hP hD hS hl => ?_) (fun I_40 J_41 hf H locs ls hP hD hS hl => ?_) (fun I_46 J_47 hf H locs ls hP hD hS hl => ?_)  n_52 _ _ _ hf _ _ _ hP hD hS (lv_sub hl [2, 1, 0] rfl)
    · refine lv_iconst (v := 1) S.1 S.2.1 dX5_readHand_142 rfl ?_
      exact hret hf rfl hP hD hS dX5_readHand_143
    · refine lv_iconst (v := 0) S.1 S.2.1 dX5_readHand_61 rfl ?_
      exact hret hf rfl hP hD hS dX5_readHand_62
    · refine lv_aload_n S.1 S.2.1 dX5_readHand_77 rfl (lv_at hl 0 rfl) ?_
      refine lv_bipush (v := (-3)) S.1 S.2.1 dX5_readHand_78 rfl ?_
      refine lv_aload_n S.1 S.2.1 dX5_readHand_80 rfl (lv_at hl 0 rfl) ?_
      refine gfX5_7 S iX5 hK hP (h11 4 (by decide)) k7 dX5_readHand_81 ?_
      refine R_cVi (As := [.int (-3 : Int32), .int (I_40 11 4 7)]) (rest := []) S (c_X5_fail (h11 := h11) (hG := hG)  hf) gX5_readHand_X5_fail rfl yk_X5_fail ⟨⟨Nat.le_of_ble_eq_true rfl, Nat.le_of_ble_eq_true rfl⟩, rfl, rfl⟩ hK hP hD hS hX hA (h11 4 (by decide)) (cF_o E _ _ 4) rfl rfl hl.1 rfl (Nat.le_of_ble_eq_true rfl) ⟨Nat.zero_le _, Nat.zero_le _⟩ dX5_readHand_84 (fun v_44 I_42 J_43 H locs hf hP hD hS => ?_)
      obtain ⟨h_45, hf⟩ := hf
      exact hret hf h_45.1 hP hD hS dX5_readHand_87
    · refine lv_aload_n S.1 S.2.1 dX5_readHand_102 rfl (lv_at hl 0 rfl) ?_
      refine lv_bipush (v := (-5)) S.1 S.2.1 dX5_readHand_103 rfl ?_
      refine lv_aload_n S.1 S.2.1 dX5_readHand_105 rfl (lv_at hl 0 rfl) ?_
      refine gfX5_7 S iX5 hK hP (h11 4 (by decide)) k7 dX5_readHand_106 ?_
      refine R_cVi (As := [.int (-5 : Int32), .int (I_46 11 4 7)]) (rest := []) S (c_X5_fail (h11 := h11) (hG := hG)  hf) gX5_readHand_X5_fail rfl yk_X5_fail ⟨⟨Nat.le_of_ble_eq_true rfl, Nat.le_of_ble_eq_true rfl⟩, rfl, rfl⟩ hK hP hD hS hX hA (h11 4 (by decide)) (cF_o E _ _ 4) rfl rfl hl.1 rfl (Nat.le_of_ble_eq_true rfl) ⟨Nat.zero_le _, Nat.zero_le _⟩ dX5_readHand_109 (fun v_50 I_48 J_49 H locs hf hP hD hS => ?_)
      obtain ⟨h_51, hf⟩ := hf
      exact hret hf h_51.1 hP hD hS dX5_readHand_112
  · have hf := hf.1 h_4
    refine lv_iconst (v := 0) S.1 S.2.1 dX5_readHand_20 rfl ?_
    exact hret hf rfl hP hD hS dX5_readHand_21
