abbrev rmX5_readRun : Room := { frames := 1, cells := 0, slots := 0, locals := 22 }
theorem yk_X5_readRun : yOk yX5_readRun RX5 0 := by unfold yOk; decide +kernel
def f_X5_readRun_B29 (K68 : MI → MJ → Prop) (rec29 : MI → MJ → Prop) (I_9 : MI) (J_10 : MJ) : Prop :=
  (((I_9 11 4 3) ≤ (I_9 11 4 4) → K68 I_9 J_10) ∧ (¬ (I_9 11 4 3) ≤ (I_9 11 4 4) → (vp_in (I_9 11 4 4) 600 ∧ f_X6_isLetter (I_9 11 5 (I_9 11 4 4).toNatClampNeg) I_9 J_10 (fun (v_15 : Int32) (I_13 : MI) (J_14 : MJ) => ((v_15 = (0 : Int32) → K68 I_13 J_14) ∧ (¬ v_15 = (0 : Int32) → ∀ I_17 : MI, I_17 = sI I_13 11 4 4 ((I_13 11 4 4) + (1 : Int32)) → rec29 I_17 J_14))))))
def f_X5_readRun_L29 (K68 : MI → MJ → Prop) : Nat → MI → MJ → Prop
  | 0, _, _ => False
  | n + 1, I_9, J_10 => f_X5_readRun_B29 K68 (f_X5_readRun_L29 K68 n) I_9 J_10
def f_X5_readRun (I : MI) (J : MJ) (Q : Int32 → MI → MJ → Prop) : Prop :=
  f_X5_peek I J (fun (v_3 : Int32) (I_1 : MI) (J_2 : MJ) => f_X6_isLetter v_3 I_1 J_2 (fun (v_6 : Int32) (I_4 : MI) (J_5 : MJ) => ((v_6 = (0 : Int32) → f_X5_fail (-2 : Int32) (I_4 11 4 4) I_4 J_5 (fun (v_23 : Int32) (I_21 : MI) (J_22 : MJ) => (bo v_23 ∧ Q v_23 I_21 J_22))) ∧ (¬ v_6 = (0 : Int32) → ∀ I_8 : MI, I_8 = sI I_4 11 4 7 (I_4 11 4 4) → ∃ n : Nat, f_X5_readRun_L29 (fun (I_18 : MI) (J_19 : MJ) => Q (1 : Int32) I_18 J_19) n  I_8 J_5))))
set_option maxRecDepth 100000 in
set_option maxHeartbeats 4000000 in
theorem c_X5_readRun {l : Launch} {E : EV} {ps : List (Nat × Nat)} (h11 : ∀ r, r < 11 → (11, r) ∈ ps) (hG : ∀ k r, k < 11 → r < 16 → (k, r) ∈ ps) {I : MI} {J : MJ} {Q : Int32 → MI → MJ → Prop} (hf : f_X5_readRun I J Q) : KI l yX5_readRun wsX5_readRun rmX5_readRun E ps [.ref (eA E 11 4)] I J Q := by
  refine K_ofI (cc := cX5_readRun) (maxL := 1) (ty := .boolean) (by decide +kernel) rfl (Nat.le_of_ble_eq_true rfl) (fun p e s m args below meth c Qm hret S hK hX => ?_)
  have hA : ∀ q, s.heap.size ≤ q → AA E ps s.heap.size q := fun _ h => Or.inr h
  have k1 := S.2.2.2.2 (.fieldLink RX5 41 "RhymeRoofs$SetupReader" "at" "I") (by decide +kernel)
  have iX5 : ∀ w ∈ wsX50, w ∈ wsX5_readRun := fun _ h => List.mem_cons_of_mem _ (List.mem_append_right _ h)
  have k2 := S.2.2.2.2 (.fieldLink RX5 85 "RhymeRoofs$SetupReader" "tokenStart" "I") (by decide +kernel)
  have k3 := S.2.2.2.2 (.fieldLink RX5 32 "RhymeRoofs$SetupReader" "end" "I") (by decide +kernel)
  have k4 := S.2.2.2.2 (.fieldLink RX5 22 "RhymeRoofs$SetupReader" "text" "[I") (by decide +kernel)
  intro H locs ls hP hD hS hl
  unfold f_X5_readRun at hf
  refine lv_aload_n S.1 S.2.1 dX5_readRun_0 rfl (lv_at hl 0 rfl) ?_
  refine R_cVi (As := []) (rest := []) S (c_X5_peek (h11 := h11) (hG := hG)  hf) gX5_readRun_X5_peek rfl yk_X5_peek ⟨⟨Nat.le_of_ble_eq_true rfl, Nat.le_of_ble_eq_true rfl⟩, rfl, rfl⟩ hK hP hD hS hX hA (h11 4 (by decide)) (cF_o E _ _ 4) rfl rfl hl.1 rfl (Nat.le_of_ble_eq_true rfl) ⟨Nat.zero_le _, Nat.zero_le _⟩ dX5_readRun_1 (fun v_3 I_1 J_2 H locs hf hP hD hS => ?_)
  refine R_cSi (As := [.int v_3]) (rest := []) S (c_X6_isLetter   hf) gX5_readRun_X6_isLetter rfl yk_X6_isLetter ⟨⟨Nat.le_of_ble_eq_true rfl, Nat.le_of_ble_eq_true rfl⟩, rfl, rfl⟩ hK hP hD hS hX hA rfl hl.1 rfl (Nat.le_of_ble_eq_true rfl) ⟨Nat.zero_le _, Nat.zero_le _⟩ dX5_readRun_4 (fun v_6 I_4 J_5 H locs hf hP hD hS => ?_)
  refine lv_if_ne (tgt := 21) S.1 S.2.1 dX5_readRun_7 (by decide) (fun h_7 => ?_) (fun h_7 => ?_)
  · have hf := hf.2 h_7
    refine lv_aload_n S.1 S.2.1 dX5_readRun_21 rfl (lv_at hl 0 rfl) ?_
    refine lv_aload_n S.1 S.2.1 dX5_readRun_22 rfl (lv_at hl 0 rfl) ?_
    refine gfX5_4 S iX5 hK hP (h11 4 (by decide)) k1 dX5_readRun_23 ?_
    refine nm_o hf (fun I_8 eI_8 hf => ?_)
    refine pfX5_7 S iX5 hK hP hD hS (h11 4 (by decide)) k2 dX5_readRun_26 eI_8 (fun H locs hP hD hS => ?_)
    obtain ⟨n_20, hf⟩ := hf
    have L29 : ∀ (K68 : MI → MJ → Prop), (∀ (I_18 : MI) (J_19 : MJ), K68 I_18 J_19 → Wj p l e (rmX5_readRun) s m args below meth c Qm E ps 1 I_18 J_19 68 [] []) → ∀ (n : Nat) (I_9 : MI) (J_10 : MJ), f_X5_readRun_L29 K68 n I_9 J_10 → Wj p l e (rmX5_readRun) s m args below meth c Qm E ps 1 I_9 J_10 29 [(0, .ref (eA E 11 4))] [] := by
      intro K68 kx68 n
      induction n with
      | zero => intro I_9 J_10 hf; exact hf.elim
      | succ n ih29 =>
        intro I_9 J_10 hf
        have hf : f_X5_readRun_B29 K68 (f_X5_readRun_L29 K68 n) I_9 J_10 := hf
        intro H locs ls hP hD hS hl
        unfold f_X5_readRun_B29 at hf
        refine lv_aload_n S.1 S.2.1 dX5_readRun_29 rfl (lv_at hl 0 rfl) ?_
        refine gfX5_4 S iX5 hK hP (h11 4 (by decide)) k1 dX5_readRun_30 ?_
        refine lv_aload_n S.1 S.2.1 dX5_readRun_33 rfl (lv_at hl 0 rfl) ?_
        refine gfX5_3 S iX5 hK hP (h11 4 (by decide)) k3 dX5_readRun_34 ?_
        refine lv_icmp_ge (tgt := 68) S.1 S.2.1 dX5_readRun_37 (by decide) (fun h_11 => ?_) (fun h_11 => ?_)
        · have hf := hf.1 h_11
          exact kx68 _ _ hf _ _ _ hP hD hS (lv_sub hl [] rfl)
        · have hf := hf.2 h_11
          refine lv_aload_n S.1 S.2.1 dX5_readRun_40 rfl (lv_at hl 0 rfl) ?_
          refine gfX5_2 S iX5 hK hP (h11 4 (by decide)) k4 dX5_readRun_41 ?_
          refine lv_aload_n S.1 S.2.1 dX5_readRun_44 rfl (lv_at hl 0 rfl) ?_
          refine gfX5_4 S iX5 hK hP (h11 4 (by decide)) k1 dX5_readRun_45 ?_
          obtain ⟨h_12, hf⟩ := hf
          refine R_iald S.1 S.2.1 hK hP (h11 5 (by decide)) (IAo5 E) h_12 dX5_readRun_48 ?_
          refine R_cSi (As := [.int (I_9 11 5 (I_9 11 4 4).toNatClampNeg)]) (rest := []) S (c_X6_isLetter   hf) gX5_readRun_X6_isLetter rfl yk_X6_isLetter ⟨⟨Nat.le_of_ble_eq_true rfl, Nat.le_of_ble_eq_true rfl⟩, rfl, rfl⟩ hK hP hD hS hX hA rfl hl.1 rfl (Nat.le_of_ble_eq_true rfl) ⟨Nat.zero_le _, Nat.zero_le _⟩ dX5_readRun_49 (fun v_15 I_13 J_14 H locs hf hP hD hS => ?_)
          refine lv_if_eq (tgt := 68) S.1 S.2.1 dX5_readRun_52 (by decide) (fun h_16 => ?_) (fun h_16 => ?_)
          · have hf := hf.1 h_16
            exact kx68 _ _ hf _ _ _ hP hD hS (lv_sub hl [] rfl)
          · have hf := hf.2 h_16
            refine lv_aload_n S.1 S.2.1 dX5_readRun_55 rfl (lv_at hl 0 rfl) ?_
            refine lv_dup S.1 S.2.1 dX5_readRun_56 rfl ?_
            refine gfX5_4 S iX5 hK hP (h11 4 (by decide)) k1 dX5_readRun_57 ?_
            refine lv_iconst (v := 1) S.1 S.2.1 dX5_readRun_60 rfl ?_
            refine lv_iadd S.1 S.2.1 dX5_readRun_61 ?_
            refine nm_o hf (fun I_17 eI_17 hf => ?_)
            refine pfX5_4 S iX5 hK hP hD hS (h11 4 (by decide)) k1 dX5_readRun_62 eI_17 (fun H locs hP hD hS => ?_)
            refine lv_goto (tgt := 29) S.1 S.2.1 dX5_readRun_65 (by decide) ?_
            exact ih29 _ _ hf _ _ _ hP hD hS (lv_sub hl [0] rfl)
    refine L29 _ (fun I_18 J_19 hf H locs ls hP hD hS hl => ?_)  n_20  _ _ hf _ _ _ hP hD hS (lv_sub hl [0] rfl)
    refine lv_iconst (v := 1) S.1 S.2.1 dX5_readRun_68 rfl ?_
    exact hret hf rfl hP hD hS dX5_readRun_69
  · have hf := hf.1 h_7
    refine lv_aload_n S.1 S.2.1 dX5_readRun_10 rfl (lv_at hl 0 rfl) ?_
    refine lv_bipush (v := (-2)) S.1 S.2.1 dX5_readRun_11 rfl ?_
    refine lv_aload_n S.1 S.2.1 dX5_readRun_13 rfl (lv_at hl 0 rfl) ?_
    refine gfX5_4 S iX5 hK hP (h11 4 (by decide)) k1 dX5_readRun_14 ?_
    refine R_cVi (As := [.int (-2 : Int32), .int (I_4 11 4 4)]) (rest := []) S (c_X5_fail (h11 := h11) (hG := hG)  hf) gX5_readRun_X5_fail rfl yk_X5_fail ⟨⟨Nat.le_of_ble_eq_true rfl, Nat.le_of_ble_eq_true rfl⟩, rfl, rfl⟩ hK hP hD hS hX hA (h11 4 (by decide)) (cF_o E _ _ 4) rfl rfl hl.1 rfl (Nat.le_of_ble_eq_true rfl) ⟨Nat.zero_le _, Nat.zero_le _⟩ dX5_readRun_17 (fun v_23 I_21 J_22 H locs hf hP hD hS => ?_)
    obtain ⟨h_24, hf⟩ := hf
    exact hret hf h_24.1 hP hD hS dX5_readRun_20
abbrev rmX5_runIs : Room := { frames := 4, cells := 0, slots := 0, locals := 85 }
theorem yk_X5_runIs : yOk yX5_runIs RX5 1 := by unfold yOk; decide +kernel
def f_X5_runIs_B20 (w : Nat) (K55 : MI → MJ → Prop) (K47 : MI → MJ → Prop) (rec20 : Int32 → MI → MJ → Prop) (x2_5 : Int32) (I_6 : MI) (J_7 : MJ) : Prop :=
  (((nI (sxL.getD w 0)) ≤ x2_5 → K55 I_6 J_7) ∧ (¬ (nI (sxL.getD w 0)) ≤ x2_5 → (vp_in ((I_6 11 4 7) + x2_5) 600 ∧ (vp_in x2_5 (sxL.getD w 0) ∧ (((I_6 11 5 ((I_6 11 4 7) + x2_5).toNatClampNeg) = (sxC w x2_5.toNatClampNeg) → ∀ x2_18 : Int32, x2_18 = x2_5 + (1 : Int32) → rec20 x2_18 I_6 J_7) ∧ (¬ (I_6 11 5 ((I_6 11 4 7) + x2_5).toNatClampNeg) = (sxC w x2_5.toNatClampNeg) → K47 I_6 J_7))))))
def f_X5_runIs_L20 (w : Nat) (K55 : MI → MJ → Prop) (K47 : MI → MJ → Prop) : Nat → Int32 → MI → MJ → Prop
  | 0, _, _, _ => False
  | n + 1, x2_5, I_6, J_7 => f_X5_runIs_B20 w K55 K47 (f_X5_runIs_L20 w K55 K47 n) x2_5 I_6 J_7
def f_X5_runIs (w : Nat) (I : MI) (J : MJ) (Q : Int32 → MI → MJ → Prop) : Prop :=
  ((((I 11 4 4) - (I 11 4 7)) = (nI (sxL.getD w 0)) → ∃ n : Nat, f_X5_runIs_L20 w (fun (I_19 : MI) (J_20 : MJ) => Q (1 : Int32) I_19 J_20) (fun (I_21 : MI) (J_22 : MJ) => Q (0 : Int32) I_21 J_22) n (0 : Int32) I J) ∧ (¬ ((I 11 4 4) - (I 11 4 7)) = (nI (sxL.getD w 0)) → Q (0 : Int32) I J))
set_option maxRecDepth 100000 in
set_option maxHeartbeats 4000000 in
theorem c_X5_runIs {l : Launch} {E : EV} {ps : List (Nat × Nat)} (h11 : ∀ r, r < 11 → (11, r) ∈ ps) (hG : ∀ k r, k < 11 → r < 16 → (k, r) ∈ ps) {w : Nat} (hw : w < 13) {I : MI} {J : MJ} {Q : Int32 → MI → MJ → Prop} (hf : f_X5_runIs w I J Q) : KI l yX5_runIs wsX5_runIs rmX5_runIs E ps [.ref (eA E 11 4), .ref (eK E w)] I J Q := by
  refine K_ofI (cc := cX5_runIs) (maxL := 3) (ty := .boolean) (by decide +kernel) rfl (Nat.le_of_ble_eq_true rfl) (fun p e s m args below meth c Qm hret S hK hX => ?_)
  have hA : ∀ q, s.heap.size ≤ q → AA E ps s.heap.size q := fun _ h => Or.inr h
  have k1 := S.2.2.2.2 (.fieldLink RX5 41 "RhymeRoofs$SetupReader" "at" "I") (by decide +kernel)
  have iX5 : ∀ w ∈ wsX50, w ∈ wsX5_runIs := fun _ h => List.mem_cons_of_mem _ (List.mem_append_right _ h)
  have k2 := S.2.2.2.2 (.fieldLink RX5 85 "RhymeRoofs$SetupReader" "tokenStart" "I") (by decide +kernel)
  have k3 := S.2.2.2.2 (.fieldLink RX5 22 "RhymeRoofs$SetupReader" "text" "[I") (by decide +kernel)
  intro H locs ls hP hD hS hl
  unfold f_X5_runIs at hf
  refine lv_aload_n S.1 S.2.1 dX5_runIs_0 rfl (lv_at hl 0 rfl) ?_
  refine gfX5_4 S iX5 hK hP (h11 4 (by decide)) k1 dX5_runIs_1 ?_
  refine lv_aload_n S.1 S.2.1 dX5_runIs_4 rfl (lv_at hl 0 rfl) ?_
  refine gfX5_7 S iX5 hK hP (h11 4 (by decide)) k2 dX5_runIs_5 ?_
  refine lv_isub S.1 S.2.1 dX5_runIs_8 ?_
  refine lv_aload_n S.1 S.2.1 dX5_runIs_9 rfl (lv_at hl 1 rfl) ?_
  refine R_cTi (As := []) (rest := [.int ((I 11 4 4) - (I 11 4 7))]) hw S (c_J0_length_8abf5 hw (Q := fun v I1 J1 => nI (sxL.getD w 0) = v ∧ I = I1 ∧ J = J1) ⟨rfl, rfl, rfl⟩) gX5_runIs_J0_length_8abf5 rfl yk_J0_length_8abf5 ⟨⟨Nat.le_of_ble_eq_true rfl, Nat.le_of_ble_eq_true rfl⟩, rfl, rfl⟩ hK hP hD hS hX hA rfl hl.1 rfl (Nat.le_of_ble_eq_true rfl) ⟨Nat.zero_le _, Nat.zero_le _⟩ dX5_runIs_10 (fun v_1 I_2 J_3 H locs hq hP hD hS => ?_)
  obtain ⟨rfl, rfl, rfl⟩ := hq
  refine lv_icmp_eq (tgt := 18) S.1 S.2.1 dX5_runIs_13 (by decide) (fun h_4 => ?_) (fun h_4 => ?_)
  · have hf := hf.1 h_4
    refine lv_iconst (v := 0) S.1 S.2.1 dX5_runIs_18 rfl ?_
    refine lv_istore_n (lv' := [(2, .int (0 : Int32)), (0, .ref (eA E 11 4)), (1, .ref (eK E w))]) S.1 S.2.1 dX5_runIs_19 rfl hl (by decide) rfl (fun ls hl => ?_)
    obtain ⟨n_23, hf⟩ := hf
    have L20 : ∀ (K55 : MI → MJ → Prop), ∀ (K47 : MI → MJ → Prop), (∀ (I_19 : MI) (J_20 : MJ), K55 I_19 J_20 → Wj p l e (rmX5_runIs) s m args below meth c Qm E ps 3 I_19 J_20 55 [] []) → (∀ (I_21 : MI) (J_22 : MJ), K47 I_21 J_22 → Wj p l e (rmX5_runIs) s m args below meth c Qm E ps 3 I_21 J_22 47 [] []) → ∀ (n : Nat) (x2_5 : Int32) (I_6 : MI) (J_7 : MJ), f_X5_runIs_L20 w K55 K47 n x2_5 I_6 J_7 → Wj p l e (rmX5_runIs) s m args below meth c Qm E ps 3 I_6 J_7 20 [(0, .ref (eA E 11 4)), (1, .ref (eK E w)), (2, .int x2_5)] [] := by
      intro K55 K47 kx55 kx47 n
      induction n with
      | zero => intro x2_5 I_6 J_7 hf; exact hf.elim
      | succ n ih20 =>
        intro x2_5 I_6 J_7 hf
        have hf : f_X5_runIs_B20 w K55 K47 (f_X5_runIs_L20 w K55 K47 n) x2_5 I_6 J_7 := hf
        intro H locs ls hP hD hS hl
        unfold f_X5_runIs_B20 at hf
        refine lv_iload_n S.1 S.2.1 dX5_runIs_20 rfl (lv_at hl 2 rfl) ?_
        refine lv_aload_n S.1 S.2.1 dX5_runIs_21 rfl (lv_at hl 1 rfl) ?_
        refine R_cTi (As := []) (rest := [.int x2_5]) hw S (c_J0_length_8abf5 hw (Q := fun v I1 J1 => nI (sxL.getD w 0) = v ∧ I_6 = I1 ∧ J_7 = J1) ⟨rfl, rfl, rfl⟩) gX5_runIs_J0_length_8abf5 rfl yk_J0_length_8abf5 ⟨⟨Nat.le_of_ble_eq_true rfl, Nat.le_of_ble_eq_true rfl⟩, rfl, rfl⟩ hK hP hD hS hX hA rfl hl.1 rfl (Nat.le_of_ble_eq_true rfl) ⟨Nat.zero_le _, Nat.zero_le _⟩ dX5_runIs_22 (fun v_8 I_9 J_10 H locs hq hP hD hS => ?_)
        obtain ⟨rfl, rfl, rfl⟩ := hq
        refine lv_icmp_ge (tgt := 55) S.1 S.2.1 dX5_runIs_25 (by decide) (fun h_11 => ?_) (fun h_11 => ?_)
        · have hf := hf.1 h_11
          exact kx55 _ _ hf _ _ _ hP hD hS (lv_sub hl [] rfl)
        · have hf := hf.2 h_11
          refine lv_aload_n S.1 S.2.1 dX5_runIs_28 rfl (lv_at hl 0 rfl) ?_
          refine gfX5_2 S iX5 hK hP (h11 4 (by decide)) k3 dX5_runIs_29 ?_
          refine lv_aload_n S.1 S.2.1 dX5_runIs_32 rfl (lv_at hl 0 rfl) ?_
          refine gfX5_7 S iX5 hK hP (h11 4 (by decide)) k2 dX5_runIs_33 ?_
          refine lv_iload_n S.1 S.2.1 dX5_runIs_36 rfl (lv_at hl 2 rfl) ?_
          refine lv_iadd S.1 S.2.1 dX5_runIs_37 ?_
          obtain ⟨h_12, hf⟩ := hf
          refine R_iald S.1 S.2.1 hK hP (h11 5 (by decide)) (IAo5 E) h_12 dX5_runIs_38 ?_
          refine lv_aload_n S.1 S.2.1 dX5_runIs_39 rfl (lv_at hl 1 rfl) ?_
          refine lv_iload_n S.1 S.2.1 dX5_runIs_40 rfl (lv_at hl 2 rfl) ?_
          obtain ⟨h_13, hf⟩ := hf
          refine R_cTi (As := [.int x2_5]) (rest := [.int (I_6 11 5 ((I_6 11 4 7) + x2_5).toNatClampNeg)]) hw S (c_charAt hw h_13 (Q := fun v I1 J1 => sxC w x2_5.toNatClampNeg = v ∧ I_6 = I1 ∧ J_7 = J1) ⟨rfl, rfl, rfl⟩) gX5_runIs_J0_charAt_5068e rfl yk_J0_charAt_5068e ⟨⟨Nat.le_of_ble_eq_true rfl, Nat.le_of_ble_eq_true rfl⟩, rfl, rfl⟩ hK hP hD hS hX hA rfl hl.1 rfl (Nat.le_of_ble_eq_true rfl) ⟨Nat.zero_le _, Nat.zero_le _⟩ dX5_runIs_41 (fun v_14 I_15 J_16 H locs hq hP hD hS => ?_)
          obtain ⟨rfl, rfl, rfl⟩ := hq
          refine lv_icmp_eq (tgt := 49) S.1 S.2.1 dX5_runIs_44 (by decide) (fun h_17 => ?_) (fun h_17 => ?_)
          · have hf := hf.1 h_17
            refine nm_o hf (fun x2_18 ex2_18 hf => ?_)
            refine lv_iinc (v := x2_18) (lv' := [(2, .int x2_18), (0, .ref (eA E 11 4)), (1, .ref (eK E w))]) S.1 S.2.1 dX5_runIs_49 hl (k := 2) rfl (by rw [ex2_18]; rfl) (by decide) rfl (fun ls hl => ?_)
            refine lv_goto (tgt := 20) S.1 S.2.1 dX5_runIs_52 (by decide) ?_
            exact ih20 _ _ _ hf _ _ _ hP hD hS (lv_sub hl [1, 2, 0] rfl)
          · have hf := hf.2 h_17
            exact kx47 _ _ hf _ _ _ hP hD hS (lv_sub hl [] rfl)
    refine L20 _ _ (fun I_19 J_20 hf H locs ls hP hD hS hl => ?_) (fun I_21 J_22 hf H locs ls hP hD hS hl => ?_)  n_23 _ _ _ hf _ _ _ hP hD hS (lv_sub hl [1, 2, 0] rfl)
    · refine lv_iconst (v := 1) S.1 S.2.1 dX5_runIs_55 rfl ?_
      exact hret hf rfl hP hD hS dX5_runIs_56
    · refine lv_iconst (v := 0) S.1 S.2.1 dX5_runIs_47 rfl ?_
      exact hret hf rfl hP hD hS dX5_runIs_48
  · have hf := hf.2 h_4
    refine lv_iconst (v := 0) S.1 S.2.1 dX5_runIs_16 rfl ?_
    exact hret hf rfl hP hD hS dX5_runIs_17
abbrev rmX5_readRows : Room := { frames := 2, cells := 0, slots := 0, locals := 86 }
theorem yk_X5_readRows : yOk yX5_readRows RX5 0 := by unfold yOk; decide +kernel
def f_X5_readRows_J35 (K96 : MI → MJ → Prop) (K45 : MI → MJ → Prop) (K56 : MI → MJ → Prop) (rec15 : Int32 → MI → MJ → Prop) (x2_7 : Int32) (I_8 : MI) (J_9 : MJ) : Prop :=
  f_X5_readNumber (1 : Int32) (40 : Int32) I_8 J_9 (fun (v_12 : Int32) (I_10 : MI) (J_11 : MJ) => ((v_12 = (0 : Int32) → K45 I_10 J_11) ∧ (¬ v_12 = (0 : Int32) → (((I_10 10 1 3) < (6 : Int32) → (vp_in (I_10 10 1 3) 6 ∧ ∀ I_16 : MI, I_16 = sI I_10 10 3 (I_10 10 1 3).toNatClampNeg (I_10 11 4 6) → ∀ I_17 : MI, I_17 = sI I_16 10 1 3 ((I_16 10 1 3) + (1 : Int32)) → ∀ x2_18 : Int32, x2_18 = x2_7 + (1 : Int32) → rec15 x2_18 I_17 J_11)) ∧ (¬ (I_10 10 1 3) < (6 : Int32) → K56 I_10 J_11)))))
def f_X5_readRows_B15 (K96 : MI → MJ → Prop) (K45 : MI → MJ → Prop) (K56 : MI → MJ → Prop) (rec15 : Int32 → MI → MJ → Prop) (x2_2 : Int32) (I_3 : MI) (J_4 : MJ) : Prop :=
  (((6 : Int32) < x2_2 → K96 I_3 J_4) ∧ (¬ (6 : Int32) < x2_2 → ((x2_2 = (0 : Int32) → f_X5_readRows_J35 K96 K45 K56 rec15 x2_2 I_3 J_4) ∧ (¬ x2_2 = (0 : Int32) → f_X5_peek I_3 J_4 (fun (v_21 : Int32) (I_19 : MI) (J_20 : MJ) => f_X5_isDigit v_21 I_19 J_20 (fun (v_24 : Int32) (I_22 : MI) (J_23 : MJ) => ((v_24 = (0 : Int32) → K96 I_22 J_23) ∧ (¬ v_24 = (0 : Int32) → f_X5_readRows_J35 K96 K45 K56 rec15 x2_2 I_22 J_23))))))))
def f_X5_readRows_L15 (K96 : MI → MJ → Prop) (K45 : MI → MJ → Prop) (K56 : MI → MJ → Prop) : Nat → Int32 → MI → MJ → Prop
  | 0, _, _, _ => False
  | n + 1, x2_2, I_3, J_4 => f_X5_readRows_B15 K96 K45 K56 (f_X5_readRows_L15 K96 K45 K56 n) x2_2 I_3 J_4
def f_X5_readRows (I : MI) (J : MJ) (Q : Int32 → MI → MJ → Prop) : Prop :=
  ∀ I_1 : MI, I_1 = sI I 10 1 3 (0 : Int32) → ∃ n : Nat, f_X5_readRows_L15 (fun (I_26 : MI) (J_27 : MJ) => Q (1 : Int32) I_26 J_27) (fun (I_28 : MI) (J_29 : MJ) => Q (0 : Int32) I_28 J_29) (fun (I_30 : MI) (J_31 : MJ) => f_X5_fail (-5 : Int32) (I_30 11 4 7) I_30 J_31 (fun (v_34 : Int32) (I_32 : MI) (J_33 : MJ) => (bo v_34 ∧ Q v_34 I_32 J_33))) n (0 : Int32) I_1 J
set_option maxRecDepth 100000 in
set_option maxHeartbeats 4000000 in
theorem c_X5_readRows {l : Launch} {E : EV} {ps : List (Nat × Nat)} (h11 : ∀ r, r < 11 → (11, r) ∈ ps) (hG : ∀ k r, k < 11 → r < 16 → (k, r) ∈ ps) {I : MI} {J : MJ} {Q : Int32 → MI → MJ → Prop} (hf : f_X5_readRows I J Q) : KI l yX5_readRows wsX5_readRows rmX5_readRows E ps [.ref (eA E 11 4)] I J Q := by
  refine K_ofI (cc := cX5_readRows) (maxL := 3) (ty := .boolean) (by decide +kernel) rfl (Nat.le_of_ble_eq_true rfl) (fun p e s m args below meth c Qm hret S hK hX => ?_)
  have hA : ∀ q, s.heap.size ≤ q → AA E ps s.heap.size q := fun _ h => Or.inr h
  have k1 := S.2.2.2.2 (.fieldLink RX5 12 "RhymeRoofs$SetupReader" "game" "LRhymeRoofs$Game;") (by decide +kernel)
  have iX5 : ∀ w ∈ wsX50, w ∈ wsX5_readRows := fun _ h => List.mem_cons_of_mem _ (List.mem_append_left _ (List.mem_append_left _ (List.mem_append_right _ h)))
  have k2 := S.2.2.2.2 (.fieldLink RX5 115 "RhymeRoofs$Game" "rules" "LRhymeRoofs$Rules;") (by decide +kernel)
  have iX1 : ∀ w ∈ wsX10, w ∈ wsX5_readRows := fun _ h => List.mem_cons_of_mem _ (List.mem_append_left _ (List.mem_append_right _ h))
  have k3 := S.2.2.2.2 (.fieldLink RX5 119 "RhymeRoofs$Rules" "rows" "I") (by decide +kernel)
  have iX4 : ∀ w ∈ wsX40, w ∈ wsX5_readRows := fun _ h => List.mem_cons_of_mem _ (List.mem_append_right _ h)
  have k4 := S.2.2.2.2 (.fieldLink RX5 127 "RhymeRoofs$Rules" "tiles" "[I") (by decide +kernel)
  have k5 := S.2.2.2.2 (.fieldLink RX5 88 "RhymeRoofs$SetupReader" "number" "I") (by decide +kernel)
  have k6 := S.2.2.2.2 (.fieldLink RX5 85 "RhymeRoofs$SetupReader" "tokenStart" "I") (by decide +kernel)
  intro H locs ls hP hD hS hl
  unfold f_X5_readRows at hf
  refine lv_aload_n S.1 S.2.1 dX5_readRows_0 rfl (lv_at hl 0 rfl) ?_
  refine gfX5_0 S iX5 hK hP (h11 4 (by decide)) k1 dX5_readRows_1 ?_
  refine gfX1_0 S iX1 hK hP (by decide) ((fun r => hG 10 r (by decide)) 0 (by decide)) k2 dX5_readRows_4 ?_
  refine lv_astore_n (lv' := [(1, .ref (eA E 10 1)), (0, .ref (eA E 11 4))]) S.1 S.2.1 dX5_readRows_7 rfl hl (by decide) rfl (fun ls hl => ?_)
  refine lv_aload_n S.1 S.2.1 dX5_readRows_8 rfl (lv_at hl 0 rfl) ?_
  refine lv_iconst (v := 0) S.1 S.2.1 dX5_readRows_9 rfl ?_
  refine nm_o hf (fun I_1 eI_1 hf => ?_)
  refine pfX4_3 S iX4 hK hP hD hS (by decide) ((fun r => hG 10 r (by decide)) 1 (by decide)) k3 dX5_readRows_10 eI_1 (fun H locs hP hD hS => ?_)
  refine lv_iconst (v := 0) S.1 S.2.1 dX5_readRows_13 rfl ?_
  refine lv_istore_n (lv' := [(2, .int (0 : Int32)), (1, .ref (eA E 10 1)), (0, .ref (eA E 11 4))]) S.1 S.2.1 dX5_readRows_14 rfl hl (by decide) rfl (fun ls hl => ?_)
  obtain ⟨n_36, hf⟩ := hf
  have L15 : ∀ (K96 : MI → MJ → Prop), ∀ (K45 : MI → MJ → Prop), ∀ (K56 : MI → MJ → Prop), (∀ (I_26 : MI) (J_27 : MJ), K96 I_26 J_27 → Wj p l e (rmX5_readRows) s m args below meth c Qm E ps 3 I_26 J_27 96 [] []) → (∀ (I_28 : MI) (J_29 : MJ), K45 I_28 J_29 → Wj p l e (rmX5_readRows) s m args below meth c Qm E ps 3 I_28 J_29 45 [] []) → (∀ (I_30 : MI) (J_31 : MJ), K56 I_30 J_31 → Wj p l e (rmX5_readRows) s m args below meth c Qm E ps 3 I_30 J_31 56 [(0, .ref (eA E 11 4))] []) → ∀ (n : Nat) (x2_2 : Int32) (I_3 : MI) (J_4 : MJ), f_X5_readRows_L15 K96 K45 K56 n x2_2 I_3 J_4 → Wj p l e (rmX5_readRows) s m args below meth c Qm E ps 3 I_3 J_4 15 [(0, .ref (eA E 11 4)), (1, .ref (eA E 10 1)), (2, .int x2_2)] [] := by
    intro K96 K45 K56 kx96 kx45 kx56 n
    induction n with
    | zero => intro x2_2 I_3 J_4 hf; exact hf.elim
    | succ n ih15 =>
      intro x2_2 I_3 J_4 hf
      have hf : f_X5_readRows_B15 K96 K45 K56 (f_X5_readRows_L15 K96 K45 K56 n) x2_2 I_3 J_4 := hf
      have jn35 : ∀ (x2_7 : Int32) (I_8 : MI) (J_9 : MJ), f_X5_readRows_J35 K96 K45 K56 (f_X5_readRows_L15 K96 K45 K56 n) x2_7 I_8 J_9 → Wj p l e (rmX5_readRows) s m args below meth c Qm E ps 3 I_8 J_9 35 [(0, .ref (eA E 11 4)), (1, .ref (eA E 10 1)), (2, .int x2_7)] [] := by
        intro x2_7 I_8 J_9 hf H locs ls hP hD hS hl
        unfold f_X5_readRows_J35 at hf
        refine lv_aload_n S.1 S.2.1 dX5_readRows_35 rfl (lv_at hl 0 rfl) ?_
        refine lv_iconst (v := 1) S.1 S.2.1 dX5_readRows_36 rfl ?_
        refine lv_bipush (v := 40) S.1 S.2.1 dX5_readRows_37 rfl ?_
        refine R_cVi (As := [.int (1 : Int32), .int (40 : Int32)]) (rest := []) S (c_X5_readNumber (h11 := h11) (hG := hG)  hf) gX5_readRows_X5_readNumber rfl yk_X5_readNumber ⟨⟨Nat.le_of_ble_eq_true rfl, Nat.le_of_ble_eq_true rfl⟩, rfl, rfl⟩ hK hP hD hS hX hA (h11 4 (by decide)) (cF_o E _ _ 4) rfl rfl hl.1 rfl (Nat.le_of_ble_eq_true rfl) ⟨Nat.zero_le _, Nat.zero_le _⟩ dX5_readRows_39 (fun v_12 I_10 J_11 H locs hf hP hD hS => ?_)
        refine lv_if_ne (tgt := 47) S.1 S.2.1 dX5_readRows_42 (by decide) (fun h_13 => ?_) (fun h_13 => ?_)
        · have hf := hf.2 h_13
          refine lv_aload_n S.1 S.2.1 dX5_readRows_47 rfl (lv_at hl 1 rfl) ?_
          refine gfX4_3 S iX4 hK hP (by decide) ((fun r => hG 10 r (by decide)) 1 (by decide)) k3 dX5_readRows_48 ?_
          refine lv_bipush (v := 6) S.1 S.2.1 dX5_readRows_51 rfl ?_
          refine lv_icmp_lt (tgt := 67) S.1 S.2.1 dX5_readRows_53 (by decide) (fun h_14 => ?_) (fun h_14 => ?_)
          · have hf := hf.1 h_14
            refine lv_aload_n S.1 S.2.1 dX5_readRows_67 rfl (lv_at hl 1 rfl) ?_
            refine gfX4_0 S iX4 hK hP (by decide) ((fun r => hG 10 r (by decide)) 1 (by decide)) k4 dX5_readRows_68 ?_
            refine lv_aload_n S.1 S.2.1 dX5_readRows_71 rfl (lv_at hl 1 rfl) ?_
            refine gfX4_3 S iX4 hK hP (by decide) ((fun r => hG 10 r (by decide)) 1 (by decide)) k3 dX5_readRows_72 ?_
            refine lv_aload_n S.1 S.2.1 dX5_readRows_75 rfl (lv_at hl 0 rfl) ?_
            refine gfX5_6 S iX5 hK hP (h11 4 (by decide)) k5 dX5_readRows_76 ?_
            obtain ⟨h_15, hf⟩ := hf
            refine nm_o hf (fun I_16 eI_16 hf => ?_)
            refine R_iast S.1 S.2.1 hK hP hD hS ((fun r => hG 10 r (by decide)) 3 (by decide)) (IAg3 E (by decide)) h_15 dX5_readRows_79 eI_16 (fun H locs hP hD hS => ?_)
            refine lv_aload_n S.1 S.2.1 dX5_readRows_80 rfl (lv_at hl 1 rfl) ?_
            refine lv_dup S.1 S.2.1 dX5_readRows_81 rfl ?_
            refine gfX4_3 S iX4 hK hP (by decide) ((fun r => hG 10 r (by decide)) 1 (by decide)) k3 dX5_readRows_82 ?_
            refine lv_iconst (v := 1) S.1 S.2.1 dX5_readRows_85 rfl ?_
            refine lv_iadd S.1 S.2.1 dX5_readRows_86 ?_
            refine nm_o hf (fun I_17 eI_17 hf => ?_)
            refine pfX4_3 S iX4 hK hP hD hS (by decide) ((fun r => hG 10 r (by decide)) 1 (by decide)) k3 dX5_readRows_87 eI_17 (fun H locs hP hD hS => ?_)
            refine nm_o hf (fun x2_18 ex2_18 hf => ?_)
            refine lv_iinc (v := x2_18) (lv' := [(2, .int x2_18), (0, .ref (eA E 11 4)), (1, .ref (eA E 10 1))]) S.1 S.2.1 dX5_readRows_90 hl (k := 2) rfl (by rw [ex2_18]; rfl) (by decide) rfl (fun ls hl => ?_)
            refine lv_goto (tgt := 15) S.1 S.2.1 dX5_readRows_93 (by decide) ?_
            exact ih15 _ _ _ hf _ _ _ hP hD hS (lv_sub hl [1, 2, 0] rfl)
          · have hf := hf.2 h_14
            exact kx56 _ _ hf _ _ _ hP hD hS (lv_sub hl [0] rfl)
        · have hf := hf.1 h_13
          exact kx45 _ _ hf _ _ _ hP hD hS (lv_sub hl [] rfl)
      intro H locs ls hP hD hS hl
      unfold f_X5_readRows_B15 at hf
      refine lv_iload_n S.1 S.2.1 dX5_readRows_15 rfl (lv_at hl 2 rfl) ?_
      refine lv_bipush (v := 6) S.1 S.2.1 dX5_readRows_16 rfl ?_
      refine lv_icmp_gt (tgt := 96) S.1 S.2.1 dX5_readRows_18 (by decide) (fun h_5 => ?_) (fun h_5 => ?_)
      · have hf := hf.1 h_5
        exact kx96 _ _ hf _ _ _ hP hD hS (lv_sub hl [] rfl)
      · have hf := hf.2 h_5
        refine lv_iload_n S.1 S.2.1 dX5_readRows_21 rfl (lv_at hl 2 rfl) ?_
        refine lv_if_eq (tgt := 35) S.1 S.2.1 dX5_readRows_22 (by decide) (fun h_6 => ?_) (fun h_6 => ?_)
        · have hf := hf.1 h_6
          exact jn35 _ _ _ hf _ _ _ hP hD hS (lv_sub hl [0, 1, 2] rfl)
        · have hf := hf.2 h_6
          refine lv_aload_n S.1 S.2.1 dX5_readRows_25 rfl (lv_at hl 0 rfl) ?_
          refine R_cVi (As := []) (rest := []) S (c_X5_peek (h11 := h11) (hG := hG)  hf) gX5_readRows_X5_peek rfl yk_X5_peek ⟨⟨Nat.le_of_ble_eq_true rfl, Nat.le_of_ble_eq_true rfl⟩, rfl, rfl⟩ hK hP hD hS hX hA (h11 4 (by decide)) (cF_o E _ _ 4) rfl rfl hl.1 rfl (Nat.le_of_ble_eq_true rfl) ⟨Nat.zero_le _, Nat.zero_le _⟩ dX5_readRows_26 (fun v_21 I_19 J_20 H locs hf hP hD hS => ?_)
          refine R_cSi (As := [.int v_21]) (rest := []) S (c_X5_isDigit   hf) gX5_readRows_X5_isDigit rfl yk_X5_isDigit ⟨⟨Nat.le_of_ble_eq_true rfl, Nat.le_of_ble_eq_true rfl⟩, rfl, rfl⟩ hK hP hD hS hX hA rfl hl.1 rfl (Nat.le_of_ble_eq_true rfl) ⟨Nat.zero_le _, Nat.zero_le _⟩ dX5_readRows_29 (fun v_24 I_22 J_23 H locs hf hP hD hS => ?_)
          refine lv_if_eq (tgt := 96) S.1 S.2.1 dX5_readRows_32 (by decide) (fun h_25 => ?_) (fun h_25 => ?_)
          · have hf := hf.1 h_25
            exact kx96 _ _ hf _ _ _ hP hD hS (lv_sub hl [] rfl)
          · have hf := hf.2 h_25
            exact jn35 _ _ _ hf _ _ _ hP hD hS (lv_sub hl [0, 1, 2] rfl)
  refine L15 _ _ _ (fun I_26 J_27 hf H locs ls hP hD hS hl => ?_) (fun I_28 J_29 hf H locs ls hP hD hS hl => ?_) (fun I_30 J_31 hf H locs ls hP hD hS hl => ?_)  n_36 _ _ _ hf _ _ _ hP hD hS (lv_sub hl [2, 1, 0] rfl)
  · refine lv_iconst (v := 1) S.1 S.2.1 dX5_readRows_96 rfl ?_
    exact hret hf rfl hP hD hS dX5_readRows_97
  · refine lv_iconst (v := 0) S.1 S.2.1 dX5_readRows_45 rfl ?_
    exact hret hf rfl hP hD hS dX5_readRows_46
  · refine lv_aload_n S.1 S.2.1 dX5_readRows_56 rfl (lv_at hl 0 rfl) ?_
    refine lv_bipush (v := (-5)) S.1 S.2.1 dX5_readRows_57 rfl ?_
    refine lv_aload_n S.1 S.2.1 dX5_readRows_59 rfl (lv_at hl 0 rfl) ?_
    refine gfX5_7 S iX5 hK hP (h11 4 (by decide)) k6 dX5_readRows_60 ?_
    refine R_cVi (As := [.int (-5 : Int32), .int (I_30 11 4 7)]) (rest := []) S (c_X5_fail (h11 := h11) (hG := hG)  hf) gX5_readRows_X5_fail rfl yk_X5_fail ⟨⟨Nat.le_of_ble_eq_true rfl, Nat.le_of_ble_eq_true rfl⟩, rfl, rfl⟩ hK hP hD hS hX hA (h11 4 (by decide)) (cF_o E _ _ 4) rfl rfl hl.1 rfl (Nat.le_of_ble_eq_true rfl) ⟨Nat.zero_le _, Nat.zero_le _⟩ dX5_readRows_63 (fun v_34 I_32 J_33 H locs hf hP hD hS => ?_)
    obtain ⟨h_35, hf⟩ := hf
    exact hret hf h_35.1 hP hD hS dX5_readRows_66
