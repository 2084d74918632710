abbrev rmX5_fail : Room := { frames := 0, cells := 0, slots := 0, locals := 0 }
theorem yk_X5_fail : yOk yX5_fail RX5 2 := by unfold yOk; decide +kernel
def f_X5_fail (x1 : Int32) (x2 : Int32) (I : MI) (J : MJ) (Q : Int32 → MI → MJ → Prop) : Prop :=
  ∀ I_1 : MI, I_1 = sI I 11 4 5 x1 → ∀ I_2 : MI, I_2 = sI I_1 11 4 1 x2 → Q (0 : Int32) I_2 J
set_option maxRecDepth 100000 in
set_option maxHeartbeats 4000000 in
theorem c_X5_fail {l : Launch} {E : EV} {ps : List (Nat × Nat)} (h11 : ∀ r, r < 11 → (11, r) ∈ ps) (hG : ∀ k r, k < 11 → r < 16 → (k, r) ∈ ps) {x1 : Int32} {x2 : Int32} {I : MI} {J : MJ} {Q : Int32 → MI → MJ → Prop} (hf : f_X5_fail x1 x2 I J Q) : KI l yX5_fail wsX5_fail rmX5_fail E ps [.ref (eA E 11 4), .int x1, .int x2] I J Q := by
  refine K_ofI (cc := cX5_fail) (maxL := 3) (ty := .boolean) (by decide +kernel) rfl (Nat.le_of_ble_eq_true rfl) (fun p e s m args below meth c Qm hret S hK hX => ?_)
  have hA : ∀ q, s.heap.size ≤ q → AA E ps s.heap.size q := fun _ h => Or.inr h
  have k1 := S.2.2.2.2 (.fieldLink RX5 44 "RhymeRoofs$SetupReader" "error" "I") (by decide +kernel)
  have iX5 : ∀ w ∈ wsX50, w ∈ wsX5_fail := fun _ h => List.mem_cons_of_mem _ (List.mem_append_right _ h)
  have k2 := S.2.2.2.2 (.fieldLink RX5 18 "RhymeRoofs$SetupReader" "errorAt" "I") (by decide +kernel)
  intro H locs ls hP hD hS hl
  unfold f_X5_fail at hf
  refine lv_aload_n S.1 S.2.1 dX5_fail_0 rfl (lv_at hl 0 rfl) ?_
  refine lv_iload_n S.1 S.2.1 dX5_fail_1 rfl (lv_at hl 1 rfl) ?_
  refine nm_o hf (fun I_1 eI_1 hf => ?_)
  refine pfX5_5 S iX5 hK hP hD hS (h11 4 (by decide)) k1 dX5_fail_2 eI_1 (fun H locs hP hD hS => ?_)
  refine lv_aload_n S.1 S.2.1 dX5_fail_5 rfl (lv_at hl 0 rfl) ?_
  refine lv_iload_n S.1 S.2.1 dX5_fail_6 rfl (lv_at hl 2 rfl) ?_
  refine nm_o hf (fun I_2 eI_2 hf => ?_)
  refine pfX5_1 S iX5 hK hP hD hS (h11 4 (by decide)) k2 dX5_fail_7 eI_2 (fun H locs hP hD hS => ?_)
  refine lv_iconst (v := 0) S.1 S.2.1 dX5_fail_10 rfl ?_
  exact hret hf rfl hP hD hS dX5_fail_11
abbrev rmX5_peek : Room := { frames := 0, cells := 0, slots := 0, locals := 0 }
theorem yk_X5_peek : yOk yX5_peek RX5 0 := by unfold yOk; decide +kernel
def f_X5_peek_B0 (K38 : MI → MJ → Prop) (rec0 : MI → MJ → Prop) (I_1 : MI) (J_2 : MJ) : Prop :=
  (((I_1 11 4 3) ≤ (I_1 11 4 4) → K38 I_1 J_2) ∧ (¬ (I_1 11 4 3) ≤ (I_1 11 4 4) → (vp_in (I_1 11 4 4) 600 ∧ (((I_1 11 5 (I_1 11 4 4).toNatClampNeg) = (32 : Int32) → ∀ I_6 : MI, I_6 = sI I_1 11 4 4 ((I_1 11 4 4) + (1 : Int32)) → rec0 I_6 J_2) ∧ (¬ (I_1 11 5 (I_1 11 4 4).toNatClampNeg) = (32 : Int32) → K38 I_1 J_2)))))
def f_X5_peek_L0 (K38 : MI → MJ → Prop) : Nat → MI → MJ → Prop
  | 0, _, _ => False
  | n + 1, I_1, J_2 => f_X5_peek_B0 K38 (f_X5_peek_L0 K38 n) I_1 J_2
def f_X5_peek_J38 (Q : Int32 → MI → MJ → Prop) (I_9 : MI) (J_10 : MJ) : Prop :=
  (((I_9 11 4 3) ≤ (I_9 11 4 4) → Q (-1 : Int32) I_9 J_10) ∧ (¬ (I_9 11 4 3) ≤ (I_9 11 4 4) → (vp_in (I_9 11 4 4) 600 ∧ Q (I_9 11 5 (I_9 11 4 4).toNatClampNeg) I_9 J_10)))
def f_X5_peek (I : MI) (J : MJ) (Q : Int32 → MI → MJ → Prop) : Prop :=
  ∃ n : Nat, f_X5_peek_L0 (fun (I_7 : MI) (J_8 : MJ) => f_X5_peek_J38 Q I_7 J_8) n  I J
set_option maxRecDepth 100000 in
set_option maxHeartbeats 4000000 in
theorem c_X5_peek {l : Launch} {E : EV} {ps : List (Nat × Nat)} (h11 : ∀ r, r < 11 → (11, r) ∈ ps) (hG : ∀ k r, k < 11 → r < 16 → (k, r) ∈ ps) {I : MI} {J : MJ} {Q : Int32 → MI → MJ → Prop} (hf : f_X5_peek I J Q) : KI l yX5_peek wsX5_peek rmX5_peek E ps [.ref (eA E 11 4)] I J Q := by
  refine K_ofI (cc := cX5_peek) (maxL := 1) (ty := .int) (by decide +kernel) rfl (Nat.le_of_ble_eq_true rfl) (fun p e s m args below meth c Qm hret S hK hX => ?_)
  have hA : ∀ q, s.heap.size ≤ q → AA E ps s.heap.size q := fun _ h => Or.inr h
  have k1 := S.2.2.2.2 (.fieldLink RX5 41 "RhymeRoofs$SetupReader" "at" "I") (by decide +kernel)
  have iX5 : ∀ w ∈ wsX50, w ∈ wsX5_peek := fun _ h => List.mem_cons_of_mem _ (List.mem_append_right _ h)
  have k2 := S.2.2.2.2 (.fieldLink RX5 32 "RhymeRoofs$SetupReader" "end" "I") (by decide +kernel)
  have k3 := S.2.2.2.2 (.fieldLink RX5 22 "RhymeRoofs$SetupReader" "text" "[I") (by decide +kernel)
  have jn38 : ∀ (I_9 : MI) (J_10 : MJ), f_X5_peek_J38 Q I_9 J_10 → Wj p l e (rmX5_peek) s m args below meth c Qm E ps 1 I_9 J_10 38 [(0, .ref (eA E 11 4))] [] := by
    intro I_9 J_10 hf H locs ls hP hD hS hl
    unfold f_X5_peek_J38 at hf
    refine lv_aload_n S.1 S.2.1 dX5_peek_38 rfl (lv_at hl 0 rfl) ?_
    refine gfX5_4 S iX5 hK hP (h11 4 (by decide)) k1 dX5_peek_39 ?_
    refine lv_aload_n S.1 S.2.1 dX5_peek_42 rfl (lv_at hl 0 rfl) ?_
    refine gfX5_3 S iX5 hK hP (h11 4 (by decide)) k2 dX5_peek_43 ?_
    refine lv_icmp_ge (tgt := 61) S.1 S.2.1 dX5_peek_46 (by decide) (fun h_11 => ?_) (fun h_11 => ?_)
    · have hf := hf.1 h_11
      refine lv_iconst (v := (-1)) S.1 S.2.1 dX5_peek_61 rfl ?_
      exact hret hf rfl hP hD hS dX5_peek_62
    · have hf := hf.2 h_11
      refine lv_aload_n S.1 S.2.1 dX5_peek_49 rfl (lv_at hl 0 rfl) ?_
      refine gfX5_2 S iX5 hK hP (h11 4 (by decide)) k3 dX5_peek_50 ?_
      refine lv_aload_n S.1 S.2.1 dX5_peek_53 rfl (lv_at hl 0 rfl) ?_
      refine gfX5_4 S iX5 hK hP (h11 4 (by decide)) k1 dX5_peek_54 ?_
      obtain ⟨h_12, hf⟩ := hf
      refine R_iald S.1 S.2.1 hK hP (h11 5 (by decide)) (IAo5 E) h_12 dX5_peek_57 ?_
      refine lv_goto (tgt := 62) S.1 S.2.1 dX5_peek_58 (by decide) ?_
      exact hret hf rfl hP hD hS dX5_peek_62
  intro H locs ls hP hD hS hl
  unfold f_X5_peek at hf
  obtain ⟨n_13, hf⟩ := hf
  have L0 : ∀ (K38 : MI → MJ → Prop), (∀ (I_7 : MI) (J_8 : MJ), K38 I_7 J_8 → Wj p l e (rmX5_peek) s m args below meth c Qm E ps 1 I_7 J_8 38 [(0, .ref (eA E 11 4))] []) → ∀ (n : Nat) (I_1 : MI) (J_2 : MJ), f_X5_peek_L0 K38 n I_1 J_2 → Wj p l e (rmX5_peek) s m args below meth c Qm E ps 1 I_1 J_2 0 [(0, .ref (eA E 11 4))] [] := by
    intro K38 kx38 n
    induction n with
    | zero => intro I_1 J_2 hf; exact hf.elim
    | succ n ih0 =>
      intro I_1 J_2 hf
      have hf : f_X5_peek_B0 K38 (f_X5_peek_L0 K38 n) I_1 J_2 := hf
      intro H locs ls hP hD hS hl
      unfold f_X5_peek_B0 at hf
      refine lv_aload_n S.1 S.2.1 dX5_peek_0 rfl (lv_at hl 0 rfl) ?_
      refine gfX5_4 S iX5 hK hP (h11 4 (by decide)) k1 dX5_peek_1 ?_
      refine lv_aload_n S.1 S.2.1 dX5_peek_4 rfl (lv_at hl 0 rfl) ?_
      refine gfX5_3 S iX5 hK hP (h11 4 (by decide)) k2 dX5_peek_5 ?_
      refine lv_icmp_ge (tgt := 38) S.1 S.2.1 dX5_peek_8 (by decide) (fun h_3 => ?_) (fun h_3 => ?_)
      · have hf := hf.1 h_3
        exact kx38 _ _ hf _ _ _ hP hD hS (lv_sub hl [0] rfl)
      · have hf := hf.2 h_3
        refine lv_aload_n S.1 S.2.1 dX5_peek_11 rfl (lv_at hl 0 rfl) ?_
        refine gfX5_2 S iX5 hK hP (h11 4 (by decide)) k3 dX5_peek_12 ?_
        refine lv_aload_n S.1 S.2.1 dX5_peek_15 rfl (lv_at hl 0 rfl) ?_
        refine gfX5_4 S iX5 hK hP (h11 4 (by decide)) k1 dX5_peek_16 ?_
        obtain ⟨h_4, hf⟩ := hf
        refine R_iald S.1 S.2.1 hK hP (h11 5 (by decide)) (IAo5 E) h_4 dX5_peek_19 ?_
        refine lv_bipush (v := 32) S.1 S.2.1 dX5_peek_20 rfl ?_
        refine lv_icmp_ne (tgt := 38) S.1 S.2.1 dX5_peek_22 (by decide) (fun h_5 => ?_) (fun h_5 => ?_)
        · have hf := hf.2 h_5
          exact kx38 _ _ hf _ _ _ hP hD hS (lv_sub hl [0] rfl)
        · have hf := hf.1 h_5
          refine lv_aload_n S.1 S.2.1 dX5_peek_25 rfl (lv_at hl 0 rfl) ?_
          refine lv_dup S.1 S.2.1 dX5_peek_26 rfl ?_
          refine gfX5_4 S iX5 hK hP (h11 4 (by decide)) k1 dX5_peek_27 ?_
          refine lv_iconst (v := 1) S.1 S.2.1 dX5_peek_30 rfl ?_
          refine lv_iadd S.1 S.2.1 dX5_peek_31 ?_
          refine nm_o hf (fun I_6 eI_6 hf => ?_)
          refine pfX5_4 S iX5 hK hP hD hS (h11 4 (by decide)) k1 dX5_peek_32 eI_6 (fun H locs hP hD hS => ?_)
          refine lv_goto (tgt := 0) S.1 S.2.1 dX5_peek_35 (by decide) ?_
          exact ih0 _ _ hf _ _ _ hP hD hS (lv_sub hl [0] rfl)
  refine L0 _ (fun I_7 J_8 hf H locs ls hP hD hS hl => ?_)  n_13  _ _ hf _ _ _ hP hD hS (lv_sub hl [0] rfl)
  exact jn38 _ _ hf _ _ _ hP hD hS (lv_sub hl [0] rfl)
abbrev rmX5_isDigit : Room := { frames := 0, cells := 0, slots := 0, locals := 0 }
theorem yk_X5_isDigit : yOk yX5_isDigit RX5 1 := by unfold yOk; decide +kernel
def f_X5_isDigit (x0 : Int32) (I : MI) (J : MJ) (Q : Int32 → MI → MJ → Prop) : Prop :=
  ((x0 < (48 : Int32) → Q (0 : Int32) I J) ∧ (¬ x0 < (48 : Int32) → (((57 : Int32) < x0 → Q (0 : Int32) I J) ∧ (¬ (57 : Int32) < x0 → Q (1 : Int32) I J))))
set_option maxRecDepth 100000 in
set_option maxHeartbeats 4000000 in
theorem c_X5_isDigit {l : Launch} {E : EV} {ps : List (Nat × Nat)}  {x0 : Int32} {I : MI} {J : MJ} {Q : Int32 → MI → MJ → Prop} (hf : f_X5_isDigit x0 I J Q) : KI l yX5_isDigit wsX5_isDigit rmX5_isDigit E ps [.int x0] I J Q := by
  refine K_ofI (cc := cX5_isDigit) (maxL := 1) (ty := .boolean) (by decide +kernel) rfl (Nat.le_of_ble_eq_true rfl) (fun p e s m args below meth c Qm hret S hK hX => ?_)
  have hA : ∀ q, s.heap.size ≤ q → AA E ps s.heap.size q := fun _ h => Or.inr h
  intro H locs ls hP hD hS hl
  unfold f_X5_isDigit at hf
  refine lv_iload_n S.1 S.2.1 dX5_isDigit_0 rfl (lv_at hl 0 rfl) ?_
  refine lv_bipush (v := 48) S.1 S.2.1 dX5_isDigit_1 rfl ?_
  refine lv_icmp_lt (tgt := 16) S.1 S.2.1 dX5_isDigit_3 (by decide) (fun h_1 => ?_) (fun h_1 => ?_)
  · have hf := hf.1 h_1
    refine lv_iconst (v := 0) S.1 S.2.1 dX5_isDigit_16 rfl ?_
    exact hret hf rfl hP hD hS dX5_isDigit_17
  · have hf := hf.2 h_1
    refine lv_iload_n S.1 S.2.1 dX5_isDigit_6 rfl (lv_at hl 0 rfl) ?_
    refine lv_bipush (v := 57) S.1 S.2.1 dX5_isDigit_7 rfl ?_
    refine lv_icmp_gt (tgt := 16) S.1 S.2.1 dX5_isDigit_9 (by decide) (fun h_2 => ?_) (fun h_2 => ?_)
    · have hf := hf.1 h_2
      refine lv_iconst (v := 0) S.1 S.2.1 dX5_isDigit_16 rfl ?_
      exact hret hf rfl hP hD hS dX5_isDigit_17
    · have hf := hf.2 h_2
      refine lv_iconst (v := 1) S.1 S.2.1 dX5_isDigit_12 rfl ?_
      refine lv_goto (tgt := 17) S.1 S.2.1 dX5_isDigit_13 (by decide) ?_
      exact hret hf rfl hP hD hS dX5_isDigit_17
abbrev rmX5_readSign : Room := { frames := 1, cells := 0, slots := 0, locals := 22 }
theorem yk_X5_readSign : yOk yX5_readSign RX5 1 := by unfold yOk; decide +kernel
def f_X5_readSign (x1 : Int32) (I : MI) (J : MJ) (Q : Int32 → MI → MJ → Prop) : Prop :=
  f_X5_peek I J (fun (v_3 : Int32) (I_1 : MI) (J_2 : MJ) => ((v_3 = x1 → ∀ I_5 : MI, I_5 = sI I_1 11 4 4 ((I_1 11 4 4) + (1 : Int32)) → Q (1 : Int32) I_5 J_2) ∧ (¬ v_3 = x1 → f_X5_fail (-2 : Int32) (I_1 11 4 4) I_1 J_2 (fun (v_8 : Int32) (I_6 : MI) (J_7 : MJ) => (bo v_8 ∧ Q v_8 I_6 J_7)))))
set_option maxRecDepth 100000 in
set_option maxHeartbeats 4000000 in
theorem c_X5_readSign {l : Launch} {E : EV} {ps : List (Nat × Nat)} (h11 : ∀ r, r < 11 → (11, r) ∈ ps) (hG : ∀ k r, k < 11 → r < 16 → (k, r) ∈ ps) {x1 : Int32} {I : MI} {J : MJ} {Q : Int32 → MI → MJ → Prop} (hf : f_X5_readSign x1 I J Q) : KI l yX5_readSign wsX5_readSign rmX5_readSign E ps [.ref (eA E 11 4), .int x1] I J Q := by
  refine K_ofI (cc := cX5_readSign) (maxL := 2) (ty := .boolean) (by decide +kernel) rfl (Nat.le_of_ble_eq_true rfl) (fun p e s m args below meth c Qm hret S hK hX => ?_)
  have hA : ∀ q, s.heap.size ≤ q → AA E ps s.heap.size q := fun _ h => Or.inr h
  have k1 := S.2.2.2.2 (.fieldLink RX5 41 "RhymeRoofs$SetupReader" "at" "I") (by decide +kernel)
  have iX5 : ∀ w ∈ wsX50, w ∈ wsX5_readSign := fun _ h => List.mem_cons_of_mem _ (List.mem_append_right _ h)
  intro H locs ls hP hD hS hl
  unfold f_X5_readSign at hf
  refine lv_aload_n S.1 S.2.1 dX5_readSign_0 rfl (lv_at hl 0 rfl) ?_
  refine R_cVi (As := []) (rest := []) S (c_X5_peek (h11 := h11) (hG := hG)  hf) gX5_readSign_X5_peek rfl yk_X5_peek ⟨⟨Nat.le_of_ble_eq_true rfl, Nat.le_of_ble_eq_true rfl⟩, rfl, rfl⟩ hK hP hD hS hX hA (h11 4 (by decide)) (cF_o E _ _ 4) rfl rfl hl.1 rfl (Nat.le_of_ble_eq_true rfl) ⟨Nat.zero_le _, Nat.zero_le _⟩ dX5_readSign_1 (fun v_3 I_1 J_2 H locs hf hP hD hS => ?_)
  refine lv_iload_n S.1 S.2.1 dX5_readSign_4 rfl (lv_at hl 1 rfl) ?_
  refine lv_icmp_eq (tgt := 19) S.1 S.2.1 dX5_readSign_5 (by decide) (fun h_4 => ?_) (fun h_4 => ?_)
  · have hf := hf.1 h_4
    refine lv_aload_n S.1 S.2.1 dX5_readSign_19 rfl (lv_at hl 0 rfl) ?_
    refine lv_dup S.1 S.2.1 dX5_readSign_20 rfl ?_
    refine gfX5_4 S iX5 hK hP (h11 4 (by decide)) k1 dX5_readSign_21 ?_
    refine lv_iconst (v := 1) S.1 S.2.1 dX5_readSign_24 rfl ?_
    refine lv_iadd S.1 S.2.1 dX5_readSign_25 ?_
    refine nm_o hf (fun I_5 eI_5 hf => ?_)
    refine pfX5_4 S iX5 hK hP hD hS (h11 4 (by decide)) k1 dX5_readSign_26 eI_5 (fun H locs hP hD hS => ?_)
    refine lv_iconst (v := 1) S.1 S.2.1 dX5_readSign_29 rfl ?_
    exact hret hf rfl hP hD hS dX5_readSign_30
  · have hf := hf.2 h_4
    refine lv_aload_n S.1 S.2.1 dX5_readSign_8 rfl (lv_at hl 0 rfl) ?_
    refine lv_bipush (v := (-2)) S.1 S.2.1 dX5_readSign_9 rfl ?_
    refine lv_aload_n S.1 S.2.1 dX5_readSign_11 rfl (lv_at hl 0 rfl) ?_
    refine gfX5_4 S iX5 hK hP (h11 4 (by decide)) k1 dX5_readSign_12 ?_
    refine R_cVi (As := [.int (-2 : Int32), .int (I_1 11 4 4)]) (rest := []) S (c_X5_fail (h11 := h11) (hG := hG)  hf) gX5_readSign_X5_fail rfl yk_X5_fail ⟨⟨Nat.le_of_ble_eq_true rfl, Nat.le_of_ble_eq_true rfl⟩, rfl, rfl⟩ hK hP hD hS hX hA (h11 4 (by decide)) (cF_o E _ _ 4) rfl rfl hl.1 rfl (Nat.le_of_ble_eq_true rfl) ⟨Nat.zero_le _, Nat.zero_le _⟩ dX5_readSign_15 (fun v_8 I_6 J_7 H locs hf hP hD hS => ?_)
    obtain ⟨h_9, hf⟩ := hf
    exact hret hf h_9.1 hP hD hS dX5_readSign_18
abbrev rmX5_readNumber : Room := { frames := 1, cells := 0, slots := 0, locals := 64 }
theorem yk_X5_readNumber : yOk yX5_readNumber RX5 2 := by unfold yOk; decide +kernel
def f_X5_readNumber_B34 (K102 : MI → MJ → Prop) (rec34 : MI → MJ → Prop) (I_10 : MI) (J_11 : MJ) : Prop :=
  (((I_10 11 4 3) ≤ (I_10 11 4 4) → K102 I_10 J_11) ∧ (¬ (I_10 11 4 3) ≤ (I_10 11 4 4) → (vp_in (I_10 11 4 4) 600 ∧ f_X5_isDigit (I_10 11 5 (I_10 11 4 4).toNatClampNeg) I_10 J_11 (fun (v_16 : Int32) (I_14 : MI) (J_15 : MJ) => ((v_16 = (0 : Int32) → K102 I_14 J_15) ∧ (¬ v_16 = (0 : Int32) → (vp_in (I_14 11 4 4) 600 ∧ ∀ I_19 : MI, I_19 = sI I_14 11 4 6 (if ((((10 : Int32) * (I_14 11 4 6)) + (I_14 11 5 (I_14 11 4 4).toNatClampNeg)) - (48 : Int32)) < (100000 : Int32) then ((((10 : Int32) * (I_14 11 4 6)) + (I_14 11 5 (I_14 11 4 4).toNatClampNeg)) - (48 : Int32)) else (100000 : Int32)) → ∀ I_20 : MI, I_20 = sI I_19 11 4 4 ((I_19 11 4 4) + (1 : Int32)) → rec34 I_20 J_15)))))))
def f_X5_readNumber_L34 (K102 : MI → MJ → Prop) : Nat → MI → MJ → Prop
  | 0, _, _ => False
  | n + 1, I_10, J_11 => f_X5_readNumber_B34 K102 (f_X5_readNumber_L34 K102 n) I_10 J_11
def f_X5_readNumber_J118 (Q : Int32 → MI → MJ → Prop) (I_28 : MI) (J_29 : MJ) : Prop :=
  f_X5_fail (-3 : Int32) (I_28 11 4 7) I_28 J_29 (fun (v_32 : Int32) (I_30 : MI) (J_31 : MJ) => ((v_32 = (0 : Int32) → Q (0 : Int32) I_30 J_31) ∧ (¬ v_32 = (0 : Int32) → Q (1 : Int32) I_30 J_31)))
def f_X5_readNumber_J102 (Q : Int32 → MI → MJ → Prop) (x1_23 : Int32) (x2_24 : Int32) (I_25 : MI) (J_26 : MJ) : Prop :=
  (((I_25 11 4 6) < x1_23 → f_X5_readNumber_J118 Q I_25 J_26) ∧ (¬ (I_25 11 4 6) < x1_23 → (((I_25 11 4 6) ≤ x2_24 → Q (1 : Int32) I_25 J_26) ∧ (¬ (I_25 11 4 6) ≤ x2_24 → f_X5_readNumber_J118 Q I_25 J_26))))
def f_X5_readNumber (x1 : Int32) (x2 : Int32) (I : MI) (J : MJ) (Q : Int32 → MI → MJ → Prop) : Prop :=
  f_X5_peek I J (fun (v_3 : Int32) (I_1 : MI) (J_2 : MJ) => f_X5_isDigit v_3 I_1 J_2 (fun (v_6 : Int32) (I_4 : MI) (J_5 : MJ) => ((v_6 = (0 : Int32) → f_X5_fail (-2 : Int32) (I_4 11 4 4) I_4 J_5 (fun (v_38 : Int32) (I_36 : MI) (J_37 : MJ) => (bo v_38 ∧ Q v_38 I_36 J_37))) ∧ (¬ v_6 = (0 : Int32) → ∀ I_8 : MI, I_8 = sI I_4 11 4 7 (I_4 11 4 4) → ∀ I_9 : MI, I_9 = sI I_8 11 4 6 (0 : Int32) → ∃ n : Nat, f_X5_readNumber_L34 (fun (I_21 : MI) (J_22 : MJ) => f_X5_readNumber_J102 Q x1 x2 I_21 J_22) n  I_9 J_5))))
set_option maxRecDepth 100000 in
set_option maxHeartbeats 4000000 in
theorem c_X5_readNumber {l : Launch} {E : EV} {ps : List (Nat × Nat)} (h11 : ∀ r, r < 11 → (11, r) ∈ ps) (hG : ∀ k r, k < 11 → r < 16 → (k, r) ∈ ps) {x1 : Int32} {x2 : Int32} {I : MI} {J : MJ} {Q : Int32 → MI → MJ → Prop} (hf : f_X5_readNumber x1 x2 I J Q) : KI l yX5_readNumber wsX5_readNumber rmX5_readNumber E ps [.ref (eA E 11 4), .int x1, .int x2] I J Q := by
  refine K_ofI (cc := cX5_readNumber) (maxL := 3) (ty := .boolean) (by decide +kernel) rfl (Nat.le_of_ble_eq_true rfl) (fun p e s m args below meth c Qm hret S hK hX => ?_)
  have hA : ∀ q, s.heap.size ≤ q → AA E ps s.heap.size q := fun _ h => Or.inr h
  have k1 := S.2.2.2.2 (.fieldLink RX5 41 "RhymeRoofs$SetupReader" "at" "I") (by decide +kernel)
  have iX5 : ∀ w ∈ wsX50, w ∈ wsX5_readNumber := fun _ h => List.mem_cons_of_mem _ (List.mem_append_right _ h)
  have k2 := S.2.2.2.2 (.fieldLink RX5 85 "RhymeRoofs$SetupReader" "tokenStart" "I") (by decide +kernel)
  have k3 := S.2.2.2.2 (.fieldLink RX5 88 "RhymeRoofs$SetupReader" "number" "I") (by decide +kernel)
  have k4 := S.2.2.2.2 (.fieldLink RX5 32 "RhymeRoofs$SetupReader" "end" "I") (by decide +kernel)
  have k5 := S.2.2.2.2 (.fieldLink RX5 22 "RhymeRoofs$SetupReader" "text" "[I") (by decide +kernel)
  have k6 := S.2.2.2.2 (.constant RX5 91 (100000)) (by decide +kernel)
  have k7 := S.2.2.2.2 (.methodLink RX5 26 Lib.Math.min.name) (by decide +kernel)
  have k8 := S.2.2.2.2 (.static Lib.Math.min.name) (by decide +kernel)
  have k9 := S.2.2.2.2 (.initialized "java/lang/Math") (by decide +kernel)
  have k10 := S.2.2.2.2 (.code Lib.Math.min.name Lib.Math.min.code 2 (some .int)) (by decide +kernel)
  have jn118 : ∀ (I_28 : MI) (J_29 : MJ), f_X5_readNumber_J118 Q I_28 J_29 → Wj p l e (rmX5_readNumber) s m args below meth c Qm E ps 3 I_28 J_29 118 [(0, .ref (eA E 11 4))] [] := by
    intro I_28 J_29 hf H locs ls hP hD hS hl
    unfold f_X5_readNumber_J118 at hf
    refine lv_aload_n S.1 S.2.1 dX5_readNumber_118 rfl (lv_at hl 0 rfl) ?_
    refine lv_bipush (v := (-3)) S.1 S.2.1 dX5_readNumber_119 rfl ?_
    refine lv_aload_n S.1 S.2.1 dX5_readNumber_121 rfl (lv_at hl 0 rfl) ?_
    refine gfX5_7 S iX5 hK hP (h11 4 (by decide)) k2 dX5_readNumber_122 ?_
    refine R_cVi (As := [.int (-3 : Int32), .int (I_28 11 4 7)]) (rest := []) S (c_X5_fail (h11 := h11) (hG := hG)  hf) gX5_readNumber_X5_fail rfl yk_X5_fail ⟨⟨Nat.le_of_ble_eq_true rfl, Nat.le_of_ble_eq_true rfl⟩, rfl, rfl⟩ hK hP hD hS hX hA (h11 4 (by decide)) (cF_o E _ _ 4) rfl rfl hl.1 rfl (Nat.le_of_ble_eq_true rfl) ⟨Nat.zero_le _, Nat.zero_le _⟩ dX5_readNumber_125 (fun v_32 I_30 J_31 H locs hf hP hD hS => ?_)
    refine lv_if_eq (tgt := 135) S.1 S.2.1 dX5_readNumber_128 (by decide) (fun h_33 => ?_) (fun h_33 => ?_)
    · have hf := hf.1 h_33
      refine lv_iconst (v := 0) S.1 S.2.1 dX5_readNumber_135 rfl ?_
      exact hret hf rfl hP hD hS dX5_readNumber_136
    · have hf := hf.2 h_33
      refine lv_iconst (v := 1) S.1 S.2.1 dX5_readNumber_131 rfl ?_
      refine lv_goto (tgt := 136) S.1 S.2.1 dX5_readNumber_132 (by decide) ?_
      exact hret hf rfl hP hD hS dX5_readNumber_136
  have jn102 : ∀ (x1_23 : Int32) (x2_24 : Int32) (I_25 : MI) (J_26 : MJ), f_X5_readNumber_J102 Q x1_23 x2_24 I_25 J_26 → Wj p l e (rmX5_readNumber) s m args below meth c Qm E ps 3 I_25 J_26 102 [(0, .ref (eA E 11 4)), (1, .int x1_23), (2, .int x2_24)] [] := by
    intro x1_23 x2_24 I_25 J_26 hf H locs ls hP hD hS hl
    unfold f_X5_readNumber_J102 at hf
    refine lv_aload_n S.1 S.2.1 dX5_readNumber_102 rfl (lv_at hl 0 rfl) ?_
    refine gfX5_6 S iX5 hK hP (h11 4 (by decide)) k3 dX5_readNumber_103 ?_
    refine lv_iload_n S.1 S.2.1 dX5_readNumber_106 rfl (lv_at hl 1 rfl) ?_
    refine lv_icmp_lt (tgt := 118) S.1 S.2.1 dX5_readNumber_107 (by decide) (fun h_27 => ?_) (fun h_27 => ?_)
    · have hf := hf.1 h_27
      exact jn118 _ _ hf _ _ _ hP hD hS (lv_sub hl [0] rfl)
    · have hf := hf.2 h_27
      refine lv_aload_n S.1 S.2.1 dX5_readNumber_110 rfl (lv_at hl 0 rfl) ?_
      refine gfX5_6 S iX5 hK hP (h11 4 (by decide)) k3 dX5_readNumber_111 ?_
      refine lv_iload_n S.1 S.2.1 dX5_readNumber_114 rfl (lv_at hl 2 rfl) ?_
      refine lv_icmp_le (tgt := 131) S.1 S.2.1 dX5_readNumber_115 (by decide) (fun h_34 => ?_) (fun h_34 => ?_)
      · have hf := hf.1 h_34
        refine lv_iconst (v := 1) S.1 S.2.1 dX5_readNumber_131 rfl ?_
        refine lv_goto (tgt := 136) S.1 S.2.1 dX5_readNumber_132 (by decide) ?_
        exact hret hf rfl hP hD hS dX5_readNumber_136
      · have hf := hf.2 h_34
        exact jn118 _ _ hf _ _ _ hP hD hS (lv_sub hl [0] rfl)
  intro H locs ls hP hD hS hl
  unfold f_X5_readNumber at hf
  refine lv_aload_n S.1 S.2.1 dX5_readNumber_0 rfl (lv_at hl 0 rfl) ?_
  refine R_cVi (As := []) (rest := []) S (c_X5_peek (h11 := h11) (hG := hG)  hf) gX5_readNumber_X5_peek rfl yk_X5_peek ⟨⟨Nat.le_of_ble_eq_true rfl, Nat.le_of_ble_eq_true rfl⟩, rfl, rfl⟩ hK hP hD hS hX hA (h11 4 (by decide)) (cF_o E _ _ 4) rfl rfl hl.1 rfl (Nat.le_of_ble_eq_true rfl) ⟨Nat.zero_le _, Nat.zero_le _⟩ dX5_readNumber_1 (fun v_3 I_1 J_2 H locs hf hP hD hS => ?_)
  refine R_cSi (As := [.int v_3]) (rest := []) S (c_X5_isDigit   hf) gX5_readNumber_X5_isDigit rfl yk_X5_isDigit ⟨⟨Nat.le_of_ble_eq_true rfl, Nat.le_of_ble_eq_true rfl⟩, rfl, rfl⟩ hK hP hD hS hX hA rfl hl.1 rfl (Nat.le_of_ble_eq_true rfl) ⟨Nat.zero_le _, Nat.zero_le _⟩ dX5_readNumber_4 (fun v_6 I_4 J_5 H locs hf hP hD hS => ?_)
  refine lv_if_ne (tgt := 21) S.1 S.2.1 dX5_readNumber_7 (by decide) (fun h_7 => ?_) (fun h_7 => ?_)
  · have hf := hf.2 h_7
    refine lv_aload_n S.1 S.2.1 dX5_readNumber_21 rfl (lv_at hl 0 rfl) ?_
    refine lv_aload_n S.1 S.2.1 dX5_readNumber_22 rfl (lv_at hl 0 rfl) ?_
    refine gfX5_4 S iX5 hK hP (h11 4 (by decide)) k1 dX5_readNumber_23 ?_
    refine nm_o hf (fun I_8 eI_8 hf => ?_)
    refine pfX5_7 S iX5 hK hP hD hS (h11 4 (by decide)) k2 dX5_readNumber_26 eI_8 (fun H locs hP hD hS => ?_)
    refine lv_aload_n S.1 S.2.1 dX5_readNumber_29 rfl (lv_at hl 0 rfl) ?_
    refine lv_iconst (v := 0) S.1 S.2.1 dX5_readNumber_30 rfl ?_
    refine nm_o hf (fun I_9 eI_9 hf => ?_)
    refine pfX5_6 S iX5 hK hP hD hS (h11 4 (by decide)) k3 dX5_readNumber_31 eI_9 (fun H locs hP hD hS => ?_)
    obtain ⟨n_35, hf⟩ := hf
    have L34 : ∀ (K102 : MI → MJ → Prop), (∀ (I_21 : MI) (J_22 : MJ), K102 I_21 J_22 → Wj p l e (rmX5_readNumber) s m args below meth c Qm E ps 3 I_21 J_22 102 [(0, .ref (eA E 11 4)), (1, .int x1), (2, .int x2)] []) → ∀ (n : Nat) (I_10 : MI) (J_11 : MJ), f_X5_readNumber_L34 K102 n I_10 J_11 → Wj p l e (rmX5_readNumber) s m args below meth c Qm E ps 3 I_10 J_11 34 [(0, .ref (eA E 11 4)), (1, .int x1), (2, .int x2)] [] := by
      intro K102 kx102 n
      induction n with
      | zero => intro I_10 J_11 hf; exact hf.elim
      | succ n ih34 =>
        intro I_10 J_11 hf
        have hf : f_X5_readNumber_B34 K102 (f_X5_readNumber_L34 K102 n) I_10 J_11 := hf
        intro H locs ls hP hD hS hl
        unfold f_X5_readNumber_B34 at hf
        refine lv_aload_n S.1 S.2.1 dX5_readNumber_34 rfl (lv_at hl 0 rfl) ?_
        refine gfX5_4 S iX5 hK hP (h11 4 (by decide)) k1 dX5_readNumber_35 ?_
        refine lv_aload_n S.1 S.2.1 dX5_readNumber_38 rfl (lv_at hl 0 rfl) ?_
        refine gfX5_3 S iX5 hK hP (h11 4 (by decide)) k4 dX5_readNumber_39 ?_
        refine lv_icmp_ge (tgt := 102) S.1 S.2.1 dX5_readNumber_42 (by decide) (fun h_12 => ?_) (fun h_12 => ?_)
        · have hf := hf.1 h_12
          exact kx102 _ _ hf _ _ _ hP hD hS (lv_sub hl [0, 1, 2] rfl)
        · have hf := hf.2 h_12
          refine lv_aload_n S.1 S.2.1 dX5_readNumber_45 rfl (lv_at hl 0 rfl) ?_
          refine gfX5_2 S iX5 hK hP (h11 4 (by decide)) k5 dX5_readNumber_46 ?_
          refine lv_aload_n S.1 S.2.1 dX5_readNumber_49 rfl (lv_at hl 0 rfl) ?_
          refine gfX5_4 S iX5 hK hP (h11 4 (by decide)) k1 dX5_readNumber_50 ?_
          obtain ⟨h_13, hf⟩ := hf
          refine R_iald S.1 S.2.1 hK hP (h11 5 (by decide)) (IAo5 E) h_13 dX5_readNumber_53 ?_
          refine R_cSi (As := [.int (I_10 11 5 (I_10 11 4 4).toNatClampNeg)]) (rest := []) S (c_X5_isDigit   hf) gX5_readNumber_X5_isDigit rfl yk_X5_isDigit ⟨⟨Nat.le_of_ble_eq_true rfl, Nat.le_of_ble_eq_true rfl⟩, rfl, rfl⟩ hK hP hD hS hX hA rfl hl.1 rfl (Nat.le_of_ble_eq_true rfl) ⟨Nat.zero_le _, Nat.zero_le _⟩ dX5_readNumber_54 (fun v_16 I_14 J_15 H locs hf hP hD hS => ?_)
          refine lv_if_eq (tgt := 102) S.1 S.2.1 dX5_readNumber_57 (by decide) (fun h_17 => ?_) (fun h_17 => ?_)
          · have hf := hf.1 h_17
            exact kx102 _ _ hf _ _ _ hP hD hS (lv_sub hl [0, 1, 2] rfl)
          · have hf := hf.2 h_17
            refine lv_aload_n S.1 S.2.1 dX5_readNumber_60 rfl (lv_at hl 0 rfl) ?_
            refine lv_ldc (v := 100000) S.1 S.2.1 S.2.2.2.1 k6 dX5_readNumber_61 ?_
            refine lv_bipush (v := 10) S.1 S.2.1 dX5_readNumber_63 rfl ?_
            refine lv_aload_n S.1 S.2.1 dX5_readNumber_65 rfl (lv_at hl 0 rfl) ?_
            refine gfX5_6 S iX5 hK hP (h11 4 (by decide)) k3 dX5_readNumber_66 ?_
            refine lv_imul S.1 S.2.1 dX5_readNumber_69 ?_
            refine lv_aload_n S.1 S.2.1 dX5_readNumber_70 rfl (lv_at hl 0 rfl) ?_
            refine gfX5_2 S iX5 hK hP (h11 4 (by decide)) k5 dX5_readNumber_71 ?_
            refine lv_aload_n S.1 S.2.1 dX5_readNumber_74 rfl (lv_at hl 0 rfl) ?_
            refine gfX5_4 S iX5 hK hP (h11 4 (by decide)) k1 dX5_readNumber_75 ?_
            obtain ⟨h_18, hf⟩ := hf
            refine R_iald S.1 S.2.1 hK hP (h11 5 (by decide)) (IAo5 E) h_18 dX5_readNumber_78 ?_
            refine lv_iadd S.1 S.2.1 dX5_readNumber_79 ?_
            refine lv_bipush (v := 48) S.1 S.2.1 dX5_readNumber_80 rfl ?_
            refine lv_isub S.1 S.2.1 dX5_readNumber_82 ?_
            refine va_mmin S.1 S.2.1 (S.2.2.1.trans hl.1.symm) S.2.2.2.1 k7 k8 k9 k10 (Nat.le_of_ble_eq_true rfl) (Nat.le_of_ble_eq_true rfl) (Nat.zero_le _) (Nat.zero_le _) dX5_readNumber_83 ?_
            refine nm_o hf (fun I_19 eI_19 hf => ?_)
            refine pfX5_6 S iX5 hK hP hD hS (h11 4 (by decide)) k3 dX5_readNumber_86 eI_19 (fun H locs hP hD hS => ?_)
            refine lv_aload_n S.1 S.2.1 dX5_readNumber_89 rfl (lv_at hl 0 rfl) ?_
            refine lv_dup S.1 S.2.1 dX5_readNumber_90 rfl ?_
            refine gfX5_4 S iX5 hK hP (h11 4 (by decide)) k1 dX5_readNumber_91 ?_
            refine lv_iconst (v := 1) S.1 S.2.1 dX5_readNumber_94 rfl ?_
            refine lv_iadd S.1 S.2.1 dX5_readNumber_95 ?_
            refine nm_o hf (fun I_20 eI_20 hf => ?_)
            refine pfX5_4 S iX5 hK hP hD hS (h11 4 (by decide)) k1 dX5_readNumber_96 eI_20 (fun H locs hP hD hS => ?_)
            refine lv_goto (tgt := 34) S.1 S.2.1 dX5_readNumber_99 (by decide) ?_
            exact ih34 _ _ hf _ _ _ hP hD hS (lv_sub hl [0, 1, 2] rfl)
    refine L34 _ (fun I_21 J_22 hf H locs ls hP hD hS hl => ?_)  n_35  _ _ hf _ _ _ hP hD hS (lv_sub hl [0, 1, 2] rfl)
    exact jn102 _ _ _ _ hf _ _ _ hP hD hS (lv_sub hl [0, 1, 2] rfl)
  · have hf := hf.1 h_7
    refine lv_aload_n S.1 S.2.1 dX5_readNumber_10 rfl (lv_at hl 0 rfl) ?_
    refine lv_bipush (v := (-2)) S.1 S.2.1 dX5_readNumber_11 rfl ?_
    refine lv_aload_n S.1 S.2.1 dX5_readNumber_13 rfl (lv_at hl 0 rfl) ?_
    refine gfX5_4 S iX5 hK hP (h11 4 (by decide)) k1 dX5_readNumber_14 ?_
    refine R_cVi (As := [.int (-2 : Int32), .int (I_4 11 4 4)]) (rest := []) S (c_X5_fail (h11 := h11) (hG := hG)  hf) gX5_readNumber_X5_fail rfl yk_X5_fail ⟨⟨Nat.le_of_ble_eq_true rfl, Nat.le_of_ble_eq_true rfl⟩, rfl, rfl⟩ hK hP hD hS hX hA (h11 4 (by decide)) (cF_o E _ _ 4) rfl rfl hl.1 rfl (Nat.le_of_ble_eq_true rfl) ⟨Nat.zero_le _, Nat.zero_le _⟩ dX5_readNumber_17 (fun v_38 I_36 J_37 H locs hf hP hD hS => ?_)
    obtain ⟨h_39, hf⟩ := hf
    exact hret hf h_39.1 hP hD hS dX5_readNumber_20
