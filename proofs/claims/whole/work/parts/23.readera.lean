abbrev rmX5_fail : Room := { frames := 0, cells := 0, slots := 0, locals := 0 }
theorem yk_X5_fail : yOk yX5_fail RX5 2 := by unfold yOk; decide +kernel
def f_X5_fail (x1 : Int32) (x2 : Int32) (I : MI) (J : MJ) (Q : Int32 → MI → MJ → Prop) : Prop :=
  ∀ I_1 : MI, I_1 = sI I 11 4 5 x1 → ∀ I_2 : MI, I_2 = sI I_1 11 4 1 x2 → Q (0 : Int32) I_2 J
set_option maxRecDepth 100000 in
set_option maxHeartbeats 4000000 in
theorem c_X5_fail {l : Launch} {E : EV} {ps : List (Nat × Nat)} (h11 : ∀ r, r < 11 → (11, r) ∈ ps) (hG : ∀ k r, k < 11 → r < 16 → (k, r) ∈ ps) {x1 : Int32} {x2 : Int32} {I : MI} {J : MJ} {Q : Int32 → MI → MJ → Prop} (hf : f_X5_fail x1 x2 I J Q) : KI l yX5_fail wsX5_fail rmX5_fail E ps [.ref (eA E 11 4), .int x1, .int x2] I J Q := by
  refine K_ofI (cc := cX5_fail) (maxL := 3) (ty := .boolean) (by decide +kernel) rfl (Nat.le_of_ble_eq_true rfl) (fun p e s m args below meth c Qm hret S hK hX => ?_)
  have hA : ∀ q, s.heap.size ≤ q → AA E ps s.heap.size q := fun _ h => Or.inr h
  have k1 := S.2.2.2.2 (.fieldLink RX5 44 "RhymeRoofs$SetupReader" "error" "I") (by decide +kernel)
  have iX5 : ∀ w ∈ wsX50, w ∈ wsX5_fail := fun _ h => List.mem_cons_of_mem _ (List.mem_append_right _ h)
  have k2 := S.2.2.2.2 (.fieldLink RX5 18 "RhymeRoofs$SetupReader" "errorAt" "I") (by decide +kernel)
  intro H locs ls hP hD hS hl
  unfold f_X5_fail at hf
  refine lv_aload_n S.1 S.2.1 dX5_fail_0 rfl (lv_at hl 0 rfl) ?_
  refine lv_iload_n S.1 S.2.1 dX5_fail_1 rfl (lv_at hl 1 rfl) ?_
  refine nm_o hf (fun I_1 eI_1 hf => ?_)
  refine pfX5_5 S iX5 hK hP hD hS (h11 4 (by decide)) k1 dX5_fail_2 eI_1 (fun H locs hP hD hS => ?_)
  refine lv_aload_n S.1 S.2.1 dX5_fail_5 rfl (lv_at hl 0 rfl) ?_
  refine lv_iload_n S.1 S.2.1 dX5_fail_6 rfl (lv_at hl 2 rfl) ?_
  refine nm_o hf (fun I_2 eI_2 hf => ?_)
  refine pfX5_1 S iX5 hK hP hD hS (h11 4 (by decide)) k2 dX5_fail_7 eI_2 (fun H locs hP hD hS => ?_)
  refine lv_iconst (v := 0) S.1 S.2.1 dX5_fail_10 rfl ?_
  exact hret hf rfl hP hD hS dX5_fail_11
abbrev rmX5_peek : Room := { frames := 0, cells := 0, slots := 0, locals := 0 }
theorem yk_X5_peek : yOk yX5_peek RX5 0 := by unfold yOk; decide +kernel
def f_X5_peek_B0 (K38 : MI → MJ → Prop) (rec0 : MI → MJ → Prop) (I_1 : MI) (J_2 : MJ) : Prop :=
  (((I_1 11 4 3) ≤ (I_1 11 4 4) → K38 I_1 J_2) ∧ (¬ (I_1 11 4 3) ≤ (I_1 11 4 4) → (vp_in (I_1 11 4 4) 600 ∧ (((I_1 11 5 (I_1 11 4 4).toNatClampNeg) = (32 : Int32) → ∀ I_6 : MI, I_6 = sI I_1 11 4 4 ((I_1 11 4 4) + (1 : Int32)) → rec0 I_6 J_2) ∧ (¬ (I_1 11 5 (I_1 11 4 4).toNatClampNeg) = (32 : Int32) → K38 I_1 J_2)))))
def f_X5_peek_L0 (K38 : MI → MJ → Prop) : Nat → MI → MJ → Prop
  | 0, _, _ => False
  | n + 1, I_1, J_2 => f_X5_peek_B0 K38 (f_X5_peek_L0 K38 n) I_1 J_2
def f_X5_peek_J38 (Q : Int32 → MI → MJ → Prop) (I_9 : MI) (J_10 : MJ) : Prop :=
  (((I_9 11 4 3) ≤ (I_9 11 4 4) → Q (-1 : Int32) I_9 J_10) ∧ (¬ (I_9 11 4 3) ≤ (I_9 11 4 4) → (vp_in (I_9 11 4 4) 600 ∧ Q (I_9 11 5 (I_9 11 4 4).toNatClampNeg) I_9 J_10)))
def f_X5_peek (I : MI) (J : MJ) (Q : Int32 → MI → MJ → Prop) : Prop :=
  ∃ n : Nat, f_X5_peek_L0 (fun (I_7 : MI) (J_8 : MJ) => f_X5_peek_J38 Q I_7 J_8) n  I J
set_option maxRecDepth 100000 in
set_option maxHeartbeats 4000000 in
theorem c_X5_peek {l : Launch} {E : EV} {ps : List (Nat × Nat)} (h11 : ∀ r, r < 11 → (11, r) ∈ ps) (hG : ∀ k r, k < 11 → r < 16 → (k, r) ∈ ps) {I : MI} {J : MJ} {Q : Int32 → MI → MJ → Prop} (hf : f_X5_peek I J Q) : KI l yX5_peek wsX5_peek rmX5_peek E ps [.ref (eA E 11 4)] I J Q := by
  refine K_ofI (cc := cX5_peek) (maxL := 1) (ty := .int) (by decide +kernel) rfl (Nat.le_of_ble_eq_true rfl) (fun p e s m args below meth c Qm hret S hK hX => ?_)
  have hA : ∀ q, s.heap.size ≤ q → AA E ps s.heap.size q := fun _ h => Or.inr h
  have k1 := S.2.2.2.2 (.fieldLink RX5 41 "RhymeRoofs$SetupReader" "at" "I") (by decide +kernel)
  have iX5 : ∀ w ∈ wsX50, w ∈ wsX5_peek := fun _ h => List.mem_cons_of_mem _ (List.mem_append_right _ h)
  have k2 := S.2.2.2.2 (.fieldLink RX5 32 "RhymeRoofs$SetupReader" "end" "I") (by decide +kernel)
  have k3 := S.2.2.2.2 (.fieldLink RX5 22 "RhymeRoofs$SetupReader" "text" "[I") (by decide +kernel)
  have jn38 : ∀ (I_9 : MI) (J_10 : MJ), f_X5_peek_J38 Q I_9 J_10 → Wj p l e (rmX5_peek) s m args below meth c Qm E ps 1 I_9 J_10 38 [(0, .ref (eA E 11 4))] [] := by
    intro I_9 J_10 hf H locs ls hP hD hS hl
    unfold f_X5_peek_J38 at hf
    refine lv_aload_n S.1 S.2.1 dX5_peek_38 rfl (lv_at hl 0 rfl) ?_
    refine gfX5_4 S iX5 hK hP (h11 4 (by decide)) k1 dX5_peek_39 ?_
    refine lv_aload_n S.1 S.2.1 dX5_peek_42 rfl (lv_at hl 0 rfl) ?_
    refine gfX5_3 S iX5 hK hP (h11 4 (by decide)) k2 dX5_peek_43 ?_
    refine lv_icmp_ge (tgt := 61) S.1 S.2.1 dX5_peek_46 (by decide) (fun h_11 => ?_) (fun h_11 => ?_)
    · have hf := hf.1 h_11
      refine lv_iconst (v := (-1)) S.1 S.2.1 dX5_peek_61 rfl ?_
      exact hret hf rfl hP hD hS dX5_peek_62
    · have hf := hf.2 h_11
      refine lv_aload_n S.1 S.2.1 dX5_peek_49 rfl (lv_at hl 0 rfl) ?_
      refine gfX5_2 S iX5 hK hP (h11 4 (by decide)) k3 dX5_peek_50 ?_
      refine lv_aload_n S.1 S.2.1 dX5_peek_53 rfl (lv_at hl 0 rfl) ?_
      refine gfX5_4 S iX5 hK hP (h11 4 (by decide)) k1 dX5_peek_54 ?_
      obtain ⟨h_12, hf⟩ := hf
      refine R_iald S.1 S.2.1 hK hP (h11 5 (by decide)) (IAo5 E) h_12 dX5_peek_57 ?_
      refine lv_goto (tgt := 62) S.1 S.2.1 dX5_peek_58 (by decide) ?_
      exact hret hf rfl hP hD hS dX5_peek_62
  intro H locs ls hP hD hS hl
  unfold f_X5_peek at hf
  obtain ⟨n_13, hf⟩ := hf
  have L0 : ∀ (K38 : MI → MJ → Prop), (∀ (I_7 : MI) (J_8 : MJ), K38 I_7 J_8 → Wj p l e (rmX5_peek) s m args below meth c Qm E ps 1 I_7 J_8 38 [(0, .ref (eA E 11 4))] []) → ∀ (n : Nat) (I_1 : MI) (J_2 : MJ), f_X5_peek_L0 K38 n I_1 J_2 → Wj p l e (rmX5_peek) s m args below meth c Qm E ps 1 I_1 J_2 0 [(0, .ref (eA E 11 4))] [] := by
    intro K38 kx38 n
    induction n with
    | zero => intro I_1 J_2 hf; exact hf.elim
    | succ n ih0 =>
      intro I_1 J_2 hf
      have hf : f_X5_peek_B0 K38 (f_X5_peek_L0 K38 n) I_1 J_2 := hf
      intro H locs ls hP hD hS hl
      unfold f_X5_peek_B0 at hf
      refine lv_aload_n S.1 S.2.1 dX5_peek_0 rfl (lv_at hl 0 rfl) ?_
      refine gfX5_4 S iX5 hK hP (h11 4 (by decide)) k1 dX5_peek_1 ?_
      refine lv_aload_n S.1 S.2.1 dX5_peek_4 rfl (lv_at hl 0 rfl) ?_
      refine gfX5_3 S iX5 hK hP (h11 4 (by decide)) k2 dX5_peek_5 ?_
      refine lv_icmp_ge (tgt := 38) S.1 S.2.1 dX5_peek_8 (by decide) (fun h_3 => ?_) (fun h_3 => ?_)
      · have hf := hf.1 h_3
        exact kx38 _ _ hf _ _ _ hP hD hS (lv_sub hl [0] rfl)
      · have hf := hf.2 h_3
        refine lv_aload_n S.1 S.2.1 dX5_peek_11 rfl (lv_at hl 0 rfl) ?_
        refine gfX5_2 S iX5 hK hP (h11 4 (by decide)) k3 dX5_peek_12 ?_
        refine lv_aload_n S.1 S.2.1 dX5_peek_15 rfl (lv_at hl 0 rfl) ?_
        refine gfX5_4 S iX5 hK hP (h11 4 (by decide)) k1 dX5_peek_16 ?_
        obtain ⟨h_4, hf⟩ := hf
        refine R_iald S.1 S.2.1 hK hP (h11 5 (by decide)) (IAo5 E) h_4 dX5_peek_19 ?_
        refine lv_bipush (v := 32) S.1 S.2.1 dX5_peek_20 rfl ?_
        refine lv_icmp_ne (tgt := 38) S.1 S.2.1 dX5_peek_22 (by decide) (fun h_5 => ?_) (fun h_5 => ?_)
        · have hf := hf.2 h_5
          exact kx38 _ _ hf _ _ _ hP hD hS (lv_sub hl [0] rfl)
        · have hf := hf.1 h_5
          refine lv_aload_n S.1 S.2.1 dX5_peek_25 rfl (lv_at hl 0 rfl) ?_
          refine lv_dup S.1 S.2.1 dX5_peek_26 rfl ?_
          refine gfX5_4 S iX5 hK hP (h11 4 (by decide)) k1 dX5_peek_27 ?_
          refine lv_iconst (v := 1) S.1 S.2.1 dX5_peek_30 rfl ?_
          refine lv_iadd S.1 S.2.1 dX5_peek_31 ?_
          refine nm_o hf (fun I_6 eI_6 hf => ?_)
          refine pfX5_4 S iX5 hK hP hD hS (h11 4 (by decide)) k1 dX5_peek_32 eI_6 (fun H locs hP hD hS => ?_)
          refine lv_goto (tgt := 0) S.1 S.2.1 dX5_peek_35 (by decide) ?_
          exact ih0 _ _ hf _ _ _ hP hD hS (lv_sub hl [0] rfl)
  refine L0 _ (fun I_7 J_8 hf H locs ls hP hD hS hl => ?_)  n_13  _ _ hf _ _ _ hP hD hS (lv_sub hl [0] rfl)
  exact jn38 _ _ hf _ _ _ hP hD hS (lv_sub hl [0] rfl)
abbrev rmX5_isDigit : Room := { frames := 0, cells := 0, slots := 0, locals := 0 }
theorem yk_X5_isDigit : yOk yX5_isDigit RX5 1 := by unfold yOk; decide +kernel
def f_X5_isDigit (x0 : Int32) (I : MI) (J : MJ) (Q : Int32 → MI → MJ → Prop) : Prop :=
  ((x0 < (48 : Int32) → Q (0 : Int32) I J) ∧ (¬ x0 < (48 : Int32) → (((57 : Int32) < x0 → Q (0 : Int32) I J) ∧ (¬ (57 : Int32) < x0 → Q (1 : Int32) I J))))
set_option maxRecDepth 100000 in
set_option maxHeartbeats 4000000 in
theorem c_X5_isDigit {l : Launch} {E : EV} {ps : List (Nat × Nat)}  {x0 : Int32} {I : MI} {J : MJ} {Q : Int32 → MI → MJ → Prop} (hf : f_X5_isDigit x0 I J Q) : KI l yX5_isDigit wsX5_isDigit rmX5_isDigit E ps [.int x0] I J Q := by
  refine K_ofI (cc := cX5_isDigit) (maxL := 1) (ty := .boolean) (by decide +kernel) rfl (Nat.le_of_ble_eq_true rfl) (fun p e s m args below meth c Qm hret S hK hX => ?_)
  have hA : ∀ q, s.heap.size ≤ q → AA E ps s.heap.size q := fun _ h => Or.inr h
  intro H locs ls hP hD hS hl
  unfold f_X5_isDigit at hf
  refine lv_iload_n S.1 S.2.1 dX5_isDigit_0 rfl (lv_at hl 0 rfl) ?_
  refine lv_bipush (v := 48) S.1 S.2.1 dX5_isDigit_1 rfl ?_
  refine lv_icmp_lt (tgt := 16) S.1 S.2.1 dX5_isDigit_3 (by decide) (fun h_1 => ?_) (fun h_1 => ?_)
  · have hf := hf.1 h_1
    refine lv_iconst (v := 0) S.1 S.2.1 dX5_isDigit_16 rfl ?_
    exact hret hf rfl hP hD hS dX5_isDigit_17
  · have hf := hf.2 h_1
    refine lv_iload_n S.1 S.2.1 dX5_isDigit_6 rfl (lv_at hl 0 rfl) ?_
    refine lv_bipush (v := 57) S.1 S.2.1 dX5_isDigit_7 rfl ?_
    refine lv_icmp_gt (tgt := 16) S.1 S.2.1 dX5_isDigit_9 (by decide) (fun h_2 => ?_) (fun h_2 => ?_)
    · have hf := hf.1 h_2
      refine lv_iconst (v := 0) S.1 S.2.1 dX5_isDigit_16 rfl ?_
      exact hret hf rfl hP hD hS dX5_isDigit_17
    · have hf := hf.2 h_2
      refine lv_iconst (v := 1) S.1 S.2.1 dX5_isDigit_12 rfl ?_
      refine lv_goto (tgt := 17) S.1 S.2.1 dX5_isDigit_13 (by decide) ?_
      exact hret hf rfl hP hD hS dX5_isDigit_17
abbrev rmX5_readSign : Room := { frames := 1, cells := 0, slots := 0, locals := 22 }
theorem yk_X5_readSign : yOk yX5_readSign RX5 1 := by unfold yOk; decide +kernel
def f_X5_readSign (x1 : Int32) (I : MI) (J : MJ) (Q : Int32 → MI → MJ → Prop) : Prop :=
  f_X5_peek I J (fun (v_3 : Int32) (I_1 : MI) (J_2 : MJ) => ((v_3 = x1 → ∀ I_5 : MI, I_5 = sI I_1 11 4 4 ((I_1 11 4 4) + (1 : Int32)) → Q (1 : Int32) I_5 J_2) ∧ (¬ v_3 = x1 → f_X5_fail (-2 : Int32) (I_1 11 4 4) I_1 J_2 (fun (v_8 : Int32) (I_6 : MI) (J_7 : MJ) => (bo v_8 ∧ Q v_8 I_6 J_7)))))
set_option maxRecDepth 100000 in
set_option maxHeartbeats 4000000 in
theorem c_X5_readSign {l : Launch} {E : EV} {ps : List (Nat × Nat)} (h11 : ∀ r, r < 11 → (11, r) ∈ ps) (hG : ∀ k r, k < 11 → r < 16 → (k, r) ∈ ps) {x1 : Int32} {I : MI} {J : MJ} {Q : Int32 → MI → MJ → Prop} (hf : f_X5_readSign x1 I J Q) : KI l yX5_readSign wsX5_readSign rmX5_readSign E ps [.ref (eA E 11 4), .int x1] I J Q := by
  refine K_ofI (cc := cX5_readSign) (maxL := 2) (ty := .boolean) (by decide +kernel) rfl (Nat.le_of_ble_eq_true rfl) (fun p e s m args below meth c Qm hret S hK hX => ?_)
  have hA : ∀ q, s.heap.size ≤ q → AA E ps s.heap.size q := fun _ h => Or.inr h
  have k1 := S.2.2.2.2 (.fieldLink RX5 41 "RhymeRoofs$SetupReader" "at" "I") (by decide +kernel)
  have iX5 : ∀ w ∈ wsX50, w ∈ wsX5_readSign := fun _ h => List.mem_cons_of_mem _ (List.mem_append_right _ h)
  intro H locs ls hP hD hS hl
  unfold f_X5_readSign at hf
  refine lv_aload_n S.1 S.2.1 dX5_readSign_0 rfl (lv_at hl 0 rfl) ?_
  refine R_cVi (As := []) (rest := []) S (c_X5_peek (h11 := h11) (hG := hG)  hf) gX5_readSign_X5_peek rfl yk_X5_peek ⟨⟨Nat.le_of_ble_eq_true rfl, Nat.le_of_ble_eq_true rfl⟩, rfl, rfl⟩ hK hP hD hS hX hA (h11 4 (by decide)) (cF_o E _ _ 4) rfl rfl hl.1 rfl (Nat.le_of_ble_eq_true rfl) ⟨Nat.zero_le _, Nat.zero_le _⟩ dX5_readSign_1 (fun v_3 I_1 J_2 H locs hf hP hD hS => ?_)
  refine lv_iload_n S.1 S.2.1 dX5_readSign_4 rfl (lv_at hl 1 rfl) ?_
  refine lv_icmp_eq (tgt := 19) S.1 S.2.1 dX5_readSign_5 (by decide) (fun h_4 => ?_) (fun h_4 => ?_)
  · have hf := hf.1 h_4
    refine lv_aload_n S.1 S.2.1 dX5_readSign_19 rfl (lv_at hl 0 rfl) ?_
    refine lv_dup S.1 S.2.1 dX5_readSign_20 rfl ?_
    refine gfX5_4 S iX5 hK hP (h11 4 (by decide)) k1 dX5_readSign_21 ?_
    refine lv_iconst (v := 1) S.1 S.2.1 dX5_readSign_24 rfl ?_
    refine lv_iadd S.1 S.2.1 dX5_readSign_25 ?_
    refine nm_o hf (fun I_5 eI_5 hf => ?_)
    refine pfX5_4 S iX5 hK hP hD hS (h11 4 (by decide)) k1 dX5_readSign_26 eI_5 (fun H locs hP hD hS => ?_)
    refine lv_iconst (v := 1) S.1 S.2.1 dX5_readSign_29 rfl ?_
    exact hret hf rfl hP hD hS dX5_readSign_30
  · have hf := hf.2 h_4
    refine lv_aload_n S.1 S.2.1 dX5_readSign_8 rfl (lv_at hl 0 rfl) ?_
    refine lv_bipush (v := (-2)) S.1 S.2.1 dX5_readSign_9 rfl ?_
    refine lv_aload_n S.1 S.2.1 dX5_readSign_11 rfl (lv_at hl 0 rfl) ?_
    refine gfX5_4 S iX5 hK hP (h11 4 (by decide)) k1 dX5_readSign_12 ?_
    refine R_cVi (As := [.int (-2 : Int32), .int (I_1 11 4 4)]) (rest := []) S (c_X5_fail (h11 := h11) (hG := hG)  hf) gX5_readSign_X5_fail rfl yk_X5_fail ⟨⟨Nat.le_of_ble_eq_true rfl, Nat.le_of_ble_eq_true rfl⟩, rfl, rfl⟩ hK hP hD hS hX hA (h11 4 (by decide)) (cF_o E _ _ 4) rfl rfl hl.1 rfl (Nat.le_of_ble_eq_true rfl) ⟨Nat.zero_le _, Nat.zero_le _⟩ dX5_readSign_15 (fun v_8 I_6 J_7 H locs hf hP hD hS => ?_)
    obtain ⟨h_9, hf⟩ := hf
    exact hret hf h_9.1 hP hD hS dX5_readSign_18
abbrev rmX5_readNumber : Room := { frames := 1, cells := 0, slots := 0, locals := 64 }
theorem yk_X5_readNumber : yOk yX5_readNumber RX5 2 := by unfold yOk; decide +kernel
def f_X5_readNumber_B34 (K102 : MI → MJ → Prop) (rec34 : MI → MJ → Prop) (I_10 : MI) (J_11 : MJ) : Prop :=
  (((I_10 11 4 3) ≤ (I_10 11 4 4) → K102 I_10 J_11) ∧ (¬ (I_10 11 4 3) ≤ (I_10 11 4 4) → (vp_in (I_10 11 4 4) 600 ∧ f_X5_isDigit (I_10 11 5 (I_10 11 4 4).toNatClampNeg) I_10 J_11 (fun (v_16 : Int32) (I_14 : MI) (J_15 : MJ) => ((v_16 = (0 : Int32) → K102 I_14 J_15) ∧ (¬ v_16 = (0 : Int32) → (vp_in (I_14 11 4 4) 600 ∧ ∀ I_19 : MI, I_19 = sI I_14 11 4 6 (if ((((10 : Int32) * (I_14 11 4 6)) + (I_14 11 5 (I_14 11 4 4).toNatClampNeg)) - (48 : Int32)) < (100000 : Int32) then ((((10 : Int32) * (I_14 11 4 6)) + (I_14 11 5 (I_14 11 4 4).toNatClampNeg)) - (48 : Int32)) else (100000 : Int32)) → ∀ I_20 : MI, I_20 = sI I_19 11 4 4 ((I_19 11 4 4) + (1 : Int32)) → rec34 I_20 J_15)))))))
def f_X5_readNumber_L34 (K102 : MI → MJ → Prop) : Nat → MI → MJ → Prop
  | 0, _, _ => False
  | n + 1, I_10, J_11 => f_X5_readNumber_B34 K102 (f_X5_readNumber_L34 K102 n) I_10 J_11
def f_X5_readNumber_J118 (Q : Int32 → MI → MJ → Prop) (I_28 : MI) (J_29 : MJ) : Prop :=
  f_X5_fail (-3 : Int32) (I_28 11 4 7) I_28 J_29 (fun (v_32 : Int32) (I_30 : MI) (J_31 : MJ) => ((v_32 = (0 : Int32) → Q (0 : Int32) I_30 J_31) ∧ (¬ v_32 = (0 : Int32) → Q (1 : Int32) I_30 J_31)))
def f_X5_readNumber_J102 (Q : Int32 → MI → MJ → Prop) (x1_23 : Int32) (x2_24 : Int32) (I_25 : MI) (J_26 : MJ) : Prop :=
  (((I_25 11 4 6) < x1_23 → f_X5_readNumber_J118 Q I_25 J_26) ∧ (¬ (I_25 11 4 6) < x1_23 → (((I_25 11 4 6) ≤ x2_24 → Q (1 : Int32) I_25 J_26) ∧ (¬ (I_25 11 4 6) ≤ x2_24 → f_X5_readNumber_J118 Q I_25 J_26))))
def f_X5_readNumber (x1 : Int32) (x2 : Int32) (I : MI) (J : MJ) (Q : Int32 → MI → MJ → Prop) : Prop :=
  f_X5_peek I J (fun (v_3 : Int32) (I_1 : MI) (J_2 : MJ) => f_X5_isDigit v_3 I_1 J_2 (fun (v_6 : Int32) (I_4 : MI) (J_5 : MJ) => ((v_6 = (0 : Int32) → f_X5_fail (-2 : Int32) (I_4 11 4 4) I_4 J_5 (fun (v_38 : Int32) (I_36 : MI) (J_37 : MJ) => (bo v_38 ∧ Q v_38 I_36 J_37))) ∧ (¬ v_6 = (0 : Int32) → ∀ I_8 : MI, I_8 = sI I_4 11 4 7 (I_4 11 4 4) → ∀ I_9 : MI, I_9 = sI I_8 11 4 6 (0 : Int32) → ∃ n : Nat, f_X5_readNumber_L34 (fun (I_21 : MI) (J_22 : MJ) => f_X5_readNumber_J102 Q x1 x2 I_21 J_22) n  I_9 J_5))))
set_option maxRecDepth 100000 in
set_option maxHeartbeats 4000000 in
theorem c_X5_readNumber {l : Launch} {E : EV} {ps : List (Nat × Nat)} (h11 : ∀ r, r < 11 → (11, r) ∈ ps) (hG : ∀ k r, k < 11 → r < 16 → (k, r) ∈ ps) {x1 : Int32} {x2 : Int32} {I : MI} {J : MJ} {Q : Int32 → MI → MJ → Prop} (hf : f_X5_readNumber x1 x2 I J Q) : KI l yX5_readNumber wsX5_readNumber rmX5_readNumber E ps [.ref (eA E 11 4), .int x1, .int x2] I J Q := by
  refine K_ofI (cc := cX5_readNumber) (maxL := 3) (ty := .boolean) (by decide +kernel) rfl (Nat.le_of_ble_eq_true rfl) (fun p e s m args below meth c Qm hret S hK hX => ?_)
  have hA : ∀ q, s.heap.size ≤ q → AA E ps s.heap.size q := fun _ h => Or.inr h
  have k1 := S.2.2.2.2 (.fieldLink RX5 41 "RhymeRoofs$SetupReader" "at" "I") (by decide +kernel)
  have iX5 : ∀ w ∈ wsX50, w ∈ wsX5_readNumber := fun _ h => List.mem_cons_of_mem _ (List.mem_append_right _ h)
  have k2 := S.2.2.2.2 (.fieldLink RX5 85 "RhymeRoofs$SetupReader" "tokenStart" "I") (by decide +kernel)
  have k3 := S.2.2.2.2 (.fieldLink RX5 88 "RhymeRoofs$SetupReader" "number" "I") (by decide +kernel)
  have k4 := S.2.2.2.2 (.fieldLink RX5 32 "RhymeRoofs$SetupReader" "end" "I") (by decide +kernel)
  have k5 := S.2.2.2.2 (.fieldLink RX5 22 "RhymeRoofs$SetupReader" "text" "[I") (by decide +kernel)
  have k6 := S.2.2.2.2 (.constant RX5 91 (100000)) (by decide +kernel)
  have k7 := S.2.2.2.2 (.methodLink RX5 26 Lib.Math.min.name) (by decide +kernel)
  have k8 := S.2.2.2.2 (.static Lib.Math.min.name) (by decide +kernel)
  have k9 := S.2.2.2.2 (.initialized "java/lang/Math") (by decide +kernel)
  have k10 := S.2.2.2.2 (.code Lib.Math.min.name Lib.Math.min.code 2 (some .int)) (by decide +kernel)
  have jn118 : ∀ (I_28 : MI) (J_29 : MJ), f_X5_readNumber_J118 Q I_28 J_29 → Wj p l e (rmX5_readNumber) s m args below meth c Qm E ps 3 I_28 J_29 118 [(0, .ref (eA E 11 4))] [] := by
    intro I_28 J_29 hf H locs ls hP hD hS hl
    unfold f_X5_readNumber_J118 at hf
    refine lv_aload_n S.1 S.2.1 dX5_readNumber_118 rfl (lv_at hl 0 rfl) ?_
    refine lv_bipush (v := (-3)) S.1 S.2.1 dX5_readNumber_119 rfl ?_
    refine lv_aload_n S.1 S.2.1 dX5_readNumber_121 rfl (lv_at hl 0 rfl) ?_
    refine gfX5_7 S iX5 hK hP (h11 4 (by decide)) k2 dX5_readNumber_122 ?_
    refine R_cVi (As := [.int (-3 : Int32), .int (I_28 11 4 7)]) (rest := []) S (c_X5_fail (h11 := h11) (hG := hG)  hf) gX5_readNumber_X5_fail rfl yk_X5_fail ⟨⟨Nat.le_of_ble_eq_true rfl, Nat.le_of_ble_eq_true rfl⟩, rfl, rfl⟩ hK hP hD hS hX hA (h11 4 (by decide)) (cF_o E _ _ 4) rfl rfl hl.1 rfl (Nat.le_of_ble_eq_true rfl) ⟨Nat.zero_le _, Nat.zero_le _⟩ dX5_readNumber_125 (fun v_32 I_30 J_31 H locs hf hP hD hS => ?_)
    refine lv_if_eq (tgt := 135) S.1 S.2.1 dX5_readNumber_128 (by decide) (fun h_33 => ?_) (fun h_33 => ?_)
    · have hf := hf.1 h_33
      refine lv_iconst (v := 0) S.1 S.2.1 dX5_readNumber_135 rfl ?_
      exact hret hf rfl hP hD hS dX5_readNumber_136
    · have hf := hf.2 h_33
      refine lv_iconst (v := 1) S.1 S.2.1 dX5_readNumber_131 rfl ?_
      refine lv_goto (tgt := 136) S.1 S.2.1 dX5_readNumber_132 (by decide) ?_
      exact hret hf rfl hP hD hS dX5_readNumber_136
  have jn102 : ∀ (x1_23 : Int32) (x2_24 : Int32) (I_25 : MI) (J_26 : MJ), f_X5_readNumber_J102 Q x1_23 x2_24 I_25 J_26 → Wj p l e (rmX5_readNumber) s m args below meth c Qm E ps 3 I_25 J_26 102 [(0, .ref (eA E 11 4)), (1, .int x1_23), (2, .int x2_24)] [] := by
    intro x1_23 x2_24 I_25 J_26 hf H locs ls hP hD hS hl
    unfold f_X5_readNumber_J102 at hf
    refine lv_aload_n S.1 S.2.1 dX5_readNumber_102 rfl (lv_at hl 0 rfl) ?_
    refine gfX5_6 S iX5 hK hP (h11 4 (by decide)) k3 dX5_readNumber_103 ?_
    refine lv_iload_n S.1 S.2.1 dX5_readNumber_106 rfl (lv_at hl 1 rfl) ?_
    refine lv_icmp_lt (tgt := 118) S.1 S.2.1 dX5_readNumber_107 (by decide) (fun h_27 => ?_) (fun h_27 => ?_)
    · have hf := hf.1 h_27
      exact jn118 _ _ hf _ _ _ hP hD hS (lv_sub hl [0] rfl)
    · have hf := hf.2 h_27
      refine lv_aload_n S.1 S.2.1 dX5_readNumber_110 rfl (lv_at hl 0 rfl) ?_
      refine gfX5_6 S iX5 hK hP (h11 4 (by decide)) k3 dX5_readNumber_111 ?_
      refine lv_iload_n S.1 S.2.1 dX5_readNumber_114 rfl (lv_at hl 2 rfl) ?_
      refine lv_icmp_le (tgt := 131) S.1 S.2.1 dX5_readNumber_115 (by decide) (fun h_34 => ?_) (fun h_34 => ?_)
      · have hf := hf.1 h_34
        refine lv_iconst (v := 1) S.1 S.2.1 dX5_readNumber_131 rfl ?_
        refine lv_goto (tgt := 136) S.1 S.2.1 dX5_readNumber_132 (by decide) ?_
        exact hret hf rfl hP hD hS dX5_readNumber_136
      · have hf := hf.2 h_34
        exact jn118 _ _ hf _ _ _ hP hD hS (lv_sub hl [0] rfl)
  intro H locs ls hP hD hS hl
  unfold f_X5_readNumber at hf
  refine lv_aload_n S.1 S.2.1 dX5_readNumber_0 rfl (lv_at hl 0 rfl) ?_
  refine R_cVi (As := []) (rest := []) S (c_X5_peek (h11 := h11) (hG := hG)  hf) gX5_readNumber_X5_peek rfl yk_X5_peek ⟨⟨Nat.le_of_ble_eq_true rfl, Nat.le_of_ble_eq_true rfl⟩, rfl, rfl⟩ hK hP hD hS hX hA (h11 4 (by decide)) (cF_o E _ _ 4) rfl rfl hl.1 rfl (Nat.le_of_ble_eq_true rfl) ⟨Nat.zero_le _, Nat.zero_le _⟩ dX5_readNumber_1 (fun v_3 I_1 J_2 H locs hf hP hD hS => ?_)
  refine R_cSi (As := [.int v_3]) (rest := []) S (c_X5_isDigit   hf) gX5_readNumber_X5_isDigit rfl yk_X5_isDigit ⟨⟨Nat.le_of_ble_eq_true rfl, Nat.le_of_ble_eq_true rfl⟩, rfl, rfl⟩ hK hP hD hS hX hA rfl hl.1 rfl (Nat.le_of_ble_eq_true rfl) ⟨Nat.zero_le _, Nat.zero_le _⟩ dX5_readNumber_4 (fun v_6 I_4 J_5 H locs hf hP hD hS => ?_)
  refine lv_if_ne (tgt := 21) S.1 S.2.1 dX5_readNumber_7 (by decide) (fun h_7 => ?_) (fun h_7 => ?_)
  · have hf := hf.2 h_7
    refine lv_aload_n S.1 S.2.1 dX5_readNumber_21 rfl (lv_at hl 0 rfl) ?_
    refine lv_aload_n S.1 S.2.1 dX5_readNumber_22 rfl (lv_at hl 0 rfl) ?_
    refine gfX5_4 S iX5 hK hP (h11 4 (by decide)) k1 dX5_readNumber_23 ?_
    refine nm_o hf (fun I_8 eI_8 hf => ?_)
    refine pfX5_7 S iX5 hK hP hD hS (h11 4 (by decide)) k2 dX5_readNumber_26 eI_8 (fun H locs hP hD hS => ?_)
    refine lv_aload_n S.1 S.2.1 dX5_readNumber_29 rfl (lv_at hl 0 rfl) ?_
    refine lv_iconst (v := 0) S.1 S.2.1 dX5_readNumber_30 rfl ?_
    refine nm_o hf (fun I_9 eI_9 hf => ?_)
    refine pfX5_6 S iX5 hK hP hD hS (h11 4 (by decide)) k3 dX5_readNumber_31 eI_9 (fun H locs hP hD hS => ?_)
    obtain ⟨n_35, hf⟩ := hf
    have L34 : ∀ (K102 : MI → MJ → Prop), (∀ (I_21 : MI) (J_22 : MJ), K102 I_21 J_22 → Wj p l e (rmX5_readNumber) s m args below meth c Qm E ps 3 I_21 J_22 102 [(0, .ref (eA E 11 4)), (1, .int x1), (2, .int x2)] []) → ∀ (n : Nat) (I_10 : MI) (J_11 : MJ), f_X5_readNumber_L34 K102 n I_10 J_11 → Wj p l e (rmX5_readNumber) s m args below meth c Qm E ps 3 I_10 J_11 34 [(0, .ref (eA E 11 4)), (1, .int x1), (2, .int x2)] [] := by
      intro K102 kx102 n
      induction n with
      | zero => intro I_10 J_11 hf; exact hf.elim
      | succ n ih34 =>
        intro I_10 J_11 hf
        have hf : f_X5_readNumber_B34 K102 (f_X5_readNumber_L34 K102 n) I_10 J_11 := hf
        intro H locs ls hP hD hS hl
        unfold f_X5_readNumber_B34 at hf
        refine lv_aload_n S.1 S.2.1 dX5_readNumber_34 rfl (lv_at hl 0 rfl) ?_
        refine gfX5_4 S iX5 hK hP (h11 4 (by decide)) k1 dX5_readNumber_35 ?_
        refine lv_aload_n S.1 S.2.1 dX5_readNumber_38 rfl (lv_at hl 0 rfl) ?_
        refine gfX5_3 S iX5 hK hP (h11 4 (by decide)) k4 dX5_readNumber_39 ?_
        refine lv_icmp_ge (tgt := 102) S.1 S.2.1 dX5_readNumber_42 (by decide) (fun h_12 => ?_) (fun h_12 => ?_)
        · have hf := hf.1 h_12
          exact kx102 _ _ hf _ _ _ hP hD hS (lv_sub hl [0, 1, 2] rfl)
        · have hf := hf.2 h_12
          refine lv_aload_n S.1 S.2.1 dX5_readNumber_45 rfl (lv_at hl 0 rfl) ?_
          refine gfX5_2 S iX5 hK hP (h11 4 (by decide)) k5 dX5_readNumber_46 ?_
          refine lv_aload_n S.1 S.2.1 dX5_readNumber_49 rfl (lv_at hl 0 rfl) ?_
          refine gfX5_4 S iX5 hK hP (h11 4 (by decide)) k1 dX5_readNumber_50 ?_
          obtain ⟨h_13, hf⟩ := hf
          refine R_iald S.1 S.2.1 hK hP (h11 5 (by decide)) (IAo5 E) h_13 dX5_readNumber_53 ?_
          refine R_cSi (As := [.int (I_10 11 5 (I_10 11 4 4).toNatClampNeg)]) (rest := []) S (c_X5_isDigit   hf) gX5_readNumber_X5_isDigit rfl yk_X5_isDigit ⟨⟨Nat.le_of_ble_eq_true rfl, Nat.le_of_ble_eq_true rfl⟩, rfl, rfl⟩ hK hP hD hS hX hA rfl hl.1 rfl (Nat.le_of_ble_eq_true rfl) ⟨Nat.zero_le _, Nat.zero_le _⟩ dX5_readNumber_54 (fun v_16 I_14 J_15 H locs hf hP hD hS => ?_)
          refine lv_if_eq (tgt := 102) S.1 S.2.1 dX5_readNumber_57 (by decide) (fun h_17 => ?_) (fun h_17 => ?_)
          · have hf := hf.1 h_17
            exact kx102 _ _ hf _ _ _ hP hD hS (lv_sub hl [0, 1, 2] rfl)
          · have hf := hf.2 h_17
            refine lv_aload_n S.1 S.2.1 dX5_readNumber_60 rfl (lv_at hl 0 rfl) ?_
            refine lv_ldc (v := 100000) S.1 S.2.1 S.2.2.2.1 k6 dX5_readNumber_61 ?_
            refine lv_bipush (v := 10) S.1 S.2.1 dX5_readNumber_63 rfl ?_
            refine lv_aload_n S.1 S.2.1 dX5_readNumber_65 rfl (lv_at hl 0 rfl) ?_
            refine gfX5_6 S iX5 hK hP (h11 4 (by decide)) k3 dX5_readNumber_66 ?_
            refine lv_imul S.1 S.2.1 dX5_readNumber_69 ?_
            refine lv_aload_n S.1 S.2.1 dX5_readNumber_70 rfl (lv_at hl 0 rfl) ?_
            refine gfX5_2 S iX5 hK hP (h11 4 (by decide)) k5 dX5_readNumber_71 ?_
            refine lv_aload_n S.1 S.2.1 dX5_readNumber_74 rfl (lv_at hl 0 rfl) ?_
            refine gfX5_4 S iX5 hK hP (h11 4 (by decide)) k1 dX5_readNumber_75 ?_
            obtain ⟨h_18, hf⟩ := hf
            refine R_iald S.1 S.2.1 hK hP (h11 5 (by decide)) (IAo5 E) h_18 dX5_readNumber_78 ?_
            refine lv_iadd S.1 S.2.1 dX5_readNumber_79 ?_
            refine lv_bipush (v := 48) S.1 S.2.1 dX5_readNumber_80 rfl ?_
            refine lv_isub S.1 S.2.1 dX5_readNumber_82 ?_
            refine va_mmin S.1 S.2.1 (S.2.2.1.trans hl.1.symm) S.2.2.2.1 k7 k8 k9 k10 (Nat.le_of_ble_eq_true rfl) (Nat.le_of_ble_eq_true rfl) (Nat.zero_le _) (Nat.zero_le _) dX5_readNumber_83 ?_
            refine nm_o hf (fun I_19 eI_19 hf => ?_)
            refine pfX5_6 S iX5 hK hP hD hS (h11 4 (by decide)) k3 dX5_readNumber_86 eI_19 (fun H locs hP hD hS => ?_)
            refine lv_aload_n S.1 S.2.1 dX5_readNumber_89 rfl (lv_at hl 0 rfl) ?_
            refine lv_dup S.1 S.2.1 dX5_readNumber_90 rfl ?_
            refine gfX5_4 S iX5 hK hP (h11 4 (by decide)) k1 dX5_readNumber_91 ?_
            refine lv_iconst (v := 1) S.1 S.2.1 dX5_readNumber_94 rfl ?_
            refine lv_iadd S.1 S.2.1 dX5_readNumber_95 ?_
            refine nm_o hf (fun I_20 eI_20 hf => ?_)
            refine pfX5_4 S iX5 hK hP hD hS (h11 4 (by decide)) k1 dX5_readNumber_96 eI_20 (fun H locs hP hD hS => ?_)
            refine lv_goto (tgt := 34) S.1 S.2.1 dX5_readNumber_99 (by decide) ?_
            exact ih34 _ _ hf _ _ _ hP hD hS (lv_sub hl [0, 1, 2] rfl)
    refine L34 _ (fun I_21 J_22 hf H locs ls hP hD hS hl => ?_)  n_35  _ _ hf _ _ _ hP hD hS (lv_sub hl [0, 1, 2] rfl)
    exact jn102 _ _ _ _ hf _ _ _ hP hD hS (lv_sub hl [0, 1, 2] rfl)
  · have hf := hf.1 h_7
    refine lv_aload_n S.1 S.2.1 dX5_readNumber_10 rfl (lv_at hl 0 rfl) ?_
    refine lv_bipush (v := (-2)) S.1 S.2.1 dX5_readNumber_11 rfl ?_
    refine lv_aload_n S.1 S.2.1 dX5_readNumber_13 rfl (lv_at hl 0 rfl) ?_
    refine gfX5_4 S iX5 hK hP (h11 4 (by decide)) k1 dX5_readNumber_14 ?_
    refine R_cVi (As := [.int (-2 : Int32), .int (I_4 11 4 4)]) (rest := []) S (c_X5_fail (h11 := h11) (hG := hG)  hf) gX5_readNumber_X5_fail rfl yk_X5_fail ⟨⟨Nat.le_of_ble_eq_true rfl, Nat.le_of_ble_eq_true rfl⟩, rfl, rfl⟩ hK hP hD hS hX hA (h11 4 (by decide)) (cF_o E _ _ 4) rfl rfl hl.1 rfl (Nat.le_of_ble_eq_true rfl) ⟨Nat.zero_le _, Nat.zero_le _⟩ dX5_readNumber_17 (fun v_38 I_36 J_37 H locs hf hP hD hS => ?_)
    obtain ⟨h_39, hf⟩ := hf
    exact hret hf h_39.1 hP hD hS dX5_readNumber_20
abbrev rmX5_readRun : Room := { frames := 1, cells := 0, slots := 0, locals := 22 }
theorem yk_X5_readRun : yOk yX5_readRun RX5 0 := by unfold yOk; decide +kernel
def f_X5_readRun_B29 (K68 : MI → MJ → Prop) (rec29 : MI → MJ → Prop) (I_9 : MI) (J_10 : MJ) : Prop :=
  (((I_9 11 4 3) ≤ (I_9 11 4 4) → K68 I_9 J_10) ∧ (¬ (I_9 11 4 3) ≤ (I_9 11 4 4) → (vp_in (I_9 11 4 4) 600 ∧ f_X6_isLetter (I_9 11 5 (I_9 11 4 4).toNatClampNeg) I_9 J_10 (fun (v_15 : Int32) (I_13 : MI) (J_14 : MJ) => ((v_15 = (0 : Int32) → K68 I_13 J_14) ∧ (¬ v_15 = (0 : Int32) → ∀ I_17 : MI, I_17 = sI I_13 11 4 4 ((I_13 11 4 4) + (1 : Int32)) → rec29 I_17 J_14))))))
def f_X5_readRun_L29 (K68 : MI → MJ → Prop) : Nat → MI → MJ → Prop
  | 0, _, _ => False
  | n + 1, I_9, J_10 => f_X5_readRun_B29 K68 (f_X5_readRun_L29 K68 n) I_9 J_10
def f_X5_readRun (I : MI) (J : MJ) (Q : Int32 → MI → MJ → Prop) : Prop :=
  f_X5_peek I J (fun (v_3 : Int32) (I_1 : MI) (J_2 : MJ) => f_X6_isLetter v_3 I_1 J_2 (fun (v_6 : Int32) (I_4 : MI) (J_5 : MJ) => ((v_6 = (0 : Int32) → f_X5_fail (-2 : Int32) (I_4 11 4 4) I_4 J_5 (fun (v_23 : Int32) (I_21 : MI) (J_22 : MJ) => (bo v_23 ∧ Q v_23 I_21 J_22))) ∧ (¬ v_6 = (0 : Int32) → ∀ I_8 : MI, I_8 = sI I_4 11 4 7 (I_4 11 4 4) → ∃ n : Nat, f_X5_readRun_L29 (fun (I_18 : MI) (J_19 : MJ) => Q (1 : Int32) I_18 J_19) n  I_8 J_5))))
set_option maxRecDepth 100000 in
set_option maxHeartbeats 4000000 in
theorem c_X5_readRun {l : Launch} {E : EV} {ps : List (Nat × Nat)} (h11 : ∀ r, r < 11 → (11, r) ∈ ps) (hG : ∀ k r, k < 11 → r < 16 → (k, r) ∈ ps) {I : MI} {J : MJ} {Q : Int32 → MI → MJ → Prop} (hf : f_X5_readRun I J Q) : KI l yX5_readRun wsX5_readRun rmX5_readRun E ps [.ref (eA E 11 4)] I J Q := by
  refine K_ofI (cc := cX5_readRun) (maxL := 1) (ty := .boolean) (by decide +kernel) rfl (Nat.le_of_ble_eq_true rfl) (fun p e s m args below meth c Qm hret S hK hX => ?_)
  have hA : ∀ q, s.heap.size ≤ q → AA E ps s.heap.size q := fun _ h => Or.inr h
  have k1 := S.2.2.2.2 (.fieldLink RX5 41 "RhymeRoofs$SetupReader" "at" "I") (by decide +kernel)
  have iX5 : ∀ w ∈ wsX50, w ∈ wsX5_readRun := fun _ h => List.mem_cons_of_mem _ (List.mem_append_right _ h)
  have k2 := S.2.2.2.2 (.fieldLink RX5 85 "RhymeRoofs$SetupReader" "tokenStart" "I") (by decide +kernel)
  have k3 := S.2.2.2.2 (.fieldLink RX5 32 "RhymeRoofs$SetupReader" "end" "I") (by decide +kernel)
  have k4 := S.2.2.2.2 (.fieldLink RX5 22 "RhymeRoofs$SetupReader" "text" "[I") (by decide +kernel)
  intro H locs ls hP hD hS hl
  unfold f_X5_readRun at hf
  refine lv_aload_n S.1 S.2.1 dX5_readRun_0 rfl (lv_at hl 0 rfl) ?_
  refine R_cVi (As := []) (rest := []) S (c_X5_peek (h11 := h11) (hG := hG)  hf) gX5_readRun_X5_peek rfl yk_X5_peek ⟨⟨Nat.le_of_ble_eq_true rfl, Nat.le_of_ble_eq_true rfl⟩, rfl, rfl⟩ hK hP hD hS hX hA (h11 4 (by decide)) (cF_o E _ _ 4) rfl rfl hl.1 rfl (Nat.le_of_ble_eq_true rfl) ⟨Nat.zero_le _, Nat.zero_le _⟩ dX5_readRun_1 (fun v_3 I_1 J_2 H locs hf hP hD hS => ?_)
  refine R_cSi (As := [.int v_3]) (rest := []) S (c_X6_isLetter   hf) gX5_readRun_X6_isLetter rfl yk_X6_isLetter ⟨⟨Nat.le_of_ble_eq_true rfl, Nat.le_of_ble_eq_true rfl⟩, rfl, rfl⟩ hK hP hD hS hX hA rfl hl.1 rfl (Nat.le_of_ble_eq_true rfl) ⟨Nat.zero_le _, Nat.zero_le _⟩ dX5_readRun_4 (fun v_6 I_4 J_5 H locs hf hP hD hS => ?_)
  refine lv_if_ne (tgt := 21) S.1 S.2.1 dX5_readRun_7 (by decide) (fun h_7 => ?_) (fun h_7 => ?_)
  · have hf := hf.2 h_7
    refine lv_aload_n S.1 S.2.1 dX5_readRun_21 rfl (lv_at hl 0 rfl) ?_
    refine lv_aload_n S.1 S.2.1 dX5_readRun_22 rfl (lv_at hl 0 rfl) ?_
    refine gfX5_4 S iX5 hK hP (h11 4 (by decide)) k1 dX5_readRun_23 ?_
    refine nm_o hf (fun I_8 eI_8 hf => ?_)
    refine pfX5_7 S iX5 hK hP hD hS (h11 4 (by decide)) k2 dX5_readRun_26 eI_8 (fun H locs hP hD hS => ?_)
    obtain ⟨n_20, hf⟩ := hf
    have L29 : ∀ (K68 : MI → MJ → Prop), (∀ (I_18 : MI) (J_19 : MJ), K68 I_18 J_19 → Wj p l e (rmX5_readRun) s m args below meth c Qm E ps 1 I_18 J_19 68 [] []) → ∀ (n : Nat) (I_9 : MI) (J_10 : MJ), f_X5_readRun_L29 K68 n I_9 J_10 → Wj p l e (rmX5_readRun) s m args below meth c Qm E ps 1 I_9 J_10 29 [(0, .ref (eA E 11 4))] [] := by
      intro K68 kx68 n
      induction n with
      | zero => intro I_9 J_10 hf; exact hf.elim
      | succ n ih29 =>
        intro I_9 J_10 hf
        have hf : f_X5_readRun_B29 K68 (f_X5_readRun_L29 K68 n) I_9 J_10 := hf
        intro H locs ls hP hD hS hl
        unfold f_X5_readRun_B29 at hf
        refine lv_aload_n S.1 S.2.1 dX5_readRun_29 rfl (lv_at hl 0 rfl) ?_
        refine gfX5_4 S iX5 hK hP (h11 4 (by decide)) k1 dX5_readRun_30 ?_
        refine lv_aload_n S.1 S.2.1 dX5_readRun_33 rfl (lv_at hl 0 rfl) ?_
        refine gfX5_3 S iX5 hK hP (h11 4 (by decide)) k3 dX5_readRun_34 ?_
        refine lv_icmp_ge (tgt := 68) S.1 S.2.1 dX5_readRun_37 (by decide) (fun h_11 => ?_) (fun h_11 => ?_)
        · have hf := hf.1 h_11
          exact kx68 _ _ hf _ _ _ hP hD hS (lv_sub hl [] rfl)
        · have hf := hf.2 h_11
          refine lv_aload_n S.1 S.2.1 dX5_readRun_40 rfl (lv_at hl 0 rfl) ?_
          refine gfX5_2 S iX5 hK hP (h11 4 (by decide)) k4 dX5_readRun_41 ?_
          refine lv_aload_n S.1 S.2.1 dX5_readRun_44 rfl (lv_at hl 0 rfl) ?_
          refine gfX5_4 S iX5 hK hP (h11 4 (by decide)) k1 dX5_readRun_45 ?_
          obtain ⟨h_12, hf⟩ := hf
          refine R_iald S.1 S.2.1 hK hP (h11 5 (by decide)) (IAo5 E) h_12 dX5_readRun_48 ?_
          refine R_cSi (As := [.int (I_9 11 5 (I_9 11 4 4).toNatClampNeg)]) (rest := []) S (c_X6_isLetter   hf) gX5_readRun_X6_isLetter rfl yk_X6_isLetter ⟨⟨Nat.le_of_ble_eq_true rfl, Nat.le_of_ble_eq_true rfl⟩, rfl, rfl⟩ hK hP hD hS hX hA rfl hl.1 rfl (Nat.le_of_ble_eq_true rfl) ⟨Nat.zero_le _, Nat.zero_le _⟩ dX5_readRun_49 (fun v_15 I_13 J_14 H locs hf hP hD hS => ?_)
          refine lv_if_eq (tgt := 68) S.1 S.2.1 dX5_readRun_52 (by decide) (fun h_16 => ?_) (fun h_16 => ?_)
          · have hf := hf.1 h_16
            exact kx68 _ _ hf _ _ _ hP hD hS (lv_sub hl [] rfl)
          · have hf := hf.2 h_16
            refine lv_aload_n S.1 S.2.1 dX5_readRun_55 rfl (lv_at hl 0 rfl) ?_
            refine lv_dup S.1 S.2.1 dX5_readRun_56 rfl ?_
            refine gfX5_4 S iX5 hK hP (h11 4 (by decide)) k1 dX5_readRun_57 ?_
            refine lv_iconst (v := 1) S.1 S.2.1 dX5_readRun_60 rfl ?_
            refine lv_iadd S.1 S.2.1 dX5_readRun_61 ?_
            refine nm_o hf (fun I_17 eI_17 hf => ?_)
            refine pfX5_4 S iX5 hK hP hD hS (h11 4 (by decide)) k1 dX5_readRun_62 eI_17 (fun H locs hP hD hS => ?_)
            refine lv_goto (tgt := 29) S.1 S.2.1 dX5_readRun_65 (by decide) ?_
            exact ih29 _ _ hf _ _ _ hP hD hS (lv_sub hl [0] rfl)
    refine L29 _ (fun I_18 J_19 hf H locs ls hP hD hS hl => ?_)  n_20  _ _ hf _ _ _ hP hD hS (lv_sub hl [0] rfl)
    refine lv_iconst (v := 1) S.1 S.2.1 dX5_readRun_68 rfl ?_
    exact hret hf rfl hP hD hS dX5_readRun_69
  · have hf := hf.1 h_7
    refine lv_aload_n S.1 S.2.1 dX5_readRun_10 rfl (lv_at hl 0 rfl) ?_
    refine lv_bipush (v := (-2)) S.1 S.2.1 dX5_readRun_11 rfl ?_
    refine lv_aload_n S.1 S.2.1 dX5_readRun_13 rfl (lv_at hl 0 rfl) ?_
    refine gfX5_4 S iX5 hK hP (h11 4 (by decide)) k1 dX5_readRun_14 ?_
    refine R_cVi (As := [.int (-2 : Int32), .int (I_4 11 4 4)]) (rest := []) S (c_X5_fail (h11 := h11) (hG := hG)  hf) gX5_readRun_X5_fail rfl yk_X5_fail ⟨⟨Nat.le_of_ble_eq_true rfl, Nat.le_of_ble_eq_true rfl⟩, rfl, rfl⟩ hK hP hD hS hX hA (h11 4 (by decide)) (cF_o E _ _ 4) rfl rfl hl.1 rfl (Nat.le_of_ble_eq_true rfl) ⟨Nat.zero_le _, Nat.zero_le _⟩ dX5_readRun_17 (fun v_23 I_21 J_22 H locs hf hP hD hS => ?_)
    obtain ⟨h_24, hf⟩ := hf
    exact hret hf h_24.1 hP hD hS dX5_readRun_20
abbrev rmX5_runIs : Room := { frames := 4, cells := 0, slots := 0, locals := 85 }
theorem yk_X5_runIs : yOk yX5_runIs RX5 1 := by unfold yOk; decide +kernel
def f_X5_runIs_B20 (w : Nat) (K55 : MI → MJ → Prop) (K47 : MI → MJ → Prop) (rec20 : Int32 → MI → MJ → Prop) (x2_5 : Int32) (I_6 : MI) (J_7 : MJ) : Prop :=
  (((nI (sxL.getD w 0)) ≤ x2_5 → K55 I_6 J_7) ∧ (¬ (nI (sxL.getD w 0)) ≤ x2_5 → (vp_in ((I_6 11 4 7) + x2_5) 600 ∧ (vp_in x2_5 (sxL.getD w 0) ∧ (((I_6 11 5 ((I_6 11 4 7) + x2_5).toNatClampNeg) = (sxC w x2_5.toNatClampNeg) → ∀ x2_18 : Int32, x2_18 = x2_5 + (1 : Int32) → rec20 x2_18 I_6 J_7) ∧ (¬ (I_6 11 5 ((I_6 11 4 7) + x2_5).toNatClampNeg) = (sxC w x2_5.toNatClampNeg) → K47 I_6 J_7))))))
def f_X5_runIs_L20 (w : Nat) (K55 : MI → MJ → Prop) (K47 : MI → MJ → Prop) : Nat → Int32 → MI → MJ → Prop
  | 0, _, _, _ => False
  | n + 1, x2_5, I_6, J_7 => f_X5_runIs_B20 w K55 K47 (f_X5_runIs_L20 w K55 K47 n) x2_5 I_6 J_7
def f_X5_runIs (w : Nat) (I : MI) (J : MJ) (Q : Int32 → MI → MJ → Prop) : Prop :=
  ((((I 11 4 4) - (I 11 4 7)) = (nI (sxL.getD w 0)) → ∃ n : Nat, f_X5_runIs_L20 w (fun (I_19 : MI) (J_20 : MJ) => Q (1 : Int32) I_19 J_20) (fun (I_21 : MI) (J_22 : MJ) => Q (0 : Int32) I_21 J_22) n (0 : Int32) I J) ∧ (¬ ((I 11 4 4) - (I 11 4 7)) = (nI (sxL.getD w 0)) → Q (0 : Int32) I J))
set_option maxRecDepth 100000 in
set_option maxHeartbeats 4000000 in
theorem c_X5_runIs {l : Launch} {E : EV} {ps : List (Nat × Nat)} (h11 : ∀ r, r < 11 → (11, r) ∈ ps) (hG : ∀ k r, k < 11 → r < 16 → (k, r) ∈ ps) {w : Nat} (hw : w < 13) {I : MI} {J : MJ} {Q : Int32 → MI → MJ → Prop} (hf : f_X5_runIs w I J Q) : KI l yX5_runIs wsX5_runIs rmX5_runIs E ps [.ref (eA E 11 4), .ref (eK E w)] I J Q := by
  refine K_ofI (cc := cX5_runIs) (maxL := 3) (ty := .boolean) (by decide +kernel) rfl (Nat.le_of_ble_eq_true rfl) (fun p e s m args below meth c Qm hret S hK hX => ?_)
  have hA : ∀ q, s.heap.size ≤ q → AA E ps s.heap.size q := fun _ h => Or.inr h
  have k1 := S.2.2.2.2 (.fieldLink RX5 41 "RhymeRoofs$SetupReader" "at" "I") (by decide +kernel)
  have iX5 : ∀ w ∈ wsX50, w ∈ wsX5_runIs := fun _ h => List.mem_cons_of_mem _ (List.mem_append_right _ h)
  have k2 := S.2.2.2.2 (.fieldLink RX5 85 "RhymeRoofs$SetupReader" "tokenStart" "I") (by decide +kernel)
  have k3 := S.2.2.2.2 (.fieldLink RX5 22 "RhymeRoofs$SetupReader" "text" "[I") (by decide +kernel)
  intro H locs ls hP hD hS hl
  unfold f_X5_runIs at hf
  refine lv_aload_n S.1 S.2.1 dX5_runIs_0 rfl (lv_at hl 0 rfl) ?_
  refine gfX5_4 S iX5 hK hP (h11 4 (by decide)) k1 dX5_runIs_1 ?_
  refine lv_aload_n S.1 S.2.1 dX5_runIs_4 rfl (lv_at hl 0 rfl) ?_
  refine gfX5_7 S iX5 hK hP (h11 4 (by decide)) k2 dX5_runIs_5 ?_
  refine lv_isub S.1 S.2.1 dX5_runIs_8 ?_
  refine lv_aload_n S.1 S.2.1 dX5_runIs_9 rfl (lv_at hl 1 rfl) ?_
  refine R_cTi (As := []) (rest := [.int ((I 11 4 4) - (I 11 4 7))]) hw S (c_J0_length_8abf5 hw (Q := fun v I1 J1 => nI (sxL.getD w 0) = v ∧ I = I1 ∧ J = J1) ⟨rfl, rfl, rfl⟩) gX5_runIs_J0_length_8abf5 rfl yk_J0_length_8abf5 ⟨⟨Nat.le_of_ble_eq_true rfl, Nat.le_of_ble_eq_true rfl⟩, rfl, rfl⟩ hK hP hD hS hX hA rfl hl.1 rfl (Nat.le_of_ble_eq_true rfl) ⟨Nat.zero_le _, Nat.zero_le _⟩ dX5_runIs_10 (fun v_1 I_2 J_3 H locs hq hP hD hS => ?_)
  obtain ⟨rfl, rfl, rfl⟩ := hq
  refine lv_icmp_eq (tgt := 18) S.1 S.2.1 dX5_runIs_13 (by decide) (fun h_4 => ?_) (fun h_4 => ?_)
  · have hf := hf.1 h_4
    refine lv_iconst (v := 0) S.1 S.2.1 dX5_runIs_18 rfl ?_
    refine lv_istore_n (lv' := [(2, .int (0 : Int32)), (0, .ref (eA E 11 4)), (1, .ref (eK E w))]) S.1 S.2.1 dX5_runIs_19 rfl hl (by decide) rfl (fun ls hl => ?_)
    obtain ⟨n_23, hf⟩ := hf
    have L20 : ∀ (K55 : MI → MJ → Prop), ∀ (K47 : MI → MJ → Prop), (∀ (I_19 : MI) (J_20 : MJ), K55 I_19 J_20 → Wj p l e (rmX5_runIs) s m args below meth c Qm E ps 3 I_19 J_20 55 [] []) → (∀ (I_21 : MI) (J_22 : MJ), K47 I_21 J_22 → Wj p l e (rmX5_runIs) s m args below meth c Qm E ps 3 I_21 J_22 47 [] []) → ∀ (n : Nat) (x2_5 : Int32) (I_6 : MI) (J_7 : MJ), f_X5_runIs_L20 w K55 K47 n x2_5 I_6 J_7 → Wj p l e (rmX5_runIs) s m args below meth c Qm E ps 3 I_6 J_7 20 [(0, .ref (eA E 11 4)), (1, .ref (eK E w)), (2, .int x2_5)] [] := by
      intro K55 K47 kx55 kx47 n
      induction n with
      | zero => intro x2_5 I_6 J_7 hf; exact hf.elim
      | succ n ih20 =>
        intro x2_5 I_6 J_7 hf
        have hf : f_X5_runIs_B20 w K55 K47 (f_X5_runIs_L20 w K55 K47 n) x2_5 I_6 J_7 := hf
        intro H locs ls hP hD hS hl
        unfold f_X5_runIs_B20 at hf
        refine lv_iload_n S.1 S.2.1 dX5_runIs_20 rfl (lv_at hl 2 rfl) ?_
        refine lv_aload_n S.1 S.2.1 dX5_runIs_21 rfl (lv_at hl 1 rfl) ?_
        refine R_cTi (As := []) (rest := [.int x2_5]) hw S (c_J0_length_8abf5 hw (Q := fun v I1 J1 => nI (sxL.getD w 0) = v ∧ I_6 = I1 ∧ J_7 = J1) ⟨rfl, rfl, rfl⟩) gX5_runIs_J0_length_8abf5 rfl yk_J0_length_8abf5 ⟨⟨Nat.le_of_ble_eq_true rfl, Nat.le_of_ble_eq_true rfl⟩, rfl, rfl⟩ hK hP hD hS hX hA rfl hl.1 rfl (Nat.le_of_ble_eq_true rfl) ⟨Nat.zero_le _, Nat.zero_le _⟩ dX5_runIs_22 (fun v_8 I_9 J_10 H locs hq hP hD hS => ?_)
        obtain ⟨rfl, rfl, rfl⟩ := hq
        refine lv_icmp_ge (tgt := 55) S.1 S.2.1 dX5_runIs_25 (by decide) (fun h_11 => ?_) (fun h_11 => ?_)
        · have hf := hf.1 h_11
          exact kx55 _ _ hf _ _ _ hP hD hS (lv_sub hl [] rfl)
        · have hf := hf.2 h_11
          refine lv_aload_n S.1 S.2.1 dX5_runIs_28 rfl (lv_at hl 0 rfl) ?_
          refine gfX5_2 S iX5 hK hP (h11 4 (by decide)) k3 dX5_runIs_29 ?_
          refine lv_aload_n S.1 S.2.1 dX5_runIs_32 rfl (lv_at hl 0 rfl) ?_
          refine gfX5_7 S iX5 hK hP (h11 4 (by decide)) k2 dX5_runIs_33 ?_
          refine lv_iload_n S.1 S.2.1 dX5_runIs_36 rfl (lv_at hl 2 rfl) ?_
          refine lv_iadd S.1 S.2.1 dX5_runIs_37 ?_
          obtain ⟨h_12, hf⟩ := hf
          refine R_iald S.1 S.2.1 hK hP (h11 5 (by decide)) (IAo5 E) h_12 dX5_runIs_38 ?_
          refine lv_aload_n S.1 S.2.1 dX5_runIs_39 rfl (lv_at hl 1 rfl) ?_
          refine lv_iload_n S.1 S.2.1 dX5_runIs_40 rfl (lv_at hl 2 rfl) ?_
          obtain ⟨h_13, hf⟩ := hf
          refine R_cTi (As := [.int x2_5]) (rest := [.int (I_6 11 5 ((I_6 11 4 7) + x2_5).toNatClampNeg)]) hw S (c_charAt hw h_13 (Q := fun v I1 J1 => sxC w x2_5.toNatClampNeg = v ∧ I_6 = I1 ∧ J_7 = J1) ⟨rfl, rfl, rfl⟩) gX5_runIs_J0_charAt_5068e rfl yk_J0_charAt_5068e ⟨⟨Nat.le_of_ble_eq_true rfl, Nat.le_of_ble_eq_true rfl⟩, rfl, rfl⟩ hK hP hD hS hX hA rfl hl.1 rfl (Nat.le_of_ble_eq_true rfl) ⟨Nat.zero_le _, Nat.zero_le _⟩ dX5_runIs_41 (fun v_14 I_15 J_16 H locs hq hP hD hS => ?_)
          obtain ⟨rfl, rfl, rfl⟩ := hq
          refine lv_icmp_eq (tgt := 49) S.1 S.2.1 dX5_runIs_44 (by decide) (fun h_17 => ?_) (fun h_17 => ?_)
          · have hf := hf.1 h_17
            refine nm_o hf (fun x2_18 ex2_18 hf => ?_)
            refine lv_iinc (v := x2_18) (lv' := [(2, .int x2_18), (0, .ref (eA E 11 4)), (1, .ref (eK E w))]) S.1 S.2.1 dX5_runIs_49 hl (k := 2) rfl (by rw [ex2_18]; rfl) (by decide) rfl (fun ls hl => ?_)
            refine lv_goto (tgt := 20) S.1 S.2.1 dX5_runIs_52 (by decide) ?_
            exact ih20 _ _ _ hf _ _ _ hP hD hS (lv_sub hl [1, 2, 0] rfl)
          · have hf := hf.2 h_17
            exact kx47 _ _ hf _ _ _ hP hD hS (lv_sub hl [] rfl)
    refine L20 _ _ (fun I_19 J_20 hf H locs ls hP hD hS hl => ?_) (fun I_21 J_22 hf H locs ls hP hD hS hl => ?_)  n_23 _ _ _ hf _ _ _ hP hD hS (lv_sub hl [1, 2, 0] rfl)
    · refine lv_iconst (v := 1) S.1 S.2.1 dX5_runIs_55 rfl ?_
      exact hret hf rfl hP hD hS dX5_runIs_56
    · refine lv_iconst (v := 0) S.1 S.2.1 dX5_runIs_47 rfl ?_
      exact hret hf rfl hP hD hS dX5_runIs_48
  · have hf := hf.2 h_4
    refine lv_iconst (v := 0) S.1 S.2.1 dX5_runIs_16 rfl ?_
    exact hret hf rfl hP hD hS dX5_runIs_17
abbrev rmX5_readRows : Room := { frames := 2, cells := 0, slots := 0, locals := 86 }
theorem yk_X5_readRows : yOk yX5_readRows RX5 0 := by unfold yOk; decide +kernel
def f_X5_readRows_J35 (K96 : MI → MJ → Prop) (K45 : MI → MJ → Prop) (K56 : MI → MJ → Prop) (rec15 : Int32 → MI → MJ → Prop) (x2_7 : Int32) (I_8 : MI) (J_9 : MJ) : Prop :=
  f_X5_readNumber (1 : Int32) (40 : Int32) I_8 J_9 (fun (v_12 : Int32) (I_10 : MI) (J_11 : MJ) => ((v_12 = (0 : Int32) → K45 I_10 J_11) ∧ (¬ v_12 = (0 : Int32) → (((I_10 10 1 3) < (6 : Int32) → (vp_in (I_10 10 1 3) 6 ∧ ∀ I_16 : MI, I_16 = sI I_10 10 3 (I_10 10 1 3).toNatClampNeg (I_10 11 4 6) → ∀ I_17 : MI, I_17 = sI I_16 10 1 3 ((I_16 10 1 3) + (1 : Int32)) → ∀ x2_18 : Int32, x2_18 = x2_7 + (1 : Int32) → rec15 x2_18 I_17 J_11)) ∧ (¬ (I_10 10 1 3) < (6 : Int32) → K56 I_10 J_11)))))
def f_X5_readRows_B15 (K96 : MI → MJ → Prop) (K45 : MI → MJ → Prop) (K56 : MI → MJ → Prop) (rec15 : Int32 → MI → MJ → Prop) (x2_2 : Int32) (I_3 : MI) (J_4 : MJ) : Prop :=
  (((6 : Int32) < x2_2 → K96 I_3 J_4) ∧ (¬ (6 : Int32) < x2_2 → ((x2_2 = (0 : Int32) → f_X5_readRows_J35 K96 K45 K56 rec15 x2_2 I_3 J_4) ∧ (¬ x2_2 = (0 : Int32) → f_X5_peek I_3 J_4 (fun (v_21 : Int32) (I_19 : MI) (J_20 : MJ) => f_X5_isDigit v_21 I_19 J_20 (fun (v_24 : Int32) (I_22 : MI) (J_23 : MJ) => ((v_24 = (0 : Int32) → K96 I_22 J_23) ∧ (¬ v_24 = (0 : Int32) → f_X5_readRows_J35 K96 K45 K56 rec15 x2_2 I_22 J_23))))))))
def f_X5_readRows_L15 (K96 : MI → MJ → Prop) (K45 : MI → MJ → Prop) (K56 : MI → MJ → Prop) : Nat → Int32 → MI → MJ → Prop
  | 0, _, _, _ => False
  | n + 1, x2_2, I_3, J_4 => f_X5_readRows_B15 K96 K45 K56 (f_X5_readRows_L15 K96 K45 K56 n) x2_2 I_3 J_4
def f_X5_readRows (I : MI) (J : MJ) (Q : Int32 → MI → MJ → Prop) : Prop :=
  ∀ I_1 : MI, I_1 = sI I 10 1 3 (0 : Int32) → ∃ n : Nat, f_X5_readRows_L15 (fun (I_26 : MI) (J_27 : MJ) => Q (1 : Int32) I_26 J_27) (fun (I_28 : MI) (J_29 : MJ) => Q (0 : Int32) I_28 J_29) (fun (I_30 : MI) (J_31 : MJ) => f_X5_fail (-5 : Int32) (I_30 11 4 7) I_30 J_31 (fun (v_34 : Int32) (I_32 : MI) (J_33 : MJ) => (bo v_34 ∧ Q v_34 I_32 J_33))) n (0 : Int32) I_1 J
set_option maxRecDepth 100000 in
set_option maxHeartbeats 4000000 in
theorem c_X5_readRows {l : Launch} {E : EV} {ps : List (Nat × Nat)} (h11 : ∀ r, r < 11 → (11, r) ∈ ps) (hG : ∀ k r, k < 11 → r < 16 → (k, r) ∈ ps) {I : MI} {J : MJ} {Q : Int32 → MI → MJ → Prop} (hf : f_X5_readRows I J Q) : KI l yX5_readRows wsX5_readRows rmX5_readRows E ps [.ref (eA E 11 4)] I J Q := by
  refine K_ofI (cc := cX5_readRows) (maxL := 3) (ty := .boolean) (by decide +kernel) rfl (Nat.le_of_ble_eq_true rfl) (fun p e s m args below meth c Qm hret S hK hX => ?_)
  have hA : ∀ q, s.heap.size ≤ q → AA E ps s.heap.size q := fun _ h => Or.inr h
  have k1 := S.2.2.2.2 (.fieldLink RX5 12 "RhymeRoofs$SetupReader" "game" "LRhymeRoofs$Game;") (by decide +kernel)
  have iX5 : ∀ w ∈ wsX50, w ∈ wsX5_readRows := fun _ h => List.mem_cons_of_mem _ (List.mem_append_left _ (List.mem_append_left _ (List.mem_append_right _ h)))
  have k2 := S.2.2.2.2 (.fieldLink RX5 115 "RhymeRoofs$Game" "rules" "LRhymeRoofs$Rules;") (by decide +kernel)
  have iX1 : ∀ w ∈ wsX10, w ∈ wsX5_readRows := fun _ h => List.mem_cons_of_mem _ (List.mem_append_left _ (List.mem_append_right _ h))
  have k3 := S.2.2.2.2 (.fieldLink RX5 119 "RhymeRoofs$Rules" "rows" "I") (by decide +kernel)
  have iX4 : ∀ w ∈ wsX40, w ∈ wsX5_readRows := fun _ h => List.mem_cons_of_mem _ (List.mem_append_right _ h)
  have k4 := S.2.2.2.2 (.fieldLink RX5 127 "RhymeRoofs$Rules" "tiles" "[I") (by decide +kernel)
  have k5 := S.2.2.2.2 (.fieldLink RX5 88 "RhymeRoofs$SetupReader" "number" "I") (by decide +kernel)
  have k6 := S.2.2.2.2 (.fieldLink RX5 85 "RhymeRoofs$SetupReader" "tokenStart" "I") (by decide +kernel)
  intro H locs ls hP hD hS hl
  unfold f_X5_readRows at hf
  refine lv_aload_n S.1 S.2.1 dX5_readRows_0 rfl (lv_at hl 0 rfl) ?_
  refine gfX5_0 S iX5 hK hP (h11 4 (by decide)) k1 dX5_readRows_1 ?_
  refine gfX1_0 S iX1 hK hP (by decide) ((fun r => hG 10 r (by decide)) 0 (by decide)) k2 dX5_readRows_4 ?_
  refine lv_astore_n (lv' := [(1, .ref (eA E 10 1)), (0, .ref (eA E 11 4))]) S.1 S.2.1 dX5_readRows_7 rfl hl (by decide) rfl (fun ls hl => ?_)
  refine lv_aload_n S.1 S.2.1 dX5_readRows_8 rfl (lv_at hl 0 rfl) ?_
  refine lv_iconst (v := 0) S.1 S.2.1 dX5_readRows_9 rfl ?_
  refine nm_o hf (fun I_1 eI_1 hf => ?_)
  refine pfX4_3 S iX4 hK hP hD hS (by decide) ((fun r => hG 10 r (by decide)) 1 (by decide)) k3 dX5_readRows_10 eI_1 (fun H locs hP hD hS => ?_)
  refine lv_iconst (v := 0) S.1 S.2.1 dX5_readRows_13 rfl ?_
  refine lv_istore_n (lv' := [(2, .int (0 : Int32)), (1, .ref (eA E 10 1)), (0, .ref (eA E 11 4))]) S.1 S.2.1 dX5_readRows_14 rfl hl (by decide) rfl (fun ls hl => ?_)
  obtain ⟨n_36, hf⟩ := hf
  have L15 : ∀ (K96 : MI → MJ → Prop), ∀ (K45 : MI → MJ → Prop), ∀ (K56 : MI → MJ → Prop), (∀ (I_26 : MI) (J_27 : MJ), K96 I_26 J_27 → Wj p l e (rmX5_readRows) s m args below meth c Qm E ps 3 I_26 J_27 96 [] []) → (∀ (I_28 : MI) (J_29 : MJ), K45 I_28 J_29 → Wj p l e (rmX5_readRows) s m args below meth c Qm E ps 3 I_28 J_29 45 [] []) → (∀ (I_30 : MI) (J_31 : MJ), K56 I_30 J_31 → Wj p l e (rmX5_readRows) s m args below meth c Qm E ps 3 I_30 J_31 56 [(0, .ref (eA E 11 4))] []) → ∀ (n : Nat) (x2_2 : Int32) (I_3 : MI) (J_4 : MJ), f_X5_readRows_L15 K96 K45 K56 n x2_2 I_3 J_4 → Wj p l e (rmX5_readRows) s m args below meth c Qm E ps 3 I_3 J_4 15 [(0, .ref (eA E 11 4)), (1, .ref (eA E 10 1)), (2, .int x2_2)] [] := by
    intro K96 K45 K56 kx96 kx45 kx56 n
    induction n with
    | zero => intro x2_2 I_3 J_4 hf; exact hf.elim
    | succ n ih15 =>
      intro x2_2 I_3 J_4 hf
      have hf : f_X5_readRows_B15 K96 K45 K56 (f_X5_readRows_L15 K96 K45 K56 n) x2_2 I_3 J_4 := hf
      have jn35 : ∀ (x2_7 : Int32) (I_8 : MI) (J_9 : MJ), f_X5_readRows_J35 K96 K45 K56 (f_X5_readRows_L15 K96 K45 K56 n) x2_7 I_8 J_9 → Wj p l e (rmX5_readRows) s m args below meth c Qm E ps 3 I_8 J_9 35 [(0, .ref (eA E 11 4)), (1, .ref (eA E 10 1)), (2, .int x2_7)] [] := by
        intro x2_7 I_8 J_9 hf H locs ls hP hD hS hl
        unfold f_X5_readRows_J35 at hf
        refine lv_aload_n S.1 S.2.1 dX5_readRows_35 rfl (lv_at hl 0 rfl) ?_
        refine lv_iconst (v := 1) S.1 S.2.1 dX5_readRows_36 rfl ?_
        refine lv_bipush (v := 40) S.1 S.2.1 dX5_readRows_37 rfl ?_
        refine R_cVi (As := [.int (1 : Int32), .int (40 : Int32)]) (rest := []) S (c_X5_readNumber (h11 := h11) (hG := hG)  hf) gX5_readRows_X5_readNumber rfl yk_X5_readNumber ⟨⟨Nat.le_of_ble_eq_true rfl, Nat.le_of_ble_eq_true rfl⟩, rfl, rfl⟩ hK hP hD hS hX hA (h11 4 (by decide)) (cF_o E _ _ 4) rfl rfl hl.1 rfl (Nat.le_of_ble_eq_true rfl) ⟨Nat.zero_le _, Nat.zero_le _⟩ dX5_readRows_39 (fun v_12 I_10 J_11 H locs hf hP hD hS => ?_)
        refine lv_if_ne (tgt := 47) S.1 S.2.1 dX5_readRows_42 (by decide) (fun h_13 => ?_) (fun h_13 => ?_)
        · have hf := hf.2 h_13
          refine lv_aload_n S.1 S.2.1 dX5_readRows_47 rfl (lv_at hl 1 rfl) ?_
          refine gfX4_3 S iX4 hK hP (by decide) ((fun r => hG 10 r (by decide)) 1 (by decide)) k3 dX5_readRows_48 ?_
          refine lv_bipush (v := 6) S.1 S.2.1 dX5_readRows_51 rfl ?_
          refine lv_icmp_lt (tgt := 67) S.1 S.2.1 dX5_readRows_53 (by decide) (fun h_14 => ?_) (fun h_14 => ?_)
          · have hf := hf.1 h_14
            refine lv_aload_n S.1 S.2.1 dX5_readRows_67 rfl (lv_at hl 1 rfl) ?_
            refine gfX4_0 S iX4 hK hP (by decide) ((fun r => hG 10 r (by decide)) 1 (by decide)) k4 dX5_readRows_68 ?_
            refine lv_aload_n S.1 S.2.1 dX5_readRows_71 rfl (lv_at hl 1 rfl) ?_
            refine gfX4_3 S iX4 hK hP (by decide) ((fun r => hG 10 r (by decide)) 1 (by decide)) k3 dX5_readRows_72 ?_
            refine lv_aload_n S.1 S.2.1 dX5_readRows_75 rfl (lv_at hl 0 rfl) ?_
            refine gfX5_6 S iX5 hK hP (h11 4 (by decide)) k5 dX5_readRows_76 ?_
            obtain ⟨h_15, hf⟩ := hf
            refine nm_o hf (fun I_16 eI_16 hf => ?_)
            refine R_iast S.1 S.2.1 hK hP hD hS ((fun r => hG 10 r (by decide)) 3 (by decide)) (IAg3 E (by decide)) h_15 dX5_readRows_79 eI_16 (fun H locs hP hD hS => ?_)
            refine lv_aload_n S.1 S.2.1 dX5_readRows_80 rfl (lv_at hl 1 rfl) ?_
            refine lv_dup S.1 S.2.1 dX5_readRows_81 rfl ?_
            refine gfX4_3 S iX4 hK hP (by decide) ((fun r => hG 10 r (by decide)) 1 (by decide)) k3 dX5_readRows_82 ?_
            refine lv_iconst (v := 1) S.1 S.2.1 dX5_readRows_85 rfl ?_
            refine lv_iadd S.1 S.2.1 dX5_readRows_86 ?_
            refine nm_o hf (fun I_17 eI_17 hf => ?_)
            refine pfX4_3 S iX4 hK hP hD hS (by decide) ((fun r => hG 10 r (by decide)) 1 (by decide)) k3 dX5_readRows_87 eI_17 (fun H locs hP hD hS => ?_)
            refine nm_o hf (fun x2_18 ex2_18 hf => ?_)
            refine lv_iinc (v := x2_18) (lv' := [(2, .int x2_18), (0, .ref (eA E 11 4)), (1, .ref (eA E 10 1))]) S.1 S.2.1 dX5_readRows_90 hl (k := 2) rfl (by rw [ex2_18]; rfl) (by decide) rfl (fun ls hl => ?_)
            refine lv_goto (tgt := 15) S.1 S.2.1 dX5_readRows_93 (by decide) ?_
            exact ih15 _ _ _ hf _ _ _ hP hD hS (lv_sub hl [1, 2, 0] rfl)
          · have hf := hf.2 h_14
            exact kx56 _ _ hf _ _ _ hP hD hS (lv_sub hl [0] rfl)
        · have hf := hf.1 h_13
          exact kx45 _ _ hf _ _ _ hP hD hS (lv_sub hl [] rfl)
      intro H locs ls hP hD hS hl
      unfold f_X5_readRows_B15 at hf
      refine lv_iload_n S.1 S.2.1 dX5_readRows_15 rfl (lv_at hl 2 rfl) ?_
      refine lv_bipush (v := 6) S.1 S.2.1 dX5_readRows_16 rfl ?_
      refine lv_icmp_gt (tgt := 96) S.1 S.2.1 dX5_readRows_18 (by decide) (fun h_5 => ?_) (fun h_5 => ?_)
      · have hf := hf.1 h_5
        exact kx96 _ _ hf _ _ _ hP hD hS (lv_sub hl [] rfl)
      · have hf := hf.2 h_5
        refine lv_iload_n S.1 S.2.1 dX5_readRows_21 rfl (lv_at hl 2 rfl) ?_
        refine lv_if_eq (tgt := 35) S.1 S.2.1 dX5_readRows_22 (by decide) (fun h_6 => ?_) (fun h_6 => ?_)
        · have hf := hf.1 h_6
          exact jn35 _ _ _ hf _ _ _ hP hD hS (lv_sub hl [0, 1, 2] rfl)
        · have hf := hf.2 h_6
          refine lv_aload_n S.1 S.2.1 dX5_readRows_25 rfl (lv_at hl 0 rfl) ?_
          refine R_cVi (As := []) (rest := []) S (c_X5_peek (h11 := h11) (hG := hG)  hf) gX5_readRows_X5_peek rfl yk_X5_peek ⟨⟨Nat.le_of_ble_eq_true rfl, Nat.le_of_ble_eq_true rfl⟩, rfl, rfl⟩ hK hP hD hS hX hA (h11 4 (by decide)) (cF_o E _ _ 4) rfl rfl hl.1 rfl (Nat.le_of_ble_eq_true rfl) ⟨Nat.zero_le _, Nat.zero_le _⟩ dX5_readRows_26 (fun v_21 I_19 J_20 H locs hf hP hD hS => ?_)
          refine R_cSi (As := [.int v_21]) (rest := []) S (c_X5_isDigit   hf) gX5_readRows_X5_isDigit rfl yk_X5_isDigit ⟨⟨Nat.le_of_ble_eq_true rfl, Nat.le_of_ble_eq_true rfl⟩, rfl, rfl⟩ hK hP hD hS hX hA rfl hl.1 rfl (Nat.le_of_ble_eq_true rfl) ⟨Nat.zero_le _, Nat.zero_le _⟩ dX5_readRows_29 (fun v_24 I_22 J_23 H locs hf hP hD hS => ?_)
          refine lv_if_eq (tgt := 96) S.1 S.2.1 dX5_readRows_32 (by decide) (fun h_25 => ?_) (fun h_25 => ?_)
          · have hf := hf.1 h_25
            exact kx96 _ _ hf _ _ _ hP hD hS (lv_sub hl [] rfl)
          · have hf := hf.2 h_25
            exact jn35 _ _ _ hf _ _ _ hP hD hS (lv_sub hl [0, 1, 2] rfl)
  refine L15 _ _ _ (fun I_26 J_27 hf H locs ls hP hD hS hl => ?_) (fun I_28 J_29 hf H locs ls hP hD hS hl => ?_) (fun I_30 J_31 hf H locs ls hP hD hS hl => ?_)  n_36 _ _ _ hf _ _ _ hP hD hS (lv_sub hl [2, 1, 0] rfl)
  · refine lv_iconst (v := 1) S.1 S.2.1 dX5_readRows_96 rfl ?_
    exact hret hf rfl hP hD hS dX5_readRows_97
  · refine lv_iconst (v := 0) S.1 S.2.1 dX5_readRows_45 rfl ?_
    exact hret hf rfl hP hD hS dX5_readRows_46
  · refine lv_aload_n S.1 S.2.1 dX5_readRows_56 rfl (lv_at hl 0 rfl) ?_
    refine lv_bipush (v := (-5)) S.1 S.2.1 dX5_readRows_57 rfl ?_
    refine lv_aload_n S.1 S.2.1 dX5_readRows_59 rfl (lv_at hl 0 rfl) ?_
    refine gfX5_7 S iX5 hK hP (h11 4 (by decide)) k6 dX5_readRows_60 ?_
    refine R_cVi (As := [.int (-5 : Int32), .int (I_30 11 4 7)]) (rest := []) S (c_X5_fail (h11 := h11) (hG := hG)  hf) gX5_readRows_X5_fail rfl yk_X5_fail ⟨⟨Nat.le_of_ble_eq_true rfl, Nat.le_of_ble_eq_true rfl⟩, rfl, rfl⟩ hK hP hD hS hX hA (h11 4 (by decide)) (cF_o E _ _ 4) rfl rfl hl.1 rfl (Nat.le_of_ble_eq_true rfl) ⟨Nat.zero_le _, Nat.zero_le _⟩ dX5_readRows_63 (fun v_34 I_32 J_33 H locs hf hP hD hS => ?_)
    obtain ⟨h_35, hf⟩ := hf
    exact hret hf h_35.1 hP hD hS dX5_readRows_66
abbrev rmX5_tellOnce : Room := { frames := 1, cells := 0, slots := 0, locals := 22 }
theorem yk_X5_tellOnce : yOk yX5_tellOnce RX5 1 := by unfold yOk; decide +kernel
def f_X5_tellOnce (x1 : Int32) (I : MI) (J : MJ) (Q : Int32 → MI → MJ → Prop) : Prop :=
  ((((I 11 4 8) &&& x1) = (0 : Int32) → ∀ I_2 : MI, I_2 = sI I 11 4 8 ((I 11 4 8) ||| x1) → Q (1 : Int32) I_2 J) ∧ (¬ ((I 11 4 8) &&& x1) = (0 : Int32) → f_X5_fail (-2 : Int32) (I 11 4 7) I J (fun (v_5 : Int32) (I_3 : MI) (J_4 : MJ) => (bo v_5 ∧ Q v_5 I_3 J_4))))
set_option maxRecDepth 100000 in
set_option maxHeartbeats 4000000 in
theorem c_X5_tellOnce {l : Launch} {E : EV} {ps : List (Nat × Nat)} (h11 : ∀ r, r < 11 → (11, r) ∈ ps) (hG : ∀ k r, k < 11 → r < 16 → (k, r) ∈ ps) {x1 : Int32} {I : MI} {J : MJ} {Q : Int32 → MI → MJ → Prop} (hf : f_X5_tellOnce x1 I J Q) : KI l yX5_tellOnce wsX5_tellOnce rmX5_tellOnce E ps [.ref (eA E 11 4), .int x1] I J Q := by
  refine K_ofI (cc := cX5_tellOnce) (maxL := 2) (ty := .boolean) (by decide +kernel) rfl (Nat.le_of_ble_eq_true rfl) (fun p e s m args below meth c Qm hret S hK hX => ?_)
  have hA : ∀ q, s.heap.size ≤ q → AA E ps s.heap.size q := fun _ h => Or.inr h
  have k1 := S.2.2.2.2 (.fieldLink RX5 47 "RhymeRoofs$SetupReader" "told" "I") (by decide +kernel)
  have iX5 : ∀ w ∈ wsX50, w ∈ wsX5_tellOnce := fun _ h => List.mem_cons_of_mem _ (List.mem_append_right _ h)
  have k2 := S.2.2.2.2 (.fieldLink RX5 85 "RhymeRoofs$SetupReader" "tokenStart" "I") (by decide +kernel)
  intro H locs ls hP hD hS hl
  unfold f_X5_tellOnce at hf
  refine lv_aload_n S.1 S.2.1 dX5_tellOnce_0 rfl (lv_at hl 0 rfl) ?_
  refine gfX5_8 S iX5 hK hP (h11 4 (by decide)) k1 dX5_tellOnce_1 ?_
  refine lv_iload_n S.1 S.2.1 dX5_tellOnce_4 rfl (lv_at hl 1 rfl) ?_
  refine lv_iand S.1 S.2.1 dX5_tellOnce_5 ?_
  refine lv_if_eq (tgt := 20) S.1 S.2.1 dX5_tellOnce_6 (by decide) (fun h_1 => ?_) (fun h_1 => ?_)
  · have hf := hf.1 h_1
    refine lv_aload_n S.1 S.2.1 dX5_tellOnce_20 rfl (lv_at hl 0 rfl) ?_
    refine lv_dup S.1 S.2.1 dX5_tellOnce_21 rfl ?_
    refine gfX5_8 S iX5 hK hP (h11 4 (by decide)) k1 dX5_tellOnce_22 ?_
    refine lv_iload_n S.1 S.2.1 dX5_tellOnce_25 rfl (lv_at hl 1 rfl) ?_
    refine lv_ior S.1 S.2.1 dX5_tellOnce_26 ?_
    refine nm_o hf (fun I_2 eI_2 hf => ?_)
    refine pfX5_8 S iX5 hK hP hD hS (h11 4 (by decide)) k1 dX5_tellOnce_27 eI_2 (fun H locs hP hD hS => ?_)
    refine lv_iconst (v := 1) S.1 S.2.1 dX5_tellOnce_30 rfl ?_
    exact hret hf rfl hP hD hS dX5_tellOnce_31
  · have hf := hf.2 h_1
    refine lv_aload_n S.1 S.2.1 dX5_tellOnce_9 rfl (lv_at hl 0 rfl) ?_
    refine lv_bipush (v := (-2)) S.1 S.2.1 dX5_tellOnce_10 rfl ?_
    refine lv_aload_n S.1 S.2.1 dX5_tellOnce_12 rfl (lv_at hl 0 rfl) ?_
    refine gfX5_7 S iX5 hK hP (h11 4 (by decide)) k2 dX5_tellOnce_13 ?_
    refine R_cVi (As := [.int (-2 : Int32), .int (I 11 4 7)]) (rest := []) S (c_X5_fail (h11 := h11) (hG := hG)  hf) gX5_tellOnce_X5_fail rfl yk_X5_fail ⟨⟨Nat.le_of_ble_eq_true rfl, Nat.le_of_ble_eq_true rfl⟩, rfl, rfl⟩ hK hP hD hS hX hA (h11 4 (by decide)) (cF_o E _ _ 4) rfl rfl hl.1 rfl (Nat.le_of_ble_eq_true rfl) ⟨Nat.zero_le _, Nat.zero_le _⟩ dX5_tellOnce_16 (fun v_5 I_3 J_4 H locs hf hP hD hS => ?_)
    obtain ⟨h_6, hf⟩ := hf
    exact hret hf h_6.1 hP hD hS dX5_tellOnce_19
abbrev rmX5_readPlayers : Room := { frames := 2, cells := 0, slots := 0, locals := 86 }
theorem yk_X5_readPlayers : yOk yX5_readPlayers RX5 0 := by unfold yOk; decide +kernel
def f_X5_readPlayers (I : MI) (J : MJ) (Q : Int32 → MI → MJ → Prop) : Prop :=
  (((I 11 4 9) = (0 : Int32) → f_X5_tellOnce (1 : Int32) I J (fun (v_4 : Int32) (I_2 : MI) (J_3 : MJ) => ((v_4 = (0 : Int32) → Q (0 : Int32) I_2 J_3) ∧ (¬ v_4 = (0 : Int32) → f_X5_readNumber (2 : Int32) (4 : Int32) I_2 J_3 (fun (v_8 : Int32) (I_6 : MI) (J_7 : MJ) => ((v_8 = (0 : Int32) → Q (0 : Int32) I_6 J_7) ∧ (¬ v_8 = (0 : Int32) → ∀ I_10 : MI, I_10 = sI I_6 10 1 4 (I_6 11 4 6) → Q (1 : Int32) I_10 J_7))))))) ∧ (¬ (I 11 4 9) = (0 : Int32) → f_X5_fail (-2 : Int32) (I 11 4 7) I J (fun (v_13 : Int32) (I_11 : MI) (J_12 : MJ) => (bo v_13 ∧ Q v_13 I_11 J_12))))
set_option maxRecDepth 100000 in
set_option maxHeartbeats 4000000 in
theorem c_X5_readPlayers {l : Launch} {E : EV} {ps : List (Nat × Nat)} (h11 : ∀ r, r < 11 → (11, r) ∈ ps) (hG : ∀ k r, k < 11 → r < 16 → (k, r) ∈ ps) {I : MI} {J : MJ} {Q : Int32 → MI → MJ → Prop} (hf : f_X5_readPlayers I J Q) : KI l yX5_readPlayers wsX5_readPlayers rmX5_readPlayers E ps [.ref (eA E 11 4)] I J Q := by
  refine K_ofI (cc := cX5_readPlayers) (maxL := 1) (ty := .boolean) (by decide +kernel) rfl (Nat.le_of_ble_eq_true rfl) (fun p e s m args below meth c Qm hret S hK hX => ?_)
  have hA : ∀ q, s.heap.size ≤ q → AA E ps s.heap.size q := fun _ h => Or.inr h
  have k1 := S.2.2.2.2 (.fieldLink RX5 50 "RhymeRoofs$SetupReader" "handTold" "Z") (by decide +kernel)
  have iX5 : ∀ w ∈ wsX50, w ∈ wsX5_readPlayers := fun _ h => List.mem_cons_of_mem _ (List.mem_append_left _ (List.mem_append_left _ (List.mem_append_right _ h)))
  have k2 := S.2.2.2.2 (.fieldLink RX5 12 "RhymeRoofs$SetupReader" "game" "LRhymeRoofs$Game;") (by decide +kernel)
  have k3 := S.2.2.2.2 (.fieldLink RX5 115 "RhymeRoofs$Game" "rules" "LRhymeRoofs$Rules;") (by decide +kernel)
  have iX1 : ∀ w ∈ wsX10, w ∈ wsX5_readPlayers := fun _ h => List.mem_cons_of_mem _ (List.mem_append_left _ (List.mem_append_right _ h))
  have k4 := S.2.2.2.2 (.fieldLink RX5 88 "RhymeRoofs$SetupReader" "number" "I") (by decide +kernel)
  have k5 := S.2.2.2.2 (.fieldLink RX5 176 "RhymeRoofs$Rules" "players" "I") (by decide +kernel)
  have iX4 : ∀ w ∈ wsX40, w ∈ wsX5_readPlayers := fun _ h => List.mem_cons_of_mem _ (List.mem_append_right _ h)
  have k6 := S.2.2.2.2 (.fieldLink RX5 85 "RhymeRoofs$SetupReader" "tokenStart" "I") (by decide +kernel)
  intro H locs ls hP hD hS hl
  unfold f_X5_readPlayers at hf
  refine lv_aload_n S.1 S.2.1 dX5_readPlayers_0 rfl (lv_at hl 0 rfl) ?_
  refine gfX5_9 S iX5 hK hP (h11 4 (by decide)) k1 dX5_readPlayers_1 ?_
  refine lv_if_eq (tgt := 18) S.1 S.2.1 dX5_readPlayers_4 (by decide) (fun h_1 => ?_) (fun h_1 => ?_)
  · have hf := hf.1 h_1
    refine lv_aload_n S.1 S.2.1 dX5_readPlayers_18 rfl (lv_at hl 0 rfl) ?_
    refine lv_iconst (v := 1) S.1 S.2.1 dX5_readPlayers_19 rfl ?_
    refine R_cVi (As := [.int (1 : Int32)]) (rest := []) S (c_X5_tellOnce (h11 := h11) (hG := hG)  hf) gX5_readPlayers_X5_tellOnce rfl yk_X5_tellOnce ⟨⟨Nat.le_of_ble_eq_true rfl, Nat.le_of_ble_eq_true rfl⟩, rfl, rfl⟩ hK hP hD hS hX hA (h11 4 (by decide)) (cF_o E _ _ 4) rfl rfl hl.1 rfl (Nat.le_of_ble_eq_true rfl) ⟨Nat.zero_le _, Nat.zero_le _⟩ dX5_readPlayers_20 (fun v_4 I_2 J_3 H locs hf hP hD hS => ?_)
    refine lv_if_eq (tgt := 35) S.1 S.2.1 dX5_readPlayers_23 (by decide) (fun h_5 => ?_) (fun h_5 => ?_)
    · have hf := hf.1 h_5
      refine lv_iconst (v := 0) S.1 S.2.1 dX5_readPlayers_35 rfl ?_
      exact hret hf rfl hP hD hS dX5_readPlayers_36
    · have hf := hf.2 h_5
      refine lv_aload_n S.1 S.2.1 dX5_readPlayers_26 rfl (lv_at hl 0 rfl) ?_
      refine lv_iconst (v := 2) S.1 S.2.1 dX5_readPlayers_27 rfl ?_
      refine lv_iconst (v := 4) S.1 S.2.1 dX5_readPlayers_28 rfl ?_
      refine R_cVi (As := [.int (2 : Int32), .int (4 : Int32)]) (rest := []) S (c_X5_readNumber (h11 := h11) (hG := hG)  hf) gX5_readPlayers_X5_readNumber rfl yk_X5_readNumber ⟨⟨Nat.le_of_ble_eq_true rfl, Nat.le_of_ble_eq_true rfl⟩, rfl, rfl⟩ hK hP hD hS hX hA (h11 4 (by decide)) (cF_o E _ _ 4) rfl rfl hl.1 rfl (Nat.le_of_ble_eq_true rfl) ⟨Nat.zero_le _, Nat.zero_le _⟩ dX5_readPlayers_29 (fun v_8 I_6 J_7 H locs hf hP hD hS => ?_)
      refine lv_if_ne (tgt := 37) S.1 S.2.1 dX5_readPlayers_32 (by decide) (fun h_9 => ?_) (fun h_9 => ?_)
      · have hf := hf.2 h_9
        refine lv_aload_n S.1 S.2.1 dX5_readPlayers_37 rfl (lv_at hl 0 rfl) ?_
        refine gfX5_0 S iX5 hK hP (h11 4 (by decide)) k2 dX5_readPlayers_38 ?_
        refine gfX1_0 S iX1 hK hP (by decide) ((fun r => hG 10 r (by decide)) 0 (by decide)) k3 dX5_readPlayers_41 ?_
        refine lv_aload_n S.1 S.2.1 dX5_readPlayers_44 rfl (lv_at hl 0 rfl) ?_
        refine gfX5_6 S iX5 hK hP (h11 4 (by decide)) k4 dX5_readPlayers_45 ?_
        refine nm_o hf (fun I_10 eI_10 hf => ?_)
        refine pfX4_4 S iX4 hK hP hD hS (by decide) ((fun r => hG 10 r (by decide)) 1 (by decide)) k5 dX5_readPlayers_48 eI_10 (fun H locs hP hD hS => ?_)
        refine lv_iconst (v := 1) S.1 S.2.1 dX5_readPlayers_51 rfl ?_
        exact hret hf rfl hP hD hS dX5_readPlayers_52
      · have hf := hf.1 h_9
        refine lv_iconst (v := 0) S.1 S.2.1 dX5_readPlayers_35 rfl ?_
        exact hret hf rfl hP hD hS dX5_readPlayers_36
  · have hf := hf.2 h_1
    refine lv_aload_n S.1 S.2.1 dX5_readPlayers_7 rfl (lv_at hl 0 rfl) ?_
    refine lv_bipush (v := (-2)) S.1 S.2.1 dX5_readPlayers_8 rfl ?_
    refine lv_aload_n S.1 S.2.1 dX5_readPlayers_10 rfl (lv_at hl 0 rfl) ?_
    refine gfX5_7 S iX5 hK hP (h11 4 (by decide)) k6 dX5_readPlayers_11 ?_
    refine R_cVi (As := [.int (-2 : Int32), .int (I 11 4 7)]) (rest := []) S (c_X5_fail (h11 := h11) (hG := hG)  hf) gX5_readPlayers_X5_fail rfl yk_X5_fail ⟨⟨Nat.le_of_ble_eq_true rfl, Nat.le_of_ble_eq_true rfl⟩, rfl, rfl⟩ hK hP hD hS hX hA (h11 4 (by decide)) (cF_o E _ _ 4) rfl rfl hl.1 rfl (Nat.le_of_ble_eq_true rfl) ⟨Nat.zero_le _, Nat.zero_le _⟩ dX5_readPlayers_14 (fun v_13 I_11 J_12 H locs hf hP hD hS => ?_)
    obtain ⟨h_14, hf⟩ := hf
    exact hret hf h_14.1 hP hD hS dX5_readPlayers_17
abbrev rmX5_readNeed : Room := { frames := 2, cells := 0, slots := 0, locals := 86 }
theorem yk_X5_readNeed : yOk yX5_readNeed RX5 0 := by unfold yOk; decide +kernel
def f_X5_readNeed (I : MI) (J : MJ) (Q : Int32 → MI → MJ → Prop) : Prop :=
  f_X5_tellOnce (2 : Int32) I J (fun (v_3 : Int32) (I_1 : MI) (J_2 : MJ) => ((v_3 = (0 : Int32) → Q (0 : Int32) I_1 J_2) ∧ (¬ v_3 = (0 : Int32) → f_X5_readNumber (1 : Int32) (4 : Int32) I_1 J_2 (fun (v_7 : Int32) (I_5 : MI) (J_6 : MJ) => ((v_7 = (0 : Int32) → Q (0 : Int32) I_5 J_6) ∧ (¬ v_7 = (0 : Int32) → ∀ I_9 : MI, I_9 = sI I_5 10 1 5 (I_5 11 4 6) → Q (1 : Int32) I_9 J_6))))))
set_option maxRecDepth 100000 in
set_option maxHeartbeats 4000000 in
theorem c_X5_readNeed {l : Launch} {E : EV} {ps : List (Nat × Nat)} (h11 : ∀ r, r < 11 → (11, r) ∈ ps) (hG : ∀ k r, k < 11 → r < 16 → (k, r) ∈ ps) {I : MI} {J : MJ} {Q : Int32 → MI → MJ → Prop} (hf : f_X5_readNeed I J Q) : KI l yX5_readNeed wsX5_readNeed rmX5_readNeed E ps [.ref (eA E 11 4)] I J Q := by
  refine K_ofI (cc := cX5_readNeed) (maxL := 1) (ty := .boolean) (by decide +kernel) rfl (Nat.le_of_ble_eq_true rfl) (fun p e s m args below meth c Qm hret S hK hX => ?_)
  have hA : ∀ q, s.heap.size ≤ q → AA E ps s.heap.size q := fun _ h => Or.inr h
  have k1 := S.2.2.2.2 (.fieldLink RX5 12 "RhymeRoofs$SetupReader" "game" "LRhymeRoofs$Game;") (by decide +kernel)
  have iX5 : ∀ w ∈ wsX50, w ∈ wsX5_readNeed := fun _ h => List.mem_cons_of_mem _ (List.mem_append_left _ (List.mem_append_left _ (List.mem_append_right _ h)))
  have k2 := S.2.2.2.2 (.fieldLink RX5 115 "RhymeRoofs$Game" "rules" "LRhymeRoofs$Rules;") (by decide +kernel)
  have iX1 : ∀ w ∈ wsX10, w ∈ wsX5_readNeed := fun _ h => List.mem_cons_of_mem _ (List.mem_append_left _ (List.mem_append_right _ h))
  have k3 := S.2.2.2.2 (.fieldLink RX5 88 "RhymeRoofs$SetupReader" "number" "I") (by decide +kernel)
  have k4 := S.2.2.2.2 (.fieldLink RX5 178 "RhymeRoofs$Rules" "need" "I") (by decide +kernel)
  have iX4 : ∀ w ∈ wsX40, w ∈ wsX5_readNeed := fun _ h => List.mem_cons_of_mem _ (List.mem_append_right _ h)
  intro H locs ls hP hD hS hl
  unfold f_X5_readNeed at hf
  refine lv_aload_n S.1 S.2.1 dX5_readNeed_0 rfl (lv_at hl 0 rfl) ?_
  refine lv_iconst (v := 2) S.1 S.2.1 dX5_readNeed_1 rfl ?_
  refine R_cVi (As := [.int (2 : Int32)]) (rest := []) S (c_X5_tellOnce (h11 := h11) (hG := hG)  hf) gX5_readNeed_X5_tellOnce rfl yk_X5_tellOnce ⟨⟨Nat.le_of_ble_eq_true rfl, Nat.le_of_ble_eq_true rfl⟩, rfl, rfl⟩ hK hP hD hS hX hA (h11 4 (by decide)) (cF_o E _ _ 4) rfl rfl hl.1 rfl (Nat.le_of_ble_eq_true rfl) ⟨Nat.zero_le _, Nat.zero_le _⟩ dX5_readNeed_2 (fun v_3 I_1 J_2 H locs hf hP hD hS => ?_)
  refine lv_if_eq (tgt := 17) S.1 S.2.1 dX5_readNeed_5 (by decide) (fun h_4 => ?_) (fun h_4 => ?_)
  · have hf := hf.1 h_4
    refine lv_iconst (v := 0) S.1 S.2.1 dX5_readNeed_17 rfl ?_
    exact hret hf rfl hP hD hS dX5_readNeed_18
  · have hf := hf.2 h_4
    refine lv_aload_n S.1 S.2.1 dX5_readNeed_8 rfl (lv_at hl 0 rfl) ?_
    refine lv_iconst (v := 1) S.1 S.2.1 dX5_readNeed_9 rfl ?_
    refine lv_iconst (v := 4) S.1 S.2.1 dX5_readNeed_10 rfl ?_
    refine R_cVi (As := [.int (1 : Int32), .int (4 : Int32)]) (rest := []) S (c_X5_readNumber (h11 := h11) (hG := hG)  hf) gX5_readNeed_X5_readNumber rfl yk_X5_readNumber ⟨⟨Nat.le_of_ble_eq_true rfl, Nat.le_of_ble_eq_true rfl⟩, rfl, rfl⟩ hK hP hD hS hX hA (h11 4 (by decide)) (cF_o E _ _ 4) rfl rfl hl.1 rfl (Nat.le_of_ble_eq_true rfl) ⟨Nat.zero_le _, Nat.zero_le _⟩ dX5_readNeed_11 (fun v_7 I_5 J_6 H locs hf hP hD hS => ?_)
    refine lv_if_ne (tgt := 19) S.1 S.2.1 dX5_readNeed_14 (by decide) (fun h_8 => ?_) (fun h_8 => ?_)
    · have hf := hf.2 h_8
      refine lv_aload_n S.1 S.2.1 dX5_readNeed_19 rfl (lv_at hl 0 rfl) ?_
      refine gfX5_0 S iX5 hK hP (h11 4 (by decide)) k1 dX5_readNeed_20 ?_
      refine gfX1_0 S iX1 hK hP (by decide) ((fun r => hG 10 r (by decide)) 0 (by decide)) k2 dX5_readNeed_23 ?_
      refine lv_aload_n S.1 S.2.1 dX5_readNeed_26 rfl (lv_at hl 0 rfl) ?_
      refine gfX5_6 S iX5 hK hP (h11 4 (by decide)) k3 dX5_readNeed_27 ?_
      refine nm_o hf (fun I_9 eI_9 hf => ?_)
      refine pfX4_5 S iX4 hK hP hD hS (by decide) ((fun r => hG 10 r (by decide)) 1 (by decide)) k4 dX5_readNeed_30 eI_9 (fun H locs hP hD hS => ?_)
      refine lv_iconst (v := 1) S.1 S.2.1 dX5_readNeed_33 rfl ?_
      exact hret hf rfl hP hD hS dX5_readNeed_34
    · have hf := hf.1 h_8
      refine lv_iconst (v := 0) S.1 S.2.1 dX5_readNeed_17 rfl ?_
      exact hret hf rfl hP hD hS dX5_readNeed_18
abbrev rmX5_readBonus : Room := { frames := 2, cells := 0, slots := 0, locals := 86 }
theorem yk_X5_readBonus : yOk yX5_readBonus RX5 0 := by unfold yOk; decide +kernel
def f_X5_readBonus (I : MI) (J : MJ) (Q : Int32 → MI → MJ → Prop) : Prop :=
  f_X5_tellOnce (4 : Int32) I J (fun (v_3 : Int32) (I_1 : MI) (J_2 : MJ) => ((v_3 = (0 : Int32) → Q (0 : Int32) I_1 J_2) ∧ (¬ v_3 = (0 : Int32) → f_X5_readNumber (0 : Int32) (9 : Int32) I_1 J_2 (fun (v_7 : Int32) (I_5 : MI) (J_6 : MJ) => ((v_7 = (0 : Int32) → Q (0 : Int32) I_5 J_6) ∧ (¬ v_7 = (0 : Int32) → ∀ I_9 : MI, I_9 = sI I_5 10 1 6 (I_5 11 4 6) → Q (1 : Int32) I_9 J_6))))))
set_option maxRecDepth 100000 in
set_option maxHeartbeats 4000000 in
theorem c_X5_readBonus {l : Launch} {E : EV} {ps : List (Nat × Nat)} (h11 : ∀ r, r < 11 → (11, r) ∈ ps) (hG : ∀ k r, k < 11 → r < 16 → (k, r) ∈ ps) {I : MI} {J : MJ} {Q : Int32 → MI → MJ → Prop} (hf : f_X5_readBonus I J Q) : KI l yX5_readBonus wsX5_readBonus rmX5_readBonus E ps [.ref (eA E 11 4)] I J Q := by
  refine K_ofI (cc := cX5_readBonus) (maxL := 1) (ty := .boolean) (by decide +kernel) rfl (Nat.le_of_ble_eq_true rfl) (fun p e s m args below meth c Qm hret S hK hX => ?_)
  have hA : ∀ q, s.heap.size ≤ q → AA E ps s.heap.size q := fun _ h => Or.inr h
  have k1 := S.2.2.2.2 (.fieldLink RX5 12 "RhymeRoofs$SetupReader" "game" "LRhymeRoofs$Game;") (by decide +kernel)
  have iX5 : ∀ w ∈ wsX50, w ∈ wsX5_readBonus := fun _ h => List.mem_cons_of_mem _ (List.mem_append_left _ (List.mem_append_left _ (List.mem_append_right _ h)))
  have k2 := S.2.2.2.2 (.fieldLink RX5 115 "RhymeRoofs$Game" "rules" "LRhymeRoofs$Rules;") (by decide +kernel)
  have iX1 : ∀ w ∈ wsX10, w ∈ wsX5_readBonus := fun _ h => List.mem_cons_of_mem _ (List.mem_append_left _ (List.mem_append_right _ h))
  have k3 := S.2.2.2.2 (.fieldLink RX5 88 "RhymeRoofs$SetupReader" "number" "I") (by decide +kernel)
  have k4 := S.2.2.2.2 (.fieldLink RX5 180 "RhymeRoofs$Rules" "bonus" "I") (by decide +kernel)
  have iX4 : ∀ w ∈ wsX40, w ∈ wsX5_readBonus := fun _ h => List.mem_cons_of_mem _ (List.mem_append_right _ h)
  intro H locs ls hP hD hS hl
  unfold f_X5_readBonus at hf
  refine lv_aload_n S.1 S.2.1 dX5_readBonus_0 rfl (lv_at hl 0 rfl) ?_
  refine lv_iconst (v := 4) S.1 S.2.1 dX5_readBonus_1 rfl ?_
  refine R_cVi (As := [.int (4 : Int32)]) (rest := []) S (c_X5_tellOnce (h11 := h11) (hG := hG)  hf) gX5_readBonus_X5_tellOnce rfl yk_X5_tellOnce ⟨⟨Nat.le_of_ble_eq_true rfl, Nat.le_of_ble_eq_true rfl⟩, rfl, rfl⟩ hK hP hD hS hX hA (h11 4 (by decide)) (cF_o E _ _ 4) rfl rfl hl.1 rfl (Nat.le_of_ble_eq_true rfl) ⟨Nat.zero_le _, Nat.zero_le _⟩ dX5_readBonus_2 (fun v_3 I_1 J_2 H locs hf hP hD hS => ?_)
  refine lv_if_eq (tgt := 18) S.1 S.2.1 dX5_readBonus_5 (by decide) (fun h_4 => ?_) (fun h_4 => ?_)
  · have hf := hf.1 h_4
    refine lv_iconst (v := 0) S.1 S.2.1 dX5_readBonus_18 rfl ?_
    exact hret hf rfl hP hD hS dX5_readBonus_19
  · have hf := hf.2 h_4
    refine lv_aload_n S.1 S.2.1 dX5_readBonus_8 rfl (lv_at hl 0 rfl) ?_
    refine lv_iconst (v := 0) S.1 S.2.1 dX5_readBonus_9 rfl ?_
    refine lv_bipush (v := 9) S.1 S.2.1 dX5_readBonus_10 rfl ?_
    refine R_cVi (As := [.int (0 : Int32), .int (9 : Int32)]) (rest := []) S (c_X5_readNumber (h11 := h11) (hG := hG)  hf) gX5_readBonus_X5_readNumber rfl yk_X5_readNumber ⟨⟨Nat.le_of_ble_eq_true rfl, Nat.le_of_ble_eq_true rfl⟩, rfl, rfl⟩ hK hP hD hS hX hA (h11 4 (by decide)) (cF_o E _ _ 4) rfl rfl hl.1 rfl (Nat.le_of_ble_eq_true rfl) ⟨Nat.zero_le _, Nat.zero_le _⟩ dX5_readBonus_12 (fun v_7 I_5 J_6 H locs hf hP hD hS => ?_)
    refine lv_if_ne (tgt := 20) S.1 S.2.1 dX5_readBonus_15 (by decide) (fun h_8 => ?_) (fun h_8 => ?_)
    · have hf := hf.2 h_8
      refine lv_aload_n S.1 S.2.1 dX5_readBonus_20 rfl (lv_at hl 0 rfl) ?_
      refine gfX5_0 S iX5 hK hP (h11 4 (by decide)) k1 dX5_readBonus_21 ?_
      refine gfX1_0 S iX1 hK hP (by decide) ((fun r => hG 10 r (by decide)) 0 (by decide)) k2 dX5_readBonus_24 ?_
      refine lv_aload_n S.1 S.2.1 dX5_readBonus_27 rfl (lv_at hl 0 rfl) ?_
      refine gfX5_6 S iX5 hK hP (h11 4 (by decide)) k3 dX5_readBonus_28 ?_
      refine nm_o hf (fun I_9 eI_9 hf => ?_)
      refine pfX4_6 S iX4 hK hP hD hS (by decide) ((fun r => hG 10 r (by decide)) 1 (by decide)) k4 dX5_readBonus_31 eI_9 (fun H locs hP hD hS => ?_)
      refine lv_iconst (v := 1) S.1 S.2.1 dX5_readBonus_34 rfl ?_
      exact hret hf rfl hP hD hS dX5_readBonus_35
    · have hf := hf.1 h_8
      refine lv_iconst (v := 0) S.1 S.2.1 dX5_readBonus_18 rfl ?_
      exact hret hf rfl hP hD hS dX5_readBonus_19
abbrev rmX5_readCrown : Room := { frames := 2, cells := 0, slots := 0, locals := 86 }
theorem yk_X5_readCrown : yOk yX5_readCrown RX5 0 := by unfold yOk; decide +kernel
def f_X5_readCrown (I : MI) (J : MJ) (Q : Int32 → MI → MJ → Prop) : Prop :=
  f_X5_tellOnce (8 : Int32) I J (fun (v_3 : Int32) (I_1 : MI) (J_2 : MJ) => ((v_3 = (0 : Int32) → Q (0 : Int32) I_1 J_2) ∧ (¬ v_3 = (0 : Int32) → f_X5_readNumber (0 : Int32) (99 : Int32) I_1 J_2 (fun (v_7 : Int32) (I_5 : MI) (J_6 : MJ) => ((v_7 = (0 : Int32) → Q (0 : Int32) I_5 J_6) ∧ (¬ v_7 = (0 : Int32) → ∀ I_9 : MI, I_9 = sI I_5 10 1 7 (I_5 11 4 6) → Q (1 : Int32) I_9 J_6))))))
set_option maxRecDepth 100000 in
set_option maxHeartbeats 4000000 in
theorem c_X5_readCrown {l : Launch} {E : EV} {ps : List (Nat × Nat)} (h11 : ∀ r, r < 11 → (11, r) ∈ ps) (hG : ∀ k r, k < 11 → r < 16 → (k, r) ∈ ps) {I : MI} {J : MJ} {Q : Int32 → MI → MJ → Prop} (hf : f_X5_readCrown I J Q) : KI l yX5_readCrown wsX5_readCrown rmX5_readCrown E ps [.ref (eA E 11 4)] I J Q := by
  refine K_ofI (cc := cX5_readCrown) (maxL := 1) (ty := .boolean) (by decide +kernel) rfl (Nat.le_of_ble_eq_true rfl) (fun p e s m args below meth c Qm hret S hK hX => ?_)
  have hA : ∀ q, s.heap.size ≤ q → AA E ps s.heap.size q := fun _ h => Or.inr h
  have k1 := S.2.2.2.2 (.fieldLink RX5 12 "RhymeRoofs$SetupReader" "game" "LRhymeRoofs$Game;") (by decide +kernel)
  have iX5 : ∀ w ∈ wsX50, w ∈ wsX5_readCrown := fun _ h => List.mem_cons_of_mem _ (List.mem_append_left _ (List.mem_append_left _ (List.mem_append_right _ h)))
  have k2 := S.2.2.2.2 (.fieldLink RX5 115 "RhymeRoofs$Game" "rules" "LRhymeRoofs$Rules;") (by decide +kernel)
  have iX1 : ∀ w ∈ wsX10, w ∈ wsX5_readCrown := fun _ h => List.mem_cons_of_mem _ (List.mem_append_left _ (List.mem_append_right _ h))
  have k3 := S.2.2.2.2 (.fieldLink RX5 88 "RhymeRoofs$SetupReader" "number" "I") (by decide +kernel)
  have k4 := S.2.2.2.2 (.fieldLink RX5 182 "RhymeRoofs$Rules" "crown" "I") (by decide +kernel)
  have iX4 : ∀ w ∈ wsX40, w ∈ wsX5_readCrown := fun _ h => List.mem_cons_of_mem _ (List.mem_append_right _ h)
  intro H locs ls hP hD hS hl
  unfold f_X5_readCrown at hf
  refine lv_aload_n S.1 S.2.1 dX5_readCrown_0 rfl (lv_at hl 0 rfl) ?_
  refine lv_bipush (v := 8) S.1 S.2.1 dX5_readCrown_1 rfl ?_
  refine R_cVi (As := [.int (8 : Int32)]) (rest := []) S (c_X5_tellOnce (h11 := h11) (hG := hG)  hf) gX5_readCrown_X5_tellOnce rfl yk_X5_tellOnce ⟨⟨Nat.le_of_ble_eq_true rfl, Nat.le_of_ble_eq_true rfl⟩, rfl, rfl⟩ hK hP hD hS hX hA (h11 4 (by decide)) (cF_o E _ _ 4) rfl rfl hl.1 rfl (Nat.le_of_ble_eq_true rfl) ⟨Nat.zero_le _, Nat.zero_le _⟩ dX5_readCrown_3 (fun v_3 I_1 J_2 H locs hf hP hD hS => ?_)
  refine lv_if_eq (tgt := 19) S.1 S.2.1 dX5_readCrown_6 (by decide) (fun h_4 => ?_) (fun h_4 => ?_)
  · have hf := hf.1 h_4
    refine lv_iconst (v := 0) S.1 S.2.1 dX5_readCrown_19 rfl ?_
    exact hret hf rfl hP hD hS dX5_readCrown_20
  · have hf := hf.2 h_4
    refine lv_aload_n S.1 S.2.1 dX5_readCrown_9 rfl (lv_at hl 0 rfl) ?_
    refine lv_iconst (v := 0) S.1 S.2.1 dX5_readCrown_10 rfl ?_
    refine lv_bipush (v := 99) S.1 S.2.1 dX5_readCrown_11 rfl ?_
    refine R_cVi (As := [.int (0 : Int32), .int (99 : Int32)]) (rest := []) S (c_X5_readNumber (h11 := h11) (hG := hG)  hf) gX5_readCrown_X5_readNumber rfl yk_X5_readNumber ⟨⟨Nat.le_of_ble_eq_true rfl, Nat.le_of_ble_eq_true rfl⟩, rfl, rfl⟩ hK hP hD hS hX hA (h11 4 (by decide)) (cF_o E _ _ 4) rfl rfl hl.1 rfl (Nat.le_of_ble_eq_true rfl) ⟨Nat.zero_le _, Nat.zero_le _⟩ dX5_readCrown_13 (fun v_7 I_5 J_6 H locs hf hP hD hS => ?_)
    refine lv_if_ne (tgt := 21) S.1 S.2.1 dX5_readCrown_16 (by decide) (fun h_8 => ?_) (fun h_8 => ?_)
    · have hf := hf.2 h_8
      refine lv_aload_n S.1 S.2.1 dX5_readCrown_21 rfl (lv_at hl 0 rfl) ?_
      refine gfX5_0 S iX5 hK hP (h11 4 (by decide)) k1 dX5_readCrown_22 ?_
      refine gfX1_0 S iX1 hK hP (by decide) ((fun r => hG 10 r (by decide)) 0 (by decide)) k2 dX5_readCrown_25 ?_
      refine lv_aload_n S.1 S.2.1 dX5_readCrown_28 rfl (lv_at hl 0 rfl) ?_
      refine gfX5_6 S iX5 hK hP (h11 4 (by decide)) k3 dX5_readCrown_29 ?_
      refine nm_o hf (fun I_9 eI_9 hf => ?_)
      refine pfX4_7 S iX4 hK hP hD hS (by decide) ((fun r => hG 10 r (by decide)) 1 (by decide)) k4 dX5_readCrown_32 eI_9 (fun H locs hP hD hS => ?_)
      refine lv_iconst (v := 1) S.1 S.2.1 dX5_readCrown_35 rfl ?_
      exact hret hf rfl hP hD hS dX5_readCrown_36
    · have hf := hf.1 h_8
      refine lv_iconst (v := 0) S.1 S.2.1 dX5_readCrown_19 rfl ?_
      exact hret hf rfl hP hD hS dX5_readCrown_20
abbrev rmX5_readAlike : Room := { frames := 2, cells := 0, slots := 0, locals := 42 }
theorem yk_X5_readAlike : yOk yX5_readAlike RX5 0 := by unfold yOk; decide +kernel
def f_X5_readAlike_B29 (x1_8 : Int32) (K99 : MI → MJ → Prop) (K60 : Int32 → MI → MJ → Prop) (rec29 : Int32 → MI → MJ → Prop) (x2_9 : Int32) (I_10 : MI) (J_11 : MJ) : Prop :=
  (((I_10 11 4 4) ≤ x2_9 → K99 I_10 J_11) ∧ (¬ (I_10 11 4 4) ≤ x2_9 → (vp_in x2_9 600 ∧ ∀ x3_14 : Int32, x3_14 = (((I_10 11 5 x2_9.toNatClampNeg) - (97 : Int32)) + (1 : Int32)) → ((((I_10 11 4 10) &&& ((1 : Int32) <<< (x3_14 &&& 31))) = (0 : Int32) → ∀ I_16 : MI, I_16 = sI I_10 11 4 10 ((I_10 11 4 10) ||| ((1 : Int32) <<< (x3_14 &&& 31))) → (vp_in x3_14 32 ∧ ∀ I_18 : MI, I_18 = sI I_16 10 4 x3_14.toNatClampNeg x1_8 → ∀ x2_19 : Int32, x2_19 = x2_9 + (1 : Int32) → rec29 x2_19 I_18 J_11)) ∧ (¬ ((I_10 11 4 10) &&& ((1 : Int32) <<< (x3_14 &&& 31))) = (0 : Int32) → K60 x2_9 I_10 J_11)))))
def f_X5_readAlike_L29 (x1_8 : Int32) (K99 : MI → MJ → Prop) (K60 : Int32 → MI → MJ → Prop) : Nat → Int32 → MI → MJ → Prop
  | 0, _, _, _ => False
  | n + 1, x2_9, I_10, J_11 => f_X5_readAlike_B29 x1_8 K99 K60 (f_X5_readAlike_L29 x1_8 K99 K60 n) x2_9 I_10 J_11
def f_X5_readAlike (I : MI) (J : MJ) (Q : Int32 → MI → MJ → Prop) : Prop :=
  f_X5_readRun I J (fun (v_3 : Int32) (I_1 : MI) (J_2 : MJ) => ((v_3 = (0 : Int32) → Q (0 : Int32) I_1 J_2) ∧ (¬ v_3 = (0 : Int32) → (vp_in (I_1 11 4 7) 600 ∧ ∀ x1_6 : Int32, x1_6 = (((I_1 11 5 (I_1 11 4 7).toNatClampNeg) - (97 : Int32)) + (1 : Int32)) → ∀ x2_7 : Int32, x2_7 = I_1 11 4 7 → ∃ n : Nat, f_X5_readAlike_L29 x1_6 (fun (I_20 : MI) (J_21 : MJ) => Q (1 : Int32) I_20 J_21) (fun (x2_22 : Int32) (I_23 : MI) (J_24 : MJ) => f_X5_fail (-4 : Int32) x2_22 I_23 J_24 (fun (v_27 : Int32) (I_25 : MI) (J_26 : MJ) => (bo v_27 ∧ Q v_27 I_25 J_26))) n x2_7 I_1 J_2))))
set_option maxRecDepth 100000 in
set_option maxHeartbeats 4000000 in
theorem c_X5_readAlike {l : Launch} {E : EV} {ps : List (Nat × Nat)} (h11 : ∀ r, r < 11 → (11, r) ∈ ps) (hG : ∀ k r, k < 11 → r < 16 → (k, r) ∈ ps) {I : MI} {J : MJ} {Q : Int32 → MI → MJ → Prop} (hf : f_X5_readAlike I J Q) : KI l yX5_readAlike wsX5_readAlike rmX5_readAlike E ps [.ref (eA E 11 4)] I J Q := by
  refine K_ofI (cc := cX5_readAlike) (maxL := 4) (ty := .boolean) (by decide +kernel) rfl (Nat.le_of_ble_eq_true rfl) (fun p e s m args below meth c Qm hret S hK hX => ?_)
  have hA : ∀ q, s.heap.size ≤ q → AA E ps s.heap.size q := fun _ h => Or.inr h
  have k1 := S.2.2.2.2 (.fieldLink RX5 22 "RhymeRoofs$SetupReader" "text" "[I") (by decide +kernel)
  have iX5 : ∀ w ∈ wsX50, w ∈ wsX5_readAlike := fun _ h => List.mem_cons_of_mem _ (List.mem_append_left _ (List.mem_append_left _ (List.mem_append_right _ h)))
  have k2 := S.2.2.2.2 (.fieldLink RX5 85 "RhymeRoofs$SetupReader" "tokenStart" "I") (by decide +kernel)
  have k3 := S.2.2.2.2 (.fieldLink RX5 41 "RhymeRoofs$SetupReader" "at" "I") (by decide +kernel)
  have k4 := S.2.2.2.2 (.fieldLink RX5 54 "RhymeRoofs$SetupReader" "grouped" "I") (by decide +kernel)
  have k5 := S.2.2.2.2 (.fieldLink RX5 12 "RhymeRoofs$SetupReader" "game" "LRhymeRoofs$Game;") (by decide +kernel)
  have k6 := S.2.2.2.2 (.fieldLink RX5 115 "RhymeRoofs$Game" "rules" "LRhymeRoofs$Rules;") (by decide +kernel)
  have iX1 : ∀ w ∈ wsX10, w ∈ wsX5_readAlike := fun _ h => List.mem_cons_of_mem _ (List.mem_append_left _ (List.mem_append_right _ h))
  have k7 := S.2.2.2.2 (.fieldLink RX5 184 "RhymeRoofs$Rules" "groups" "[I") (by decide +kernel)
  have iX4 : ∀ w ∈ wsX40, w ∈ wsX5_readAlike := fun _ h => List.mem_cons_of_mem _ (List.mem_append_right _ h)
  intro H locs ls hP hD hS hl
  unfold f_X5_readAlike at hf
  refine lv_aload_n S.1 S.2.1 dX5_readAlike_0 rfl (lv_at hl 0 rfl) ?_
  refine R_cVi (As := []) (rest := []) S (c_X5_readRun (h11 := h11) (hG := hG)  hf) gX5_readAlike_X5_readRun rfl yk_X5_readRun ⟨⟨Nat.le_of_ble_eq_true rfl, Nat.le_of_ble_eq_true rfl⟩, rfl, rfl⟩ hK hP hD hS hX hA (h11 4 (by decide)) (cF_o E _ _ 4) rfl rfl hl.1 rfl (Nat.le_of_ble_eq_true rfl) ⟨Nat.zero_le _, Nat.zero_le _⟩ dX5_readAlike_1 (fun v_3 I_1 J_2 H locs hf hP hD hS => ?_)
  refine lv_if_ne (tgt := 9) S.1 S.2.1 dX5_readAlike_4 (by decide) (fun h_4 => ?_) (fun h_4 => ?_)
  · have hf := hf.2 h_4
    refine lv_aload_n S.1 S.2.1 dX5_readAlike_9 rfl (lv_at hl 0 rfl) ?_
    refine gfX5_2 S iX5 hK hP (h11 4 (by decide)) k1 dX5_readAlike_10 ?_
    refine lv_aload_n S.1 S.2.1 dX5_readAlike_13 rfl (lv_at hl 0 rfl) ?_
    refine gfX5_7 S iX5 hK hP (h11 4 (by decide)) k2 dX5_readAlike_14 ?_
    obtain ⟨h_5, hf⟩ := hf
    refine R_iald S.1 S.2.1 hK hP (h11 5 (by decide)) (IAo5 E) h_5 dX5_readAlike_17 ?_
    refine lv_bipush (v := 97) S.1 S.2.1 dX5_readAlike_18 rfl ?_
    refine lv_isub S.1 S.2.1 dX5_readAlike_20 ?_
    refine lv_iconst (v := 1) S.1 S.2.1 dX5_readAlike_21 rfl ?_
    refine lv_iadd S.1 S.2.1 dX5_readAlike_22 ?_
    refine lv_topi (fun x1_6 ex1_6 => ?_)
    have hf := hf x1_6 ex1_6
    refine lv_istore_n (lv' := [(1, .int x1_6), (0, .ref (eA E 11 4))]) S.1 S.2.1 dX5_readAlike_23 rfl hl (by decide) rfl (fun ls hl => ?_)
    refine lv_aload_n S.1 S.2.1 dX5_readAlike_24 rfl (lv_at hl 1 rfl) ?_
    refine gfX5_7 S iX5 hK hP (h11 4 (by decide)) k2 dX5_readAlike_25 ?_
    refine lv_topi (fun x2_7 ex2_7 => ?_)
    have hf := hf x2_7 ex2_7
    refine lv_istore_n (lv' := [(2, .int x2_7), (1, .int x1_6), (0, .ref (eA E 11 4))]) S.1 S.2.1 dX5_readAlike_28 rfl hl (by decide) rfl (fun ls hl => ?_)
    obtain ⟨n_29, hf⟩ := hf
    have L29 : ∀ (x1_8 : Int32), ∀ (K99 : MI → MJ → Prop), ∀ (K60 : Int32 → MI → MJ → Prop), (∀ (I_20 : MI) (J_21 : MJ), K99 I_20 J_21 → Wj p l e (rmX5_readAlike) s m args below meth c Qm E ps 4 I_20 J_21 99 [] []) → (∀ (x2_22 : Int32) (I_23 : MI) (J_24 : MJ), K60 x2_22 I_23 J_24 → Wj p l e (rmX5_readAlike) s m args below meth c Qm E ps 4 I_23 J_24 60 [(0, .ref (eA E 11 4)), (2, .int x2_22)] []) → ∀ (n : Nat) (x2_9 : Int32) (I_10 : MI) (J_11 : MJ), f_X5_readAlike_L29 x1_8 K99 K60 n x2_9 I_10 J_11 → Wj p l e (rmX5_readAlike) s m args below meth c Qm E ps 4 I_10 J_11 29 [(0, .ref (eA E 11 4)), (1, .int x1_8), (2, .int x2_9)] [] := by
      intro x1_8 K99 K60 kx99 kx60 n
      induction n with
      | zero => intro x2_9 I_10 J_11 hf; exact hf.elim
      | succ n ih29 =>
        intro x2_9 I_10 J_11 hf
        have hf : f_X5_readAlike_B29 x1_8 K99 K60 (f_X5_readAlike_L29 x1_8 K99 K60 n) x2_9 I_10 J_11 := hf
        intro H locs ls hP hD hS hl
        unfold f_X5_readAlike_B29 at hf
        refine lv_iload_n S.1 S.2.1 dX5_readAlike_29 rfl (lv_at hl 2 rfl) ?_
        refine lv_aload_n S.1 S.2.1 dX5_readAlike_30 rfl (lv_at hl 0 rfl) ?_
        refine gfX5_4 S iX5 hK hP (h11 4 (by decide)) k3 dX5_readAlike_31 ?_
        refine lv_icmp_ge (tgt := 99) S.1 S.2.1 dX5_readAlike_34 (by decide) (fun h_12 => ?_) (fun h_12 => ?_)
        · have hf := hf.1 h_12
          exact kx99 _ _ hf _ _ _ hP hD hS (lv_sub hl [] rfl)
        · have hf := hf.2 h_12
          refine lv_aload_n S.1 S.2.1 dX5_readAlike_37 rfl (lv_at hl 0 rfl) ?_
          refine gfX5_2 S iX5 hK hP (h11 4 (by decide)) k1 dX5_readAlike_38 ?_
          refine lv_iload_n S.1 S.2.1 dX5_readAlike_41 rfl (lv_at hl 2 rfl) ?_
          obtain ⟨h_13, hf⟩ := hf
          refine R_iald S.1 S.2.1 hK hP (h11 5 (by decide)) (IAo5 E) h_13 dX5_readAlike_42 ?_
          refine lv_bipush (v := 97) S.1 S.2.1 dX5_readAlike_43 rfl ?_
          refine lv_isub S.1 S.2.1 dX5_readAlike_45 ?_
          refine lv_iconst (v := 1) S.1 S.2.1 dX5_readAlike_46 rfl ?_
          refine lv_iadd S.1 S.2.1 dX5_readAlike_47 ?_
          refine lv_topi (fun x3_14 ex3_14 => ?_)
          have hf := hf x3_14 ex3_14
          refine lv_istore_n (lv' := [(3, .int x3_14), (0, .ref (eA E 11 4)), (1, .int x1_8), (2, .int x2_9)]) S.1 S.2.1 dX5_readAlike_48 rfl hl (by decide) rfl (fun ls hl => ?_)
          refine lv_aload_n S.1 S.2.1 dX5_readAlike_49 rfl (lv_at hl 1 rfl) ?_
          refine gfX5_10 S iX5 hK hP (h11 4 (by decide)) k4 dX5_readAlike_50 ?_
          refine lv_iconst (v := 1) S.1 S.2.1 dX5_readAlike_53 rfl ?_
          refine lv_iload_n S.1 S.2.1 dX5_readAlike_54 rfl (lv_at hl 0 rfl) ?_
          refine lv_ishl S.1 S.2.1 dX5_readAlike_55 ?_
          refine lv_iand S.1 S.2.1 dX5_readAlike_56 ?_
          refine lv_if_eq (tgt := 68) S.1 S.2.1 dX5_readAlike_57 (by decide) (fun h_15 => ?_) (fun h_15 => ?_)
          · have hf := hf.1 h_15
            refine lv_aload_n S.1 S.2.1 dX5_readAlike_68 rfl (lv_at hl 1 rfl) ?_
            refine lv_dup S.1 S.2.1 dX5_readAlike_69 rfl ?_
            refine gfX5_10 S iX5 hK hP (h11 4 (by decide)) k4 dX5_readAlike_70 ?_
            refine lv_iconst (v := 1) S.1 S.2.1 dX5_readAlike_73 rfl ?_
            refine lv_iload_n S.1 S.2.1 dX5_readAlike_74 rfl (lv_at hl 0 rfl) ?_
            refine lv_ishl S.1 S.2.1 dX5_readAlike_75 ?_
            refine lv_ior S.1 S.2.1 dX5_readAlike_76 ?_
            refine nm_o hf (fun I_16 eI_16 hf => ?_)
            refine pfX5_10 S iX5 hK hP hD hS (h11 4 (by decide)) k4 dX5_readAlike_77 eI_16 (fun H locs hP hD hS => ?_)
            refine lv_aload_n S.1 S.2.1 dX5_readAlike_80 rfl (lv_at hl 1 rfl) ?_
            refine gfX5_0 S iX5 hK hP (h11 4 (by decide)) k5 dX5_readAlike_81 ?_
            refine gfX1_0 S iX1 hK hP (by decide) ((fun r => hG 10 r (by decide)) 0 (by decide)) k6 dX5_readAlike_84 ?_
            refine gfX4_1 S iX4 hK hP (by decide) ((fun r => hG 10 r (by decide)) 1 (by decide)) k7 dX5_readAlike_87 ?_
            refine lv_iload_n S.1 S.2.1 dX5_readAlike_90 rfl (lv_at hl 0 rfl) ?_
            refine lv_iload_n S.1 S.2.1 dX5_readAlike_91 rfl (lv_at hl 2 rfl) ?_
            obtain ⟨h_17, hf⟩ := hf
            refine nm_o hf (fun I_18 eI_18 hf => ?_)
            refine R_iast S.1 S.2.1 hK hP hD hS ((fun r => hG 10 r (by decide)) 4 (by decide)) (IAg4 E (by decide)) h_17 dX5_readAlike_92 eI_18 (fun H locs hP hD hS => ?_)
            refine nm_o hf (fun x2_19 ex2_19 hf => ?_)
            refine lv_iinc (v := x2_19) (lv' := [(2, .int x2_19), (3, .int x3_14), (0, .ref (eA E 11 4)), (1, .int x1_8)]) S.1 S.2.1 dX5_readAlike_93 hl (k := 3) rfl (by rw [ex2_19]; rfl) (by decide) rfl (fun ls hl => ?_)
            refine lv_goto (tgt := 29) S.1 S.2.1 dX5_readAlike_96 (by decide) ?_
            exact ih29 _ _ _ hf _ _ _ hP hD hS (lv_sub hl [2, 3, 0] rfl)
          · have hf := hf.2 h_15
            exact kx60 _ _ _ hf _ _ _ hP hD hS (lv_sub hl [1, 3] rfl)
    refine L29 _ _ _ (fun I_20 J_21 hf H locs ls hP hD hS hl => ?_) (fun x2_22 I_23 J_24 hf H locs ls hP hD hS hl => ?_)  n_29 _ _ _ hf _ _ _ hP hD hS (lv_sub hl [2, 1, 0] rfl)
    · refine lv_iconst (v := 1) S.1 S.2.1 dX5_readAlike_99 rfl ?_
      exact hret hf rfl hP hD hS dX5_readAlike_100
    · refine lv_aload_n S.1 S.2.1 dX5_readAlike_60 rfl (lv_at hl 0 rfl) ?_
      refine lv_bipush (v := (-4)) S.1 S.2.1 dX5_readAlike_61 rfl ?_
      refine lv_iload_n S.1 S.2.1 dX5_readAlike_63 rfl (lv_at hl 1 rfl) ?_
      refine R_cVi (As := [.int (-4 : Int32), .int x2_22]) (rest := []) S (c_X5_fail (h11 := h11) (hG := hG)  hf) gX5_readAlike_X5_fail rfl yk_X5_fail ⟨⟨Nat.le_of_ble_eq_true rfl, Nat.le_of_ble_eq_true rfl⟩, rfl, rfl⟩ hK hP hD hS hX hA (h11 4 (by decide)) (cF_o E _ _ 4) rfl rfl hl.1 rfl (Nat.le_of_ble_eq_true rfl) ⟨Nat.zero_le _, Nat.zero_le _⟩ dX5_readAlike_64 (fun v_27 I_25 J_26 H locs hf hP hD hS => ?_)
      obtain ⟨h_28, hf⟩ := hf
      exact hret hf h_28.1 hP hD hS dX5_readAlike_67
  · have hf := hf.1 h_4
    refine lv_iconst (v := 0) S.1 S.2.1 dX5_readAlike_7 rfl ?_
    exact hret hf rfl hP hD hS dX5_readAlike_8
abbrev rmX5_readHand : Room := { frames := 2, cells := 0, slots := 0, locals := 86 }
theorem yk_X5_readHand : yOk yX5_readHand RX5 0 := by unfold yOk; decide +kernel
def f_X5_readHand_J54 (K142 : MI → MJ → Prop) (K61 : MI → MJ → Prop) (K77 : MI → MJ → Prop) (K102 : MI → MJ → Prop) (rec34 : Int32 → MI → MJ → Prop) (x1_7 : Int32) (x2_13 : Int32) (I_14 : MI) (J_15 : MJ) : Prop :=
  f_X5_readRun I_14 J_15 (fun (v_18 : Int32) (I_16 : MI) (J_17 : MJ) => ((v_18 = (0 : Int32) → K61 I_16 J_17) ∧ (¬ v_18 = (0 : Int32) → ((((I_16 11 4 4) - (I_16 11 4 7)) ≤ (8 : Int32) → (vp_in x1_7 4 ∧ (((I_16 10 13 x1_7.toNatClampNeg) < (8 : Int32) → f_X6_ofBytes 11 5 600 (I_16 11 4 7) (I_16 11 4 4) I_16 J_17 (fun (v_25 : Int64) (I_23 : MI) (J_24 : MJ) => f_X1_addWord 10 x1_7 v_25 I_23 J_24 (fun (I_26 : MI) (J_27 : MJ) => ∀ x2_28 : Int32, x2_28 = x2_13 + (1 : Int32) → rec34 x2_28 I_26 J_27))) ∧ (¬ (I_16 10 13 x1_7.toNatClampNeg) < (8 : Int32) → K102 I_16 J_17)))) ∧ (¬ ((I_16 11 4 4) - (I_16 11 4 7)) ≤ (8 : Int32) → K77 I_16 J_17)))))
def f_X5_readHand_B34 (x1_7 : Int32) (K142 : MI → MJ → Prop) (K61 : MI → MJ → Prop) (K77 : MI → MJ → Prop) (K102 : MI → MJ → Prop) (rec34 : Int32 → MI → MJ → Prop) (x2_8 : Int32) (I_9 : MI) (J_10 : MJ) : Prop :=
  (((8 : Int32) < x2_8 → K142 I_9 J_10) ∧ (¬ (8 : Int32) < x2_8 → ((x2_8 = (0 : Int32) → f_X5_readHand_J54 K142 K61 K77 K102 rec34 x1_7 x2_8 I_9 J_10) ∧ (¬ x2_8 = (0 : Int32) → f_X5_peek I_9 J_10 (fun (v_31 : Int32) (I_29 : MI) (J_30 : MJ) => f_X6_isLetter v_31 I_29 J_30 (fun (v_34 : Int32) (I_32 : MI) (J_33 : MJ) => ((v_34 = (0 : Int32) → K142 I_32 J_33) ∧ (¬ v_34 = (0 : Int32) → f_X5_readHand_J54 K142 K61 K77 K102 rec34 x1_7 x2_8 I_32 J_33))))))))
def f_X5_readHand_L34 (x1_7 : Int32) (K142 : MI → MJ → Prop) (K61 : MI → MJ → Prop) (K77 : MI → MJ → Prop) (K102 : MI → MJ → Prop) : Nat → Int32 → MI → MJ → Prop
  | 0, _, _, _ => False
  | n + 1, x2_8, I_9, J_10 => f_X5_readHand_B34 x1_7 K142 K61 K77 K102 (f_X5_readHand_L34 x1_7 K142 K61 K77 K102 n) x2_8 I_9 J_10
def f_X5_readHand (I : MI) (J : MJ) (Q : Int32 → MI → MJ → Prop) : Prop :=
  f_X5_readNumber (0 : Int32) ((I 10 1 4) - (1 : Int32)) I J (fun (v_3 : Int32) (I_1 : MI) (J_2 : MJ) => ((v_3 = (0 : Int32) → Q (0 : Int32) I_1 J_2) ∧ (¬ v_3 = (0 : Int32) → ∀ x1_5 : Int32, x1_5 = I_1 11 4 6 → ∀ I_6 : MI, I_6 = sI I_1 11 4 9 (1 : Int32) → ∃ n : Nat, f_X5_readHand_L34 x1_5 (fun (I_36 : MI) (J_37 : MJ) => Q (1 : Int32) I_36 J_37) (fun (I_38 : MI) (J_39 : MJ) => Q (0 : Int32) I_38 J_39) (fun (I_40 : MI) (J_41 : MJ) => f_X5_fail (-3 : Int32) (I_40 11 4 7) I_40 J_41 (fun (v_44 : Int32) (I_42 : MI) (J_43 : MJ) => (bo v_44 ∧ Q v_44 I_42 J_43))) (fun (I_46 : MI) (J_47 : MJ) => f_X5_fail (-5 : Int32) (I_46 11 4 7) I_46 J_47 (fun (v_50 : Int32) (I_48 : MI) (J_49 : MJ) => (bo v_50 ∧ Q v_50 I_48 J_49))) n (0 : Int32) I_6 J_2)))
set_option maxRecDepth 100000 in
set_option maxHeartbeats 4000000 in
theorem c_X5_readHand {l : Launch} {E : EV} {ps : List (Nat × Nat)} (h11 : ∀ r, r < 11 → (11, r) ∈ ps) (hG : ∀ k r, k < 11 → r < 16 → (k, r) ∈ ps) {I : MI} {J : MJ} {Q : Int32 → MI → MJ → Prop} (hf : f_X5_readHand I J Q) : KI l yX5_readHand wsX5_readHand rmX5_readHand E ps [.ref (eA E 11 4)] I J Q := by
  refine K_ofI (cc := cX5_readHand) (maxL := 3) (ty := .boolean) (by decide +kernel) rfl (Nat.le_of_ble_eq_true rfl) (fun p e s m args below meth c Qm hret S hK hX => ?_)
  have hA : ∀ q, s.heap.size ≤ q → AA E ps s.heap.size q := fun _ h => Or.inr h
  have k1 := S.2.2.2.2 (.fieldLink RX5 12 "RhymeRoofs$SetupReader" "game" "LRhymeRoofs$Game;") (by decide +kernel)
  have iX5 : ∀ w ∈ wsX50, w ∈ wsX5_readHand := fun _ h => List.mem_cons_of_mem _ (List.mem_append_left _ (List.mem_append_left _ (List.mem_append_right _ h)))
  have k2 := S.2.2.2.2 (.fieldLink RX5 115 "RhymeRoofs$Game" "rules" "LRhymeRoofs$Rules;") (by decide +kernel)
  have iX1 : ∀ w ∈ wsX10, w ∈ wsX5_readHand := fun _ h => List.mem_cons_of_mem _ (List.mem_append_left _ (List.mem_append_right _ h))
  have k3 := S.2.2.2.2 (.fieldLink RX5 176 "RhymeRoofs$Rules" "players" "I") (by decide +kernel)
  have iX4 : ∀ w ∈ wsX40, w ∈ wsX5_readHand := fun _ h => List.mem_cons_of_mem _ (List.mem_append_right _ h)
  have k4 := S.2.2.2.2 (.fieldLink RX5 88 "RhymeRoofs$SetupReader" "number" "I") (by decide +kernel)
  have k5 := S.2.2.2.2 (.fieldLink RX5 50 "RhymeRoofs$SetupReader" "handTold" "Z") (by decide +kernel)
  have k6 := S.2.2.2.2 (.fieldLink RX5 41 "RhymeRoofs$SetupReader" "at" "I") (by decide +kernel)
  have k7 := S.2.2.2.2 (.fieldLink RX5 85 "RhymeRoofs$SetupReader" "tokenStart" "I") (by decide +kernel)
  have k8 := S.2.2.2.2 (.fieldLink RX5 187 "RhymeRoofs$Game" "handSize" "[I") (by decide +kernel)
  have k9 := S.2.2.2.2 (.fieldLink RX5 22 "RhymeRoofs$SetupReader" "text" "[I") (by decide +kernel)
  intro H locs ls hP hD hS hl
  unfold f_X5_readHand at hf
  refine lv_aload_n S.1 S.2.1 dX5_readHand_0 rfl (lv_at hl 0 rfl) ?_
  refine lv_iconst (v := 0) S.1 S.2.1 dX5_readHand_1 rfl ?_
  refine lv_aload_n S.1 S.2.1 dX5_readHand_2 rfl (lv_at hl 0 rfl) ?_
  refine gfX5_0 S iX5 hK hP (h11 4 (by decide)) k1 dX5_readHand_3 ?_
  refine gfX1_0 S iX1 hK hP (by decide) ((fun r => hG 10 r (by decide)) 0 (by decide)) k2 dX5_readHand_6 ?_
  refine gfX4_4 S iX4 hK hP (by decide) ((fun r => hG 10 r (by decide)) 1 (by decide)) k3 dX5_readHand_9 ?_
  refine lv_iconst (v := 1) S.1 S.2.1 dX5_readHand_12 rfl ?_
  refine lv_isub S.1 S.2.1 dX5_readHand_13 ?_
  refine R_cVi (As := [.int (0 : Int32), .int ((I 10 1 4) - (1 : Int32))]) (rest := []) S (c_X5_readNumber (h11 := h11) (hG := hG)  hf) gX5_readHand_X5_readNumber rfl yk_X5_readNumber ⟨⟨Nat.le_of_ble_eq_true rfl, Nat.le_of_ble_eq_true rfl⟩, rfl, rfl⟩ hK hP hD hS hX hA (h11 4 (by decide)) (cF_o E _ _ 4) rfl rfl hl.1 rfl (Nat.le_of_ble_eq_true rfl) ⟨Nat.zero_le _, Nat.zero_le _⟩ dX5_readHand_14 (fun v_3 I_1 J_2 H locs hf hP hD hS => ?_)
  refine lv_if_ne (tgt := 22) S.1 S.2.1 dX5_readHand_17 (by decide) (fun h_4 => ?_) (fun h_4 => ?_)
  · have hf := hf.2 h_4
    refine lv_aload_n S.1 S.2.1 dX5_readHand_22 rfl (lv_at hl 0 rfl) ?_
    refine gfX5_6 S iX5 hK hP (h11 4 (by decide)) k4 dX5_readHand_23 ?_
    refine lv_topi (fun x1_5 ex1_5 => ?_)
    have hf := hf x1_5 ex1_5
    refine lv_istore_n (lv' := [(1, .int x1_5), (0, .ref (eA E 11 4))]) S.1 S.2.1 dX5_readHand_26 rfl hl (by decide) rfl (fun ls hl => ?_)
    refine lv_aload_n S.1 S.2.1 dX5_readHand_27 rfl (lv_at hl 1 rfl) ?_
    refine lv_iconst (v := 1) S.1 S.2.1 dX5_readHand_28 rfl ?_
    refine nm_o hf (fun I_6 eI_6 hf => ?_)
    refine pfX5_9 S iX5 hK hP hD hS (h11 4 (by decide)) k5 bo1 dX5_readHand_29 eI_6 (fun H locs hP hD hS => ?_)
    refine lv_iconst (v := 0) S.1 S.2.1 dX5_readHand_32 rfl ?_
    refine lv_istore_n (lv' := [(2, .int (0 : Int32)), (1, .int x1_5), (0, .ref (eA E 11 4))]) S.1 S.2.1 dX5_readHand_33 rfl hl (by decide) rfl (fun ls hl => ?_)
    obtain ⟨n_52, hf⟩ := hf
    have L34 : ∀ (x1_7 : Int32), ∀ (K142 : MI → MJ → Prop), ∀ (K61 : MI → MJ → Prop), ∀ (K77 : MI → MJ → Prop), ∀ (K102 : MI → MJ → Prop), (∀ (I_36 : MI) (J_37 : MJ), K142 I_36 J_37 → Wj p l e (rmX5_readHand) s m args below meth c Qm E ps 3 I_36 J_37 142 [] []) → (∀ (I_38 : MI) (J_39 : MJ), K61 I_38 J_39 → Wj p l e (rmX5_readHand) s m args below meth c Qm E ps 3 I_38 J_39 61 [] []) → (∀ (I_40 : MI) (J_41 : MJ), K77 I_40 J_41 → Wj p l e (rmX5_readHand) s m args below meth c Qm E ps 3 I_40 J_41 77 [(0, .ref (eA E 11 4))] []) → (∀ (I_46 : MI) (J_47 : MJ), K102 I_46 J_47 → Wj p l e (rmX5_readHand) s m args below meth c Qm E ps 3 I_46 J_47 102 [(0, .ref (eA E 11 4))] []) → ∀ (n : Nat) (x2_8 : Int32) (I_9 : MI) (J_10 : MJ), f_X5_readHand_L34 x1_7 K142 K61 K77 K102 n x2_8 I_9 J_10 → Wj p l e (rmX5_readHand) s m args below meth c Qm E ps 3 I_9 J_10 34 [(0, .ref (eA E 11 4)), (1, .int x1_7), (2, .int x2_8)] [] := by
      intro x1_7 K142 K61 K77 K102 kx142 kx61 kx77 kx102 n
      induction n with
      | zero => intro x2_8 I_9 J_10 hf; exact hf.elim
      | succ n ih34 =>
        intro x2_8 I_9 J_10 hf
        have hf : f_X5_readHand_B34 x1_7 K142 K61 K77 K102 (f_X5_readHand_L34 x1_7 K142 K61 K77 K102 n) x2_8 I_9 J_10 := hf
        have jn54 : ∀ (x2_13 : Int32) (I_14 : MI) (J_15 : MJ), f_X5_readHand_J54 K142 K61 K77 K102 (f_X5_readHand_L34 x1_7 K142 K61 K77 K102 n) x1_7 x2_13 I_14 J_15 → Wj p l e (rmX5_readHand) s m args below meth c Qm E ps 3 I_14 J_15 54 [(0, .ref (eA E 11 4)), (1, .int x1_7), (2, .int x2_13)] [] := by
          intro x2_13 I_14 J_15 hf H locs ls hP hD hS hl
          unfold f_X5_readHand_J54 at hf
          refine lv_aload_n S.1 S.2.1 dX5_readHand_54 rfl (lv_at hl 0 rfl) ?_
          refine R_cVi (As := []) (rest := []) S (c_X5_readRun (h11 := h11) (hG := hG)  hf) gX5_readHand_X5_readRun rfl yk_X5_readRun ⟨⟨Nat.le_of_ble_eq_true rfl, Nat.le_of_ble_eq_true rfl⟩, rfl, rfl⟩ hK hP hD hS hX hA (h11 4 (by decide)) (cF_o E _ _ 4) rfl rfl hl.1 rfl (Nat.le_of_ble_eq_true rfl) ⟨Nat.zero_le _, Nat.zero_le _⟩ dX5_readHand_55 (fun v_18 I_16 J_17 H locs hf hP hD hS => ?_)
          refine lv_if_ne (tgt := 63) S.1 S.2.1 dX5_readHand_58 (by decide) (fun h_19 => ?_) (fun h_19 => ?_)
          · have hf := hf.2 h_19
            refine lv_aload_n S.1 S.2.1 dX5_readHand_63 rfl (lv_at hl 0 rfl) ?_
            refine gfX5_4 S iX5 hK hP (h11 4 (by decide)) k6 dX5_readHand_64 ?_
            refine lv_aload_n S.1 S.2.1 dX5_readHand_67 rfl (lv_at hl 0 rfl) ?_
            refine gfX5_7 S iX5 hK hP (h11 4 (by decide)) k7 dX5_readHand_68 ?_
            refine lv_isub S.1 S.2.1 dX5_readHand_71 ?_
            refine lv_bipush (v := 8) S.1 S.2.1 dX5_readHand_72 rfl ?_
            refine lv_icmp_le (tgt := 88) S.1 S.2.1 dX5_readHand_74 (by decide) (fun h_20 => ?_) (fun h_20 => ?_)
            · have hf := hf.1 h_20
              refine lv_aload_n S.1 S.2.1 dX5_readHand_88 rfl (lv_at hl 0 rfl) ?_
              refine gfX5_0 S iX5 hK hP (h11 4 (by decide)) k1 dX5_readHand_89 ?_
              refine gfX1_7 S iX1 hK hP (by decide) ((fun r => hG 10 r (by decide)) 0 (by decide)) k8 dX5_readHand_92 ?_
              refine lv_iload_n S.1 S.2.1 dX5_readHand_95 rfl (lv_at hl 1 rfl) ?_
              obtain ⟨h_21, hf⟩ := hf
              refine R_iald S.1 S.2.1 hK hP ((fun r => hG 10 r (by decide)) 13 (by decide)) (IAg13 E (by decide)) h_21 dX5_readHand_96 ?_
              refine lv_bipush (v := 8) S.1 S.2.1 dX5_readHand_97 rfl ?_
              refine lv_icmp_lt (tgt := 113) S.1 S.2.1 dX5_readHand_99 (by decide) (fun h_22 => ?_) (fun h_22 => ?_)
              · have hf := hf.1 h_22
                refine lv_aload_n S.1 S.2.1 dX5_readHand_113 rfl (lv_at hl 0 rfl) ?_
                refine gfX5_0 S iX5 hK hP (h11 4 (by decide)) k1 dX5_readHand_114 ?_
                refine lv_iload_n S.1 S.2.1 dX5_readHand_117 rfl (lv_at hl 1 rfl) ?_
                refine lv_aload_n S.1 S.2.1 dX5_readHand_118 rfl (lv_at hl 0 rfl) ?_
                refine gfX5_2 S iX5 hK hP (h11 4 (by decide)) k9 dX5_readHand_119 ?_
                refine lv_aload_n S.1 S.2.1 dX5_readHand_122 rfl (lv_at hl 0 rfl) ?_
                refine gfX5_7 S iX5 hK hP (h11 4 (by decide)) k7 dX5_readHand_123 ?_
                refine lv_aload_n S.1 S.2.1 dX5_readHand_126 rfl (lv_at hl 0 rfl) ?_
                refine gfX5_4 S iX5 hK hP (h11 4 (by decide)) k6 dX5_readHand_127 ?_
                refine R_cSl (As := [.ref (eA E 11 5), .int (I_16 11 4 7), .int (I_16 11 4 4)]) (rest := [.int x1_7, .ref (eA E 10 0)]) S (c_X6_ofBytes  (hm1 := (h11 5 (by decide))) (hc1 := (IAo5 E)) hf) gX5_readHand_X6_ofBytes rfl yk_X6_ofBytes ⟨⟨Nat.le_of_ble_eq_true rfl, Nat.le_of_ble_eq_true rfl⟩, rfl, rfl⟩ hK hP hD hS hX hA rfl hl.1 rfl (Nat.le_of_ble_eq_true rfl) ⟨Nat.zero_le _, Nat.zero_le _⟩ dX5_readHand_130 (fun v_25 I_23 J_24 H locs hf hP hD hS => ?_)
                refine R_cVv (As := [.int x1_7, .long v_25]) (rest := []) S (c_X1_addWord (hB := (by decide)) (hM := (fun r => hG 10 r (by decide)))  hf) gX5_readHand_X1_addWord rfl yk_X1_addWord ⟨⟨Nat.le_of_ble_eq_true rfl, Nat.le_of_ble_eq_true rfl⟩, rfl, rfl⟩ hK hP hD hS hX hA ((fun r => hG 10 r (by decide)) 0 (by decide)) (cF_g E (by decide) _ _ 0) rfl rfl hl.1 rfl (Nat.le_of_ble_eq_true rfl) ⟨Nat.zero_le _, Nat.zero_le _⟩ dX5_readHand_133 (fun I_26 J_27 H locs hf hP hD hS => ?_)
                refine nm_o hf (fun x2_28 ex2_28 hf => ?_)
                refine lv_iinc (v := x2_28) (lv' := [(2, .int x2_28), (0, .ref (eA E 11 4)), (1, .int x1_7)]) S.1 S.2.1 dX5_readHand_136 hl (k := 2) rfl (by rw [ex2_28]; rfl) (by decide) rfl (fun ls hl => ?_)
                refine lv_goto (tgt := 34) S.1 S.2.1 dX5_readHand_139 (by decide) ?_
                exact ih34 _ _ _ hf _ _ _ hP hD hS (lv_sub hl [1, 2, 0] rfl)
              · have hf := hf.2 h_22
                exact kx102 _ _ hf _ _ _ hP hD hS (lv_sub hl [0] rfl)
            · have hf := hf.2 h_20
              exact kx77 _ _ hf _ _ _ hP hD hS (lv_sub hl [0] rfl)
          · have hf := hf.1 h_19
            exact kx61 _ _ hf _ _ _ hP hD hS (lv_sub hl [] rfl)
        intro H locs ls hP hD hS hl
        unfold f_X5_readHand_B34 at hf
        refine lv_iload_n S.1 S.2.1 dX5_readHand_34 rfl (lv_at hl 2 rfl) ?_
        refine lv_bipush (v := 8) S.1 S.2.1 dX5_readHand_35 rfl ?_
        refine lv_icmp_gt (tgt := 142) S.1 S.2.1 dX5_readHand_37 (by decide) (fun h_11 => ?_) (fun h_11 => ?_)
        · have hf := hf.1 h_11
          exact kx142 _ _ hf _ _ _ hP hD hS (lv_sub hl [] rfl)
        · have hf := hf.2 h_11
          refine lv_iload_n S.1 S.2.1 dX5_readHand_40 rfl (lv_at hl 2 rfl) ?_
          refine lv_if_eq (tgt := 54) S.1 S.2.1 dX5_readHand_41 (by decide) (fun h_12 => ?_) (fun h_12 => ?_)
          · have hf := hf.1 h_12
            exact jn54 _ _ _ hf _ _ _ hP hD hS (lv_sub hl [0, 1, 2] rfl)
          · have hf := hf.2 h_12
            refine lv_aload_n S.1 S.2.1 dX5_readHand_44 rfl (lv_at hl 0 rfl) ?_
            refine R_cVi (As := []) (rest := []) S (c_X5_peek (h11 := h11) (hG := hG)  hf) gX5_readHand_X5_peek rfl yk_X5_peek ⟨⟨Nat.le_of_ble_eq_true rfl, Nat.le_of_ble_eq_true rfl⟩, rfl, rfl⟩ hK hP hD hS hX hA (h11 4 (by decide)) (cF_o E _ _ 4) rfl rfl hl.1 rfl (Nat.le_of_ble_eq_true rfl) ⟨Nat.zero_le _, Nat.zero_le _⟩ dX5_readHand_45 (fun v_31 I_29 J_30 H locs hf hP hD hS => ?_)
            refine R_cSi (As := [.int v_31]) (rest := []) S (c_X6_isLetter   hf) gX5_readHand_X6_isLetter rfl yk_X6_isLetter ⟨⟨Nat.le_of_ble_eq_true rfl, Nat.le_of_ble_eq_true rfl⟩, rfl, rfl⟩ hK hP hD hS hX hA rfl hl.1 rfl (Nat.le_of_ble_eq_true rfl) ⟨Nat.zero_le _, Nat.zero_le _⟩ dX5_readHand_48 (fun v_34 I_32 J_33 H locs hf hP hD hS => ?_)
            refine lv_if_eq (tgt := 142) S.1 S.2.1 dX5_readHand_51 (by decide) (fun h_35 => ?_) (fun h_35 => ?_)
            · have hf := hf.1 h_35
              exact kx142 _ _ hf _ _ _ hP hD hS (lv_sub hl [] rfl)
            · have hf := hf.2 h_35
              exact jn54 _ _ _ hf _ _ _ hP hD hS (lv_sub hl [0, 1, 2] rfl)
    refine L34 _ _ _ _ _ (fun I_36 J_37 hf H locs ls hP hD hS hl => ?_) (fun I_38 J_39 hf H locs ls hP hD hS hl => ?_) (fun I_40 J_41 hf H locs ls hP hD hS hl => ?_) (fun I_46 J_47 hf H locs ls hP hD hS hl => ?_)  n_52 _ _ _ hf _ _ _ hP hD hS (lv_sub hl [2, 1, 0] rfl)
    · refine lv_iconst (v := 1) S.1 S.2.1 dX5_readHand_142 rfl ?_
      exact hret hf rfl hP hD hS dX5_readHand_143
    · refine lv_iconst (v := 0) S.1 S.2.1 dX5_readHand_61 rfl ?_
      exact hret hf rfl hP hD hS dX5_readHand_62
    · refine lv_aload_n S.1 S.2.1 dX5_readHand_77 rfl (lv_at hl 0 rfl) ?_
      refine lv_bipush (v := (-3)) S.1 S.2.1 dX5_readHand_78 rfl ?_
      refine lv_aload_n S.1 S.2.1 dX5_readHand_80 rfl (lv_at hl 0 rfl) ?_
      refine gfX5_7 S iX5 hK hP (h11 4 (by decide)) k7 dX5_readHand_81 ?_
      refine R_cVi (As := [.int (-3 : Int32), .int (I_40 11 4 7)]) (rest := []) S (c_X5_fail (h11 := h11) (hG := hG)  hf) gX5_readHand_X5_fail rfl yk_X5_fail ⟨⟨Nat.le_of_ble_eq_true rfl, Nat.le_of_ble_eq_true rfl⟩, rfl, rfl⟩ hK hP hD hS hX hA (h11 4 (by decide)) (cF_o E _ _ 4) rfl rfl hl.1 rfl (Nat.le_of_ble_eq_true rfl) ⟨Nat.zero_le _, Nat.zero_le _⟩ dX5_readHand_84 (fun v_44 I_42 J_43 H locs hf hP hD hS => ?_)
      obtain ⟨h_45, hf⟩ := hf
      exact hret hf h_45.1 hP hD hS dX5_readHand_87
    · refine lv_aload_n S.1 S.2.1 dX5_readHand_102 rfl (lv_at hl 0 rfl) ?_
      refine lv_bipush (v := (-5)) S.1 S.2.1 dX5_readHand_103 rfl ?_
      refine lv_aload_n S.1 S.2.1 dX5_readHand_105 rfl (lv_at hl 0 rfl) ?_
      refine gfX5_7 S iX5 hK hP (h11 4 (by decide)) k7 dX5_readHand_106 ?_
      refine R_cVi (As := [.int (-5 : Int32), .int (I_46 11 4 7)]) (rest := []) S (c_X5_fail (h11 := h11) (hG := hG)  hf) gX5_readHand_X5_fail rfl yk_X5_fail ⟨⟨Nat.le_of_ble_eq_true rfl, Nat.le_of_ble_eq_true rfl⟩, rfl, rfl⟩ hK hP hD hS hX hA (h11 4 (by decide)) (cF_o E _ _ 4) rfl rfl hl.1 rfl (Nat.le_of_ble_eq_true rfl) ⟨Nat.zero_le _, Nat.zero_le _⟩ dX5_readHand_109 (fun v_50 I_48 J_49 H locs hf hP hD hS => ?_)
      obtain ⟨h_51, hf⟩ := hf
      exact hret hf h_51.1 hP hD hS dX5_readHand_112
  · have hf := hf.1 h_4
    refine lv_iconst (v := 0) S.1 S.2.1 dX5_readHand_20 rfl ?_
    exact hret hf rfl hP hD hS dX5_readHand_21
