abbrev rmX6_ofBytes : Room := { frames := 0, cells := 0, slots := 0, locals := 0 }
theorem yk_X6_ofBytes : yOk yX6_ofBytes RX6 3 := by unfold yOk; decide +kernel
def f_X6_ofBytes_B5 (b1 : Nat) (r1 : Nat) (n1 : Nat) (x2_1 : Int32) (K39 : Int64 → MI → MJ → Prop) (rec5 : Int64 → Int32 → MI → MJ → Prop) (x3_2 : Int64) (x5_3 : Int32) (I_4 : MI) (J_5 : MJ) : Prop :=
  ((x2_1 ≤ x5_3 → K39 x3_2 I_4 J_5) ∧ (¬ x2_1 ≤ x5_3 → (((nI n1) ≤ x5_3 → K39 x3_2 I_4 J_5) ∧ (¬ (nI n1) ≤ x5_3 → (vp_in x5_3 n1 ∧ ∀ x3_9 : Int64, x3_9 = ((x3_2 <<< ((5 : Int32).toInt64 &&& 63)) ||| ((((I_4 b1 r1 x5_3.toNatClampNeg) - (97 : Int32)) + (1 : Int32)).toInt64)) → ∀ x5_10 : Int32, x5_10 = x5_3 + (1 : Int32) → rec5 x3_9 x5_10 I_4 J_5)))))
def f_X6_ofBytes_L5 (b1 : Nat) (r1 : Nat) (n1 : Nat) (x2_1 : Int32) (K39 : Int64 → MI → MJ → Prop) : Nat → Int64 → Int32 → MI → MJ → Prop
  | 0, _, _, _, _ => False
  | n + 1, x3_2, x5_3, I_4, J_5 => f_X6_ofBytes_B5 b1 r1 n1 x2_1 K39 (f_X6_ofBytes_L5 b1 r1 n1 x2_1 K39 n) x3_2 x5_3 I_4 J_5
def f_X6_ofBytes (b1 : Nat) (r1 : Nat) (n1 : Nat) (x1 : Int32) (x2 : Int32) (I : MI) (J : MJ) (Q : Int64 → MI → MJ → Prop) : Prop :=
  ∃ n : Nat, f_X6_ofBytes_L5 b1 r1 n1 x2 (fun (x3_11 : Int64) (I_12 : MI) (J_13 : MJ) => Q x3_11 I_12 J_13) n (0 : Int64) x1 I J
set_option maxRecDepth 100000 in
set_option maxHeartbeats 4000000 in
theorem c_X6_ofBytes {l : Launch} {E : EV} {ps : List (Nat × Nat)} {b1 r1 n1 : Nat} (hm1 : (b1, r1) ∈ ps) (hc1 : IA E b1 r1 n1) {x1 : Int32} {x2 : Int32} {I : MI} {J : MJ} {Q : Int64 → MI → MJ → Prop} (hf : f_X6_ofBytes b1 r1 n1 x1 x2 I J Q) : KL l yX6_ofBytes wsX6_ofBytes rmX6_ofBytes E ps [.ref (eA E b1 r1), .int x1, .int x2] I J Q := by
  refine K_ofL (cc := cX6_ofBytes) (maxL := 6) (by decide +kernel) rfl (Nat.le_of_ble_eq_true rfl) (fun p e s m args below meth c Qm hret S hK hX => ?_)
  have hA : ∀ q, s.heap.size ≤ q → AA E ps s.heap.size q := fun _ h => Or.inr h
  intro H locs ls hP hD hS hl
  unfold f_X6_ofBytes at hf
  refine lv_lconst (v := 0) S.1 S.2.1 dX6_ofBytes_0 rfl ?_
  refine lv_lstore_n (lv' := [(3, .long (0 : Int64)), (0, .ref (eA E b1 r1)), (1, .int x1), (2, .int x2)]) S.1 S.2.1 dX6_ofBytes_1 rfl hl (by decide) rfl (fun ls hl => ?_)
  refine lv_iload_n S.1 S.2.1 dX6_ofBytes_2 rfl (lv_at hl 2 rfl) ?_
  refine lv_istore (lv' := [(5, .int x1), (3, .long (0 : Int64)), (0, .ref (eA E b1 r1)), (1, .int x1), (2, .int x2)]) S.1 S.2.1 dX6_ofBytes_3 hl (by decide) rfl (fun ls hl => ?_)
  obtain ⟨n_14, hf⟩ := hf
  have L5 : ∀ (x2_1 : Int32), ∀ (K39 : Int64 → MI → MJ → Prop), (∀ (x3_11 : Int64) (I_12 : MI) (J_13 : MJ), K39 x3_11 I_12 J_13 → Wj p l e (rmX6_ofBytes) s m args below meth c Qm E ps 6 I_12 J_13 39 [(3, .long x3_11)] []) → ∀ (n : Nat) (x3_2 : Int64) (x5_3 : Int32) (I_4 : MI) (J_5 : MJ), f_X6_ofBytes_L5 b1 r1 n1 x2_1 K39 n x3_2 x5_3 I_4 J_5 → Wj p l e (rmX6_ofBytes) s m args below meth c Qm E ps 6 I_4 J_5 5 [(0, .ref (eA E b1 r1)), (2, .int x2_1), (3, .long x3_2), (5, .int x5_3)] [] := by
    intro x2_1 K39 kx39 n
    induction n with
    | zero => intro x3_2 x5_3 I_4 J_5 hf; exact hf.elim
    | succ n ih5 =>
      intro x3_2 x5_3 I_4 J_5 hf
      have hf : f_X6_ofBytes_B5 b1 r1 n1 x2_1 K39 (f_X6_ofBytes_L5 b1 r1 n1 x2_1 K39 n) x3_2 x5_3 I_4 J_5 := hf
      intro H locs ls hP hD hS hl
      unfold f_X6_ofBytes_B5 at hf
      refine lv_iload S.1 S.2.1 dX6_ofBytes_5 (lv_at hl 3 rfl) ?_
      refine lv_iload_n S.1 S.2.1 dX6_ofBytes_7 rfl (lv_at hl 1 rfl) ?_
      refine lv_icmp_ge (tgt := 39) S.1 S.2.1 dX6_ofBytes_8 (by decide) (fun h_6 => ?_) (fun h_6 => ?_)
      · have hf := hf.1 h_6
        exact kx39 _ _ _ hf _ _ _ hP hD hS (lv_sub hl [2] rfl)
      · have hf := hf.2 h_6
        refine lv_iload S.1 S.2.1 dX6_ofBytes_11 (lv_at hl 3 rfl) ?_
        refine lv_aload_n S.1 S.2.1 dX6_ofBytes_13 rfl (lv_at hl 0 rfl) ?_
        refine R_alenI S.1 S.2.1 hK hP hm1 hc1 dX6_ofBytes_14 ?_
        refine lv_icmp_ge (tgt := 39) S.1 S.2.1 dX6_ofBytes_15 (by decide) (fun h_7 => ?_) (fun h_7 => ?_)
        · have hf := hf.1 h_7
          exact kx39 _ _ _ hf _ _ _ hP hD hS (lv_sub hl [2] rfl)
        · have hf := hf.2 h_7
          refine lv_lload_n S.1 S.2.1 dX6_ofBytes_18 rfl (lv_at hl 2 rfl) ?_
          refine lv_iconst (v := 5) S.1 S.2.1 dX6_ofBytes_19 rfl ?_
          refine lv_lshl S.1 S.2.1 dX6_ofBytes_20 rfl ?_
          refine lv_aload_n S.1 S.2.1 dX6_ofBytes_21 rfl (lv_at hl 0 rfl) ?_
          refine lv_iload S.1 S.2.1 dX6_ofBytes_22 (lv_at hl 3 rfl) ?_
          obtain ⟨h_8, hf⟩ := hf
          refine R_iald S.1 S.2.1 hK hP hm1 hc1 h_8 dX6_ofBytes_24 ?_
          refine lv_bipush (v := 97) S.1 S.2.1 dX6_ofBytes_25 rfl ?_
          refine lv_isub S.1 S.2.1 dX6_ofBytes_27 ?_
          refine lv_iconst (v := 1) S.1 S.2.1 dX6_ofBytes_28 rfl ?_
          refine lv_iadd S.1 S.2.1 dX6_ofBytes_29 ?_
          refine lv_i2l S.1 S.2.1 dX6_ofBytes_30 rfl ?_
          refine lv_lor S.1 S.2.1 dX6_ofBytes_31 ?_
          refine lv_topl (fun x3_9 ex3_9 => ?_)
          have hf := hf x3_9 ex3_9
          refine lv_lstore_n (lv' := [(3, .long x3_9), (0, .ref (eA E b1 r1)), (2, .int x2_1), (5, .int x5_3)]) S.1 S.2.1 dX6_ofBytes_32 rfl hl (by decide) rfl (fun ls hl => ?_)
          refine nm_o hf (fun x5_10 ex5_10 hf => ?_)
          refine lv_iinc (v := x5_10) (lv' := [(5, .int x5_10), (3, .long x3_9), (0, .ref (eA E b1 r1)), (2, .int x2_1)]) S.1 S.2.1 dX6_ofBytes_33 hl (k := 3) rfl (by rw [ex5_10]; rfl) (by decide) rfl (fun ls hl => ?_)
          refine lv_goto (tgt := 5) S.1 S.2.1 dX6_ofBytes_36 (by decide) ?_
          exact ih5 _ _ _ _ hf _ _ _ hP hD hS (lv_sub hl [2, 3, 1, 0] rfl)
  refine L5 _ _ (fun x3_11 I_12 J_13 hf H locs ls hP hD hS hl => ?_)  n_14 _ _ _ _ hf _ _ _ hP hD hS (lv_sub hl [2, 4, 1, 0] rfl)
  refine lv_lload_n S.1 S.2.1 dX6_ofBytes_39 rfl (lv_at hl 0 rfl) ?_
  exact hret hf hP hD hS dX6_ofBytes_40
abbrev rmX6_length : Room := { frames := 0, cells := 0, slots := 0, locals := 0 }
theorem yk_X6_length : yOk yX6_length RX6 1 := by unfold yOk; decide +kernel
def f_X6_length_B4 (K26 : Int32 → MI → MJ → Prop) (rec4 : Int32 → Int64 → MI → MJ → Prop) (x2_1 : Int32) (x3_2 : Int64) (I_3 : MI) (J_4 : MJ) : Prop :=
  ((x3_2 = (0 : Int64) → K26 x2_1 I_3 J_4) ∧ (¬ x3_2 = (0 : Int64) → (((8 : Int32) ≤ x2_1 → K26 x2_1 I_3 J_4) ∧ (¬ (8 : Int32) ≤ x2_1 → ∀ x2_7 : Int32, x2_7 = x2_1 + (1 : Int32) → ∀ x3_8 : Int64, x3_8 = ((x3_2.toUInt64 >>> ((5 : Int32).toInt64.toUInt64 &&& Int64.toUInt64 63)).toInt64) → rec4 x2_7 x3_8 I_3 J_4))))
def f_X6_length_L4 (K26 : Int32 → MI → MJ → Prop) : Nat → Int32 → Int64 → MI → MJ → Prop
  | 0, _, _, _, _ => False
  | n + 1, x2_1, x3_2, I_3, J_4 => f_X6_length_B4 K26 (f_X6_length_L4 K26 n) x2_1 x3_2 I_3 J_4
def f_X6_length (x0 : Int64) (I : MI) (J : MJ) (Q : Int32 → MI → MJ → Prop) : Prop :=
  ∃ n : Nat, f_X6_length_L4 (fun (x2_9 : Int32) (I_10 : MI) (J_11 : MJ) => Q x2_9 I_10 J_11) n (0 : Int32) x0 I J
set_option maxRecDepth 100000 in
set_option maxHeartbeats 4000000 in
theorem c_X6_length {l : Launch} {E : EV} {ps : List (Nat × Nat)}  {x0 : Int64} {I : MI} {J : MJ} {Q : Int32 → MI → MJ → Prop} (hf : f_X6_length x0 I J Q) : KI l yX6_length wsX6_length rmX6_length E ps [.long x0] I J Q := by
  refine K_ofI (cc := cX6_length) (maxL := 5) (ty := .int) (by decide +kernel) rfl (Nat.le_of_ble_eq_true rfl) (fun p e s m args below meth c Qm hret S hK hX => ?_)
  have hA : ∀ q, s.heap.size ≤ q → AA E ps s.heap.size q := fun _ h => Or.inr h
  intro H locs ls hP hD hS hl
  unfold f_X6_length at hf
  refine lv_iconst (v := 0) S.1 S.2.1 dX6_length_0 rfl ?_
  refine lv_istore_n (lv' := [(2, .int (0 : Int32)), (0, .long x0)]) S.1 S.2.1 dX6_length_1 rfl hl (by decide) rfl (fun ls hl => ?_)
  refine lv_lload_n S.1 S.2.1 dX6_length_2 rfl (lv_at hl 1 rfl) ?_
  refine lv_lstore_n (lv' := [(3, .long x0), (2, .int (0 : Int32)), (0, .long x0)]) S.1 S.2.1 dX6_length_3 rfl hl (by decide) rfl (fun ls hl => ?_)
  obtain ⟨n_12, hf⟩ := hf
  have L4 : ∀ (K26 : Int32 → MI → MJ → Prop), (∀ (x2_9 : Int32) (I_10 : MI) (J_11 : MJ), K26 x2_9 I_10 J_11 → Wj p l e (rmX6_length) s m args below meth c Qm E ps 5 I_10 J_11 26 [(2, .int x2_9)] []) → ∀ (n : Nat) (x2_1 : Int32) (x3_2 : Int64) (I_3 : MI) (J_4 : MJ), f_X6_length_L4 K26 n x2_1 x3_2 I_3 J_4 → Wj p l e (rmX6_length) s m args below meth c Qm E ps 5 I_3 J_4 4 [(2, .int x2_1), (3, .long x3_2)] [] := by
    intro K26 kx26 n
    induction n with
    | zero => intro x2_1 x3_2 I_3 J_4 hf; exact hf.elim
    | succ n ih4 =>
      intro x2_1 x3_2 I_3 J_4 hf
      have hf : f_X6_length_B4 K26 (f_X6_length_L4 K26 n) x2_1 x3_2 I_3 J_4 := hf
      intro H locs ls hP hD hS hl
      unfold f_X6_length_B4 at hf
      refine lv_lload_n S.1 S.2.1 dX6_length_4 rfl (lv_at hl 1 rfl) ?_
      refine lv_lconst (v := 0) S.1 S.2.1 dX6_length_5 rfl ?_
      refine W.lcmp S.1 S.2.1 dX6_length_6 ?_
      refine lv_if_eq (tgt := 26) S.1 S.2.1 dX6_length_7 (by decide) (fun h_5 => ?_) (fun h_5 => ?_)
      · have hf := hf.1 ((lg_eq0 _ _).mp h_5)
        exact kx26 _ _ _ hf _ _ _ hP hD hS (lv_sub hl [0] rfl)
      · have hf := hf.2 (fun q => h_5 ((lg_eq0 _ _).mpr q))
        refine lv_iload_n S.1 S.2.1 dX6_length_10 rfl (lv_at hl 0 rfl) ?_
        refine lv_bipush (v := 8) S.1 S.2.1 dX6_length_11 rfl ?_
        refine lv_icmp_ge (tgt := 26) S.1 S.2.1 dX6_length_13 (by decide) (fun h_6 => ?_) (fun h_6 => ?_)
        · have hf := hf.1 h_6
          exact kx26 _ _ _ hf _ _ _ hP hD hS (lv_sub hl [0] rfl)
        · have hf := hf.2 h_6
          refine nm_o hf (fun x2_7 ex2_7 hf => ?_)
          refine lv_iinc (v := x2_7) (lv' := [(2, .int x2_7), (3, .long x3_2)]) S.1 S.2.1 dX6_length_16 hl (k := 0) rfl (by rw [ex2_7]; rfl) (by decide) rfl (fun ls hl => ?_)
          refine lv_lload_n S.1 S.2.1 dX6_length_19 rfl (lv_at hl 1 rfl) ?_
          refine lv_iconst (v := 5) S.1 S.2.1 dX6_length_20 rfl ?_
          refine lv_lushr S.1 S.2.1 dX6_length_21 rfl ?_
          refine lv_topl (fun x3_8 ex3_8 => ?_)
          have hf := hf x3_8 ex3_8
          refine lv_lstore_n (lv' := [(3, .long x3_8), (2, .int x2_7)]) S.1 S.2.1 dX6_length_22 rfl hl (by decide) rfl (fun ls hl => ?_)
          refine lv_goto (tgt := 4) S.1 S.2.1 dX6_length_23 (by decide) ?_
          exact ih4 _ _ _ _ hf _ _ _ hP hD hS (lv_sub hl [1, 0] rfl)
  refine L4 _ (fun x2_9 I_10 J_11 hf H locs ls hP hD hS hl => ?_)  n_12 _ _ _ _ hf _ _ _ hP hD hS (lv_sub hl [1, 0] rfl)
  refine lv_iload_n S.1 S.2.1 dX6_length_26 rfl (lv_at hl 0 rfl) ?_
  exact hret hf rfl hP hD hS dX6_length_27
abbrev rmX6_letterAt : Room := { frames := 1, cells := 0, slots := 0, locals := 24 }
theorem yk_X6_letterAt : yOk yX6_letterAt RX6 2 := by unfold yOk; decide +kernel
def f_X6_letterAt (x0 : Int64) (x2 : Int32) (I : MI) (J : MJ) (Q : Int32 → MI → MJ → Prop) : Prop :=
  f_X6_length x0 I J (fun (v_3 : Int32) (I_1 : MI) (J_2 : MJ) => ∀ x3_4 : Int32, x3_4 = ((v_3 - (1 : Int32)) - x2) → Q (((((x0.toUInt64 >>> (((5 : Int32) * x3_4).toInt64.toUInt64 &&& Int64.toUInt64 63)).toInt64) &&& (31 : Int64)).toInt32) - (1 : Int32)) I_1 J_2)
set_option maxRecDepth 100000 in
set_option maxHeartbeats 4000000 in
theorem c_X6_letterAt {l : Launch} {E : EV} {ps : List (Nat × Nat)}  {x0 : Int64} {x2 : Int32} {I : MI} {J : MJ} {Q : Int32 → MI → MJ → Prop} (hf : f_X6_letterAt x0 x2 I J Q) : KI l yX6_letterAt wsX6_letterAt rmX6_letterAt E ps [.long x0, .int x2] I J Q := by
  refine K_ofI (cc := cX6_letterAt) (maxL := 4) (ty := .int) (by decide +kernel) rfl (Nat.le_of_ble_eq_true rfl) (fun p e s m args below meth c Qm hret S hK hX => ?_)
  have hA : ∀ q, s.heap.size ≤ q → AA E ps s.heap.size q := fun _ h => Or.inr h
  have k1 := S.2.2.2.2 (.constantLong RX6 15 (31)) (by decide +kernel)
  intro H locs ls hP hD hS hl
  unfold f_X6_letterAt at hf
  refine lv_lload_n S.1 S.2.1 dX6_letterAt_0 rfl (lv_at hl 0 rfl) ?_
  refine R_cSi (As := [.long x0]) (rest := []) S (c_X6_length   hf) gX6_letterAt_X6_length rfl yk_X6_length ⟨⟨Nat.le_of_ble_eq_true rfl, Nat.le_of_ble_eq_true rfl⟩, rfl, rfl⟩ hK hP hD hS hX hA rfl hl.1 rfl (Nat.le_of_ble_eq_true rfl) ⟨Nat.zero_le _, Nat.zero_le _⟩ dX6_letterAt_1 (fun v_3 I_1 J_2 H locs hf hP hD hS => ?_)
  refine lv_iconst (v := 1) S.1 S.2.1 dX6_letterAt_4 rfl ?_
  refine lv_isub S.1 S.2.1 dX6_letterAt_5 ?_
  refine lv_iload_n S.1 S.2.1 dX6_letterAt_6 rfl (lv_at hl 1 rfl) ?_
  refine lv_isub S.1 S.2.1 dX6_letterAt_7 ?_
  refine lv_topi (fun x3_4 ex3_4 => ?_)
  have hf := hf x3_4 ex3_4
  refine lv_istore_n (lv' := [(3, .int x3_4), (0, .long x0), (2, .int x2)]) S.1 S.2.1 dX6_letterAt_8 rfl hl (by decide) rfl (fun ls hl => ?_)
  refine lv_lload_n S.1 S.2.1 dX6_letterAt_9 rfl (lv_at hl 1 rfl) ?_
  refine lv_iconst (v := 5) S.1 S.2.1 dX6_letterAt_10 rfl ?_
  refine lv_iload_n S.1 S.2.1 dX6_letterAt_11 rfl (lv_at hl 0 rfl) ?_
  refine lv_imul S.1 S.2.1 dX6_letterAt_12 ?_
  refine lv_lushr S.1 S.2.1 dX6_letterAt_13 rfl ?_
  refine lv_ldc2 (v := 31) S.1 S.2.1 S.2.2.2.1 k1 dX6_letterAt_14 ?_
  refine lv_land S.1 S.2.1 dX6_letterAt_17 ?_
  refine lv_l2i S.1 S.2.1 dX6_letterAt_18 rfl ?_
  refine lv_iconst (v := 1) S.1 S.2.1 dX6_letterAt_19 rfl ?_
  refine lv_isub S.1 S.2.1 dX6_letterAt_20 ?_
  exact hret hf rfl hP hD hS dX6_letterAt_21
abbrev rmX3_reset : Room := { frames := 1, cells := 0, slots := 0, locals := 21 }
theorem yk_X3_reset : yOk yX3_reset RX3 0 := by unfold yOk; decide +kernel
def f_X3_reset (b : Nat) (I : MI) (J : MJ) (Q : MI → MJ → Prop) : Prop :=
  ∀ I_1 : MI, I_1 = sI I b 2 2 (0 : Int32) → f_X3_add b (-1 : Int32) I_1 J (fun (I_2 : MI) (J_3 : MJ) => Q I_2 J_3)
set_option maxRecDepth 100000 in
set_option maxHeartbeats 4000000 in
theorem c_X3_reset {l : Launch} {E : EV} {ps : List (Nat × Nat)} {b : Nat} (hB : b < 11) (hM : ∀ r, r < 16 → (b, r) ∈ ps) {I : MI} {J : MJ} {Q : MI → MJ → Prop} (hf : f_X3_reset b I J Q) : KV l yX3_reset wsX3_reset rmX3_reset E ps [.ref (eA E b 2)] I J Q := by
  refine K_ofV (cc := cX3_reset) (maxL := 1) (by decide +kernel) rfl (Nat.le_of_ble_eq_true rfl) (fun p e s m args below meth c Qm hret S hK hX => ?_)
  have hA : ∀ q, s.heap.size ≤ q → AA E ps s.heap.size q := fun _ h => Or.inr h
  have k1 := S.2.2.2.2 (.fieldLink RX3 18 "RhymeRoofs$Rank" "length" "I") (by decide +kernel)
  have iX3 : ∀ w ∈ wsX30, w ∈ wsX3_reset := fun _ h => List.mem_cons_of_mem _ (List.mem_append_right _ h)
  intro H locs ls hP hD hS hl
  unfold f_X3_reset at hf
  refine lv_aload_n S.1 S.2.1 dX3_reset_0 rfl (lv_at hl 0 rfl) ?_
  refine lv_iconst (v := 0) S.1 S.2.1 dX3_reset_1 rfl ?_
  refine nm_o hf (fun I_1 eI_1 hf => ?_)
  refine pfX3_2 S iX3 hK hP hD hS hB (hM 2 (by decide)) k1 dX3_reset_2 eI_1 (fun H locs hP hD hS => ?_)
  refine lv_aload_n S.1 S.2.1 dX3_reset_5 rfl (lv_at hl 0 rfl) ?_
  refine lv_iconst (v := (-1)) S.1 S.2.1 dX3_reset_6 rfl ?_
  refine R_cVv (As := [.int (-1 : Int32)]) (rest := []) S (c_X3_add (hB := hB) (hM := hM)  hf) gX3_reset_X3_add rfl yk_X3_add ⟨⟨Nat.le_of_ble_eq_true rfl, Nat.le_of_ble_eq_true rfl⟩, rfl, rfl⟩ hK hP hD hS hX hA (hM 2 (by decide)) (cF_g E hB _ _ 2) rfl rfl hl.1 rfl (Nat.le_of_ble_eq_true rfl) ⟨Nat.zero_le _, Nat.zero_le _⟩ dX3_reset_7 (fun I_2 J_3 H locs hf hP hD hS => ?_)
  exact hret hf hP hD hS dX3_reset_10
abbrev rmX3_value : Room := { frames := 1, cells := 0, slots := 0, locals := 26 }
theorem yk_X3_value : yOk yX3_value RX3 1 := by unfold yOk; decide +kernel
def f_X3_value_B4 (b : Nat) (K108 : MI → MJ → Prop) (rec4 : Int32 → Int32 → MI → MJ → Prop) (x2_1 : Int32) (x3_2 : Int32) (I_3 : MI) (J_4 : MJ) : Prop :=
  (((I_3 b 2 2) ≤ x3_2 → K108 I_3 J_4) ∧ (¬ (I_3 b 2 2) ≤ x3_2 → (vp_in x3_2 600 ∧ ∀ x4_7 : Int32, x4_7 = I_3 b 5 x3_2.toNatClampNeg → (((-6 : Int32) ≤ x4_7 → (((16 : Int32) ≤ x2_1 → ∀ x3_10 : Int32, x3_10 = x3_2 + (1 : Int32) → rec4 x2_1 x3_10 I_3 J_4) ∧ (¬ (16 : Int32) ≤ x2_1 → ((x4_7 < (0 : Int32) → f_X3_indexOf x4_7 I_3 J_4 (fun (v_14 : Int32) (I_12 : MI) (J_13 : MJ) => (vp_in v_14 6 ∧ (vp_in x2_1 16 ∧ ∀ I_17 : MI, I_17 = sI I_12 b 6 x2_1.toNatClampNeg (I_12 b 15 v_14.toNatClampNeg) → ∀ x2_18 : Int32, x2_18 = x2_1 + (1 : Int32) → ∀ x3_19 : Int32, x3_19 = x3_2 + (1 : Int32) → rec4 x2_18 x3_19 I_17 J_13)))) ∧ (¬ x4_7 < (0 : Int32) → (vp_in x2_1 16 ∧ ∀ I_21 : MI, I_21 = sI I_3 b 6 x2_1.toNatClampNeg x4_7 → ∀ x2_22 : Int32, x2_22 = x2_1 + (1 : Int32) → ∀ x3_23 : Int32, x3_23 = x3_2 + (1 : Int32) → rec4 x2_22 x3_23 I_21 J_4)))))) ∧ (¬ (-6 : Int32) ≤ x4_7 → ((x2_1 < (2 : Int32) → ∀ x3_25 : Int32, x3_25 = x3_2 + (1 : Int32) → rec4 x2_1 x3_25 I_3 J_4) ∧ (¬ x2_1 < (2 : Int32) → ∀ x2_26 : Int32, x2_26 = x2_1 + (-1 : Int32) → (vp_in (x2_26 - (1 : Int32)) 16 ∧ (vp_in x2_26 16 ∧ f_X3_result x4_7 ((I_3 b 6 (x2_26 - (1 : Int32)).toNatClampNeg).toInt64) ((I_3 b 6 x2_26.toNatClampNeg).toInt64) I_3 J_4 (fun (v_31 : Int32) (I_29 : MI) (J_30 : MJ) => (vp_in (x2_26 - (1 : Int32)) 16 ∧ ∀ I_33 : MI, I_33 = sI I_29 b 6 (x2_26 - (1 : Int32)).toNatClampNeg v_31 → ∀ x3_34 : Int32, x3_34 = x3_2 + (1 : Int32) → rec4 x2_26 x3_34 I_33 J_30)))))))))))
def f_X3_value_L4 (b : Nat) (K108 : MI → MJ → Prop) : Nat → Int32 → Int32 → MI → MJ → Prop
  | 0, _, _, _, _ => False
  | n + 1, x2_1, x3_2, I_3, J_4 => f_X3_value_B4 b K108 (f_X3_value_L4 b K108 n) x2_1 x3_2 I_3 J_4
def f_X3_value (b : Nat) (I : MI) (J : MJ) (Q : Int32 → MI → MJ → Prop) : Prop :=
  ∃ n : Nat, f_X3_value_L4 b (fun (I_35 : MI) (J_36 : MJ) => (vp_in (0 : Int32) 16 ∧ Q (I_35 b 6 (0 : Int32).toNatClampNeg) I_35 J_36)) n (0 : Int32) (0 : Int32) I J
set_option maxRecDepth 100000 in
set_option maxHeartbeats 4000000 in
theorem c_X3_value {l : Launch} {E : EV} {ps : List (Nat × Nat)} {b : Nat} (hB : b < 11) (hM : ∀ r, r < 16 → (b, r) ∈ ps) {I : MI} {J : MJ} {Q : Int32 → MI → MJ → Prop} (hf : f_X3_value b I J Q) : KI l yX3_value wsX3_value rmX3_value E ps [.ref (eA E b 2), .ref (eA E b 15)] I J Q := by
  refine K_ofI (cc := cX3_value) (maxL := 5) (ty := .int) (by decide +kernel) rfl (Nat.le_of_ble_eq_true rfl) (fun p e s m args below meth c Qm hret S hK hX => ?_)
  have hA : ∀ q, s.heap.size ≤ q → AA E ps s.heap.size q := fun _ h => Or.inr h
  have k1 := S.2.2.2.2 (.fieldLink RX3 18 "RhymeRoofs$Rank" "length" "I") (by decide +kernel)
  have iX3 : ∀ w ∈ wsX30, w ∈ wsX3_value := fun _ h => List.mem_cons_of_mem _ (List.mem_append_right _ h)
  have k2 := S.2.2.2.2 (.fieldLink RX3 9 "RhymeRoofs$Rank" "codes" "[I") (by decide +kernel)
  have k3 := S.2.2.2.2 (.fieldLink RX3 15 "RhymeRoofs$Rank" "operands" "[I") (by decide +kernel)
  intro H locs ls hP hD hS hl
  unfold f_X3_value at hf
  refine lv_iconst (v := 0) S.1 S.2.1 dX3_value_0 rfl ?_
  refine lv_istore_n (lv' := [(2, .int (0 : Int32)), (0, .ref (eA E b 2)), (1, .ref (eA E b 15))]) S.1 S.2.1 dX3_value_1 rfl hl (by decide) rfl (fun ls hl => ?_)
  refine lv_iconst (v := 0) S.1 S.2.1 dX3_value_2 rfl ?_
  refine lv_istore_n (lv' := [(3, .int (0 : Int32)), (2, .int (0 : Int32)), (0, .ref (eA E b 2)), (1, .ref (eA E b 15))]) S.1 S.2.1 dX3_value_3 rfl hl (by decide) rfl (fun ls hl => ?_)
  obtain ⟨n_38, hf⟩ := hf
  have L4 : ∀ (K108 : MI → MJ → Prop), (∀ (I_35 : MI) (J_36 : MJ), K108 I_35 J_36 → Wj p l e (rmX3_value) s m args below meth c Qm E ps 5 I_35 J_36 108 [(0, .ref (eA E b 2))] []) → ∀ (n : Nat) (x2_1 : Int32) (x3_2 : Int32) (I_3 : MI) (J_4 : MJ), f_X3_value_L4 b K108 n x2_1 x3_2 I_3 J_4 → Wj p l e (rmX3_value) s m args below meth c Qm E ps 5 I_3 J_4 4 [(0, .ref (eA E b 2)), (1, .ref (eA E b 15)), (2, .int x2_1), (3, .int x3_2)] [] := by
    intro K108 kx108 n
    induction n with
    | zero => intro x2_1 x3_2 I_3 J_4 hf; exact hf.elim
    | succ n ih4 =>
      intro x2_1 x3_2 I_3 J_4 hf
      have hf : f_X3_value_B4 b K108 (f_X3_value_L4 b K108 n) x2_1 x3_2 I_3 J_4 := hf
      intro H locs ls hP hD hS hl
      unfold f_X3_value_B4 at hf
      refine lv_iload_n S.1 S.2.1 dX3_value_4 rfl (lv_at hl 3 rfl) ?_
      refine lv_aload_n S.1 S.2.1 dX3_value_5 rfl (lv_at hl 0 rfl) ?_
      refine gfX3_2 S iX3 hK hP hB (hM 2 (by decide)) k1 dX3_value_6 ?_
      refine lv_icmp_ge (tgt := 108) S.1 S.2.1 dX3_value_9 (by decide) (fun h_5 => ?_) (fun h_5 => ?_)
      · have hf := hf.1 h_5
        exact kx108 _ _ hf _ _ _ hP hD hS (lv_sub hl [0] rfl)
      · have hf := hf.2 h_5
        refine lv_aload_n S.1 S.2.1 dX3_value_12 rfl (lv_at hl 0 rfl) ?_
        refine gfX3_0 S iX3 hK hP hB (hM 2 (by decide)) k2 dX3_value_13 ?_
        refine lv_iload_n S.1 S.2.1 dX3_value_16 rfl (lv_at hl 3 rfl) ?_
        obtain ⟨h_6, hf⟩ := hf
        refine R_iald S.1 S.2.1 hK hP (hM 5 (by decide)) (IAg5 E hB) h_6 dX3_value_17 ?_
        refine lv_topi (fun x4_7 ex4_7 => ?_)
        have hf := hf x4_7 ex4_7
        refine lv_istore (lv' := [(4, .int x4_7), (0, .ref (eA E b 2)), (1, .ref (eA E b 15)), (2, .int x2_1), (3, .int x3_2)]) S.1 S.2.1 dX3_value_18 hl (by decide) rfl (fun ls hl => ?_)
        refine lv_iload S.1 S.2.1 dX3_value_20 (lv_at hl 0 rfl) ?_
        refine lv_bipush (v := (-6)) S.1 S.2.1 dX3_value_22 rfl ?_
        refine lv_icmp_ge (tgt := 67) S.1 S.2.1 dX3_value_24 (by decide) (fun h_8 => ?_) (fun h_8 => ?_)
        · have hf := hf.1 h_8
          refine lv_iload_n S.1 S.2.1 dX3_value_67 rfl (lv_at hl 3 rfl) ?_
          refine lv_aload_n S.1 S.2.1 dX3_value_68 rfl (lv_at hl 1 rfl) ?_
          refine gfX3_1 S iX3 hK hP hB (hM 2 (by decide)) k3 dX3_value_69 ?_
          refine R_alenI S.1 S.2.1 hK hP (hM 6 (by decide)) (IAg6 E hB) dX3_value_72 ?_
          refine lv_icmp_ge (tgt := 102) S.1 S.2.1 dX3_value_73 (by decide) (fun h_9 => ?_) (fun h_9 => ?_)
          · have hf := hf.1 h_9
            refine nm_o hf (fun x3_10 ex3_10 hf => ?_)
            refine lv_iinc (v := x3_10) (lv' := [(3, .int x3_10), (4, .int x4_7), (0, .ref (eA E b 2)), (1, .ref (eA E b 15)), (2, .int x2_1)]) S.1 S.2.1 dX3_value_102 hl (k := 4) rfl (by rw [ex3_10]; rfl) (by decide) rfl (fun ls hl => ?_)
            refine lv_goto (tgt := 4) S.1 S.2.1 dX3_value_105 (by decide) ?_
            exact ih4 _ _ _ _ hf _ _ _ hP hD hS (lv_sub hl [2, 3, 4, 0] rfl)
          · have hf := hf.2 h_9
            refine lv_aload_n S.1 S.2.1 dX3_value_76 rfl (lv_at hl 1 rfl) ?_
            refine gfX3_1 S iX3 hK hP hB (hM 2 (by decide)) k3 dX3_value_77 ?_
            refine lv_iload_n S.1 S.2.1 dX3_value_80 rfl (lv_at hl 3 rfl) ?_
            refine lv_iload S.1 S.2.1 dX3_value_81 (lv_at hl 0 rfl) ?_
            refine lv_if_lt (tgt := 91) S.1 S.2.1 dX3_value_83 (by decide) (fun h_11 => ?_) (fun h_11 => ?_)
            · have hf := hf.1 h_11
              refine lv_aload_n S.1 S.2.1 dX3_value_91 rfl (lv_at hl 2 rfl) ?_
              refine lv_iload S.1 S.2.1 dX3_value_92 (lv_at hl 0 rfl) ?_
              refine R_cSi (As := [.int x4_7]) (rest := [.ref (eA E b 15), .int x2_1, .ref (eA E b 6)]) S (c_X3_indexOf   hf) gX3_value_X3_indexOf rfl yk_X3_indexOf ⟨⟨Nat.le_of_ble_eq_true rfl, Nat.le_of_ble_eq_true rfl⟩, rfl, rfl⟩ hK hP hD hS hX hA rfl hl.1 rfl (Nat.le_of_ble_eq_true rfl) ⟨Nat.zero_le _, Nat.zero_le _⟩ dX3_value_94 (fun v_14 I_12 J_13 H locs hf hP hD hS => ?_)
              obtain ⟨h_15, hf⟩ := hf
              refine R_iald S.1 S.2.1 hK hP (hM 15 (by decide)) (IAg15 E hB) h_15 dX3_value_97 ?_
              obtain ⟨h_16, hf⟩ := hf
              refine nm_o hf (fun I_17 eI_17 hf => ?_)
              refine R_iast S.1 S.2.1 hK hP hD hS (hM 6 (by decide)) (IAg6 E hB) h_16 dX3_value_98 eI_17 (fun H locs hP hD hS => ?_)
              refine nm_o hf (fun x2_18 ex2_18 hf => ?_)
              refine lv_iinc (v := x2_18) (lv' := [(2, .int x2_18), (4, .int x4_7), (0, .ref (eA E b 2)), (1, .ref (eA E b 15)), (3, .int x3_2)]) S.1 S.2.1 dX3_value_99 hl (k := 3) rfl (by rw [ex2_18]; rfl) (by decide) rfl (fun ls hl => ?_)
              refine nm_o hf (fun x3_19 ex3_19 hf => ?_)
              refine lv_iinc (v := x3_19) (lv' := [(3, .int x3_19), (2, .int x2_18), (4, .int x4_7), (0, .ref (eA E b 2)), (1, .ref (eA E b 15))]) S.1 S.2.1 dX3_value_102 hl (k := 4) rfl (by rw [ex3_19]; rfl) (by decide) rfl (fun ls hl => ?_)
              refine lv_goto (tgt := 4) S.1 S.2.1 dX3_value_105 (by decide) ?_
              exact ih4 _ _ _ _ hf _ _ _ hP hD hS (lv_sub hl [3, 4, 1, 0] rfl)
            · have hf := hf.2 h_11
              refine lv_iload S.1 S.2.1 dX3_value_86 (lv_at hl 0 rfl) ?_
              refine lv_goto (tgt := 98) S.1 S.2.1 dX3_value_88 (by decide) ?_
              obtain ⟨h_20, hf⟩ := hf
              refine nm_o hf (fun I_21 eI_21 hf => ?_)
              refine R_iast S.1 S.2.1 hK hP hD hS (hM 6 (by decide)) (IAg6 E hB) h_20 dX3_value_98 eI_21 (fun H locs hP hD hS => ?_)
              refine nm_o hf (fun x2_22 ex2_22 hf => ?_)
              refine lv_iinc (v := x2_22) (lv' := [(2, .int x2_22), (4, .int x4_7), (0, .ref (eA E b 2)), (1, .ref (eA E b 15)), (3, .int x3_2)]) S.1 S.2.1 dX3_value_99 hl (k := 3) rfl (by rw [ex2_22]; rfl) (by decide) rfl (fun ls hl => ?_)
              refine nm_o hf (fun x3_23 ex3_23 hf => ?_)
              refine lv_iinc (v := x3_23) (lv' := [(3, .int x3_23), (2, .int x2_22), (4, .int x4_7), (0, .ref (eA E b 2)), (1, .ref (eA E b 15))]) S.1 S.2.1 dX3_value_102 hl (k := 4) rfl (by rw [ex3_23]; rfl) (by decide) rfl (fun ls hl => ?_)
              refine lv_goto (tgt := 4) S.1 S.2.1 dX3_value_105 (by decide) ?_
              exact ih4 _ _ _ _ hf _ _ _ hP hD hS (lv_sub hl [3, 4, 1, 0] rfl)
        · have hf := hf.2 h_8
          refine lv_iload_n S.1 S.2.1 dX3_value_27 rfl (lv_at hl 3 rfl) ?_
          refine lv_iconst (v := 2) S.1 S.2.1 dX3_value_28 rfl ?_
          refine lv_icmp_lt (tgt := 102) S.1 S.2.1 dX3_value_29 (by decide) (fun h_24 => ?_) (fun h_24 => ?_)
          · have hf := hf.1 h_24
            refine nm_o hf (fun x3_25 ex3_25 hf => ?_)
            refine lv_iinc (v := x3_25) (lv' := [(3, .int x3_25), (4, .int x4_7), (0, .ref (eA E b 2)), (1, .ref (eA E b 15)), (2, .int x2_1)]) S.1 S.2.1 dX3_value_102 hl (k := 4) rfl (by rw [ex3_25]; rfl) (by decide) rfl (fun ls hl => ?_)
            refine lv_goto (tgt := 4) S.1 S.2.1 dX3_value_105 (by decide) ?_
            exact ih4 _ _ _ _ hf _ _ _ hP hD hS (lv_sub hl [2, 3, 4, 0] rfl)
          · have hf := hf.2 h_24
            refine nm_o hf (fun x2_26 ex2_26 hf => ?_)
            refine lv_iinc (v := x2_26) (lv' := [(2, .int x2_26), (4, .int x4_7), (0, .ref (eA E b 2)), (1, .ref (eA E b 15)), (3, .int x3_2)]) S.1 S.2.1 dX3_value_32 hl (k := 3) rfl (by rw [ex2_26]; rfl) (by decide) rfl (fun ls hl => ?_)
            refine lv_aload_n S.1 S.2.1 dX3_value_35 rfl (lv_at hl 2 rfl) ?_
            refine gfX3_1 S iX3 hK hP hB (hM 2 (by decide)) k3 dX3_value_36 ?_
            refine lv_iload_n S.1 S.2.1 dX3_value_39 rfl (lv_at hl 0 rfl) ?_
            refine lv_iconst (v := 1) S.1 S.2.1 dX3_value_40 rfl ?_
            refine lv_isub S.1 S.2.1 dX3_value_41 ?_
            refine lv_iload S.1 S.2.1 dX3_value_42 (lv_at hl 1 rfl) ?_
            refine lv_aload_n S.1 S.2.1 dX3_value_44 rfl (lv_at hl 2 rfl) ?_
            refine gfX3_1 S iX3 hK hP hB (hM 2 (by decide)) k3 dX3_value_45 ?_
            refine lv_iload_n S.1 S.2.1 dX3_value_48 rfl (lv_at hl 0 rfl) ?_
            refine lv_iconst (v := 1) S.1 S.2.1 dX3_value_49 rfl ?_
            refine lv_isub S.1 S.2.1 dX3_value_50 ?_
            obtain ⟨h_27, hf⟩ := hf
            refine R_iald S.1 S.2.1 hK hP (hM 6 (by decide)) (IAg6 E hB) h_27 dX3_value_51 ?_
            refine lv_i2l S.1 S.2.1 dX3_value_52 rfl ?_
            refine lv_aload_n S.1 S.2.1 dX3_value_53 rfl (lv_at hl 2 rfl) ?_
            refine gfX3_1 S iX3 hK hP hB (hM 2 (by decide)) k3 dX3_value_54 ?_
            refine lv_iload_n S.1 S.2.1 dX3_value_57 rfl (lv_at hl 0 rfl) ?_
            obtain ⟨h_28, hf⟩ := hf
            refine R_iald S.1 S.2.1 hK hP (hM 6 (by decide)) (IAg6 E hB) h_28 dX3_value_58 ?_
            refine lv_i2l S.1 S.2.1 dX3_value_59 rfl ?_
            refine R_cSi (As := [.int x4_7, .long ((I_3 b 6 (x2_26 - (1 : Int32)).toNatClampNeg).toInt64), .long ((I_3 b 6 x2_26.toNatClampNeg).toInt64)]) (rest := [.int (x2_26 - (1 : Int32)), .ref (eA E b 6)]) S (c_X3_result   hf) gX3_value_X3_result rfl yk_X3_result ⟨⟨Nat.le_of_ble_eq_true rfl, Nat.le_of_ble_eq_true rfl⟩, rfl, rfl⟩ hK hP hD hS hX hA rfl hl.1 rfl (Nat.le_of_ble_eq_true rfl) ⟨Nat.zero_le _, Nat.zero_le _⟩ dX3_value_60 (fun v_31 I_29 J_30 H locs hf hP hD hS => ?_)
            obtain ⟨h_32, hf⟩ := hf
            refine nm_o hf (fun I_33 eI_33 hf => ?_)
            refine R_iast S.1 S.2.1 hK hP hD hS (hM 6 (by decide)) (IAg6 E hB) h_32 dX3_value_63 eI_33 (fun H locs hP hD hS => ?_)
            refine lv_goto (tgt := 102) S.1 S.2.1 dX3_value_64 (by decide) ?_
            refine nm_o hf (fun x3_34 ex3_34 hf => ?_)
            refine lv_iinc (v := x3_34) (lv' := [(3, .int x3_34), (2, .int x2_26), (4, .int x4_7), (0, .ref (eA E b 2)), (1, .ref (eA E b 15))]) S.1 S.2.1 dX3_value_102 hl (k := 4) rfl (by rw [ex3_34]; rfl) (by decide) rfl (fun ls hl => ?_)
            refine lv_goto (tgt := 4) S.1 S.2.1 dX3_value_105 (by decide) ?_
            exact ih4 _ _ _ _ hf _ _ _ hP hD hS (lv_sub hl [3, 4, 1, 0] rfl)
  refine L4 _ (fun I_35 J_36 hf H locs ls hP hD hS hl => ?_)  n_38 _ _ _ _ hf _ _ _ hP hD hS (lv_sub hl [2, 3, 1, 0] rfl)
  refine lv_aload_n S.1 S.2.1 dX3_value_108 rfl (lv_at hl 0 rfl) ?_
  refine gfX3_1 S iX3 hK hP hB (hM 2 (by decide)) k3 dX3_value_109 ?_
  refine lv_iconst (v := 0) S.1 S.2.1 dX3_value_112 rfl ?_
  obtain ⟨h_37, hf⟩ := hf
  refine R_iald S.1 S.2.1 hK hP (hM 6 (by decide)) (IAg6 E hB) h_37 dX3_value_113 ?_
  exact hret hf rfl hP hD hS dX3_value_114
