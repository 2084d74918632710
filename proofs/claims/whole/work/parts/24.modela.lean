abbrev rmX8_thrown : Room := { frames := 0, cells := 0, slots := 0, locals := 0 }
theorem yk_X8_thrown : yOk yX8_thrown RX8 0 := by unfold yOk; decide +kernel
def f_X8_thrown (I : MI) (J : MJ) (Q : Int32 → MI → MJ → Prop) : Prop :=
  Q (I 12 0 0) I J
set_option maxRecDepth 100000 in
set_option maxHeartbeats 4000000 in
theorem c_X8_thrown {l : Launch} {E : EV} {ps : List (Nat × Nat)} (h12 : ∀ r, r < 17 → (12, r) ∈ ps) {I : MI} {J : MJ} {Q : Int32 → MI → MJ → Prop} (hf : f_X8_thrown I J Q) : KI l yX8_thrown wsX8_thrown rmX8_thrown E ps [.ref (eA E 12 0)] I J Q := by
  refine K_ofI (cc := cX8_thrown) (maxL := 1) (ty := .int) (by decide +kernel) rfl (Nat.le_of_ble_eq_true rfl) (fun p e s m args below meth c Qm hret S hK hX => ?_)
  have hA : ∀ q, s.heap.size ≤ q → AA E ps s.heap.size q := fun _ h => Or.inr h
  have k1 := S.2.2.2.2 (.fieldLink RX8 49 "RhymeRoofsModel" "thrown" "I") (by decide +kernel)
  have iX8 : ∀ w ∈ wsX80, w ∈ wsX8_thrown := fun _ h => List.mem_cons_of_mem _ (List.mem_append_right _ h)
  intro H locs ls hP hD hS hl
  unfold f_X8_thrown at hf
  refine lv_aload_n S.1 S.2.1 dX8_thrown_0 rfl (lv_at hl 0 rfl) ?_
  refine gfX8_0 S iX8 hK hP (h12 0 (by decide)) k1 dX8_thrown_1 ?_
  exact hret hf rfl hP hD hS dX8_thrown_4
abbrev rmX8_fails : Room := { frames := 0, cells := 0, slots := 0, locals := 0 }
theorem yk_X8_fails : yOk yX8_fails RX8 2 := by unfold yOk; decide +kernel
def f_X8_fails_J16 (Q : Int32 → MI → MJ → Prop) (I_2 : MI) (J_3 : MJ) : Prop :=
  (((I_2 12 0 0) = (0 : Int32) → Q (0 : Int32) I_2 J_3) ∧ (¬ (I_2 12 0 0) = (0 : Int32) → Q (1 : Int32) I_2 J_3))
def f_X8_fails (x1 : Int32) (x2 : Int32) (I : MI) (J : MJ) (Q : Int32 → MI → MJ → Prop) : Prop :=
  ((x1 = (0 : Int32) → f_X8_fails_J16 Q I J) ∧ (¬ x1 = (0 : Int32) → (((I 12 0 0) = (0 : Int32) → ∀ I_6 : MI, I_6 = sI I 12 0 0 x2 → f_X8_fails_J16 Q I_6 J) ∧ (¬ (I 12 0 0) = (0 : Int32) → f_X8_fails_J16 Q I J))))
set_option maxRecDepth 100000 in
set_option maxHeartbeats 4000000 in
theorem c_X8_fails {l : Launch} {E : EV} {ps : List (Nat × Nat)} (h12 : ∀ r, r < 17 → (12, r) ∈ ps) {x1 : Int32} {x2 : Int32} {I : MI} {J : MJ} {Q : Int32 → MI → MJ → Prop} (hf : f_X8_fails x1 x2 I J Q) : KI l yX8_fails wsX8_fails rmX8_fails E ps [.ref (eA E 12 0), .int x1, .int x2] I J Q := by
  refine K_ofI (cc := cX8_fails) (maxL := 3) (ty := .boolean) (by decide +kernel) rfl (Nat.le_of_ble_eq_true rfl) (fun p e s m args below meth c Qm hret S hK hX => ?_)
  have hA : ∀ q, s.heap.size ≤ q → AA E ps s.heap.size q := fun _ h => Or.inr h
  have k1 := S.2.2.2.2 (.fieldLink RX8 49 "RhymeRoofsModel" "thrown" "I") (by decide +kernel)
  have iX8 : ∀ w ∈ wsX80, w ∈ wsX8_fails := fun _ h => List.mem_cons_of_mem _ (List.mem_append_right _ h)
  have jn16 : ∀ (I_2 : MI) (J_3 : MJ), f_X8_fails_J16 Q I_2 J_3 → Wj p l e (rmX8_fails) s m args below meth c Qm E ps 3 I_2 J_3 16 [(0, .ref (eA E 12 0))] [] := by
    intro I_2 J_3 hf H locs ls hP hD hS hl
    unfold f_X8_fails_J16 at hf
    refine lv_aload_n S.1 S.2.1 dX8_fails_16 rfl (lv_at hl 0 rfl) ?_
    refine gfX8_0 S iX8 hK hP (h12 0 (by decide)) k1 dX8_fails_17 ?_
    refine lv_if_eq (tgt := 27) S.1 S.2.1 dX8_fails_20 (by decide) (fun h_4 => ?_) (fun h_4 => ?_)
    · have hf := hf.1 h_4
      refine lv_iconst (v := 0) S.1 S.2.1 dX8_fails_27 rfl ?_
      exact hret hf rfl hP hD hS dX8_fails_28
    · have hf := hf.2 h_4
      refine lv_iconst (v := 1) S.1 S.2.1 dX8_fails_23 rfl ?_
      refine lv_goto (tgt := 28) S.1 S.2.1 dX8_fails_24 (by decide) ?_
      exact hret hf rfl hP hD hS dX8_fails_28
  intro H locs ls hP hD hS hl
  unfold f_X8_fails at hf
  refine lv_iload_n S.1 S.2.1 dX8_fails_0 rfl (lv_at hl 1 rfl) ?_
  refine lv_if_eq (tgt := 16) S.1 S.2.1 dX8_fails_1 (by decide) (fun h_1 => ?_) (fun h_1 => ?_)
  · have hf := hf.1 h_1
    exact jn16 _ _ hf _ _ _ hP hD hS (lv_sub hl [0] rfl)
  · have hf := hf.2 h_1
    refine lv_aload_n S.1 S.2.1 dX8_fails_4 rfl (lv_at hl 0 rfl) ?_
    refine gfX8_0 S iX8 hK hP (h12 0 (by decide)) k1 dX8_fails_5 ?_
    refine lv_if_ne (tgt := 16) S.1 S.2.1 dX8_fails_8 (by decide) (fun h_5 => ?_) (fun h_5 => ?_)
    · have hf := hf.2 h_5
      exact jn16 _ _ hf _ _ _ hP hD hS (lv_sub hl [0] rfl)
    · have hf := hf.1 h_5
      refine lv_aload_n S.1 S.2.1 dX8_fails_11 rfl (lv_at hl 0 rfl) ?_
      refine lv_iload_n S.1 S.2.1 dX8_fails_12 rfl (lv_at hl 2 rfl) ?_
      refine nm_o hf (fun I_6 eI_6 hf => ?_)
      refine pfX8_0 S iX8 hK hP hD hS (h12 0 (by decide)) k1 dX8_fails_13 eI_6 (fun H locs hP hD hS => ?_)
      exact jn16 _ _ hf _ _ _ hP hD hS (lv_sub hl [0] rfl)
abbrev rmX8_in : Room := { frames := 0, cells := 0, slots := 0, locals := 0 }
theorem yk_X8_in : yOk yX8_in RX8 3 := by unfold yOk; decide +kernel
def f_X8_in (x0 : Int32) (x1 : Int32) (x2 : Int32) (I : MI) (J : MJ) (Q : Int32 → MI → MJ → Prop) : Prop :=
  ((x0 < x1 → Q (0 : Int32) I J) ∧ (¬ x0 < x1 → ((x2 < x0 → Q (0 : Int32) I J) ∧ (¬ x2 < x0 → Q (1 : Int32) I J))))
set_option maxRecDepth 100000 in
set_option maxHeartbeats 4000000 in
theorem c_X8_in {l : Launch} {E : EV} {ps : List (Nat × Nat)}  {x0 : Int32} {x1 : Int32} {x2 : Int32} {I : MI} {J : MJ} {Q : Int32 → MI → MJ → Prop} (hf : f_X8_in x0 x1 x2 I J Q) : KI l yX8_in wsX8_in rmX8_in E ps [.int x0, .int x1, .int x2] I J Q := by
  refine K_ofI (cc := cX8_in) (maxL := 3) (ty := .boolean) (by decide +kernel) rfl (Nat.le_of_ble_eq_true rfl) (fun p e s m args below meth c Qm hret S hK hX => ?_)
  have hA : ∀ q, s.heap.size ≤ q → AA E ps s.heap.size q := fun _ h => Or.inr h
  intro H locs ls hP hD hS hl
  unfold f_X8_in at hf
  refine lv_iload_n S.1 S.2.1 dX8_in_0 rfl (lv_at hl 0 rfl) ?_
  refine lv_iload_n S.1 S.2.1 dX8_in_1 rfl (lv_at hl 1 rfl) ?_
  refine lv_icmp_lt (tgt := 14) S.1 S.2.1 dX8_in_2 (by decide) (fun h_1 => ?_) (fun h_1 => ?_)
  · have hf := hf.1 h_1
    refine lv_iconst (v := 0) S.1 S.2.1 dX8_in_14 rfl ?_
    exact hret hf rfl hP hD hS dX8_in_15
  · have hf := hf.2 h_1
    refine lv_iload_n S.1 S.2.1 dX8_in_5 rfl (lv_at hl 0 rfl) ?_
    refine lv_iload_n S.1 S.2.1 dX8_in_6 rfl (lv_at hl 2 rfl) ?_
    refine lv_icmp_gt (tgt := 14) S.1 S.2.1 dX8_in_7 (by decide) (fun h_2 => ?_) (fun h_2 => ?_)
    · have hf := hf.1 h_2
      refine lv_iconst (v := 0) S.1 S.2.1 dX8_in_14 rfl ?_
      exact hret hf rfl hP hD hS dX8_in_15
    · have hf := hf.2 h_2
      refine lv_iconst (v := 1) S.1 S.2.1 dX8_in_10 rfl ?_
      refine lv_goto (tgt := 15) S.1 S.2.1 dX8_in_11 (by decide) ?_
      exact hret hf rfl hP hD hS dX8_in_15
abbrev rmX8_min : Room := { frames := 0, cells := 0, slots := 0, locals := 0 }
theorem yk_X8_min : yOk yX8_min RX8 2 := by unfold yOk; decide +kernel
def f_X8_min (x0 : Int32) (x1 : Int32) (I : MI) (J : MJ) (Q : Int32 → MI → MJ → Prop) : Prop :=
  ((x1 ≤ x0 → Q x1 I J) ∧ (¬ x1 ≤ x0 → Q x0 I J))
set_option maxRecDepth 100000 in
set_option maxHeartbeats 4000000 in
theorem c_X8_min {l : Launch} {E : EV} {ps : List (Nat × Nat)}  {x0 : Int32} {x1 : Int32} {I : MI} {J : MJ} {Q : Int32 → MI → MJ → Prop} (hf : f_X8_min x0 x1 I J Q) : KI l yX8_min wsX8_min rmX8_min E ps [.int x0, .int x1] I J Q := by
  refine K_ofI (cc := cX8_min) (maxL := 2) (ty := .int) (by decide +kernel) rfl (Nat.le_of_ble_eq_true rfl) (fun p e s m args below meth c Qm hret S hK hX => ?_)
  have hA : ∀ q, s.heap.size ≤ q → AA E ps s.heap.size q := fun _ h => Or.inr h
  intro H locs ls hP hD hS hl
  unfold f_X8_min at hf
  refine lv_iload_n S.1 S.2.1 dX8_min_0 rfl (lv_at hl 0 rfl) ?_
  refine lv_iload_n S.1 S.2.1 dX8_min_1 rfl (lv_at hl 1 rfl) ?_
  refine lv_icmp_ge (tgt := 9) S.1 S.2.1 dX8_min_2 (by decide) (fun h_1 => ?_) (fun h_1 => ?_)
  · have hf := hf.1 h_1
    refine lv_iload_n S.1 S.2.1 dX8_min_9 rfl (lv_at hl 1 rfl) ?_
    exact hret hf rfl hP hD hS dX8_min_10
  · have hf := hf.2 h_1
    refine lv_iload_n S.1 S.2.1 dX8_min_5 rfl (lv_at hl 0 rfl) ?_
    refine lv_goto (tgt := 10) S.1 S.2.1 dX8_min_6 (by decide) ?_
    exact hret hf rfl hP hD hS dX8_min_10
abbrev rmX8_max : Room := { frames := 0, cells := 0, slots := 0, locals := 0 }
theorem yk_X8_max : yOk yX8_max RX8 2 := by unfold yOk; decide +kernel
def f_X8_max (x0 : Int32) (x1 : Int32) (I : MI) (J : MJ) (Q : Int32 → MI → MJ → Prop) : Prop :=
  ((x0 ≤ x1 → Q x1 I J) ∧ (¬ x0 ≤ x1 → Q x0 I J))
set_option maxRecDepth 100000 in
set_option maxHeartbeats 4000000 in
theorem c_X8_max {l : Launch} {E : EV} {ps : List (Nat × Nat)}  {x0 : Int32} {x1 : Int32} {I : MI} {J : MJ} {Q : Int32 → MI → MJ → Prop} (hf : f_X8_max x0 x1 I J Q) : KI l yX8_max wsX8_max rmX8_max E ps [.int x0, .int x1] I J Q := by
  refine K_ofI (cc := cX8_max) (maxL := 2) (ty := .int) (by decide +kernel) rfl (Nat.le_of_ble_eq_true rfl) (fun p e s m args below meth c Qm hret S hK hX => ?_)
  have hA : ∀ q, s.heap.size ≤ q → AA E ps s.heap.size q := fun _ h => Or.inr h
  intro H locs ls hP hD hS hl
  unfold f_X8_max at hf
  refine lv_iload_n S.1 S.2.1 dX8_max_0 rfl (lv_at hl 0 rfl) ?_
  refine lv_iload_n S.1 S.2.1 dX8_max_1 rfl (lv_at hl 1 rfl) ?_
  refine lv_icmp_le (tgt := 9) S.1 S.2.1 dX8_max_2 (by decide) (fun h_1 => ?_) (fun h_1 => ?_)
  · have hf := hf.1 h_1
    refine lv_iload_n S.1 S.2.1 dX8_max_9 rfl (lv_at hl 1 rfl) ?_
    exact hret hf rfl hP hD hS dX8_max_10
  · have hf := hf.2 h_1
    refine lv_iload_n S.1 S.2.1 dX8_max_5 rfl (lv_at hl 0 rfl) ?_
    refine lv_goto (tgt := 10) S.1 S.2.1 dX8_max_6 (by decide) ?_
    exact hret hf rfl hP hD hS dX8_max_10
abbrev rmX8_copy : Room := { frames := 0, cells := 0, slots := 0, locals := 0 }
theorem yk_X8_copy : yOk yX8_copy RX8 3 := by unfold yOk; decide +kernel
def f_X8_copy_B2 (b1 : Nat) (r1 : Nat) (n1 : Nat) (b2 : Nat) (r2 : Nat) (n2 : Nat) (x2_1 : Int32) (K19 : MI → MJ → Prop) (rec2 : Int32 → MI → MJ → Prop) (x3_2 : Int32) (I_3 : MI) (J_4 : MJ) : Prop :=
  ((x2_1 ≤ x3_2 → K19 I_3 J_4) ∧ (¬ x2_1 ≤ x3_2 → (vp_in x3_2 n1 ∧ (vp_in x3_2 n2 ∧ ∀ I_8 : MI, I_8 = sI I_3 b2 r2 x3_2.toNatClampNeg (I_3 b1 r1 x3_2.toNatClampNeg) → ∀ x3_9 : Int32, x3_9 = x3_2 + (1 : Int32) → rec2 x3_9 I_8 J_4))))
def f_X8_copy_L2 (b1 : Nat) (r1 : Nat) (n1 : Nat) (b2 : Nat) (r2 : Nat) (n2 : Nat) (x2_1 : Int32) (K19 : MI → MJ → Prop) : Nat → Int32 → MI → MJ → Prop
  | 0, _, _, _ => False
  | n + 1, x3_2, I_3, J_4 => f_X8_copy_B2 b1 r1 n1 b2 r2 n2 x2_1 K19 (f_X8_copy_L2 b1 r1 n1 b2 r2 n2 x2_1 K19 n) x3_2 I_3 J_4
def f_X8_copy (b1 : Nat) (r1 : Nat) (n1 : Nat) (b2 : Nat) (r2 : Nat) (n2 : Nat) (x2 : Int32) (I : MI) (J : MJ) (Q : MI → MJ → Prop) : Prop :=
  ∃ n : Nat, f_X8_copy_L2 b1 r1 n1 b2 r2 n2 x2 (fun (I_10 : MI) (J_11 : MJ) => Q I_10 J_11) n (0 : Int32) I J
set_option maxRecDepth 100000 in
set_option maxHeartbeats 4000000 in
theorem c_X8_copy {l : Launch} {E : EV} {ps : List (Nat × Nat)} {b1 r1 n1 : Nat} (hm1 : (b1, r1) ∈ ps) (hc1 : IA E b1 r1 n1) {b2 r2 n2 : Nat} (hm2 : (b2, r2) ∈ ps) (hc2 : IA E b2 r2 n2) {x2 : Int32} {I : MI} {J : MJ} {Q : MI → MJ → Prop} (hf : f_X8_copy b1 r1 n1 b2 r2 n2 x2 I J Q) : KV l yX8_copy wsX8_copy rmX8_copy E ps [.ref (eA E b1 r1), .ref (eA E b2 r2), .int x2] I J Q := by
  refine K_ofV (cc := cX8_copy) (maxL := 4) (by decide +kernel) rfl (Nat.le_of_ble_eq_true rfl) (fun p e s m args below meth c Qm hret S hK hX => ?_)
  have hA : ∀ q, s.heap.size ≤ q → AA E ps s.heap.size q := fun _ h => Or.inr h
  intro H locs ls hP hD hS hl
  unfold f_X8_copy at hf
  refine lv_iconst (v := 0) S.1 S.2.1 dX8_copy_0 rfl ?_
  refine lv_istore_n (lv' := [(3, .int (0 : Int32)), (0, .ref (eA E b1 r1)), (1, .ref (eA E b2 r2)), (2, .int x2)]) S.1 S.2.1 dX8_copy_1 rfl hl (by decide) rfl (fun ls hl => ?_)
  obtain ⟨n_12, hf⟩ := hf
  have L2 : ∀ (x2_1 : Int32), ∀ (K19 : MI → MJ → Prop), (∀ (I_10 : MI) (J_11 : MJ), K19 I_10 J_11 → Wj p l e (rmX8_copy) s m args below meth c Qm E ps 4 I_10 J_11 19 [] []) → ∀ (n : Nat) (x3_2 : Int32) (I_3 : MI) (J_4 : MJ), f_X8_copy_L2 b1 r1 n1 b2 r2 n2 x2_1 K19 n x3_2 I_3 J_4 → Wj p l e (rmX8_copy) s m args below meth c Qm E ps 4 I_3 J_4 2 [(0, .ref (eA E b1 r1)), (1, .ref (eA E b2 r2)), (2, .int x2_1), (3, .int x3_2)] [] := by
    intro x2_1 K19 kx19 n
    induction n with
    | zero => intro x3_2 I_3 J_4 hf; exact hf.elim
    | succ n ih2 =>
      intro x3_2 I_3 J_4 hf
      have hf : f_X8_copy_B2 b1 r1 n1 b2 r2 n2 x2_1 K19 (f_X8_copy_L2 b1 r1 n1 b2 r2 n2 x2_1 K19 n) x3_2 I_3 J_4 := hf
      intro H locs ls hP hD hS hl
      unfold f_X8_copy_B2 at hf
      refine lv_iload_n S.1 S.2.1 dX8_copy_2 rfl (lv_at hl 3 rfl) ?_
      refine lv_iload_n S.1 S.2.1 dX8_copy_3 rfl (lv_at hl 2 rfl) ?_
      refine lv_icmp_ge (tgt := 19) S.1 S.2.1 dX8_copy_4 (by decide) (fun h_5 => ?_) (fun h_5 => ?_)
      · have hf := hf.1 h_5
        exact kx19 _ _ hf _ _ _ hP hD hS (lv_sub hl [] rfl)
      · have hf := hf.2 h_5
        refine lv_aload_n S.1 S.2.1 dX8_copy_7 rfl (lv_at hl 1 rfl) ?_
        refine lv_iload_n S.1 S.2.1 dX8_copy_8 rfl (lv_at hl 3 rfl) ?_
        refine lv_aload_n S.1 S.2.1 dX8_copy_9 rfl (lv_at hl 0 rfl) ?_
        refine lv_iload_n S.1 S.2.1 dX8_copy_10 rfl (lv_at hl 3 rfl) ?_
        obtain ⟨h_6, hf⟩ := hf
        refine R_iald S.1 S.2.1 hK hP hm1 hc1 h_6 dX8_copy_11 ?_
        obtain ⟨h_7, hf⟩ := hf
        refine nm_o hf (fun I_8 eI_8 hf => ?_)
        refine R_iast S.1 S.2.1 hK hP hD hS hm2 hc2 h_7 dX8_copy_12 eI_8 (fun H locs hP hD hS => ?_)
        refine nm_o hf (fun x3_9 ex3_9 hf => ?_)
        refine lv_iinc (v := x3_9) (lv' := [(3, .int x3_9), (0, .ref (eA E b1 r1)), (1, .ref (eA E b2 r2)), (2, .int x2_1)]) S.1 S.2.1 dX8_copy_13 hl (k := 3) rfl (by rw [ex3_9]; rfl) (by decide) rfl (fun ls hl => ?_)
        refine lv_goto (tgt := 2) S.1 S.2.1 dX8_copy_16 (by decide) ?_
        exact ih2 _ _ _ hf _ _ _ hP hD hS (lv_sub hl [1, 2, 3, 0] rfl)
  refine L2 _ _ (fun I_10 J_11 hf H locs ls hP hD hS hl => ?_)  n_12 _ _ _ hf _ _ _ hP hD hS (lv_sub hl [1, 2, 3, 0] rfl)
  exact hret hf hP hD hS dX8_copy_19
abbrev rmX8_layGame : Room := { frames := 0, cells := 0, slots := 0, locals := 0 }
theorem yk_X8_layGame : yOk yX8_layGame RX8 1 := by unfold yOk; decide +kernel
def f_X8_layGame_B2 (b1 : Nat) (r1 : Nat) (n1 : Nat) (K19 : MI → MJ → Prop) (rec2 : Int32 → MI → MJ → Prop) (x1_1 : Int32) (I_2 : MI) (J_3 : MJ) : Prop :=
  (((1802 : Int32) ≤ x1_1 → K19 I_2 J_3) ∧ (¬ (1802 : Int32) ≤ x1_1 → (vp_in x1_1 n1 ∧ ∀ I_6 : MI, I_6 = sI I_2 b1 r1 x1_1.toNatClampNeg (0 : Int32) → ∀ x1_7 : Int32, x1_7 = x1_1 + (1 : Int32) → rec2 x1_7 I_6 J_3)))
def f_X8_layGame_L2 (b1 : Nat) (r1 : Nat) (n1 : Nat) (K19 : MI → MJ → Prop) : Nat → Int32 → MI → MJ → Prop
  | 0, _, _, _ => False
  | n + 1, x1_1, I_2, J_3 => f_X8_layGame_B2 b1 r1 n1 K19 (f_X8_layGame_L2 b1 r1 n1 K19 n) x1_1 I_2 J_3
def f_X8_layGame (b1 : Nat) (r1 : Nat) (n1 : Nat) (I : MI) (J : MJ) (Q : MI → MJ → Prop) : Prop :=
  ∃ n : Nat, f_X8_layGame_L2 b1 r1 n1 (fun (I_8 : MI) (J_9 : MJ) => (vp_in (1 : Int32) n1 ∧ ∀ I_11 : MI, I_11 = sI I_8 b1 r1 (1 : Int32).toNatClampNeg (2 : Int32) → (vp_in (2 : Int32) n1 ∧ ∀ I_13 : MI, I_13 = sI I_11 b1 r1 (2 : Int32).toNatClampNeg (2 : Int32) → (vp_in (3 : Int32) n1 ∧ ∀ I_15 : MI, I_15 = sI I_13 b1 r1 (3 : Int32).toNatClampNeg (1 : Int32) → (vp_in (4 : Int32) n1 ∧ ∀ I_17 : MI, I_17 = sI I_15 b1 r1 (4 : Int32).toNatClampNeg (5 : Int32) → Q I_17 J_9))))) n (0 : Int32) I J
set_option maxRecDepth 100000 in
set_option maxHeartbeats 4000000 in
theorem c_X8_layGame {l : Launch} {E : EV} {ps : List (Nat × Nat)} {b1 r1 n1 : Nat} (hm1 : (b1, r1) ∈ ps) (hc1 : IA E b1 r1 n1) {I : MI} {J : MJ} {Q : MI → MJ → Prop} (hf : f_X8_layGame b1 r1 n1 I J Q) : KV l yX8_layGame wsX8_layGame rmX8_layGame E ps [.ref (eA E b1 r1)] I J Q := by
  refine K_ofV (cc := cX8_layGame) (maxL := 2) (by decide +kernel) rfl (Nat.le_of_ble_eq_true rfl) (fun p e s m args below meth c Qm hret S hK hX => ?_)
  have hA : ∀ q, s.heap.size ≤ q → AA E ps s.heap.size q := fun _ h => Or.inr h
  intro H locs ls hP hD hS hl
  unfold f_X8_layGame at hf
  refine lv_iconst (v := 0) S.1 S.2.1 dX8_layGame_0 rfl ?_
  refine lv_istore_n (lv' := [(1, .int (0 : Int32)), (0, .ref (eA E b1 r1))]) S.1 S.2.1 dX8_layGame_1 rfl hl (by decide) rfl (fun ls hl => ?_)
  obtain ⟨n_18, hf⟩ := hf
  have L2 : ∀ (K19 : MI → MJ → Prop), (∀ (I_8 : MI) (J_9 : MJ), K19 I_8 J_9 → Wj p l e (rmX8_layGame) s m args below meth c Qm E ps 2 I_8 J_9 19 [(0, .ref (eA E b1 r1))] []) → ∀ (n : Nat) (x1_1 : Int32) (I_2 : MI) (J_3 : MJ), f_X8_layGame_L2 b1 r1 n1 K19 n x1_1 I_2 J_3 → Wj p l e (rmX8_layGame) s m args below meth c Qm E ps 2 I_2 J_3 2 [(0, .ref (eA E b1 r1)), (1, .int x1_1)] [] := by
    intro K19 kx19 n
    induction n with
    | zero => intro x1_1 I_2 J_3 hf; exact hf.elim
    | succ n ih2 =>
      intro x1_1 I_2 J_3 hf
      have hf : f_X8_layGame_B2 b1 r1 n1 K19 (f_X8_layGame_L2 b1 r1 n1 K19 n) x1_1 I_2 J_3 := hf
      intro H locs ls hP hD hS hl
      unfold f_X8_layGame_B2 at hf
      refine lv_iload_n S.1 S.2.1 dX8_layGame_2 rfl (lv_at hl 1 rfl) ?_
      refine lv_sipush (v := 1802) S.1 S.2.1 dX8_layGame_3 rfl ?_
      refine lv_icmp_ge (tgt := 19) S.1 S.2.1 dX8_layGame_6 (by decide) (fun h_4 => ?_) (fun h_4 => ?_)
      · have hf := hf.1 h_4
        exact kx19 _ _ hf _ _ _ hP hD hS (lv_sub hl [0] rfl)
      · have hf := hf.2 h_4
        refine lv_aload_n S.1 S.2.1 dX8_layGame_9 rfl (lv_at hl 0 rfl) ?_
        refine lv_iload_n S.1 S.2.1 dX8_layGame_10 rfl (lv_at hl 1 rfl) ?_
        refine lv_iconst (v := 0) S.1 S.2.1 dX8_layGame_11 rfl ?_
        obtain ⟨h_5, hf⟩ := hf
        refine nm_o hf (fun I_6 eI_6 hf => ?_)
        refine R_iast S.1 S.2.1 hK hP hD hS hm1 hc1 h_5 dX8_layGame_12 eI_6 (fun H locs hP hD hS => ?_)
        refine nm_o hf (fun x1_7 ex1_7 hf => ?_)
        refine lv_iinc (v := x1_7) (lv' := [(1, .int x1_7), (0, .ref (eA E b1 r1))]) S.1 S.2.1 dX8_layGame_13 hl (k := 1) rfl (by rw [ex1_7]; rfl) (by decide) rfl (fun ls hl => ?_)
        refine lv_goto (tgt := 2) S.1 S.2.1 dX8_layGame_16 (by decide) ?_
        exact ih2 _ _ _ hf _ _ _ hP hD hS (lv_sub hl [1, 0] rfl)
  refine L2 _ (fun I_8 J_9 hf H locs ls hP hD hS hl => ?_)  n_18 _ _ _ hf _ _ _ hP hD hS (lv_sub hl [1, 0] rfl)
  refine lv_aload_n S.1 S.2.1 dX8_layGame_19 rfl (lv_at hl 0 rfl) ?_
  refine lv_iconst (v := 1) S.1 S.2.1 dX8_layGame_20 rfl ?_
  refine lv_iconst (v := 2) S.1 S.2.1 dX8_layGame_21 rfl ?_
  obtain ⟨h_10, hf⟩ := hf
  refine nm_o hf (fun I_11 eI_11 hf => ?_)
  refine R_iast S.1 S.2.1 hK hP hD hS hm1 hc1 h_10 dX8_layGame_22 eI_11 (fun H locs hP hD hS => ?_)
  refine lv_aload_n S.1 S.2.1 dX8_layGame_23 rfl (lv_at hl 0 rfl) ?_
  refine lv_iconst (v := 2) S.1 S.2.1 dX8_layGame_24 rfl ?_
  refine lv_iconst (v := 2) S.1 S.2.1 dX8_layGame_25 rfl ?_
  obtain ⟨h_12, hf⟩ := hf
  refine nm_o hf (fun I_13 eI_13 hf => ?_)
  refine R_iast S.1 S.2.1 hK hP hD hS hm1 hc1 h_12 dX8_layGame_26 eI_13 (fun H locs hP hD hS => ?_)
  refine lv_aload_n S.1 S.2.1 dX8_layGame_27 rfl (lv_at hl 0 rfl) ?_
  refine lv_iconst (v := 3) S.1 S.2.1 dX8_layGame_28 rfl ?_
  refine lv_iconst (v := 1) S.1 S.2.1 dX8_layGame_29 rfl ?_
  obtain ⟨h_14, hf⟩ := hf
  refine nm_o hf (fun I_15 eI_15 hf => ?_)
  refine R_iast S.1 S.2.1 hK hP hD hS hm1 hc1 h_14 dX8_layGame_30 eI_15 (fun H locs hP hD hS => ?_)
  refine lv_aload_n S.1 S.2.1 dX8_layGame_31 rfl (lv_at hl 0 rfl) ?_
  refine lv_iconst (v := 4) S.1 S.2.1 dX8_layGame_32 rfl ?_
  refine lv_iconst (v := 5) S.1 S.2.1 dX8_layGame_33 rfl ?_
  obtain ⟨h_16, hf⟩ := hf
  refine nm_o hf (fun I_17 eI_17 hf => ?_)
  refine R_iast S.1 S.2.1 hK hP hD hS hm1 hc1 h_16 dX8_layGame_34 eI_17 (fun H locs hP hD hS => ?_)
  exact hret hf hP hD hS dX8_layGame_35
abbrev rmX8_rowAt : Room := { frames := 0, cells := 0, slots := 0, locals := 0 }
theorem yk_X8_rowAt : yOk yX8_rowAt RX8 1 := by unfold yOk; decide +kernel
def f_X8_rowAt (x0 : Int32) (I : MI) (J : MJ) (Q : Int32 → MI → MJ → Prop) : Prop :=
  Q ((36 : Int32) + ((45 : Int32) * x0)) I J
set_option maxRecDepth 100000 in
set_option maxHeartbeats 4000000 in
theorem c_X8_rowAt {l : Launch} {E : EV} {ps : List (Nat × Nat)}  {x0 : Int32} {I : MI} {J : MJ} {Q : Int32 → MI → MJ → Prop} (hf : f_X8_rowAt x0 I J Q) : KI l yX8_rowAt wsX8_rowAt rmX8_rowAt E ps [.int x0] I J Q := by
  refine K_ofI (cc := cX8_rowAt) (maxL := 1) (ty := .int) (by decide +kernel) rfl (Nat.le_of_ble_eq_true rfl) (fun p e s m args below meth c Qm hret S hK hX => ?_)
  have hA : ∀ q, s.heap.size ≤ q → AA E ps s.heap.size q := fun _ h => Or.inr h
  intro H locs ls hP hD hS hl
  unfold f_X8_rowAt at hf
  refine lv_bipush (v := 36) S.1 S.2.1 dX8_rowAt_0 rfl ?_
  refine lv_bipush (v := 45) S.1 S.2.1 dX8_rowAt_2 rfl ?_
  refine lv_iload_n S.1 S.2.1 dX8_rowAt_4 rfl (lv_at hl 0 rfl) ?_
  refine lv_imul S.1 S.2.1 dX8_rowAt_5 ?_
  refine lv_iadd S.1 S.2.1 dX8_rowAt_6 ?_
  exact hret hf rfl hP hD hS dX8_rowAt_7
abbrev rmX8_playerAt : Room := { frames := 0, cells := 0, slots := 0, locals := 0 }
theorem yk_X8_playerAt : yOk yX8_playerAt RX8 1 := by unfold yOk; decide +kernel
def f_X8_playerAt (x0 : Int32) (I : MI) (J : MJ) (Q : Int32 → MI → MJ → Prop) : Prop :=
  Q ((306 : Int32) + ((74 : Int32) * x0)) I J
set_option maxRecDepth 100000 in
set_option maxHeartbeats 4000000 in
theorem c_X8_playerAt {l : Launch} {E : EV} {ps : List (Nat × Nat)}  {x0 : Int32} {I : MI} {J : MJ} {Q : Int32 → MI → MJ → Prop} (hf : f_X8_playerAt x0 I J Q) : KI l yX8_playerAt wsX8_playerAt rmX8_playerAt E ps [.int x0] I J Q := by
  refine K_ofI (cc := cX8_playerAt) (maxL := 1) (ty := .int) (by decide +kernel) rfl (Nat.le_of_ble_eq_true rfl) (fun p e s m args below meth c Qm hret S hK hX => ?_)
  have hA : ∀ q, s.heap.size ≤ q → AA E ps s.heap.size q := fun _ h => Or.inr h
  intro H locs ls hP hD hS hl
  unfold f_X8_playerAt at hf
  refine lv_sipush (v := 306) S.1 S.2.1 dX8_playerAt_0 rfl ?_
  refine lv_bipush (v := 74) S.1 S.2.1 dX8_playerAt_3 rfl ?_
  refine lv_iload_n S.1 S.2.1 dX8_playerAt_5 rfl (lv_at hl 0 rfl) ?_
  refine lv_imul S.1 S.2.1 dX8_playerAt_6 ?_
  refine lv_iadd S.1 S.2.1 dX8_playerAt_7 ?_
  exact hret hf rfl hP hD hS dX8_playerAt_8
abbrev rmX8_wordAt : Room := { frames := 1, cells := 0, slots := 0, locals := 20 }
theorem yk_X8_wordAt : yOk yX8_wordAt RX8 2 := by unfold yOk; decide +kernel
def f_X8_wordAt (x0 : Int32) (x1 : Int32) (I : MI) (J : MJ) (Q : Int32 → MI → MJ → Prop) : Prop :=
  f_X8_playerAt x0 I J (fun (v_3 : Int32) (I_1 : MI) (J_2 : MJ) => Q ((v_3 + (2 : Int32)) + ((9 : Int32) * x1)) I_1 J_2)
set_option maxRecDepth 100000 in
set_option maxHeartbeats 4000000 in
theorem c_X8_wordAt {l : Launch} {E : EV} {ps : List (Nat × Nat)}  {x0 : Int32} {x1 : Int32} {I : MI} {J : MJ} {Q : Int32 → MI → MJ → Prop} (hf : f_X8_wordAt x0 x1 I J Q) : KI l yX8_wordAt wsX8_wordAt rmX8_wordAt E ps [.int x0, .int x1] I J Q := by
  refine K_ofI (cc := cX8_wordAt) (maxL := 2) (ty := .int) (by decide +kernel) rfl (Nat.le_of_ble_eq_true rfl) (fun p e s m args below meth c Qm hret S hK hX => ?_)
  have hA : ∀ q, s.heap.size ≤ q → AA E ps s.heap.size q := fun _ h => Or.inr h
  intro H locs ls hP hD hS hl
  unfold f_X8_wordAt at hf
  refine lv_iload_n S.1 S.2.1 dX8_wordAt_0 rfl (lv_at hl 0 rfl) ?_
  refine R_cSi (As := [.int x0]) (rest := []) S (c_X8_playerAt   hf) gX8_wordAt_X8_playerAt rfl yk_X8_playerAt ⟨⟨Nat.le_of_ble_eq_true rfl, Nat.le_of_ble_eq_true rfl⟩, rfl, rfl⟩ hK hP hD hS hX hA rfl hl.1 rfl (Nat.le_of_ble_eq_true rfl) ⟨Nat.zero_le _, Nat.zero_le _⟩ dX8_wordAt_1 (fun v_3 I_1 J_2 H locs hf hP hD hS => ?_)
  refine lv_iconst (v := 2) S.1 S.2.1 dX8_wordAt_4 rfl ?_
  refine lv_iadd S.1 S.2.1 dX8_wordAt_5 ?_
  refine lv_bipush (v := 9) S.1 S.2.1 dX8_wordAt_6 rfl ?_
  refine lv_iload_n S.1 S.2.1 dX8_wordAt_8 rfl (lv_at hl 1 rfl) ?_
  refine lv_imul S.1 S.2.1 dX8_wordAt_9 ?_
  refine lv_iadd S.1 S.2.1 dX8_wordAt_10 ?_
  exact hret hf rfl hP hD hS dX8_wordAt_11
