abbrev rmX7_errorOffset : Room := { frames := 0, cells := 0, slots := 0, locals := 0 }
theorem yk_X7_errorOffset : yOk yX7_errorOffset RX7 0 := by unfold yOk; decide +kernel
def f_X7_errorOffset (I : MI) (J : MJ) (Q : Int32 → MI → MJ → Prop) : Prop :=
  Q (I 11 0 2) I J
set_option maxRecDepth 100000 in
set_option maxHeartbeats 4000000 in
theorem c_X7_errorOffset {l : Launch} {E : EV} {ps : List (Nat × Nat)} (h11 : ∀ r, r < 11 → (11, r) ∈ ps) (hG : ∀ k r, k < 11 → r < 16 → (k, r) ∈ ps) (hR : (eT E)[2]? = some (eG E, .object "RhymeRoofs$Game")) {I : MI} {J : MJ} {Q : Int32 → MI → MJ → Prop} (hf : f_X7_errorOffset I J Q) : KI l yX7_errorOffset wsX7_errorOffset rmX7_errorOffset E ps [.ref (eA E 11 0)] I J Q := by
  refine K_ofI (cc := cX7_errorOffset) (maxL := 1) (ty := .int) (by decide +kernel) rfl (Nat.le_of_ble_eq_true rfl) (fun p e s m args below meth c Qm hret S hK hX => ?_)
  have hA : ∀ q, s.heap.size ≤ q → AA E ps s.heap.size q := fun _ h => Or.inr h
  have k1 := S.2.2.2.2 (.fieldLink RX7 17 "RhymeRoofs" "offsetOfError" "I") (by decide +kernel)
  have iX7 : ∀ w ∈ wsX70, w ∈ wsX7_errorOffset := fun _ h => List.mem_cons_of_mem _ (List.mem_append_right _ h)
  intro H locs ls hP hD hS hl
  unfold f_X7_errorOffset at hf
  refine lv_aload_n S.1 S.2.1 dX7_errorOffset_0 rfl (lv_at hl 0 rfl) ?_
  refine gfX7_2 S iX7 hK hP (h11 0 (by decide)) k1 dX7_errorOffset_1 ?_
  exact hret hf rfl hP hD hS dX7_errorOffset_4
abbrev rmX7_undo : Room := { frames := 5, cells := 0, slots := 0, locals := 148 }
theorem yk_X7_undo : yOk yX7_undo RX7 0 := by unfold yOk; decide +kernel
def f_X7_undo (I : MI) (J : MJ) (Q : Int32 → MI → MJ → Prop) : Prop :=
  f_X2_restore 0 I J (fun (v_3 : Int32) (I_1 : MI) (J_2 : MJ) => Q v_3 I_1 J_2)
set_option maxRecDepth 100000 in
set_option maxHeartbeats 4000000 in
theorem c_X7_undo {l : Launch} {E : EV} {ps : List (Nat × Nat)} (h11 : ∀ r, r < 11 → (11, r) ∈ ps) (hG : ∀ k r, k < 11 → r < 16 → (k, r) ∈ ps) (hR : (eT E)[2]? = some (eG E, .object "RhymeRoofs$Game")) {I : MI} {J : MJ} {Q : Int32 → MI → MJ → Prop} (hf : f_X7_undo I J Q) : KI l yX7_undo wsX7_undo rmX7_undo E ps [.ref (eA E 11 0)] I J Q := by
  refine K_ofI (cc := cX7_undo) (maxL := 1) (ty := .int) (by decide +kernel) rfl (Nat.le_of_ble_eq_true rfl) (fun p e s m args below meth c Qm hret S hK hX => ?_)
  have hA : ∀ q, s.heap.size ≤ q → AA E ps s.heap.size q := fun _ h => Or.inr h
  have k1 := S.2.2.2.2 (.fieldLink RX7 33 "RhymeRoofs" "history" "LRhymeRoofs$History;") (by decide +kernel)
  have iX7 : ∀ w ∈ wsX70, w ∈ wsX7_undo := fun _ h => List.mem_cons_of_mem _ (List.mem_append_left _ (List.mem_append_left _ (List.mem_append_left _ (List.mem_append_left _ (List.mem_append_right _ h)))))
  have k2 := S.2.2.2.2 (.fieldLink RX7 23 "RhymeRoofs" "game" "LRhymeRoofs$Game;") (by decide +kernel)
  intro H locs ls hP hD hS hl
  unfold f_X7_undo at hf
  refine lv_aload_n S.1 S.2.1 dX7_undo_0 rfl (lv_at hl 0 rfl) ?_
  refine gfX7_5 S iX7 hK hP (h11 0 (by decide)) k1 dX7_undo_1 ?_
  refine lv_aload_n S.1 S.2.1 dX7_undo_4 rfl (lv_at hl 0 rfl) ?_
  refine gfX7_3 S iX7 hK hP (h11 0 (by decide)) k2 dX7_undo_5 ?_
  refine R_cVi (As := [.ref (eA E 0 0)]) (rest := []) S (c_X2_restore (h11 := h11) (hG := hG) (hR := hR) (hBg := (by decide)) (hMg := (fun r => hG 0 r (by decide))) hf) gX7_undo_X2_restore rfl yk_X2_restore ⟨⟨Nat.le_of_ble_eq_true rfl, Nat.le_of_ble_eq_true rfl⟩, rfl, rfl⟩ hK hP hD hS hX hA (h11 2 (by decide)) (cF_o E _ _ 2) rfl rfl hl.1 rfl (Nat.le_of_ble_eq_true rfl) ⟨Nat.zero_le _, Nat.zero_le _⟩ dX7_undo_8 (fun v_3 I_1 J_2 H locs hf hP hD hS => ?_)
  exact hret hf rfl hP hD hS dX7_undo_11
abbrev rmX7_appendBytes : Room := { frames := 0, cells := 0, slots := 0, locals := 0 }
theorem yk_X7_appendBytes : yOk yX7_appendBytes RX7 1 := by unfold yOk; decide +kernel
def f_X7_appendBytes_B3 (x1_1 : Int32) (K49 : MI → MJ → Prop) (rec3 : Int32 → MI → MJ → Prop) (x2_2 : Int32) (I_3 : MI) (J_4 : MJ) : Prop :=
  ((x2_2 < (0 : Int32) → K49 I_3 J_4) ∧ (¬ x2_2 < (0 : Int32) → (((600 : Int32) ≤ (I_3 11 0 1) → K49 I_3 J_4) ∧ (¬ (600 : Int32) ≤ (I_3 11 0 1) → (vp_in (I_3 11 0 1) 600 ∧ ∀ I_8 : MI, I_8 = sI I_3 11 1 (I_3 11 0 1).toNatClampNeg (((x1_1.toUInt32 >>> (x2_2.toUInt32 &&& Int32.toUInt32 31)).toInt32) &&& (255 : Int32)) → ∀ I_9 : MI, I_9 = sI I_8 11 0 1 ((I_8 11 0 1) + (1 : Int32)) → ∀ x2_10 : Int32, x2_10 = x2_2 + (-8 : Int32) → rec3 x2_10 I_9 J_4)))))
def f_X7_appendBytes_L3 (x1_1 : Int32) (K49 : MI → MJ → Prop) : Nat → Int32 → MI → MJ → Prop
  | 0, _, _, _ => False
  | n + 1, x2_2, I_3, J_4 => f_X7_appendBytes_B3 x1_1 K49 (f_X7_appendBytes_L3 x1_1 K49 n) x2_2 I_3 J_4
def f_X7_appendBytes (x1 : Int32) (I : MI) (J : MJ) (Q : MI → MJ → Prop) : Prop :=
  ∃ n : Nat, f_X7_appendBytes_L3 x1 (fun (I_11 : MI) (J_12 : MJ) => Q I_11 J_12) n (24 : Int32) I J
set_option maxRecDepth 100000 in
set_option maxHeartbeats 4000000 in
theorem c_X7_appendBytes {l : Launch} {E : EV} {ps : List (Nat × Nat)} (h11 : ∀ r, r < 11 → (11, r) ∈ ps) (hG : ∀ k r, k < 11 → r < 16 → (k, r) ∈ ps) (hR : (eT E)[2]? = some (eG E, .object "RhymeRoofs$Game")) {x1 : Int32} {I : MI} {J : MJ} {Q : MI → MJ → Prop} (hf : f_X7_appendBytes x1 I J Q) : KV l yX7_appendBytes wsX7_appendBytes rmX7_appendBytes E ps [.ref (eA E 11 0), .int x1] I J Q := by
  refine K_ofV (cc := cX7_appendBytes) (maxL := 3) (by decide +kernel) rfl (Nat.le_of_ble_eq_true rfl) (fun p e s m args below meth c Qm hret S hK hX => ?_)
  have hA : ∀ q, s.heap.size ≤ q → AA E ps s.heap.size q := fun _ h => Or.inr h
  have k1 := S.2.2.2.2 (.fieldLink RX7 13 "RhymeRoofs" "bufferLength" "I") (by decide +kernel)
  have iX7 : ∀ w ∈ wsX70, w ∈ wsX7_appendBytes := fun _ h => List.mem_cons_of_mem _ (List.mem_append_right _ h)
  have k2 := S.2.2.2.2 (.fieldLink RX7 9 "RhymeRoofs" "buffer" "[I") (by decide +kernel)
  intro H locs ls hP hD hS hl
  unfold f_X7_appendBytes at hf
  refine lv_bipush (v := 24) S.1 S.2.1 dX7_appendBytes_0 rfl ?_
  refine lv_istore_n (lv' := [(2, .int (24 : Int32)), (0, .ref (eA E 11 0)), (1, .int x1)]) S.1 S.2.1 dX7_appendBytes_2 rfl hl (by decide) rfl (fun ls hl => ?_)
  obtain ⟨n_13, hf⟩ := hf
  have L3 : ∀ (x1_1 : Int32), ∀ (K49 : MI → MJ → Prop), (∀ (I_11 : MI) (J_12 : MJ), K49 I_11 J_12 → Wj p l e (rmX7_appendBytes) s m args below meth c Qm E ps 3 I_11 J_12 49 [] []) → ∀ (n : Nat) (x2_2 : Int32) (I_3 : MI) (J_4 : MJ), f_X7_appendBytes_L3 x1_1 K49 n x2_2 I_3 J_4 → Wj p l e (rmX7_appendBytes) s m args below meth c Qm E ps 3 I_3 J_4 3 [(0, .ref (eA E 11 0)), (1, .int x1_1), (2, .int x2_2)] [] := by
    intro x1_1 K49 kx49 n
    induction n with
    | zero => intro x2_2 I_3 J_4 hf; exact hf.elim
    | succ n ih3 =>
      intro x2_2 I_3 J_4 hf
      have hf : f_X7_appendBytes_B3 x1_1 K49 (f_X7_appendBytes_L3 x1_1 K49 n) x2_2 I_3 J_4 := hf
      intro H locs ls hP hD hS hl
      unfold f_X7_appendBytes_B3 at hf
      refine lv_iload_n S.1 S.2.1 dX7_appendBytes_3 rfl (lv_at hl 2 rfl) ?_
      refine lv_if_lt (tgt := 49) S.1 S.2.1 dX7_appendBytes_4 (by decide) (fun h_5 => ?_) (fun h_5 => ?_)
      · have hf := hf.1 h_5
        exact kx49 _ _ hf _ _ _ hP hD hS (lv_sub hl [] rfl)
      · have hf := hf.2 h_5
        refine lv_aload_n S.1 S.2.1 dX7_appendBytes_7 rfl (lv_at hl 0 rfl) ?_
        refine gfX7_1 S iX7 hK hP (h11 0 (by decide)) k1 dX7_appendBytes_8 ?_
        refine lv_sipush (v := 600) S.1 S.2.1 dX7_appendBytes_11 rfl ?_
        refine lv_icmp_ge (tgt := 49) S.1 S.2.1 dX7_appendBytes_14 (by decide) (fun h_6 => ?_) (fun h_6 => ?_)
        · have hf := hf.1 h_6
          exact kx49 _ _ hf _ _ _ hP hD hS (lv_sub hl [] rfl)
        · have hf := hf.2 h_6
          refine lv_aload_n S.1 S.2.1 dX7_appendBytes_17 rfl (lv_at hl 0 rfl) ?_
          refine gfX7_0 S iX7 hK hP (h11 0 (by decide)) k2 dX7_appendBytes_18 ?_
          refine lv_aload_n S.1 S.2.1 dX7_appendBytes_21 rfl (lv_at hl 0 rfl) ?_
          refine gfX7_1 S iX7 hK hP (h11 0 (by decide)) k1 dX7_appendBytes_22 ?_
          refine lv_iload_n S.1 S.2.1 dX7_appendBytes_25 rfl (lv_at hl 1 rfl) ?_
          refine lv_iload_n S.1 S.2.1 dX7_appendBytes_26 rfl (lv_at hl 2 rfl) ?_
          refine lv_iushr S.1 S.2.1 dX7_appendBytes_27 rfl ?_
          refine lv_sipush (v := 255) S.1 S.2.1 dX7_appendBytes_28 rfl ?_
          refine lv_iand S.1 S.2.1 dX7_appendBytes_31 ?_
          obtain ⟨h_7, hf⟩ := hf
          refine nm_o hf (fun I_8 eI_8 hf => ?_)
          refine R_iast S.1 S.2.1 hK hP hD hS (h11 1 (by decide)) (IAo1 E) h_7 dX7_appendBytes_32 eI_8 (fun H locs hP hD hS => ?_)
          refine lv_aload_n S.1 S.2.1 dX7_appendBytes_33 rfl (lv_at hl 0 rfl) ?_
          refine lv_dup S.1 S.2.1 dX7_appendBytes_34 rfl ?_
          refine gfX7_1 S iX7 hK hP (h11 0 (by decide)) k1 dX7_appendBytes_35 ?_
          refine lv_iconst (v := 1) S.1 S.2.1 dX7_appendBytes_38 rfl ?_
          refine lv_iadd S.1 S.2.1 dX7_appendBytes_39 ?_
          refine nm_o hf (fun I_9 eI_9 hf => ?_)
          refine pfX7_1 S iX7 hK hP hD hS (h11 0 (by decide)) k1 dX7_appendBytes_40 eI_9 (fun H locs hP hD hS => ?_)
          refine nm_o hf (fun x2_10 ex2_10 hf => ?_)
          refine lv_iinc (v := x2_10) (lv' := [(2, .int x2_10), (0, .ref (eA E 11 0)), (1, .int x1_1)]) S.1 S.2.1 dX7_appendBytes_43 hl (k := 2) rfl (by rw [ex2_10]; rfl) (by decide) rfl (fun ls hl => ?_)
          refine lv_goto (tgt := 3) S.1 S.2.1 dX7_appendBytes_46 (by decide) ?_
          exact ih3 _ _ _ hf _ _ _ hP hD hS (lv_sub hl [1, 2, 0] rfl)
  refine L3 _ _ (fun I_11 J_12 hf H locs ls hP hD hS hl => ?_)  n_13 _ _ _ hf _ _ _ hP hD hS (lv_sub hl [1, 2, 0] rfl)
  exact hret hf hP hD hS dX7_appendBytes_49
abbrev rmX7_startsWithWord : Room := { frames := 1, cells := 0, slots := 0, locals := 20 }
theorem yk_X7_startsWithWord : yOk yX7_startsWithWord RX7 1 := by unfold yOk; decide +kernel
def f_X7_startsWithWord_B23 (x1_4 : Int32) (K48 : MI → MJ → Prop) (K40 : MI → MJ → Prop) (rec23 : Int32 → MI → MJ → Prop) (x2_5 : Int32) (I_6 : MI) (J_7 : MJ) : Prop :=
  ((x1_4 ≤ x2_5 → K48 I_6 J_7) ∧ (¬ x1_4 ≤ x2_5 → (vp_in x2_5 600 ∧ f_X6_isLetter (I_6 11 1 x2_5.toNatClampNeg) I_6 J_7 (fun (v_12 : Int32) (I_10 : MI) (J_11 : MJ) => ((v_12 = (0 : Int32) → K40 I_10 J_11) ∧ (¬ v_12 = (0 : Int32) → ∀ x2_14 : Int32, x2_14 = x2_5 + (1 : Int32) → rec23 x2_14 I_10 J_11))))))
def f_X7_startsWithWord_L23 (x1_4 : Int32) (K48 : MI → MJ → Prop) (K40 : MI → MJ → Prop) : Nat → Int32 → MI → MJ → Prop
  | 0, _, _, _ => False
  | n + 1, x2_5, I_6, J_7 => f_X7_startsWithWord_B23 x1_4 K48 K40 (f_X7_startsWithWord_L23 x1_4 K48 K40 n) x2_5 I_6 J_7
def f_X7_startsWithWord (x1 : Int32) (I : MI) (J : MJ) (Q : Int32 → MI → MJ → Prop) : Prop :=
  ((x1 < (1 : Int32) → Q (0 : Int32) I J) ∧ (¬ x1 < (1 : Int32) → (((8 : Int32) < x1 → Q (0 : Int32) I J) ∧ (¬ (8 : Int32) < x1 → ((x1 ≤ (I 11 0 1) → ∃ n : Nat, f_X7_startsWithWord_L23 x1 (fun (I_15 : MI) (J_16 : MJ) => Q (1 : Int32) I_15 J_16) (fun (I_17 : MI) (J_18 : MJ) => Q (0 : Int32) I_17 J_18) n (0 : Int32) I J) ∧ (¬ x1 ≤ (I 11 0 1) → Q (0 : Int32) I J))))))
set_option maxRecDepth 100000 in
set_option maxHeartbeats 4000000 in
theorem c_X7_startsWithWord {l : Launch} {E : EV} {ps : List (Nat × Nat)} (h11 : ∀ r, r < 11 → (11, r) ∈ ps) (hG : ∀ k r, k < 11 → r < 16 → (k, r) ∈ ps) (hR : (eT E)[2]? = some (eG E, .object "RhymeRoofs$Game")) {x1 : Int32} {I : MI} {J : MJ} {Q : Int32 → MI → MJ → Prop} (hf : f_X7_startsWithWord x1 I J Q) : KI l yX7_startsWithWord wsX7_startsWithWord rmX7_startsWithWord E ps [.ref (eA E 11 0), .int x1] I J Q := by
  refine K_ofI (cc := cX7_startsWithWord) (maxL := 3) (ty := .boolean) (by decide +kernel) rfl (Nat.le_of_ble_eq_true rfl) (fun p e s m args below meth c Qm hret S hK hX => ?_)
  have hA : ∀ q, s.heap.size ≤ q → AA E ps s.heap.size q := fun _ h => Or.inr h
  have k1 := S.2.2.2.2 (.fieldLink RX7 13 "RhymeRoofs" "bufferLength" "I") (by decide +kernel)
  have iX7 : ∀ w ∈ wsX70, w ∈ wsX7_startsWithWord := fun _ h => List.mem_cons_of_mem _ (List.mem_append_right _ h)
  have k2 := S.2.2.2.2 (.fieldLink RX7 9 "RhymeRoofs" "buffer" "[I") (by decide +kernel)
  intro H locs ls hP hD hS hl
  unfold f_X7_startsWithWord at hf
  refine lv_iload_n S.1 S.2.1 dX7_startsWithWord_0 rfl (lv_at hl 1 rfl) ?_
  refine lv_iconst (v := 1) S.1 S.2.1 dX7_startsWithWord_1 rfl ?_
  refine lv_icmp_lt (tgt := 19) S.1 S.2.1 dX7_startsWithWord_2 (by decide) (fun h_1 => ?_) (fun h_1 => ?_)
  · have hf := hf.1 h_1
    refine lv_iconst (v := 0) S.1 S.2.1 dX7_startsWithWord_19 rfl ?_
    exact hret hf rfl hP hD hS dX7_startsWithWord_20
  · have hf := hf.2 h_1
    refine lv_iload_n S.1 S.2.1 dX7_startsWithWord_5 rfl (lv_at hl 1 rfl) ?_
    refine lv_bipush (v := 8) S.1 S.2.1 dX7_startsWithWord_6 rfl ?_
    refine lv_icmp_gt (tgt := 19) S.1 S.2.1 dX7_startsWithWord_8 (by decide) (fun h_2 => ?_) (fun h_2 => ?_)
    · have hf := hf.1 h_2
      refine lv_iconst (v := 0) S.1 S.2.1 dX7_startsWithWord_19 rfl ?_
      exact hret hf rfl hP hD hS dX7_startsWithWord_20
    · have hf := hf.2 h_2
      refine lv_iload_n S.1 S.2.1 dX7_startsWithWord_11 rfl (lv_at hl 1 rfl) ?_
      refine lv_aload_n S.1 S.2.1 dX7_startsWithWord_12 rfl (lv_at hl 0 rfl) ?_
      refine gfX7_1 S iX7 hK hP (h11 0 (by decide)) k1 dX7_startsWithWord_13 ?_
      refine lv_icmp_le (tgt := 21) S.1 S.2.1 dX7_startsWithWord_16 (by decide) (fun h_3 => ?_) (fun h_3 => ?_)
      · have hf := hf.1 h_3
        refine lv_iconst (v := 0) S.1 S.2.1 dX7_startsWithWord_21 rfl ?_
        refine lv_istore_n (lv' := [(2, .int (0 : Int32)), (0, .ref (eA E 11 0)), (1, .int x1)]) S.1 S.2.1 dX7_startsWithWord_22 rfl hl (by decide) rfl (fun ls hl => ?_)
        obtain ⟨n_19, hf⟩ := hf
        have L23 : ∀ (x1_4 : Int32), ∀ (K48 : MI → MJ → Prop), ∀ (K40 : MI → MJ → Prop), (∀ (I_15 : MI) (J_16 : MJ), K48 I_15 J_16 → Wj p l e (rmX7_startsWithWord) s m args below meth c Qm E ps 3 I_15 J_16 48 [] []) → (∀ (I_17 : MI) (J_18 : MJ), K40 I_17 J_18 → Wj p l e (rmX7_startsWithWord) s m args below meth c Qm E ps 3 I_17 J_18 40 [] []) → ∀ (n : Nat) (x2_5 : Int32) (I_6 : MI) (J_7 : MJ), f_X7_startsWithWord_L23 x1_4 K48 K40 n x2_5 I_6 J_7 → Wj p l e (rmX7_startsWithWord) s m args below meth c Qm E ps 3 I_6 J_7 23 [(0, .ref (eA E 11 0)), (1, .int x1_4), (2, .int x2_5)] [] := by
          intro x1_4 K48 K40 kx48 kx40 n
          induction n with
          | zero => intro x2_5 I_6 J_7 hf; exact hf.elim
          | succ n ih23 =>
            intro x2_5 I_6 J_7 hf
            have hf : f_X7_startsWithWord_B23 x1_4 K48 K40 (f_X7_startsWithWord_L23 x1_4 K48 K40 n) x2_5 I_6 J_7 := hf
            intro H locs ls hP hD hS hl
            unfold f_X7_startsWithWord_B23 at hf
            refine lv_iload_n S.1 S.2.1 dX7_startsWithWord_23 rfl (lv_at hl 2 rfl) ?_
            refine lv_iload_n S.1 S.2.1 dX7_startsWithWord_24 rfl (lv_at hl 1 rfl) ?_
            refine lv_icmp_ge (tgt := 48) S.1 S.2.1 dX7_startsWithWord_25 (by decide) (fun h_8 => ?_) (fun h_8 => ?_)
            · have hf := hf.1 h_8
              exact kx48 _ _ hf _ _ _ hP hD hS (lv_sub hl [] rfl)
            · have hf := hf.2 h_8
              refine lv_aload_n S.1 S.2.1 dX7_startsWithWord_28 rfl (lv_at hl 0 rfl) ?_
              refine gfX7_0 S iX7 hK hP (h11 0 (by decide)) k2 dX7_startsWithWord_29 ?_
              refine lv_iload_n S.1 S.2.1 dX7_startsWithWord_32 rfl (lv_at hl 2 rfl) ?_
              obtain ⟨h_9, hf⟩ := hf
              refine R_iald S.1 S.2.1 hK hP (h11 1 (by decide)) (IAo1 E) h_9 dX7_startsWithWord_33 ?_
              refine R_cSi (As := [.int (I_6 11 1 x2_5.toNatClampNeg)]) (rest := []) S (c_X6_isLetter   hf) gX7_startsWithWord_X6_isLetter rfl yk_X6_isLetter ⟨⟨Nat.le_of_ble_eq_true rfl, Nat.le_of_ble_eq_true rfl⟩, rfl, rfl⟩ hK hP hD hS hX hA rfl hl.1 rfl (Nat.le_of_ble_eq_true rfl) ⟨Nat.zero_le _, Nat.zero_le _⟩ dX7_startsWithWord_34 (fun v_12 I_10 J_11 H locs hf hP hD hS => ?_)
              refine lv_if_ne (tgt := 42) S.1 S.2.1 dX7_startsWithWord_37 (by decide) (fun h_13 => ?_) (fun h_13 => ?_)
              · have hf := hf.2 h_13
                refine nm_o hf (fun x2_14 ex2_14 hf => ?_)
                refine lv_iinc (v := x2_14) (lv' := [(2, .int x2_14), (0, .ref (eA E 11 0)), (1, .int x1_4)]) S.1 S.2.1 dX7_startsWithWord_42 hl (k := 2) rfl (by rw [ex2_14]; rfl) (by decide) rfl (fun ls hl => ?_)
                refine lv_goto (tgt := 23) S.1 S.2.1 dX7_startsWithWord_45 (by decide) ?_
                exact ih23 _ _ _ hf _ _ _ hP hD hS (lv_sub hl [1, 2, 0] rfl)
              · have hf := hf.1 h_13
                exact kx40 _ _ hf _ _ _ hP hD hS (lv_sub hl [] rfl)
        refine L23 _ _ _ (fun I_15 J_16 hf H locs ls hP hD hS hl => ?_) (fun I_17 J_18 hf H locs ls hP hD hS hl => ?_)  n_19 _ _ _ hf _ _ _ hP hD hS (lv_sub hl [1, 2, 0] rfl)
        · refine lv_iconst (v := 1) S.1 S.2.1 dX7_startsWithWord_48 rfl ?_
          exact hret hf rfl hP hD hS dX7_startsWithWord_49
        · refine lv_iconst (v := 0) S.1 S.2.1 dX7_startsWithWord_40 rfl ?_
          exact hret hf rfl hP hD hS dX7_startsWithWord_41
      · have hf := hf.2 h_3
        refine lv_iconst (v := 0) S.1 S.2.1 dX7_startsWithWord_19 rfl ?_
        exact hret hf rfl hP hD hS dX7_startsWithWord_20
abbrev rmX7_append : Room := { frames := 1, cells := 0, slots := 0, locals := 22 }
theorem yk_X7_append : yOk yX7_append RX7 5 := by unfold yOk; decide +kernel
def f_X7_append (x1 : Int32) (x2 : Int32) (x3 : Int32) (x4 : Int32) (x5 : Int32) (I : MI) (J : MJ) (Q : Int32 → MI → MJ → Prop) : Prop :=
  ((((I 11 0 1) + (20 : Int32)) ≤ (600 : Int32) → f_X7_appendBytes x1 I J (fun (I_2 : MI) (J_3 : MJ) => f_X7_appendBytes x2 I_2 J_3 (fun (I_4 : MI) (J_5 : MJ) => f_X7_appendBytes x3 I_4 J_5 (fun (I_6 : MI) (J_7 : MJ) => f_X7_appendBytes x4 I_6 J_7 (fun (I_8 : MI) (J_9 : MJ) => f_X7_appendBytes x5 I_8 J_9 (fun (I_10 : MI) (J_11 : MJ) => Q (I_10 11 0 1) I_10 J_11)))))) ∧ (¬ ((I 11 0 1) + (20 : Int32)) ≤ (600 : Int32) → Q (-1 : Int32) I J))
set_option maxRecDepth 100000 in
set_option maxHeartbeats 4000000 in
theorem c_X7_append {l : Launch} {E : EV} {ps : List (Nat × Nat)} (h11 : ∀ r, r < 11 → (11, r) ∈ ps) (hG : ∀ k r, k < 11 → r < 16 → (k, r) ∈ ps) (hR : (eT E)[2]? = some (eG E, .object "RhymeRoofs$Game")) {x1 : Int32} {x2 : Int32} {x3 : Int32} {x4 : Int32} {x5 : Int32} {I : MI} {J : MJ} {Q : Int32 → MI → MJ → Prop} (hf : f_X7_append x1 x2 x3 x4 x5 I J Q) : KI l yX7_append wsX7_append rmX7_append E ps [.ref (eA E 11 0), .int x1, .int x2, .int x3, .int x4, .int x5] I J Q := by
  refine K_ofI (cc := cX7_append) (maxL := 6) (ty := .int) (by decide +kernel) rfl (Nat.le_of_ble_eq_true rfl) (fun p e s m args below meth c Qm hret S hK hX => ?_)
  have hA : ∀ q, s.heap.size ≤ q → AA E ps s.heap.size q := fun _ h => Or.inr h
  have k1 := S.2.2.2.2 (.fieldLink RX7 13 "RhymeRoofs" "bufferLength" "I") (by decide +kernel)
  have iX7 : ∀ w ∈ wsX70, w ∈ wsX7_append := fun _ h => List.mem_cons_of_mem _ (List.mem_append_right _ h)
  intro H locs ls hP hD hS hl
  unfold f_X7_append at hf
  refine lv_aload_n S.1 S.2.1 dX7_append_0 rfl (lv_at hl 0 rfl) ?_
  refine gfX7_1 S iX7 hK hP (h11 0 (by decide)) k1 dX7_append_1 ?_
  refine lv_bipush (v := 20) S.1 S.2.1 dX7_append_4 rfl ?_
  refine lv_iadd S.1 S.2.1 dX7_append_6 ?_
  refine lv_sipush (v := 600) S.1 S.2.1 dX7_append_7 rfl ?_
  refine lv_icmp_le (tgt := 15) S.1 S.2.1 dX7_append_10 (by decide) (fun h_1 => ?_) (fun h_1 => ?_)
  · have hf := hf.1 h_1
    refine lv_aload_n S.1 S.2.1 dX7_append_15 rfl (lv_at hl 0 rfl) ?_
    refine lv_iload_n S.1 S.2.1 dX7_append_16 rfl (lv_at hl 1 rfl) ?_
    refine R_cVv (As := [.int x1]) (rest := []) S (c_X7_appendBytes (h11 := h11) (hG := hG) (hR := hR)  hf) gX7_append_X7_appendBytes rfl yk_X7_appendBytes ⟨⟨Nat.le_of_ble_eq_true rfl, Nat.le_of_ble_eq_true rfl⟩, rfl, rfl⟩ hK hP hD hS hX hA (h11 0 (by decide)) (cF_o E _ _ 0) rfl rfl hl.1 rfl (Nat.le_of_ble_eq_true rfl) ⟨Nat.zero_le _, Nat.zero_le _⟩ dX7_append_17 (fun I_2 J_3 H locs hf hP hD hS => ?_)
    refine lv_aload_n S.1 S.2.1 dX7_append_20 rfl (lv_at hl 0 rfl) ?_
    refine lv_iload_n S.1 S.2.1 dX7_append_21 rfl (lv_at hl 2 rfl) ?_
    refine R_cVv (As := [.int x2]) (rest := []) S (c_X7_appendBytes (h11 := h11) (hG := hG) (hR := hR)  hf) gX7_append_X7_appendBytes rfl yk_X7_appendBytes ⟨⟨Nat.le_of_ble_eq_true rfl, Nat.le_of_ble_eq_true rfl⟩, rfl, rfl⟩ hK hP hD hS hX hA (h11 0 (by decide)) (cF_o E _ _ 0) rfl rfl hl.1 rfl (Nat.le_of_ble_eq_true rfl) ⟨Nat.zero_le _, Nat.zero_le _⟩ dX7_append_22 (fun I_4 J_5 H locs hf hP hD hS => ?_)
    refine lv_aload_n S.1 S.2.1 dX7_append_25 rfl (lv_at hl 0 rfl) ?_
    refine lv_iload_n S.1 S.2.1 dX7_append_26 rfl (lv_at hl 3 rfl) ?_
    refine R_cVv (As := [.int x3]) (rest := []) S (c_X7_appendBytes (h11 := h11) (hG := hG) (hR := hR)  hf) gX7_append_X7_appendBytes rfl yk_X7_appendBytes ⟨⟨Nat.le_of_ble_eq_true rfl, Nat.le_of_ble_eq_true rfl⟩, rfl, rfl⟩ hK hP hD hS hX hA (h11 0 (by decide)) (cF_o E _ _ 0) rfl rfl hl.1 rfl (Nat.le_of_ble_eq_true rfl) ⟨Nat.zero_le _, Nat.zero_le _⟩ dX7_append_27 (fun I_6 J_7 H locs hf hP hD hS => ?_)
    refine lv_aload_n S.1 S.2.1 dX7_append_30 rfl (lv_at hl 0 rfl) ?_
    refine lv_iload S.1 S.2.1 dX7_append_31 (lv_at hl 4 rfl) ?_
    refine R_cVv (As := [.int x4]) (rest := []) S (c_X7_appendBytes (h11 := h11) (hG := hG) (hR := hR)  hf) gX7_append_X7_appendBytes rfl yk_X7_appendBytes ⟨⟨Nat.le_of_ble_eq_true rfl, Nat.le_of_ble_eq_true rfl⟩, rfl, rfl⟩ hK hP hD hS hX hA (h11 0 (by decide)) (cF_o E _ _ 0) rfl rfl hl.1 rfl (Nat.le_of_ble_eq_true rfl) ⟨Nat.zero_le _, Nat.zero_le _⟩ dX7_append_33 (fun I_8 J_9 H locs hf hP hD hS => ?_)
    refine lv_aload_n S.1 S.2.1 dX7_append_36 rfl (lv_at hl 0 rfl) ?_
    refine lv_iload S.1 S.2.1 dX7_append_37 (lv_at hl 5 rfl) ?_
    refine R_cVv (As := [.int x5]) (rest := []) S (c_X7_appendBytes (h11 := h11) (hG := hG) (hR := hR)  hf) gX7_append_X7_appendBytes rfl yk_X7_appendBytes ⟨⟨Nat.le_of_ble_eq_true rfl, Nat.le_of_ble_eq_true rfl⟩, rfl, rfl⟩ hK hP hD hS hX hA (h11 0 (by decide)) (cF_o E _ _ 0) rfl rfl hl.1 rfl (Nat.le_of_ble_eq_true rfl) ⟨Nat.zero_le _, Nat.zero_le _⟩ dX7_append_39 (fun I_10 J_11 H locs hf hP hD hS => ?_)
    refine lv_aload_n S.1 S.2.1 dX7_append_42 rfl (lv_at hl 0 rfl) ?_
    refine gfX7_1 S iX7 hK hP (h11 0 (by decide)) k1 dX7_append_43 ?_
    exact hret hf rfl hP hD hS dX7_append_46
  · have hf := hf.2 h_1
    refine lv_iconst (v := (-1)) S.1 S.2.1 dX7_append_13 rfl ?_
    exact hret hf rfl hP hD hS dX7_append_14
abbrev rmX7_best : Room := { frames := 4, cells := 0, slots := 0, locals := 105 }
theorem yk_X7_best : yOk yX7_best RX7 0 := by unfold yOk; decide +kernel
def f_X7_best (I : MI) (J : MJ) (Q : Int32 → MI → MJ → Prop) : Prop :=
  f_X1_bestPlay 0 I J (fun (v_3 : Int32) (I_1 : MI) (J_2 : MJ) => Q v_3 I_1 J_2)
set_option maxRecDepth 100000 in
set_option maxHeartbeats 4000000 in
theorem c_X7_best {l : Launch} {E : EV} {ps : List (Nat × Nat)} (h11 : ∀ r, r < 11 → (11, r) ∈ ps) (hG : ∀ k r, k < 11 → r < 16 → (k, r) ∈ ps) (hR : (eT E)[2]? = some (eG E, .object "RhymeRoofs$Game")) {I : MI} {J : MJ} {Q : Int32 → MI → MJ → Prop} (hf : f_X7_best I J Q) : KI l yX7_best wsX7_best rmX7_best E ps [.ref (eA E 11 0)] I J Q := by
  refine K_ofI (cc := cX7_best) (maxL := 1) (ty := .int) (by decide +kernel) rfl (Nat.le_of_ble_eq_true rfl) (fun p e s m args below meth c Qm hret S hK hX => ?_)
  have hA : ∀ q, s.heap.size ≤ q → AA E ps s.heap.size q := fun _ h => Or.inr h
  have k1 := S.2.2.2.2 (.fieldLink RX7 23 "RhymeRoofs" "game" "LRhymeRoofs$Game;") (by decide +kernel)
  have iX7 : ∀ w ∈ wsX70, w ∈ wsX7_best := fun _ h => List.mem_cons_of_mem _ (List.mem_append_left _ (List.mem_append_left _ (List.mem_append_left _ (List.mem_append_right _ h))))
  intro H locs ls hP hD hS hl
  unfold f_X7_best at hf
  refine lv_aload_n S.1 S.2.1 dX7_best_0 rfl (lv_at hl 0 rfl) ?_
  refine gfX7_3 S iX7 hK hP (h11 0 (by decide)) k1 dX7_best_1 ?_
  refine R_cVi (As := []) (rest := []) S (c_X1_bestPlay (hB := (by decide)) (hM := (fun r => hG 0 r (by decide)))  hf) gX7_best_X1_bestPlay rfl yk_X1_bestPlay ⟨⟨Nat.le_of_ble_eq_true rfl, Nat.le_of_ble_eq_true rfl⟩, rfl, rfl⟩ hK hP hD hS hX hA ((fun r => hG 0 r (by decide)) 0 (by decide)) (cF_g E (by decide) _ _ 0) rfl rfl hl.1 rfl (Nat.le_of_ble_eq_true rfl) ⟨Nat.zero_le _, Nat.zero_le _⟩ dX7_best_4 (fun v_3 I_1 J_2 H locs hf hP hD hS => ?_)
  exact hret hf rfl hP hD hS dX7_best_7
