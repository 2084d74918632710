abbrev rmX7_sumOfRow : Room := { frames := 2, cells := 0, slots := 0, locals := 43 }
theorem yk_X7_sumOfRow : yOk yX7_sumOfRow RX7 2 := by unfold yOk; decide +kernel
def f_X7_sumOfRow_B6 (x3_1 : Int32) (K38 : Int64 → MI → MJ → Prop) (rec6 : Int64 → Int32 → MI → MJ → Prop) (x4_2 : Int64) (x6_3 : Int32) (I_4 : MI) (J_5 : MJ) : Prop :=
  (((4 : Int32) ≤ x6_3 → K38 x4_2 I_4 J_5) ∧ (¬ (4 : Int32) ≤ x6_3 → f_X1_rowNumber 0 x3_1 x6_3 I_4 J_5 (fun (v_9 : Int32) (I_7 : MI) (J_8 : MJ) => ∀ x4_10 : Int64, x4_10 = (((31 : Int64) * x4_2) + (v_9.toInt64)) → ∀ x6_11 : Int32, x6_11 = x6_3 + (1 : Int32) → rec6 x4_10 x6_11 I_7 J_8)))
def f_X7_sumOfRow_L6 (x3_1 : Int32) (K38 : Int64 → MI → MJ → Prop) : Nat → Int64 → Int32 → MI → MJ → Prop
  | 0, _, _, _, _ => False
  | n + 1, x4_2, x6_3, I_4, J_5 => f_X7_sumOfRow_B6 x3_1 K38 (f_X7_sumOfRow_L6 x3_1 K38 n) x4_2 x6_3 I_4 J_5
def f_X7_sumOfRow_B41 (x3_15 : Int32) (K84 : Int64 → MI → MJ → Prop) (rec41 : Int64 → Int32 → MI → MJ → Prop) (x4_16 : Int64) (x6_17 : Int32) (I_18 : MI) (J_19 : MJ) : Prop :=
  (vp_in x3_15 6 ∧ (((I_18 0 3 x3_15.toNatClampNeg) ≤ x6_17 → K84 x4_16 I_18 J_19) ∧ (¬ (I_18 0 3 x3_15.toNatClampNeg) ≤ x6_17 → f_X1_letterOnTile 0 x3_15 x6_17 I_18 J_19 (fun (v_24 : Int32) (I_22 : MI) (J_23 : MJ) => ∀ x4_25 : Int64, x4_25 = (((31 : Int64) * x4_16) + (v_24.toInt64)) → ∀ x6_26 : Int32, x6_26 = x6_17 + (1 : Int32) → rec41 x4_25 x6_26 I_22 J_23))))
def f_X7_sumOfRow_L41 (x3_15 : Int32) (K84 : Int64 → MI → MJ → Prop) : Nat → Int64 → Int32 → MI → MJ → Prop
  | 0, _, _, _, _ => False
  | n + 1, x4_16, x6_17, I_18, J_19 => f_X7_sumOfRow_B41 x3_15 K84 (f_X7_sumOfRow_L41 x3_15 K84 n) x4_16 x6_17 I_18 J_19
def f_X7_sumOfRow (x1 : Int64) (x3 : Int32) (I : MI) (J : MJ) (Q : Int64 → MI → MJ → Prop) : Prop :=
  ∃ n : Nat, f_X7_sumOfRow_L6 x3 (fun (x4_12 : Int64) (I_13 : MI) (J_14 : MJ) => ∃ n : Nat, f_X7_sumOfRow_L41 x3 (fun (x4_27 : Int64) (I_28 : MI) (J_29 : MJ) => Q x4_27 I_28 J_29) n x4_12 (0 : Int32) I_13 J_14) n x1 (0 : Int32) I J
set_option maxRecDepth 100000 in
set_option maxHeartbeats 4000000 in
theorem c_X7_sumOfRow {l : Launch} {E : EV} {ps : List (Nat × Nat)} (h11 : ∀ r, r < 11 → (11, r) ∈ ps) (hG : ∀ k r, k < 11 → r < 16 → (k, r) ∈ ps) (hR : (eT E)[2]? = some (eG E, .object "RhymeRoofs$Game")) {x1 : Int64} {x3 : Int32} {I : MI} {J : MJ} {Q : Int64 → MI → MJ → Prop} (hf : f_X7_sumOfRow x1 x3 I J Q) : KL l yX7_sumOfRow wsX7_sumOfRow rmX7_sumOfRow E ps [.ref (eA E 11 0), .long x1, .int x3] I J Q := by
  refine K_ofL (cc := cX7_sumOfRow) (maxL := 7) (by decide +kernel) rfl (Nat.le_of_ble_eq_true rfl) (fun p e s m args below meth c Qm hret S hK hX => ?_)
  have hA : ∀ q, s.heap.size ≤ q → AA E ps s.heap.size q := fun _ h => Or.inr h
  have k1 := S.2.2.2.2 (.constantLong RX7 252 (31)) (by decide +kernel)
  have k2 := S.2.2.2.2 (.fieldLink RX7 23 "RhymeRoofs" "game" "LRhymeRoofs$Game;") (by decide +kernel)
  have iX7 : ∀ w ∈ wsX70, w ∈ wsX7_sumOfRow := fun _ h => List.mem_cons_of_mem _ (List.mem_append_left _ (List.mem_append_left _ (List.mem_append_right _ h)))
  have k3 := S.2.2.2.2 (.fieldLink RX7 96 "RhymeRoofs$Game" "rules" "LRhymeRoofs$Rules;") (by decide +kernel)
  have iX1 : ∀ w ∈ wsX10, w ∈ wsX7_sumOfRow := fun _ h => List.mem_cons_of_mem _ (List.mem_append_left _ (List.mem_append_right _ h))
  have k4 := S.2.2.2.2 (.fieldLink RX7 100 "RhymeRoofs$Rules" "tiles" "[I") (by decide +kernel)
  have iX4 : ∀ w ∈ wsX40, w ∈ wsX7_sumOfRow := fun _ h => List.mem_cons_of_mem _ (List.mem_append_right _ h)
  intro H locs ls hP hD hS hl
  unfold f_X7_sumOfRow at hf
  refine lv_lload_n S.1 S.2.1 dX7_sumOfRow_0 rfl (lv_at hl 1 rfl) ?_
  refine lv_lstore (lv' := [(4, .long x1), (0, .ref (eA E 11 0)), (1, .long x1), (3, .int x3)]) S.1 S.2.1 dX7_sumOfRow_1 hl (by decide) rfl (fun ls hl => ?_)
  refine lv_iconst (v := 0) S.1 S.2.1 dX7_sumOfRow_3 rfl ?_
  refine lv_istore (lv' := [(6, .int (0 : Int32)), (4, .long x1), (0, .ref (eA E 11 0)), (1, .long x1), (3, .int x3)]) S.1 S.2.1 dX7_sumOfRow_4 hl (by decide) rfl (fun ls hl => ?_)
  obtain ⟨n_31, hf⟩ := hf
  have L6 : ∀ (x3_1 : Int32), ∀ (K38 : Int64 → MI → MJ → Prop), (∀ (x4_12 : Int64) (I_13 : MI) (J_14 : MJ), K38 x4_12 I_13 J_14 → Wj p l e (rmX7_sumOfRow) s m args below meth c Qm E ps 7 I_13 J_14 38 [(0, .ref (eA E 11 0)), (3, .int x3_1), (4, .long x4_12)] []) → ∀ (n : Nat) (x4_2 : Int64) (x6_3 : Int32) (I_4 : MI) (J_5 : MJ), f_X7_sumOfRow_L6 x3_1 K38 n x4_2 x6_3 I_4 J_5 → Wj p l e (rmX7_sumOfRow) s m args below meth c Qm E ps 7 I_4 J_5 6 [(0, .ref (eA E 11 0)), (3, .int x3_1), (4, .long x4_2), (6, .int x6_3)] [] := by
    intro x3_1 K38 kx38 n
    induction n with
    | zero => intro x4_2 x6_3 I_4 J_5 hf; exact hf.elim
    | succ n ih6 =>
      intro x4_2 x6_3 I_4 J_5 hf
      have hf : f_X7_sumOfRow_B6 x3_1 K38 (f_X7_sumOfRow_L6 x3_1 K38 n) x4_2 x6_3 I_4 J_5 := hf
      intro H locs ls hP hD hS hl
      unfold f_X7_sumOfRow_B6 at hf
      refine lv_iload S.1 S.2.1 dX7_sumOfRow_6 (lv_at hl 3 rfl) ?_
      refine lv_iconst (v := 4) S.1 S.2.1 dX7_sumOfRow_8 rfl ?_
      refine lv_icmp_ge (tgt := 38) S.1 S.2.1 dX7_sumOfRow_9 (by decide) (fun h_6 => ?_) (fun h_6 => ?_)
      · have hf := hf.1 h_6
        exact kx38 _ _ _ hf _ _ _ hP hD hS (lv_sub hl [0, 1, 2] rfl)
      · have hf := hf.2 h_6
        refine lv_ldc2 (v := 31) S.1 S.2.1 S.2.2.2.1 k1 dX7_sumOfRow_12 ?_
        refine lv_lload S.1 S.2.1 dX7_sumOfRow_15 (lv_at hl 2 rfl) ?_
        refine lv_lmul S.1 S.2.1 dX7_sumOfRow_17 ?_
        refine lv_aload_n S.1 S.2.1 dX7_sumOfRow_18 rfl (lv_at hl 0 rfl) ?_
        refine gfX7_3 S iX7 hK hP (h11 0 (by decide)) k2 dX7_sumOfRow_19 ?_
        refine lv_iload_n S.1 S.2.1 dX7_sumOfRow_22 rfl (lv_at hl 1 rfl) ?_
        refine lv_iload S.1 S.2.1 dX7_sumOfRow_23 (lv_at hl 3 rfl) ?_
        refine R_cVi (As := [.int x3_1, .int x6_3]) (rest := [.long ((31 : Int64) * x4_2)]) S (c_X1_rowNumber (hB := (by decide)) (hM := (fun r => hG 0 r (by decide)))  hf) gX7_sumOfRow_X1_rowNumber rfl yk_X1_rowNumber ⟨⟨Nat.le_of_ble_eq_true rfl, Nat.le_of_ble_eq_true rfl⟩, rfl, rfl⟩ hK hP hD hS hX hA ((fun r => hG 0 r (by decide)) 0 (by decide)) (cF_g E (by decide) _ _ 0) rfl rfl hl.1 rfl (Nat.le_of_ble_eq_true rfl) ⟨Nat.zero_le _, Nat.zero_le _⟩ dX7_sumOfRow_25 (fun v_9 I_7 J_8 H locs hf hP hD hS => ?_)
        refine lv_i2l S.1 S.2.1 dX7_sumOfRow_28 rfl ?_
        refine lv_ladd S.1 S.2.1 dX7_sumOfRow_29 ?_
        refine lv_topl (fun x4_10 ex4_10 => ?_)
        have hf := hf x4_10 ex4_10
        refine lv_lstore (lv' := [(4, .long x4_10), (0, .ref (eA E 11 0)), (3, .int x3_1), (6, .int x6_3)]) S.1 S.2.1 dX7_sumOfRow_30 hl (by decide) rfl (fun ls hl => ?_)
        refine nm_o hf (fun x6_11 ex6_11 hf => ?_)
        refine lv_iinc (v := x6_11) (lv' := [(6, .int x6_11), (4, .long x4_10), (0, .ref (eA E 11 0)), (3, .int x3_1)]) S.1 S.2.1 dX7_sumOfRow_32 hl (k := 3) rfl (by rw [ex6_11]; rfl) (by decide) rfl (fun ls hl => ?_)
        refine lv_goto (tgt := 6) S.1 S.2.1 dX7_sumOfRow_35 (by decide) ?_
        exact ih6 _ _ _ _ hf _ _ _ hP hD hS (lv_sub hl [2, 3, 1, 0] rfl)
  refine L6 _ _ (fun x4_12 I_13 J_14 hf H locs ls hP hD hS hl => ?_)  n_31 _ _ _ _ hf _ _ _ hP hD hS (lv_sub hl [2, 4, 1, 0] rfl)
  refine lv_iconst (v := 0) S.1 S.2.1 dX7_sumOfRow_38 rfl ?_
  refine lv_istore (lv' := [(6, .int (0 : Int32)), (0, .ref (eA E 11 0)), (3, .int x3), (4, .long x4_12)]) S.1 S.2.1 dX7_sumOfRow_39 hl (by decide) rfl (fun ls hl => ?_)
  obtain ⟨n_30, hf⟩ := hf
  have L41 : ∀ (x3_15 : Int32), ∀ (K84 : Int64 → MI → MJ → Prop), (∀ (x4_27 : Int64) (I_28 : MI) (J_29 : MJ), K84 x4_27 I_28 J_29 → Wj p l e (rmX7_sumOfRow) s m args below meth c Qm E ps 7 I_28 J_29 84 [(4, .long x4_27)] []) → ∀ (n : Nat) (x4_16 : Int64) (x6_17 : Int32) (I_18 : MI) (J_19 : MJ), f_X7_sumOfRow_L41 x3_15 K84 n x4_16 x6_17 I_18 J_19 → Wj p l e (rmX7_sumOfRow) s m args below meth c Qm E ps 7 I_18 J_19 41 [(0, .ref (eA E 11 0)), (3, .int x3_15), (4, .long x4_16), (6, .int x6_17)] [] := by
    intro x3_15 K84 kx84 n
    induction n with
    | zero => intro x4_16 x6_17 I_18 J_19 hf; exact hf.elim
    | succ n ih41 =>
      intro x4_16 x6_17 I_18 J_19 hf
      have hf : f_X7_sumOfRow_B41 x3_15 K84 (f_X7_sumOfRow_L41 x3_15 K84 n) x4_16 x6_17 I_18 J_19 := hf
      intro H locs ls hP hD hS hl
      unfold f_X7_sumOfRow_B41 at hf
      refine lv_iload S.1 S.2.1 dX7_sumOfRow_41 (lv_at hl 3 rfl) ?_
      refine lv_aload_n S.1 S.2.1 dX7_sumOfRow_43 rfl (lv_at hl 0 rfl) ?_
      refine gfX7_3 S iX7 hK hP (h11 0 (by decide)) k2 dX7_sumOfRow_44 ?_
      refine gfX1_0 S iX1 hK hP (by decide) ((fun r => hG 0 r (by decide)) 0 (by decide)) k3 dX7_sumOfRow_47 ?_
      refine gfX4_0 S iX4 hK hP (by decide) ((fun r => hG 0 r (by decide)) 1 (by decide)) k4 dX7_sumOfRow_50 ?_
      refine lv_iload_n S.1 S.2.1 dX7_sumOfRow_53 rfl (lv_at hl 1 rfl) ?_
      obtain ⟨h_20, hf⟩ := hf
      refine R_iald S.1 S.2.1 hK hP ((fun r => hG 0 r (by decide)) 3 (by decide)) (IAg3 E (by decide)) h_20 dX7_sumOfRow_54 ?_
      refine lv_icmp_ge (tgt := 84) S.1 S.2.1 dX7_sumOfRow_55 (by decide) (fun h_21 => ?_) (fun h_21 => ?_)
      · have hf := hf.1 h_21
        exact kx84 _ _ _ hf _ _ _ hP hD hS (lv_sub hl [2] rfl)
      · have hf := hf.2 h_21
        refine lv_ldc2 (v := 31) S.1 S.2.1 S.2.2.2.1 k1 dX7_sumOfRow_58 ?_
        refine lv_lload S.1 S.2.1 dX7_sumOfRow_61 (lv_at hl 2 rfl) ?_
        refine lv_lmul S.1 S.2.1 dX7_sumOfRow_63 ?_
        refine lv_aload_n S.1 S.2.1 dX7_sumOfRow_64 rfl (lv_at hl 0 rfl) ?_
        refine gfX7_3 S iX7 hK hP (h11 0 (by decide)) k2 dX7_sumOfRow_65 ?_
        refine lv_iload_n S.1 S.2.1 dX7_sumOfRow_68 rfl (lv_at hl 1 rfl) ?_
        refine lv_iload S.1 S.2.1 dX7_sumOfRow_69 (lv_at hl 3 rfl) ?_
        refine R_cVi (As := [.int x3_15, .int x6_17]) (rest := [.long ((31 : Int64) * x4_16)]) S (c_X1_letterOnTile (hB := (by decide)) (hM := (fun r => hG 0 r (by decide)))  hf) gX7_sumOfRow_X1_letterOnTile rfl yk_X1_letterOnTile ⟨⟨Nat.le_of_ble_eq_true rfl, Nat.le_of_ble_eq_true rfl⟩, rfl, rfl⟩ hK hP hD hS hX hA ((fun r => hG 0 r (by decide)) 0 (by decide)) (cF_g E (by decide) _ _ 0) rfl rfl hl.1 rfl (Nat.le_of_ble_eq_true rfl) ⟨Nat.zero_le _, Nat.zero_le _⟩ dX7_sumOfRow_71 (fun v_24 I_22 J_23 H locs hf hP hD hS => ?_)
        refine lv_i2l S.1 S.2.1 dX7_sumOfRow_74 rfl ?_
        refine lv_ladd S.1 S.2.1 dX7_sumOfRow_75 ?_
        refine lv_topl (fun x4_25 ex4_25 => ?_)
        have hf := hf x4_25 ex4_25
        refine lv_lstore (lv' := [(4, .long x4_25), (0, .ref (eA E 11 0)), (3, .int x3_15), (6, .int x6_17)]) S.1 S.2.1 dX7_sumOfRow_76 hl (by decide) rfl (fun ls hl => ?_)
        refine nm_o hf (fun x6_26 ex6_26 hf => ?_)
        refine lv_iinc (v := x6_26) (lv' := [(6, .int x6_26), (4, .long x4_25), (0, .ref (eA E 11 0)), (3, .int x3_15)]) S.1 S.2.1 dX7_sumOfRow_78 hl (k := 3) rfl (by rw [ex6_26]; rfl) (by decide) rfl (fun ls hl => ?_)
        refine lv_goto (tgt := 41) S.1 S.2.1 dX7_sumOfRow_81 (by decide) ?_
        exact ih41 _ _ _ _ hf _ _ _ hP hD hS (lv_sub hl [2, 3, 1, 0] rfl)
  refine L41 _ _ (fun x4_27 I_28 J_29 hf H locs ls hP hD hS hl => ?_)  n_30 _ _ _ _ hf _ _ _ hP hD hS (lv_sub hl [1, 2, 3, 0] rfl)
  refine lv_lload S.1 S.2.1 dX7_sumOfRow_84 (lv_at hl 0 rfl) ?_
  exact hret hf hP hD hS dX7_sumOfRow_86
abbrev rmX7_sumOfPlayer : Room := { frames := 3, cells := 0, slots := 0, locals := 69 }
theorem yk_X7_sumOfPlayer : yOk yX7_sumOfPlayer RX7 2 := by unfold yOk; decide +kernel
def f_X7_sumOfPlayer_B6 (x3_1 : Int32) (K38 : Int64 → MI → MJ → Prop) (rec6 : Int64 → Int32 → MI → MJ → Prop) (x4_2 : Int64) (x6_3 : Int32) (I_4 : MI) (J_5 : MJ) : Prop :=
  (((4 : Int32) ≤ x6_3 → K38 x4_2 I_4 J_5) ∧ (¬ (4 : Int32) ≤ x6_3 → f_X1_playerNumber 0 x3_1 x6_3 I_4 J_5 (fun (v_9 : Int32) (I_7 : MI) (J_8 : MJ) => ∀ x4_10 : Int64, x4_10 = (((31 : Int64) * x4_2) + (v_9.toInt64)) → ∀ x6_11 : Int32, x6_11 = x6_3 + (1 : Int32) → rec6 x4_10 x6_11 I_7 J_8)))
def f_X7_sumOfPlayer_L6 (x3_1 : Int32) (K38 : Int64 → MI → MJ → Prop) : Nat → Int64 → Int32 → MI → MJ → Prop
  | 0, _, _, _, _ => False
  | n + 1, x4_2, x6_3, I_4, J_5 => f_X7_sumOfPlayer_B6 x3_1 K38 (f_X7_sumOfPlayer_L6 x3_1 K38 n) x4_2 x6_3 I_4 J_5
def f_X7_sumOfPlayer_B77 (x7_29 : Int64) (x9_30 : Int32) (K107 : Int64 → MI → MJ → Prop) (rec77 : Int64 → Int32 → MI → MJ → Prop) (x4_28 : Int64) (x10_31 : Int32) (I_32 : MI) (J_33 : MJ) : Prop :=
  ((x9_30 ≤ x10_31 → K107 x4_28 I_32 J_33) ∧ (¬ x9_30 ≤ x10_31 → f_X6_letterAt x7_29 x10_31 I_32 J_33 (fun (v_37 : Int32) (I_35 : MI) (J_36 : MJ) => ∀ x4_38 : Int64, x4_38 = (((31 : Int64) * x4_28) + (v_37.toInt64)) → ∀ x10_39 : Int32, x10_39 = x10_31 + (1 : Int32) → rec77 x4_38 x10_39 I_35 J_36)))
def f_X7_sumOfPlayer_L77 (x7_29 : Int64) (x9_30 : Int32) (K107 : Int64 → MI → MJ → Prop) : Nat → Int64 → Int32 → MI → MJ → Prop
  | 0, _, _, _, _ => False
  | n + 1, x4_28, x10_31, I_32, J_33 => f_X7_sumOfPlayer_B77 x7_29 x9_30 K107 (f_X7_sumOfPlayer_L77 x7_29 x9_30 K107 n) x4_28 x10_31 I_32 J_33
def f_X7_sumOfPlayer_B41 (x3_15 : Int32) (K113 : Int64 → MI → MJ → Prop) (rec41 : Int64 → Int32 → MI → MJ → Prop) (x4_16 : Int64) (x6_17 : Int32) (I_18 : MI) (J_19 : MJ) : Prop :=
  (vp_in x3_15 4 ∧ (((I_18 0 13 x3_15.toNatClampNeg) ≤ x6_17 → K113 x4_16 I_18 J_19) ∧ (¬ (I_18 0 13 x3_15.toNatClampNeg) ≤ x6_17 → f_X1_wordOf 0 x3_15 x6_17 I_18 J_19 (fun (v_24 : Int64) (I_22 : MI) (J_23 : MJ) => f_X6_length v_24 I_22 J_23 (fun (v_27 : Int32) (I_25 : MI) (J_26 : MJ) => ∃ n : Nat, f_X7_sumOfPlayer_L77 v_24 v_27 (fun (x4_40 : Int64) (I_41 : MI) (J_42 : MJ) => ∀ x6_43 : Int32, x6_43 = x6_17 + (1 : Int32) → rec41 x4_40 x6_43 I_41 J_42) n x4_16 (0 : Int32) I_25 J_26)))))
def f_X7_sumOfPlayer_L41 (x3_15 : Int32) (K113 : Int64 → MI → MJ → Prop) : Nat → Int64 → Int32 → MI → MJ → Prop
  | 0, _, _, _, _ => False
  | n + 1, x4_16, x6_17, I_18, J_19 => f_X7_sumOfPlayer_B41 x3_15 K113 (f_X7_sumOfPlayer_L41 x3_15 K113 n) x4_16 x6_17 I_18 J_19
def f_X7_sumOfPlayer (x1 : Int64) (x3 : Int32) (I : MI) (J : MJ) (Q : Int64 → MI → MJ → Prop) : Prop :=
  ∃ n : Nat, f_X7_sumOfPlayer_L6 x3 (fun (x4_12 : Int64) (I_13 : MI) (J_14 : MJ) => ∃ n : Nat, f_X7_sumOfPlayer_L41 x3 (fun (x4_45 : Int64) (I_46 : MI) (J_47 : MJ) => Q x4_45 I_46 J_47) n x4_12 (0 : Int32) I_13 J_14) n x1 (0 : Int32) I J
set_option maxRecDepth 100000 in
set_option maxHeartbeats 4000000 in
theorem c_X7_sumOfPlayer {l : Launch} {E : EV} {ps : List (Nat × Nat)} (h11 : ∀ r, r < 11 → (11, r) ∈ ps) (hG : ∀ k r, k < 11 → r < 16 → (k, r) ∈ ps) (hR : (eT E)[2]? = some (eG E, .object "RhymeRoofs$Game")) {x1 : Int64} {x3 : Int32} {I : MI} {J : MJ} {Q : Int64 → MI → MJ → Prop} (hf : f_X7_sumOfPlayer x1 x3 I J Q) : KL l yX7_sumOfPlayer wsX7_sumOfPlayer rmX7_sumOfPlayer E ps [.ref (eA E 11 0), .long x1, .int x3] I J Q := by
  refine K_ofL (cc := cX7_sumOfPlayer) (maxL := 11) (by decide +kernel) rfl (Nat.le_of_ble_eq_true rfl) (fun p e s m args below meth c Qm hret S hK hX => ?_)
  have hA : ∀ q, s.heap.size ≤ q → AA E ps s.heap.size q := fun _ h => Or.inr h
  have k1 := S.2.2.2.2 (.constantLong RX7 252 (31)) (by decide +kernel)
  have k2 := S.2.2.2.2 (.fieldLink RX7 23 "RhymeRoofs" "game" "LRhymeRoofs$Game;") (by decide +kernel)
  have iX7 : ∀ w ∈ wsX70, w ∈ wsX7_sumOfPlayer := fun _ h => List.mem_cons_of_mem _ (List.mem_append_left _ (List.mem_append_left _ (List.mem_append_right _ h)))
  have k3 := S.2.2.2.2 (.fieldLink RX7 235 "RhymeRoofs$Game" "handSize" "[I") (by decide +kernel)
  have iX1 : ∀ w ∈ wsX10, w ∈ wsX7_sumOfPlayer := fun _ h => List.mem_cons_of_mem _ (List.mem_append_left _ (List.mem_append_right _ h))
  intro H locs ls hP hD hS hl
  unfold f_X7_sumOfPlayer at hf
  refine lv_lload_n S.1 S.2.1 dX7_sumOfPlayer_0 rfl (lv_at hl 1 rfl) ?_
  refine lv_lstore (lv' := [(4, .long x1), (0, .ref (eA E 11 0)), (1, .long x1), (3, .int x3)]) S.1 S.2.1 dX7_sumOfPlayer_1 hl (by decide) rfl (fun ls hl => ?_)
  refine lv_iconst (v := 0) S.1 S.2.1 dX7_sumOfPlayer_3 rfl ?_
  refine lv_istore (lv' := [(6, .int (0 : Int32)), (4, .long x1), (0, .ref (eA E 11 0)), (1, .long x1), (3, .int x3)]) S.1 S.2.1 dX7_sumOfPlayer_4 hl (by decide) rfl (fun ls hl => ?_)
  obtain ⟨n_49, hf⟩ := hf
  have L6 : ∀ (x3_1 : Int32), ∀ (K38 : Int64 → MI → MJ → Prop), (∀ (x4_12 : Int64) (I_13 : MI) (J_14 : MJ), K38 x4_12 I_13 J_14 → Wj p l e (rmX7_sumOfPlayer) s m args below meth c Qm E ps 11 I_13 J_14 38 [(0, .ref (eA E 11 0)), (3, .int x3_1), (4, .long x4_12)] []) → ∀ (n : Nat) (x4_2 : Int64) (x6_3 : Int32) (I_4 : MI) (J_5 : MJ), f_X7_sumOfPlayer_L6 x3_1 K38 n x4_2 x6_3 I_4 J_5 → Wj p l e (rmX7_sumOfPlayer) s m args below meth c Qm E ps 11 I_4 J_5 6 [(0, .ref (eA E 11 0)), (3, .int x3_1), (4, .long x4_2), (6, .int x6_3)] [] := by
    intro x3_1 K38 kx38 n
    induction n with
    | zero => intro x4_2 x6_3 I_4 J_5 hf; exact hf.elim
    | succ n ih6 =>
      intro x4_2 x6_3 I_4 J_5 hf
      have hf : f_X7_sumOfPlayer_B6 x3_1 K38 (f_X7_sumOfPlayer_L6 x3_1 K38 n) x4_2 x6_3 I_4 J_5 := hf
      intro H locs ls hP hD hS hl
      unfold f_X7_sumOfPlayer_B6 at hf
      refine lv_iload S.1 S.2.1 dX7_sumOfPlayer_6 (lv_at hl 3 rfl) ?_
      refine lv_iconst (v := 4) S.1 S.2.1 dX7_sumOfPlayer_8 rfl ?_
      refine lv_icmp_ge (tgt := 38) S.1 S.2.1 dX7_sumOfPlayer_9 (by decide) (fun h_6 => ?_) (fun h_6 => ?_)
      · have hf := hf.1 h_6
        exact kx38 _ _ _ hf _ _ _ hP hD hS (lv_sub hl [0, 1, 2] rfl)
      · have hf := hf.2 h_6
        refine lv_ldc2 (v := 31) S.1 S.2.1 S.2.2.2.1 k1 dX7_sumOfPlayer_12 ?_
        refine lv_lload S.1 S.2.1 dX7_sumOfPlayer_15 (lv_at hl 2 rfl) ?_
        refine lv_lmul S.1 S.2.1 dX7_sumOfPlayer_17 ?_
        refine lv_aload_n S.1 S.2.1 dX7_sumOfPlayer_18 rfl (lv_at hl 0 rfl) ?_
        refine gfX7_3 S iX7 hK hP (h11 0 (by decide)) k2 dX7_sumOfPlayer_19 ?_
        refine lv_iload_n S.1 S.2.1 dX7_sumOfPlayer_22 rfl (lv_at hl 1 rfl) ?_
        refine lv_iload S.1 S.2.1 dX7_sumOfPlayer_23 (lv_at hl 3 rfl) ?_
        refine R_cVi (As := [.int x3_1, .int x6_3]) (rest := [.long ((31 : Int64) * x4_2)]) S (c_X1_playerNumber (hB := (by decide)) (hM := (fun r => hG 0 r (by decide)))  hf) gX7_sumOfPlayer_X1_playerNumber rfl yk_X1_playerNumber ⟨⟨Nat.le_of_ble_eq_true rfl, Nat.le_of_ble_eq_true rfl⟩, rfl, rfl⟩ hK hP hD hS hX hA ((fun r => hG 0 r (by decide)) 0 (by decide)) (cF_g E (by decide) _ _ 0) rfl rfl hl.1 rfl (Nat.le_of_ble_eq_true rfl) ⟨Nat.zero_le _, Nat.zero_le _⟩ dX7_sumOfPlayer_25 (fun v_9 I_7 J_8 H locs hf hP hD hS => ?_)
        refine lv_i2l S.1 S.2.1 dX7_sumOfPlayer_28 rfl ?_
        refine lv_ladd S.1 S.2.1 dX7_sumOfPlayer_29 ?_
        refine lv_topl (fun x4_10 ex4_10 => ?_)
        have hf := hf x4_10 ex4_10
        refine lv_lstore (lv' := [(4, .long x4_10), (0, .ref (eA E 11 0)), (3, .int x3_1), (6, .int x6_3)]) S.1 S.2.1 dX7_sumOfPlayer_30 hl (by decide) rfl (fun ls hl => ?_)
        refine nm_o hf (fun x6_11 ex6_11 hf => ?_)
        refine lv_iinc (v := x6_11) (lv' := [(6, .int x6_11), (4, .long x4_10), (0, .ref (eA E 11 0)), (3, .int x3_1)]) S.1 S.2.1 dX7_sumOfPlayer_32 hl (k := 3) rfl (by rw [ex6_11]; rfl) (by decide) rfl (fun ls hl => ?_)
        refine lv_goto (tgt := 6) S.1 S.2.1 dX7_sumOfPlayer_35 (by decide) ?_
        exact ih6 _ _ _ _ hf _ _ _ hP hD hS (lv_sub hl [2, 3, 1, 0] rfl)
  refine L6 _ _ (fun x4_12 I_13 J_14 hf H locs ls hP hD hS hl => ?_)  n_49 _ _ _ _ hf _ _ _ hP hD hS (lv_sub hl [2, 4, 1, 0] rfl)
  refine lv_iconst (v := 0) S.1 S.2.1 dX7_sumOfPlayer_38 rfl ?_
  refine lv_istore (lv' := [(6, .int (0 : Int32)), (0, .ref (eA E 11 0)), (3, .int x3), (4, .long x4_12)]) S.1 S.2.1 dX7_sumOfPlayer_39 hl (by decide) rfl (fun ls hl => ?_)
  obtain ⟨n_48, hf⟩ := hf
  have L41 : ∀ (x3_15 : Int32), ∀ (K113 : Int64 → MI → MJ → Prop), (∀ (x4_45 : Int64) (I_46 : MI) (J_47 : MJ), K113 x4_45 I_46 J_47 → Wj p l e (rmX7_sumOfPlayer) s m args below meth c Qm E ps 11 I_46 J_47 113 [(4, .long x4_45)] []) → ∀ (n : Nat) (x4_16 : Int64) (x6_17 : Int32) (I_18 : MI) (J_19 : MJ), f_X7_sumOfPlayer_L41 x3_15 K113 n x4_16 x6_17 I_18 J_19 → Wj p l e (rmX7_sumOfPlayer) s m args below meth c Qm E ps 11 I_18 J_19 41 [(0, .ref (eA E 11 0)), (3, .int x3_15), (4, .long x4_16), (6, .int x6_17)] [] := by
    intro x3_15 K113 kx113 n
    induction n with
    | zero => intro x4_16 x6_17 I_18 J_19 hf; exact hf.elim
    | succ n ih41 =>
      intro x4_16 x6_17 I_18 J_19 hf
      have hf : f_X7_sumOfPlayer_B41 x3_15 K113 (f_X7_sumOfPlayer_L41 x3_15 K113 n) x4_16 x6_17 I_18 J_19 := hf
      intro H locs ls hP hD hS hl
      unfold f_X7_sumOfPlayer_B41 at hf
      refine lv_iload S.1 S.2.1 dX7_sumOfPlayer_41 (lv_at hl 3 rfl) ?_
      refine lv_aload_n S.1 S.2.1 dX7_sumOfPlayer_43 rfl (lv_at hl 0 rfl) ?_
      refine gfX7_3 S iX7 hK hP (h11 0 (by decide)) k2 dX7_sumOfPlayer_44 ?_
      refine gfX1_7 S iX1 hK hP (by decide) ((fun r => hG 0 r (by decide)) 0 (by decide)) k3 dX7_sumOfPlayer_47 ?_
      refine lv_iload_n S.1 S.2.1 dX7_sumOfPlayer_50 rfl (lv_at hl 1 rfl) ?_
      obtain ⟨h_20, hf⟩ := hf
      refine R_iald S.1 S.2.1 hK hP ((fun r => hG 0 r (by decide)) 13 (by decide)) (IAg13 E (by decide)) h_20 dX7_sumOfPlayer_51 ?_
      refine lv_icmp_ge (tgt := 113) S.1 S.2.1 dX7_sumOfPlayer_52 (by decide) (fun h_21 => ?_) (fun h_21 => ?_)
      · have hf := hf.1 h_21
        exact kx113 _ _ _ hf _ _ _ hP hD hS (lv_sub hl [2] rfl)
      · have hf := hf.2 h_21
        refine lv_aload_n S.1 S.2.1 dX7_sumOfPlayer_55 rfl (lv_at hl 0 rfl) ?_
        refine gfX7_3 S iX7 hK hP (h11 0 (by decide)) k2 dX7_sumOfPlayer_56 ?_
        refine lv_iload_n S.1 S.2.1 dX7_sumOfPlayer_59 rfl (lv_at hl 1 rfl) ?_
        refine lv_iload S.1 S.2.1 dX7_sumOfPlayer_60 (lv_at hl 3 rfl) ?_
        refine R_cVl (As := [.int x3_15, .int x6_17]) (rest := []) S (c_X1_wordOf (hB := (by decide)) (hM := (fun r => hG 0 r (by decide)))  hf) gX7_sumOfPlayer_X1_wordOf rfl yk_X1_wordOf ⟨⟨Nat.le_of_ble_eq_true rfl, Nat.le_of_ble_eq_true rfl⟩, rfl, rfl⟩ hK hP hD hS hX hA ((fun r => hG 0 r (by decide)) 0 (by decide)) (cF_g E (by decide) _ _ 0) rfl rfl hl.1 rfl (Nat.le_of_ble_eq_true rfl) ⟨Nat.zero_le _, Nat.zero_le _⟩ dX7_sumOfPlayer_62 (fun v_24 I_22 J_23 H locs hf hP hD hS => ?_)
        refine lv_lstore (lv' := [(7, .long v_24), (0, .ref (eA E 11 0)), (3, .int x3_15), (4, .long x4_16), (6, .int x6_17)]) S.1 S.2.1 dX7_sumOfPlayer_65 hl (by decide) rfl (fun ls hl => ?_)
        refine lv_lload S.1 S.2.1 dX7_sumOfPlayer_67 (lv_at hl 0 rfl) ?_
        refine R_cSi (As := [.long v_24]) (rest := []) S (c_X6_length   hf) gX7_sumOfPlayer_X6_length rfl yk_X6_length ⟨⟨Nat.le_of_ble_eq_true rfl, Nat.le_of_ble_eq_true rfl⟩, rfl, rfl⟩ hK hP hD hS hX hA rfl hl.1 rfl (Nat.le_of_ble_eq_true rfl) ⟨Nat.zero_le _, Nat.zero_le _⟩ dX7_sumOfPlayer_69 (fun v_27 I_25 J_26 H locs hf hP hD hS => ?_)
        refine lv_istore (lv' := [(9, .int v_27), (7, .long v_24), (0, .ref (eA E 11 0)), (3, .int x3_15), (4, .long x4_16), (6, .int x6_17)]) S.1 S.2.1 dX7_sumOfPlayer_72 hl (by decide) rfl (fun ls hl => ?_)
        refine lv_iconst (v := 0) S.1 S.2.1 dX7_sumOfPlayer_74 rfl ?_
        refine lv_istore (lv' := [(10, .int (0 : Int32)), (9, .int v_27), (7, .long v_24), (0, .ref (eA E 11 0)), (3, .int x3_15), (4, .long x4_16), (6, .int x6_17)]) S.1 S.2.1 dX7_sumOfPlayer_75 hl (by decide) rfl (fun ls hl => ?_)
        obtain ⟨n_44, hf⟩ := hf
        have L77 : ∀ (x7_29 : Int64), ∀ (x9_30 : Int32), ∀ (K107 : Int64 → MI → MJ → Prop), (∀ (x4_40 : Int64) (I_41 : MI) (J_42 : MJ), K107 x4_40 I_41 J_42 → Wj p l e (rmX7_sumOfPlayer) s m args below meth c Qm E ps 11 I_41 J_42 107 [(0, .ref (eA E 11 0)), (3, .int x3_15), (4, .long x4_40), (6, .int x6_17)] []) → ∀ (n : Nat) (x4_28 : Int64) (x10_31 : Int32) (I_32 : MI) (J_33 : MJ), f_X7_sumOfPlayer_L77 x7_29 x9_30 K107 n x4_28 x10_31 I_32 J_33 → Wj p l e (rmX7_sumOfPlayer) s m args below meth c Qm E ps 11 I_32 J_33 77 [(0, .ref (eA E 11 0)), (3, .int x3_15), (4, .long x4_28), (6, .int x6_17), (7, .long x7_29), (9, .int x9_30), (10, .int x10_31)] [] := by
          intro x7_29 x9_30 K107 kx107 n
          induction n with
          | zero => intro x4_28 x10_31 I_32 J_33 hf; exact hf.elim
          | succ n ih77 =>
            intro x4_28 x10_31 I_32 J_33 hf
            have hf : f_X7_sumOfPlayer_B77 x7_29 x9_30 K107 (f_X7_sumOfPlayer_L77 x7_29 x9_30 K107 n) x4_28 x10_31 I_32 J_33 := hf
            intro H locs ls hP hD hS hl
            unfold f_X7_sumOfPlayer_B77 at hf
            refine lv_iload S.1 S.2.1 dX7_sumOfPlayer_77 (lv_at hl 6 rfl) ?_
            refine lv_iload S.1 S.2.1 dX7_sumOfPlayer_79 (lv_at hl 5 rfl) ?_
            refine lv_icmp_ge (tgt := 107) S.1 S.2.1 dX7_sumOfPlayer_81 (by decide) (fun h_34 => ?_) (fun h_34 => ?_)
            · have hf := hf.1 h_34
              exact kx107 _ _ _ hf _ _ _ hP hD hS (lv_sub hl [0, 1, 2, 3] rfl)
            · have hf := hf.2 h_34
              refine lv_ldc2 (v := 31) S.1 S.2.1 S.2.2.2.1 k1 dX7_sumOfPlayer_84 ?_
              refine lv_lload S.1 S.2.1 dX7_sumOfPlayer_87 (lv_at hl 2 rfl) ?_
              refine lv_lmul S.1 S.2.1 dX7_sumOfPlayer_89 ?_
              refine lv_lload S.1 S.2.1 dX7_sumOfPlayer_90 (lv_at hl 4 rfl) ?_
              refine lv_iload S.1 S.2.1 dX7_sumOfPlayer_92 (lv_at hl 6 rfl) ?_
              refine R_cSi (As := [.long x7_29, .int x10_31]) (rest := [.long ((31 : Int64) * x4_28)]) S (c_X6_letterAt   hf) gX7_sumOfPlayer_X6_letterAt rfl yk_X6_letterAt ⟨⟨Nat.le_of_ble_eq_true rfl, Nat.le_of_ble_eq_true rfl⟩, rfl, rfl⟩ hK hP hD hS hX hA rfl hl.1 rfl (Nat.le_of_ble_eq_true rfl) ⟨Nat.zero_le _, Nat.zero_le _⟩ dX7_sumOfPlayer_94 (fun v_37 I_35 J_36 H locs hf hP hD hS => ?_)
              refine lv_i2l S.1 S.2.1 dX7_sumOfPlayer_97 rfl ?_
              refine lv_ladd S.1 S.2.1 dX7_sumOfPlayer_98 ?_
              refine lv_topl (fun x4_38 ex4_38 => ?_)
              have hf := hf x4_38 ex4_38
              refine lv_lstore (lv' := [(4, .long x4_38), (0, .ref (eA E 11 0)), (3, .int x3_15), (6, .int x6_17), (7, .long x7_29), (9, .int x9_30), (10, .int x10_31)]) S.1 S.2.1 dX7_sumOfPlayer_99 hl (by decide) rfl (fun ls hl => ?_)
              refine nm_o hf (fun x10_39 ex10_39 hf => ?_)
              refine lv_iinc (v := x10_39) (lv' := [(10, .int x10_39), (4, .long x4_38), (0, .ref (eA E 11 0)), (3, .int x3_15), (6, .int x6_17), (7, .long x7_29), (9, .int x9_30)]) S.1 S.2.1 dX7_sumOfPlayer_101 hl (k := 6) rfl (by rw [ex10_39]; rfl) (by decide) rfl (fun ls hl => ?_)
              refine lv_goto (tgt := 77) S.1 S.2.1 dX7_sumOfPlayer_104 (by decide) ?_
              exact ih77 _ _ _ _ hf _ _ _ hP hD hS (lv_sub hl [2, 3, 1, 4, 5, 6, 0] rfl)
        refine L77 _ _ _ (fun x4_40 I_41 J_42 hf H locs ls hP hD hS hl => ?_)  n_44 _ _ _ _ hf _ _ _ hP hD hS (lv_sub hl [3, 4, 5, 6, 2, 1, 0] rfl)
        refine nm_o hf (fun x6_43 ex6_43 hf => ?_)
        refine lv_iinc (v := x6_43) (lv' := [(6, .int x6_43), (0, .ref (eA E 11 0)), (3, .int x3_15), (4, .long x4_40)]) S.1 S.2.1 dX7_sumOfPlayer_107 hl (k := 3) rfl (by rw [ex6_43]; rfl) (by decide) rfl (fun ls hl => ?_)
        refine lv_goto (tgt := 41) S.1 S.2.1 dX7_sumOfPlayer_110 (by decide) ?_
        exact ih41 _ _ _ _ hf _ _ _ hP hD hS (lv_sub hl [1, 2, 3, 0] rfl)
  refine L41 _ _ (fun x4_45 I_46 J_47 hf H locs ls hP hD hS hl => ?_)  n_48 _ _ _ _ hf _ _ _ hP hD hS (lv_sub hl [1, 2, 3, 0] rfl)
  refine lv_lload S.1 S.2.1 dX7_sumOfPlayer_113 (lv_at hl 0 rfl) ?_
  exact hret hf hP hD hS dX7_sumOfPlayer_115
