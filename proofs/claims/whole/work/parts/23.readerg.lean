def f_X5_readSum_J101 (rs : Int32 → MI → MJ → (Int32 → MI → MJ → Prop) → Prop) (K128 : MI → MJ → Prop) (K35 : MI → MJ → Prop) (K106 : MI → MJ → Prop) (rec19 : Int32 → Int32 → Int32 → MI → MJ → Prop) (x1_1 : Int32) (x3_41 : Int32) (x4_42 : Int32) (x5_43 : Int32) (x6_44 : Int32) (x7_45 : Int32) (I_46 : MI) (J_47 : MJ) : Prop :=
  ((x6_44 = (0 : Int32) → K106 I_46 J_47) ∧ (¬ x6_44 = (0 : Int32) → ((x7_45 = (0 : Int32) → ∀ x5_50 : Int32, x5_50 = x5_43 + (1 : Int32) → rec19 x3_41 x6_44 x5_50 I_46 J_47) ∧ (¬ x7_45 = (0 : Int32) → ∀ x5_51 : Int32, x5_51 = x5_43 + (1 : Int32) → rec19 x3_41 x4_42 x5_51 I_46 J_47))))
def f_X5_readSum_J84 (rs : Int32 → MI → MJ → (Int32 → MI → MJ → Prop) → Prop) (K128 : MI → MJ → Prop) (K35 : MI → MJ → Prop) (K106 : MI → MJ → Prop) (rec19 : Int32 → Int32 → Int32 → MI → MJ → Prop) (x1_1 : Int32) (x4_33 : Int32) (x5_34 : Int32) (x6_35 : Int32) (x7_36 : Int32) (s_37 : Int32) (I_38 : MI) (J_39 : MJ) : Prop :=
  ((x7_36 = (0 : Int32) → ((x4_33 = (0 : Int32) → f_X5_readSum_J101 rs K128 K35 K106 rec19 x1_1 s_37 x4_33 x5_34 x6_35 x7_36 I_38 J_39) ∧ (¬ x4_33 = (0 : Int32) → f_X3_add 10 x4_33 I_38 J_39 (fun (I_53 : MI) (J_54 : MJ) => f_X5_readSum_J101 rs K128 K35 K106 rec19 x1_1 s_37 x4_33 x5_34 x6_35 x7_36 I_53 J_54)))) ∧ (¬ x7_36 = (0 : Int32) → f_X5_readSum_J101 rs K128 K35 K106 rec19 x1_1 s_37 x4_33 x5_34 x6_35 x7_36 I_38 J_39))
def f_X5_readSum_J71 (rs : Int32 → MI → MJ → (Int32 → MI → MJ → Prop) → Prop) (K128 : MI → MJ → Prop) (K35 : MI → MJ → Prop) (K106 : MI → MJ → Prop) (rec19 : Int32 → Int32 → Int32 → MI → MJ → Prop) (x1_1 : Int32) (x4_26 : Int32) (x5_27 : Int32) (x6_28 : Int32) (s_29 : Int32) (I_30 : MI) (J_31 : MJ) : Prop :=
  ((s_29 = (0 : Int32) → f_X5_readSum_J84 rs K128 K35 K106 rec19 x1_1 x4_26 x5_27 x6_28 s_29 (0 : Int32) I_30 J_31) ∧ (¬ s_29 = (0 : Int32) → f_X5_readSum_J84 rs K128 K35 K106 rec19 x1_1 x4_26 x5_27 x6_28 s_29 x6_28 I_30 J_31))
def f_X5_readSum_J66 (rs : Int32 → MI → MJ → (Int32 → MI → MJ → Prop) → Prop) (K128 : MI → MJ → Prop) (K35 : MI → MJ → Prop) (K106 : MI → MJ → Prop) (rec19 : Int32 → Int32 → Int32 → MI → MJ → Prop) (x1_1 : Int32) (x4_21 : Int32) (x5_22 : Int32) (x6_23 : Int32) (I_24 : MI) (J_25 : MJ) : Prop :=
  f_X5_readSum_J71 rs K128 K35 K106 rec19 x1_1 x4_21 x5_22 x6_23 (1 : Int32) I_24 J_25
def f_X5_readSum_J46 (rs : Int32 → MI → MJ → (Int32 → MI → MJ → Prop) → Prop) (K128 : MI → MJ → Prop) (K35 : MI → MJ → Prop) (K106 : MI → MJ → Prop) (rec19 : Int32 → Int32 → Int32 → MI → MJ → Prop) (x1_1 : Int32) (x4_13 : Int32) (x5_14 : Int32) (I_15 : MI) (J_16 : MJ) : Prop :=
  f_X5_takeOperator I_15 J_16 (fun (v_19 : Int32) (I_17 : MI) (J_18 : MJ) => ((v_19 = (-9 : Int32) → f_X5_readSum_J66 rs K128 K35 K106 rec19 x1_1 x4_13 x5_14 v_19 I_17 J_18) ∧ (¬ v_19 = (-9 : Int32) → ((v_19 = (-10 : Int32) → f_X5_readSum_J66 rs K128 K35 K106 rec19 x1_1 x4_13 x5_14 v_19 I_17 J_18) ∧ (¬ v_19 = (-10 : Int32) → f_X5_readSum_J71 rs K128 K35 K106 rec19 x1_1 x4_13 x5_14 v_19 (0 : Int32) I_17 J_18)))))
def f_X5_readSum_B19 (rs : Int32 → MI → MJ → (Int32 → MI → MJ → Prop) → Prop) (x1_1 : Int32) (K128 : MI → MJ → Prop) (K35 : MI → MJ → Prop) (K106 : MI → MJ → Prop) (rec19 : Int32 → Int32 → Int32 → MI → MJ → Prop) (x3_2 : Int32) (x4_3 : Int32) (x5_4 : Int32) (I_5 : MI) (J_6 : MJ) : Prop :=
  (((600 : Int32) ≤ x5_4 → K128 I_5 J_6) ∧ (¬ (600 : Int32) ≤ x5_4 → f_X5_readFactor rs x1_1 I_5 J_6 (fun (v_10 : Int32) (I_8 : MI) (J_9 : MJ) => ((v_10 = (0 : Int32) → K35 I_8 J_9) ∧ (¬ v_10 = (0 : Int32) → ((x3_2 = (0 : Int32) → f_X5_readSum_J46 rs K128 K35 K106 rec19 x1_1 x4_3 x5_4 I_8 J_9) ∧ (¬ x3_2 = (0 : Int32) → f_X3_add 10 x3_2 I_8 J_9 (fun (I_56 : MI) (J_57 : MJ) => f_X5_readSum_J46 rs K128 K35 K106 rec19 x1_1 x4_3 x5_4 I_56 J_57))))))))
def f_X5_readSum_L19 (rs : Int32 → MI → MJ → (Int32 → MI → MJ → Prop) → Prop) (x1_1 : Int32) (K128 : MI → MJ → Prop) (K35 : MI → MJ → Prop) (K106 : MI → MJ → Prop) : Nat → Int32 → Int32 → Int32 → MI → MJ → Prop
  | 0, _, _, _, _, _ => False
  | n + 1, x3_2, x4_3, x5_4, I_5, J_6 => f_X5_readSum_B19 rs x1_1 K128 K35 K106 (f_X5_readSum_L19 rs x1_1 K128 K35 K106 n) x3_2 x4_3 x5_4 I_5 J_6
def f_X5_readSum_S (rs : Int32 → MI → MJ → (Int32 → MI → MJ → Prop) → Prop) (x1 : Int32) (I : MI) (J : MJ) (Q : Int32 → MI → MJ → Prop) : Prop :=
  ∃ n : Nat, f_X5_readSum_L19 rs x1 (fun (I_58 : MI) (J_59 : MJ) => Q (1 : Int32) I_58 J_59) (fun (I_60 : MI) (J_61 : MJ) => Q (0 : Int32) I_60 J_61) (fun (I_62 : MI) (J_63 : MJ) => Q (1 : Int32) I_62 J_63) n (0 : Int32) (0 : Int32) (0 : Int32) I J
set_option maxRecDepth 100000 in
set_option maxHeartbeats 4000000 in
theorem c_X5_readSum_S {d : Nat} {rs : Int32 → MI → MJ → (Int32 → MI → MJ → Prop) → Prop} {l : Launch} {E : EV} {ps : List (Nat × Nat)} (hrs : ∀ {x1 : Int32} {I : MI} {J : MJ} {Q : Int32 → MI → MJ → Prop}, rs x1 I J Q → KI l yX5_readSum wsX5_readSum (rmX5_readSum d) E ps [.ref (eA E 11 4), .int x1] I J Q) (h11 : ∀ r, r < 11 → (11, r) ∈ ps) (hG : ∀ k r, k < 11 → r < 16 → (k, r) ∈ ps) {x1 : Int32} {I : MI} {J : MJ} {Q : Int32 → MI → MJ → Prop} (hf : f_X5_readSum_S rs x1 I J Q) : KI l yX5_readSum wsX5_readSum (rmX5_readSum (d + 1)) E ps [.ref (eA E 11 4), .int x1] I J Q := by
  refine K_ofI (cc := cX5_readSum) (maxL := 8) (ty := .boolean) (by decide +kernel) rfl (Nat.le_of_ble_eq_true rfl) (fun p e s m args below meth c Qm hret S hK hX => ?_)
  have hA : ∀ q, s.heap.size ≤ q → AA E ps s.heap.size q := fun _ h => Or.inr h
  have k1 := S.2.2.2.2 (.fieldLink RX5 12 "RhymeRoofs$SetupReader" "game" "LRhymeRoofs$Game;") (by decide +kernel)
  have iX5 : ∀ w ∈ wsX50, w ∈ wsX5_readSum := fun _ h => List.mem_cons_of_mem _ (List.mem_append_left _ (List.mem_append_left _ (List.mem_append_left _ (List.mem_append_right _ h))))
  have k2 := S.2.2.2.2 (.fieldLink RX5 115 "RhymeRoofs$Game" "rules" "LRhymeRoofs$Rules;") (by decide +kernel)
  have iX1 : ∀ w ∈ wsX10, w ∈ wsX5_readSum := fun _ h => List.mem_cons_of_mem _ (List.mem_append_left _ (List.mem_append_left _ (List.mem_append_right _ h)))
  have k3 := S.2.2.2.2 (.fieldLink RX5 162 "RhymeRoofs$Rules" "rank" "LRhymeRoofs$Rank;") (by decide +kernel)
  have iX4 : ∀ w ∈ wsX40, w ∈ wsX5_readSum := fun _ h => List.mem_cons_of_mem _ (List.mem_append_left _ (List.mem_append_right _ h))
  intro H locs ls hP hD hS hl
  unfold f_X5_readSum_S at hf
  refine lv_aload_n S.1 S.2.1 dX5_readSum_0 rfl (lv_at hl 0 rfl) ?_
  refine gfX5_0 S iX5 hK hP (h11 4 (by decide)) k1 dX5_readSum_1 ?_
  refine gfX1_0 S iX1 hK hP (by decide) ((fun r => hG 10 r (by decide)) 0 (by decide)) k2 dX5_readSum_4 ?_
  refine gfX4_2 S iX4 hK hP (by decide) ((fun r => hG 10 r (by decide)) 1 (by decide)) k3 dX5_readSum_7 ?_
  refine lv_astore_n (lv' := [(2, .ref (eA E 10 2)), (0, .ref (eA E 11 4)), (1, .int x1)]) S.1 S.2.1 dX5_readSum_10 rfl hl (by decide) rfl (fun ls hl => ?_)
  refine lv_iconst (v := 0) S.1 S.2.1 dX5_readSum_11 rfl ?_
  refine lv_istore_n (lv' := [(3, .int (0 : Int32)), (2, .ref (eA E 10 2)), (0, .ref (eA E 11 4)), (1, .int x1)]) S.1 S.2.1 dX5_readSum_12 rfl hl (by decide) rfl (fun ls hl => ?_)
  refine lv_iconst (v := 0) S.1 S.2.1 dX5_readSum_13 rfl ?_
  refine lv_istore (lv' := [(4, .int (0 : Int32)), (3, .int (0 : Int32)), (2, .ref (eA E 10 2)), (0, .ref (eA E 11 4)), (1, .int x1)]) S.1 S.2.1 dX5_readSum_14 hl (by decide) rfl (fun ls hl => ?_)
  refine lv_iconst (v := 0) S.1 S.2.1 dX5_readSum_16 rfl ?_
  refine lv_istore (lv' := [(5, .int (0 : Int32)), (4, .int (0 : Int32)), (3, .int (0 : Int32)), (2, .ref (eA E 10 2)), (0, .ref (eA E 11 4)), (1, .int x1)]) S.1 S.2.1 dX5_readSum_17 hl (by decide) rfl (fun ls hl => ?_)
  obtain ⟨n_64, hf⟩ := hf
  have L19 : ∀ (x1_1 : Int32), ∀ (K128 : MI → MJ → Prop), ∀ (K35 : MI → MJ → Prop), ∀ (K106 : MI → MJ → Prop), (∀ (I_58 : MI) (J_59 : MJ), K128 I_58 J_59 → Wj p l e (rmX5_readSum (d + 1)) s m args below meth c Qm E ps 8 I_58 J_59 128 [] []) → (∀ (I_60 : MI) (J_61 : MJ), K35 I_60 J_61 → Wj p l e (rmX5_readSum (d + 1)) s m args below meth c Qm E ps 8 I_60 J_61 35 [] []) → (∀ (I_62 : MI) (J_63 : MJ), K106 I_62 J_63 → Wj p l e (rmX5_readSum (d + 1)) s m args below meth c Qm E ps 8 I_62 J_63 106 [] []) → ∀ (n : Nat) (x3_2 : Int32) (x4_3 : Int32) (x5_4 : Int32) (I_5 : MI) (J_6 : MJ), f_X5_readSum_L19 rs x1_1 K128 K35 K106 n x3_2 x4_3 x5_4 I_5 J_6 → Wj p l e (rmX5_readSum (d + 1)) s m args below meth c Qm E ps 8 I_5 J_6 19 [(0, .ref (eA E 11 4)), (1, .int x1_1), (2, .ref (eA E 10 2)), (3, .int x3_2), (4, .int x4_3), (5, .int x5_4)] [] := by
    intro x1_1 K128 K35 K106 kx128 kx35 kx106 n
    induction n with
    | zero => intro x3_2 x4_3 x5_4 I_5 J_6 hf; exact hf.elim
    | succ n ih19 =>
      intro x3_2 x4_3 x5_4 I_5 J_6 hf
      have hf : f_X5_readSum_B19 rs x1_1 K128 K35 K106 (f_X5_readSum_L19 rs x1_1 K128 K35 K106 n) x3_2 x4_3 x5_4 I_5 J_6 := hf
      have jn101 : ∀ (x3_41 : Int32) (x4_42 : Int32) (x5_43 : Int32) (x6_44 : Int32) (x7_45 : Int32) (I_46 : MI) (J_47 : MJ), f_X5_readSum_J101 rs K128 K35 K106 (f_X5_readSum_L19 rs x1_1 K128 K35 K106 n) x1_1 x3_41 x4_42 x5_43 x6_44 x7_45 I_46 J_47 → Wj p l e (rmX5_readSum (d + 1)) s m args below meth c Qm E ps 8 I_46 J_47 101 [(0, .ref (eA E 11 4)), (1, .int x1_1), (2, .ref (eA E 10 2)), (3, .int x3_41), (4, .int x4_42), (5, .int x5_43), (6, .int x6_44), (7, .int x7_45)] [] := by
        intro x3_41 x4_42 x5_43 x6_44 x7_45 I_46 J_47 hf H locs ls hP hD hS hl
        unfold f_X5_readSum_J101 at hf
        refine lv_iload S.1 S.2.1 dX5_readSum_101 (lv_at hl 6 rfl) ?_
        refine lv_if_ne (tgt := 108) S.1 S.2.1 dX5_readSum_103 (by decide) (fun h_48 => ?_) (fun h_48 => ?_)
        · have hf := hf.2 h_48
          refine lv_iload S.1 S.2.1 dX5_readSum_108 (lv_at hl 7 rfl) ?_
          refine lv_if_eq (tgt := 118) S.1 S.2.1 dX5_readSum_110 (by decide) (fun h_49 => ?_) (fun h_49 => ?_)
          · have hf := hf.1 h_49
            refine lv_iload S.1 S.2.1 dX5_readSum_118 (lv_at hl 6 rfl) ?_
            refine lv_istore (lv' := [(4, .int x6_44), (0, .ref (eA E 11 4)), (1, .int x1_1), (2, .ref (eA E 10 2)), (3, .int x3_41), (5, .int x5_43), (6, .int x6_44), (7, .int x7_45)]) S.1 S.2.1 dX5_readSum_120 hl (by decide) rfl (fun ls hl => ?_)
            refine nm_o hf (fun x5_50 ex5_50 hf => ?_)
            refine lv_iinc (v := x5_50) (lv' := [(5, .int x5_50), (4, .int x6_44), (0, .ref (eA E 11 4)), (1, .int x1_1), (2, .ref (eA E 10 2)), (3, .int x3_41), (6, .int x6_44), (7, .int x7_45)]) S.1 S.2.1 dX5_readSum_122 hl (k := 5) rfl (by rw [ex5_50]; rfl) (by decide) rfl (fun ls hl => ?_)
            refine lv_goto (tgt := 19) S.1 S.2.1 dX5_readSum_125 (by decide) ?_
            exact ih19 _ _ _ _ _ hf _ _ _ hP hD hS (lv_sub hl [2, 3, 4, 5, 1, 0] rfl)
          · have hf := hf.2 h_49
            refine lv_iload S.1 S.2.1 dX5_readSum_113 (lv_at hl 4 rfl) ?_
            refine lv_goto (tgt := 120) S.1 S.2.1 dX5_readSum_115 (by decide) ?_
            refine lv_istore (lv' := [(4, .int x4_42), (0, .ref (eA E 11 4)), (1, .int x1_1), (2, .ref (eA E 10 2)), (3, .int x3_41), (5, .int x5_43), (6, .int x6_44), (7, .int x7_45)]) S.1 S.2.1 dX5_readSum_120 hl (by decide) rfl (fun ls hl => ?_)
            refine nm_o hf (fun x5_51 ex5_51 hf => ?_)
            refine lv_iinc (v := x5_51) (lv' := [(5, .int x5_51), (4, .int x4_42), (0, .ref (eA E 11 4)), (1, .int x1_1), (2, .ref (eA E 10 2)), (3, .int x3_41), (6, .int x6_44), (7, .int x7_45)]) S.1 S.2.1 dX5_readSum_122 hl (k := 5) rfl (by rw [ex5_51]; rfl) (by decide) rfl (fun ls hl => ?_)
            refine lv_goto (tgt := 19) S.1 S.2.1 dX5_readSum_125 (by decide) ?_
            exact ih19 _ _ _ _ _ hf _ _ _ hP hD hS (lv_sub hl [2, 3, 4, 5, 1, 0] rfl)
        · have hf := hf.1 h_48
          exact kx106 _ _ hf _ _ _ hP hD hS (lv_sub hl [] rfl)
      have jn84 : ∀ (x4_33 : Int32) (x5_34 : Int32) (x6_35 : Int32) (x7_36 : Int32) (s_37 : Int32) (I_38 : MI) (J_39 : MJ), f_X5_readSum_J84 rs K128 K35 K106 (f_X5_readSum_L19 rs x1_1 K128 K35 K106 n) x1_1 x4_33 x5_34 x6_35 x7_36 s_37 I_38 J_39 → Wj p l e (rmX5_readSum (d + 1)) s m args below meth c Qm E ps 8 I_38 J_39 84 [(0, .ref (eA E 11 4)), (1, .int x1_1), (2, .ref (eA E 10 2)), (4, .int x4_33), (5, .int x5_34), (6, .int x6_35), (7, .int x7_36)] [.int s_37] := by
        intro x4_33 x5_34 x6_35 x7_36 s_37 I_38 J_39 hf H locs ls hP hD hS hl
        unfold f_X5_readSum_J84 at hf
        refine lv_istore_n (lv' := [(3, .int s_37), (0, .ref (eA E 11 4)), (1, .int x1_1), (2, .ref (eA E 10 2)), (4, .int x4_33), (5, .int x5_34), (6, .int x6_35), (7, .int x7_36)]) S.1 S.2.1 dX5_readSum_84 rfl hl (by decide) rfl (fun ls hl => ?_)
        refine lv_iload S.1 S.2.1 dX5_readSum_85 (lv_at hl 7 rfl) ?_
        refine lv_if_ne (tgt := 101) S.1 S.2.1 dX5_readSum_87 (by decide) (fun h_40 => ?_) (fun h_40 => ?_)
        · have hf := hf.2 h_40
          exact jn101 _ _ _ _ _ _ _ hf _ _ _ hP hD hS (lv_sub hl [1, 2, 3, 0, 4, 5, 6, 7] rfl)
        · have hf := hf.1 h_40
          refine lv_iload S.1 S.2.1 dX5_readSum_90 (lv_at hl 4 rfl) ?_
          refine lv_if_eq (tgt := 101) S.1 S.2.1 dX5_readSum_92 (by decide) (fun h_52 => ?_) (fun h_52 => ?_)
          · have hf := hf.1 h_52
            exact jn101 _ _ _ _ _ _ _ hf _ _ _ hP hD hS (lv_sub hl [1, 2, 3, 0, 4, 5, 6, 7] rfl)
          · have hf := hf.2 h_52
            refine lv_aload_n S.1 S.2.1 dX5_readSum_95 rfl (lv_at hl 3 rfl) ?_
            refine lv_iload S.1 S.2.1 dX5_readSum_96 (lv_at hl 4 rfl) ?_
            refine R_cVv (As := [.int x4_33]) (rest := []) S (c_X3_add (hB := (by decide)) (hM := (fun r => hG 10 r (by decide)))  hf) gX5_readSum_X3_add rfl yk_X3_add ⟨⟨by dsimp only [rmX3_add, rmX5_readSum]; omega, by dsimp only [rmX3_add, rmX5_readSum]; omega⟩, rfl, rfl⟩ hK hP hD hS hX hA ((fun r => hG 10 r (by decide)) 2 (by decide)) (cF_g E (by decide) _ _ 2) rfl rfl hl.1 rfl (Nat.le_of_ble_eq_true rfl) ⟨Nat.zero_le _, Nat.zero_le _⟩ dX5_readSum_98 (fun I_53 J_54 H locs hf hP hD hS => ?_)
            exact jn101 _ _ _ _ _ _ _ hf _ _ _ hP hD hS (lv_sub hl [1, 2, 3, 0, 4, 5, 6, 7] rfl)
      have jn71 : ∀ (x4_26 : Int32) (x5_27 : Int32) (x6_28 : Int32) (s_29 : Int32) (I_30 : MI) (J_31 : MJ), f_X5_readSum_J71 rs K128 K35 K106 (f_X5_readSum_L19 rs x1_1 K128 K35 K106 n) x1_1 x4_26 x5_27 x6_28 s_29 I_30 J_31 → Wj p l e (rmX5_readSum (d + 1)) s m args below meth c Qm E ps 8 I_30 J_31 71 [(0, .ref (eA E 11 4)), (1, .int x1_1), (2, .ref (eA E 10 2)), (4, .int x4_26), (5, .int x5_27), (6, .int x6_28)] [.int s_29] := by
        intro x4_26 x5_27 x6_28 s_29 I_30 J_31 hf H locs ls hP hD hS hl
        unfold f_X5_readSum_J71 at hf
        refine lv_istore (lv' := [(7, .int s_29), (0, .ref (eA E 11 4)), (1, .int x1_1), (2, .ref (eA E 10 2)), (4, .int x4_26), (5, .int x5_27), (6, .int x6_28)]) S.1 S.2.1 dX5_readSum_71 hl (by decide) rfl (fun ls hl => ?_)
        refine lv_iload S.1 S.2.1 dX5_readSum_73 (lv_at hl 0 rfl) ?_
        refine lv_if_eq (tgt := 83) S.1 S.2.1 dX5_readSum_75 (by decide) (fun h_32 => ?_) (fun h_32 => ?_)
        · have hf := hf.1 h_32
          refine lv_iconst (v := 0) S.1 S.2.1 dX5_readSum_83 rfl ?_
          exact jn84 _ _ _ _ _ _ _ hf _ _ _ hP hD hS (lv_sub hl [1, 2, 3, 4, 5, 6, 0] rfl)
        · have hf := hf.2 h_32
          refine lv_iload S.1 S.2.1 dX5_readSum_78 (lv_at hl 6 rfl) ?_
          refine lv_goto (tgt := 84) S.1 S.2.1 dX5_readSum_80 (by decide) ?_
          exact jn84 _ _ _ _ _ _ _ hf _ _ _ hP hD hS (lv_sub hl [1, 2, 3, 4, 5, 6, 0] rfl)
      have jn66 : ∀ (x4_21 : Int32) (x5_22 : Int32) (x6_23 : Int32) (I_24 : MI) (J_25 : MJ), f_X5_readSum_J66 rs K128 K35 K106 (f_X5_readSum_L19 rs x1_1 K128 K35 K106 n) x1_1 x4_21 x5_22 x6_23 I_24 J_25 → Wj p l e (rmX5_readSum (d + 1)) s m args below meth c Qm E ps 8 I_24 J_25 66 [(0, .ref (eA E 11 4)), (1, .int x1_1), (2, .ref (eA E 10 2)), (4, .int x4_21), (5, .int x5_22), (6, .int x6_23)] [] := by
        intro x4_21 x5_22 x6_23 I_24 J_25 hf H locs ls hP hD hS hl
        unfold f_X5_readSum_J66 at hf
        refine lv_iconst (v := 1) S.1 S.2.1 dX5_readSum_66 rfl ?_
        refine lv_goto (tgt := 71) S.1 S.2.1 dX5_readSum_67 (by decide) ?_
        exact jn71 _ _ _ _ _ _ hf _ _ _ hP hD hS (lv_sub hl [0, 1, 2, 3, 4, 5] rfl)
      have jn46 : ∀ (x4_13 : Int32) (x5_14 : Int32) (I_15 : MI) (J_16 : MJ), f_X5_readSum_J46 rs K128 K35 K106 (f_X5_readSum_L19 rs x1_1 K128 K35 K106 n) x1_1 x4_13 x5_14 I_15 J_16 → Wj p l e (rmX5_readSum (d + 1)) s m args below meth c Qm E ps 8 I_15 J_16 46 [(0, .ref (eA E 11 4)), (1, .int x1_1), (2, .ref (eA E 10 2)), (4, .int x4_13), (5, .int x5_14)] [] := by
        intro x4_13 x5_14 I_15 J_16 hf H locs ls hP hD hS hl
        unfold f_X5_readSum_J46 at hf
        refine lv_aload_n S.1 S.2.1 dX5_readSum_46 rfl (lv_at hl 0 rfl) ?_
        refine R_cVi (As := []) (rest := []) S (c_X5_takeOperator (h11 := h11) (hG := hG)  hf) gX5_readSum_X5_takeOperator rfl yk_X5_takeOperator ⟨⟨by dsimp only [rmX5_takeOperator, rmX5_readSum]; omega, by dsimp only [rmX5_takeOperator, rmX5_readSum]; omega⟩, rfl, rfl⟩ hK hP hD hS hX hA (h11 4 (by decide)) (cF_o E _ _ 4) rfl rfl hl.1 rfl (Nat.le_of_ble_eq_true rfl) ⟨Nat.zero_le _, Nat.zero_le _⟩ dX5_readSum_47 (fun v_19 I_17 J_18 H locs hf hP hD hS => ?_)
        refine lv_istore (lv' := [(6, .int v_19), (0, .ref (eA E 11 4)), (1, .int x1_1), (2, .ref (eA E 10 2)), (4, .int x4_13), (5, .int x5_14)]) S.1 S.2.1 dX5_readSum_50 hl (by decide) rfl (fun ls hl => ?_)
        refine lv_iload S.1 S.2.1 dX5_readSum_52 (lv_at hl 0 rfl) ?_
        refine lv_bipush (v := (-9)) S.1 S.2.1 dX5_readSum_54 rfl ?_
        refine lv_icmp_eq (tgt := 66) S.1 S.2.1 dX5_readSum_56 (by decide) (fun h_20 => ?_) (fun h_20 => ?_)
        · have hf := hf.1 h_20
          exact jn66 _ _ _ _ _ hf _ _ _ hP hD hS (lv_sub hl [1, 2, 3, 4, 5, 0] rfl)
        · have hf := hf.2 h_20
          refine lv_iload S.1 S.2.1 dX5_readSum_59 (lv_at hl 0 rfl) ?_
          refine lv_bipush (v := (-10)) S.1 S.2.1 dX5_readSum_61 rfl ?_
          refine lv_icmp_ne (tgt := 70) S.1 S.2.1 dX5_readSum_63 (by decide) (fun h_55 => ?_) (fun h_55 => ?_)
          · have hf := hf.2 h_55
            refine lv_iconst (v := 0) S.1 S.2.1 dX5_readSum_70 rfl ?_
            exact jn71 _ _ _ _ _ _ hf _ _ _ hP hD hS (lv_sub hl [1, 2, 3, 4, 5, 0] rfl)
          · have hf := hf.1 h_55
            exact jn66 _ _ _ _ _ hf _ _ _ hP hD hS (lv_sub hl [1, 2, 3, 4, 5, 0] rfl)
      intro H locs ls hP hD hS hl
      unfold f_X5_readSum_B19 at hf
      refine lv_iload S.1 S.2.1 dX5_readSum_19 (lv_at hl 5 rfl) ?_
      refine lv_sipush (v := 600) S.1 S.2.1 dX5_readSum_21 rfl ?_
      refine lv_icmp_ge (tgt := 128) S.1 S.2.1 dX5_readSum_24 (by decide) (fun h_7 => ?_) (fun h_7 => ?_)
      · have hf := hf.1 h_7
        exact kx128 _ _ hf _ _ _ hP hD hS (lv_sub hl [] rfl)
      · have hf := hf.2 h_7
        refine lv_aload_n S.1 S.2.1 dX5_readSum_27 rfl (lv_at hl 0 rfl) ?_
        refine lv_iload_n S.1 S.2.1 dX5_readSum_28 rfl (lv_at hl 1 rfl) ?_
        refine R_cVi (As := [.int x1_1]) (rest := []) S (c_X5_readFactor hrs (h11 := h11) (hG := hG)  hf) gX5_readSum_X5_readFactor rfl yk_X5_readFactor ⟨⟨by dsimp only [rmX5_readFactor, rmX5_readSum]; omega, by dsimp only [rmX5_readFactor, rmX5_readSum]; omega⟩, rfl, rfl⟩ hK hP hD hS hX hA (h11 4 (by decide)) (cF_o E _ _ 4) rfl rfl hl.1 rfl (Nat.le_of_ble_eq_true rfl) ⟨Nat.zero_le _, Nat.zero_le _⟩ dX5_readSum_29 (fun v_10 I_8 J_9 H locs hf hP hD hS => ?_)
        refine lv_if_ne (tgt := 37) S.1 S.2.1 dX5_readSum_32 (by decide) (fun h_11 => ?_) (fun h_11 => ?_)
        · have hf := hf.2 h_11
          refine lv_iload_n S.1 S.2.1 dX5_readSum_37 rfl (lv_at hl 3 rfl) ?_
          refine lv_if_eq (tgt := 46) S.1 S.2.1 dX5_readSum_38 (by decide) (fun h_12 => ?_) (fun h_12 => ?_)
          · have hf := hf.1 h_12
            exact jn46 _ _ _ _ hf _ _ _ hP hD hS (lv_sub hl [0, 1, 2, 4, 5] rfl)
          · have hf := hf.2 h_12
            refine lv_aload_n S.1 S.2.1 dX5_readSum_41 rfl (lv_at hl 2 rfl) ?_
            refine lv_iload_n S.1 S.2.1 dX5_readSum_42 rfl (lv_at hl 3 rfl) ?_
            refine R_cVv (As := [.int x3_2]) (rest := []) S (c_X3_add (hB := (by decide)) (hM := (fun r => hG 10 r (by decide)))  hf) gX5_readSum_X3_add rfl yk_X3_add ⟨⟨by dsimp only [rmX3_add, rmX5_readSum]; omega, by dsimp only [rmX3_add, rmX5_readSum]; omega⟩, rfl, rfl⟩ hK hP hD hS hX hA ((fun r => hG 10 r (by decide)) 2 (by decide)) (cF_g E (by decide) _ _ 2) rfl rfl hl.1 rfl (Nat.le_of_ble_eq_true rfl) ⟨Nat.zero_le _, Nat.zero_le _⟩ dX5_readSum_43 (fun I_56 J_57 H locs hf hP hD hS => ?_)
            exact jn46 _ _ _ _ hf _ _ _ hP hD hS (lv_sub hl [0, 1, 2, 4, 5] rfl)
        · have hf := hf.1 h_11
          exact kx35 _ _ hf _ _ _ hP hD hS (lv_sub hl [] rfl)
  refine L19 _ _ _ _ (fun I_58 J_59 hf H locs ls hP hD hS hl => ?_) (fun I_60 J_61 hf H locs ls hP hD hS hl => ?_) (fun I_62 J_63 hf H locs ls hP hD hS hl => ?_)  n_64 _ _ _ _ _ hf _ _ _ hP hD hS (lv_sub hl [4, 5, 3, 2, 1, 0] rfl)
  · refine lv_iconst (v := 1) S.1 S.2.1 dX5_readSum_128 rfl ?_
    exact hret hf rfl hP hD hS dX5_readSum_129
  · refine lv_iconst (v := 0) S.1 S.2.1 dX5_readSum_35 rfl ?_
    exact hret hf rfl hP hD hS dX5_readSum_36
  · refine lv_iconst (v := 1) S.1 S.2.1 dX5_readSum_106 rfl ?_
    exact hret hf rfl hP hD hS dX5_readSum_107
def f_X5_readSum : Nat → Int32 → MI → MJ → (Int32 → MI → MJ → Prop) → Prop
  | 0, _, _, _, _ => False
  | d + 1, x1, I, J, Q => f_X5_readSum_S (f_X5_readSum d) x1 I J Q
theorem c_X5_readSum {l : Launch} {E : EV} {ps : List (Nat × Nat)} (h11 : ∀ r, r < 11 → (11, r) ∈ ps) (hG : ∀ k r, k < 11 → r < 16 → (k, r) ∈ ps) : ∀ (d : Nat) {x1 : Int32} {I : MI} {J : MJ} {Q : Int32 → MI → MJ → Prop}, f_X5_readSum d x1 I J Q → KI l yX5_readSum wsX5_readSum (rmX5_readSum d) E ps [.ref (eA E 11 4), .int x1] I J Q
  | 0 => fun h => h.elim
  | d + 1 => fun h => c_X5_readSum_S (hrs := fun h2 => c_X5_readSum h11 hG d h2) (h11 := h11) (hG := hG) h
