abbrev rmX0_search : Room := { frames := 3, cells := 0, slots := 0, locals := 118 }
theorem yk_X0_search : yOk yX0_search RX0 3 := by unfold yOk; decide +kernel
def f_X0_search_B41 (g : Nat) (x2_10 : Int32) (x3_11 : Int32) (K93 : MI → MJ → Prop) (rec41 : Int32 → MI → MJ → Prop) (x4_12 : Int32) (I_13 : MI) (J_14 : MJ) : Prop :=
  (((I_13 11 6 7) ≤ x4_12 → K93 I_13 J_14) ∧ (¬ (I_13 11 6 7) ≤ x4_12 → f_X1_wordOf g x2_10 x4_12 I_13 J_14 (fun (v_18 : Int64) (I_16 : MI) (J_17 : MJ) => f_X1_obstacle g v_18 x3_11 I_16 J_17 (fun (v_21 : Int32) (I_19 : MI) (J_20 : MJ) => ((v_21 = (0 : Int32) → f_X1_pointsFor g v_18 x3_11 I_19 J_20 (fun (v_26 : Int32) (I_24 : MI) (J_25 : MJ) => f_X0_note ((1 : Int32) <<< (x4_12 &&& 31)) x4_12 (1 : Int32) v_26 I_24 J_25 (fun (I_27 : MI) (J_28 : MJ) => ∀ x4_29 : Int32, x4_29 = x4_12 + (1 : Int32) → rec41 x4_29 I_27 J_28))) ∧ (¬ v_21 = (0 : Int32) → ∀ x4_23 : Int32, x4_23 = x4_12 + (1 : Int32) → rec41 x4_23 I_19 J_20))))))
def f_X0_search_L41 (g : Nat) (x2_10 : Int32) (x3_11 : Int32) (K93 : MI → MJ → Prop) : Nat → Int32 → MI → MJ → Prop
  | 0, _, _, _ => False
  | n + 1, x4_12, I_13, J_14 => f_X0_search_B41 g x2_10 x3_11 K93 (f_X0_search_L41 g x2_10 x3_11 K93 n) x4_12 I_13 J_14
def f_X0_search_B96 (g : Nat) (K119 : MI → MJ → Prop) (rec96 : Int32 → MI → MJ → Prop) (x4_32 : Int32) (I_33 : MI) (J_34 : MJ) : Prop :=
  ((((1 : Int32) <<< ((I_33 11 6 7) &&& 31)) ≤ x4_32 → K119 I_33 J_34) ∧ (¬ ((1 : Int32) <<< ((I_33 11 6 7) &&& 31)) ≤ x4_32 → f_X0_extend x4_32 I_33 J_34 (fun (I_36 : MI) (J_37 : MJ) => ∀ x4_38 : Int32, x4_38 = x4_32 + (1 : Int32) → rec96 x4_38 I_36 J_37)))
def f_X0_search_L96 (g : Nat) (K119 : MI → MJ → Prop) : Nat → Int32 → MI → MJ → Prop
  | 0, _, _, _ => False
  | n + 1, x4_32, I_33, J_34 => f_X0_search_B96 g K119 (f_X0_search_L96 g K119 n) x4_32 I_33 J_34
def f_X0_search (g : Nat) (x2 : Int32) (x3 : Int32) (I : MI) (J : MJ) (Q : MI → MJ → Prop) : Prop :=
  ∀ I_1 : MI, I_1 = sI I 11 6 0 (0 : Int32) → ∀ I_2 : MI, I_2 = sI I_1 11 6 1 (0 : Int32) → ∀ I_3 : MI, I_3 = sI I_2 11 6 2 (0 : Int32) → f_J7_fill_53178 11 7 2048 (0 : Int32) I_3 J (fun (I_4 : MI) (J_5 : MJ) => f_J7_fill_53178 11 8 2048 (0 : Int32) I_4 J_5 (fun (I_6 : MI) (J_7 : MJ) => f_X0_prepare g x2 x3 I_6 J_7 (fun (I_8 : MI) (J_9 : MJ) => ∃ n : Nat, f_X0_search_L41 g x2 x3 (fun (I_30 : MI) (J_31 : MJ) => ∃ n : Nat, f_X0_search_L96 g (fun (I_39 : MI) (J_40 : MJ) => Q I_39 J_40) n (1 : Int32) I_30 J_31) n (0 : Int32) I_8 J_9)))
set_option maxRecDepth 100000 in
set_option maxHeartbeats 4000000 in
theorem c_X0_search {l : Launch} {E : EV} {ps : List (Nat × Nat)} (h11 : ∀ r, r < 11 → (11, r) ∈ ps) {g : Nat} (hBg : g < 11) (hMg : ∀ r, r < 16 → (g, r) ∈ ps) {x2 : Int32} {x3 : Int32} {I : MI} {J : MJ} {Q : MI → MJ → Prop} (hf : f_X0_search g x2 x3 I J Q) : KV l yX0_search wsX0_search rmX0_search E ps [.ref (eA E 11 6), .ref (eA E g 0), .int x2, .int x3] I J Q := by
  refine K_ofV (cc := cX0_search) (maxL := 7) (by decide +kernel) rfl (Nat.le_of_ble_eq_true rfl) (fun p e s m args below meth c Qm hret S hK hX => ?_)
  have hA : ∀ q, s.heap.size ≤ q → AA E ps s.heap.size q := fun _ h => Or.inr h
  have k1 := S.2.2.2.2 (.fieldLink RX0 24 "RhymeRoofs$Chains" "mostWords" "I") (by decide +kernel)
  have iX0 : ∀ w ∈ wsX00, w ∈ wsX0_search := fun _ h => List.mem_cons_of_mem _ (List.mem_append_left _ (List.mem_append_left _ (List.mem_append_right _ h)))
  have k2 := S.2.2.2.2 (.fieldLink RX0 28 "RhymeRoofs$Chains" "mostPoints" "I") (by decide +kernel)
  have k3 := S.2.2.2.2 (.fieldLink RX0 31 "RhymeRoofs$Chains" "thatFill" "I") (by decide +kernel)
  have k4 := S.2.2.2.2 (.fieldLink RX0 11 "RhymeRoofs$Chains" "ways" "[I") (by decide +kernel)
  have k5 := S.2.2.2.2 (.fieldLink RX0 15 "RhymeRoofs$Chains" "bestPoints" "[I") (by decide +kernel)
  have k6 := S.2.2.2.2 (.fieldLink RX0 44 "RhymeRoofs$Chains" "size" "I") (by decide +kernel)
  intro H locs ls hP hD hS hl
  unfold f_X0_search at hf
  refine lv_aload_n S.1 S.2.1 dX0_search_0 rfl (lv_at hl 0 rfl) ?_
  refine lv_iconst (v := 0) S.1 S.2.1 dX0_search_1 rfl ?_
  refine nm_o hf (fun I_1 eI_1 hf => ?_)
  refine pfX0_0 S iX0 hK hP hD hS (h11 6 (by decide)) k1 dX0_search_2 eI_1 (fun H locs hP hD hS => ?_)
  refine lv_aload_n S.1 S.2.1 dX0_search_5 rfl (lv_at hl 0 rfl) ?_
  refine lv_iconst (v := 0) S.1 S.2.1 dX0_search_6 rfl ?_
  refine nm_o hf (fun I_2 eI_2 hf => ?_)
  refine pfX0_1 S iX0 hK hP hD hS (h11 6 (by decide)) k2 dX0_search_7 eI_2 (fun H locs hP hD hS => ?_)
  refine lv_aload_n S.1 S.2.1 dX0_search_10 rfl (lv_at hl 0 rfl) ?_
  refine lv_iconst (v := 0) S.1 S.2.1 dX0_search_11 rfl ?_
  refine nm_o hf (fun I_3 eI_3 hf => ?_)
  refine pfX0_2 S iX0 hK hP hD hS (h11 6 (by decide)) k3 dX0_search_12 eI_3 (fun H locs hP hD hS => ?_)
  refine lv_aload_n S.1 S.2.1 dX0_search_15 rfl (lv_at hl 0 rfl) ?_
  refine gfX0_3 S iX0 hK hP (h11 6 (by decide)) k4 dX0_search_16 ?_
  refine lv_iconst (v := 0) S.1 S.2.1 dX0_search_19 rfl ?_
  refine R_cSv (As := [.ref (eA E 11 7), .int (0 : Int32)]) (rest := []) S (c_J7_fill_53178  (hm1 := (h11 7 (by decide))) (hc1 := (IAo7 E)) hf) gX0_search_J7_fill_53178 rfl yk_J7_fill_53178 ⟨⟨Nat.le_of_ble_eq_true rfl, Nat.le_of_ble_eq_true rfl⟩, rfl, rfl⟩ hK hP hD hS hX hA rfl hl.1 rfl (Nat.le_of_ble_eq_true rfl) ⟨Nat.zero_le _, Nat.zero_le _⟩ dX0_search_20 (fun I_4 J_5 H locs hf hP hD hS => ?_)
  refine lv_aload_n S.1 S.2.1 dX0_search_23 rfl (lv_at hl 0 rfl) ?_
  refine gfX0_4 S iX0 hK hP (h11 6 (by decide)) k5 dX0_search_24 ?_
  refine lv_iconst (v := 0) S.1 S.2.1 dX0_search_27 rfl ?_
  refine R_cSv (As := [.ref (eA E 11 8), .int (0 : Int32)]) (rest := []) S (c_J7_fill_53178  (hm1 := (h11 8 (by decide))) (hc1 := (IAo8 E)) hf) gX0_search_J7_fill_53178 rfl yk_J7_fill_53178 ⟨⟨Nat.le_of_ble_eq_true rfl, Nat.le_of_ble_eq_true rfl⟩, rfl, rfl⟩ hK hP hD hS hX hA rfl hl.1 rfl (Nat.le_of_ble_eq_true rfl) ⟨Nat.zero_le _, Nat.zero_le _⟩ dX0_search_28 (fun I_6 J_7 H locs hf hP hD hS => ?_)
  refine lv_aload_n S.1 S.2.1 dX0_search_31 rfl (lv_at hl 0 rfl) ?_
  refine lv_aload_n S.1 S.2.1 dX0_search_32 rfl (lv_at hl 1 rfl) ?_
  refine lv_iload_n S.1 S.2.1 dX0_search_33 rfl (lv_at hl 2 rfl) ?_
  refine lv_iload_n S.1 S.2.1 dX0_search_34 rfl (lv_at hl 3 rfl) ?_
  refine R_cVv (As := [.ref (eA E g 0), .int x2, .int x3]) (rest := []) S (c_X0_prepare (h11 := h11) (hBg := hBg) (hMg := hMg) hf) gX0_search_X0_prepare rfl yk_X0_prepare ⟨⟨Nat.le_of_ble_eq_true rfl, Nat.le_of_ble_eq_true rfl⟩, rfl, rfl⟩ hK hP hD hS hX hA (h11 6 (by decide)) (cF_o E _ _ 6) rfl rfl hl.1 rfl (Nat.le_of_ble_eq_true rfl) ⟨Nat.zero_le _, Nat.zero_le _⟩ dX0_search_35 (fun I_8 J_9 H locs hf hP hD hS => ?_)
  refine lv_iconst (v := 0) S.1 S.2.1 dX0_search_38 rfl ?_
  refine lv_istore (lv' := [(4, .int (0 : Int32)), (0, .ref (eA E 11 6)), (1, .ref (eA E g 0)), (2, .int x2), (3, .int x3)]) S.1 S.2.1 dX0_search_39 hl (by decide) rfl (fun ls hl => ?_)
  obtain ⟨n_42, hf⟩ := hf
  have L41 : ∀ (x2_10 : Int32), ∀ (x3_11 : Int32), ∀ (K93 : MI → MJ → Prop), (∀ (I_30 : MI) (J_31 : MJ), K93 I_30 J_31 → Wj p l e (rmX0_search) s m args below meth c Qm E ps 7 I_30 J_31 93 [(0, .ref (eA E 11 6))] []) → ∀ (n : Nat) (x4_12 : Int32) (I_13 : MI) (J_14 : MJ), f_X0_search_L41 g x2_10 x3_11 K93 n x4_12 I_13 J_14 → Wj p l e (rmX0_search) s m args below meth c Qm E ps 7 I_13 J_14 41 [(0, .ref (eA E 11 6)), (1, .ref (eA E g 0)), (2, .int x2_10), (3, .int x3_11), (4, .int x4_12)] [] := by
    intro x2_10 x3_11 K93 kx93 n
    induction n with
    | zero => intro x4_12 I_13 J_14 hf; exact hf.elim
    | succ n ih41 =>
      intro x4_12 I_13 J_14 hf
      have hf : f_X0_search_B41 g x2_10 x3_11 K93 (f_X0_search_L41 g x2_10 x3_11 K93 n) x4_12 I_13 J_14 := hf
      intro H locs ls hP hD hS hl
      unfold f_X0_search_B41 at hf
      refine lv_iload S.1 S.2.1 dX0_search_41 (lv_at hl 4 rfl) ?_
      refine lv_aload_n S.1 S.2.1 dX0_search_43 rfl (lv_at hl 0 rfl) ?_
      refine gfX0_7 S iX0 hK hP (h11 6 (by decide)) k6 dX0_search_44 ?_
      refine lv_icmp_ge (tgt := 93) S.1 S.2.1 dX0_search_47 (by decide) (fun h_15 => ?_) (fun h_15 => ?_)
      · have hf := hf.1 h_15
        exact kx93 _ _ hf _ _ _ hP hD hS (lv_sub hl [0] rfl)
      · have hf := hf.2 h_15
        refine lv_aload_n S.1 S.2.1 dX0_search_50 rfl (lv_at hl 1 rfl) ?_
        refine lv_iload_n S.1 S.2.1 dX0_search_51 rfl (lv_at hl 2 rfl) ?_
        refine lv_iload S.1 S.2.1 dX0_search_52 (lv_at hl 4 rfl) ?_
        refine R_cVl (As := [.int x2_10, .int x4_12]) (rest := []) S (c_X1_wordOf (hB := hBg) (hM := hMg)  hf) gX0_search_X1_wordOf rfl yk_X1_wordOf ⟨⟨Nat.le_of_ble_eq_true rfl, Nat.le_of_ble_eq_true rfl⟩, rfl, rfl⟩ hK hP hD hS hX hA (hMg 0 (by decide)) (cF_g E hBg _ _ 0) rfl rfl hl.1 rfl (Nat.le_of_ble_eq_true rfl) ⟨Nat.zero_le _, Nat.zero_le _⟩ dX0_search_54 (fun v_18 I_16 J_17 H locs hf hP hD hS => ?_)
        refine lv_lstore (lv' := [(5, .long v_18), (0, .ref (eA E 11 6)), (1, .ref (eA E g 0)), (2, .int x2_10), (3, .int x3_11), (4, .int x4_12)]) S.1 S.2.1 dX0_search_57 hl (by decide) rfl (fun ls hl => ?_)
        refine lv_aload_n S.1 S.2.1 dX0_search_59 rfl (lv_at hl 2 rfl) ?_
        refine lv_lload S.1 S.2.1 dX0_search_60 (lv_at hl 0 rfl) ?_
        refine lv_iload_n S.1 S.2.1 dX0_search_62 rfl (lv_at hl 4 rfl) ?_
        refine R_cVi (As := [.long v_18, .int x3_11]) (rest := []) S (c_X1_obstacle (hB := hBg) (hM := hMg)  hf) gX0_search_X1_obstacle rfl yk_X1_obstacle ⟨⟨Nat.le_of_ble_eq_true rfl, Nat.le_of_ble_eq_true rfl⟩, rfl, rfl⟩ hK hP hD hS hX hA (hMg 0 (by decide)) (cF_g E hBg _ _ 0) rfl rfl hl.1 rfl (Nat.le_of_ble_eq_true rfl) ⟨Nat.zero_le _, Nat.zero_le _⟩ dX0_search_63 (fun v_21 I_19 J_20 H locs hf hP hD hS => ?_)
        refine lv_if_ne (tgt := 87) S.1 S.2.1 dX0_search_66 (by decide) (fun h_22 => ?_) (fun h_22 => ?_)
        · have hf := hf.2 h_22
          refine nm_o hf (fun x4_23 ex4_23 hf => ?_)
          refine lv_iinc (v := x4_23) (lv' := [(4, .int x4_23), (5, .long v_18), (0, .ref (eA E 11 6)), (1, .ref (eA E g 0)), (2, .int x2_10), (3, .int x3_11)]) S.1 S.2.1 dX0_search_87 hl (k := 5) rfl (by rw [ex4_23]; rfl) (by decide) rfl (fun ls hl => ?_)
          refine lv_goto (tgt := 41) S.1 S.2.1 dX0_search_90 (by decide) ?_
          exact ih41 _ _ _ hf _ _ _ hP hD hS (lv_sub hl [2, 3, 4, 5, 0] rfl)
        · have hf := hf.1 h_22
          refine lv_aload_n S.1 S.2.1 dX0_search_69 rfl (lv_at hl 1 rfl) ?_
          refine lv_iconst (v := 1) S.1 S.2.1 dX0_search_70 rfl ?_
          refine lv_iload S.1 S.2.1 dX0_search_71 (lv_at hl 5 rfl) ?_
          refine lv_ishl S.1 S.2.1 dX0_search_73 ?_
          refine lv_iload S.1 S.2.1 dX0_search_74 (lv_at hl 5 rfl) ?_
          refine lv_iconst (v := 1) S.1 S.2.1 dX0_search_76 rfl ?_
          refine lv_aload_n S.1 S.2.1 dX0_search_77 rfl (lv_at hl 2 rfl) ?_
          refine lv_lload S.1 S.2.1 dX0_search_78 (lv_at hl 0 rfl) ?_
          refine lv_iload_n S.1 S.2.1 dX0_search_80 rfl (lv_at hl 4 rfl) ?_
          refine R_cVi (As := [.long v_18, .int x3_11]) (rest := [.int (1 : Int32), .int x4_12, .int ((1 : Int32) <<< (x4_12 &&& 31)), .ref (eA E 11 6)]) S (c_X1_pointsFor (hB := hBg) (hM := hMg)  hf) gX0_search_X1_pointsFor rfl yk_X1_pointsFor ⟨⟨Nat.le_of_ble_eq_true rfl, Nat.le_of_ble_eq_true rfl⟩, rfl, rfl⟩ hK hP hD hS hX hA (hMg 0 (by decide)) (cF_g E hBg _ _ 0) rfl rfl hl.1 rfl (Nat.le_of_ble_eq_true rfl) ⟨Nat.zero_le _, Nat.zero_le _⟩ dX0_search_81 (fun v_26 I_24 J_25 H locs hf hP hD hS => ?_)
          refine R_cVv (As := [.int ((1 : Int32) <<< (x4_12 &&& 31)), .int x4_12, .int (1 : Int32), .int v_26]) (rest := []) S (c_X0_note (h11 := h11)  hf) gX0_search_X0_note rfl yk_X0_note ⟨⟨Nat.le_of_ble_eq_true rfl, Nat.le_of_ble_eq_true rfl⟩, rfl, rfl⟩ hK hP hD hS hX hA (h11 6 (by decide)) (cF_o E _ _ 6) rfl rfl hl.1 rfl (Nat.le_of_ble_eq_true rfl) ⟨Nat.zero_le _, Nat.zero_le _⟩ dX0_search_84 (fun I_27 J_28 H locs hf hP hD hS => ?_)
          refine nm_o hf (fun x4_29 ex4_29 hf => ?_)
          refine lv_iinc (v := x4_29) (lv' := [(4, .int x4_29), (5, .long v_18), (0, .ref (eA E 11 6)), (1, .ref (eA E g 0)), (2, .int x2_10), (3, .int x3_11)]) S.1 S.2.1 dX0_search_87 hl (k := 5) rfl (by rw [ex4_29]; rfl) (by decide) rfl (fun ls hl => ?_)
          refine lv_goto (tgt := 41) S.1 S.2.1 dX0_search_90 (by decide) ?_
          exact ih41 _ _ _ hf _ _ _ hP hD hS (lv_sub hl [2, 3, 4, 5, 0] rfl)
  refine L41 _ _ _ (fun I_30 J_31 hf H locs ls hP hD hS hl => ?_)  n_42 _ _ _ hf _ _ _ hP hD hS (lv_sub hl [1, 2, 3, 4, 0] rfl)
  refine lv_iconst (v := 1) S.1 S.2.1 dX0_search_93 rfl ?_
  refine lv_istore (lv' := [(4, .int (1 : Int32)), (0, .ref (eA E 11 6))]) S.1 S.2.1 dX0_search_94 hl (by decide) rfl (fun ls hl => ?_)
  obtain ⟨n_41, hf⟩ := hf
  have L96 : ∀ (K119 : MI → MJ → Prop), (∀ (I_39 : MI) (J_40 : MJ), K119 I_39 J_40 → Wj p l e (rmX0_search) s m args below meth c Qm E ps 7 I_39 J_40 119 [] []) → ∀ (n : Nat) (x4_32 : Int32) (I_33 : MI) (J_34 : MJ), f_X0_search_L96 g K119 n x4_32 I_33 J_34 → Wj p l e (rmX0_search) s m args below meth c Qm E ps 7 I_33 J_34 96 [(0, .ref (eA E 11 6)), (4, .int x4_32)] [] := by
    intro K119 kx119 n
    induction n with
    | zero => intro x4_32 I_33 J_34 hf; exact hf.elim
    | succ n ih96 =>
      intro x4_32 I_33 J_34 hf
      have hf : f_X0_search_B96 g K119 (f_X0_search_L96 g K119 n) x4_32 I_33 J_34 := hf
      intro H locs ls hP hD hS hl
      unfold f_X0_search_B96 at hf
      refine lv_iload S.1 S.2.1 dX0_search_96 (lv_at hl 1 rfl) ?_
      refine lv_iconst (v := 1) S.1 S.2.1 dX0_search_98 rfl ?_
      refine lv_aload_n S.1 S.2.1 dX0_search_99 rfl (lv_at hl 0 rfl) ?_
      refine gfX0_7 S iX0 hK hP (h11 6 (by decide)) k6 dX0_search_100 ?_
      refine lv_ishl S.1 S.2.1 dX0_search_103 ?_
      refine lv_icmp_ge (tgt := 119) S.1 S.2.1 dX0_search_104 (by decide) (fun h_35 => ?_) (fun h_35 => ?_)
      · have hf := hf.1 h_35
        exact kx119 _ _ hf _ _ _ hP hD hS (lv_sub hl [] rfl)
      · have hf := hf.2 h_35
        refine lv_aload_n S.1 S.2.1 dX0_search_107 rfl (lv_at hl 0 rfl) ?_
        refine lv_iload S.1 S.2.1 dX0_search_108 (lv_at hl 1 rfl) ?_
        refine R_cVv (As := [.int x4_32]) (rest := []) S (c_X0_extend (h11 := h11)  hf) gX0_search_X0_extend rfl yk_X0_extend ⟨⟨Nat.le_of_ble_eq_true rfl, Nat.le_of_ble_eq_true rfl⟩, rfl, rfl⟩ hK hP hD hS hX hA (h11 6 (by decide)) (cF_o E _ _ 6) rfl rfl hl.1 rfl (Nat.le_of_ble_eq_true rfl) ⟨Nat.zero_le _, Nat.zero_le _⟩ dX0_search_110 (fun I_36 J_37 H locs hf hP hD hS => ?_)
        refine nm_o hf (fun x4_38 ex4_38 hf => ?_)
        refine lv_iinc (v := x4_38) (lv' := [(4, .int x4_38), (0, .ref (eA E 11 6))]) S.1 S.2.1 dX0_search_113 hl (k := 1) rfl (by rw [ex4_38]; rfl) (by decide) rfl (fun ls hl => ?_)
        refine lv_goto (tgt := 96) S.1 S.2.1 dX0_search_116 (by decide) ?_
        exact ih96 _ _ _ hf _ _ _ hP hD hS (lv_sub hl [1, 0] rfl)
  refine L96 _ (fun I_39 J_40 hf H locs ls hP hD hS hl => ?_)  n_41 _ _ _ hf _ _ _ hP hD hS (lv_sub hl [1, 0] rfl)
  exact hret hf hP hD hS dX0_search_119
