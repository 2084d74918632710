abbrev rmX7_chain : Room := { frames := 7, cells := 4, slots := 24, locals := 144 }
theorem yk_X7_chain : yOk yX7_chain RX7 2 := by unfold yOk; decide +kernel
def f_X7_chain (x1 : Int32) (x2 : Int32) (I : MI) (J : MJ) (Q : Int32 → MI → MJ → Prop) (X : Nat → MI → MJ → Prop) : Prop :=
  f_X7_checkPlayer x1 I J (fun (I_1 : MI) (J_2 : MJ) => f_X7_checkRow x2 I_1 J_2 (fun (I_3 : MI) (J_4 : MJ) => f_X0_search 0 x1 x2 I_3 J_4 (fun (I_5 : MI) (J_6 : MJ) => Q (I_5 11 6 0) I_5 J_6)) X) X
set_option maxRecDepth 100000 in
set_option maxHeartbeats 4000000 in
theorem c_X7_chain {l : Launch} {E : EV} {ps : List (Nat × Nat)} (hl9 : l.stackTraces = false) (h11 : ∀ r, r < 11 → (11, r) ∈ ps) (hG : ∀ k r, k < 11 → r < 16 → (k, r) ∈ ps) (hR : (eT E)[2]? = some (eG E, .object "RhymeRoofs$Game")) {x1 : Int32} {x2 : Int32} {I : MI} {J : MJ} {Q : Int32 → MI → MJ → Prop} {X : Nat → MI → MJ → Prop} (hf : f_X7_chain x1 x2 I J Q X) : YI l yX7_chain wsX7_chain rmX7_chain E ps [.ref (eA E 11 0), .int x1, .int x2] I J Q X 4 24 := by
  refine Y_ofI (cc := cX7_chain) (maxL := 3) (mc := 4) (ty := .int) (by decide +kernel) rfl (Nat.le_of_ble_eq_true rfl) (fun p e s m args below meth c Qm hQm hret hlk ht S hK hX hT => ?_)
  have hA : ∀ q, s.heap.size ≤ q → AA E ps s.heap.size q := fun _ h => Or.inr h
  have k1 := S.2.2.2.2 (.fieldLink RX7 47 "RhymeRoofs" "chains" "LRhymeRoofs$Chains;") (by decide +kernel)
  have iX7 : ∀ w ∈ wsX70, w ∈ wsX7_chain := fun _ h => List.mem_cons_of_mem _ (List.mem_append_left _ (List.mem_append_left _ (List.mem_append_left _ (List.mem_append_left _ (List.mem_append_right _ h)))))
  have k2 := S.2.2.2.2 (.fieldLink RX7 23 "RhymeRoofs" "game" "LRhymeRoofs$Game;") (by decide +kernel)
  have k3 := S.2.2.2.2 (.fieldLink RX7 180 "RhymeRoofs$Chains" "mostWords" "I") (by decide +kernel)
  have iX0 : ∀ w ∈ wsX00, w ∈ wsX7_chain := fun _ h => List.mem_cons_of_mem _ (List.mem_append_left _ (List.mem_append_left _ (List.mem_append_left _ (List.mem_append_right _ h))))
  intro H locs ls hP hD hS hl
  unfold f_X7_chain at hf
  refine lv_aload_n S.1 S.2.1 dX7_chain_0 rfl (lv_at hl 0 rfl) ?_
  refine lv_iload_n S.1 S.2.1 dX7_chain_1 rfl (lv_at hl 1 rfl) ?_
  refine R_xVv (As := [.int x1]) (rest := []) (k := 0) hQm S (c_X7_checkPlayer hl9 (h11 := h11) (hG := hG) (hR := hR) hf) gX7_chain_X7_checkPlayer rfl yk_X7_checkPlayer ⟨rfl, rfl⟩ ⟨Nat.le_of_ble_eq_true rfl, Nat.le_of_ble_eq_true rfl⟩ hK hP hD hS hX hT hlk ht (h11 0 (by decide)) (cF_o E _ _ 0) rfl rfl hl.1 rfl (Nat.le_of_ble_eq_true rfl) ⟨Nat.le_of_ble_eq_true rfl, Nat.le_of_ble_eq_true rfl⟩ (Nat.le_of_ble_eq_true rfl) dX7_chain_2 (fun I_1 J_2 H locs hf hP hD hS => ?_)
  refine lv_aload_n S.1 S.2.1 dX7_chain_5 rfl (lv_at hl 0 rfl) ?_
  refine lv_iload_n S.1 S.2.1 dX7_chain_6 rfl (lv_at hl 2 rfl) ?_
  refine R_xVv (As := [.int x2]) (rest := []) (k := 0 + 1) hQm S (c_X7_checkRow hl9 (h11 := h11) (hG := hG) (hR := hR) hf) gX7_chain_X7_checkRow rfl yk_X7_checkRow ⟨rfl, rfl⟩ ⟨Nat.le_of_ble_eq_true rfl, Nat.le_of_ble_eq_true rfl⟩ hK hP hD hS hX hT hlk ht (h11 0 (by decide)) (cF_o E _ _ 0) rfl rfl hl.1 rfl (Nat.le_of_ble_eq_true rfl) ⟨Nat.le_of_ble_eq_true rfl, Nat.le_of_ble_eq_true rfl⟩ (Nat.le_of_ble_eq_true rfl) dX7_chain_7 (fun I_3 J_4 H locs hf hP hD hS => ?_)
  refine lv_aload_n S.1 S.2.1 dX7_chain_10 rfl (lv_at hl 0 rfl) ?_
  refine gfX7_7 S iX7 hK hP (h11 0 (by decide)) k1 dX7_chain_11 ?_
  refine lv_aload_n S.1 S.2.1 dX7_chain_14 rfl (lv_at hl 0 rfl) ?_
  refine gfX7_3 S iX7 hK hP (h11 0 (by decide)) k2 dX7_chain_15 ?_
  refine lv_iload_n S.1 S.2.1 dX7_chain_18 rfl (lv_at hl 1 rfl) ?_
  refine lv_iload_n S.1 S.2.1 dX7_chain_19 rfl (lv_at hl 2 rfl) ?_
  refine R_cVv (As := [.ref (eA E 0 0), .int x1, .int x2]) (rest := []) S (c_X0_search (h11 := h11) (hBg := (by decide)) (hMg := (fun r => hG 0 r (by decide))) hf) gX7_chain_X0_search rfl yk_X0_search ⟨⟨Nat.le_of_ble_eq_true rfl, Nat.le_of_ble_eq_true rfl⟩, rfl, rfl⟩ hK hP hD hS hX hA (h11 6 (by decide)) (cF_o E _ _ 6) rfl rfl hl.1 rfl (Nat.le_of_ble_eq_true rfl) ⟨Nat.le_of_ble_eq_true rfl, Nat.le_of_ble_eq_true rfl⟩ dX7_chain_20 (fun I_5 J_6 H locs hf hP hD hS => ?_)
  refine lv_aload_n S.1 S.2.1 dX7_chain_23 rfl (lv_at hl 0 rfl) ?_
  refine gfX7_7 S iX7 hK hP (h11 0 (by decide)) k1 dX7_chain_24 ?_
  refine gfX0_0 S iX0 hK hP (h11 6 (by decide)) k3 dX7_chain_27 ?_
  exact hret hf rfl hP hD hS dX7_chain_30 (Nat.le_of_ble_eq_true rfl)
abbrev rmX7_worth : Room := { frames := 7, cells := 4, slots := 24, locals := 144 }
theorem yk_X7_worth : yOk yX7_worth RX7 2 := by unfold yOk; decide +kernel
def f_X7_worth (x1 : Int32) (x2 : Int32) (I : MI) (J : MJ) (Q : Int32 → MI → MJ → Prop) (X : Nat → MI → MJ → Prop) : Prop :=
  f_X7_checkPlayer x1 I J (fun (I_1 : MI) (J_2 : MJ) => f_X7_checkRow x2 I_1 J_2 (fun (I_3 : MI) (J_4 : MJ) => f_X0_search 0 x1 x2 I_3 J_4 (fun (I_5 : MI) (J_6 : MJ) => Q (I_5 11 6 1) I_5 J_6)) X) X
set_option maxRecDepth 100000 in
set_option maxHeartbeats 4000000 in
theorem c_X7_worth {l : Launch} {E : EV} {ps : List (Nat × Nat)} (hl9 : l.stackTraces = false) (h11 : ∀ r, r < 11 → (11, r) ∈ ps) (hG : ∀ k r, k < 11 → r < 16 → (k, r) ∈ ps) (hR : (eT E)[2]? = some (eG E, .object "RhymeRoofs$Game")) {x1 : Int32} {x2 : Int32} {I : MI} {J : MJ} {Q : Int32 → MI → MJ → Prop} {X : Nat → MI → MJ → Prop} (hf : f_X7_worth x1 x2 I J Q X) : YI l yX7_worth wsX7_worth rmX7_worth E ps [.ref (eA E 11 0), .int x1, .int x2] I J Q X 4 24 := by
  refine Y_ofI (cc := cX7_worth) (maxL := 3) (mc := 4) (ty := .int) (by decide +kernel) rfl (Nat.le_of_ble_eq_true rfl) (fun p e s m args below meth c Qm hQm hret hlk ht S hK hX hT => ?_)
  have hA : ∀ q, s.heap.size ≤ q → AA E ps s.heap.size q := fun _ h => Or.inr h
  have k1 := S.2.2.2.2 (.fieldLink RX7 47 "RhymeRoofs" "chains" "LRhymeRoofs$Chains;") (by decide +kernel)
  have iX7 : ∀ w ∈ wsX70, w ∈ wsX7_worth := fun _ h => List.mem_cons_of_mem _ (List.mem_append_left _ (List.mem_append_left _ (List.mem_append_left _ (List.mem_append_left _ (List.mem_append_right _ h)))))
  have k2 := S.2.2.2.2 (.fieldLink RX7 23 "RhymeRoofs" "game" "LRhymeRoofs$Game;") (by decide +kernel)
  have k3 := S.2.2.2.2 (.fieldLink RX7 183 "RhymeRoofs$Chains" "mostPoints" "I") (by decide +kernel)
  have iX0 : ∀ w ∈ wsX00, w ∈ wsX7_worth := fun _ h => List.mem_cons_of_mem _ (List.mem_append_left _ (List.mem_append_left _ (List.mem_append_left _ (List.mem_append_right _ h))))
  intro H locs ls hP hD hS hl
  unfold f_X7_worth at hf
  refine lv_aload_n S.1 S.2.1 dX7_worth_0 rfl (lv_at hl 0 rfl) ?_
  refine lv_iload_n S.1 S.2.1 dX7_worth_1 rfl (lv_at hl 1 rfl) ?_
  refine R_xVv (As := [.int x1]) (rest := []) (k := 0) hQm S (c_X7_checkPlayer hl9 (h11 := h11) (hG := hG) (hR := hR) hf) gX7_worth_X7_checkPlayer rfl yk_X7_checkPlayer ⟨rfl, rfl⟩ ⟨Nat.le_of_ble_eq_true rfl, Nat.le_of_ble_eq_true rfl⟩ hK hP hD hS hX hT hlk ht (h11 0 (by decide)) (cF_o E _ _ 0) rfl rfl hl.1 rfl (Nat.le_of_ble_eq_true rfl) ⟨Nat.le_of_ble_eq_true rfl, Nat.le_of_ble_eq_true rfl⟩ (Nat.le_of_ble_eq_true rfl) dX7_worth_2 (fun I_1 J_2 H locs hf hP hD hS => ?_)
  refine lv_aload_n S.1 S.2.1 dX7_worth_5 rfl (lv_at hl 0 rfl) ?_
  refine lv_iload_n S.1 S.2.1 dX7_worth_6 rfl (lv_at hl 2 rfl) ?_
  refine R_xVv (As := [.int x2]) (rest := []) (k := 0 + 1) hQm S (c_X7_checkRow hl9 (h11 := h11) (hG := hG) (hR := hR) hf) gX7_worth_X7_checkRow rfl yk_X7_checkRow ⟨rfl, rfl⟩ ⟨Nat.le_of_ble_eq_true rfl, Nat.le_of_ble_eq_true rfl⟩ hK hP hD hS hX hT hlk ht (h11 0 (by decide)) (cF_o E _ _ 0) rfl rfl hl.1 rfl (Nat.le_of_ble_eq_true rfl) ⟨Nat.le_of_ble_eq_true rfl, Nat.le_of_ble_eq_true rfl⟩ (Nat.le_of_ble_eq_true rfl) dX7_worth_7 (fun I_3 J_4 H locs hf hP hD hS => ?_)
  refine lv_aload_n S.1 S.2.1 dX7_worth_10 rfl (lv_at hl 0 rfl) ?_
  refine gfX7_7 S iX7 hK hP (h11 0 (by decide)) k1 dX7_worth_11 ?_
  refine lv_aload_n S.1 S.2.1 dX7_worth_14 rfl (lv_at hl 0 rfl) ?_
  refine gfX7_3 S iX7 hK hP (h11 0 (by decide)) k2 dX7_worth_15 ?_
  refine lv_iload_n S.1 S.2.1 dX7_worth_18 rfl (lv_at hl 1 rfl) ?_
  refine lv_iload_n S.1 S.2.1 dX7_worth_19 rfl (lv_at hl 2 rfl) ?_
  refine R_cVv (As := [.ref (eA E 0 0), .int x1, .int x2]) (rest := []) S (c_X0_search (h11 := h11) (hBg := (by decide)) (hMg := (fun r => hG 0 r (by decide))) hf) gX7_worth_X0_search rfl yk_X0_search ⟨⟨Nat.le_of_ble_eq_true rfl, Nat.le_of_ble_eq_true rfl⟩, rfl, rfl⟩ hK hP hD hS hX hA (h11 6 (by decide)) (cF_o E _ _ 6) rfl rfl hl.1 rfl (Nat.le_of_ble_eq_true rfl) ⟨Nat.le_of_ble_eq_true rfl, Nat.le_of_ble_eq_true rfl⟩ dX7_worth_20 (fun I_5 J_6 H locs hf hP hD hS => ?_)
  refine lv_aload_n S.1 S.2.1 dX7_worth_23 rfl (lv_at hl 0 rfl) ?_
  refine gfX7_7 S iX7 hK hP (h11 0 (by decide)) k1 dX7_worth_24 ?_
  refine gfX0_1 S iX0 hK hP (h11 6 (by decide)) k3 dX7_worth_27 ?_
  exact hret hf rfl hP hD hS dX7_worth_30 (Nat.le_of_ble_eq_true rfl)
abbrev rmX7_fillings : Room := { frames := 7, cells := 4, slots := 24, locals := 144 }
theorem yk_X7_fillings : yOk yX7_fillings RX7 2 := by unfold yOk; decide +kernel
def f_X7_fillings (x1 : Int32) (x2 : Int32) (I : MI) (J : MJ) (Q : Int32 → MI → MJ → Prop) (X : Nat → MI → MJ → Prop) : Prop :=
  f_X7_checkPlayer x1 I J (fun (I_1 : MI) (J_2 : MJ) => f_X7_checkRow x2 I_1 J_2 (fun (I_3 : MI) (J_4 : MJ) => f_X1_freeTiles 0 x2 I_3 J_4 (fun (v_7 : Int32) (I_5 : MI) (J_6 : MJ) => ((v_7 = (0 : Int32) → Q (1 : Int32) I_5 J_6) ∧ (¬ v_7 = (0 : Int32) → f_X0_search 0 x1 x2 I_5 J_6 (fun (I_9 : MI) (J_10 : MJ) => Q (I_9 11 6 2) I_9 J_10))))) X) X
set_option maxRecDepth 100000 in
set_option maxHeartbeats 4000000 in
theorem c_X7_fillings {l : Launch} {E : EV} {ps : List (Nat × Nat)} (hl9 : l.stackTraces = false) (h11 : ∀ r, r < 11 → (11, r) ∈ ps) (hG : ∀ k r, k < 11 → r < 16 → (k, r) ∈ ps) (hR : (eT E)[2]? = some (eG E, .object "RhymeRoofs$Game")) {x1 : Int32} {x2 : Int32} {I : MI} {J : MJ} {Q : Int32 → MI → MJ → Prop} {X : Nat → MI → MJ → Prop} (hf : f_X7_fillings x1 x2 I J Q X) : YI l yX7_fillings wsX7_fillings rmX7_fillings E ps [.ref (eA E 11 0), .int x1, .int x2] I J Q X 4 24 := by
  refine Y_ofI (cc := cX7_fillings) (maxL := 3) (mc := 4) (ty := .int) (by decide +kernel) rfl (Nat.le_of_ble_eq_true rfl) (fun p e s m args below meth c Qm hQm hret hlk ht S hK hX hT => ?_)
  have hA : ∀ q, s.heap.size ≤ q → AA E ps s.heap.size q := fun _ h => Or.inr h
  have k1 := S.2.2.2.2 (.fieldLink RX7 23 "RhymeRoofs" "game" "LRhymeRoofs$Game;") (by decide +kernel)
  have iX7 : ∀ w ∈ wsX70, w ∈ wsX7_fillings := fun _ h => List.mem_cons_of_mem _ (List.mem_append_left _ (List.mem_append_left _ (List.mem_append_left _ (List.mem_append_left _ (List.mem_append_right _ h)))))
  have k2 := S.2.2.2.2 (.fieldLink RX7 47 "RhymeRoofs" "chains" "LRhymeRoofs$Chains;") (by decide +kernel)
  have k3 := S.2.2.2.2 (.fieldLink RX7 189 "RhymeRoofs$Chains" "thatFill" "I") (by decide +kernel)
  have iX0 : ∀ w ∈ wsX00, w ∈ wsX7_fillings := fun _ h => List.mem_cons_of_mem _ (List.mem_append_left _ (List.mem_append_left _ (List.mem_append_left _ (List.mem_append_right _ h))))
  intro H locs ls hP hD hS hl
  unfold f_X7_fillings at hf
  refine lv_aload_n S.1 S.2.1 dX7_fillings_0 rfl (lv_at hl 0 rfl) ?_
  refine lv_iload_n S.1 S.2.1 dX7_fillings_1 rfl (lv_at hl 1 rfl) ?_
  refine R_xVv (As := [.int x1]) (rest := []) (k := 0) hQm S (c_X7_checkPlayer hl9 (h11 := h11) (hG := hG) (hR := hR) hf) gX7_fillings_X7_checkPlayer rfl yk_X7_checkPlayer ⟨rfl, rfl⟩ ⟨Nat.le_of_ble_eq_true rfl, Nat.le_of_ble_eq_true rfl⟩ hK hP hD hS hX hT hlk ht (h11 0 (by decide)) (cF_o E _ _ 0) rfl rfl hl.1 rfl (Nat.le_of_ble_eq_true rfl) ⟨Nat.le_of_ble_eq_true rfl, Nat.le_of_ble_eq_true rfl⟩ (Nat.le_of_ble_eq_true rfl) dX7_fillings_2 (fun I_1 J_2 H locs hf hP hD hS => ?_)
  refine lv_aload_n S.1 S.2.1 dX7_fillings_5 rfl (lv_at hl 0 rfl) ?_
  refine lv_iload_n S.1 S.2.1 dX7_fillings_6 rfl (lv_at hl 2 rfl) ?_
  refine R_xVv (As := [.int x2]) (rest := []) (k := 0 + 1) hQm S (c_X7_checkRow hl9 (h11 := h11) (hG := hG) (hR := hR) hf) gX7_fillings_X7_checkRow rfl yk_X7_checkRow ⟨rfl, rfl⟩ ⟨Nat.le_of_ble_eq_true rfl, Nat.le_of_ble_eq_true rfl⟩ hK hP hD hS hX hT hlk ht (h11 0 (by decide)) (cF_o E _ _ 0) rfl rfl hl.1 rfl (Nat.le_of_ble_eq_true rfl) ⟨Nat.le_of_ble_eq_true rfl, Nat.le_of_ble_eq_true rfl⟩ (Nat.le_of_ble_eq_true rfl) dX7_fillings_7 (fun I_3 J_4 H locs hf hP hD hS => ?_)
  refine lv_aload_n S.1 S.2.1 dX7_fillings_10 rfl (lv_at hl 0 rfl) ?_
  refine gfX7_3 S iX7 hK hP (h11 0 (by decide)) k1 dX7_fillings_11 ?_
  refine lv_iload_n S.1 S.2.1 dX7_fillings_14 rfl (lv_at hl 2 rfl) ?_
  refine R_cVi (As := [.int x2]) (rest := []) S (c_X1_freeTiles (hB := (by decide)) (hM := (fun r => hG 0 r (by decide)))  hf) gX7_fillings_X1_freeTiles rfl yk_X1_freeTiles ⟨⟨Nat.le_of_ble_eq_true rfl, Nat.le_of_ble_eq_true rfl⟩, rfl, rfl⟩ hK hP hD hS hX hA ((fun r => hG 0 r (by decide)) 0 (by decide)) (cF_g E (by decide) _ _ 0) rfl rfl hl.1 rfl (Nat.le_of_ble_eq_true rfl) ⟨Nat.le_of_ble_eq_true rfl, Nat.le_of_ble_eq_true rfl⟩ dX7_fillings_15 (fun v_7 I_5 J_6 H locs hf hP hD hS => ?_)
  refine lv_if_ne (tgt := 23) S.1 S.2.1 dX7_fillings_18 (by decide) (fun h_8 => ?_) (fun h_8 => ?_)
  · have hf := hf.2 h_8
    refine lv_aload_n S.1 S.2.1 dX7_fillings_23 rfl (lv_at hl 0 rfl) ?_
    refine gfX7_7 S iX7 hK hP (h11 0 (by decide)) k2 dX7_fillings_24 ?_
    refine lv_aload_n S.1 S.2.1 dX7_fillings_27 rfl (lv_at hl 0 rfl) ?_
    refine gfX7_3 S iX7 hK hP (h11 0 (by decide)) k1 dX7_fillings_28 ?_
    refine lv_iload_n S.1 S.2.1 dX7_fillings_31 rfl (lv_at hl 1 rfl) ?_
    refine lv_iload_n S.1 S.2.1 dX7_fillings_32 rfl (lv_at hl 2 rfl) ?_
    refine R_cVv (As := [.ref (eA E 0 0), .int x1, .int x2]) (rest := []) S (c_X0_search (h11 := h11) (hBg := (by decide)) (hMg := (fun r => hG 0 r (by decide))) hf) gX7_fillings_X0_search rfl yk_X0_search ⟨⟨Nat.le_of_ble_eq_true rfl, Nat.le_of_ble_eq_true rfl⟩, rfl, rfl⟩ hK hP hD hS hX hA (h11 6 (by decide)) (cF_o E _ _ 6) rfl rfl hl.1 rfl (Nat.le_of_ble_eq_true rfl) ⟨Nat.le_of_ble_eq_true rfl, Nat.le_of_ble_eq_true rfl⟩ dX7_fillings_33 (fun I_9 J_10 H locs hf hP hD hS => ?_)
    refine lv_aload_n S.1 S.2.1 dX7_fillings_36 rfl (lv_at hl 0 rfl) ?_
    refine gfX7_7 S iX7 hK hP (h11 0 (by decide)) k2 dX7_fillings_37 ?_
    refine gfX0_2 S iX0 hK hP (h11 6 (by decide)) k3 dX7_fillings_40 ?_
    exact hret hf rfl hP hD hS dX7_fillings_43 (Nat.le_of_ble_eq_true rfl)
  · have hf := hf.1 h_8
    refine lv_iconst (v := 1) S.1 S.2.1 dX7_fillings_21 rfl ?_
    exact hret hf rfl hP hD hS dX7_fillings_22 (Nat.le_of_ble_eq_true rfl)
abbrev rmX7_threats : Room := { frames := 7, cells := 4, slots := 24, locals := 111 }
theorem yk_X7_threats : yOk yX7_threats RX7 1 := by unfold yOk; decide +kernel
def f_X7_threats_B9 (x1_3 : Int32) (K47 : Int32 → MI → MJ → Prop) (rec9 : Int32 → Int32 → MI → MJ → Prop) (x2_4 : Int32) (x3_5 : Int32) (I_6 : MI) (J_7 : MJ) : Prop :=
  (((I_6 0 1 4) ≤ x3_5 → K47 x2_4 I_6 J_7) ∧ (¬ (I_6 0 1 4) ≤ x3_5 → f_X1_canFill 0 x3_5 x1_3 I_6 J_7 (fun (v_11 : Int32) (I_9 : MI) (J_10 : MJ) => ((v_11 = (0 : Int32) → ∀ x3_13 : Int32, x3_13 = x3_5 + (1 : Int32) → rec9 x2_4 x3_13 I_9 J_10) ∧ (¬ v_11 = (0 : Int32) → ∀ x2_14 : Int32, x2_14 = (x2_4 ||| ((1 : Int32) <<< (x3_5 &&& 31))) → ∀ x3_15 : Int32, x3_15 = x3_5 + (1 : Int32) → rec9 x2_14 x3_15 I_9 J_10)))))
def f_X7_threats_L9 (x1_3 : Int32) (K47 : Int32 → MI → MJ → Prop) : Nat → Int32 → Int32 → MI → MJ → Prop
  | 0, _, _, _, _ => False
  | n + 1, x2_4, x3_5, I_6, J_7 => f_X7_threats_B9 x1_3 K47 (f_X7_threats_L9 x1_3 K47 n) x2_4 x3_5 I_6 J_7
def f_X7_threats (x1 : Int32) (I : MI) (J : MJ) (Q : Int32 → MI → MJ → Prop) (X : Nat → MI → MJ → Prop) : Prop :=
  f_X7_checkRow x1 I J (fun (I_1 : MI) (J_2 : MJ) => ∃ n : Nat, f_X7_threats_L9 x1 (fun (x2_16 : Int32) (I_17 : MI) (J_18 : MJ) => Q x2_16 I_17 J_18) n (0 : Int32) (0 : Int32) I_1 J_2) X
set_option maxRecDepth 100000 in
set_option maxHeartbeats 4000000 in
theorem c_X7_threats {l : Launch} {E : EV} {ps : List (Nat × Nat)} (hl9 : l.stackTraces = false) (h11 : ∀ r, r < 11 → (11, r) ∈ ps) (hG : ∀ k r, k < 11 → r < 16 → (k, r) ∈ ps) (hR : (eT E)[2]? = some (eG E, .object "RhymeRoofs$Game")) {x1 : Int32} {I : MI} {J : MJ} {Q : Int32 → MI → MJ → Prop} {X : Nat → MI → MJ → Prop} (hf : f_X7_threats x1 I J Q X) : YI l yX7_threats wsX7_threats rmX7_threats E ps [.ref (eA E 11 0), .int x1] I J Q X 4 24 := by
  refine Y_ofI (cc := cX7_threats) (maxL := 4) (mc := 4) (ty := .int) (by decide +kernel) rfl (Nat.le_of_ble_eq_true rfl) (fun p e s m args below meth c Qm hQm hret hlk ht S hK hX hT => ?_)
  have hA : ∀ q, s.heap.size ≤ q → AA E ps s.heap.size q := fun _ h => Or.inr h
  have k1 := S.2.2.2.2 (.fieldLink RX7 23 "RhymeRoofs" "game" "LRhymeRoofs$Game;") (by decide +kernel)
  have iX7 : ∀ w ∈ wsX70, w ∈ wsX7_threats := fun _ h => List.mem_cons_of_mem _ (List.mem_append_left _ (List.mem_append_left _ (List.mem_append_left _ (List.mem_append_right _ h))))
  have k2 := S.2.2.2.2 (.fieldLink RX7 96 "RhymeRoofs$Game" "rules" "LRhymeRoofs$Rules;") (by decide +kernel)
  have iX1 : ∀ w ∈ wsX10, w ∈ wsX7_threats := fun _ h => List.mem_cons_of_mem _ (List.mem_append_left _ (List.mem_append_left _ (List.mem_append_right _ h)))
  have k3 := S.2.2.2.2 (.fieldLink RX7 192 "RhymeRoofs$Rules" "players" "I") (by decide +kernel)
  have iX4 : ∀ w ∈ wsX40, w ∈ wsX7_threats := fun _ h => List.mem_cons_of_mem _ (List.mem_append_left _ (List.mem_append_right _ h))
  intro H locs ls hP hD hS hl
  unfold f_X7_threats at hf
  refine lv_aload_n S.1 S.2.1 dX7_threats_0 rfl (lv_at hl 0 rfl) ?_
  refine lv_iload_n S.1 S.2.1 dX7_threats_1 rfl (lv_at hl 1 rfl) ?_
  refine R_xVv (As := [.int x1]) (rest := []) (k := 0) hQm S (c_X7_checkRow hl9 (h11 := h11) (hG := hG) (hR := hR) hf) gX7_threats_X7_checkRow rfl yk_X7_checkRow ⟨rfl, rfl⟩ ⟨Nat.le_of_ble_eq_true rfl, Nat.le_of_ble_eq_true rfl⟩ hK hP hD hS hX hT hlk ht (h11 0 (by decide)) (cF_o E _ _ 0) rfl rfl hl.1 rfl (Nat.le_of_ble_eq_true rfl) ⟨Nat.le_of_ble_eq_true rfl, Nat.le_of_ble_eq_true rfl⟩ (Nat.le_of_ble_eq_true rfl) dX7_threats_2 (fun I_1 J_2 H locs hf hP hD hS => ?_)
  refine lv_iconst (v := 0) S.1 S.2.1 dX7_threats_5 rfl ?_
  refine lv_istore_n (lv' := [(2, .int (0 : Int32)), (0, .ref (eA E 11 0)), (1, .int x1)]) S.1 S.2.1 dX7_threats_6 rfl hl (by decide) rfl (fun ls hl => ?_)
  refine lv_iconst (v := 0) S.1 S.2.1 dX7_threats_7 rfl ?_
  refine lv_istore_n (lv' := [(3, .int (0 : Int32)), (2, .int (0 : Int32)), (0, .ref (eA E 11 0)), (1, .int x1)]) S.1 S.2.1 dX7_threats_8 rfl hl (by decide) rfl (fun ls hl => ?_)
  obtain ⟨n_19, hf⟩ := hf
  have L9 : ∀ (x1_3 : Int32), ∀ (K47 : Int32 → MI → MJ → Prop), (∀ (x2_16 : Int32) (I_17 : MI) (J_18 : MJ), K47 x2_16 I_17 J_18 → Wk p l e rmX7_threats s m args below meth c Qm E ps 4 1 I_17 J_18 47 [(2, .int x2_16)] []) → ∀ (n : Nat) (x2_4 : Int32) (x3_5 : Int32) (I_6 : MI) (J_7 : MJ), f_X7_threats_L9 x1_3 K47 n x2_4 x3_5 I_6 J_7 → Wk p l e rmX7_threats s m args below meth c Qm E ps 4 1 I_6 J_7 9 [(0, .ref (eA E 11 0)), (1, .int x1_3), (2, .int x2_4), (3, .int x3_5)] [] := by
    intro x1_3 K47 kx47 n
    induction n with
    | zero => intro x2_4 x3_5 I_6 J_7 hf; exact hf.elim
    | succ n ih9 =>
      intro x2_4 x3_5 I_6 J_7 hf
      have hf : f_X7_threats_B9 x1_3 K47 (f_X7_threats_L9 x1_3 K47 n) x2_4 x3_5 I_6 J_7 := hf
      intro H locs ls hP hD hS hl
      unfold f_X7_threats_B9 at hf
      refine lv_iload_n S.1 S.2.1 dX7_threats_9 rfl (lv_at hl 3 rfl) ?_
      refine lv_aload_n S.1 S.2.1 dX7_threats_10 rfl (lv_at hl 0 rfl) ?_
      refine gfX7_3 S iX7 hK hP (h11 0 (by decide)) k1 dX7_threats_11 ?_
      refine gfX1_0 S iX1 hK hP (by decide) ((fun r => hG 0 r (by decide)) 0 (by decide)) k2 dX7_threats_14 ?_
      refine gfX4_4 S iX4 hK hP (by decide) ((fun r => hG 0 r (by decide)) 1 (by decide)) k3 dX7_threats_17 ?_
      refine lv_icmp_ge (tgt := 47) S.1 S.2.1 dX7_threats_20 (by decide) (fun h_8 => ?_) (fun h_8 => ?_)
      · have hf := hf.1 h_8
        exact kx47 _ _ _ hf _ _ _ hP hD hS (lv_sub hl [2] rfl)
      · have hf := hf.2 h_8
        refine lv_aload_n S.1 S.2.1 dX7_threats_23 rfl (lv_at hl 0 rfl) ?_
        refine gfX7_3 S iX7 hK hP (h11 0 (by decide)) k1 dX7_threats_24 ?_
        refine lv_iload_n S.1 S.2.1 dX7_threats_27 rfl (lv_at hl 3 rfl) ?_
        refine lv_iload_n S.1 S.2.1 dX7_threats_28 rfl (lv_at hl 1 rfl) ?_
        refine R_cVi (As := [.int x3_5, .int x1_3]) (rest := []) S (c_X1_canFill (hB := (by decide)) (hM := (fun r => hG 0 r (by decide)))  hf) gX7_threats_X1_canFill rfl yk_X1_canFill ⟨⟨Nat.le_of_ble_eq_true rfl, Nat.le_of_ble_eq_true rfl⟩, rfl, rfl⟩ hK hP hD hS hX hA ((fun r => hG 0 r (by decide)) 0 (by decide)) (cF_g E (by decide) _ _ 0) rfl rfl hl.1 rfl (Nat.le_of_ble_eq_true rfl) ⟨Nat.le_of_ble_eq_true rfl, Nat.le_of_ble_eq_true rfl⟩ dX7_threats_29 (fun v_11 I_9 J_10 H locs hf hP hD hS => ?_)
        refine lv_if_eq (tgt := 41) S.1 S.2.1 dX7_threats_32 (by decide) (fun h_12 => ?_) (fun h_12 => ?_)
        · have hf := hf.1 h_12
          refine nm_o hf (fun x3_13 ex3_13 hf => ?_)
          refine lv_iinc (v := x3_13) (lv' := [(3, .int x3_13), (0, .ref (eA E 11 0)), (1, .int x1_3), (2, .int x2_4)]) S.1 S.2.1 dX7_threats_41 hl (k := 3) rfl (by rw [ex3_13]; rfl) (by decide) rfl (fun ls hl => ?_)
          refine lv_goto (tgt := 9) S.1 S.2.1 dX7_threats_44 (by decide) ?_
          exact ih9 _ _ _ _ hf _ _ _ hP hD hS (lv_sub hl [1, 2, 3, 0] rfl)
        · have hf := hf.2 h_12
          refine lv_iload_n S.1 S.2.1 dX7_threats_35 rfl (lv_at hl 2 rfl) ?_
          refine lv_iconst (v := 1) S.1 S.2.1 dX7_threats_36 rfl ?_
          refine lv_iload_n S.1 S.2.1 dX7_threats_37 rfl (lv_at hl 3 rfl) ?_
          refine lv_ishl S.1 S.2.1 dX7_threats_38 ?_
          refine lv_ior S.1 S.2.1 dX7_threats_39 ?_
          refine lv_topi (fun x2_14 ex2_14 => ?_)
          have hf := hf x2_14 ex2_14
          refine lv_istore_n (lv' := [(2, .int x2_14), (0, .ref (eA E 11 0)), (1, .int x1_3), (3, .int x3_5)]) S.1 S.2.1 dX7_threats_40 rfl hl (by decide) rfl (fun ls hl => ?_)
          refine nm_o hf (fun x3_15 ex3_15 hf => ?_)
          refine lv_iinc (v := x3_15) (lv' := [(3, .int x3_15), (2, .int x2_14), (0, .ref (eA E 11 0)), (1, .int x1_3)]) S.1 S.2.1 dX7_threats_41 hl (k := 3) rfl (by rw [ex3_15]; rfl) (by decide) rfl (fun ls hl => ?_)
          refine lv_goto (tgt := 9) S.1 S.2.1 dX7_threats_44 (by decide) ?_
          exact ih9 _ _ _ _ hf _ _ _ hP hD hS (lv_sub hl [2, 3, 1, 0] rfl)
  refine L9 _ _ (fun x2_16 I_17 J_18 hf H locs ls hP hD hS hl => ?_)  n_19 _ _ _ _ hf _ _ _ hP hD hS (lv_sub hl [2, 3, 1, 0] rfl)
  refine lv_iload_n S.1 S.2.1 dX7_threats_47 rfl (lv_at hl 0 rfl) ?_
  exact hret hf rfl hP hD hS dX7_threats_48 (Nat.le_of_ble_eq_true rfl)
abbrev rmX7_lay : Room := { frames := 7, cells := 4, slots := 24, locals := 148 }
theorem yk_X7_lay : yOk yX7_lay RX7 2 := by unfold yOk; decide +kernel
def f_X7_lay (x1 : Int32) (x2 : Int32) (I : MI) (J : MJ) (Q : Int32 → MI → MJ → Prop) (X : Nat → MI → MJ → Prop) : Prop :=
  f_X7_checkPlace (I 0 0 9) x1 I J (fun (I_1 : MI) (J_2 : MJ) => f_X7_checkRow x2 I_1 J_2 (fun (I_3 : MI) (J_4 : MJ) => f_X1_obstacleNow 0 x1 x2 I_3 J_4 (fun (v_7 : Int32) (I_5 : MI) (J_6 : MJ) => ((v_7 = (0 : Int32) → f_X2_keep 0 I_5 J_6 (fun (I_9 : MI) (J_10 : MJ) => f_X1_layWord 0 x1 x2 I_9 J_10 (fun (v_13 : Int32) (I_11 : MI) (J_12 : MJ) => Q v_13 I_11 J_12))) ∧ (¬ v_7 = (0 : Int32) → X 3 I_5 J_6)))) X) X
set_option maxRecDepth 100000 in
set_option maxHeartbeats 4000000 in
theorem c_X7_lay {l : Launch} {E : EV} {ps : List (Nat × Nat)} (hl9 : l.stackTraces = false) (h11 : ∀ r, r < 11 → (11, r) ∈ ps) (hG : ∀ k r, k < 11 → r < 16 → (k, r) ∈ ps) (hR : (eT E)[2]? = some (eG E, .object "RhymeRoofs$Game")) {x1 : Int32} {x2 : Int32} {I : MI} {J : MJ} {Q : Int32 → MI → MJ → Prop} {X : Nat → MI → MJ → Prop} (hf : f_X7_lay x1 x2 I J Q X) : YI l yX7_lay wsX7_lay rmX7_lay E ps [.ref (eA E 11 0), .int x1, .int x2] I J Q X 4 24 := by
  refine Y_ofI (cc := cX7_lay) (maxL := 3) (mc := 4) (ty := .int) (by decide +kernel) rfl (Nat.le_of_ble_eq_true rfl) (fun p e s m args below meth c Qm hQm hret hlk ht S hK hX hT => ?_)
  have hA : ∀ q, s.heap.size ≤ q → AA E ps s.heap.size q := fun _ h => Or.inr h
  have k1 := S.2.2.2.2 (.fieldLink RX7 23 "RhymeRoofs" "game" "LRhymeRoofs$Game;") (by decide +kernel)
  have iX7 : ∀ w ∈ wsX70, w ∈ wsX7_lay := fun _ h => List.mem_cons_of_mem _ (List.mem_append_left _ (List.mem_append_left _ (List.mem_append_left _ (List.mem_append_left _ (List.mem_append_left _ (List.mem_append_left _ (List.mem_append_right _ h)))))))
  have k2 := S.2.2.2.2 (.fieldLink RX7 157 "RhymeRoofs$Game" "turn" "I") (by decide +kernel)
  have iX1 : ∀ w ∈ wsX10, w ∈ wsX7_lay := fun _ h => List.mem_cons_of_mem _ (List.mem_append_left _ (List.mem_append_left _ (List.mem_append_left _ (List.mem_append_left _ (List.mem_append_left _ (List.mem_append_right _ h))))))
  have k3 := S.2.2.2.2 (.fieldLink RX7 33 "RhymeRoofs" "history" "LRhymeRoofs$History;") (by decide +kernel)
  intro H locs ls hP hD hS hl
  unfold f_X7_lay at hf
  refine lv_aload_n S.1 S.2.1 dX7_lay_0 rfl (lv_at hl 0 rfl) ?_
  refine lv_aload_n S.1 S.2.1 dX7_lay_1 rfl (lv_at hl 0 rfl) ?_
  refine gfX7_3 S iX7 hK hP (h11 0 (by decide)) k1 dX7_lay_2 ?_
  refine gfX1_9 S iX1 hK hP (by decide) ((fun r => hG 0 r (by decide)) 0 (by decide)) k2 dX7_lay_5 ?_
  refine lv_iload_n S.1 S.2.1 dX7_lay_8 rfl (lv_at hl 1 rfl) ?_
  refine R_xVv (As := [.int (I 0 0 9), .int x1]) (rest := []) (k := 0) hQm S (c_X7_checkPlace hl9 (h11 := h11) (hG := hG) (hR := hR) hf) gX7_lay_X7_checkPlace rfl yk_X7_checkPlace ⟨rfl, rfl⟩ ⟨Nat.le_of_ble_eq_true rfl, Nat.le_of_ble_eq_true rfl⟩ hK hP hD hS hX hT hlk ht (h11 0 (by decide)) (cF_o E _ _ 0) rfl rfl hl.1 rfl (Nat.le_of_ble_eq_true rfl) ⟨Nat.le_of_ble_eq_true rfl, Nat.le_of_ble_eq_true rfl⟩ (Nat.le_of_ble_eq_true rfl) dX7_lay_9 (fun I_1 J_2 H locs hf hP hD hS => ?_)
  refine lv_aload_n S.1 S.2.1 dX7_lay_12 rfl (lv_at hl 0 rfl) ?_
  refine lv_iload_n S.1 S.2.1 dX7_lay_13 rfl (lv_at hl 2 rfl) ?_
  refine R_xVv (As := [.int x2]) (rest := []) (k := 0 + 1) hQm S (c_X7_checkRow hl9 (h11 := h11) (hG := hG) (hR := hR) hf) gX7_lay_X7_checkRow rfl yk_X7_checkRow ⟨rfl, rfl⟩ ⟨Nat.le_of_ble_eq_true rfl, Nat.le_of_ble_eq_true rfl⟩ hK hP hD hS hX hT hlk ht (h11 0 (by decide)) (cF_o E _ _ 0) rfl rfl hl.1 rfl (Nat.le_of_ble_eq_true rfl) ⟨Nat.le_of_ble_eq_true rfl, Nat.le_of_ble_eq_true rfl⟩ (Nat.le_of_ble_eq_true rfl) dX7_lay_14 (fun I_3 J_4 H locs hf hP hD hS => ?_)
  refine lv_aload_n S.1 S.2.1 dX7_lay_17 rfl (lv_at hl 0 rfl) ?_
  refine gfX7_3 S iX7 hK hP (h11 0 (by decide)) k1 dX7_lay_18 ?_
  refine lv_iload_n S.1 S.2.1 dX7_lay_21 rfl (lv_at hl 1 rfl) ?_
  refine lv_iload_n S.1 S.2.1 dX7_lay_22 rfl (lv_at hl 2 rfl) ?_
  refine R_cVi (As := [.int x1, .int x2]) (rest := []) S (c_X1_obstacleNow (hB := (by decide)) (hM := (fun r => hG 0 r (by decide)))  hf) gX7_lay_X1_obstacleNow rfl yk_X1_obstacleNow ⟨⟨Nat.le_of_ble_eq_true rfl, Nat.le_of_ble_eq_true rfl⟩, rfl, rfl⟩ hK hP hD hS hX hA ((fun r => hG 0 r (by decide)) 0 (by decide)) (cF_g E (by decide) _ _ 0) rfl rfl hl.1 rfl (Nat.le_of_ble_eq_true rfl) ⟨Nat.le_of_ble_eq_true rfl, Nat.le_of_ble_eq_true rfl⟩ dX7_lay_23 (fun v_7 I_5 J_6 H locs hf hP hD hS => ?_)
  refine lv_if_eq (tgt := 39) S.1 S.2.1 dX7_lay_26 (by decide) (fun h_8 => ?_) (fun h_8 => ?_)
  · have hf := hf.1 h_8
    refine lv_aload_n S.1 S.2.1 dX7_lay_39 rfl (lv_at hl 0 rfl) ?_
    refine gfX7_5 S iX7 hK hP (h11 0 (by decide)) k3 dX7_lay_40 ?_
    refine lv_aload_n S.1 S.2.1 dX7_lay_43 rfl (lv_at hl 0 rfl) ?_
    refine gfX7_3 S iX7 hK hP (h11 0 (by decide)) k1 dX7_lay_44 ?_
    refine R_cVv (As := [.ref (eA E 0 0)]) (rest := []) S (c_X2_keep (h11 := h11) (hG := hG) (hR := hR) (hBg := (by decide)) (hMg := (fun r => hG 0 r (by decide))) hf) gX7_lay_X2_keep rfl yk_X2_keep ⟨⟨Nat.le_of_ble_eq_true rfl, Nat.le_of_ble_eq_true rfl⟩, rfl, rfl⟩ hK hP hD hS hX hA (h11 2 (by decide)) (cF_o E _ _ 2) rfl rfl hl.1 rfl (Nat.le_of_ble_eq_true rfl) ⟨Nat.le_of_ble_eq_true rfl, Nat.le_of_ble_eq_true rfl⟩ dX7_lay_47 (fun I_9 J_10 H locs hf hP hD hS => ?_)
    refine lv_aload_n S.1 S.2.1 dX7_lay_50 rfl (lv_at hl 0 rfl) ?_
    refine gfX7_3 S iX7 hK hP (h11 0 (by decide)) k1 dX7_lay_51 ?_
    refine lv_iload_n S.1 S.2.1 dX7_lay_54 rfl (lv_at hl 1 rfl) ?_
    refine lv_iload_n S.1 S.2.1 dX7_lay_55 rfl (lv_at hl 2 rfl) ?_
    refine R_cVi (As := [.int x1, .int x2]) (rest := []) S (c_X1_layWord (hB := (by decide)) (hM := (fun r => hG 0 r (by decide)))  hf) gX7_lay_X1_layWord rfl yk_X1_layWord ⟨⟨Nat.le_of_ble_eq_true rfl, Nat.le_of_ble_eq_true rfl⟩, rfl, rfl⟩ hK hP hD hS hX hA ((fun r => hG 0 r (by decide)) 0 (by decide)) (cF_g E (by decide) _ _ 0) rfl rfl hl.1 rfl (Nat.le_of_ble_eq_true rfl) ⟨Nat.le_of_ble_eq_true rfl, Nat.le_of_ble_eq_true rfl⟩ dX7_lay_56 (fun v_13 I_11 J_12 H locs hf hP hD hS => ?_)
    exact hret hf rfl hP hD hS dX7_lay_59 (Nat.le_of_ble_eq_true rfl)
  · have hf := hf.2 h_8
    exact R_thr (names := ["java/lang/RuntimeException", "java/lang/Exception"]) (k := 0 + 1 + 1) hQm hl9 S hK hX hT hlk ht 3 (by decide) "the word cannot be laid there" (by decide +kernel) (by decide +kernel) (by decide +kernel) (by decide +kernel) (by decide +kernel) (fun _ h => List.mem_cons_of_mem _ (List.mem_append_left _ (List.mem_append_right _ h))) (by decide +kernel) (by decide +kernel) hf hP hD hS hl.1 dX7_lay_29 dX7_lay_32 dX7_lay_33 dX7_lay_35 dX7_lay_38 (Nat.le_of_ble_eq_true rfl) (Nat.le_of_ble_eq_true rfl) ⟨Nat.le_of_ble_eq_true rfl, Nat.le_of_ble_eq_true rfl⟩ (Nat.le_of_ble_eq_true rfl)
