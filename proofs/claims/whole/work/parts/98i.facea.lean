abbrev rmX7_checkRow : Room := { frames := 6, cells := 1, slots := 6, locals := 90 }
theorem yk_X7_checkRow : yOk yX7_checkRow RX7 1 := by unfold yOk; decide +kernel
def f_X7_checkRow (x1 : Int32) (I : MI) (J : MJ) (Q : MI → MJ → Prop) (X : Nat → MI → MJ → Prop) : Prop :=
  ((x1 < (0 : Int32) → X 1 I J) ∧ (¬ x1 < (0 : Int32) → ((x1 < (I 0 1 3) → Q I J) ∧ (¬ x1 < (I 0 1 3) → X 1 I J))))
set_option maxRecDepth 100000 in
set_option maxHeartbeats 4000000 in
theorem c_X7_checkRow {l : Launch} {E : EV} {ps : List (Nat × Nat)} (hl9 : l.stackTraces = false) (h11 : ∀ r, r < 11 → (11, r) ∈ ps) (hG : ∀ k r, k < 11 → r < 16 → (k, r) ∈ ps) (hR : (eT E)[2]? = some (eG E, .object "RhymeRoofs$Game")) {x1 : Int32} {I : MI} {J : MJ} {Q : MI → MJ → Prop} {X : Nat → MI → MJ → Prop} (hf : f_X7_checkRow x1 I J Q X) : YV l yX7_checkRow wsX7_checkRow rmX7_checkRow E ps [.ref (eA E 11 0), .int x1] I J Q X 1 6 := by
  refine Y_ofV (cc := cX7_checkRow) (maxL := 2) (mc := 1) (by decide +kernel) rfl (Nat.le_of_ble_eq_true rfl) (fun p e s m args below meth c Qm hQm hret hlk ht S hK hX hT => ?_)
  have hA : ∀ q, s.heap.size ≤ q → AA E ps s.heap.size q := fun _ h => Or.inr h
  have k1 := S.2.2.2.2 (.fieldLink RX7 23 "RhymeRoofs" "game" "LRhymeRoofs$Game;") (by decide +kernel)
  have iX7 : ∀ w ∈ wsX70, w ∈ wsX7_checkRow := fun _ h => List.mem_cons_of_mem _ (List.mem_append_left _ (List.mem_append_left _ (List.mem_append_left _ (List.mem_append_right _ h))))
  have k2 := S.2.2.2.2 (.fieldLink RX7 96 "RhymeRoofs$Game" "rules" "LRhymeRoofs$Rules;") (by decide +kernel)
  have iX1 : ∀ w ∈ wsX10, w ∈ wsX7_checkRow := fun _ h => List.mem_cons_of_mem _ (List.mem_append_left _ (List.mem_append_left _ (List.mem_append_right _ h)))
  have k3 := S.2.2.2.2 (.fieldLink RX7 206 "RhymeRoofs$Rules" "rows" "I") (by decide +kernel)
  have iX4 : ∀ w ∈ wsX40, w ∈ wsX7_checkRow := fun _ h => List.mem_cons_of_mem _ (List.mem_append_left _ (List.mem_append_right _ h))
  intro H locs ls hP hD hS hl
  unfold f_X7_checkRow at hf
  refine lv_iload_n S.1 S.2.1 dX7_checkRow_0 rfl (lv_at hl 1 rfl) ?_
  refine lv_if_lt (tgt := 18) S.1 S.2.1 dX7_checkRow_1 (by decide) (fun h_1 => ?_) (fun h_1 => ?_)
  · have hf := hf.1 h_1
    exact R_thrW (names := ["java/lang/RuntimeException", "java/lang/Exception"]) (k := 0) hQm hl9 S hK hX hT hlk ht 1 (by decide) "no such row" (by decide +kernel) (by decide +kernel) (by decide +kernel) (by decide +kernel) (by decide +kernel) (fun _ h => List.mem_cons_of_mem _ (List.mem_append_right _ h)) (by decide +kernel) (by decide +kernel) hf hP hD hS hl.1 dX7_checkRow_18 dX7_checkRow_21 dX7_checkRow_22 dX7_checkRow_25 dX7_checkRow_28 (Nat.le_of_ble_eq_true rfl) (Nat.le_of_ble_eq_true rfl) ⟨Nat.le_of_ble_eq_true rfl, Nat.le_of_ble_eq_true rfl⟩ (Nat.le_of_ble_eq_true rfl)
  · have hf := hf.2 h_1
    refine lv_iload_n S.1 S.2.1 dX7_checkRow_4 rfl (lv_at hl 1 rfl) ?_
    refine lv_aload_n S.1 S.2.1 dX7_checkRow_5 rfl (lv_at hl 0 rfl) ?_
    refine gfX7_3 S iX7 hK hP (h11 0 (by decide)) k1 dX7_checkRow_6 ?_
    refine gfX1_0 S iX1 hK hP (by decide) ((fun r => hG 0 r (by decide)) 0 (by decide)) k2 dX7_checkRow_9 ?_
    refine gfX4_3 S iX4 hK hP (by decide) ((fun r => hG 0 r (by decide)) 1 (by decide)) k3 dX7_checkRow_12 ?_
    refine lv_icmp_lt (tgt := 29) S.1 S.2.1 dX7_checkRow_15 (by decide) (fun h_2 => ?_) (fun h_2 => ?_)
    · have hf := hf.1 h_2
      exact hret hf hP hD hS dX7_checkRow_29 (Nat.le_of_ble_eq_true rfl)
    · have hf := hf.2 h_2
      exact R_thrW (names := ["java/lang/RuntimeException", "java/lang/Exception"]) (k := 0) hQm hl9 S hK hX hT hlk ht 1 (by decide) "no such row" (by decide +kernel) (by decide +kernel) (by decide +kernel) (by decide +kernel) (by decide +kernel) (fun _ h => List.mem_cons_of_mem _ (List.mem_append_right _ h)) (by decide +kernel) (by decide +kernel) hf hP hD hS hl.1 dX7_checkRow_18 dX7_checkRow_21 dX7_checkRow_22 dX7_checkRow_25 dX7_checkRow_28 (Nat.le_of_ble_eq_true rfl) (Nat.le_of_ble_eq_true rfl) ⟨Nat.le_of_ble_eq_true rfl, Nat.le_of_ble_eq_true rfl⟩ (Nat.le_of_ble_eq_true rfl)
abbrev rmX7_checkPlayer : Room := { frames := 6, cells := 1, slots := 6, locals := 90 }
theorem yk_X7_checkPlayer : yOk yX7_checkPlayer RX7 1 := by unfold yOk; decide +kernel
def f_X7_checkPlayer (x1 : Int32) (I : MI) (J : MJ) (Q : MI → MJ → Prop) (X : Nat → MI → MJ → Prop) : Prop :=
  ((x1 < (0 : Int32) → X 1 I J) ∧ (¬ x1 < (0 : Int32) → ((x1 < (I 0 1 4) → Q I J) ∧ (¬ x1 < (I 0 1 4) → X 1 I J))))
set_option maxRecDepth 100000 in
set_option maxHeartbeats 4000000 in
theorem c_X7_checkPlayer {l : Launch} {E : EV} {ps : List (Nat × Nat)} (hl9 : l.stackTraces = false) (h11 : ∀ r, r < 11 → (11, r) ∈ ps) (hG : ∀ k r, k < 11 → r < 16 → (k, r) ∈ ps) (hR : (eT E)[2]? = some (eG E, .object "RhymeRoofs$Game")) {x1 : Int32} {I : MI} {J : MJ} {Q : MI → MJ → Prop} {X : Nat → MI → MJ → Prop} (hf : f_X7_checkPlayer x1 I J Q X) : YV l yX7_checkPlayer wsX7_checkPlayer rmX7_checkPlayer E ps [.ref (eA E 11 0), .int x1] I J Q X 1 6 := by
  refine Y_ofV (cc := cX7_checkPlayer) (maxL := 2) (mc := 1) (by decide +kernel) rfl (Nat.le_of_ble_eq_true rfl) (fun p e s m args below meth c Qm hQm hret hlk ht S hK hX hT => ?_)
  have hA : ∀ q, s.heap.size ≤ q → AA E ps s.heap.size q := fun _ h => Or.inr h
  have k1 := S.2.2.2.2 (.fieldLink RX7 23 "RhymeRoofs" "game" "LRhymeRoofs$Game;") (by decide +kernel)
  have iX7 : ∀ w ∈ wsX70, w ∈ wsX7_checkPlayer := fun _ h => List.mem_cons_of_mem _ (List.mem_append_left _ (List.mem_append_left _ (List.mem_append_left _ (List.mem_append_right _ h))))
  have k2 := S.2.2.2.2 (.fieldLink RX7 96 "RhymeRoofs$Game" "rules" "LRhymeRoofs$Rules;") (by decide +kernel)
  have iX1 : ∀ w ∈ wsX10, w ∈ wsX7_checkPlayer := fun _ h => List.mem_cons_of_mem _ (List.mem_append_left _ (List.mem_append_left _ (List.mem_append_right _ h)))
  have k3 := S.2.2.2.2 (.fieldLink RX7 192 "RhymeRoofs$Rules" "players" "I") (by decide +kernel)
  have iX4 : ∀ w ∈ wsX40, w ∈ wsX7_checkPlayer := fun _ h => List.mem_cons_of_mem _ (List.mem_append_left _ (List.mem_append_right _ h))
  intro H locs ls hP hD hS hl
  unfold f_X7_checkPlayer at hf
  refine lv_iload_n S.1 S.2.1 dX7_checkPlayer_0 rfl (lv_at hl 1 rfl) ?_
  refine lv_if_lt (tgt := 18) S.1 S.2.1 dX7_checkPlayer_1 (by decide) (fun h_1 => ?_) (fun h_1 => ?_)
  · have hf := hf.1 h_1
    exact R_thrW (names := ["java/lang/RuntimeException", "java/lang/Exception"]) (k := 0) hQm hl9 S hK hX hT hlk ht 1 (by decide) "no such player" (by decide +kernel) (by decide +kernel) (by decide +kernel) (by decide +kernel) (by decide +kernel) (fun _ h => List.mem_cons_of_mem _ (List.mem_append_right _ h)) (by decide +kernel) (by decide +kernel) hf hP hD hS hl.1 dX7_checkPlayer_18 dX7_checkPlayer_21 dX7_checkPlayer_22 dX7_checkPlayer_25 dX7_checkPlayer_28 (Nat.le_of_ble_eq_true rfl) (Nat.le_of_ble_eq_true rfl) ⟨Nat.le_of_ble_eq_true rfl, Nat.le_of_ble_eq_true rfl⟩ (Nat.le_of_ble_eq_true rfl)
  · have hf := hf.2 h_1
    refine lv_iload_n S.1 S.2.1 dX7_checkPlayer_4 rfl (lv_at hl 1 rfl) ?_
    refine lv_aload_n S.1 S.2.1 dX7_checkPlayer_5 rfl (lv_at hl 0 rfl) ?_
    refine gfX7_3 S iX7 hK hP (h11 0 (by decide)) k1 dX7_checkPlayer_6 ?_
    refine gfX1_0 S iX1 hK hP (by decide) ((fun r => hG 0 r (by decide)) 0 (by decide)) k2 dX7_checkPlayer_9 ?_
    refine gfX4_4 S iX4 hK hP (by decide) ((fun r => hG 0 r (by decide)) 1 (by decide)) k3 dX7_checkPlayer_12 ?_
    refine lv_icmp_lt (tgt := 29) S.1 S.2.1 dX7_checkPlayer_15 (by decide) (fun h_2 => ?_) (fun h_2 => ?_)
    · have hf := hf.1 h_2
      exact hret hf hP hD hS dX7_checkPlayer_29 (Nat.le_of_ble_eq_true rfl)
    · have hf := hf.2 h_2
      exact R_thrW (names := ["java/lang/RuntimeException", "java/lang/Exception"]) (k := 0) hQm hl9 S hK hX hT hlk ht 1 (by decide) "no such player" (by decide +kernel) (by decide +kernel) (by decide +kernel) (by decide +kernel) (by decide +kernel) (fun _ h => List.mem_cons_of_mem _ (List.mem_append_right _ h)) (by decide +kernel) (by decide +kernel) hf hP hD hS hl.1 dX7_checkPlayer_18 dX7_checkPlayer_21 dX7_checkPlayer_22 dX7_checkPlayer_25 dX7_checkPlayer_28 (Nat.le_of_ble_eq_true rfl) (Nat.le_of_ble_eq_true rfl) ⟨Nat.le_of_ble_eq_true rfl, Nat.le_of_ble_eq_true rfl⟩ (Nat.le_of_ble_eq_true rfl)
abbrev rmX7_checkPlace : Room := { frames := 6, cells := 1, slots := 6, locals := 90 }
theorem yk_X7_checkPlace : yOk yX7_checkPlace RX7 2 := by unfold yOk; decide +kernel
def f_X7_checkPlace (x1 : Int32) (x2 : Int32) (I : MI) (J : MJ) (Q : MI → MJ → Prop) (X : Nat → MI → MJ → Prop) : Prop :=
  ((x2 < (0 : Int32) → X 1 I J) ∧ (¬ x2 < (0 : Int32) → (vp_in x1 4 ∧ ((x2 < (I 0 13 x1.toNatClampNeg) → Q I J) ∧ (¬ x2 < (I 0 13 x1.toNatClampNeg) → X 1 I J)))))
set_option maxRecDepth 100000 in
set_option maxHeartbeats 4000000 in
theorem c_X7_checkPlace {l : Launch} {E : EV} {ps : List (Nat × Nat)} (hl9 : l.stackTraces = false) (h11 : ∀ r, r < 11 → (11, r) ∈ ps) (hG : ∀ k r, k < 11 → r < 16 → (k, r) ∈ ps) (hR : (eT E)[2]? = some (eG E, .object "RhymeRoofs$Game")) {x1 : Int32} {x2 : Int32} {I : MI} {J : MJ} {Q : MI → MJ → Prop} {X : Nat → MI → MJ → Prop} (hf : f_X7_checkPlace x1 x2 I J Q X) : YV l yX7_checkPlace wsX7_checkPlace rmX7_checkPlace E ps [.ref (eA E 11 0), .int x1, .int x2] I J Q X 1 6 := by
  refine Y_ofV (cc := cX7_checkPlace) (maxL := 3) (mc := 1) (by decide +kernel) rfl (Nat.le_of_ble_eq_true rfl) (fun p e s m args below meth c Qm hQm hret hlk ht S hK hX hT => ?_)
  have hA : ∀ q, s.heap.size ≤ q → AA E ps s.heap.size q := fun _ h => Or.inr h
  have k1 := S.2.2.2.2 (.fieldLink RX7 23 "RhymeRoofs" "game" "LRhymeRoofs$Game;") (by decide +kernel)
  have iX7 : ∀ w ∈ wsX70, w ∈ wsX7_checkPlace := fun _ h => List.mem_cons_of_mem _ (List.mem_append_left _ (List.mem_append_left _ (List.mem_append_right _ h)))
  have k2 := S.2.2.2.2 (.fieldLink RX7 235 "RhymeRoofs$Game" "handSize" "[I") (by decide +kernel)
  have iX1 : ∀ w ∈ wsX10, w ∈ wsX7_checkPlace := fun _ h => List.mem_cons_of_mem _ (List.mem_append_left _ (List.mem_append_right _ h))
  intro H locs ls hP hD hS hl
  unfold f_X7_checkPlace at hf
  refine lv_iload_n S.1 S.2.1 dX7_checkPlace_0 rfl (lv_at hl 2 rfl) ?_
  refine lv_if_lt (tgt := 17) S.1 S.2.1 dX7_checkPlace_1 (by decide) (fun h_1 => ?_) (fun h_1 => ?_)
  · have hf := hf.1 h_1
    exact R_thrW (names := ["java/lang/RuntimeException", "java/lang/Exception"]) (k := 0) hQm hl9 S hK hX hT hlk ht 1 (by decide) "no such place of the hand" (by decide +kernel) (by decide +kernel) (by decide +kernel) (by decide +kernel) (by decide +kernel) (fun _ h => List.mem_cons_of_mem _ (List.mem_append_right _ h)) (by decide +kernel) (by decide +kernel) hf hP hD hS hl.1 dX7_checkPlace_17 dX7_checkPlace_20 dX7_checkPlace_21 dX7_checkPlace_24 dX7_checkPlace_27 (Nat.le_of_ble_eq_true rfl) (Nat.le_of_ble_eq_true rfl) ⟨Nat.le_of_ble_eq_true rfl, Nat.le_of_ble_eq_true rfl⟩ (Nat.le_of_ble_eq_true rfl)
  · have hf := hf.2 h_1
    refine lv_iload_n S.1 S.2.1 dX7_checkPlace_4 rfl (lv_at hl 2 rfl) ?_
    refine lv_aload_n S.1 S.2.1 dX7_checkPlace_5 rfl (lv_at hl 0 rfl) ?_
    refine gfX7_3 S iX7 hK hP (h11 0 (by decide)) k1 dX7_checkPlace_6 ?_
    refine gfX1_7 S iX1 hK hP (by decide) ((fun r => hG 0 r (by decide)) 0 (by decide)) k2 dX7_checkPlace_9 ?_
    refine lv_iload_n S.1 S.2.1 dX7_checkPlace_12 rfl (lv_at hl 1 rfl) ?_
    obtain ⟨h_2, hf⟩ := hf
    refine R_iald S.1 S.2.1 hK hP ((fun r => hG 0 r (by decide)) 13 (by decide)) (IAg13 E (by decide)) h_2 dX7_checkPlace_13 ?_
    refine lv_icmp_lt (tgt := 28) S.1 S.2.1 dX7_checkPlace_14 (by decide) (fun h_3 => ?_) (fun h_3 => ?_)
    · have hf := hf.1 h_3
      exact hret hf hP hD hS dX7_checkPlace_28 (Nat.le_of_ble_eq_true rfl)
    · have hf := hf.2 h_3
      exact R_thrW (names := ["java/lang/RuntimeException", "java/lang/Exception"]) (k := 0) hQm hl9 S hK hX hT hlk ht 1 (by decide) "no such place of the hand" (by decide +kernel) (by decide +kernel) (by decide +kernel) (by decide +kernel) (by decide +kernel) (fun _ h => List.mem_cons_of_mem _ (List.mem_append_right _ h)) (by decide +kernel) (by decide +kernel) hf hP hD hS hl.1 dX7_checkPlace_17 dX7_checkPlace_20 dX7_checkPlace_21 dX7_checkPlace_24 dX7_checkPlace_27 (Nat.le_of_ble_eq_true rfl) (Nat.le_of_ble_eq_true rfl) ⟨Nat.le_of_ble_eq_true rfl, Nat.le_of_ble_eq_true rfl⟩ (Nat.le_of_ble_eq_true rfl)
abbrev rmX7_load : Room := { frames := 21, cells := 4, slots := 24, locals := 499 }
theorem yk_X7_load : yOk yX7_load RX7 1 := by unfold yOk; decide +kernel
def f_X7_load (x1 : Int32) (I : MI) (J : MJ) (Q : Int32 → MI → MJ → Prop) (X : Nat → MI → MJ → Prop) : Prop :=
  ((x1 < (0 : Int32) → X 0 I J) ∧ (¬ x1 < (0 : Int32) → ((x1 ≤ (I 11 0 1) → f_X5_read x1 I J (fun (v_5 : Int32) (I_3 : MI) (J_4 : MJ) => ∀ I_6 : MI, I_6 = sI I_3 11 0 1 (0 : Int32) → ∀ I_7 : MI, I_7 = sI I_6 11 0 2 (I_6 11 4 1) → ((v_5 = (0 : Int32) → f_X2_keep 0 I_7 J_4 (fun (I_9 : MI) (J_10 : MJ) => f_X1_copyFrom 0 10 I_9 J_10 (fun (I_11 : MI) (J_12 : MJ) => f_X1_wordsOfHands 0 I_11 J_12 (fun (v_15 : Int32) (I_13 : MI) (J_14 : MJ) => Q v_15 I_13 J_14)))) ∧ (¬ v_5 = (0 : Int32) → Q v_5 I_7 J_4)))) ∧ (¬ x1 ≤ (I 11 0 1) → X 0 I J))))
set_option maxRecDepth 100000 in
set_option maxHeartbeats 4000000 in
theorem c_X7_load {l : Launch} {E : EV} {ps : List (Nat × Nat)} (hl9 : l.stackTraces = false) (h11 : ∀ r, r < 11 → (11, r) ∈ ps) (hG : ∀ k r, k < 11 → r < 16 → (k, r) ∈ ps) (hR : (eT E)[2]? = some (eG E, .object "RhymeRoofs$Game")) {x1 : Int32} {I : MI} {J : MJ} {Q : Int32 → MI → MJ → Prop} {X : Nat → MI → MJ → Prop} (hf : f_X7_load x1 I J Q X) : YI l yX7_load wsX7_load rmX7_load E ps [.ref (eA E 11 0), .int x1] I J Q X 4 24 := by
  refine Y_ofI (cc := cX7_load) (maxL := 3) (mc := 4) (ty := .int) (by decide +kernel) rfl (Nat.le_of_ble_eq_true rfl) (fun p e s m args below meth c Qm hQm hret hlk ht S hK hX hT => ?_)
  have hA : ∀ q, s.heap.size ≤ q → AA E ps s.heap.size q := fun _ h => Or.inr h
  have k1 := S.2.2.2.2 (.fieldLink RX7 13 "RhymeRoofs" "bufferLength" "I") (by decide +kernel)
  have iX7 : ∀ w ∈ wsX70, w ∈ wsX7_load := fun _ h => List.mem_cons_of_mem _ (List.mem_append_left _ (List.mem_append_left _ (List.mem_append_left _ (List.mem_append_left _ (List.mem_append_left _ (List.mem_append_left _ (List.mem_append_right _ h)))))))
  have k2 := S.2.2.2.2 (.fieldLink RX7 40 "RhymeRoofs" "reader" "LRhymeRoofs$SetupReader;") (by decide +kernel)
  have k3 := S.2.2.2.2 (.fieldLink RX7 9 "RhymeRoofs" "buffer" "[I") (by decide +kernel)
  have k4 := S.2.2.2.2 (.fieldLink RX7 66 "RhymeRoofs$SetupReader" "errorAt" "I") (by decide +kernel)
  have iX5 : ∀ w ∈ wsX50, w ∈ wsX7_load := fun _ h => List.mem_cons_of_mem _ (List.mem_append_left _ (List.mem_append_left _ (List.mem_append_left _ (List.mem_append_left _ (List.mem_append_left _ (List.mem_append_right _ h))))))
  have k5 := S.2.2.2.2 (.fieldLink RX7 17 "RhymeRoofs" "offsetOfError" "I") (by decide +kernel)
  have k6 := S.2.2.2.2 (.fieldLink RX7 33 "RhymeRoofs" "history" "LRhymeRoofs$History;") (by decide +kernel)
  have k7 := S.2.2.2.2 (.fieldLink RX7 23 "RhymeRoofs" "game" "LRhymeRoofs$Game;") (by decide +kernel)
  have k8 := S.2.2.2.2 (.fieldLink RX7 73 "RhymeRoofs$SetupReader" "game" "LRhymeRoofs$Game;") (by decide +kernel)
  intro H locs ls hP hD hS hl
  unfold f_X7_load at hf
  refine lv_iload_n S.1 S.2.1 dX7_load_0 rfl (lv_at hl 1 rfl) ?_
  refine lv_if_lt (tgt := 12) S.1 S.2.1 dX7_load_1 (by decide) (fun h_1 => ?_) (fun h_1 => ?_)
  · have hf := hf.1 h_1
    exact R_thr (names := ["java/lang/RuntimeException", "java/lang/Exception"]) (k := 0) hQm hl9 S hK hX hT hlk ht 0 (by decide) "the buffer has not so many bytes" (by decide +kernel) (by decide +kernel) (by decide +kernel) (by decide +kernel) (by decide +kernel) (fun _ h => List.mem_cons_of_mem _ (List.mem_append_right _ h)) (by decide +kernel) (by decide +kernel) hf hP hD hS hl.1 dX7_load_12 dX7_load_15 dX7_load_16 dX7_load_18 dX7_load_21 (Nat.le_of_ble_eq_true rfl) (Nat.le_of_ble_eq_true rfl) ⟨Nat.le_of_ble_eq_true rfl, Nat.le_of_ble_eq_true rfl⟩ (Nat.le_of_ble_eq_true rfl)
  · have hf := hf.2 h_1
    refine lv_iload_n S.1 S.2.1 dX7_load_4 rfl (lv_at hl 1 rfl) ?_
    refine lv_aload_n S.1 S.2.1 dX7_load_5 rfl (lv_at hl 0 rfl) ?_
    refine gfX7_1 S iX7 hK hP (h11 0 (by decide)) k1 dX7_load_6 ?_
    refine lv_icmp_le (tgt := 22) S.1 S.2.1 dX7_load_9 (by decide) (fun h_2 => ?_) (fun h_2 => ?_)
    · have hf := hf.1 h_2
      refine lv_aload_n S.1 S.2.1 dX7_load_22 rfl (lv_at hl 0 rfl) ?_
      refine gfX7_6 S iX7 hK hP (h11 0 (by decide)) k2 dX7_load_23 ?_
      refine lv_aload_n S.1 S.2.1 dX7_load_26 rfl (lv_at hl 0 rfl) ?_
      refine gfX7_0 S iX7 hK hP (h11 0 (by decide)) k3 dX7_load_27 ?_
      refine lv_iload_n S.1 S.2.1 dX7_load_30 rfl (lv_at hl 1 rfl) ?_
      refine R_cVi (As := [.ref (eA E 11 1), .int x1]) (rest := []) S (c_X5_read (h11 := h11) (hG := hG)  hf) gX7_load_X5_read rfl yk_X5_read ⟨⟨Nat.le_of_ble_eq_true rfl, Nat.le_of_ble_eq_true rfl⟩, rfl, rfl⟩ hK hP hD hS hX hA (h11 4 (by decide)) (cF_o E _ _ 4) rfl rfl hl.1 rfl (Nat.le_of_ble_eq_true rfl) ⟨Nat.le_of_ble_eq_true rfl, Nat.le_of_ble_eq_true rfl⟩ dX7_load_31 (fun v_5 I_3 J_4 H locs hf hP hD hS => ?_)
      refine lv_istore_n (lv' := [(2, .int v_5), (0, .ref (eA E 11 0)), (1, .int x1)]) S.1 S.2.1 dX7_load_34 rfl hl (by decide) rfl (fun ls hl => ?_)
      refine lv_aload_n S.1 S.2.1 dX7_load_35 rfl (lv_at hl 1 rfl) ?_
      refine lv_iconst (v := 0) S.1 S.2.1 dX7_load_36 rfl ?_
      refine nm_o hf (fun I_6 eI_6 hf => ?_)
      refine pfX7_1 S iX7 hK hP hD hS (h11 0 (by decide)) k1 dX7_load_37 eI_6 (fun H locs hP hD hS => ?_)
      refine lv_aload_n S.1 S.2.1 dX7_load_40 rfl (lv_at hl 1 rfl) ?_
      refine lv_aload_n S.1 S.2.1 dX7_load_41 rfl (lv_at hl 1 rfl) ?_
      refine gfX7_6 S iX7 hK hP (h11 0 (by decide)) k2 dX7_load_42 ?_
      refine gfX5_1 S iX5 hK hP (h11 4 (by decide)) k4 dX7_load_45 ?_
      refine nm_o hf (fun I_7 eI_7 hf => ?_)
      refine pfX7_2 S iX7 hK hP hD hS (h11 0 (by decide)) k5 dX7_load_48 eI_7 (fun H locs hP hD hS => ?_)
      refine lv_iload_n S.1 S.2.1 dX7_load_51 rfl (lv_at hl 0 rfl) ?_
      refine lv_if_eq (tgt := 57) S.1 S.2.1 dX7_load_52 (by decide) (fun h_8 => ?_) (fun h_8 => ?_)
      · have hf := hf.1 h_8
        refine lv_aload_n S.1 S.2.1 dX7_load_57 rfl (lv_at hl 1 rfl) ?_
        refine gfX7_5 S iX7 hK hP (h11 0 (by decide)) k6 dX7_load_58 ?_
        refine lv_aload_n S.1 S.2.1 dX7_load_61 rfl (lv_at hl 1 rfl) ?_
        refine gfX7_3 S iX7 hK hP (h11 0 (by decide)) k7 dX7_load_62 ?_
        refine R_cVv (As := [.ref (eA E 0 0)]) (rest := []) S (c_X2_keep (h11 := h11) (hG := hG) (hR := hR) (hBg := (by decide)) (hMg := (fun r => hG 0 r (by decide))) hf) gX7_load_X2_keep rfl yk_X2_keep ⟨⟨Nat.le_of_ble_eq_true rfl, Nat.le_of_ble_eq_true rfl⟩, rfl, rfl⟩ hK hP hD hS hX hA (h11 2 (by decide)) (cF_o E _ _ 2) rfl rfl hl.1 rfl (Nat.le_of_ble_eq_true rfl) ⟨Nat.le_of_ble_eq_true rfl, Nat.le_of_ble_eq_true rfl⟩ dX7_load_65 (fun I_9 J_10 H locs hf hP hD hS => ?_)
        refine lv_aload_n S.1 S.2.1 dX7_load_68 rfl (lv_at hl 1 rfl) ?_
        refine gfX7_3 S iX7 hK hP (h11 0 (by decide)) k7 dX7_load_69 ?_
        refine lv_aload_n S.1 S.2.1 dX7_load_72 rfl (lv_at hl 1 rfl) ?_
        refine gfX7_6 S iX7 hK hP (h11 0 (by decide)) k2 dX7_load_73 ?_
        refine gfX5_0 S iX5 hK hP (h11 4 (by decide)) k8 dX7_load_76 ?_
        refine R_cVv (As := [.ref (eA E 10 0)]) (rest := []) S (c_X1_copyFrom (hB := (by decide)) (hM := (fun r => hG 0 r (by decide))) (hBg := (by decide)) (hMg := (fun r => hG 10 r (by decide))) hf) gX7_load_X1_copyFrom rfl yk_X1_copyFrom ⟨⟨Nat.le_of_ble_eq_true rfl, Nat.le_of_ble_eq_true rfl⟩, rfl, rfl⟩ hK hP hD hS hX hA ((fun r => hG 0 r (by decide)) 0 (by decide)) (cF_g E (by decide) _ _ 0) rfl rfl hl.1 rfl (Nat.le_of_ble_eq_true rfl) ⟨Nat.le_of_ble_eq_true rfl, Nat.le_of_ble_eq_true rfl⟩ dX7_load_79 (fun I_11 J_12 H locs hf hP hD hS => ?_)
        refine lv_aload_n S.1 S.2.1 dX7_load_82 rfl (lv_at hl 1 rfl) ?_
        refine gfX7_3 S iX7 hK hP (h11 0 (by decide)) k7 dX7_load_83 ?_
        refine R_cVi (As := []) (rest := []) S (c_X1_wordsOfHands (hB := (by decide)) (hM := (fun r => hG 0 r (by decide)))  hf) gX7_load_X1_wordsOfHands rfl yk_X1_wordsOfHands ⟨⟨Nat.le_of_ble_eq_true rfl, Nat.le_of_ble_eq_true rfl⟩, rfl, rfl⟩ hK hP hD hS hX hA ((fun r => hG 0 r (by decide)) 0 (by decide)) (cF_g E (by decide) _ _ 0) rfl rfl hl.1 rfl (Nat.le_of_ble_eq_true rfl) ⟨Nat.le_of_ble_eq_true rfl, Nat.le_of_ble_eq_true rfl⟩ dX7_load_86 (fun v_15 I_13 J_14 H locs hf hP hD hS => ?_)
        exact hret hf rfl hP hD hS dX7_load_89 (Nat.le_of_ble_eq_true rfl)
      · have hf := hf.2 h_8
        refine lv_iload_n S.1 S.2.1 dX7_load_55 rfl (lv_at hl 0 rfl) ?_
        exact hret hf rfl hP hD hS dX7_load_56 (Nat.le_of_ble_eq_true rfl)
    · have hf := hf.2 h_2
      exact R_thr (names := ["java/lang/RuntimeException", "java/lang/Exception"]) (k := 0) hQm hl9 S hK hX hT hlk ht 0 (by decide) "the buffer has not so many bytes" (by decide +kernel) (by decide +kernel) (by decide +kernel) (by decide +kernel) (by decide +kernel) (fun _ h => List.mem_cons_of_mem _ (List.mem_append_right _ h)) (by decide +kernel) (by decide +kernel) hf hP hD hS hl.1 dX7_load_12 dX7_load_15 dX7_load_16 dX7_load_18 dX7_load_21 (Nat.le_of_ble_eq_true rfl) (Nat.le_of_ble_eq_true rfl) ⟨Nat.le_of_ble_eq_true rfl, Nat.le_of_ble_eq_true rfl⟩ (Nat.le_of_ble_eq_true rfl)
abbrev rmX7_state : Room := { frames := 6, cells := 4, slots := 24, locals := 118 }
theorem yk_X7_state : yOk yX7_state RX7 1 := by unfold yOk; decide +kernel
def f_X7_state (x1 : Int32) (I : MI) (J : MJ) (Q : Int32 → MI → MJ → Prop) (X : Nat → MI → MJ → Prop) : Prop :=
  ((x1 < (0 : Int32) → X 0 I J) ∧ (¬ x1 < (0 : Int32) → ((x1 < (12 : Int32) → f_X1_stateNumber 0 x1 I J (fun (v_5 : Int32) (I_3 : MI) (J_4 : MJ) => Q v_5 I_3 J_4)) ∧ (¬ x1 < (12 : Int32) → X 0 I J))))
set_option maxRecDepth 100000 in
set_option maxHeartbeats 4000000 in
theorem c_X7_state {l : Launch} {E : EV} {ps : List (Nat × Nat)} (hl9 : l.stackTraces = false) (h11 : ∀ r, r < 11 → (11, r) ∈ ps) (hG : ∀ k r, k < 11 → r < 16 → (k, r) ∈ ps) (hR : (eT E)[2]? = some (eG E, .object "RhymeRoofs$Game")) {x1 : Int32} {I : MI} {J : MJ} {Q : Int32 → MI → MJ → Prop} {X : Nat → MI → MJ → Prop} (hf : f_X7_state x1 I J Q X) : YI l yX7_state wsX7_state rmX7_state E ps [.ref (eA E 11 0), .int x1] I J Q X 4 24 := by
  refine Y_ofI (cc := cX7_state) (maxL := 2) (mc := 4) (ty := .int) (by decide +kernel) rfl (Nat.le_of_ble_eq_true rfl) (fun p e s m args below meth c Qm hQm hret hlk ht S hK hX hT => ?_)
  have hA : ∀ q, s.heap.size ≤ q → AA E ps s.heap.size q := fun _ h => Or.inr h
  have k1 := S.2.2.2.2 (.fieldLink RX7 23 "RhymeRoofs" "game" "LRhymeRoofs$Game;") (by decide +kernel)
  have iX7 : ∀ w ∈ wsX70, w ∈ wsX7_state := fun _ h => List.mem_cons_of_mem _ (List.mem_append_left _ (List.mem_append_left _ (List.mem_append_left _ (List.mem_append_right _ h))))
  intro H locs ls hP hD hS hl
  unfold f_X7_state at hf
  refine lv_iload_n S.1 S.2.1 dX7_state_0 rfl (lv_at hl 1 rfl) ?_
  refine lv_if_lt (tgt := 10) S.1 S.2.1 dX7_state_1 (by decide) (fun h_1 => ?_) (fun h_1 => ?_)
  · have hf := hf.1 h_1
    exact R_thr (names := ["java/lang/RuntimeException", "java/lang/Exception"]) (k := 0) hQm hl9 S hK hX hT hlk ht 0 (by decide) "no such number of the state" (by decide +kernel) (by decide +kernel) (by decide +kernel) (by decide +kernel) (by decide +kernel) (fun _ h => List.mem_cons_of_mem _ (List.mem_append_right _ h)) (by decide +kernel) (by decide +kernel) hf hP hD hS hl.1 dX7_state_10 dX7_state_13 dX7_state_14 dX7_state_16 dX7_state_19 (Nat.le_of_ble_eq_true rfl) (Nat.le_of_ble_eq_true rfl) ⟨Nat.le_of_ble_eq_true rfl, Nat.le_of_ble_eq_true rfl⟩ (Nat.le_of_ble_eq_true rfl)
  · have hf := hf.2 h_1
    refine lv_iload_n S.1 S.2.1 dX7_state_4 rfl (lv_at hl 1 rfl) ?_
    refine lv_bipush (v := 12) S.1 S.2.1 dX7_state_5 rfl ?_
    refine lv_icmp_lt (tgt := 20) S.1 S.2.1 dX7_state_7 (by decide) (fun h_2 => ?_) (fun h_2 => ?_)
    · have hf := hf.1 h_2
      refine lv_aload_n S.1 S.2.1 dX7_state_20 rfl (lv_at hl 0 rfl) ?_
      refine gfX7_3 S iX7 hK hP (h11 0 (by decide)) k1 dX7_state_21 ?_
      refine lv_iload_n S.1 S.2.1 dX7_state_24 rfl (lv_at hl 1 rfl) ?_
      refine R_cVi (As := [.int x1]) (rest := []) S (c_X1_stateNumber (hB := (by decide)) (hM := (fun r => hG 0 r (by decide)))  hf) gX7_state_X1_stateNumber rfl yk_X1_stateNumber ⟨⟨Nat.le_of_ble_eq_true rfl, Nat.le_of_ble_eq_true rfl⟩, rfl, rfl⟩ hK hP hD hS hX hA ((fun r => hG 0 r (by decide)) 0 (by decide)) (cF_g E (by decide) _ _ 0) rfl rfl hl.1 rfl (Nat.le_of_ble_eq_true rfl) ⟨Nat.le_of_ble_eq_true rfl, Nat.le_of_ble_eq_true rfl⟩ dX7_state_25 (fun v_5 I_3 J_4 H locs hf hP hD hS => ?_)
      exact hret hf rfl hP hD hS dX7_state_28 (Nat.le_of_ble_eq_true rfl)
    · have hf := hf.2 h_2
      exact R_thr (names := ["java/lang/RuntimeException", "java/lang/Exception"]) (k := 0) hQm hl9 S hK hX hT hlk ht 0 (by decide) "no such number of the state" (by decide +kernel) (by decide +kernel) (by decide +kernel) (by decide +kernel) (by decide +kernel) (fun _ h => List.mem_cons_of_mem _ (List.mem_append_right _ h)) (by decide +kernel) (by decide +kernel) hf hP hD hS hl.1 dX7_state_10 dX7_state_13 dX7_state_14 dX7_state_16 dX7_state_19 (Nat.le_of_ble_eq_true rfl) (Nat.le_of_ble_eq_true rfl) ⟨Nat.le_of_ble_eq_true rfl, Nat.le_of_ble_eq_true rfl⟩ (Nat.le_of_ble_eq_true rfl)
