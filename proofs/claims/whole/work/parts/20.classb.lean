abbrev rmX3_result : Room := { frames := 0, cells := 0, slots := 0, locals := 0 }
theorem yk_X3_result : yOk yX3_result RX3 3 := by unfold yOk; decide +kernel
def f_X3_result_J71 (Q : Int32 → MI → MJ → Prop) (x5_3 : Int64) (I_4 : MI) (J_5 : MJ) : Prop :=
  (((1000000 : Int64) < x5_3 → Q ((1000000 : Int64).toInt32) I_4 J_5) ∧ (¬ (1000000 : Int64) < x5_3 → ((x5_3 < (-1000000 : Int64) → Q ((-1000000 : Int64).toInt32) I_4 J_5) ∧ (¬ x5_3 < (-1000000 : Int64) → Q (x5_3.toInt32) I_4 J_5))))
def f_X3_result_J69 (Q : Int32 → MI → MJ → Prop) (s_12 : Int64) (I_13 : MI) (J_14 : MJ) : Prop :=
  f_X3_result_J71 Q s_12 I_13 J_14
def f_X3_result (x0 : Int32) (x1 : Int64) (x3 : Int64) (I : MI) (J : MJ) (Q : Int32 → MI → MJ → Prop) : Prop :=
  ((x0 = (-9 : Int32) → ∀ x5_2 : Int64, x5_2 = (x1 * x3) → f_X3_result_J71 Q x5_2 I J) ∧ (¬ x0 = (-9 : Int32) → ((x0 = (-8 : Int32) → ∀ x5_8 : Int64, x5_8 = (x1 - x3) → f_X3_result_J71 Q x5_8 I J) ∧ (¬ x0 = (-8 : Int32) → ((x0 = (-7 : Int32) → ∀ x5_9 : Int64, x5_9 = (x1 + x3) → f_X3_result_J71 Q x5_9 I J) ∧ (¬ x0 = (-7 : Int32) → ((x3 = (0 : Int64) → f_X3_result_J69 Q (0 : Int64) I J) ∧ (¬ x3 = (0 : Int64) → (¬ x3 = 0 ∧ f_X3_result_J69 Q (x1 / x3) I J)))))))))
set_option maxRecDepth 100000 in
set_option maxHeartbeats 4000000 in
theorem c_X3_result {l : Launch} {E : EV} {ps : List (Nat × Nat)}  {x0 : Int32} {x1 : Int64} {x3 : Int64} {I : MI} {J : MJ} {Q : Int32 → MI → MJ → Prop} (hf : f_X3_result x0 x1 x3 I J Q) : KI l yX3_result wsX3_result rmX3_result E ps [.int x0, .long x1, .long x3] I J Q := by
  refine K_ofI (cc := cX3_result) (maxL := 7) (ty := .int) (by decide +kernel) rfl (Nat.le_of_ble_eq_true rfl) (fun p e s m args below meth c Qm hret S hK hX => ?_)
  have hA : ∀ q, s.heap.size ≤ q → AA E ps s.heap.size q := fun _ h => Or.inr h
  have k1 := S.2.2.2.2 (.constantLong RX3 40 (1000000)) (by decide +kernel)
  have k2 := S.2.2.2.2 (.constantLong RX3 42 (-1000000)) (by decide +kernel)
  have jn71 : ∀ (x5_3 : Int64) (I_4 : MI) (J_5 : MJ), f_X3_result_J71 Q x5_3 I_4 J_5 → Wj p l e (rmX3_result) s m args below meth c Qm E ps 7 I_4 J_5 71 [(5, .long x5_3)] [] := by
    intro x5_3 I_4 J_5 hf H locs ls hP hD hS hl
    unfold f_X3_result_J71 at hf
    refine lv_lload S.1 S.2.1 dX3_result_71 (lv_at hl 0 rfl) ?_
    refine lv_ldc2 (v := 1000000) S.1 S.2.1 S.2.2.2.1 k1 dX3_result_73 ?_
    refine W.lcmp S.1 S.2.1 dX3_result_76 ?_
    refine lv_if_le (tgt := 86) S.1 S.2.1 dX3_result_77 (by decide) (fun h_6 => ?_) (fun h_6 => ?_)
    · have hf := hf.2 ((lg_lt0 _ _).mp h_6)
      refine lv_lload S.1 S.2.1 dX3_result_86 (lv_at hl 0 rfl) ?_
      refine lv_ldc2 (v := (-1000000)) S.1 S.2.1 S.2.2.2.1 k2 dX3_result_88 ?_
      refine W.lcmp S.1 S.2.1 dX3_result_91 ?_
      refine lv_if_ge (tgt := 101) S.1 S.2.1 dX3_result_92 (by decide) (fun h_7 => ?_) (fun h_7 => ?_)
      · have hf := hf.2 ((lg_ge0 _ _).mp h_7)
        refine lv_lload S.1 S.2.1 dX3_result_101 (lv_at hl 0 rfl) ?_
        refine lv_l2i S.1 S.2.1 dX3_result_103 rfl ?_
        exact hret hf rfl hP hD hS dX3_result_104
      · have hf := hf.1 (Classical.byContradiction (fun q => h_7 ((lg_ge0 _ _).mpr q)))
        refine lv_ldc2 (v := (-1000000)) S.1 S.2.1 S.2.2.2.1 k2 dX3_result_95 ?_
        refine lv_goto (tgt := 103) S.1 S.2.1 dX3_result_98 (by decide) ?_
        refine lv_l2i S.1 S.2.1 dX3_result_103 rfl ?_
        exact hret hf rfl hP hD hS dX3_result_104
    · have hf := hf.1 (Classical.byContradiction (fun q => h_6 ((lg_lt0 _ _).mpr q)))
      refine lv_ldc2 (v := 1000000) S.1 S.2.1 S.2.2.2.1 k1 dX3_result_80 ?_
      refine lv_goto (tgt := 103) S.1 S.2.1 dX3_result_83 (by decide) ?_
      refine lv_l2i S.1 S.2.1 dX3_result_103 rfl ?_
      exact hret hf rfl hP hD hS dX3_result_104
  have jn69 : ∀ (s_12 : Int64) (I_13 : MI) (J_14 : MJ), f_X3_result_J69 Q s_12 I_13 J_14 → Wj p l e (rmX3_result) s m args below meth c Qm E ps 7 I_13 J_14 69 [] [.long s_12] := by
    intro s_12 I_13 J_14 hf H locs ls hP hD hS hl
    unfold f_X3_result_J69 at hf
    refine lv_lstore (lv' := [(5, .long s_12)]) S.1 S.2.1 dX3_result_69 hl (by decide) rfl (fun ls hl => ?_)
    exact jn71 _ _ _ hf _ _ _ hP hD hS (lv_sub hl [0] rfl)
  intro H locs ls hP hD hS hl
  unfold f_X3_result at hf
  refine lv_lconst (v := 0) S.1 S.2.1 dX3_result_0 rfl ?_
  refine lv_lstore (lv' := [(5, .long (0 : Int64)), (0, .int x0), (1, .long x1), (3, .long x3)]) S.1 S.2.1 dX3_result_1 hl (by decide) rfl (fun ls hl => ?_)
  refine lv_iload_n S.1 S.2.1 dX3_result_3 rfl (lv_at hl 1 rfl) ?_
  refine Classical.byCases (p := x0 = (-9 : Int32)) (fun h_1 => ?_) (fun h_1_0 => ?_)
  · have hf := hf.1 h_1
    refine R_swIn (tgt := 48) (off := 44) S.1 S.2.1 dX3_result_4 h_1 (by decide) (by decide) ?_
    refine lv_lload_n S.1 S.2.1 dX3_result_48 rfl (lv_at hl 2 rfl) ?_
    refine lv_lload_n S.1 S.2.1 dX3_result_49 rfl (lv_at hl 3 rfl) ?_
    refine lv_lmul S.1 S.2.1 dX3_result_50 ?_
    refine lv_topl (fun x5_2 ex5_2 => ?_)
    have hf := hf x5_2 ex5_2
    refine lv_lstore (lv' := [(5, .long x5_2), (0, .int x0), (1, .long x1), (3, .long x3)]) S.1 S.2.1 dX3_result_51 hl (by decide) rfl (fun ls hl => ?_)
    refine lv_goto (tgt := 71) S.1 S.2.1 dX3_result_53 (by decide) ?_
    exact jn71 _ _ _ hf _ _ _ hP hD hS (lv_sub hl [0] rfl)
  have hf := hf.2 h_1_0
  refine Classical.byCases (p := x0 = (-8 : Int32)) (fun h_1 => ?_) (fun h_1_1 => ?_)
  · have hf := hf.1 h_1
    refine R_swIn (tgt := 40) (off := 36) S.1 S.2.1 dX3_result_4 h_1 (by decide) (by decide) ?_
    refine lv_lload_n S.1 S.2.1 dX3_result_40 rfl (lv_at hl 2 rfl) ?_
    refine lv_lload_n S.1 S.2.1 dX3_result_41 rfl (lv_at hl 3 rfl) ?_
    refine lv_lsub S.1 S.2.1 dX3_result_42 ?_
    refine lv_topl (fun x5_8 ex5_8 => ?_)
    have hf := hf x5_8 ex5_8
    refine lv_lstore (lv' := [(5, .long x5_8), (0, .int x0), (1, .long x1), (3, .long x3)]) S.1 S.2.1 dX3_result_43 hl (by decide) rfl (fun ls hl => ?_)
    refine lv_goto (tgt := 71) S.1 S.2.1 dX3_result_45 (by decide) ?_
    exact jn71 _ _ _ hf _ _ _ hP hD hS (lv_sub hl [0] rfl)
  have hf := hf.2 h_1_1
  refine Classical.byCases (p := x0 = (-7 : Int32)) (fun h_1 => ?_) (fun h_1_2 => ?_)
  · have hf := hf.1 h_1
    refine R_swIn (tgt := 32) (off := 28) S.1 S.2.1 dX3_result_4 h_1 (by decide) (by decide) ?_
    refine lv_lload_n S.1 S.2.1 dX3_result_32 rfl (lv_at hl 2 rfl) ?_
    refine lv_lload_n S.1 S.2.1 dX3_result_33 rfl (lv_at hl 3 rfl) ?_
    refine lv_ladd S.1 S.2.1 dX3_result_34 ?_
    refine lv_topl (fun x5_9 ex5_9 => ?_)
    have hf := hf x5_9 ex5_9
    refine lv_lstore (lv' := [(5, .long x5_9), (0, .int x0), (1, .long x1), (3, .long x3)]) S.1 S.2.1 dX3_result_35 hl (by decide) rfl (fun ls hl => ?_)
    refine lv_goto (tgt := 71) S.1 S.2.1 dX3_result_37 (by decide) ?_
    exact jn71 _ _ _ hf _ _ _ hP hD hS (lv_sub hl [0] rfl)
  have hf := hf.2 h_1_2
  refine lv_tableOut (tgt := 56) S.1 S.2.1 dX3_result_4 (by have q0 := ne_I (z := -9) h_1_0 (by decide); have q1 := ne_I (z := -8) h_1_1 (by decide); have q2 := ne_I (z := -7) h_1_2 (by decide); omega) (by decide) ?_
  refine lv_lload_n S.1 S.2.1 dX3_result_56 rfl (lv_at hl 3 rfl) ?_
  refine lv_lconst (v := 0) S.1 S.2.1 dX3_result_57 rfl ?_
  refine W.lcmp S.1 S.2.1 dX3_result_58 ?_
  refine lv_if_ne (tgt := 66) S.1 S.2.1 dX3_result_59 (by decide) (fun h_10 => ?_) (fun h_10 => ?_)
  · have hf := hf.2 (fun q => h_10 ((lg_eq0 _ _).mpr q))
    refine lv_lload_n S.1 S.2.1 dX3_result_66 rfl (lv_at hl 2 rfl) ?_
    refine lv_lload_n S.1 S.2.1 dX3_result_67 rfl (lv_at hl 3 rfl) ?_
    obtain ⟨h_11, hf⟩ := hf
    refine lv_ldiv S.1 S.2.1 dX3_result_68 h_11 ?_
    exact jn69 _ _ _ hf _ _ _ hP hD hS (lv_sub hl [] rfl)
  · have hf := hf.1 ((lg_eq0 _ _).mp h_10)
    refine lv_lconst (v := 0) S.1 S.2.1 dX3_result_62 rfl ?_
    refine lv_goto (tgt := 69) S.1 S.2.1 dX3_result_63 (by decide) ?_
    exact jn69 _ _ _ hf _ _ _ hP hD hS (lv_sub hl [] rfl)
abbrev rmX4_copyFrom : Room := { frames := 2, cells := 0, slots := 0, locals := 85 }
theorem yk_X4_copyFrom : yOk yX4_copyFrom RX4 1 := by unfold yOk; decide +kernel
def f_X4_copyFrom (b : Nat) (g : Nat) (I : MI) (J : MJ) (Q : MI → MJ → Prop) : Prop :=
  ((¬ (0 : Int32) < 0 ∧ ¬ (0 : Int32) < 0 ∧ ¬ (6 : Int32) < 0 ∧ (0 : Int32).toNatClampNeg + (6 : Int32).toNatClampNeg ≤ 6 ∧ (0 : Int32).toNatClampNeg + (6 : Int32).toNatClampNeg ≤ 6) ∧ ∀ I_2 : MI, I_2 = rI I b 3 (va_cpy (I g 3) (I b 3) (0 : Int32).toNatClampNeg (0 : Int32).toNatClampNeg (6 : Int32).toNatClampNeg) → ((¬ (0 : Int32) < 0 ∧ ¬ (0 : Int32) < 0 ∧ ¬ (32 : Int32) < 0 ∧ (0 : Int32).toNatClampNeg + (32 : Int32).toNatClampNeg ≤ 32 ∧ (0 : Int32).toNatClampNeg + (32 : Int32).toNatClampNeg ≤ 32) ∧ ∀ I_4 : MI, I_4 = rI I_2 b 4 (va_cpy (I_2 g 4) (I_2 b 4) (0 : Int32).toNatClampNeg (0 : Int32).toNatClampNeg (32 : Int32).toNatClampNeg) → f_X3_copyFrom b g I_4 J (fun (I_5 : MI) (J_6 : MJ) => ∀ I_7 : MI, I_7 = sI I_5 b 1 3 (I_5 g 1 3) → ∀ I_8 : MI, I_8 = sI I_7 b 1 4 (I_7 g 1 4) → ∀ I_9 : MI, I_9 = sI I_8 b 1 5 (I_8 g 1 5) → ∀ I_10 : MI, I_10 = sI I_9 b 1 6 (I_9 g 1 6) → ∀ I_11 : MI, I_11 = sI I_10 b 1 7 (I_10 g 1 7) → Q I_11 J_6)))
set_option maxRecDepth 100000 in
set_option maxHeartbeats 4000000 in
theorem c_X4_copyFrom {l : Launch} {E : EV} {ps : List (Nat × Nat)} {b : Nat} (hB : b < 11) (hM : ∀ r, r < 16 → (b, r) ∈ ps) {g : Nat} (hBg : g < 11) (hMg : ∀ r, r < 16 → (g, r) ∈ ps) {I : MI} {J : MJ} {Q : MI → MJ → Prop} (hf : f_X4_copyFrom b g I J Q) : KV l yX4_copyFrom wsX4_copyFrom rmX4_copyFrom E ps [.ref (eA E b 1), .ref (eA E g 1)] I J Q := by
  refine K_ofV (cc := cX4_copyFrom) (maxL := 2) (by decide +kernel) rfl (Nat.le_of_ble_eq_true rfl) (fun p e s m args below meth c Qm hret S hK hX => ?_)
  have hA : ∀ q, s.heap.size ≤ q → AA E ps s.heap.size q := fun _ h => Or.inr h
  have k1 := S.2.2.2.2 (.fieldLink RX4 9 "RhymeRoofs$Rules" "tiles" "[I") (by decide +kernel)
  have iX4 : ∀ w ∈ wsX40, w ∈ wsX4_copyFrom := fun _ h => List.mem_cons_of_mem _ (List.mem_append_left _ (List.mem_append_right _ h))
  have k2 := S.2.2.2.2 (.methodLink RX4 52 arraycopyName) (by decide +kernel)
  have k3 := S.2.2.2.2 (.native arraycopyName) (by decide +kernel)
  have k4 := S.2.2.2.2 (.static arraycopyName) (by decide +kernel)
  have k5 := S.2.2.2.2 (.initialized "java/lang/System") (by decide +kernel)
  have k6 := S.2.2.2.2 (.fieldLink RX4 17 "RhymeRoofs$Rules" "groups" "[I") (by decide +kernel)
  have k7 := S.2.2.2.2 (.fieldLink RX4 23 "RhymeRoofs$Rules" "rank" "LRhymeRoofs$Rank;") (by decide +kernel)
  have k8 := S.2.2.2.2 (.fieldLink RX4 36 "RhymeRoofs$Rules" "rows" "I") (by decide +kernel)
  have k9 := S.2.2.2.2 (.fieldLink RX4 40 "RhymeRoofs$Rules" "players" "I") (by decide +kernel)
  have k10 := S.2.2.2.2 (.fieldLink RX4 43 "RhymeRoofs$Rules" "need" "I") (by decide +kernel)
  have k11 := S.2.2.2.2 (.fieldLink RX4 46 "RhymeRoofs$Rules" "bonus" "I") (by decide +kernel)
  have k12 := S.2.2.2.2 (.fieldLink RX4 49 "RhymeRoofs$Rules" "crown" "I") (by decide +kernel)
  intro H locs ls hP hD hS hl
  unfold f_X4_copyFrom at hf
  refine lv_aload_n S.1 S.2.1 dX4_copyFrom_0 rfl (lv_at hl 1 rfl) ?_
  refine gfX4_0 S iX4 hK hP hBg (hMg 1 (by decide)) k1 dX4_copyFrom_1 ?_
  refine lv_iconst (v := 0) S.1 S.2.1 dX4_copyFrom_4 rfl ?_
  refine lv_aload_n S.1 S.2.1 dX4_copyFrom_5 rfl (lv_at hl 0 rfl) ?_
  refine gfX4_0 S iX4 hK hP hB (hM 1 (by decide)) k1 dX4_copyFrom_6 ?_
  refine lv_iconst (v := 0) S.1 S.2.1 dX4_copyFrom_9 rfl ?_
  refine lv_aload_n S.1 S.2.1 dX4_copyFrom_10 rfl (lv_at hl 0 rfl) ?_
  refine gfX4_0 S iX4 hK hP hB (hM 1 (by decide)) k1 dX4_copyFrom_11 ?_
  refine R_alenI S.1 S.2.1 hK hP (hM 3 (by decide)) (IAg3 E hB) dX4_copyFrom_14 ?_
  obtain ⟨h_1, hf⟩ := hf
  refine nm_o hf (fun I_2 eI_2 hf => ?_)
  refine R_cpyI S (hl.1) k2 k3 k4 k5 hK hP hD hS (hMg 3 (by decide)) (IAg3 E hBg) (hM 3 (by decide)) (IAg3 E hB) h_1 (Nat.le_of_ble_eq_true rfl) (Nat.le_of_ble_eq_true rfl) dX4_copyFrom_15 eI_2 (fun H locs hP hD hS => ?_)
  refine lv_aload_n S.1 S.2.1 dX4_copyFrom_18 rfl (lv_at hl 1 rfl) ?_
  refine gfX4_1 S iX4 hK hP hBg (hMg 1 (by decide)) k6 dX4_copyFrom_19 ?_
  refine lv_iconst (v := 0) S.1 S.2.1 dX4_copyFrom_22 rfl ?_
  refine lv_aload_n S.1 S.2.1 dX4_copyFrom_23 rfl (lv_at hl 0 rfl) ?_
  refine gfX4_1 S iX4 hK hP hB (hM 1 (by decide)) k6 dX4_copyFrom_24 ?_
  refine lv_iconst (v := 0) S.1 S.2.1 dX4_copyFrom_27 rfl ?_
  refine lv_aload_n S.1 S.2.1 dX4_copyFrom_28 rfl (lv_at hl 0 rfl) ?_
  refine gfX4_1 S iX4 hK hP hB (hM 1 (by decide)) k6 dX4_copyFrom_29 ?_
  refine R_alenI S.1 S.2.1 hK hP (hM 4 (by decide)) (IAg4 E hB) dX4_copyFrom_32 ?_
  obtain ⟨h_3, hf⟩ := hf
  refine nm_o hf (fun I_4 eI_4 hf => ?_)
  refine R_cpyI S (hl.1) k2 k3 k4 k5 hK hP hD hS (hMg 4 (by decide)) (IAg4 E hBg) (hM 4 (by decide)) (IAg4 E hB) h_3 (Nat.le_of_ble_eq_true rfl) (Nat.le_of_ble_eq_true rfl) dX4_copyFrom_33 eI_4 (fun H locs hP hD hS => ?_)
  refine lv_aload_n S.1 S.2.1 dX4_copyFrom_36 rfl (lv_at hl 0 rfl) ?_
  refine gfX4_2 S iX4 hK hP hB (hM 1 (by decide)) k7 dX4_copyFrom_37 ?_
  refine lv_aload_n S.1 S.2.1 dX4_copyFrom_40 rfl (lv_at hl 1 rfl) ?_
  refine gfX4_2 S iX4 hK hP hBg (hMg 1 (by decide)) k7 dX4_copyFrom_41 ?_
  refine R_cVv (As := [.ref (eA E g 2)]) (rest := []) S (c_X3_copyFrom (hB := hB) (hM := hM) (hBg := hBg) (hMg := hMg) hf) gX4_copyFrom_X3_copyFrom rfl yk_X3_copyFrom ⟨⟨Nat.le_of_ble_eq_true rfl, Nat.le_of_ble_eq_true rfl⟩, rfl, rfl⟩ hK hP hD hS hX hA (hM 2 (by decide)) (cF_g E hB _ _ 2) rfl rfl hl.1 rfl (Nat.le_of_ble_eq_true rfl) ⟨Nat.zero_le _, Nat.zero_le _⟩ dX4_copyFrom_44 (fun I_5 J_6 H locs hf hP hD hS => ?_)
  refine lv_aload_n S.1 S.2.1 dX4_copyFrom_47 rfl (lv_at hl 0 rfl) ?_
  refine lv_aload_n S.1 S.2.1 dX4_copyFrom_48 rfl (lv_at hl 1 rfl) ?_
  refine gfX4_3 S iX4 hK hP hBg (hMg 1 (by decide)) k8 dX4_copyFrom_49 ?_
  refine nm_o hf (fun I_7 eI_7 hf => ?_)
  refine pfX4_3 S iX4 hK hP hD hS hB (hM 1 (by decide)) k8 dX4_copyFrom_52 eI_7 (fun H locs hP hD hS => ?_)
  refine lv_aload_n S.1 S.2.1 dX4_copyFrom_55 rfl (lv_at hl 0 rfl) ?_
  refine lv_aload_n S.1 S.2.1 dX4_copyFrom_56 rfl (lv_at hl 1 rfl) ?_
  refine gfX4_4 S iX4 hK hP hBg (hMg 1 (by decide)) k9 dX4_copyFrom_57 ?_
  refine nm_o hf (fun I_8 eI_8 hf => ?_)
  refine pfX4_4 S iX4 hK hP hD hS hB (hM 1 (by decide)) k9 dX4_copyFrom_60 eI_8 (fun H locs hP hD hS => ?_)
  refine lv_aload_n S.1 S.2.1 dX4_copyFrom_63 rfl (lv_at hl 0 rfl) ?_
  refine lv_aload_n S.1 S.2.1 dX4_copyFrom_64 rfl (lv_at hl 1 rfl) ?_
  refine gfX4_5 S iX4 hK hP hBg (hMg 1 (by decide)) k10 dX4_copyFrom_65 ?_
  refine nm_o hf (fun I_9 eI_9 hf => ?_)
  refine pfX4_5 S iX4 hK hP hD hS hB (hM 1 (by decide)) k10 dX4_copyFrom_68 eI_9 (fun H locs hP hD hS => ?_)
  refine lv_aload_n S.1 S.2.1 dX4_copyFrom_71 rfl (lv_at hl 0 rfl) ?_
  refine lv_aload_n S.1 S.2.1 dX4_copyFrom_72 rfl (lv_at hl 1 rfl) ?_
  refine gfX4_6 S iX4 hK hP hBg (hMg 1 (by decide)) k11 dX4_copyFrom_73 ?_
  refine nm_o hf (fun I_10 eI_10 hf => ?_)
  refine pfX4_6 S iX4 hK hP hD hS hB (hM 1 (by decide)) k11 dX4_copyFrom_76 eI_10 (fun H locs hP hD hS => ?_)
  refine lv_aload_n S.1 S.2.1 dX4_copyFrom_79 rfl (lv_at hl 0 rfl) ?_
  refine lv_aload_n S.1 S.2.1 dX4_copyFrom_80 rfl (lv_at hl 1 rfl) ?_
  refine gfX4_7 S iX4 hK hP hBg (hMg 1 (by decide)) k12 dX4_copyFrom_81 ?_
  refine nm_o hf (fun I_11 eI_11 hf => ?_)
  refine pfX4_7 S iX4 hK hP hD hS hB (hM 1 (by decide)) k12 dX4_copyFrom_84 eI_11 (fun H locs hP hD hS => ?_)
  exact hret hf hP hD hS dX4_copyFrom_87
abbrev rmX4_rhymeOf : Room := { frames := 0, cells := 0, slots := 0, locals := 0 }
theorem yk_X4_rhymeOf : yOk yX4_rhymeOf RX4 2 := by unfold yOk; decide +kernel
def f_X4_rhymeOf_B9 (b : Nat) (K83 : Int32 → MI → MJ → Prop) (rec9 : Int64 → Int64 → Int32 → MI → MJ → Prop) (x5_1 : Int64) (x7_2 : Int64) (x9_3 : Int32) (I_4 : MI) (J_5 : MJ) : Prop :=
  (((8 : Int32) ≤ x9_3 → K83 x9_3 I_4 J_5) ∧ (¬ (8 : Int32) ≤ x9_3 → (((x5_1 &&& (31 : Int64)) = (0 : Int64) → K83 x9_3 I_4 J_5) ∧ (¬ (x5_1 &&& (31 : Int64)) = (0 : Int64) → (((x7_2 &&& (31 : Int64)) = (0 : Int64) → K83 x9_3 I_4 J_5) ∧ (¬ (x7_2 &&& (31 : Int64)) = (0 : Int64) → (vp_in ((x5_1 &&& (31 : Int64)).toInt32) 32 ∧ (vp_in ((x7_2 &&& (31 : Int64)).toInt32) 32 ∧ (((I_4 b 4 ((x5_1 &&& (31 : Int64)).toInt32).toNatClampNeg) = (I_4 b 4 ((x7_2 &&& (31 : Int64)).toInt32).toNatClampNeg) → ∀ x9_12 : Int32, x9_12 = x9_3 + (1 : Int32) → ∀ x5_13 : Int64, x5_13 = ((x5_1.toUInt64 >>> ((5 : Int32).toInt64.toUInt64 &&& Int64.toUInt64 63)).toInt64) → ∀ x7_14 : Int64, x7_14 = ((x7_2.toUInt64 >>> ((5 : Int32).toInt64.toUInt64 &&& Int64.toUInt64 63)).toInt64) → rec9 x5_13 x7_14 x9_12 I_4 J_5) ∧ (¬ (I_4 b 4 ((x5_1 &&& (31 : Int64)).toInt32).toNatClampNeg) = (I_4 b 4 ((x7_2 &&& (31 : Int64)).toInt32).toNatClampNeg) → K83 x9_3 I_4 J_5))))))))))
def f_X4_rhymeOf_L9 (b : Nat) (K83 : Int32 → MI → MJ → Prop) : Nat → Int64 → Int64 → Int32 → MI → MJ → Prop
  | 0, _, _, _, _, _ => False
  | n + 1, x5_1, x7_2, x9_3, I_4, J_5 => f_X4_rhymeOf_B9 b K83 (f_X4_rhymeOf_L9 b K83 n) x5_1 x7_2 x9_3 I_4 J_5
def f_X4_rhymeOf (b : Nat) (x1 : Int64) (x3 : Int64) (I : MI) (J : MJ) (Q : Int32 → MI → MJ → Prop) : Prop :=
  ∃ n : Nat, f_X4_rhymeOf_L9 b (fun (x9_15 : Int32) (I_16 : MI) (J_17 : MJ) => Q x9_15 I_16 J_17) n x1 x3 (0 : Int32) I J
set_option maxRecDepth 100000 in
set_option maxHeartbeats 4000000 in
theorem c_X4_rhymeOf {l : Launch} {E : EV} {ps : List (Nat × Nat)} {b : Nat} (hB : b < 11) (hM : ∀ r, r < 16 → (b, r) ∈ ps) {x1 : Int64} {x3 : Int64} {I : MI} {J : MJ} {Q : Int32 → MI → MJ → Prop} (hf : f_X4_rhymeOf b x1 x3 I J Q) : KI l yX4_rhymeOf wsX4_rhymeOf rmX4_rhymeOf E ps [.ref (eA E b 1), .long x1, .long x3] I J Q := by
  refine K_ofI (cc := cX4_rhymeOf) (maxL := 10) (ty := .int) (by decide +kernel) rfl (Nat.le_of_ble_eq_true rfl) (fun p e s m args below meth c Qm hret S hK hX => ?_)
  have hA : ∀ q, s.heap.size ≤ q → AA E ps s.heap.size q := fun _ h => Or.inr h
  have k1 := S.2.2.2.2 (.constantLong RX4 62 (31)) (by decide +kernel)
  have k2 := S.2.2.2.2 (.fieldLink RX4 17 "RhymeRoofs$Rules" "groups" "[I") (by decide +kernel)
  have iX4 : ∀ w ∈ wsX40, w ∈ wsX4_rhymeOf := fun _ h => List.mem_cons_of_mem _ (List.mem_append_right _ h)
  intro H locs ls hP hD hS hl
  unfold f_X4_rhymeOf at hf
  refine lv_lload_n S.1 S.2.1 dX4_rhymeOf_0 rfl (lv_at hl 1 rfl) ?_
  refine lv_lstore (lv' := [(5, .long x1), (0, .ref (eA E b 1)), (1, .long x1), (3, .long x3)]) S.1 S.2.1 dX4_rhymeOf_1 hl (by decide) rfl (fun ls hl => ?_)
  refine lv_lload_n S.1 S.2.1 dX4_rhymeOf_3 rfl (lv_at hl 3 rfl) ?_
  refine lv_lstore (lv' := [(7, .long x3), (5, .long x1), (0, .ref (eA E b 1)), (1, .long x1), (3, .long x3)]) S.1 S.2.1 dX4_rhymeOf_4 hl (by decide) rfl (fun ls hl => ?_)
  refine lv_iconst (v := 0) S.1 S.2.1 dX4_rhymeOf_6 rfl ?_
  refine lv_istore (lv' := [(9, .int (0 : Int32)), (7, .long x3), (5, .long x1), (0, .ref (eA E b 1)), (1, .long x1), (3, .long x3)]) S.1 S.2.1 dX4_rhymeOf_7 hl (by decide) rfl (fun ls hl => ?_)
  obtain ⟨n_18, hf⟩ := hf
  have L9 : ∀ (K83 : Int32 → MI → MJ → Prop), (∀ (x9_15 : Int32) (I_16 : MI) (J_17 : MJ), K83 x9_15 I_16 J_17 → Wj p l e (rmX4_rhymeOf) s m args below meth c Qm E ps 10 I_16 J_17 83 [(9, .int x9_15)] []) → ∀ (n : Nat) (x5_1 : Int64) (x7_2 : Int64) (x9_3 : Int32) (I_4 : MI) (J_5 : MJ), f_X4_rhymeOf_L9 b K83 n x5_1 x7_2 x9_3 I_4 J_5 → Wj p l e (rmX4_rhymeOf) s m args below meth c Qm E ps 10 I_4 J_5 9 [(0, .ref (eA E b 1)), (5, .long x5_1), (7, .long x7_2), (9, .int x9_3)] [] := by
    intro K83 kx83 n
    induction n with
    | zero => intro x5_1 x7_2 x9_3 I_4 J_5 hf; exact hf.elim
    | succ n ih9 =>
      intro x5_1 x7_2 x9_3 I_4 J_5 hf
      have hf : f_X4_rhymeOf_B9 b K83 (f_X4_rhymeOf_L9 b K83 n) x5_1 x7_2 x9_3 I_4 J_5 := hf
      intro H locs ls hP hD hS hl
      unfold f_X4_rhymeOf_B9 at hf
      refine lv_iload S.1 S.2.1 dX4_rhymeOf_9 (lv_at hl 3 rfl) ?_
      refine lv_bipush (v := 8) S.1 S.2.1 dX4_rhymeOf_11 rfl ?_
      refine lv_icmp_ge (tgt := 83) S.1 S.2.1 dX4_rhymeOf_13 (by decide) (fun h_6 => ?_) (fun h_6 => ?_)
      · have hf := hf.1 h_6
        exact kx83 _ _ _ hf _ _ _ hP hD hS (lv_sub hl [3] rfl)
      · have hf := hf.2 h_6
        refine lv_lload S.1 S.2.1 dX4_rhymeOf_16 (lv_at hl 1 rfl) ?_
        refine lv_ldc2 (v := 31) S.1 S.2.1 S.2.2.2.1 k1 dX4_rhymeOf_18 ?_
        refine lv_land S.1 S.2.1 dX4_rhymeOf_21 ?_
        refine lv_lconst (v := 0) S.1 S.2.1 dX4_rhymeOf_22 rfl ?_
        refine W.lcmp S.1 S.2.1 dX4_rhymeOf_23 ?_
        refine lv_if_eq (tgt := 83) S.1 S.2.1 dX4_rhymeOf_24 (by decide) (fun h_7 => ?_) (fun h_7 => ?_)
        · have hf := hf.1 ((lg_eq0 _ _).mp h_7)
          exact kx83 _ _ _ hf _ _ _ hP hD hS (lv_sub hl [3] rfl)
        · have hf := hf.2 (fun q => h_7 ((lg_eq0 _ _).mpr q))
          refine lv_lload S.1 S.2.1 dX4_rhymeOf_27 (lv_at hl 2 rfl) ?_
          refine lv_ldc2 (v := 31) S.1 S.2.1 S.2.2.2.1 k1 dX4_rhymeOf_29 ?_
          refine lv_land S.1 S.2.1 dX4_rhymeOf_32 ?_
          refine lv_lconst (v := 0) S.1 S.2.1 dX4_rhymeOf_33 rfl ?_
          refine W.lcmp S.1 S.2.1 dX4_rhymeOf_34 ?_
          refine lv_if_eq (tgt := 83) S.1 S.2.1 dX4_rhymeOf_35 (by decide) (fun h_8 => ?_) (fun h_8 => ?_)
          · have hf := hf.1 ((lg_eq0 _ _).mp h_8)
            exact kx83 _ _ _ hf _ _ _ hP hD hS (lv_sub hl [3] rfl)
          · have hf := hf.2 (fun q => h_8 ((lg_eq0 _ _).mpr q))
            refine lv_aload_n S.1 S.2.1 dX4_rhymeOf_38 rfl (lv_at hl 0 rfl) ?_
            refine gfX4_1 S iX4 hK hP hB (hM 1 (by decide)) k2 dX4_rhymeOf_39 ?_
            refine lv_lload S.1 S.2.1 dX4_rhymeOf_42 (lv_at hl 1 rfl) ?_
            refine lv_ldc2 (v := 31) S.1 S.2.1 S.2.2.2.1 k1 dX4_rhymeOf_44 ?_
            refine lv_land S.1 S.2.1 dX4_rhymeOf_47 ?_
            refine lv_l2i S.1 S.2.1 dX4_rhymeOf_48 rfl ?_
            obtain ⟨h_9, hf⟩ := hf
            refine R_iald S.1 S.2.1 hK hP (hM 4 (by decide)) (IAg4 E hB) h_9 dX4_rhymeOf_49 ?_
            refine lv_aload_n S.1 S.2.1 dX4_rhymeOf_50 rfl (lv_at hl 0 rfl) ?_
            refine gfX4_1 S iX4 hK hP hB (hM 1 (by decide)) k2 dX4_rhymeOf_51 ?_
            refine lv_lload S.1 S.2.1 dX4_rhymeOf_54 (lv_at hl 2 rfl) ?_
            refine lv_ldc2 (v := 31) S.1 S.2.1 S.2.2.2.1 k1 dX4_rhymeOf_56 ?_
            refine lv_land S.1 S.2.1 dX4_rhymeOf_59 ?_
            refine lv_l2i S.1 S.2.1 dX4_rhymeOf_60 rfl ?_
            obtain ⟨h_10, hf⟩ := hf
            refine R_iald S.1 S.2.1 hK hP (hM 4 (by decide)) (IAg4 E hB) h_10 dX4_rhymeOf_61 ?_
            refine lv_icmp_ne (tgt := 83) S.1 S.2.1 dX4_rhymeOf_62 (by decide) (fun h_11 => ?_) (fun h_11 => ?_)
            · have hf := hf.2 h_11
              exact kx83 _ _ _ hf _ _ _ hP hD hS (lv_sub hl [3] rfl)
            · have hf := hf.1 h_11
              refine nm_o hf (fun x9_12 ex9_12 hf => ?_)
              refine lv_iinc (v := x9_12) (lv' := [(9, .int x9_12), (0, .ref (eA E b 1)), (5, .long x5_1), (7, .long x7_2)]) S.1 S.2.1 dX4_rhymeOf_65 hl (k := 3) rfl (by rw [ex9_12]; rfl) (by decide) rfl (fun ls hl => ?_)
              refine lv_lload S.1 S.2.1 dX4_rhymeOf_68 (lv_at hl 2 rfl) ?_
              refine lv_iconst (v := 5) S.1 S.2.1 dX4_rhymeOf_70 rfl ?_
              refine lv_lushr S.1 S.2.1 dX4_rhymeOf_71 rfl ?_
              refine lv_topl (fun x5_13 ex5_13 => ?_)
              have hf := hf x5_13 ex5_13
              refine lv_lstore (lv' := [(5, .long x5_13), (9, .int x9_12), (0, .ref (eA E b 1)), (7, .long x7_2)]) S.1 S.2.1 dX4_rhymeOf_72 hl (by decide) rfl (fun ls hl => ?_)
              refine lv_lload S.1 S.2.1 dX4_rhymeOf_74 (lv_at hl 3 rfl) ?_
              refine lv_iconst (v := 5) S.1 S.2.1 dX4_rhymeOf_76 rfl ?_
              refine lv_lushr S.1 S.2.1 dX4_rhymeOf_77 rfl ?_
              refine lv_topl (fun x7_14 ex7_14 => ?_)
              have hf := hf x7_14 ex7_14
              refine lv_lstore (lv' := [(7, .long x7_14), (5, .long x5_13), (9, .int x9_12), (0, .ref (eA E b 1))]) S.1 S.2.1 dX4_rhymeOf_78 hl (by decide) rfl (fun ls hl => ?_)
              refine lv_goto (tgt := 9) S.1 S.2.1 dX4_rhymeOf_80 (by decide) ?_
              exact ih9 _ _ _ _ _ hf _ _ _ hP hD hS (lv_sub hl [3, 1, 0, 2] rfl)
  refine L9 _ (fun x9_15 I_16 J_17 hf H locs ls hP hD hS hl => ?_)  n_18 _ _ _ _ _ hf _ _ _ hP hD hS (lv_sub hl [3, 2, 1, 0] rfl)
  refine lv_iload S.1 S.2.1 dX4_rhymeOf_83 (lv_at hl 0 rfl) ?_
  exact hret hf rfl hP hD hS dX4_rhymeOf_85
abbrev rmX6_isLetter : Room := { frames := 0, cells := 0, slots := 0, locals := 0 }
theorem yk_X6_isLetter : yOk yX6_isLetter RX6 1 := by unfold yOk; decide +kernel
def f_X6_isLetter (x0 : Int32) (I : MI) (J : MJ) (Q : Int32 → MI → MJ → Prop) : Prop :=
  ((x0 < (97 : Int32) → Q (0 : Int32) I J) ∧ (¬ x0 < (97 : Int32) → (((122 : Int32) < x0 → Q (0 : Int32) I J) ∧ (¬ (122 : Int32) < x0 → Q (1 : Int32) I J))))
set_option maxRecDepth 100000 in
set_option maxHeartbeats 4000000 in
theorem c_X6_isLetter {l : Launch} {E : EV} {ps : List (Nat × Nat)}  {x0 : Int32} {I : MI} {J : MJ} {Q : Int32 → MI → MJ → Prop} (hf : f_X6_isLetter x0 I J Q) : KI l yX6_isLetter wsX6_isLetter rmX6_isLetter E ps [.int x0] I J Q := by
  refine K_ofI (cc := cX6_isLetter) (maxL := 1) (ty := .boolean) (by decide +kernel) rfl (Nat.le_of_ble_eq_true rfl) (fun p e s m args below meth c Qm hret S hK hX => ?_)
  have hA : ∀ q, s.heap.size ≤ q → AA E ps s.heap.size q := fun _ h => Or.inr h
  intro H locs ls hP hD hS hl
  unfold f_X6_isLetter at hf
  refine lv_iload_n S.1 S.2.1 dX6_isLetter_0 rfl (lv_at hl 0 rfl) ?_
  refine lv_bipush (v := 97) S.1 S.2.1 dX6_isLetter_1 rfl ?_
  refine lv_icmp_lt (tgt := 16) S.1 S.2.1 dX6_isLetter_3 (by decide) (fun h_1 => ?_) (fun h_1 => ?_)
  · have hf := hf.1 h_1
    refine lv_iconst (v := 0) S.1 S.2.1 dX6_isLetter_16 rfl ?_
    exact hret hf rfl hP hD hS dX6_isLetter_17
  · have hf := hf.2 h_1
    refine lv_iload_n S.1 S.2.1 dX6_isLetter_6 rfl (lv_at hl 0 rfl) ?_
    refine lv_bipush (v := 122) S.1 S.2.1 dX6_isLetter_7 rfl ?_
    refine lv_icmp_gt (tgt := 16) S.1 S.2.1 dX6_isLetter_9 (by decide) (fun h_2 => ?_) (fun h_2 => ?_)
    · have hf := hf.1 h_2
      refine lv_iconst (v := 0) S.1 S.2.1 dX6_isLetter_16 rfl ?_
      exact hret hf rfl hP hD hS dX6_isLetter_17
    · have hf := hf.2 h_2
      refine lv_iconst (v := 1) S.1 S.2.1 dX6_isLetter_12 rfl ?_
      refine lv_goto (tgt := 17) S.1 S.2.1 dX6_isLetter_13 (by decide) ?_
      exact hret hf rfl hP hD hS dX6_isLetter_17
