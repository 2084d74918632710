abbrev rmX8_endGame : Room := { frames := 3, cells := 0, slots := 0, locals := 63 }
theorem yk_X8_endGame : yOk yX8_endGame RX8 0 := by unfold yOk; decide +kernel
def f_X8_endGame_B10 (K71 : MI → MJ → Prop) (rec10 : Int32 → MI → MJ → Prop) (x1_3 : Int32) (I_4 : MI) (J_5 : MJ) : Prop :=
  (vp_in (0 : Int32) 1802 ∧ (((I_4 12 2 (0 : Int32).toNatClampNeg) ≤ x1_3 → K71 I_4 J_5) ∧ (¬ (I_4 12 2 (0 : Int32).toNatClampNeg) ≤ x1_3 → f_X8_ofRow x1_3 (3 : Int32) I_4 J_5 (fun (v_10 : Int32) (I_8 : MI) (J_9 : MJ) => ((v_10 = (-1 : Int32) → ∀ x1_12 : Int32, x1_12 = x1_3 + (1 : Int32) → rec10 x1_12 I_8 J_9) ∧ (¬ v_10 = (-1 : Int32) → f_X8_free x1_3 I_8 J_9 (fun (v_15 : Int32) (I_13 : MI) (J_14 : MJ) => ((v_15 ≤ (0 : Int32) → ∀ x1_17 : Int32, x1_17 = x1_3 + (1 : Int32) → rec10 x1_17 I_13 J_14) ∧ (¬ v_15 ≤ (0 : Int32) → f_X8_ofRow x1_3 (3 : Int32) I_13 J_14 (fun (v_20 : Int32) (I_18 : MI) (J_19 : MJ) => f_X8_playerAt v_20 I_18 J_19 (fun (v_23 : Int32) (I_21 : MI) (J_22 : MJ) => (vp_in (v_23 + (0 : Int32)) 1802 ∧ f_X8_ofRow x1_3 (1 : Int32) I_21 J_22 (fun (v_27 : Int32) (I_25 : MI) (J_26 : MJ) => (¬ (2 : Int32) = 0 ∧ (vp_in (v_23 + (0 : Int32)) 1802 ∧ ∀ I_30 : MI, I_30 = sI I_25 12 2 (v_23 + (0 : Int32)).toNatClampNeg ((I_21 12 2 (v_23 + (0 : Int32)).toNatClampNeg) + (v_27 / (2 : Int32))) → ∀ x1_31 : Int32, x1_31 = x1_3 + (1 : Int32) → rec10 x1_31 I_30 J_26)))))))))))))))
def f_X8_endGame_L10 (K71 : MI → MJ → Prop) : Nat → Int32 → MI → MJ → Prop
  | 0, _, _, _ => False
  | n + 1, x1_3, I_4, J_5 => f_X8_endGame_B10 K71 (f_X8_endGame_L10 K71 n) x1_3 I_4 J_5
def f_X8_endGame (I : MI) (J : MJ) (Q : MI → MJ → Prop) : Prop :=
  (vp_in (6 : Int32) 1802 ∧ ∀ I_2 : MI, I_2 = sI I 12 2 (6 : Int32).toNatClampNeg (1 : Int32) → ∃ n : Nat, f_X8_endGame_L10 (fun (I_32 : MI) (J_33 : MJ) => Q I_32 J_33) n (0 : Int32) I_2 J)
set_option maxRecDepth 100000 in
set_option maxHeartbeats 4000000 in
theorem c_X8_endGame {l : Launch} {E : EV} {ps : List (Nat × Nat)} (h12 : ∀ r, r < 17 → (12, r) ∈ ps) {I : MI} {J : MJ} {Q : MI → MJ → Prop} (hf : f_X8_endGame I J Q) : KV l yX8_endGame wsX8_endGame rmX8_endGame E ps [.ref (eA E 12 0)] I J Q := by
  refine K_ofV (cc := cX8_endGame) (maxL := 2) (by decide +kernel) rfl (Nat.le_of_ble_eq_true rfl) (fun p e s m args below meth c Qm hret S hK hX => ?_)
  have hA : ∀ q, s.heap.size ≤ q → AA E ps s.heap.size q := fun _ h => Or.inr h
  have k1 := S.2.2.2.2 (.fieldLink RX8 17 "RhymeRoofsModel" "data" "[I") (by decide +kernel)
  have iX8 : ∀ w ∈ wsX80, w ∈ wsX8_endGame := fun _ h => List.mem_cons_of_mem _ (List.mem_append_right _ h)
  intro H locs ls hP hD hS hl
  unfold f_X8_endGame at hf
  refine lv_aload_n S.1 S.2.1 dX8_endGame_0 rfl (lv_at hl 0 rfl) ?_
  refine gfX8_8 S iX8 hK hP (h12 0 (by decide)) k1 dX8_endGame_1 ?_
  refine lv_bipush (v := 6) S.1 S.2.1 dX8_endGame_4 rfl ?_
  refine lv_iconst (v := 1) S.1 S.2.1 dX8_endGame_6 rfl ?_
  obtain ⟨h_1, hf⟩ := hf
  refine nm_o hf (fun I_2 eI_2 hf => ?_)
  refine R_iast S.1 S.2.1 hK hP hD hS (h12 2 (by decide)) (IAm2 E) h_1 dX8_endGame_7 eI_2 (fun H locs hP hD hS => ?_)
  refine lv_iconst (v := 0) S.1 S.2.1 dX8_endGame_8 rfl ?_
  refine lv_istore_n (lv' := [(1, .int (0 : Int32)), (0, .ref (eA E 12 0))]) S.1 S.2.1 dX8_endGame_9 rfl hl (by decide) rfl (fun ls hl => ?_)
  obtain ⟨n_34, hf⟩ := hf
  have L10 : ∀ (K71 : MI → MJ → Prop), (∀ (I_32 : MI) (J_33 : MJ), K71 I_32 J_33 → Wj p l e (rmX8_endGame) s m args below meth c Qm E ps 2 I_32 J_33 71 [] []) → ∀ (n : Nat) (x1_3 : Int32) (I_4 : MI) (J_5 : MJ), f_X8_endGame_L10 K71 n x1_3 I_4 J_5 → Wj p l e (rmX8_endGame) s m args below meth c Qm E ps 2 I_4 J_5 10 [(0, .ref (eA E 12 0)), (1, .int x1_3)] [] := by
    intro K71 kx71 n
    induction n with
    | zero => intro x1_3 I_4 J_5 hf; exact hf.elim
    | succ n ih10 =>
      intro x1_3 I_4 J_5 hf
      have hf : f_X8_endGame_B10 K71 (f_X8_endGame_L10 K71 n) x1_3 I_4 J_5 := hf
      intro H locs ls hP hD hS hl
      unfold f_X8_endGame_B10 at hf
      refine lv_iload_n S.1 S.2.1 dX8_endGame_10 rfl (lv_at hl 1 rfl) ?_
      refine lv_aload_n S.1 S.2.1 dX8_endGame_11 rfl (lv_at hl 0 rfl) ?_
      refine gfX8_8 S iX8 hK hP (h12 0 (by decide)) k1 dX8_endGame_12 ?_
      refine lv_iconst (v := 0) S.1 S.2.1 dX8_endGame_15 rfl ?_
      obtain ⟨h_6, hf⟩ := hf
      refine R_iald S.1 S.2.1 hK hP (h12 2 (by decide)) (IAm2 E) h_6 dX8_endGame_16 ?_
      refine lv_icmp_ge (tgt := 71) S.1 S.2.1 dX8_endGame_17 (by decide) (fun h_7 => ?_) (fun h_7 => ?_)
      · have hf := hf.1 h_7
        exact kx71 _ _ hf _ _ _ hP hD hS (lv_sub hl [] rfl)
      · have hf := hf.2 h_7
        refine lv_aload_n S.1 S.2.1 dX8_endGame_20 rfl (lv_at hl 0 rfl) ?_
        refine lv_iload_n S.1 S.2.1 dX8_endGame_21 rfl (lv_at hl 1 rfl) ?_
        refine lv_iconst (v := 3) S.1 S.2.1 dX8_endGame_22 rfl ?_
        refine R_cVi (As := [.int x1_3, .int (3 : Int32)]) (rest := []) S (c_X8_ofRow (h12 := h12)  hf) gX8_endGame_X8_ofRow rfl yk_X8_ofRow ⟨⟨Nat.le_of_ble_eq_true rfl, Nat.le_of_ble_eq_true rfl⟩, rfl, rfl⟩ hK hP hD hS hX hA (h12 0 (by decide)) (cF_m E _ _ 0) rfl rfl hl.1 rfl (Nat.le_of_ble_eq_true rfl) ⟨Nat.zero_le _, Nat.zero_le _⟩ dX8_endGame_23 (fun v_10 I_8 J_9 H locs hf hP hD hS => ?_)
        refine lv_iconst (v := (-1)) S.1 S.2.1 dX8_endGame_26 rfl ?_
        refine lv_icmp_eq (tgt := 65) S.1 S.2.1 dX8_endGame_27 (by decide) (fun h_11 => ?_) (fun h_11 => ?_)
        · have hf := hf.1 h_11
          refine nm_o hf (fun x1_12 ex1_12 hf => ?_)
          refine lv_iinc (v := x1_12) (lv' := [(1, .int x1_12), (0, .ref (eA E 12 0))]) S.1 S.2.1 dX8_endGame_65 hl (k := 1) rfl (by rw [ex1_12]; rfl) (by decide) rfl (fun ls hl => ?_)
          refine lv_goto (tgt := 10) S.1 S.2.1 dX8_endGame_68 (by decide) ?_
          exact ih10 _ _ _ hf _ _ _ hP hD hS (lv_sub hl [1, 0] rfl)
        · have hf := hf.2 h_11
          refine lv_aload_n S.1 S.2.1 dX8_endGame_30 rfl (lv_at hl 0 rfl) ?_
          refine lv_iload_n S.1 S.2.1 dX8_endGame_31 rfl (lv_at hl 1 rfl) ?_
          refine R_cVi (As := [.int x1_3]) (rest := []) S (c_X8_free (h12 := h12)  hf) gX8_endGame_X8_free rfl yk_X8_free ⟨⟨Nat.le_of_ble_eq_true rfl, Nat.le_of_ble_eq_true rfl⟩, rfl, rfl⟩ hK hP hD hS hX hA (h12 0 (by decide)) (cF_m E _ _ 0) rfl rfl hl.1 rfl (Nat.le_of_ble_eq_true rfl) ⟨Nat.zero_le _, Nat.zero_le _⟩ dX8_endGame_32 (fun v_15 I_13 J_14 H locs hf hP hD hS => ?_)
          refine lv_if_le (tgt := 65) S.1 S.2.1 dX8_endGame_35 (by decide) (fun h_16 => ?_) (fun h_16 => ?_)
          · have hf := hf.1 h_16
            refine nm_o hf (fun x1_17 ex1_17 hf => ?_)
            refine lv_iinc (v := x1_17) (lv' := [(1, .int x1_17), (0, .ref (eA E 12 0))]) S.1 S.2.1 dX8_endGame_65 hl (k := 1) rfl (by rw [ex1_17]; rfl) (by decide) rfl (fun ls hl => ?_)
            refine lv_goto (tgt := 10) S.1 S.2.1 dX8_endGame_68 (by decide) ?_
            exact ih10 _ _ _ hf _ _ _ hP hD hS (lv_sub hl [1, 0] rfl)
          · have hf := hf.2 h_16
            refine lv_aload_n S.1 S.2.1 dX8_endGame_38 rfl (lv_at hl 0 rfl) ?_
            refine gfX8_8 S iX8 hK hP (h12 0 (by decide)) k1 dX8_endGame_39 ?_
            refine lv_aload_n S.1 S.2.1 dX8_endGame_42 rfl (lv_at hl 0 rfl) ?_
            refine lv_iload_n S.1 S.2.1 dX8_endGame_43 rfl (lv_at hl 1 rfl) ?_
            refine lv_iconst (v := 3) S.1 S.2.1 dX8_endGame_44 rfl ?_
            refine R_cVi (As := [.int x1_3, .int (3 : Int32)]) (rest := [.ref (eA E 12 2)]) S (c_X8_ofRow (h12 := h12)  hf) gX8_endGame_X8_ofRow rfl yk_X8_ofRow ⟨⟨Nat.le_of_ble_eq_true rfl, Nat.le_of_ble_eq_true rfl⟩, rfl, rfl⟩ hK hP hD hS hX hA (h12 0 (by decide)) (cF_m E _ _ 0) rfl rfl hl.1 rfl (Nat.le_of_ble_eq_true rfl) ⟨Nat.zero_le _, Nat.zero_le _⟩ dX8_endGame_45 (fun v_20 I_18 J_19 H locs hf hP hD hS => ?_)
            refine R_cSi (As := [.int v_20]) (rest := [.ref (eA E 12 2)]) S (c_X8_playerAt   hf) gX8_endGame_X8_playerAt rfl yk_X8_playerAt ⟨⟨Nat.le_of_ble_eq_true rfl, Nat.le_of_ble_eq_true rfl⟩, rfl, rfl⟩ hK hP hD hS hX hA rfl hl.1 rfl (Nat.le_of_ble_eq_true rfl) ⟨Nat.zero_le _, Nat.zero_le _⟩ dX8_endGame_48 (fun v_23 I_21 J_22 H locs hf hP hD hS => ?_)
            refine lv_iconst (v := 0) S.1 S.2.1 dX8_endGame_51 rfl ?_
            refine lv_iadd S.1 S.2.1 dX8_endGame_52 ?_
            refine lv_dup2_11 S.1 S.2.1 dX8_endGame_53 rfl rfl ?_
            obtain ⟨h_24, hf⟩ := hf
            refine R_iald S.1 S.2.1 hK hP (h12 2 (by decide)) (IAm2 E) h_24 dX8_endGame_54 ?_
            refine lv_aload_n S.1 S.2.1 dX8_endGame_55 rfl (lv_at hl 0 rfl) ?_
            refine lv_iload_n S.1 S.2.1 dX8_endGame_56 rfl (lv_at hl 1 rfl) ?_
            refine lv_iconst (v := 1) S.1 S.2.1 dX8_endGame_57 rfl ?_
            refine R_cVi (As := [.int x1_3, .int (1 : Int32)]) (rest := [.int (I_21 12 2 (v_23 + (0 : Int32)).toNatClampNeg), .int (v_23 + (0 : Int32)), .ref (eA E 12 2)]) S (c_X8_ofRow (h12 := h12)  hf) gX8_endGame_X8_ofRow rfl yk_X8_ofRow ⟨⟨Nat.le_of_ble_eq_true rfl, Nat.le_of_ble_eq_true rfl⟩, rfl, rfl⟩ hK hP hD hS hX hA (h12 0 (by decide)) (cF_m E _ _ 0) rfl rfl hl.1 rfl (Nat.le_of_ble_eq_true rfl) ⟨Nat.zero_le _, Nat.zero_le _⟩ dX8_endGame_58 (fun v_27 I_25 J_26 H locs hf hP hD hS => ?_)
            refine lv_iconst (v := 2) S.1 S.2.1 dX8_endGame_61 rfl ?_
            obtain ⟨h_28, hf⟩ := hf
            refine lv_idiv S.1 S.2.1 dX8_endGame_62 h_28 ?_
            refine lv_iadd S.1 S.2.1 dX8_endGame_63 ?_
            obtain ⟨h_29, hf⟩ := hf
            refine nm_o hf (fun I_30 eI_30 hf => ?_)
            refine R_iast S.1 S.2.1 hK hP hD hS (h12 2 (by decide)) (IAm2 E) h_29 dX8_endGame_64 eI_30 (fun H locs hP hD hS => ?_)
            refine nm_o hf (fun x1_31 ex1_31 hf => ?_)
            refine lv_iinc (v := x1_31) (lv' := [(1, .int x1_31), (0, .ref (eA E 12 0))]) S.1 S.2.1 dX8_endGame_65 hl (k := 1) rfl (by rw [ex1_31]; rfl) (by decide) rfl (fun ls hl => ?_)
            refine lv_goto (tgt := 10) S.1 S.2.1 dX8_endGame_68 (by decide) ?_
            exact ih10 _ _ _ hf _ _ _ hP hD hS (lv_sub hl [1, 0] rfl)
  refine L10 _ (fun I_32 J_33 hf H locs ls hP hD hS hl => ?_)  n_34 _ _ _ hf _ _ _ hP hD hS (lv_sub hl [1, 0] rfl)
  exact hret hf hP hD hS dX8_endGame_71
