abbrev rmX8_layRow : Room := { frames := 1, cells := 0, slots := 0, locals := 20 }
theorem yk_X8_layRow : yOk yX8_layRow RX8 3 := by unfold yOk; decide +kernel
def f_X8_layRow (b1 : Nat) (r1 : Nat) (n1 : Nat) (x1 : Int32) (x2 : Int32) (I : MI) (J : MJ) (Q : MI → MJ → Prop) : Prop :=
  f_X8_rowAt x1 I J (fun (v_3 : Int32) (I_1 : MI) (J_2 : MJ) => (vp_in (v_3 + (0 : Int32)) n1 ∧ ∀ I_5 : MI, I_5 = sI I_1 b1 r1 (v_3 + (0 : Int32)).toNatClampNeg x2 → f_X8_rowAt x1 I_5 J_2 (fun (v_8 : Int32) (I_6 : MI) (J_7 : MJ) => (vp_in (v_8 + (3 : Int32)) n1 ∧ ∀ I_10 : MI, I_10 = sI I_6 b1 r1 (v_8 + (3 : Int32)).toNatClampNeg (-1 : Int32) → Q I_10 J_7))))
set_option maxRecDepth 100000 in
set_option maxHeartbeats 4000000 in
theorem c_X8_layRow {l : Launch} {E : EV} {ps : List (Nat × Nat)} {b1 r1 n1 : Nat} (hm1 : (b1, r1) ∈ ps) (hc1 : IA E b1 r1 n1) {x1 : Int32} {x2 : Int32} {I : MI} {J : MJ} {Q : MI → MJ → Prop} (hf : f_X8_layRow b1 r1 n1 x1 x2 I J Q) : KV l yX8_layRow wsX8_layRow rmX8_layRow E ps [.ref (eA E b1 r1), .int x1, .int x2] I J Q := by
  refine K_ofV (cc := cX8_layRow) (maxL := 3) (by decide +kernel) rfl (Nat.le_of_ble_eq_true rfl) (fun p e s m args below meth c Qm hret S hK hX => ?_)
  have hA : ∀ q, s.heap.size ≤ q → AA E ps s.heap.size q := fun _ h => Or.inr h
  intro H locs ls hP hD hS hl
  unfold f_X8_layRow at hf
  refine lv_aload_n S.1 S.2.1 dX8_layRow_0 rfl (lv_at hl 0 rfl) ?_
  refine lv_iload_n S.1 S.2.1 dX8_layRow_1 rfl (lv_at hl 1 rfl) ?_
  refine R_cSi (As := [.int x1]) (rest := [.ref (eA E b1 r1)]) S (c_X8_rowAt   hf) gX8_layRow_X8_rowAt rfl yk_X8_rowAt ⟨⟨Nat.le_of_ble_eq_true rfl, Nat.le_of_ble_eq_true rfl⟩, rfl, rfl⟩ hK hP hD hS hX hA rfl hl.1 rfl (Nat.le_of_ble_eq_true rfl) ⟨Nat.zero_le _, Nat.zero_le _⟩ dX8_layRow_2 (fun v_3 I_1 J_2 H locs hf hP hD hS => ?_)
  refine lv_iconst (v := 0) S.1 S.2.1 dX8_layRow_5 rfl ?_
  refine lv_iadd S.1 S.2.1 dX8_layRow_6 ?_
  refine lv_iload_n S.1 S.2.1 dX8_layRow_7 rfl (lv_at hl 2 rfl) ?_
  obtain ⟨h_4, hf⟩ := hf
  refine nm_o hf (fun I_5 eI_5 hf => ?_)
  refine R_iast S.1 S.2.1 hK hP hD hS hm1 hc1 h_4 dX8_layRow_8 eI_5 (fun H locs hP hD hS => ?_)
  refine lv_aload_n S.1 S.2.1 dX8_layRow_9 rfl (lv_at hl 0 rfl) ?_
  refine lv_iload_n S.1 S.2.1 dX8_layRow_10 rfl (lv_at hl 1 rfl) ?_
  refine R_cSi (As := [.int x1]) (rest := [.ref (eA E b1 r1)]) S (c_X8_rowAt   hf) gX8_layRow_X8_rowAt rfl yk_X8_rowAt ⟨⟨Nat.le_of_ble_eq_true rfl, Nat.le_of_ble_eq_true rfl⟩, rfl, rfl⟩ hK hP hD hS hX hA rfl hl.1 rfl (Nat.le_of_ble_eq_true rfl) ⟨Nat.zero_le _, Nat.zero_le _⟩ dX8_layRow_11 (fun v_8 I_6 J_7 H locs hf hP hD hS => ?_)
  refine lv_iconst (v := 3) S.1 S.2.1 dX8_layRow_14 rfl ?_
  refine lv_iadd S.1 S.2.1 dX8_layRow_15 ?_
  refine lv_iconst (v := (-1)) S.1 S.2.1 dX8_layRow_16 rfl ?_
  obtain ⟨h_9, hf⟩ := hf
  refine nm_o hf (fun I_10 eI_10 hf => ?_)
  refine R_iast S.1 S.2.1 hK hP hD hS hm1 hc1 h_9 dX8_layRow_17 eI_10 (fun H locs hP hD hS => ?_)
  exact hret hf hP hD hS dX8_layRow_18
abbrev rmX8_readRoof : Room := { frames := 5, cells := 0, slots := 0, locals := 107 }
theorem yk_X8_readRoof : yOk yX8_readRoof RX8 0 := by unfold yOk; decide +kernel
def f_X8_readRoof_J55 (K62 : MI → MJ → Prop) (K97 : MI → MJ → Prop) (rec19 : MI → MJ → Prop) (x1_16 : Int32) (I_17 : MI) (J_18 : MJ) : Prop :=
  f_X8_isGood I_17 J_18 (fun (v_21 : Int32) (I_19 : MI) (J_20 : MJ) => ((v_21 = (0 : Int32) → K62 I_19 J_20) ∧ (¬ v_21 = (0 : Int32) → (vp_in (0 : Int32) 1802 ∧ f_X8_layRow 12 3 1802 (I_19 12 3 (0 : Int32).toNatClampNeg) x1_16 I_19 J_20 (fun (I_24 : MI) (J_25 : MJ) => (vp_in (0 : Int32) 1802 ∧ (vp_in (0 : Int32) 1802 ∧ ∀ I_28 : MI, I_28 = sI I_24 12 3 (0 : Int32).toNatClampNeg ((I_24 12 3 (0 : Int32).toNatClampNeg) + (1 : Int32)) → f_X8_ahead I_28 J_25 (fun (v_31 : Int32) (I_29 : MI) (J_30 : MJ) => f_X8_isDigit v_31 I_29 J_30 (fun (v_34 : Int32) (I_32 : MI) (J_33 : MJ) => ((v_34 = (0 : Int32) → K97 I_32 J_33) ∧ (¬ v_34 = (0 : Int32) → rec19 I_32 J_33)))))))))))
def f_X8_readRoof_B19 (K62 : MI → MJ → Prop) (K97 : MI → MJ → Prop) (rec19 : MI → MJ → Prop) (I_7 : MI) (J_8 : MJ) : Prop :=
  f_X8_number (1 : Int32) (40 : Int32) I_7 J_8 (fun (v_11 : Int32) (I_9 : MI) (J_10 : MJ) => f_X8_isGood I_9 J_10 (fun (v_14 : Int32) (I_12 : MI) (J_13 : MJ) => ((v_14 = (0 : Int32) → f_X8_readRoof_J55 K62 K97 rec19 v_11 I_12 J_13) ∧ (¬ v_14 = (0 : Int32) → (vp_in (0 : Int32) 1802 ∧ (((I_12 12 3 (0 : Int32).toNatClampNeg) = (6 : Int32) → f_X8_report (-5 : Int32) (I_12 12 0 13) I_12 J_13 (fun (I_38 : MI) (J_39 : MJ) => f_X8_readRoof_J55 K62 K97 rec19 v_11 I_38 J_39)) ∧ (¬ (I_12 12 3 (0 : Int32).toNatClampNeg) = (6 : Int32) → f_X8_readRoof_J55 K62 K97 rec19 v_11 I_12 J_13)))))))
def f_X8_readRoof_L19 (K62 : MI → MJ → Prop) (K97 : MI → MJ → Prop) : Nat → MI → MJ → Prop
  | 0, _, _ => False
  | n + 1, I_7, J_8 => f_X8_readRoof_B19 K62 K97 (f_X8_readRoof_L19 K62 K97 n) I_7 J_8
def f_X8_readRoof_J19 (Q : MI → MJ → Prop) (I_5 : MI) (J_6 : MJ) : Prop :=
  ∃ n : Nat, f_X8_readRoof_L19 (fun (I_40 : MI) (J_41 : MJ) => Q I_40 J_41) (fun (I_42 : MI) (J_43 : MJ) => f_X8_expect (59 : Int32) I_42 J_43 (fun (I_44 : MI) (J_45 : MJ) => Q I_44 J_45)) n  I_5 J_6
def f_X8_readRoof (I : MI) (J : MJ) (Q : MI → MJ → Prop) : Prop :=
  f_X8_takeWord 0 I J (fun (v_3 : Int32) (I_1 : MI) (J_2 : MJ) => ((v_3 = (0 : Int32) → f_X8_report (-2 : Int32) (I_1 12 0 4) I_1 J_2 (fun (I_47 : MI) (J_48 : MJ) => f_X8_readRoof_J19 Q I_47 J_48)) ∧ (¬ v_3 = (0 : Int32) → f_X8_readRoof_J19 Q I_1 J_2)))
set_option maxRecDepth 100000 in
set_option maxHeartbeats 4000000 in
theorem c_X8_readRoof {l : Launch} {E : EV} {ps : List (Nat × Nat)} (h12 : ∀ r, r < 17 → (12, r) ∈ ps) {I : MI} {J : MJ} {Q : MI → MJ → Prop} (hf : f_X8_readRoof I J Q) : KV l yX8_readRoof wsX8_readRoof rmX8_readRoof E ps [.ref (eA E 12 0)] I J Q := by
  refine K_ofV (cc := cX8_readRoof) (maxL := 2) (by decide +kernel) rfl (Nat.le_of_ble_eq_true rfl) (fun p e s m args below meth c Qm hret S hK hX => ?_)
  have hA : ∀ q, s.heap.size ≤ q → AA E ps s.heap.size q := fun _ h => Or.inr h
  have k1 := S.2.2.2.2 (.fieldLink RX8 20 "RhymeRoofsModel" "draft" "[I") (by decide +kernel)
  have iX8 : ∀ w ∈ wsX80, w ∈ wsX8_readRoof := fun _ h => List.mem_cons_of_mem _ (List.mem_append_right _ h)
  have k2 := S.2.2.2.2 (.fieldLink RX8 106 "RhymeRoofsModel" "numberStart" "I") (by decide +kernel)
  have k3 := S.2.2.2.2 (.fieldLink RX8 65 "RhymeRoofsModel" "position" "I") (by decide +kernel)
  have jn19 : ∀ (I_5 : MI) (J_6 : MJ), f_X8_readRoof_J19 Q I_5 J_6 → Wj p l e (rmX8_readRoof) s m args below meth c Qm E ps 2 I_5 J_6 19 [(0, .ref (eA E 12 0))] [] := by
    intro I_5 J_6 hf H locs ls hP hD hS hl
    unfold f_X8_readRoof_J19 at hf
    obtain ⟨n_46, hf⟩ := hf
    have L19 : ∀ (K62 : MI → MJ → Prop), ∀ (K97 : MI → MJ → Prop), (∀ (I_40 : MI) (J_41 : MJ), K62 I_40 J_41 → Wj p l e (rmX8_readRoof) s m args below meth c Qm E ps 2 I_40 J_41 62 [] []) → (∀ (I_42 : MI) (J_43 : MJ), K97 I_42 J_43 → Wj p l e (rmX8_readRoof) s m args below meth c Qm E ps 2 I_42 J_43 97 [(0, .ref (eA E 12 0))] []) → ∀ (n : Nat) (I_7 : MI) (J_8 : MJ), f_X8_readRoof_L19 K62 K97 n I_7 J_8 → Wj p l e (rmX8_readRoof) s m args below meth c Qm E ps 2 I_7 J_8 19 [(0, .ref (eA E 12 0))] [] := by
      intro K62 K97 kx62 kx97 n
      induction n with
      | zero => intro I_7 J_8 hf; exact hf.elim
      | succ n ih19 =>
        intro I_7 J_8 hf
        have hf : f_X8_readRoof_B19 K62 K97 (f_X8_readRoof_L19 K62 K97 n) I_7 J_8 := hf
        have jn55 : ∀ (x1_16 : Int32) (I_17 : MI) (J_18 : MJ), f_X8_readRoof_J55 K62 K97 (f_X8_readRoof_L19 K62 K97 n) x1_16 I_17 J_18 → Wj p l e (rmX8_readRoof) s m args below meth c Qm E ps 2 I_17 J_18 55 [(0, .ref (eA E 12 0)), (1, .int x1_16)] [] := by
          intro x1_16 I_17 J_18 hf H locs ls hP hD hS hl
          unfold f_X8_readRoof_J55 at hf
          refine lv_aload_n S.1 S.2.1 dX8_readRoof_55 rfl (lv_at hl 0 rfl) ?_
          refine R_cVi (As := []) (rest := []) S (c_X8_isGood (h12 := h12)  hf) gX8_readRoof_X8_isGood rfl yk_X8_isGood ⟨⟨Nat.le_of_ble_eq_true rfl, Nat.le_of_ble_eq_true rfl⟩, rfl, rfl⟩ hK hP hD hS hX hA (h12 0 (by decide)) (cF_m E _ _ 0) rfl rfl hl.1 rfl (Nat.le_of_ble_eq_true rfl) ⟨Nat.zero_le _, Nat.zero_le _⟩ dX8_readRoof_56 (fun v_21 I_19 J_20 H locs hf hP hD hS => ?_)
          refine lv_if_ne (tgt := 63) S.1 S.2.1 dX8_readRoof_59 (by decide) (fun h_22 => ?_) (fun h_22 => ?_)
          · have hf := hf.2 h_22
            refine lv_aload_n S.1 S.2.1 dX8_readRoof_63 rfl (lv_at hl 0 rfl) ?_
            refine gfX8_9 S iX8 hK hP (h12 0 (by decide)) k1 dX8_readRoof_64 ?_
            refine lv_aload_n S.1 S.2.1 dX8_readRoof_67 rfl (lv_at hl 0 rfl) ?_
            refine gfX8_9 S iX8 hK hP (h12 0 (by decide)) k1 dX8_readRoof_68 ?_
            refine lv_iconst (v := 0) S.1 S.2.1 dX8_readRoof_71 rfl ?_
            obtain ⟨h_23, hf⟩ := hf
            refine R_iald S.1 S.2.1 hK hP (h12 3 (by decide)) (IAm3 E) h_23 dX8_readRoof_72 ?_
            refine lv_iload_n S.1 S.2.1 dX8_readRoof_73 rfl (lv_at hl 1 rfl) ?_
            refine R_cSv (As := [.ref (eA E 12 3), .int (I_19 12 3 (0 : Int32).toNatClampNeg), .int x1_16]) (rest := []) S (c_X8_layRow  (hm1 := (h12 3 (by decide))) (hc1 := (IAm3 E)) hf) gX8_readRoof_X8_layRow rfl yk_X8_layRow ⟨⟨Nat.le_of_ble_eq_true rfl, Nat.le_of_ble_eq_true rfl⟩, rfl, rfl⟩ hK hP hD hS hX hA rfl hl.1 rfl (Nat.le_of_ble_eq_true rfl) ⟨Nat.zero_le _, Nat.zero_le _⟩ dX8_readRoof_74 (fun I_24 J_25 H locs hf hP hD hS => ?_)
            refine lv_aload_n S.1 S.2.1 dX8_readRoof_77 rfl (lv_at hl 0 rfl) ?_
            refine gfX8_9 S iX8 hK hP (h12 0 (by decide)) k1 dX8_readRoof_78 ?_
            refine lv_iconst (v := 0) S.1 S.2.1 dX8_readRoof_81 rfl ?_
            refine lv_dup2_11 S.1 S.2.1 dX8_readRoof_82 rfl rfl ?_
            obtain ⟨h_26, hf⟩ := hf
            refine R_iald S.1 S.2.1 hK hP (h12 3 (by decide)) (IAm3 E) h_26 dX8_readRoof_83 ?_
            refine lv_iconst (v := 1) S.1 S.2.1 dX8_readRoof_84 rfl ?_
            refine lv_iadd S.1 S.2.1 dX8_readRoof_85 ?_
            obtain ⟨h_27, hf⟩ := hf
            refine nm_o hf (fun I_28 eI_28 hf => ?_)
            refine R_iast S.1 S.2.1 hK hP hD hS (h12 3 (by decide)) (IAm3 E) h_27 dX8_readRoof_86 eI_28 (fun H locs hP hD hS => ?_)
            refine lv_aload_n S.1 S.2.1 dX8_readRoof_87 rfl (lv_at hl 0 rfl) ?_
            refine R_cVi (As := []) (rest := []) S (c_X8_ahead (h12 := h12)  hf) gX8_readRoof_X8_ahead rfl yk_X8_ahead ⟨⟨Nat.le_of_ble_eq_true rfl, Nat.le_of_ble_eq_true rfl⟩, rfl, rfl⟩ hK hP hD hS hX hA (h12 0 (by decide)) (cF_m E _ _ 0) rfl rfl hl.1 rfl (Nat.le_of_ble_eq_true rfl) ⟨Nat.zero_le _, Nat.zero_le _⟩ dX8_readRoof_88 (fun v_31 I_29 J_30 H locs hf hP hD hS => ?_)
            refine R_cSi (As := [.int v_31]) (rest := []) S (c_X8_isDigit   hf) gX8_readRoof_X8_isDigit rfl yk_X8_isDigit ⟨⟨Nat.le_of_ble_eq_true rfl, Nat.le_of_ble_eq_true rfl⟩, rfl, rfl⟩ hK hP hD hS hX hA rfl hl.1 rfl (Nat.le_of_ble_eq_true rfl) ⟨Nat.zero_le _, Nat.zero_le _⟩ dX8_readRoof_91 (fun v_34 I_32 J_33 H locs hf hP hD hS => ?_)
            refine lv_if_ne (tgt := 19) S.1 S.2.1 dX8_readRoof_94 (by decide) (fun h_35 => ?_) (fun h_35 => ?_)
            · have hf := hf.2 h_35
              exact ih19 _ _ hf _ _ _ hP hD hS (lv_sub hl [0] rfl)
            · have hf := hf.1 h_35
              exact kx97 _ _ hf _ _ _ hP hD hS (lv_sub hl [0] rfl)
          · have hf := hf.1 h_22
            exact kx62 _ _ hf _ _ _ hP hD hS (lv_sub hl [] rfl)
        intro H locs ls hP hD hS hl
        unfold f_X8_readRoof_B19 at hf
        refine lv_aload_n S.1 S.2.1 dX8_readRoof_19 rfl (lv_at hl 0 rfl) ?_
        refine lv_iconst (v := 1) S.1 S.2.1 dX8_readRoof_20 rfl ?_
        refine lv_bipush (v := 40) S.1 S.2.1 dX8_readRoof_21 rfl ?_
        refine R_cVi (As := [.int (1 : Int32), .int (40 : Int32)]) (rest := []) S (c_X8_number (h12 := h12)  hf) gX8_readRoof_X8_number rfl yk_X8_number ⟨⟨Nat.le_of_ble_eq_true rfl, Nat.le_of_ble_eq_true rfl⟩, rfl, rfl⟩ hK hP hD hS hX hA (h12 0 (by decide)) (cF_m E _ _ 0) rfl rfl hl.1 rfl (Nat.le_of_ble_eq_true rfl) ⟨Nat.zero_le _, Nat.zero_le _⟩ dX8_readRoof_23 (fun v_11 I_9 J_10 H locs hf hP hD hS => ?_)
        refine lv_istore_n (lv' := [(1, .int v_11), (0, .ref (eA E 12 0))]) S.1 S.2.1 dX8_readRoof_26 rfl hl (by decide) rfl (fun ls hl => ?_)
        refine lv_aload_n S.1 S.2.1 dX8_readRoof_27 rfl (lv_at hl 1 rfl) ?_
        refine R_cVi (As := []) (rest := []) S (c_X8_isGood (h12 := h12)  hf) gX8_readRoof_X8_isGood rfl yk_X8_isGood ⟨⟨Nat.le_of_ble_eq_true rfl, Nat.le_of_ble_eq_true rfl⟩, rfl, rfl⟩ hK hP hD hS hX hA (h12 0 (by decide)) (cF_m E _ _ 0) rfl rfl hl.1 rfl (Nat.le_of_ble_eq_true rfl) ⟨Nat.zero_le _, Nat.zero_le _⟩ dX8_readRoof_28 (fun v_14 I_12 J_13 H locs hf hP hD hS => ?_)
        refine lv_if_eq (tgt := 55) S.1 S.2.1 dX8_readRoof_31 (by decide) (fun h_15 => ?_) (fun h_15 => ?_)
        · have hf := hf.1 h_15
          exact jn55 _ _ _ hf _ _ _ hP hD hS (lv_sub hl [1, 0] rfl)
        · have hf := hf.2 h_15
          refine lv_aload_n S.1 S.2.1 dX8_readRoof_34 rfl (lv_at hl 1 rfl) ?_
          refine gfX8_9 S iX8 hK hP (h12 0 (by decide)) k1 dX8_readRoof_35 ?_
          refine lv_iconst (v := 0) S.1 S.2.1 dX8_readRoof_38 rfl ?_
          obtain ⟨h_36, hf⟩ := hf
          refine R_iald S.1 S.2.1 hK hP (h12 3 (by decide)) (IAm3 E) h_36 dX8_readRoof_39 ?_
          refine lv_bipush (v := 6) S.1 S.2.1 dX8_readRoof_40 rfl ?_
          refine lv_icmp_ne (tgt := 55) S.1 S.2.1 dX8_readRoof_42 (by decide) (fun h_37 => ?_) (fun h_37 => ?_)
          · have hf := hf.2 h_37
            exact jn55 _ _ _ hf _ _ _ hP hD hS (lv_sub hl [1, 0] rfl)
          · have hf := hf.1 h_37
            refine lv_aload_n S.1 S.2.1 dX8_readRoof_45 rfl (lv_at hl 1 rfl) ?_
            refine lv_bipush (v := (-5)) S.1 S.2.1 dX8_readRoof_46 rfl ?_
            refine lv_aload_n S.1 S.2.1 dX8_readRoof_48 rfl (lv_at hl 1 rfl) ?_
            refine gfX8_13 S iX8 hK hP (h12 0 (by decide)) k2 dX8_readRoof_49 ?_
            refine R_cVv (As := [.int (-5 : Int32), .int (I_12 12 0 13)]) (rest := []) S (c_X8_report (h12 := h12)  hf) gX8_readRoof_X8_report rfl yk_X8_report ⟨⟨Nat.le_of_ble_eq_true rfl, Nat.le_of_ble_eq_true rfl⟩, rfl, rfl⟩ hK hP hD hS hX hA (h12 0 (by decide)) (cF_m E _ _ 0) rfl rfl hl.1 rfl (Nat.le_of_ble_eq_true rfl) ⟨Nat.zero_le _, Nat.zero_le _⟩ dX8_readRoof_52 (fun I_38 J_39 H locs hf hP hD hS => ?_)
            exact jn55 _ _ _ hf _ _ _ hP hD hS (lv_sub hl [1, 0] rfl)
    refine L19 _ _ (fun I_40 J_41 hf H locs ls hP hD hS hl => ?_) (fun I_42 J_43 hf H locs ls hP hD hS hl => ?_)  n_46  _ _ hf _ _ _ hP hD hS (lv_sub hl [0] rfl)
    · exact hret hf hP hD hS dX8_readRoof_62
    · refine lv_aload_n S.1 S.2.1 dX8_readRoof_97 rfl (lv_at hl 0 rfl) ?_
      refine lv_bipush (v := 59) S.1 S.2.1 dX8_readRoof_98 rfl ?_
      refine R_cVv (As := [.int (59 : Int32)]) (rest := []) S (c_X8_expect (h12 := h12)  hf) gX8_readRoof_X8_expect rfl yk_X8_expect ⟨⟨Nat.le_of_ble_eq_true rfl, Nat.le_of_ble_eq_true rfl⟩, rfl, rfl⟩ hK hP hD hS hX hA (h12 0 (by decide)) (cF_m E _ _ 0) rfl rfl hl.1 rfl (Nat.le_of_ble_eq_true rfl) ⟨Nat.zero_le _, Nat.zero_le _⟩ dX8_readRoof_100 (fun I_44 J_45 H locs hf hP hD hS => ?_)
      exact hret hf hP hD hS dX8_readRoof_103
  intro H locs ls hP hD hS hl
  unfold f_X8_readRoof at hf
  refine lv_aload_n S.1 S.2.1 dX8_readRoof_0 rfl (lv_at hl 0 rfl) ?_
  refine va_ldcS S.1 S.2.1 S.2.2.2.1 (sxvX8_196 hX) dX8_readRoof_1 ?_
  refine R_cVi (As := [.ref (eK E 0)]) (rest := []) S (c_X8_takeWord (h12 := h12) (hw := (by decide)) hf) gX8_readRoof_X8_takeWord rfl yk_X8_takeWord ⟨⟨Nat.le_of_ble_eq_true rfl, Nat.le_of_ble_eq_true rfl⟩, rfl, rfl⟩ hK hP hD hS hX hA (h12 0 (by decide)) (cF_m E _ _ 0) rfl rfl hl.1 rfl (Nat.le_of_ble_eq_true rfl) ⟨Nat.zero_le _, Nat.zero_le _⟩ dX8_readRoof_3 (fun v_3 I_1 J_2 H locs hf hP hD hS => ?_)
  refine lv_if_ne (tgt := 19) S.1 S.2.1 dX8_readRoof_6 (by decide) (fun h_4 => ?_) (fun h_4 => ?_)
  · have hf := hf.2 h_4
    exact jn19 _ _ hf _ _ _ hP hD hS (lv_sub hl [0] rfl)
  · have hf := hf.1 h_4
    refine lv_aload_n S.1 S.2.1 dX8_readRoof_9 rfl (lv_at hl 0 rfl) ?_
    refine lv_bipush (v := (-2)) S.1 S.2.1 dX8_readRoof_10 rfl ?_
    refine lv_aload_n S.1 S.2.1 dX8_readRoof_12 rfl (lv_at hl 0 rfl) ?_
    refine gfX8_4 S iX8 hK hP (h12 0 (by decide)) k3 dX8_readRoof_13 ?_
    refine R_cVv (As := [.int (-2 : Int32), .int (I_1 12 0 4)]) (rest := []) S (c_X8_report (h12 := h12)  hf) gX8_readRoof_X8_report rfl yk_X8_report ⟨⟨Nat.le_of_ble_eq_true rfl, Nat.le_of_ble_eq_true rfl⟩, rfl, rfl⟩ hK hP hD hS hX hA (h12 0 (by decide)) (cF_m E _ _ 0) rfl rfl hl.1 rfl (Nat.le_of_ble_eq_true rfl) ⟨Nat.zero_le _, Nat.zero_le _⟩ dX8_readRoof_16 (fun I_47 J_48 H locs hf hP hD hS => ?_)
    exact jn19 _ _ hf _ _ _ hP hD hS (lv_sub hl [0] rfl)
