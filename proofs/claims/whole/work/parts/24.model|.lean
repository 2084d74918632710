abbrev rmX8_layRow : Room := { frames := 1, cells := 0, slots := 0, locals := 20 }
theorem yk_X8_layRow : yOk yX8_layRow RX8 3 := by unfold yOk; decide +kernel
def f_X8_layRow (b1 : Nat) (r1 : Nat) (n1 : Nat) (x1 : Int32) (x2 : Int32) (I : MI) (J : MJ) (Q : MI → MJ → Prop) : Prop :=
  f_X8_rowAt x1 I J (fun (v_3 : Int32) (I_1 : MI) (J_2 : MJ) => (vp_in (v_3 + (0 : Int32)) n1 ∧ ∀ I_5 : MI, I_5 = sI I_1 b1 r1 (v_3 + (0 : Int32)).toNatClampNeg x2 → f_X8_rowAt x1 I_5 J_2 (fun (v_8 : Int32) (I_6 : MI) (J_7 : MJ) => (vp_in (v_8 + (3 : Int32)) n1 ∧ ∀ I_10 : MI, I_10 = sI I_6 b1 r1 (v_8 + (3 : Int32)).toNatClampNeg (-1 : Int32) → Q I_10 J_7))))
set_option maxRecDepth 100000 in
set_option maxHeartbeats 4000000 in
theorem c_X8_layRow {l : Launch} {E : EV} {ps : List (Nat × Nat)} {b1 r1 n1 : Nat} (hm1 : (b1, r1) ∈ ps) (hc1 : IA E b1 r1 n1) {x1 : Int32} {x2 : Int32} {I : MI} {J : MJ} {Q : MI → MJ → Prop} (hf : f_X8_layRow b1 r1 n1 x1 x2 I J Q) : KV l yX8_layRow wsX8_layRow rmX8_layRow E ps [.ref (eA E b1 r1), .int x1, .int x2] I J Q := by
  refine K_ofV (cc := cX8_layRow) (maxL := 3) (by decide +kernel) rfl (Nat.le_of_ble_eq_true rfl) (fun p e s m args below meth c Qm hret S hK hX => ?_)
  have hA : ∀ q, s.heap.size ≤ q → AA E ps s.heap.size q := fun _ h => Or.inr h
  intro H locs ls hP hD hS hl
  unfold f_X8_layRow at hf
  refine lv_aload_n S.1 S.2.1 dX8_layRow_0 rfl (lv_at hl 0 rfl) ?_
  refine lv_iload_n S.1 S.2.1 dX8_layRow_1 rfl (lv_at hl 1 rfl) ?_
  refine R_cSi (As := [.int x1]) (rest := [.ref (eA E b1 r1)]) S (c_X8_rowAt   hf) gX8_layRow_X8_rowAt rfl yk_X8_rowAt ⟨⟨Nat.le_of_ble_eq_true rfl, Nat.le_of_ble_eq_true rfl⟩, rfl, rfl⟩ hK hP hD hS hX hA rfl hl.1 rfl (Nat.le_of_ble_eq_true rfl) ⟨Nat.zero_le _, Nat.zero_le _⟩ dX8_layRow_2 (fun v_3 I_1 J_2 H locs hf hP hD hS => ?_)
  refine lv_iconst (v := 0) S.1 S.2.1 dX8_layRow_5 rfl ?_
  refine lv_iadd S.1 S.2.1 dX8_layRow_6 ?_
  refine lv_iload_n S.1 S.2.1 dX8_layRow_7 rfl (lv_at hl 2 rfl) ?_
  obtain ⟨h_4, hf⟩ := hf
  refine nm_o hf (fun I_5 eI_5 hf => ?_)
  refine R_iast S.1 S.2.1 hK hP hD hS hm1 hc1 h_4 dX8_layRow_8 eI_5 (fun H locs hP hD hS => ?_)
  refine lv_aload_n S.1 S.2.1 dX8_layRow_9 rfl (lv_at hl 0 rfl) ?_
  refine lv_iload_n S.1 S.2.1 dX8_layRow_10 rfl (lv_at hl 1 rfl) ?_
  refine R_cSi (As := [.int x1]) (rest := [.ref (eA E b1 r1)]) S (c_X8_rowAt   hf) gX8_layRow_X8_rowAt rfl yk_X8_rowAt ⟨⟨Nat.le_of_ble_eq_true rfl, Nat.le_of_ble_eq_true rfl⟩, rfl, rfl⟩ hK hP hD hS hX hA rfl hl.1 rfl (Nat.le_of_ble_eq_true rfl) ⟨Nat.zero_le _, Nat.zero_le _⟩ dX8_layRow_11 (fun v_8 I_6 J_7 H locs hf hP hD hS => ?_)
  refine lv_iconst (v := 3) S.1 S.2.1 dX8_layRow_14 rfl ?_
  refine lv_iadd S.1 S.2.1 dX8_layRow_15 ?_
  refine lv_iconst (v := (-1)) S.1 S.2.1 dX8_layRow_16 rfl ?_
  obtain ⟨h_9, hf⟩ := hf
  refine nm_o hf (fun I_10 eI_10 hf => ?_)
  refine R_iast S.1 S.2.1 hK hP hD hS hm1 hc1 h_9 dX8_layRow_17 eI_10 (fun H locs hP hD hS => ?_)
  exact hret hf hP hD hS dX8_layRow_18
abbrev rmX8_readRoof : Room := { frames := 5, cells := 0, slots := 0, locals := 107 }
theorem yk_X8_readRoof : yOk yX8_readRoof RX8 0 := by unfold yOk; decide +kernel
def f_X8_readRoof_J55 (K62 : MI → MJ → Prop) (K97 : MI → MJ → Prop) (rec19 : MI → MJ → Prop) (x1_14 : Int32) (I_15 : MI) (J_16 : MJ) : Prop :=
  f_X8_isGood I_15 J_16 (fun (v_19 : Int32) (I_17 : MI) (J_18 : MJ) => ((v_19 = (0 : Int32) → K62 I_17 J_18) ∧ (¬ v_19 = (0 : Int32) → (vp_in (0 : Int32) 1802 ∧ f_X8_layRow 12 3 1802 (I_17 12 3 (0 : Int32).toNatClampNeg) x1_14 I_17 J_18 (fun (I_22 : MI) (J_23 : MJ) => (vp_in (0 : Int32) 1802 ∧ (vp_in (0 : Int32) 1802 ∧ ∀ I_26 : MI, I_26 = sI I_22 12 3 (0 : Int32).toNatClampNeg ((I_22 12 3 (0 : Int32).toNatClampNeg) + (1 : Int32)) → f_X8_ahead I_26 J_23 (fun (v_29 : Int32) (I_27 : MI) (J_28 : MJ) => f_X8_isDigit v_29 I_27 J_28 (fun (v_32 : Int32) (I_30 : MI) (J_31 : MJ) => ((v_32 = (0 : Int32) → K97 I_30 J_31) ∧ (¬ v_32 = (0 : Int32) → rec19 I_30 J_31)))))))))))
def f_X8_readRoof_B19 (K62 : MI → MJ → Prop) (K97 : MI → MJ → Prop) (rec19 : MI → MJ → Prop) (I_5 : MI) (J_6 : MJ) : Prop :=
  f_X8_number (1 : Int32) (40 : Int32) I_5 J_6 (fun (v_9 : Int32) (I_7 : MI) (J_8 : MJ) => f_X8_isGood I_7 J_8 (fun (v_12 : Int32) (I_10 : MI) (J_11 : MJ) => ((v_12 = (0 : Int32) → f_X8_readRoof_J55 K62 K97 rec19 v_9 I_10 J_11) ∧ (¬ v_12 = (0 : Int32) → (vp_in (0 : Int32) 1802 ∧ (((I_10 12 3 (0 : Int32).toNatClampNeg) = (6 : Int32) → f_X8_report (-5 : Int32) (I_10 12 0 13) I_10 J_11 (fun (I_36 : MI) (J_37 : MJ) => f_X8_readRoof_J55 K62 K97 rec19 v_9 I_36 J_37)) ∧ (¬ (I_10 12 3 (0 : Int32).toNatClampNeg) = (6 : Int32) → f_X8_readRoof_J55 K62 K97 rec19 v_9 I_10 J_11)))))))
def f_X8_readRoof_L19 (K62 : MI → MJ → Prop) (K97 : MI → MJ → Prop) : Nat → MI → MJ → Prop
  | 0, _, _ => False
  | n + 1, I_5, J_6 => f_X8_readRoof_B19 K62 K97 (f_X8_readRoof_L19 K62 K97 n) I_5 J_6
def f_X8_readRoof_J55 (K62 : MI → MJ → Prop) (K97 : MI → MJ → Prop) (rec19 : MI → MJ → Prop) (x1_56 : Int32) (I_57 : MI) (J_58 : MJ) : Prop :=
  f_X8_isGood I_57 J_58 (fun (v_61 : Int32) (I_59 : MI) (J_60 : MJ) => ((v_61 = (0 : Int32) → K62 I_59 J_60) ∧ (¬ v_61 = (0 : Int32) → (vp_in (0 : Int32) 1802 ∧ f_X8_layRow 12 3 1802 (I_59 12 3 (0 : Int32).toNatClampNeg) x1_56 I_59 J_60 (fun (I_64 : MI) (J_65 : MJ) => (vp_in (0 : Int32) 1802 ∧ (vp_in (0 : Int32) 1802 ∧ ∀ I_68 : MI, I_68 = sI I_64 12 3 (0 : Int32).toNatClampNeg ((I_64 12 3 (0 : Int32).toNatClampNeg) + (1 : Int32)) → f_X8_ahead I_68 J_65 (fun (v_71 : Int32) (I_69 : MI) (J_70 : MJ) => f_X8_isDigit v_71 I_69 J_70 (fun (v_74 : Int32) (I_72 : MI) (J_73 : MJ) => ((v_74 = (0 : Int32) → K97 I_72 J_73) ∧ (¬ v_74 = (0 : Int32) → rec19 I_72 J_73)))))))))))
def f_X8_readRoof_B19 (K62 : MI → MJ → Prop) (K97 : MI → MJ → Prop) (rec19 : MI → MJ → Prop) (I_47 : MI) (J_48 : MJ) : Prop :=
  f_X8_number (1 : Int32) (40 : Int32) I_47 J_48 (fun (v_51 : Int32) (I_49 : MI) (J_50 : MJ) => f_X8_isGood I_49 J_50 (fun (v_54 : Int32) (I_52 : MI) (J_53 : MJ) => ((v_54 = (0 : Int32) → f_X8_readRoof_J55 K62 K97 rec19 v_51 I_52 J_53) ∧ (¬ v_54 = (0 : Int32) → (vp_in (0 : Int32) 1802 ∧ (((I_52 12 3 (0 : Int32).toNatClampNeg) = (6 : Int32) → f_X8_report (-5 : Int32) (I_52 12 0 13) I_52 J_53 (fun (I_78 : MI) (J_79 : MJ) => f_X8_readRoof_J55 K62 K97 rec19 v_51 I_78 J_79)) ∧ (¬ (I_52 12 3 (0 : Int32).toNatClampNeg) = (6 : Int32) → f_X8_readRoof_J55 K62 K97 rec19 v_51 I_52 J_53)))))))
def f_X8_readRoof_L19 (K62 : MI → MJ → Prop) (K97 : MI → MJ → Prop) : Nat → MI → MJ → Prop
  | 0, _, _ => False
  | n + 1, I_47, J_48 => f_X8_readRoof_B19 K62 K97 (f_X8_readRoof_L19 K62 K97 n) I_47 J_48
def f_X8_readRoof (I : MI) (J : MJ) (Q : MI → MJ → Prop) : Prop :=
  f_X8_takeWord 0 I J (fun (v_3 : Int32) (I_1 : MI) (J_2 : MJ) => ((v_3 = (0 : Int32) → f_X8_report (-2 : Int32) (I_1 12 0 4) I_1 J_2 (fun (I_45 : MI) (J_46 : MJ) => ∃ n : Nat, f_X8_readRoof_L19 (fun (I_80 : MI) (J_81 : MJ) => Q I_80 J_81) (fun (I_82 : MI) (J_83 : MJ) => f_X8_expect (59 : Int32) I_82 J_83 (fun (I_84 : MI) (J_85 : MJ) => Q I_84 J_85)) n  I_45 J_46)) ∧ (¬ v_3 = (0 : Int32) → ∃ n : Nat, f_X8_readRoof_L19 (fun (I_38 : MI) (J_39 : MJ) => Q I_38 J_39) (fun (I_40 : MI) (J_41 : MJ) => f_X8_expect (59 : Int32) I_40 J_41 (fun (I_42 : MI) (J_43 : MJ) => Q I_42 J_43)) n  I_1 J_2)))
set_option maxRecDepth 100000 in
set_option maxHeartbeats 4000000 in
theorem c_X8_readRoof {l : Launch} {E : EV} {ps : List (Nat × Nat)} (h12 : ∀ r, r < 17 → (12, r) ∈ ps) {I : MI} {J : MJ} {Q : MI → MJ → Prop} (hf : f_X8_readRoof I J Q) : KV l yX8_readRoof wsX8_readRoof rmX8_readRoof E ps [.ref (eA E 12 0)] I J Q := by
  refine K_ofV (cc := cX8_readRoof) (maxL := 2) (by decide +kernel) rfl (Nat.le_of_ble_eq_true rfl) (fun p e s m args below meth c Qm hret S hK hX => ?_)
  have hA : ∀ q, s.heap.size ≤ q → AA E ps s.heap.size q := fun _ h => Or.inr h
  have k1 := S.2.2.2.2 (.fieldLink RX8 20 "RhymeRoofsModel" "draft" "[I") (by decide +kernel)
  have iX8 : ∀ w ∈ wsX80, w ∈ wsX8_readRoof := fun _ h => List.mem_cons_of_mem _ (List.mem_append_right _ h)
  have k2 := S.2.2.2.2 (.fieldLink RX8 106 "RhymeRoofsModel" "numberStart" "I") (by decide +kernel)
  have k3 := S.2.2.2.2 (.fieldLink RX8 65 "RhymeRoofsModel" "position" "I") (by decide +kernel)
  intro H locs ls hP hD hS hl
  unfold f_X8_readRoof at hf
  refine lv_aload_n S.1 S.2.1 dX8_readRoof_0 rfl (lv_at hl 0 rfl) ?_
  refine va_ldcS S.1 S.2.1 S.2.2.2.1 (sxvX8_196 hX) dX8_readRoof_1 ?_
  refine R_cVi (As := [.ref (eK E 0)]) (rest := []) S (c_X8_takeWord (h12 := h12) (hw := (by decide)) hf) gX8_readRoof_X8_takeWord rfl yk_X8_takeWord ⟨⟨Nat.le_of_ble_eq_true rfl, Nat.le_of_ble_eq_true rfl⟩, rfl, rfl⟩ hK hP hD hS hX hA (h12 0 (by decide)) (cF_m E _ _ 0) rfl rfl hl.1 rfl (Nat.le_of_ble_eq_true rfl) ⟨Nat.zero_le _, Nat.zero_le _⟩ dX8_readRoof_3 (fun v_3 I_1 J_2 H locs hf hP hD hS => ?_)
  refine lv_if_ne (tgt := 19) S.1 S.2.1 dX8_readRoof_6 (by decide) (fun h_4 => ?_) (fun h_4 => ?_)
  · have hf := hf.2 h_4
    obtain ⟨n_44, hf⟩ := hf
    have L19 : ∀ (K62 : MI → MJ → Prop), ∀ (K97 : MI → MJ → Prop), (∀ (I_38 : MI) (J_39 : MJ), K62 I_38 J_39 → Wj p l e (rmX8_readRoof) s m args below meth c Qm E ps 2 I_38 J_39 62 [] []) → (∀ (I_40 : MI) (J_41 : MJ), K97 I_40 J_41 → Wj p l e (rmX8_readRoof) s m args below meth c Qm E ps 2 I_40 J_41 97 [(0, .ref (eA E 12 0))] []) → ∀ (n : Nat) (I_5 : MI) (J_6 : MJ), f_X8_readRoof_L19 K62 K97 n I_5 J_6 → Wj p l e (rmX8_readRoof) s m args below meth c Qm E ps 2 I_5 J_6 19 [(0, .ref (eA E 12 0))] [] := by
      intro K62 K97 kx62 kx97 n
      induction n with
      | zero => intro I_5 J_6 hf; exact hf.elim
      | succ n ih19 =>
        intro I_5 J_6 hf
        have hf : f_X8_readRoof_B19 K62 K97 (f_X8_readRoof_L19 K62 K97 n) I_5 J_6 := hf
        have jn55 : ∀ (x1_14 : Int32) (I_15 : MI) (J_16 : MJ), f_X8_readRoof_J55 K62 K97 (f_X8_readRoof_L19 K62 K97 n) x1_14 I_15 J_16 → Wj p l e (rmX8_readRoof) s m args below meth c Qm E ps 2 I_15 J_16 55 [(0, .ref (eA E 12 0)), (1, .int x1_14)] [] := by
          intro x1_14 I_15 J_16 hf H locs ls hP hD hS hl
          unfold f_X8_readRoof_J55 at hf
          refine lv_aload_n S.1 S.2.1 dX8_readRoof_55 rfl (lv_at hl 0 rfl) ?_
          refine R_cVi (As := []) (rest := []) S (c_X8_isGood (h12 := h12)  hf) gX8_readRoof_X8_isGood rfl yk_X8_isGood ⟨⟨Nat.le_of_ble_eq_true rfl, Nat.le_of_ble_eq_true rfl⟩, rfl, rfl⟩ hK hP hD hS hX hA (h12 0 (by decide)) (cF_m E _ _ 0) rfl rfl hl.1 rfl (Nat.le_of_ble_eq_true rfl) ⟨Nat.zero_le _, Nat.zero_le _⟩ dX8_readRoof_56 (fun v_19 I_17 J_18 H locs hf hP hD hS => ?_)
          refine lv_if_ne (tgt := 63) S.1 S.2.1 dX8_readRoof_59 (by decide) (fun h_20 => ?_) (fun h_20 => ?_)
          · have hf := hf.2 h_20
            refine lv_aload_n S.1 S.2.1 dX8_readRoof_63 rfl (lv_at hl 0 rfl) ?_
            refine gfX8_9 S iX8 hK hP (h12 0 (by decide)) k1 dX8_readRoof_64 ?_
            refine lv_aload_n S.1 S.2.1 dX8_readRoof_67 rfl (lv_at hl 0 rfl) ?_
            refine gfX8_9 S iX8 hK hP (h12 0 (by decide)) k1 dX8_readRoof_68 ?_
            refine lv_iconst (v := 0) S.1 S.2.1 dX8_readRoof_71 rfl ?_
            obtain ⟨h_21, hf⟩ := hf
            refine R_iald S.1 S.2.1 hK hP (h12 3 (by decide)) (IAm3 E) h_21 dX8_readRoof_72 ?_
            refine lv_iload_n S.1 S.2.1 dX8_readRoof_73 rfl (lv_at hl 1 rfl) ?_
            refine R_cSv (As := [.ref (eA E 12 3), .int (I_17 12 3 (0 : Int32).toNatClampNeg), .int x1_14]) (rest := []) S (c_X8_layRow  (hm1 := (h12 3 (by decide))) (hc1 := (IAm3 E)) hf) gX8_readRoof_X8_layRow rfl yk_X8_layRow ⟨⟨Nat.le_of_ble_eq_true rfl, Nat.le_of_ble_eq_true rfl⟩, rfl, rfl⟩ hK hP hD hS hX hA rfl hl.1 rfl (Nat.le_of_ble_eq_true rfl) ⟨Nat.zero_le _, Nat.zero_le _⟩ dX8_readRoof_74 (fun I_22 J_23 H locs hf hP hD hS => ?_)
            refine lv_aload_n S.1 S.2.1 dX8_readRoof_77 rfl (lv_at hl 0 rfl) ?_
            refine gfX8_9 S iX8 hK hP (h12 0 (by decide)) k1 dX8_readRoof_78 ?_
            refine lv_iconst (v := 0) S.1 S.2.1 dX8_readRoof_81 rfl ?_
            refine lv_dup2_11 S.1 S.2.1 dX8_readRoof_82 rfl rfl ?_
            obtain ⟨h_24, hf⟩ := hf
            refine R_iald S.1 S.2.1 hK hP (h12 3 (by decide)) (IAm3 E) h_24 dX8_readRoof_83 ?_
            refine lv_iconst (v := 1) S.1 S.2.1 dX8_readRoof_84 rfl ?_
            refine lv_iadd S.1 S.2.1 dX8_readRoof_85 ?_
            obtain ⟨h_25, hf⟩ := hf
            refine nm_o hf (fun I_26 eI_26 hf => ?_)
            refine R_iast S.1 S.2.1 hK hP hD hS (h12 3 (by decide)) (IAm3 E) h_25 dX8_readRoof_86 eI_26 (fun H locs hP hD hS => ?_)
            refine lv_aload_n S.1 S.2.1 dX8_readRoof_87 rfl (lv_at hl 0 rfl) ?_
            refine R_cVi (As := []) (rest := []) S (c_X8_ahead (h12 := h12)  hf) gX8_readRoof_X8_ahead rfl yk_X8_ahead ⟨⟨Nat.le_of_ble_eq_true rfl, Nat.le_of_ble_eq_true rfl⟩, rfl, rfl⟩ hK hP hD hS hX hA (h12 0 (by decide)) (cF_m E _ _ 0) rfl rfl hl.1 rfl (Nat.le_of_ble_eq_true rfl) ⟨Nat.zero_le _, Nat.zero_le _⟩ dX8_readRoof_88 (fun v_29 I_27 J_28 H locs hf hP hD hS => ?_)
            refine R_cSi (As := [.int v_29]) (rest := []) S (c_X8_isDigit   hf) gX8_readRoof_X8_isDigit rfl yk_X8_isDigit ⟨⟨Nat.le_of_ble_eq_true rfl, Nat.le_of_ble_eq_true rfl⟩, rfl, rfl⟩ hK hP hD hS hX hA rfl hl.1 rfl (Nat.le_of_ble_eq_true rfl) ⟨Nat.zero_le _, Nat.zero_le _⟩ dX8_readRoof_91 (fun v_32 I_30 J_31 H locs hf hP hD hS => ?_)
            refine lv_if_ne (tgt := 19) S.1 S.2.1 dX8_readRoof_94 (by decide) (fun h_33 => ?_) (fun h_33 => ?_)
            · have hf := hf.2 h_33
              exact ih19 _ _ hf _ _ _ hP hD hS (lv_sub hl [0] rfl)
            · have hf := hf.1 h_33
              exact kx97 _ _ hf _ _ _ hP hD hS (lv_sub hl [0] rfl)
          · have hf := hf.1 h_20
            exact kx62 _ _ hf _ _ _ hP hD hS (lv_sub hl [] rfl)
        intro H locs ls hP hD hS hl
        unfold f_X8_readRoof_B19 at hf
        refine lv_aload_n S.1 S.2.1 dX8_readRoof_19 rfl (lv_at hl 0 rfl) ?_
        refine lv_iconst (v := 1) S.1 S.2.1 dX8_readRoof_20 rfl ?_
        refine lv_bipush (v := 40) S.1 S.2.1 dX8_readRoof_21 rfl ?_
        refine R_cVi (As := [.int (1 : Int32), .int (40 : Int32)]) (rest := []) S (c_X8_number (h12 := h12)  hf) gX8_readRoof_X8_number rfl yk_X8_number ⟨⟨Nat.le_of_ble_eq_true rfl, Nat.le_of_ble_eq_true rfl⟩, rfl, rfl⟩ hK hP hD hS hX hA (h12 0 (by decide)) (cF_m E _ _ 0) rfl rfl hl.1 rfl (Nat.le_of_ble_eq_true rfl) ⟨Nat.zero_le _, Nat.zero_le _⟩ dX8_readRoof_23 (fun v_9 I_7 J_8 H locs hf hP hD hS => ?_)
        refine lv_istore_n (lv' := [(1, .int v_9), (0, .ref (eA E 12 0))]) S.1 S.2.1 dX8_readRoof_26 rfl hl (by decide) rfl (fun ls hl => ?_)
        refine lv_aload_n S.1 S.2.1 dX8_readRoof_27 rfl (lv_at hl 1 rfl) ?_
        refine R_cVi (As := []) (rest := []) S (c_X8_isGood (h12 := h12)  hf) gX8_readRoof_X8_isGood rfl yk_X8_isGood ⟨⟨Nat.le_of_ble_eq_true rfl, Nat.le_of_ble_eq_true rfl⟩, rfl, rfl⟩ hK hP hD hS hX hA (h12 0 (by decide)) (cF_m E _ _ 0) rfl rfl hl.1 rfl (Nat.le_of_ble_eq_true rfl) ⟨Nat.zero_le _, Nat.zero_le _⟩ dX8_readRoof_28 (fun v_12 I_10 J_11 H locs hf hP hD hS => ?_)
        refine lv_if_eq (tgt := 55) S.1 S.2.1 dX8_readRoof_31 (by decide) (fun h_13 => ?_) (fun h_13 => ?_)
        · have hf := hf.1 h_13
          exact jn55 _ _ _ hf _ _ _ hP hD hS (lv_sub hl [1, 0] rfl)
        · have hf := hf.2 h_13
          refine lv_aload_n S.1 S.2.1 dX8_readRoof_34 rfl (lv_at hl 1 rfl) ?_
          refine gfX8_9 S iX8 hK hP (h12 0 (by decide)) k1 dX8_readRoof_35 ?_
          refine lv_iconst (v := 0) S.1 S.2.1 dX8_readRoof_38 rfl ?_
          obtain ⟨h_34, hf⟩ := hf
          refine R_iald S.1 S.2.1 hK hP (h12 3 (by decide)) (IAm3 E) h_34 dX8_readRoof_39 ?_
          refine lv_bipush (v := 6) S.1 S.2.1 dX8_readRoof_40 rfl ?_
          refine lv_icmp_ne (tgt := 55) S.1 S.2.1 dX8_readRoof_42 (by decide) (fun h_35 => ?_) (fun h_35 => ?_)
          · have hf := hf.2 h_35
            exact jn55 _ _ _ hf _ _ _ hP hD hS (lv_sub hl [1, 0] rfl)
          · have hf := hf.1 h_35
            refine lv_aload_n S.1 S.2.1 dX8_readRoof_45 rfl (lv_at hl 1 rfl) ?_
            refine lv_bipush (v := (-5)) S.1 S.2.1 dX8_readRoof_46 rfl ?_
            refine lv_aload_n S.1 S.2.1 dX8_readRoof_48 rfl (lv_at hl 1 rfl) ?_
            refine gfX8_13 S iX8 hK hP (h12 0 (by decide)) k2 dX8_readRoof_49 ?_
            refine R_cVv (As := [.int (-5 : Int32), .int (I_10 12 0 13)]) (rest := []) S (c_X8_report (h12 := h12)  hf) gX8_readRoof_X8_report rfl yk_X8_report ⟨⟨Nat.le_of_ble_eq_true rfl, Nat.le_of_ble_eq_true rfl⟩, rfl, rfl⟩ hK hP hD hS hX hA (h12 0 (by decide)) (cF_m E _ _ 0) rfl rfl hl.1 rfl (Nat.le_of_ble_eq_true rfl) ⟨Nat.zero_le _, Nat.zero_le _⟩ dX8_readRoof_52 (fun I_36 J_37 H locs hf hP hD hS => ?_)
            exact jn55 _ _ _ hf _ _ _ hP hD hS (lv_sub hl [1, 0] rfl)
    refine L19 _ _ (fun I_38 J_39 hf H locs ls hP hD hS hl => ?_) (fun I_40 J_41 hf H locs ls hP hD hS hl => ?_)  n_44  _ _ hf _ _ _ hP hD hS (lv_sub hl [0] rfl)
    · exact hret hf hP hD hS dX8_readRoof_62
    · refine lv_aload_n S.1 S.2.1 dX8_readRoof_97 rfl (lv_at hl 0 rfl) ?_
      refine lv_bipush (v := 59) S.1 S.2.1 dX8_readRoof_98 rfl ?_
      refine R_cVv (As := [.int (59 : Int32)]) (rest := []) S (c_X8_expect (h12 := h12)  hf) gX8_readRoof_X8_expect rfl yk_X8_expect ⟨⟨Nat.le_of_ble_eq_true rfl, Nat.le_of_ble_eq_true rfl⟩, rfl, rfl⟩ hK hP hD hS hX hA (h12 0 (by decide)) (cF_m E _ _ 0) rfl rfl hl.1 rfl (Nat.le_of_ble_eq_true rfl) ⟨Nat.zero_le _, Nat.zero_le _⟩ dX8_readRoof_100 (fun I_42 J_43 H locs hf hP hD hS => ?_)
      exact hret hf hP hD hS dX8_readRoof_103
  · have hf := hf.1 h_4
    refine lv_aload_n S.1 S.2.1 dX8_readRoof_9 rfl (lv_at hl 0 rfl) ?_
    refine lv_bipush (v := (-2)) S.1 S.2.1 dX8_readRoof_10 rfl ?_
    refine lv_aload_n S.1 S.2.1 dX8_readRoof_12 rfl (lv_at hl 0 rfl) ?_
    refine gfX8_4 S iX8 hK hP (h12 0 (by decide)) k3 dX8_readRoof_13 ?_
    refine R_cVv (As := [.int (-2 : Int32), .int (I_1 12 0 4)]) (rest := []) S (c_X8_report (h12 := h12)  hf) gX8_readRoof_X8_report rfl yk_X8_report ⟨⟨Nat.le_of_ble_eq_true rfl, Nat.le_of_ble_eq_true rfl⟩, rfl, rfl⟩ hK hP hD hS hX hA (h12 0 (by decide)) (cF_m E _ _ 0) rfl rfl hl.1 rfl (Nat.le_of_ble_eq_true rfl) ⟨Nat.zero_le _, Nat.zero_le _⟩ dX8_readRoof_16 (fun I_45 J_46 H locs hf hP hD hS => ?_)
    obtain ⟨n_86, hf⟩ := hf
    have L19 : ∀ (K62 : MI → MJ → Prop), ∀ (K97 : MI → MJ → Prop), (∀ (I_80 : MI) (J_81 : MJ), K62 I_80 J_81 → Wj p l e (rmX8_readRoof) s m args below meth c Qm E ps 2 I_80 J_81 62 [] []) → (∀ (I_82 : MI) (J_83 : MJ), K97 I_82 J_83 → Wj p l e (rmX8_readRoof) s m args below meth c Qm E ps 2 I_82 J_83 97 [(0, .ref (eA E 12 0))] []) → ∀ (n : Nat) (I_47 : MI) (J_48 : MJ), f_X8_readRoof_L19 K62 K97 n I_47 J_48 → Wj p l e (rmX8_readRoof) s m args below meth c Qm E ps 2 I_47 J_48 19 [(0, .ref (eA E 12 0))] [] := by
      intro K62 K97 kx62 kx97 n
      induction n with
      | zero => intro I_47 J_48 hf; exact hf.elim
      | succ n ih19 =>
        intro I_47 J_48 hf
        have hf : f_X8_readRoof_B19 K62 K97 (f_X8_readRoof_L19 K62 K97 n) I_47 J_48 := hf
        have jn55 : ∀ (x1_56 : Int32) (I_57 : MI) (J_58 : MJ), f_X8_readRoof_J55 K62 K97 (f_X8_readRoof_L19 K62 K97 n) x1_56 I_57 J_58 → Wj p l e (rmX8_readRoof) s m args below meth c Qm E ps 2 I_57 J_58 55 [(0, .ref (eA E 12 0)), (1, .int x1_56)] [] := by
          intro x1_56 I_57 J_58 hf H locs ls hP hD hS hl
          unfold f_X8_readRoof_J55 at hf
          refine lv_aload_n S.1 S.2.1 dX8_readRoof_55 rfl (lv_at hl 0 rfl) ?_
          refine R_cVi (As := []) (rest := []) S (c_X8_isGood (h12 := h12)  hf) gX8_readRoof_X8_isGood rfl yk_X8_isGood ⟨⟨Nat.le_of_ble_eq_true rfl, Nat.le_of_ble_eq_true rfl⟩, rfl, rfl⟩ hK hP hD hS hX hA (h12 0 (by decide)) (cF_m E _ _ 0) rfl rfl hl.1 rfl (Nat.le_of_ble_eq_true rfl) ⟨Nat.zero_le _, Nat.zero_le _⟩ dX8_readRoof_56 (fun v_61 I_59 J_60 H locs hf hP hD hS => ?_)
          refine lv_if_ne (tgt := 63) S.1 S.2.1 dX8_readRoof_59 (by decide) (fun h_62 => ?_) (fun h_62 => ?_)
          · have hf := hf.2 h_62
            refine lv_aload_n S.1 S.2.1 dX8_readRoof_63 rfl (lv_at hl 0 rfl) ?_
            refine gfX8_9 S iX8 hK hP (h12 0 (by decide)) k1 dX8_readRoof_64 ?_
            refine lv_aload_n S.1 S.2.1 dX8_readRoof_67 rfl (lv_at hl 0 rfl) ?_
            refine gfX8_9 S iX8 hK hP (h12 0 (by decide)) k1 dX8_readRoof_68 ?_
            refine lv_iconst (v := 0) S.1 S.2.1 dX8_readRoof_71 rfl ?_
            obtain ⟨h_63, hf⟩ := hf
            refine R_iald S.1 S.2.1 hK hP (h12 3 (by decide)) (IAm3 E) h_63 dX8_readRoof_72 ?_
            refine lv_iload_n S.1 S.2.1 dX8_readRoof_73 rfl (lv_at hl 1 rfl) ?_
            refine R_cSv (As := [.ref (eA E 12 3), .int (I_59 12 3 (0 : Int32).toNatClampNeg), .int x1_56]) (rest := []) S (c_X8_layRow  (hm1 := (h12 3 (by decide))) (hc1 := (IAm3 E)) hf) gX8_readRoof_X8_layRow rfl yk_X8_layRow ⟨⟨Nat.le_of_ble_eq_true rfl, Nat.le_of_ble_eq_true rfl⟩, rfl, rfl⟩ hK hP hD hS hX hA rfl hl.1 rfl (Nat.le_of_ble_eq_true rfl) ⟨Nat.zero_le _, Nat.zero_le _⟩ dX8_readRoof_74 (fun I_64 J_65 H locs hf hP hD hS => ?_)
            refine lv_aload_n S.1 S.2.1 dX8_readRoof_77 rfl (lv_at hl 0 rfl) ?_
            refine gfX8_9 S iX8 hK hP (h12 0 (by decide)) k1 dX8_readRoof_78 ?_
            refine lv_iconst (v := 0) S.1 S.2.1 dX8_readRoof_81 rfl ?_
            refine lv_dup2_11 S.1 S.2.1 dX8_readRoof_82 rfl rfl ?_
            obtain ⟨h_66, hf⟩ := hf
            refine R_iald S.1 S.2.1 hK hP (h12 3 (by decide)) (IAm3 E) h_66 dX8_readRoof_83 ?_
            refine lv_iconst (v := 1) S.1 S.2.1 dX8_readRoof_84 rfl ?_
            refine lv_iadd S.1 S.2.1 dX8_readRoof_85 ?_
            obtain ⟨h_67, hf⟩ := hf
            refine nm_o hf (fun I_68 eI_68 hf => ?_)
            refine R_iast S.1 S.2.1 hK hP hD hS (h12 3 (by decide)) (IAm3 E) h_67 dX8_readRoof_86 eI_68 (fun H locs hP hD hS => ?_)
            refine lv_aload_n S.1 S.2.1 dX8_readRoof_87 rfl (lv_at hl 0 rfl) ?_
            refine R_cVi (As := []) (rest := []) S (c_X8_ahead (h12 := h12)  hf) gX8_readRoof_X8_ahead rfl yk_X8_ahead ⟨⟨Nat.le_of_ble_eq_true rfl, Nat.le_of_ble_eq_true rfl⟩, rfl, rfl⟩ hK hP hD hS hX hA (h12 0 (by decide)) (cF_m E _ _ 0) rfl rfl hl.1 rfl (Nat.le_of_ble_eq_true rfl) ⟨Nat.zero_le _, Nat.zero_le _⟩ dX8_readRoof_88 (fun v_71 I_69 J_70 H locs hf hP hD hS => ?_)
            refine R_cSi (As := [.int v_71]) (rest := []) S (c_X8_isDigit   hf) gX8_readRoof_X8_isDigit rfl yk_X8_isDigit ⟨⟨Nat.le_of_ble_eq_true rfl, Nat.le_of_ble_eq_true rfl⟩, rfl, rfl⟩ hK hP hD hS hX hA rfl hl.1 rfl (Nat.le_of_ble_eq_true rfl) ⟨Nat.zero_le _, Nat.zero_le _⟩ dX8_readRoof_91 (fun v_74 I_72 J_73 H locs hf hP hD hS => ?_)
            refine lv_if_ne (tgt := 19) S.1 S.2.1 dX8_readRoof_94 (by decide) (fun h_75 => ?_) (fun h_75 => ?_)
            · have hf := hf.2 h_75
              exact ih19 _ _ hf _ _ _ hP hD hS (lv_sub hl [0] rfl)
            · have hf := hf.1 h_75
              exact kx97 _ _ hf _ _ _ hP hD hS (lv_sub hl [0] rfl)
          · have hf := hf.1 h_62
            exact kx62 _ _ hf _ _ _ hP hD hS (lv_sub hl [] rfl)
        intro H locs ls hP hD hS hl
        unfold f_X8_readRoof_B19 at hf
        refine lv_aload_n S.1 S.2.1 dX8_readRoof_19 rfl (lv_at hl 0 rfl) ?_
        refine lv_iconst (v := 1) S.1 S.2.1 dX8_readRoof_20 rfl ?_
        refine lv_bipush (v := 40) S.1 S.2.1 dX8_readRoof_21 rfl ?_
        refine R_cVi (As := [.int (1 : Int32), .int (40 : Int32)]) (rest := []) S (c_X8_number (h12 := h12)  hf) gX8_readRoof_X8_number rfl yk_X8_number ⟨⟨Nat.le_of_ble_eq_true rfl, Nat.le_of_ble_eq_true rfl⟩, rfl, rfl⟩ hK hP hD hS hX hA (h12 0 (by decide)) (cF_m E _ _ 0) rfl rfl hl.1 rfl (Nat.le_of_ble_eq_true rfl) ⟨Nat.zero_le _, Nat.zero_le _⟩ dX8_readRoof_23 (fun v_51 I_49 J_50 H locs hf hP hD hS => ?_)
        refine lv_istore_n (lv' := [(1, .int v_51), (0, .ref (eA E 12 0))]) S.1 S.2.1 dX8_readRoof_26 rfl hl (by decide) rfl (fun ls hl => ?_)
        refine lv_aload_n S.1 S.2.1 dX8_readRoof_27 rfl (lv_at hl 1 rfl) ?_
        refine R_cVi (As := []) (rest := []) S (c_X8_isGood (h12 := h12)  hf) gX8_readRoof_X8_isGood rfl yk_X8_isGood ⟨⟨Nat.le_of_ble_eq_true rfl, Nat.le_of_ble_eq_true rfl⟩, rfl, rfl⟩ hK hP hD hS hX hA (h12 0 (by decide)) (cF_m E _ _ 0) rfl rfl hl.1 rfl (Nat.le_of_ble_eq_true rfl) ⟨Nat.zero_le _, Nat.zero_le _⟩ dX8_readRoof_28 (fun v_54 I_52 J_53 H locs hf hP hD hS => ?_)
        refine lv_if_eq (tgt := 55) S.1 S.2.1 dX8_readRoof_31 (by decide) (fun h_55 => ?_) (fun h_55 => ?_)
        · have hf := hf.1 h_55
          exact jn55 _ _ _ hf _ _ _ hP hD hS (lv_sub hl [1, 0] rfl)
        · have hf := hf.2 h_55
          refine lv_aload_n S.1 S.2.1 dX8_readRoof_34 rfl (lv_at hl 1 rfl) ?_
          refine gfX8_9 S iX8 hK hP (h12 0 (by decide)) k1 dX8_readRoof_35 ?_
          refine lv_iconst (v := 0) S.1 S.2.1 dX8_readRoof_38 rfl ?_
          obtain ⟨h_76, hf⟩ := hf
          refine R_iald S.1 S.2.1 hK hP (h12 3 (by decide)) (IAm3 E) h_76 dX8_readRoof_39 ?_
          refine lv_bipush (v := 6) S.1 S.2.1 dX8_readRoof_40 rfl ?_
          refine lv_icmp_ne (tgt := 55) S.1 S.2.1 dX8_readRoof_42 (by decide) (fun h_77 => ?_) (fun h_77 => ?_)
          · have hf := hf.2 h_77
            exact jn55 _ _ _ hf _ _ _ hP hD hS (lv_sub hl [1, 0] rfl)
          · have hf := hf.1 h_77
            refine lv_aload_n S.1 S.2.1 dX8_readRoof_45 rfl (lv_at hl 1 rfl) ?_
            refine lv_bipush (v := (-5)) S.1 S.2.1 dX8_readRoof_46 rfl ?_
            refine lv_aload_n S.1 S.2.1 dX8_readRoof_48 rfl (lv_at hl 1 rfl) ?_
            refine gfX8_13 S iX8 hK hP (h12 0 (by decide)) k2 dX8_readRoof_49 ?_
            refine R_cVv (As := [.int (-5 : Int32), .int (I_52 12 0 13)]) (rest := []) S (c_X8_report (h12 := h12)  hf) gX8_readRoof_X8_report rfl yk_X8_report ⟨⟨Nat.le_of_ble_eq_true rfl, Nat.le_of_ble_eq_true rfl⟩, rfl, rfl⟩ hK hP hD hS hX hA (h12 0 (by decide)) (cF_m E _ _ 0) rfl rfl hl.1 rfl (Nat.le_of_ble_eq_true rfl) ⟨Nat.zero_le _, Nat.zero_le _⟩ dX8_readRoof_52 (fun I_78 J_79 H locs hf hP hD hS => ?_)
            exact jn55 _ _ _ hf _ _ _ hP hD hS (lv_sub hl [1, 0] rfl)
    refine L19 _ _ (fun I_80 J_81 hf H locs ls hP hD hS hl => ?_) (fun I_82 J_83 hf H locs ls hP hD hS hl => ?_)  n_86  _ _ hf _ _ _ hP hD hS (lv_sub hl [0] rfl)
    · exact hret hf hP hD hS dX8_readRoof_62
    · refine lv_aload_n S.1 S.2.1 dX8_readRoof_97 rfl (lv_at hl 0 rfl) ?_
      refine lv_bipush (v := 59) S.1 S.2.1 dX8_readRoof_98 rfl ?_
      refine R_cVv (As := [.int (59 : Int32)]) (rest := []) S (c_X8_expect (h12 := h12)  hf) gX8_readRoof_X8_expect rfl yk_X8_expect ⟨⟨Nat.le_of_ble_eq_true rfl, Nat.le_of_ble_eq_true rfl⟩, rfl, rfl⟩ hK hP hD hS hX hA (h12 0 (by decide)) (cF_m E _ _ 0) rfl rfl hl.1 rfl (Nat.le_of_ble_eq_true rfl) ⟨Nat.zero_le _, Nat.zero_le _⟩ dX8_readRoof_100 (fun I_84 J_85 H locs hf hP hD hS => ?_)
      exact hret hf hP hD hS dX8_readRoof_103
