/-! TEXT CONSTANTS: length() and charAt(k) of the constant i -/
def sxC (i k : Nat) : Int32 := (sxB.getD i []).getD k 0
theorem sx_all : ∀ i, i < 13 → ∀ k, k < sxL.getD i 0 → (((sxC i k &&& 255).toUInt32 % 65536).toInt32 = sxC i k ∧ narrow .char (.int (sxC i k)) = .int (sxC i k)) := by decide +kernel
theorem sx_len : ∀ i, i < 13 → sxL.getD i 0 < 8 := by decide +kernel
theorem sx_shr : ∀ n, n < 8 → nI n >>> ((0 : Int32) &&& 31) = nI n := by decide +kernel
section ST
variable {p : Program} {l : Launch} {e : Env} {R : Room} {s : State} {m : MethodId} {args : Array Value} {below : List Frame} {meth : Method} {c : Code} {H : Heap} {locs : List Loc} {cells slots : Nat} {Q : State → Prop}
variable {cc : ByteArray} {pc : Nat} {ls : Array Slot} {rest st0 : List Value} {A : Nat → Prop} {E : EV} {ps : List (Nat × Nat)} {I : MI} {J : MJ} {y : MethodName} {bytes : ByteArray} {maxL nL n index : Nat} {ret : Option FieldType} {ws ws' Ts : List Cond} {rm : Room} {own : String} {As : List Value}
/-- a call on a text constant -/
theorem R_cTi {i : Nat} {Q2 : Int32 → MI → MJ → Prop} (hi : i < 13) (S : cOk p m c cc nL s args Ts own) (hM : KI l y ws rm E ps (.ref (eK E i) :: As) I J Q2) (hG : GoodIn Ts (wsV own index "java/lang/String" y ws)) (hw : ws = Cond.code y bytes maxL ret :: ws') (hy : yOk y "java/lang/String" n) (hR : rOk R rm maxL)
    (hK : va_K (eD E) vwCl (eT E) s) (hP : va_P (eD E) vwCl (wsE E ps I J) H) (hD : va_D A (wsE E ps I J)) (hS : va_S A s.heap H locs) (hX : XS E A s s.heap) (hA : ∀ q, s.heap.size ≤ q → A q)
    (hn : As.length = n) (hsz : ls.size = nL) (hst : st0 = As.reverse ++ .ref (eK E i) :: rest) (hr : (rest.map fun v => v.category).sum ≤ 8) (hcs : cells ≤ R.cells ∧ slots ≤ R.slots) (hdg : decode cc pc = .ok (.invokevirtual index, 3))
    (kk : ∀ (v : Int32) (I1 : MI) (J1 : MJ) (H1 : Heap) (locs1 : List Loc), Q2 v I1 J1 → va_P (eD E) vwCl (wsE E ps I1 J1) H1 → va_D A (wsE E ps I1 J1) → va_S A s.heap H1 locs1 → W p l e R s m args below meth c H1 locs1 cells slots Q (F0 m (pc + 3) ls (.int v :: rest))) : W p l e R s m args below meth c H locs cells slots Q (F0 m pc ls st0) := by
  have hA1 := R_grow hS hA
  refine va_calli (va_runV S (hM H.size) (R_cwV S hG hw hy hR) ⟨KP_blind, vk_recv hX.1 hi hS, fun U hU hW => R_pre hK hP hD hS hX hA1 hU hW⟩ rfl hn hsz hst (lv_room hr) hdg hcs) hS (fun q _ h => AA_sub hD hA1 (Nat.le_refl _) q h) (AA_sub hD hA1 (Nat.le_refl _)) (fun v u t H1 locs1 ht _ hq hB _ _ hS1 => ?_)
  obtain ⟨hP1, hD1⟩ := R_back hD hA1 ht hB
  exact kk v u.1 u.2 H1 locs1 hq hP1 hD1 hS1
end ST
abbrev rmJ0_coder_7d493 : Room := { frames := 0, cells := 0, slots := 0, locals := 0 }
theorem yk_J0_coder_7d493 : yOk yJ0_coder_7d493 RJ0 0 := by unfold yOk; decide +kernel
set_option maxHeartbeats 4000000 in
theorem c_J0_coder_7d493 {l : Launch} {E : EV} {ps : List (Nat × Nat)} {i : Nat} (hi : i < 13) {I : MI} {J : MJ} {Q : Int32 → MI → MJ → Prop} (hf : Q 0 I J) : KI l yJ0_coder_7d493 wsJ0_coder_7d493 rmJ0_coder_7d493 E ps [.ref (eK E i)] I J Q := by
  refine K_ofI (cc := cJ0_coder_7d493) (maxL := 1) (ty := .byte) (by decide +kernel) rfl (Nat.le_of_ble_eq_true rfl) (fun p e s m args below meth c Qm hret S hK hX => ?_)
  have k1 := S.2.2.2.2 (.fieldLink RJ0 38 "java/lang/String" "COMPACT_STRINGS" "Z") (by decide +kernel)
  have k2 := S.2.2.2.2 (.fieldLink RJ0 15 "java/lang/String" "coder" "B") (by decide +kernel)
  intro H locs ls hP hD hS hl
  refine va_gets (v := .int 1) S.1 S.2.1 hX.2.2.2.1 hS S.2.2.2.1 k1 (fun _ h => h) dJ0_coder_7d493_0 ?_
  refine lv_if_eq (tgt := 13) S.1 S.2.1 dJ0_coder_7d493_3 (by decide) (fun h => absurd h (by decide)) (fun _ => ?_)
  refine lv_aload_n S.1 S.2.1 dJ0_coder_7d493_6 rfl (lv_at hl 0 rfl) ?_
  refine vk_getf S.1 S.2.1 (hX.1.1 i hi).2.1 hS S.2.2.2.1 k2 (fun _ h => h) dJ0_coder_7d493_7 ?_
  refine lv_goto (tgt := 14) S.1 S.2.1 dJ0_coder_7d493_10 (by decide) ?_
  exact hret hf rfl hP hD hS dJ0_coder_7d493_14
abbrev rmJ0_isLatin1_aae02 : Room := { frames := 0, cells := 0, slots := 0, locals := 0 }
theorem yk_J0_isLatin1_aae02 : yOk yJ0_isLatin1_aae02 RJ0 0 := by unfold yOk; decide +kernel
set_option maxHeartbeats 4000000 in
theorem c_J0_isLatin1_aae02 {l : Launch} {E : EV} {ps : List (Nat × Nat)} {i : Nat} (hi : i < 13) {I : MI} {J : MJ} {Q : Int32 → MI → MJ → Prop} (hf : Q 1 I J) : KI l yJ0_isLatin1_aae02 wsJ0_isLatin1_aae02 rmJ0_isLatin1_aae02 E ps [.ref (eK E i)] I J Q := by
  refine K_ofI (cc := cJ0_isLatin1_aae02) (maxL := 1) (ty := .boolean) (by decide +kernel) rfl (Nat.le_of_ble_eq_true rfl) (fun p e s m args below meth c Qm hret S hK hX => ?_)
  have k1 := S.2.2.2.2 (.fieldLink RJ0 38 "java/lang/String" "COMPACT_STRINGS" "Z") (by decide +kernel)
  have k2 := S.2.2.2.2 (.fieldLink RJ0 15 "java/lang/String" "coder" "B") (by decide +kernel)
  intro H locs ls hP hD hS hl
  refine va_gets (v := .int 1) S.1 S.2.1 hX.2.2.2.1 hS S.2.2.2.1 k1 (fun _ h => h) dJ0_isLatin1_aae02_0 ?_
  refine lv_if_eq (tgt := 17) S.1 S.2.1 dJ0_isLatin1_aae02_3 (by decide) (fun h => absurd h (by decide)) (fun _ => ?_)
  refine lv_aload_n S.1 S.2.1 dJ0_isLatin1_aae02_6 rfl (lv_at hl 0 rfl) ?_
  refine vk_getf S.1 S.2.1 (hX.1.1 i hi).2.1 hS S.2.2.2.1 k2 (fun _ h => h) dJ0_isLatin1_aae02_7 ?_
  refine lv_if_ne (tgt := 17) S.1 S.2.1 dJ0_isLatin1_aae02_10 (by decide) (fun h => absurd rfl h) (fun _ => ?_)
  refine lv_iconst (v := 1) S.1 S.2.1 dJ0_isLatin1_aae02_13 rfl ?_
  refine lv_goto (tgt := 18) S.1 S.2.1 dJ0_isLatin1_aae02_14 (by decide) ?_
  exact hret hf rfl hP hD hS dJ0_isLatin1_aae02_18
abbrev rmJ0_length_8abf5 : Room := { frames := 1, cells := 0, slots := 0, locals := 20 }
theorem yk_J0_length_8abf5 : yOk yJ0_length_8abf5 RJ0 0 := by unfold yOk; decide +kernel
set_option maxHeartbeats 4000000 in
theorem c_J0_length_8abf5 {l : Launch} {E : EV} {ps : List (Nat × Nat)} {i : Nat} (hi : i < 13) {I : MI} {J : MJ} {Q : Int32 → MI → MJ → Prop} (hf : Q (nI (sxL.getD i 0)) I J) : KI l yJ0_length_8abf5 wsJ0_length_8abf5 rmJ0_length_8abf5 E ps [.ref (eK E i)] I J Q := by
  refine K_ofI (cc := cJ0_length_8abf5) (maxL := 1) (ty := .int) (by decide +kernel) rfl (Nat.le_of_ble_eq_true rfl) (fun p e s m args below meth c Qm hret S hK hX => ?_)
  have hA : ∀ q, s.heap.size ≤ q → AA E ps s.heap.size q := fun _ h => Or.inr h
  have k1 := S.2.2.2.2 (.fieldLink RJ0 9 "java/lang/String" "value" "[B") (by decide +kernel)
  intro H locs ls hP hD hS hl
  refine lv_aload_n S.1 S.2.1 dJ0_length_8abf5_0 rfl (lv_at hl 0 rfl) ?_
  refine vk_getf S.1 S.2.1 (hX.1.1 i hi).2.2.1 hS S.2.2.2.1 k1 (fun _ h => h) dJ0_length_8abf5_1 ?_
  refine va_tlen S.1 S.2.1 (hX.1.1 i hi).2.2.2 hS (v := nI (sxL.getD i 0)) rfl dJ0_length_8abf5_4 ?_
  refine lv_aload_n S.1 S.2.1 dJ0_length_8abf5_5 rfl (lv_at hl 0 rfl) ?_
  refine R_cTi (As := []) (rest := [.int (nI (sxL.getD i 0))]) hi S (c_J0_coder_7d493 hi (Q := fun v I1 J1 => 0 = v ∧ I = I1 ∧ J = J1) ⟨rfl, rfl, rfl⟩) gJ0_length_8abf5_J0_coder_7d493 rfl yk_J0_coder_7d493 ⟨⟨Nat.le_of_ble_eq_true rfl, Nat.le_of_ble_eq_true rfl⟩, rfl, rfl⟩ hK hP hD hS hX hA rfl hl.1 rfl (Nat.le_of_ble_eq_true rfl) ⟨Nat.zero_le _, Nat.zero_le _⟩ dJ0_length_8abf5_6 (fun v I1 J1 H locs hq hP hD hS => ?_)
  obtain ⟨rfl, rfl, rfl⟩ := hq
  refine lv_ishr S.1 S.2.1 dJ0_length_8abf5_9 ?_
  rw [sx_shr _ (sx_len i hi)]
  exact hret hf rfl hP hD hS dJ0_length_8abf5_10
abbrev rmJ3_checkIndex_8e157 : Room := { frames := 0, cells := 0, slots := 0, locals := 0 }
theorem yk_J3_checkIndex_8e157 : yOk yJ3_checkIndex_8e157 RJ3 3 := by unfold yOk; decide +kernel
set_option maxHeartbeats 4000000 in
theorem c_J3_checkIndex_8e157 {l : Launch} {E : EV} {ps : List (Nat × Nat)} {k n : Nat} (hk : k < n) (hn : n < 8) (o : Option Nat) {I : MI} {J : MJ} {Q : Int32 → MI → MJ → Prop} (hf : Q (nI k) I J) : KI l yJ3_checkIndex_8e157 wsJ3_checkIndex_8e157 rmJ3_checkIndex_8e157 E ps [.int (nI k), .int (nI n), va_rf o] I J Q := by
  refine K_ofI (cc := cJ3_checkIndex_8e157) (maxL := 3) (ty := .int) (by decide +kernel) rfl (by cases o <;> exact Nat.le_of_ble_eq_true rfl) (fun p e s m args below meth c Qm hret S hK hX => ?_)
  intro H locs ls hP hD hS hl
  refine lv_iload_n S.1 S.2.1 dJ3_checkIndex_8e157_0 rfl (lv_at hl 0 rfl) ?_
  refine lv_if_lt (tgt := 9) S.1 S.2.1 dJ3_checkIndex_8e157_1 (by decide) (fun h => absurd h (nI_pos (by omega))) (fun _ => ?_)
  refine lv_iload_n S.1 S.2.1 dJ3_checkIndex_8e157_4 rfl (lv_at hl 0 rfl) ?_
  refine lv_iload_n S.1 S.2.1 dJ3_checkIndex_8e157_5 rfl (lv_at hl 1 rfl) ?_
  refine lv_icmp_lt (tgt := 16) S.1 S.2.1 dJ3_checkIndex_8e157_6 (by decide) (fun _ => ?_) (fun h => absurd (nI_lt hk (by omega)) h)
  refine lv_iload_n S.1 S.2.1 dJ3_checkIndex_8e157_16 rfl (lv_at hl 0 rfl) ?_
  exact hret hf rfl hP hD hS dJ3_checkIndex_8e157_17
abbrev rmJ0_checkIndex_df160 : Room := { frames := 1, cells := 0, slots := 0, locals := 22 }
theorem yk_J0_checkIndex_df160 : yOk yJ0_checkIndex_df160 RJ0 2 := by unfold yOk; decide +kernel
set_option maxHeartbeats 4000000 in
theorem c_J0_checkIndex_df160 {l : Launch} {E : EV} {ps : List (Nat × Nat)} {k n : Nat} (hk : k < n) (hn : n < 8) {I : MI} {J : MJ} {Q : MI → MJ → Prop} (hf : Q I J) : KV l yJ0_checkIndex_df160 wsJ0_checkIndex_df160 rmJ0_checkIndex_df160 E ps [.int (nI k), .int (nI n)] I J Q := by
  refine K_ofV (cc := cJ0_checkIndex_df160) (maxL := 2) (by decide +kernel) rfl (Nat.le_of_ble_eq_true rfl) (fun p e s m args below meth c Qm hret S hK hX => ?_)
  have hA : ∀ q, s.heap.size ≤ q → AA E ps s.heap.size q := fun _ h => Or.inr h
  have k1 := S.2.2.2.2 (.fieldLink RJ0 1053 "jdk/internal/util/Preconditions" "SIOOBE_FORMATTER" "Ljava/util/function/BiFunction;") (by decide +kernel)
  intro H locs ls hP hD hS hl
  refine lv_iload_n S.1 S.2.1 dJ0_checkIndex_df160_0 rfl (lv_at hl 0 rfl) ?_
  refine lv_iload_n S.1 S.2.1 dJ0_checkIndex_df160_1 rfl (lv_at hl 1 rfl) ?_
  have hZ : ∃ o : Option Nat, va_Z "jdk/internal/util/Preconditions" "SIOOBE_FORMATTER" "Ljava/util/function/BiFunction;" (va_rf o) (AA E ps s.heap.size) s s.heap := by
    rcases hX.2.2.2.2.1 with h | ⟨t, h⟩
    · exact ⟨none, h⟩
    · exact ⟨some t, h⟩
  obtain ⟨o, hZ⟩ := hZ
  refine va_gets S.1 S.2.1 hZ hS S.2.2.2.1 k1 (fun _ h => h) dJ0_checkIndex_df160_2 ?_
  refine R_cSi (As := [.int (nI k), .int (nI n), va_rf o]) (rest := []) S (c_J3_checkIndex_8e157 hk hn o (Q := fun v I1 J1 => I = I1 ∧ J = J1) ⟨rfl, rfl⟩) gJ0_checkIndex_df160_J3_checkIndex_8e157 rfl yk_J3_checkIndex_8e157 ⟨⟨Nat.le_of_ble_eq_true rfl, Nat.le_of_ble_eq_true rfl⟩, rfl, rfl⟩ hK hP hD hS hX hA rfl hl.1 rfl (Nat.le_of_ble_eq_true rfl) ⟨Nat.zero_le _, Nat.zero_le _⟩ dJ0_checkIndex_df160_5 (fun v I1 J1 H locs hq hP hD hS => ?_)
  obtain ⟨rfl, rfl⟩ := hq
  refine lv_pop S.1 S.2.1 dJ0_checkIndex_df160_8 rfl ?_
  exact hret hf hP hD hS dJ0_checkIndex_df160_9
abbrev rmJ1_charAt_3b067 : Room := { frames := 2, cells := 0, slots := 0, locals := 43 }
theorem yk_J1_charAt_3b067 : yOk yJ1_charAt_3b067 RJ1 2 := by unfold yOk; decide +kernel
set_option maxHeartbeats 4000000 in
theorem c_J1_charAt_3b067 {l : Launch} {E : EV} {ps : List (Nat × Nat)} {i k : Nat} (hi : i < 13) (hk : k < sxL.getD i 0) {I : MI} {J : MJ} {Q : Int32 → MI → MJ → Prop} (hf : Q (sxC i k) I J) : KI l yJ1_charAt_3b067 wsJ1_charAt_3b067 rmJ1_charAt_3b067 E ps [.ref (eV E i), .int (nI k)] I J Q := by
  refine K_ofI (cc := cJ1_charAt_3b067) (maxL := 2) (ty := .char) (by decide +kernel) rfl (Nat.le_of_ble_eq_true rfl) (fun p e s m args below meth c Qm hret S hK hX => ?_)
  have hA : ∀ q, s.heap.size ≤ q → AA E ps s.heap.size q := fun _ h => Or.inr h
  have hn := sx_len i hi
  intro H locs ls hP hD hS hl
  refine lv_iload_n S.1 S.2.1 dJ1_charAt_3b067_0 rfl (lv_at hl 1 rfl) ?_
  refine lv_aload_n S.1 S.2.1 dJ1_charAt_3b067_1 rfl (lv_at hl 0 rfl) ?_
  refine va_tlen S.1 S.2.1 (hX.1.1 i hi).2.2.2 hS (v := nI (sxL.getD i 0)) rfl dJ1_charAt_3b067_2 ?_
  refine R_cSv (As := [.int (nI k), .int (nI (sxL.getD i 0))]) (rest := []) S (c_J0_checkIndex_df160 hk hn (Q := fun I1 J1 => I = I1 ∧ J = J1) ⟨rfl, rfl⟩) gJ1_charAt_3b067_J0_checkIndex_df160 rfl yk_J0_checkIndex_df160 ⟨⟨Nat.le_of_ble_eq_true rfl, Nat.le_of_ble_eq_true rfl⟩, rfl, rfl⟩ hK hP hD hS hX hA rfl hl.1 rfl (Nat.le_of_ble_eq_true rfl) ⟨Nat.zero_le _, Nat.zero_le _⟩ dJ1_charAt_3b067_3 (fun I1 J1 H locs hq hP hD hS => ?_)
  obtain ⟨rfl, rfl⟩ := hq
  refine lv_aload_n S.1 S.2.1 dJ1_charAt_3b067_6 rfl (lv_at hl 0 rfl) ?_
  refine lv_iload_n S.1 S.2.1 dJ1_charAt_3b067_7 rfl (lv_at hl 1 rfl) ?_
  refine va_tb S.1 S.2.1 (hX.1.1 i hi).2.2.2 hS (vp_in_nI hk (by omega)) (v := .int (sxC i k)) (by rw [nI_clamp (by omega)]; rfl) dJ1_charAt_3b067_8 ?_
  refine lv_sipush (v := 255) S.1 S.2.1 dJ1_charAt_3b067_9 rfl ?_
  refine lv_iand S.1 S.2.1 dJ1_charAt_3b067_12 ?_
  refine lv_i2c (v := sxC i k) S.1 S.2.1 dJ1_charAt_3b067_13 (sx_all i hi k hk).1 ?_
  exact hret hf (sx_all i hi k hk).2 hP hD hS dJ1_charAt_3b067_14
abbrev rmJ0_charAt_5068e : Room := { frames := 3, cells := 0, slots := 0, locals := 64 }
theorem yk_J0_charAt_5068e : yOk yJ0_charAt_5068e RJ0 1 := by unfold yOk; decide +kernel
set_option maxHeartbeats 4000000 in
theorem c_J0_charAt_5068e {l : Launch} {E : EV} {ps : List (Nat × Nat)} {i k : Nat} (hi : i < 13) (hk : k < sxL.getD i 0) {I : MI} {J : MJ} {Q : Int32 → MI → MJ → Prop} (hf : Q (sxC i k) I J) : KI l yJ0_charAt_5068e wsJ0_charAt_5068e rmJ0_charAt_5068e E ps [.ref (eK E i), .int (nI k)] I J Q := by
  refine K_ofI (cc := cJ0_charAt_5068e) (maxL := 2) (ty := .char) (by decide +kernel) rfl (Nat.le_of_ble_eq_true rfl) (fun p e s m args below meth c Qm hret S hK hX => ?_)
  have hA : ∀ q, s.heap.size ≤ q → AA E ps s.heap.size q := fun _ h => Or.inr h
  have k1 := S.2.2.2.2 (.fieldLink RJ0 9 "java/lang/String" "value" "[B") (by decide +kernel)
  intro H locs ls hP hD hS hl
  refine lv_aload_n S.1 S.2.1 dJ0_charAt_5068e_0 rfl (lv_at hl 0 rfl) ?_
  refine R_cTi (As := []) (rest := []) hi S (c_J0_isLatin1_aae02 hi (Q := fun v I1 J1 => 1 = v ∧ I = I1 ∧ J = J1) ⟨rfl, rfl, rfl⟩) gJ0_charAt_5068e_J0_isLatin1_aae02 rfl yk_J0_isLatin1_aae02 ⟨⟨Nat.le_of_ble_eq_true rfl, Nat.le_of_ble_eq_true rfl⟩, rfl, rfl⟩ hK hP hD hS hX hA rfl hl.1 rfl (Nat.le_of_ble_eq_true rfl) ⟨Nat.zero_le _, Nat.zero_le _⟩ dJ0_charAt_5068e_1 (fun v I1 J1 H locs hq hP hD hS => ?_)
  obtain ⟨rfl, rfl, rfl⟩ := hq
  refine lv_if_eq (tgt := 16) S.1 S.2.1 dJ0_charAt_5068e_4 (by decide) (fun h => absurd h (by decide)) (fun _ => ?_)
  refine lv_aload_n S.1 S.2.1 dJ0_charAt_5068e_7 rfl (lv_at hl 0 rfl) ?_
  refine vk_getf S.1 S.2.1 (hX.1.1 i hi).2.2.1 hS S.2.2.2.1 k1 (fun _ h => h) dJ0_charAt_5068e_8 ?_
  refine lv_iload_n S.1 S.2.1 dJ0_charAt_5068e_11 rfl (lv_at hl 1 rfl) ?_
  refine R_cSi (As := [.ref (eV E i), .int (nI k)]) (rest := []) S (c_J1_charAt_3b067 hi hk (Q := fun v I1 J1 => sxC i k = v ∧ I = I1 ∧ J = J1) ⟨rfl, rfl, rfl⟩) gJ0_charAt_5068e_J1_charAt_3b067 rfl yk_J1_charAt_3b067 ⟨⟨Nat.le_of_ble_eq_true rfl, Nat.le_of_ble_eq_true rfl⟩, rfl, rfl⟩ hK hP hD hS hX hA rfl hl.1 rfl (Nat.le_of_ble_eq_true rfl) ⟨Nat.zero_le _, Nat.zero_le _⟩ dJ0_charAt_5068e_12 (fun v I1 J1 H locs hq hP hD hS => ?_)
  obtain ⟨rfl, rfl, rfl⟩ := hq
  exact hret hf (sx_all i hi k hk).2 hP hD hS dJ0_charAt_5068e_15
theorem c_charAt {l : Launch} {E : EV} {ps : List (Nat × Nat)} {i : Nat} (hi : i < 13) {x : Int32} (h : vp_in x (sxL.getD i 0)) {I : MI} {J : MJ} {Q : Int32 → MI → MJ → Prop} (hf : Q (sxC i x.toNatClampNeg) I J) : KI l yJ0_charAt_5068e wsJ0_charAt_5068e rmJ0_charAt_5068e E ps [.ref (eK E i), .int x] I J Q := by
  have hn := sx_len i hi
  obtain ⟨j, hj, rfl⟩ := vp_in_of h (by omega)
  rw [nI_clamp (by omega)] at hf
  exact c_J0_charAt_5068e hi hj hf
theorem sxrX5_106 : (("RhymeRoofs$SetupReader", 106, "roof", 0) : String × Nat × String × Nat) ∈ sxR := List.mem_of_getElem? (i := 0) rfl
theorem sxrX5_130 : (("RhymeRoofs$SetupReader", 130, "players", 1) : String × Nat × String × Nat) ∈ sxR := List.mem_of_getElem? (i := 1) rfl
theorem sxrX5_135 : (("RhymeRoofs$SetupReader", 135, "need", 2) : String × Nat × String × Nat) ∈ sxR := List.mem_of_getElem? (i := 2) rfl
theorem sxrX5_140 : (("RhymeRoofs$SetupReader", 140, "bonus", 3) : String × Nat × String × Nat) ∈ sxR := List.mem_of_getElem? (i := 3) rfl
theorem sxrX5_145 : (("RhymeRoofs$SetupReader", 145, "crown", 4) : String × Nat × String × Nat) ∈ sxR := List.mem_of_getElem? (i := 4) rfl
theorem sxrX5_150 : (("RhymeRoofs$SetupReader", 150, "alike", 5) : String × Nat × String × Nat) ∈ sxR := List.mem_of_getElem? (i := 5) rfl
theorem sxrX5_155 : (("RhymeRoofs$SetupReader", 155, "hand", 6) : String × Nat × String × Nat) ∈ sxR := List.mem_of_getElem? (i := 6) rfl
theorem sxrX5_160 : (("RhymeRoofs$SetupReader", 160, "rank", 7) : String × Nat × String × Nat) ∈ sxR := List.mem_of_getElem? (i := 7) rfl
theorem sxrX5_211 : (("RhymeRoofs$SetupReader", 211, "points", 8) : String × Nat × String × Nat) ∈ sxR := List.mem_of_getElem? (i := 8) rfl
theorem sxrX5_213 : (("RhymeRoofs$SetupReader", 213, "letters", 9) : String × Nat × String × Nat) ∈ sxR := List.mem_of_getElem? (i := 9) rfl
theorem sxrX5_215 : (("RhymeRoofs$SetupReader", 215, "rhyme", 10) : String × Nat × String × Nat) ∈ sxR := List.mem_of_getElem? (i := 10) rfl
theorem sxrX5_217 : (("RhymeRoofs$SetupReader", 217, "left", 11) : String × Nat × String × Nat) ∈ sxR := List.mem_of_getElem? (i := 11) rfl
theorem sxrX5_219 : (("RhymeRoofs$SetupReader", 219, "full", 12) : String × Nat × String × Nat) ∈ sxR := List.mem_of_getElem? (i := 12) rfl
theorem sxrX8_196 : (("RhymeRoofsModel", 196, "roof", 0) : String × Nat × String × Nat) ∈ sxR := List.mem_of_getElem? (i := 13) rfl
theorem sxrX8_174 : (("RhymeRoofsModel", 174, "players", 1) : String × Nat × String × Nat) ∈ sxR := List.mem_of_getElem? (i := 14) rfl
theorem sxrX8_180 : (("RhymeRoofsModel", 180, "need", 2) : String × Nat × String × Nat) ∈ sxR := List.mem_of_getElem? (i := 15) rfl
theorem sxrX8_182 : (("RhymeRoofsModel", 182, "bonus", 3) : String × Nat × String × Nat) ∈ sxR := List.mem_of_getElem? (i := 16) rfl
theorem sxrX8_184 : (("RhymeRoofsModel", 184, "crown", 4) : String × Nat × String × Nat) ∈ sxR := List.mem_of_getElem? (i := 17) rfl
theorem sxrX8_186 : (("RhymeRoofsModel", 186, "alike", 5) : String × Nat × String × Nat) ∈ sxR := List.mem_of_getElem? (i := 18) rfl
theorem sxrX8_138 : (("RhymeRoofsModel", 138, "hand", 6) : String × Nat × String × Nat) ∈ sxR := List.mem_of_getElem? (i := 19) rfl
theorem sxrX8_194 : (("RhymeRoofsModel", 194, "rank", 7) : String × Nat × String × Nat) ∈ sxR := List.mem_of_getElem? (i := 20) rfl
theorem sxrX8_124 : (("RhymeRoofsModel", 124, "points", 8) : String × Nat × String × Nat) ∈ sxR := List.mem_of_getElem? (i := 21) rfl
theorem sxrX8_130 : (("RhymeRoofsModel", 130, "letters", 9) : String × Nat × String × Nat) ∈ sxR := List.mem_of_getElem? (i := 22) rfl
theorem sxrX8_132 : (("RhymeRoofsModel", 132, "rhyme", 10) : String × Nat × String × Nat) ∈ sxR := List.mem_of_getElem? (i := 23) rfl
theorem sxrX8_134 : (("RhymeRoofsModel", 134, "left", 11) : String × Nat × String × Nat) ∈ sxR := List.mem_of_getElem? (i := 24) rfl
theorem sxrX8_136 : (("RhymeRoofsModel", 136, "full", 12) : String × Nat × String × Nat) ∈ sxR := List.mem_of_getElem? (i := 25) rfl
theorem sxvX5_106 {E : EV} {A : Nat → Prop} {s : State} {H : Heap} (h : XS E A s H) : vk_R RX5 106 "roof" (eK E 0) s := by
  have h1 := h.2.2.2.2.2.1 ("RhymeRoofs$SetupReader", 106, "roof", 0) sxrX5_106
  exact h1
theorem sxvX5_130 {E : EV} {A : Nat → Prop} {s : State} {H : Heap} (h : XS E A s H) : vk_R RX5 130 "players" (eK E 1) s := by
  have h1 := h.2.2.2.2.2.1 ("RhymeRoofs$SetupReader", 130, "players", 1) sxrX5_130
  exact h1
theorem sxvX5_135 {E : EV} {A : Nat → Prop} {s : State} {H : Heap} (h : XS E A s H) : vk_R RX5 135 "need" (eK E 2) s := by
  have h1 := h.2.2.2.2.2.1 ("RhymeRoofs$SetupReader", 135, "need", 2) sxrX5_135
  exact h1
theorem sxvX5_140 {E : EV} {A : Nat → Prop} {s : State} {H : Heap} (h : XS E A s H) : vk_R RX5 140 "bonus" (eK E 3) s := by
  have h1 := h.2.2.2.2.2.1 ("RhymeRoofs$SetupReader", 140, "bonus", 3) sxrX5_140
  exact h1
theorem sxvX5_145 {E : EV} {A : Nat → Prop} {s : State} {H : Heap} (h : XS E A s H) : vk_R RX5 145 "crown" (eK E 4) s := by
  have h1 := h.2.2.2.2.2.1 ("RhymeRoofs$SetupReader", 145, "crown", 4) sxrX5_145
  exact h1
theorem sxvX5_150 {E : EV} {A : Nat → Prop} {s : State} {H : Heap} (h : XS E A s H) : vk_R RX5 150 "alike" (eK E 5) s := by
  have h1 := h.2.2.2.2.2.1 ("RhymeRoofs$SetupReader", 150, "alike", 5) sxrX5_150
  exact h1
theorem sxvX5_155 {E : EV} {A : Nat → Prop} {s : State} {H : Heap} (h : XS E A s H) : vk_R RX5 155 "hand" (eK E 6) s := by
  have h1 := h.2.2.2.2.2.1 ("RhymeRoofs$SetupReader", 155, "hand", 6) sxrX5_155
  exact h1
theorem sxvX5_160 {E : EV} {A : Nat → Prop} {s : State} {H : Heap} (h : XS E A s H) : vk_R RX5 160 "rank" (eK E 7) s := by
  have h1 := h.2.2.2.2.2.1 ("RhymeRoofs$SetupReader", 160, "rank", 7) sxrX5_160
  exact h1
theorem sxvX5_211 {E : EV} {A : Nat → Prop} {s : State} {H : Heap} (h : XS E A s H) : vk_R RX5 211 "points" (eK E 8) s := by
  have h1 := h.2.2.2.2.2.1 ("RhymeRoofs$SetupReader", 211, "points", 8) sxrX5_211
  exact h1
theorem sxvX5_213 {E : EV} {A : Nat → Prop} {s : State} {H : Heap} (h : XS E A s H) : vk_R RX5 213 "letters" (eK E 9) s := by
  have h1 := h.2.2.2.2.2.1 ("RhymeRoofs$SetupReader", 213, "letters", 9) sxrX5_213
  exact h1
theorem sxvX5_215 {E : EV} {A : Nat → Prop} {s : State} {H : Heap} (h : XS E A s H) : vk_R RX5 215 "rhyme" (eK E 10) s := by
  have h1 := h.2.2.2.2.2.1 ("RhymeRoofs$SetupReader", 215, "rhyme", 10) sxrX5_215
  exact h1
theorem sxvX5_217 {E : EV} {A : Nat → Prop} {s : State} {H : Heap} (h : XS E A s H) : vk_R RX5 217 "left" (eK E 11) s := by
  have h1 := h.2.2.2.2.2.1 ("RhymeRoofs$SetupReader", 217, "left", 11) sxrX5_217
  exact h1
theorem sxvX5_219 {E : EV} {A : Nat → Prop} {s : State} {H : Heap} (h : XS E A s H) : vk_R RX5 219 "full" (eK E 12) s := by
  have h1 := h.2.2.2.2.2.1 ("RhymeRoofs$SetupReader", 219, "full", 12) sxrX5_219
  exact h1
theorem sxvX8_196 {E : EV} {A : Nat → Prop} {s : State} {H : Heap} (h : XS E A s H) : vk_R RX8 196 "roof" (eK E 0) s := by
  have h1 := h.2.2.2.2.2.1 ("RhymeRoofsModel", 196, "roof", 0) sxrX8_196
  exact h1
theorem sxvX8_174 {E : EV} {A : Nat → Prop} {s : State} {H : Heap} (h : XS E A s H) : vk_R RX8 174 "players" (eK E 1) s := by
  have h1 := h.2.2.2.2.2.1 ("RhymeRoofsModel", 174, "players", 1) sxrX8_174
  exact h1
theorem sxvX8_180 {E : EV} {A : Nat → Prop} {s : State} {H : Heap} (h : XS E A s H) : vk_R RX8 180 "need" (eK E 2) s := by
  have h1 := h.2.2.2.2.2.1 ("RhymeRoofsModel", 180, "need", 2) sxrX8_180
  exact h1
theorem sxvX8_182 {E : EV} {A : Nat → Prop} {s : State} {H : Heap} (h : XS E A s H) : vk_R RX8 182 "bonus" (eK E 3) s := by
  have h1 := h.2.2.2.2.2.1 ("RhymeRoofsModel", 182, "bonus", 3) sxrX8_182
  exact h1
theorem sxvX8_184 {E : EV} {A : Nat → Prop} {s : State} {H : Heap} (h : XS E A s H) : vk_R RX8 184 "crown" (eK E 4) s := by
  have h1 := h.2.2.2.2.2.1 ("RhymeRoofsModel", 184, "crown", 4) sxrX8_184
  exact h1
theorem sxvX8_186 {E : EV} {A : Nat → Prop} {s : State} {H : Heap} (h : XS E A s H) : vk_R RX8 186 "alike" (eK E 5) s := by
  have h1 := h.2.2.2.2.2.1 ("RhymeRoofsModel", 186, "alike", 5) sxrX8_186
  exact h1
theorem sxvX8_138 {E : EV} {A : Nat → Prop} {s : State} {H : Heap} (h : XS E A s H) : vk_R RX8 138 "hand" (eK E 6) s := by
  have h1 := h.2.2.2.2.2.1 ("RhymeRoofsModel", 138, "hand", 6) sxrX8_138
  exact h1
theorem sxvX8_194 {E : EV} {A : Nat → Prop} {s : State} {H : Heap} (h : XS E A s H) : vk_R RX8 194 "rank" (eK E 7) s := by
  have h1 := h.2.2.2.2.2.1 ("RhymeRoofsModel", 194, "rank", 7) sxrX8_194
  exact h1
theorem sxvX8_124 {E : EV} {A : Nat → Prop} {s : State} {H : Heap} (h : XS E A s H) : vk_R RX8 124 "points" (eK E 8) s := by
  have h1 := h.2.2.2.2.2.1 ("RhymeRoofsModel", 124, "points", 8) sxrX8_124
  exact h1
theorem sxvX8_130 {E : EV} {A : Nat → Prop} {s : State} {H : Heap} (h : XS E A s H) : vk_R RX8 130 "letters" (eK E 9) s := by
  have h1 := h.2.2.2.2.2.1 ("RhymeRoofsModel", 130, "letters", 9) sxrX8_130
  exact h1
theorem sxvX8_132 {E : EV} {A : Nat → Prop} {s : State} {H : Heap} (h : XS E A s H) : vk_R RX8 132 "rhyme" (eK E 10) s := by
  have h1 := h.2.2.2.2.2.1 ("RhymeRoofsModel", 132, "rhyme", 10) sxrX8_132
  exact h1
theorem sxvX8_134 {E : EV} {A : Nat → Prop} {s : State} {H : Heap} (h : XS E A s H) : vk_R RX8 134 "left" (eK E 11) s := by
  have h1 := h.2.2.2.2.2.1 ("RhymeRoofsModel", 134, "left", 11) sxrX8_134
  exact h1
theorem sxvX8_136 {E : EV} {A : Nat → Prop} {s : State} {H : Heap} (h : XS E A s H) : vk_R RX8 136 "full" (eK E 12) s := by
  have h1 := h.2.2.2.2.2.1 ("RhymeRoofsModel", 136, "full", 12) sxrX8_136
  exact h1
