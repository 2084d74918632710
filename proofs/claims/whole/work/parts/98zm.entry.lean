/-! WHAT HOLDS AT THE LAW'S ENTRY: text constants, statics, exceptions' classes, classes of rows -/
abbrev nfl : List Cond := flatC (Jvm.Cond.and given_1 narrow_1)
def stT (i : Nat) : Term := .string "RhymeRoofs$SetupReader" ([106, 130, 135, 140, 145, 150, 155, 160, 211, 213, 215, 217, 219].getD i 0)
def stW (i : Nat) : List Cond := .exactly (stT i) "java/lang/String" :: .eq (.field (stT i) "java/lang/String" "coder" "B") (.int 0) :: .arrayOf (.field (stT i) "java/lang/String" "value" "[B") .byte :: .eq (.length (.field (stT i) "java/lang/String" "value" "[B")) (.int (Int32.ofNat (sxL.getD i 0))) :: (List.range (sxL.getD i 0)).map (fun j => .eq (.elem (.field (stT i) "java/lang/String" "value" "[B") (.int (Int32.ofNat j))) (.int ((sxB.getD i []).getD j 0)))
theorem st_in0 : ∀ w ∈ stW 0, w ∈ nfl := by decide +kernel
theorem st_in1 : ∀ w ∈ stW 1, w ∈ nfl := by decide +kernel
theorem st_in2 : ∀ w ∈ stW 2, w ∈ nfl := by decide +kernel
theorem st_in3 : ∀ w ∈ stW 3, w ∈ nfl := by decide +kernel
theorem st_in4 : ∀ w ∈ stW 4, w ∈ nfl := by decide +kernel
theorem st_in5 : ∀ w ∈ stW 5, w ∈ nfl := by decide +kernel
theorem st_in6 : ∀ w ∈ stW 6, w ∈ nfl := by decide +kernel
theorem st_in7 : ∀ w ∈ stW 7, w ∈ nfl := by decide +kernel
theorem st_in8 : ∀ w ∈ stW 8, w ∈ nfl := by decide +kernel
theorem st_in9 : ∀ w ∈ stW 9, w ∈ nfl := by decide +kernel
theorem st_in10 : ∀ w ∈ stW 10, w ∈ nfl := by decide +kernel
theorem st_in11 : ∀ w ∈ stW 11, w ∈ nfl := by decide +kernel
theorem st_in12 : ∀ w ∈ stW 12, w ∈ nfl := by decide +kernel
theorem st_in : ∀ i, i < 13 → ∀ w ∈ stW i, w ∈ nfl
  | 0, _ => st_in0
  | 1, _ => st_in1
  | 2, _ => st_in2
  | 3, _ => st_in3
  | 4, _ => st_in4
  | 5, _ => st_in5
  | 6, _ => st_in6
  | 7, _ => st_in7
  | 8, _ => st_in8
  | 9, _ => st_in9
  | 10, _ => st_in10
  | 11, _ => st_in11
  | 12, _ => st_in12
  | i + 13, h => absurd h (by omega)
theorem sx_len31 : ∀ i, i < 13 → sxL.getD i 0 < 2 ^ 31 := by decide +kernel
theorem sx_apart : ∀ i, i < 13 → ∀ j, j < 13 → sxL.getD i 0 = sxL.getD j 0 → (∀ k, k < sxL.getD i 0 → (sxB.getD i []).getD k 0 = (sxB.getD j []).getD k 0) → i = j := by decide +kernel
def SFx (s : State) (A : Nat → Prop) (i a v : Nat) : Prop := va_O "java/lang/String" a A s s.heap ∧ va_OF "java/lang/String" "coder" "B" (.int 0) a A s s.heap ∧ va_OF "java/lang/String" "value" "[B" (.ref v) a A s s.heap ∧ va_T .byte v (sxL.getD i 0) (fun j => .int ((sxB.getD i []).getD j 0)) A s s.heap
section ENT
variable {s : State} {A : Nat → Prop} {b : Nat}
theorem str_at (hn : ∀ w ∈ nfl, w.before #[Value.ref b] s = true) (hA : ∀ a : Nat, a < s.heap.size → ¬ A a) {i : Nat} (hi : i < 13) : ∃ q : Nat × Nat, (stT i).eval #[Value.ref b] s none [] s = some (.ref q.1) ∧ SFx s A i q.1 q.2 := by
  have h : ∀ w ∈ stW i, w.before #[Value.ref b] s = true := fun w hw => hn w (st_in i hi w hw)
  have e0 : ∀ k, k < 1 → k = 0 := fun k hk => by omega
  obtain ⟨adK, adV, hv, he⟩ := vk_Sof (args := #[Value.ref b]) (s := s) (N := 1) (tm := fun _ => stT i) (len := [sxL.getD i 0]) (byt := [sxB.getD i []]) (A := A)
    (fun k hk => by rw [e0 k hk]; exact sx_len31 i hi)
    (fun k hk => h _ List.mem_cons_self)
    (fun k hk => h _ (List.mem_cons_of_mem _ List.mem_cons_self))
    (fun k hk => h _ (List.mem_cons_of_mem _ (List.mem_cons_of_mem _ List.mem_cons_self)))
    (fun k hk => by rw [e0 k hk]; exact h _ (List.mem_cons_of_mem _ (List.mem_cons_of_mem _ (List.mem_cons_of_mem _ List.mem_cons_self))))
    (fun k hk j hj => by
      have z := e0 k hk
      subst z
      exact h _ (List.mem_cons_of_mem _ (List.mem_cons_of_mem _ (List.mem_cons_of_mem _ (List.mem_cons_of_mem _ (List.mem_map.mpr ⟨j, List.mem_range.mpr hj, rfl⟩))))))
    (fun k j hk hj hne => absurd ((e0 k hk).trans (e0 j hj).symm) hne) hA
  exact ⟨(adK 0, adV 0), he 0 (by decide), hv.1 0 (by decide)⟩
theorem str_inj {i j a v w : Nat} (hi : i < 13) (hj : j < 13) (h : SFx s A i a v) (g : SFx s A j a w) : i = j := by
  obtain ⟨-, -, ⟨cf, k, fi, f, cell, h1, -, h3, -, h5, -⟩, ⟨ct, t1, -, -, -, t5, t6, -⟩⟩ := h
  obtain ⟨-, -, ⟨cf', k', fi', f', cell', g1, -, g3, -, g5, -⟩, ⟨cu, u1, -, -, -, u5, u6, -⟩⟩ := g
  have e1 := Option.some.inj (h1.symm.trans g1)
  have e2 := Option.some.inj (h3.symm.trans g3)
  subst e2
  cases e1
  have e3 := Option.some.inj (h5.symm.trans g5)
  cases e3
  have e4 := Option.some.inj (t1.symm.trans u1)
  subst e4
  have el : sxL.getD i 0 = sxL.getD j 0 := (nI_eq (sx_len31 i hi) (sx_len31 j hj)).mp (t5.symm.trans u5)
  refine sx_apart i hi j hj el (fun q hq => ?_)
  have e5 : Value.int ((sxB.getD i []).getD q 0) = Value.int ((sxB.getD j []).getD q 0) := Option.some.inj ((t6 q hq).symm.trans (u6 q (by rw [← el]; exact hq)))
  exact Value.int.inj e5
theorem sxR_in : ∀ q ∈ sxR, .stringRef q.1 q.2.1 q.2.2.1 ∈ lw_tbl := by decide +kernel
theorem sxR_tm : ∀ q ∈ sxR, q.2.2.2 < 13 ∧ (Term.string q.1 q.2.1 = stT q.2.2.2 ∨ .eq (stT q.2.2.2) (.string q.1 q.2.1) ∈ nfl) := by decide +kernel
theorem sxX_in : ∀ q ∈ sxX, .stringRef "RhymeRoofs" q.1 q.2 ∈ lw_tbl ∧ .exactly (.string "RhymeRoofs" q.1) "java/lang/String" ∈ nfl := by decide +kernel
theorem st_l1 : Cond.laysStatic Bundle.tN "UNASSIGNED_STACK" Bundle.steD ∈ lw_tbl := by decide +kernel
theorem st_l2 : Cond.laysStatic Bundle.tN "SUPPRESSED_SENTINEL" Bundle.listD ∈ lw_tbl := by decide +kernel
theorem st_l3 : Cond.laysStatic "java/lang/String" "COMPACT_STRINGS" "Z" ∈ lw_tbl := by decide +kernel
theorem st_l4 : Cond.laysStatic "jdk/internal/util/Preconditions" "SIOOBE_FORMATTER" "Ljava/util/function/BiFunction;" ∈ lw_tbl := by decide +kernel
theorem st_i1 : Cond.initialized Bundle.tN ∈ lw_tbl := by decide +kernel
theorem st_i3 : Cond.initialized "java/lang/String" ∈ lw_tbl := by decide +kernel
theorem st_i4 : Cond.initialized "jdk/internal/util/Preconditions" ∈ lw_tbl := by decide +kernel
theorem st_v1 : Cond.isRef (.static Bundle.tN "UNASSIGNED_STACK" Bundle.steD) ∈ nfl := by decide +kernel
theorem st_v2 : Cond.isRef (.static Bundle.tN "SUPPRESSED_SENTINEL" Bundle.listD) ∈ nfl := by decide +kernel
theorem st_v3 : Cond.eq (.static "java/lang/String" "COMPACT_STRINGS" "Z") (.int 1) ∈ nfl := by decide +kernel
theorem st_v4 : Cond.isRef (.static "jdk/internal/util/Preconditions" "SIOOBE_FORMATTER" "Ljava/util/function/BiFunction;") ∈ nfl := by decide +kernel
theorem xs_at (ht : ∀ w ∈ lw_tbl, w.before #[Value.ref b] s = true) (hn : ∀ w ∈ nfl, w.before #[Value.ref b] s = true) (hA : ∀ a : Nat, a < s.heap.size → ¬ A a) : ∃ adK adV : Nat → Nat, ∀ (D : va_G) (aA : Nat → Nat → Nat) (r : ClassId × ClassId × ClassId × ClassId × List (ClassId × FieldType)), XS (D, aA, adK, adV, r) A s s.heap := by
  have h0 : ∀ i : Nat, ∃ q : Nat × Nat, i < 13 → (stT i).eval #[Value.ref b] s none [] s = some (.ref q.1) ∧ SFx s A i q.1 q.2 := fun i => by
    by_cases hi : i < 13
    · obtain ⟨q, hq⟩ := str_at hn hA hi
      exact ⟨q, fun _ => hq⟩
    · exact ⟨(0, 0), fun h => absurd h hi⟩
  obtain ⟨ad, had⟩ := Classical.axiomOfChoice h0
  refine ⟨fun i => (ad i).1, fun i => (ad i).2, fun D aA r => ⟨⟨fun i hi => (had i hi).2, fun i j hi hj e => ?_⟩, vx_Zqof (ht _ st_l1) (ht _ st_i1) (hn _ st_v1) hA, vx_Zqof (ht _ st_l2) (ht _ st_i1) (hn _ st_v2) hA, va_Zof (ht _ st_l3) (ht _ st_i3) (va_eqt (hn _ st_v3)) hA, va_Zqof (ht _ st_l4) (ht _ st_i4) (hn _ st_v4) hA, fun q hq => ?_, fun q hq => ?_⟩⟩
  · have e : (ad i).1 = (ad j).1 := e
    have hj2 := (had j hj).2
    rw [← e] at hj2
    exact str_inj hi hj (had i hi).2 hj2
  · obtain ⟨lt, h⟩ := sxR_tm q hq
    have ev := (had q.2.2.2 lt).1
    refine vk_R.of (ht _ (sxR_in q hq)) ?_
    rcases h with h | h
    · rw [h]; exact ev
    · exact va_eqR (hn _ h) ev
  · obtain ⟨h1, h2⟩ := sxX_in q hq
    obtain ⟨a, c, cA, kA, q1, -⟩ := Cond.exactly_spec (args := #[Value.ref b]) (first := s) (o := none) (s := s) (idx := []) (t := .string "RhymeRoofs" q.1) (cls := "java/lang/String") (hn _ h2)
    exact ⟨a, vk_R.of (ht _ h1) q1⟩
theorem xt_1 : ∀ k, k < 4 → Cond.castable (xN k) (xN k) ∈ lw_tbl := by decide +kernel
theorem xt_2 : ∀ j, j < 4 → ∀ k, k < 4 → j ≠ k → Cond.not (.castable (xN j) (xN k)) ∈ nfl := by decide +kernel
theorem xt_3 : ∀ Y ∈ xY, Cond.declares (Bundle.initS Y) ∈ lw_tbl := by decide +kernel
theorem xt_at (ht : ∀ w ∈ lw_tbl, w.before #[Value.ref b] s = true) (hn : ∀ w ∈ nfl, w.before #[Value.ref b] s = true) : XT s :=
  ⟨fun k hk => va_Nw.of rfl (ht _ (xt_1 k hk)), fun j k hj hk e => va_Nc.of (hn _ (xt_2 j hj k hk e)), fun Y hY => va_Nw.of rfl (ht _ (xt_3 Y hY))⟩
theorem ao_1 : Cond.arrayOver (.object "RhymeRoofs$Game") ∈ lw_tbl := by decide +kernel
theorem ao_2 : Cond.arrayOver (.array .int) ∈ lw_tbl := by decide +kernel
theorem ao_3 : ∀ q ∈ nsL, Cond.methodLinkNest q.1 q.2.1 q.2.2 "RhymeRoofs" ∈ lw_tbl := by decide +kernel
theorem ao_at (ht : ∀ w ∈ lw_tbl, w.before #[Value.ref b] s = true) : AOX s := ⟨va_AO.of (ht _ ao_1), va_AOA.of (ht _ ao_2), fun q hq => va_Nw.of rfl (ht _ (ao_3 q hq))⟩
theorem ar_i : Cond.arrayClass .int ∈ lw_tbl := by decide +kernel
theorem ar_j : Cond.arrayClass .long ∈ lw_tbl := by decide +kernel
theorem in_cl : Cond.instantiable RX0 12 ∈ lw_tbl ∧ Cond.instantiable RX1 13 ∈ lw_tbl ∧ Cond.instantiable RX2 3 ∈ lw_tbl ∧ Cond.instantiable RX3 3 ∈ lw_tbl ∧ Cond.instantiable RX4 8 ∈ lw_tbl ∧ Cond.instantiable RX5 11 ∈ lw_tbl ∧ Cond.instantiable RX7 8 ∈ lw_tbl ∧ Cond.instantiable RX8 21 ∈ lw_tbl := by decide +kernel
theorem cls_at (ht : ∀ w ∈ lw_tbl, w.before #[Value.ref b] s = true) : ∃ D : va_G, ∀ (c : Nat) (q : vw_C), vwCl[c]? = some q → u_Kn s q.1 q.2.1 q.2.2 (D.1 c) (D.2 c) := by
  obtain ⟨i0, i1, i2, i3, i4, i5, i7, i8⟩ := in_cl
  have h0 : ∀ c : Nat, ∃ z : ClassId × (Nat → Nat), ∀ q : vw_C, vwCl[c]? = some q → u_Kn s q.1 q.2.1 q.2.2 z.1 z.2 := fun c => by
    match c with
    | 0 => obtain ⟨x, y, h⟩ := u_known (C := RX0) (T := TX0) (N := 12) (n := 12) ht inX0 (ht _ i0); exact ⟨(x, y), fun q hq => by cases hq; exact h⟩
    | 1 => obtain ⟨x, y, h⟩ := u_known (C := RX1) (T := TX1) (N := 13) (n := 13) ht inX1 (ht _ i1); exact ⟨(x, y), fun q hq => by cases hq; exact h⟩
    | 2 => obtain ⟨x, y, h⟩ := u_known (C := RX2) (T := TX2) (N := 3) (n := 3) ht inX2 (ht _ i2); exact ⟨(x, y), fun q hq => by cases hq; exact h⟩
    | 3 => obtain ⟨x, y, h⟩ := u_known (C := RX3) (T := TX3) (N := 3) (n := 3) ht inX3 (ht _ i3); exact ⟨(x, y), fun q hq => by cases hq; exact h⟩
    | 4 => obtain ⟨x, y, h⟩ := u_known (C := RX4) (T := TX4) (N := 8) (n := 8) ht inX4 (ht _ i4); exact ⟨(x, y), fun q hq => by cases hq; exact h⟩
    | 5 => obtain ⟨x, y, h⟩ := u_known (C := RX5) (T := TX5) (N := 11) (n := 11) ht inX5 (ht _ i5); exact ⟨(x, y), fun q hq => by cases hq; exact h⟩
    | 6 => obtain ⟨x, y, h⟩ := u_known (C := RX7) (T := TX7) (N := 8) (n := 8) ht inX7 (ht _ i7); exact ⟨(x, y), fun q hq => by cases hq; exact h⟩
    | 7 => obtain ⟨x, y, h⟩ := u_known (C := RX8) (T := TX8) (N := 21) (n := 21) ht inX8 (ht _ i8); exact ⟨(x, y), fun q hq => by cases hq; exact h⟩
    | c + 8 => exact ⟨(0, fun _ => 0), fun q hq => by
        have hq : (none : Option vw_C) = some q := hq
        cases hq⟩
  obtain ⟨z, hz⟩ := Classical.axiomOfChoice h0
  exact ⟨(fun c => (z c).1, fun c => (z c).2), fun c q hq => hz c q hq⟩
theorem arr_at {ty : FieldType} (h : (Cond.arrayClass ty).before #[Value.ref b] s = true) : ∃ cA : ClassId, ArrOfT s cA ty ∧ s.vm.findClass ("[" ++ ty.toString) = some cA := by
  obtain ⟨cA, kA, comp, h1, h2, h3⟩ := Cond.arrayClass_spec h
  exact ⟨cA, fun n z => ⟨fun k h => (by cases h), kA, h2, comp, h3⟩, h1⟩
/-- the numbers of the tables, the classes of rows, the addresses of texts -/
theorem ent_at (ht : ∀ w ∈ lw_tbl, w.before #[Value.ref b] s = true) (hn : ∀ w ∈ nfl, w.before #[Value.ref b] s = true) (hA : ∀ a : Nat, a < s.heap.size → ¬ A a) : ∃ E : EV, va_K (eD E) vwCl (eT E) s ∧ XS E A s s.heap ∧ (eT E)[2]? = some (eG E, .object "RhymeRoofs$Game") ∧ (eT E)[3]? = some (eM E, .array .int) := by
  obtain ⟨D, hD⟩ := cls_at ht
  obtain ⟨adK, adV, hX⟩ := xs_at ht hn hA
  obtain ⟨cI, hI1, hI2⟩ := arr_at (ht _ ar_i)
  obtain ⟨cJ, hJ1, hJ2⟩ := arr_at (ht _ ar_j)
  obtain ⟨comp, cG, kG, g1, g2, g3, g4, g5⟩ := Cond.arrayOver_spec (ht _ ao_1)
  obtain ⟨comp2, cM, kM, m1, m2, m3, m4, m5⟩ := arrayOverA_spec (ht _ ao_2)
  refine ⟨(D, fun _ _ => 0, adK, adV, cI, cJ, cG, cM, [(cG, .object "RhymeRoofs$Game"), (cM, .array .int)]), ⟨hD, fun k q hk => ?_⟩, hX _ _ _, rfl, rfl⟩
  match k, hk with
  | 0, hk => cases hk; exact ⟨hI1, hI2⟩
  | 1, hk => cases hk; exact ⟨hJ1, hJ2⟩
  | 2, hk => cases hk; exact ⟨fun n z => ⟨fun k h => (by cases h), kG, g3, comp, g4⟩, ⟨kG, comp, g3, g4, g1, g5⟩⟩
  | 3, hk => cases hk; exact ⟨fun n z => ⟨fun k h => (by cases h), kM, m3, comp2, m4⟩, m5⟩
  | k + 4, hk =>
    have hk : (none : Option (ClassId × FieldType)) = some q := hk
    cases hk
end ENT
