/-! CONSTRUCTORS: worlds of cells in lists; what is new stands in front -/
def CA (a sz : Nat) : Nat → Prop := fun q => q = a ∨ sz ≤ q
/-- the links to private constructors, from nest mates -/
def nsL : List (String × Nat × MethodName) := [(RX1, 11, yX4_init), (RX4, 22, yX3_init), (RX7, 39, yX5_init), (RX7, 46, yX0_init)]
def AOX (U : State) : Prop := va_AO "RhymeRoofs$Game" U ∧ va_AOA .int U ∧ ∀ q ∈ nsL, va_Nw (.methodLinkNest q.1 q.2.1 q.2.2 "RhymeRoofs") U
theorem AOX.warm {s U : State} (hW : s.WarmedH U.vm) (h : AOX s) : AOX U := ⟨h.1.moved hW.alike, over_moved hW.alike h.2.1, fun q hq => (h.2.2 q hq).warmM hW⟩
theorem AOX.same {s U : State} (hv : U.vm = s.vm) (h : AOX s) : AOX U := by
  have ha : s.vm.Alike U.vm := by rw [hv]; exact Vm.Alike.refl _
  exact ⟨h.1.moved ha, over_moved ha h.2.1, fun q hq => va_Nw.same rfl hv.symm (h.2.2 q hq)⟩
theorem va_P.of {D : va_G} {cl : List vw_C} {ws ws' : va_W} {H : Heap} (h : va_P D cl ws H) (hm : ∀ p ∈ ws', p ∈ ws) : va_P D cl ws' H := by
  intro k q hk
  obtain ⟨i, hi⟩ := List.getElem?_of_mem (hm q (List.mem_of_getElem? hk))
  exact h i q hi
theorem va_P.mem {D : va_G} {cl : List vw_C} {ws : va_W} {H : Heap} (h : va_P D cl ws H) {q : Nat × va_E} (hm : q ∈ ws) : va_at D cl q H := by
  obtain ⟨i, hi⟩ := List.getElem?_of_mem hm
  exact h i q hi
theorem va_P.join {D : va_G} {cl : List vw_C} {w1 w2 : va_W} {H : Heap} (h1 : va_P D cl w1 H) (h2 : va_P D cl w2 H) : va_P D cl (w1 ++ w2) H := by
  intro k q hk
  rcases List.mem_append.mp (List.mem_of_getElem? hk) with h | h
  · exact h1.mem h
  · exact h2.mem h
/-- addresses apart, as a list without doubles -/
def nda (ws : va_W) : Prop := (ws.map (fun q => q.1)).Pairwise (fun a b => a ≠ b)
theorem va_D_nda {A : Nat → Prop} {ws : va_W} (h : va_D A ws) : nda ws := by
  refine List.pairwise_iff_getElem.mpr (fun i j hi hj hij e => ?_)
  rw [List.getElem_map, List.getElem_map] at e
  rw [List.length_map] at hi hj
  exact absurd (h.1 i j _ _ (List.getElem?_eq_getElem hi) (List.getElem?_eq_getElem hj) e) (Nat.ne_of_lt hij)
theorem va_D_in {A : Nat → Prop} {ws : va_W} (h : va_D A ws) : ∀ q ∈ ws, A q.1 := by
  intro q hq
  obtain ⟨i, hi⟩ := List.getElem?_of_mem hq
  exact h.2 i q hi
theorem va_D_mk {A : Nat → Prop} {ws : va_W} (h : nda ws) (hA : ∀ q ∈ ws, A q.1) : va_D A ws := by
  refine ⟨fun i j p q hi hj e => ?_, fun k q hk => hA q (List.mem_of_getElem? hk)⟩
  have h2 := List.pairwise_iff_getElem.mp h
  obtain ⟨li, ei⟩ := List.getElem?_eq_some_iff.mp hi
  obtain ⟨lj, ej⟩ := List.getElem?_eq_some_iff.mp hj
  rcases Nat.lt_trichotomy i j with z | z | z
  · refine absurd ?_ (h2 i j (by rw [List.length_map]; exact li) (by rw [List.length_map]; exact lj) z)
    rw [List.getElem_map, List.getElem_map, ei, ej]; exact e
  · exact z
  · refine absurd ?_ (h2 j i (by rw [List.length_map]; exact lj) (by rw [List.length_map]; exact li) z)
    rw [List.getElem_map, List.getElem_map, ei, ej]; exact e.symm
theorem nda_app {w1 w2 : va_W} : nda (w1 ++ w2) ↔ nda w1 ∧ nda w2 ∧ ∀ p ∈ w1, ∀ q ∈ w2, p.1 ≠ q.1 := by
  unfold nda
  rw [List.map_append, List.pairwise_append]
  constructor
  · rintro ⟨a, b, c⟩
    exact ⟨a, b, fun p hp q hq => c p.1 (List.mem_map.mpr ⟨p, hp, rfl⟩) q.1 (List.mem_map.mpr ⟨q, hq, rfl⟩)⟩
  · rintro ⟨a, b, c⟩
    refine ⟨a, b, fun x hx y hy => ?_⟩
    obtain ⟨p, hp, rfl⟩ := List.mem_map.mp hx
    obtain ⟨q, hq, rfl⟩ := List.mem_map.mp hy
    exact c p hp q hq
theorem va_D.swp {A : Nat → Prop} {w1 w2 : va_W} (h : va_D A (w1 ++ w2)) : va_D A (w2 ++ w1) := by
  have n := nda_app.mp (va_D_nda h)
  refine va_D_mk (nda_app.mpr ⟨n.2.1, n.1, fun p hp q hq e => n.2.2 q hq p hp e.symm⟩) (fun q hq => va_D_in h q ?_)
  rcases List.mem_append.mp hq with z | z
  · exact List.mem_append_right _ z
  · exact List.mem_append_left _ z
theorem va_P.swp {D : va_G} {cl : List vw_C} {w1 w2 : va_W} {H : Heap} (h : va_P D cl (w1 ++ w2) H) : va_P D cl (w2 ++ w1) H :=
  h.of (fun p hp => (List.mem_append.mp hp).elim (fun z => List.mem_append_right _ z) (fun z => List.mem_append_left _ z))
/-- a constructor's start: the new cell alone -/
def KN (E : EV) (a : Nat) (c0 : va_E) (sz : Nat) : Array Value → State → Prop := va_Pc [.ref a] (fun U => U.heap.size = sz ∧ va_P (eD E) vwCl [(a, c0)] U.heap ∧ va_K (eD E) vwCl (eT E) U ∧ XS E (CA a sz) U U.heap ∧ AOX U)
theorem KN_blind {E : EV} {a : Nat} {c0 : va_E} {sz : Nat} : FrameBlind (fun v U => KN E a c0 sz v U) := fun v U g mk q => by
  obtain ⟨q0, q1, qP, qK, qX, qO⟩ := q
  exact ⟨q0, q1, qP, va_K.moved (u := U) (U := U.calling g mk v) (Vm.Alike.refl U.vm) qK, XS.same (s := U) (U := U.calling g mk v) rfl qX, AOX.same (s := U) (U := U.calling g mk v) rfl qO⟩
abbrev KC (l : Launch) (y : MethodName) (ws : List Cond) (rm : Room) (E : EV) (a : Nat) (c0 : va_E) {S : Type} (W0 : S → va_W) (P0 : S → Prop) (mc ms : Nat) : Prop :=
  ∀ sz : Nat, Met l y ws rm (KN E a c0 sz) (va_Qv P0 (fun u t => va_P (eD E) vwCl (W0 u) t.heap ∧ va_D (CA a sz) (W0 u)) (CA a sz)) mc ms (CA a sz)
section NW
variable {p : Program} {l : Launch} {e : Env} {R : Room} {s : State} {m : MethodId} {args : Array Value} {below : List Frame} {meth : Method} {c : Code} {H : Heap} {locs : List Loc} {cells slots : Nat} {Q : State → Prop}
variable {cc : ByteArray} {pc : Nat} {ls : Array Slot} {rest : List Value} {A : Nat → Prop} {H0 : Heap} {E : EV} {ws : va_W}
theorem N_cls {tys : List (ClassId × FieldType)} {cA cI : ClassId} {ty : FieldType} (h : ∀ C, ty ≠ .object C) (hK : va_K (eD E) vwCl (tys ++ [(cA, ty)]) s) (ht : (cI, ty) ∈ tys) : cA = cI := by
  have f : ∀ {c : ClassId}, va_RA s c ty → s.vm.findClass ("[" ++ ty.toString) = some c := fun {c} z => by
    cases ty with
    | object C => exact absurd rfl (h C)
    | _ => exact z
  obtain ⟨i, hi⟩ := List.getElem?_of_mem (List.mem_append_left [(cA, ty)] ht)
  have a := f (hK.2 tys.length (cA, ty) (by rw [List.getElem?_append_right (Nat.le_refl _), Nat.sub_self]; rfl)).2
  have b := f (hK.2 i _ hi).2
  exact Option.some.inj (a.symm.trans b)
theorem N_clsO {tys : List (ClassId × FieldType)} {cA cI : ClassId} {C : String} (hK : va_K (eD E) vwCl (tys ++ [(cA, .object C)]) s) (ht : (cI, .object C) ∈ tys) : cA = cI := by
  obtain ⟨i, hi⟩ := List.getElem?_of_mem (List.mem_append_left [(cA, .object C)] ht)
  obtain ⟨-, -, -, -, -, a⟩ := (hK.2 tys.length (cA, .object C) (by rw [List.getElem?_append_right (Nat.le_refl _), Nat.sub_self]; rfl)).2
  obtain ⟨-, -, -, -, -, b⟩ := (hK.2 i _ hi).2
  exact Option.some.inj (a.symm.trans b)
theorem N_int (hx : p.tables.exec = Jvm.exec) (hb : c.code = cc) (harr : (Cond.arrayClass .int).before args s = true) (hK : va_K (eD E) vwCl (eT E) s) (hP : va_P (eD E) vwCl ws H) (hD : va_D A ws) (hS : va_S A H0 H locs) (hA : ∀ q, H0.size ≤ q → A q)
    {n : Int32} (N' : Nat) (hn : ¬ n < 0) (hN : n.toNatClampNeg = N') (hbytes : N' * componentBytes .int ≤ 536870912) (hcells : cells + 1 ≤ R.cells) (hslots : slots + N' ≤ R.slots) (hdg : decode cc pc = .ok (.newarray .int, 2))
    (kk : ∀ (q : Nat) (H1 : Heap), va_P (eD E) vwCl ((q, .inl (eI E, N', .inl (fun _ => 0))) :: ws) H1 → va_D A ((q, .inl (eI E, N', .inl (fun _ => 0))) :: ws) → va_S A H0 H1 locs → W p l e R s m args below meth c H1 locs (cells + 1) (slots + N') Q (F0 m (pc + 2) ls (.ref q :: rest))) : W p l e R s m args below meth c H locs cells slots Q (F0 m pc ls (.int n :: rest)) := by
  refine va_newa (atype := .int) (ty := .int) (a0 := (N', .inl (fun _ => 0))) hx hb harr rfl hK hP hD hS hA (fun _ => rfl) hn hN hbytes hcells hslots hdg (fun q cA H1 hK1 hP1 hD1 hS1 => ?_)
  have ec := N_cls (fun C z => by cases z) hK1 (List.mem_cons_self : (eI E, FieldType.int) ∈ eT E)
  subst ec
  exact kk q H1 hP1.swp hD1.swp hS1
theorem N_long (hx : p.tables.exec = Jvm.exec) (hb : c.code = cc) (harr : (Cond.arrayClass .long).before args s = true) (hK : va_K (eD E) vwCl (eT E) s) (hP : va_P (eD E) vwCl ws H) (hD : va_D A ws) (hS : va_S A H0 H locs) (hA : ∀ q, H0.size ≤ q → A q)
    {n : Int32} (N' : Nat) (hn : ¬ n < 0) (hN : n.toNatClampNeg = N') (hbytes : N' * componentBytes .long ≤ 536870912) (hcells : cells + 1 ≤ R.cells) (hslots : slots + N' ≤ R.slots) (hdg : decode cc pc = .ok (.newarray .long, 2))
    (kk : ∀ (q : Nat) (H1 : Heap), va_P (eD E) vwCl ((q, .inl (eJ E, N', .inr (.inl (fun _ => 0)))) :: ws) H1 → va_D A ((q, .inl (eJ E, N', .inr (.inl (fun _ => 0)))) :: ws) → va_S A H0 H1 locs → W p l e R s m args below meth c H1 locs (cells + 1) (slots + N') Q (F0 m (pc + 2) ls (.ref q :: rest))) : W p l e R s m args below meth c H locs cells slots Q (F0 m pc ls (.int n :: rest)) := by
  refine va_newa (atype := .long) (ty := .long) (a0 := (N', .inr (.inl (fun _ => 0)))) hx hb harr rfl hK hP hD hS hA (fun _ => rfl) hn hN hbytes hcells hslots hdg (fun q cA H1 hK1 hP1 hD1 hS1 => ?_)
  have ec := N_cls (fun C z => by cases z) hK1 (List.mem_cons_of_mem _ List.mem_cons_self : (eJ E, FieldType.long) ∈ eT E)
  subst ec
  exact kk q H1 hP1.swp hD1.swp hS1
theorem N_new {own C : String} {T : u_T} {N ci index : Nat} {Ts : List Cond} (hx : p.tables.exec = Jvm.exec) (hb : c.code = cc) (hts : ∀ w ∈ Ts, w.before args s = true) (hin : ∀ w ∈ u_ws C T N, w ∈ Ts) (ty : Nat → FieldType) (hty : ∀ k, k < N → parseFieldDescriptor (T k).2.2.1 = some (ty k)) (hown : s.vm.findClass own = some m.cls) (hw1 : Cond.classLink own index C ∈ Ts) (hw2 : Cond.instantiable C N ∈ Ts) (hw3 : Cond.initialized C ∈ Ts)
    (hK : va_K (eD E) vwCl (eT E) s) (hP : va_P (eD E) vwCl ws H) (hD : va_D A ws) (hS : va_S A H0 H locs) (hA : ∀ q, H0.size ≤ q → A q) (hc : vwCl[ci]? = some (C, T, N)) {fs : List Value} (hfs : ∀ j, j < N → defaultValue (ty j) = vp_V fs j) (hcells : cells + 1 ≤ R.cells) (hslots : slots + N ≤ R.slots) (hdg : decode cc pc = .ok (.new index, 3))
    (kk : ∀ (q : Nat) (H1 : Heap), va_P (eD E) vwCl ((q, .inr (ci, fs)) :: ws) H1 → va_D A ((q, .inr (ci, fs)) :: ws) → va_S A H0 H1 locs → W p l e R s m args below meth c H1 locs (cells + 1) (slots + N) Q (F0 m (pc + 3) ls (.ref q :: rest))) : W p l e R s m args below meth c H locs cells slots Q (F0 m pc ls rest) :=
  va_new hx hb hts hin ty hty hown (hts _ hw1) (hts _ hw2) (hts _ hw3) hK hP hD hS hA hc hfs hcells hslots hdg (fun q H1 hP1 hD1 hS1 => kk q H1 hP1.swp hD1.swp hS1)
/-- what a constructor asks of the caller's world -/
theorem N_pre {q : Nat} {c0 : va_E} (hK : va_K (eD E) vwCl (eT E) s) (hP : va_P (eD E) vwCl ((q, c0) :: ws) H) (hD : va_D A ((q, c0) :: ws)) (hS : va_S A s.heap H locs) (hX : XS E A s s.heap) (hO : AOX s) (hA : ∀ q, s.heap.size ≤ q → A q) : PreS s H (KN E q c0 H.size) [.ref q] :=
  ⟨KN_blind, fun U hU hW => ⟨rfl, by rw [hU], by rw [hU]; exact hP.of (fun x hx => by rw [List.mem_singleton.mp hx]; exact List.mem_cons_self), va_K.moved hW.alike hK, by rw [hU]; exact XS.warm hW ((hX.kept hS.2.1).narrow (fun x hx => hx.elim (fun z => by rw [z]; exact va_D_in hD _ List.mem_cons_self) (fun z => R_grow hS hA x z))), hO.warm hW⟩⟩
/-- a constructor called on the cell in front: its world comes behind the others -/
theorem N_initG {S : Type} {W0 : S → va_W} {P0 : S → Prop} {mc ms : Nat} {q : Nat} {c0 : va_E} {st0 : List Value} {av : Array Value}
    (hr : va_Run p l e R s m args below meth c H locs cells slots mc ms (F0 m pc ls st0) rest (va_Qv P0 (fun u t => va_P (eD E) vwCl (W0 u) t.heap ∧ va_D (CA q H.size) (W0 u)) (CA q H.size) av) (CA q H.size))
    (hP : va_P (eD E) vwCl ((q, c0) :: ws) H) (hD : va_D A ((q, c0) :: ws)) (hS : va_S A s.heap H locs) (hA : ∀ q, s.heap.size ≤ q → A q)
    (kk : ∀ (u : S) (H1 : Heap) (locs1 : List Loc), P0 u → va_P (eD E) vwCl (ws ++ W0 u) H1 → va_D A (ws ++ W0 u) → va_S A s.heap H1 locs1 → W p l e R s m args below meth c H1 locs1 (cells + mc) (slots + ms) Q (F0 m (pc + 3) ls rest)) : W p l e R s m args below meth c H locs cells slots Q (F0 m pc ls st0) := by
  have hA1 := R_grow hS hA
  have sub : ∀ x, CA q H.size x → A x := fun x hx => hx.elim (fun z => by rw [z]; exact va_D_in hD _ List.mem_cons_self) (fun z => hA1 x z)
  refine va_callv hr hS (fun x _ h => sub x h) sub (fun u t H1 locs1 ht _ hq hB h1 h2 hS1 => ?_)
  obtain ⟨hP1, hD1⟩ := hB
  rw [ht] at hP1
  have nd := nda_app.mp (va_D_nda (show va_D A ([(q, c0)] ++ ws) from hD))
  have hw0 : va_P (eD E) vwCl ws H := hP.of (fun x hx => List.mem_cons_of_mem _ hx)
  have old : ∀ x ∈ ws, x.1 < H.size := fun x hx => by
    obtain ⟨i, hi⟩ := List.getElem?_of_mem hx
    exact vx_lt hw0 hi
  have ne : ∀ x ∈ ws, x.1 ≠ q := fun x hx e => nd.2.2 _ (List.mem_singleton.mpr rfl) x hx e.symm
  refine kk u H1 locs1 hq ((hw0.kept (fun i x hx => h2 x.1 (old x (List.mem_of_getElem? hx)) (fun z => z.elim (ne x (List.mem_of_getElem? hx)) (fun z => absurd (old x (List.mem_of_getElem? hx)) (Nat.not_lt.mpr z))))).join hP1) (va_D_mk (nda_app.mpr ⟨nd.2.1, va_D_nda hD1, fun x hx z hz ez => ?_⟩) (fun x hx => ?_)) hS1
  · rcases va_D_in hD1 z hz with w | w
    · exact ne x hx (ez.trans w)
    · exact absurd (old x hx) (Nat.not_lt.mpr (by rw [ez]; exact w))
  · rcases List.mem_append.mp hx with z | z
    · exact va_D_in hD x (List.mem_cons_of_mem _ z)
    · exact sub _ (va_D_in hD1 x z)
theorem N_init {S : Type} {W0 : S → va_W} {P0 : S → Prop} {mc ms : Nat} {y : MethodName} {bytes : ByteArray} {maxL nL index : Nat} {wy wy' Ts : List Cond} {rm : Room} {own : String} {q : Nat} {c0 : va_E}
    (S0 : cOk p m c cc nL s args Ts own) (hM : KC l y wy rm E q c0 W0 P0 mc ms) (hG : GoodIn Ts wy) (hw : wy = Cond.code y bytes maxL none :: wy') (hrm : rm.cells = mc ∧ rm.slots = ms) (hw1 : Cond.initialized y.cls ∈ Ts) (hw2 : Cond.methodLink own index y ∈ Ts) (hw3 : Cond.instanceMethod y ∈ Ts) (hy1 : y.name = "<init>")
    (hy : y.cls ≠ "java/lang/invoke/MethodHandle" ∧ y.cls ≠ "java/lang/invoke/VarHandle" ∧ (parseMethodDescriptor y.desc).map (fun d => d.parameters.length) = some 0) (hR : rm.frames + 1 ≤ R.frames ∧ 8 + (maxL + 11) + rm.locals ≤ R.locals)
    (hK : va_K (eD E) vwCl (eT E) s) (hP : va_P (eD E) vwCl ((q, c0) :: ws) H) (hD : va_D A ((q, c0) :: ws)) (hS : va_S A s.heap H locs) (hX : XS E A s s.heap) (hO : AOX s) (hA : ∀ q, s.heap.size ≤ q → A q)
    (hsz : ls.size = nL) (hr : (rest.map fun v => v.category).sum ≤ 8) (hcs : cells + mc ≤ R.cells ∧ slots + ms ≤ R.slots) (hdg : decode cc pc = .ok (.invokespecial index, 3))
    (kk : ∀ (u : S) (H1 : Heap) (locs1 : List Loc), P0 u → va_P (eD E) vwCl (ws ++ W0 u) H1 → va_D A (ws ++ W0 u) → va_S A s.heap H1 locs1 → W p l e R s m args below meth c H1 locs1 (cells + mc) (slots + ms) Q (F0 m (pc + 3) ls rest)) : W p l e R s m args below meth c H locs cells slots Q (F0 m pc ls (.ref q :: rest)) :=
  N_initG (va_runI (As := []) (rest := rest) S0 (hM H.size) (cwI 0 S0.2.2.2.2 hG hw hrm.1 hrm.2 (S0.2.2.2.2 _ hw1) (S0.2.2.2.2 _ hw2) (S0.2.2.2.2 _ hw3) hy1 hy hR) (N_pre hK hP hD hS hX hO hA) rfl rfl hsz rfl (lv_room hr) hdg hcs) hP hD hS hA kk
/-- the same, of a private constructor -/
theorem N_initN {S : Type} {W0 : S → va_W} {P0 : S → Prop} {mc ms : Nat} {y : MethodName} {bytes : ByteArray} {maxL nL index : Nat} {wy wy' Ts : List Cond} {rm : Room} {own : String} {q : Nat} {c0 : va_E}
    (S0 : cOk p m c cc nL s args Ts own) (hM : KC l y wy rm E q c0 W0 P0 mc ms) (hG : GoodIn Ts wy) (hw : wy = Cond.code y bytes maxL none :: wy') (hrm : rm.cells = mc ∧ rm.slots = ms) (hw1 : Cond.initialized y.cls ∈ Ts) (hw2 : (own, index, y) ∈ nsL) (hw3 : Cond.instanceMethod y ∈ Ts) (hy1 : y.name = "<init>")
    (hy : y.cls ≠ "java/lang/invoke/MethodHandle" ∧ y.cls ≠ "java/lang/invoke/VarHandle" ∧ (parseMethodDescriptor y.desc).map (fun d => d.parameters.length) = some 0) (hR : rm.frames + 1 ≤ R.frames ∧ 8 + (maxL + 11) + rm.locals ≤ R.locals)
    (hK : va_K (eD E) vwCl (eT E) s) (hP : va_P (eD E) vwCl ((q, c0) :: ws) H) (hD : va_D A ((q, c0) :: ws)) (hS : va_S A s.heap H locs) (hX : XS E A s s.heap) (hO : AOX s) (hA : ∀ q, s.heap.size ≤ q → A q)
    (hsz : ls.size = nL) (hr : (rest.map fun v => v.category).sum ≤ 8) (hcs : cells + mc ≤ R.cells ∧ slots + ms ≤ R.slots) (hdg : decode cc pc = .ok (.invokespecial index, 3))
    (kk : ∀ (u : S) (H1 : Heap) (locs1 : List Loc), P0 u → va_P (eD E) vwCl (ws ++ W0 u) H1 → va_D A (ws ++ W0 u) → va_S A s.heap H1 locs1 → W p l e R s m args below meth c H1 locs1 (cells + mc) (slots + ms) Q (F0 m (pc + 3) ls rest)) : W p l e R s m args below meth c H locs cells slots Q (F0 m pc ls (.ref q :: rest)) :=
  N_initG (va_runIN (As := []) (rest := rest) S0 (hM H.size) ⟨va_cnB 0 S0.2.2.2.2 hG hw hrm.1 hrm.2 (hO.2.2 _ hw2) (S0.2.2.2.2 _ hw1) hy hR, hy1, S0.2.2.2.2 _ hw3⟩ (N_pre hK hP hD hS hX hO hA) rfl rfl hsz rfl (lv_room hr) hdg hcs) hP hD hS hA kk
end NW
/-- a constructor's body -/
theorem KC_of {l : Launch} {y : MethodName} {wy wy' : List Cond} {rm : Room} {E : EV} {a : Nat} {c0 : va_E} {S : Type} {W0 : S → va_W} {P0 : S → Prop} {mc ms : Nat} {cc : ByteArray} {maxL : Nat} (hy : plainName y.cls = true) (hw : wy = Cond.code y cc maxL none :: wy') (hy1 : y.name = "<init>") (hn : (lg_sl [.ref a]).length ≤ maxL)
    (body : ∀ (p : Program) (e : Env) (s : State) (m : MethodId) (args : Array Value) (below : List Frame) (meth : Method) (c : Code) (Qm : State → Prop),
      (∀ {u : S} {H : Heap} {locs : List Loc} {ls : Array Slot} {pc k n : Nat}, P0 u → va_P (eD E) vwCl (W0 u) H → va_D (CA a s.heap.size) (W0 u) → va_S (CA a s.heap.size) s.heap H locs → decode cc pc = .ok (.return_, 1) → k ≤ mc → n ≤ ms → W p l e rm s m args below meth c H locs k n Qm (F0 m pc ls [])) →
      meth.name = "<init>" → cOk p m c cc maxL s args wy y.cls → va_K (eD E) vwCl (eT E) s → XS E (CA a s.heap.size) s s.heap → AOX s → va_P (eD E) vwCl [(a, c0)] s.heap → va_D (CA a s.heap.size) [(a, c0)] →
      ∀ ls : Array Slot, lv_has ls maxL (lv_args 0 [.ref a]) → W p l e rm s m args below meth c s.heap [] 0 0 Qm (F0 m 0 ls [])) : KC l y wy rm E a c0 W0 P0 mc ms := by
  intro sz
  refine Met.ofW (cc := cc) (maxL := maxL) (ret := none) hy hw ?_
  intro p e s m args below meth c s₁ B hml hv
  obtain ⟨rfl, hsz, hP, hK, hX, hO⟩ := hv
  subst hsz
  rw [lg_entry_eq]
  have hlk := B.notSynchronized
  have hr := B.returns
  have hD : va_D (CA a s.heap.size) [(a, c0)] := va_D_mk (List.pairwise_singleton _ _) (fun q hq => Or.inl (by rw [List.mem_singleton.mp hq]))
  refine body p e s m _ below meth c _ (fun {u} {H} {locs} {ls} {pc} {k} {n} hu hP1 hD1 hS1 hdg hk hn => ?_) ?_ ⟨B.exec, B.bytes, hml, findClass_of_methodNamed B.named, atoms_spec (ws := wy) B.pre⟩ hK hX hO hP hD _ (lv_entry [.ref a] hn)
  · exact W.widen hk hn (W.vret B.exec B.bytes hr (fun t ht hW => ⟨⟨u, rfl, hu, by rw [ht]; exact hP1, hD1⟩, hS1.F ht⟩) hS1.2.2 hdg)
  · rw [← hy1]; exact (name_of_methodNamed B.named B.method).1
/-- the same world under other addresses -/
def eN (E : EV) (A : Nat → Nat → Nat) : EV := (E.1, A, E.2.2)
def gps (b : Nat) : List (Nat × Nat) := [(b, 0), (b, 1), (b, 2), (b, 3), (b, 4), (b, 5), (b, 6), (b, 7), (b, 8), (b, 9), (b, 10), (b, 11), (b, 12), (b, 13), (b, 14), (b, 15)]
theorem gps_in {b r : Nat} (h : r < 16) : (b, r) ∈ gps b := by
  unfold gps
  rcases (show r = 0 ∨ r = 1 ∨ r = 2 ∨ r = 3 ∨ r = 4 ∨ r = 5 ∨ r = 6 ∨ r = 7 ∨ r = 8 ∨ r = 9 ∨ r = 10 ∨ r = 11 ∨ r = 12 ∨ r = 13 ∨ r = 14 ∨ r = 15 by omega) with rfl | rfl | rfl | rfl | rfl | rfl | rfl | rfl | rfl | rfl | rfl | rfl | rfl | rfl | rfl | rfl <;> simp
/-- a game's cells, as its constructor leaves them -/
abbrev gW (E : EV) (u : (Nat → Nat) × MI × MJ) : va_W := wsE (eN E (fun _ => u.1)) (gps 0) u.2.1 u.2.2
theorem wsE_app (E : EV) (p1 p2 : List (Nat × Nat)) (I : MI) (J : MJ) : wsE E (p1 ++ p2) I J = wsE E p1 I J ++ wsE E p2 I J := List.map_append
theorem gW_at {E : EV} {A : Nat → Nat → Nat} {b : Nat} {u : (Nat → Nat) × MI × MJ} {I : MI} {J : MJ} (hb : b < 11) (hA : A b = u.1) (hI : I b = u.2.1 0) (hJ : J b = u.2.2 0) : gW E u = wsE (eN E A) (gps b) I J := by
  obtain ⟨f, I0, J0⟩ := u
  dsimp only at hA hI hJ
  subst hA
  have h0 : ∀ (r : Nat) (x : Nat → Int32) (y : Nat → Int64), cF (eN E (fun _ => A b)) x y 0 r = cF (eN E A) x y b r := fun r x y => by
    rw [cF_g _ (by decide), cF_g _ hb]
    rfl
  show (gps 0).map _ = (gps b).map _
  unfold gps
  simp only [List.map_cons, List.map_nil, h0, hI, hJ]
  rfl
