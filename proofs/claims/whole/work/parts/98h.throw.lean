/-! METHODS THAT THROW: the four classes, the contracts, the rows -/
def xN : Nat → String
  | 0 => "java/lang/IllegalArgumentException"
  | 1 => "java/lang/IndexOutOfBoundsException"
  | 2 => "java/util/NoSuchElementException"
  | _ => "java/lang/IllegalStateException"
/-- the classes above them -/
def xY : List String := ["java/lang/RuntimeException", "java/lang/Exception", Bundle.tN]
/-- what the tables say of the four classes, and of those above -/
def XT (U : State) : Prop := (∀ k, k < 4 → va_Nw (.castable (xN k) (xN k)) U) ∧ (∀ j k, j < 4 → k < 4 → j ≠ k → va_Nc (xN j) (xN k) U) ∧ ∀ Y ∈ xY, va_Nw (.declares (Bundle.initS Y)) U
theorem XT.warm {s U : State} (hW : s.WarmedH U.vm) (h : XT s) : XT U := ⟨fun k hk => (h.1 k hk).warmC hW, fun j k hj hk n => (h.2.1 j k hj hk n).moved hW.alike, fun Y hY => va_tabs rfl (rfl : (s.setVm U.vm).vm = U.vm) (by rw [Cond.declares_setVm hW.alike]; exact h.2.2 Y hY)⟩
theorem XT.same {s U : State} (hv : U.vm = s.vm) (h : XT s) : XT U := ⟨fun k hk => va_tabs rfl hv.symm (h.1 k hk), fun j k hj hk n => (h.2.1 j k hj hk n).moved (by rw [hv]; exact Vm.Alike.refl _), fun Y hY => va_tabs rfl hv.symm (h.2.2 Y hY)⟩
def xB (kd : Nat) : List Cond := .castable (xN kd) (xN kd) :: xY.map (fun Y => .declares (Bundle.initS Y))
theorem XT.B {s : State} {args : Array Value} (h : XT s) {kd : Nat} (hk : kd < 4) : ∀ w ∈ xB kd, w.before args s = true := by
  intro w hw
  rcases List.mem_cons.mp hw with e | e
  · rw [e]; exact va_any rfl (h.1 kd hk)
  · obtain ⟨Y, hY, e2⟩ := List.mem_map.mp e
    rw [← e2]; exact va_any rfl (h.2.2 Y hY)
def KPx (E : EV) (ps : List (Nat × Nat)) (args : List Value) (I : MI) (J : MJ) (sz : Nat) : Array Value → State → Prop := va_Pc args (fun U => U.heap.size = sz ∧ PW E ps I J (fun _ => True) U ∧ XS E (AA E ps sz) U U.heap ∧ XT U)
theorem KPx_blind {E : EV} {ps : List (Nat × Nat)} {args : List Value} {I : MI} {J : MJ} {sz : Nat} : FrameBlind (fun a U => KPx E ps args I J sz a U) := fun a U g mk q => by
  obtain ⟨q0, q1, ⟨qP, qK, qD⟩, qX, qT⟩ := q
  exact ⟨q0, q1, ⟨qP, va_K.moved (u := U) (U := U.calling g mk a) (Vm.Alike.refl U.vm) qK, qD⟩, XS.same (s := U) (U := U.calling g mk a) rfl qX, XT.same (s := U) (U := U.calling g mk a) rfl qT⟩
abbrev XCx (E : EV) (ps : List (Nat × Nat)) (sz : Nat) (X : Nat → MI → MJ → Prop) : String → State → State → Prop :=
  vx_X (fun u : Nat × MI × MJ => X u.1 u.2.1 u.2.2) (fun nm u t => nm = xN u.1 ∧ PW E ps u.2.1 u.2.2 (AA E ps sz) t) (AA E ps sz)
abbrev YI (l : Launch) (y : MethodName) (ws : List Cond) (rm : Room) (E : EV) (ps : List (Nat × Nat)) (args : List Value) (I : MI) (J : MJ) (Q : Int32 → MI → MJ → Prop) (X : Nat → MI → MJ → Prop) (mc ms : Nat) : Prop :=
  ∀ sz : Nat, vx_Met l y ws rm (KPx E ps args I J sz) (va_Qi (fun r (u : MI × MJ) => Q r u.1 u.2) (KB E ps sz) (AA E ps sz)) (XCx E ps sz X) mc ms (AA E ps sz)
abbrev YV (l : Launch) (y : MethodName) (ws : List Cond) (rm : Room) (E : EV) (ps : List (Nat × Nat)) (args : List Value) (I : MI) (J : MJ) (Q : MI → MJ → Prop) (X : Nat → MI → MJ → Prop) (mc ms : Nat) : Prop :=
  ∀ sz : Nat, vx_Met l y ws rm (KPx E ps args I J sz) (va_Qv (fun (u : MI × MJ) => Q u.1 u.2) (KB E ps sz) (AA E ps sz)) (XCx E ps sz X) mc ms (AA E ps sz)
/-- the body's start, whatever its end -/
theorem Y_of {l : Launch} {y : MethodName} {ws ws' : List Cond} {rm : Room} {E : EV} {ps : List (Nat × Nat)} {as : List Value} {I : MI} {J : MJ} {cc : ByteArray} {maxL mc ms : Nat} {ret : Option FieldType} {Qc : Nat → Array Value → State → Outcome → State → Prop} {X : Nat → MI → MJ → Prop} (hy : plainName y.cls = true) (hw : ws = Cond.code y cc maxL ret :: ws') (hn : (lg_sl as).length ≤ maxL)
    (body : ∀ (p : Program) (e : Env) (s : State) (m : MethodId) (args : Array Value) (below : List Frame) (meth : Method) (c : Code) (ls : Array Slot), meth.sig.returnType = ret → meth.locks = false → (∀ x ∈ c.exceptionTable.toList, False) → cOk p m c cc maxL s args ws y.cls → va_K (eD E) vwCl (eT E) s → XS E (AA E ps s.heap.size) s s.heap → XT s →
      va_P (eD E) vwCl (wsE E ps I J) s.heap → va_D (AA E ps s.heap.size) (wsE E ps I J) → lv_has ls maxL (lv_args 0 as) →
      W p l e rm s m args below meth c s.heap [] 0 0 (vx_MQ below (Qc s.heap.size) (XCx E ps s.heap.size X) args s mc ms (AA E ps s.heap.size)) (F0 m 0 ls [])) : ∀ sz : Nat, vx_Met l y ws rm (KPx E ps as I J sz) (Qc sz) (XCx E ps sz X) mc ms (AA E ps sz) := by
  intro sz
  refine vx_ofW (cc := cc) (maxL := maxL) (ret := ret) hy hw ?_
  intro p e s m args below meth c s₁ B hml ht hv
  obtain ⟨rfl, hsz, ⟨hP, hK, hD⟩, hX, hT⟩ := hv
  subst hsz
  rw [lg_entry_eq]
  exact body p e s m _ below meth c _ B.returns B.notSynchronized ht ⟨B.exec, B.bytes, hml, findClass_of_methodNamed B.named, atoms_spec (ws := ws) B.pre⟩ hK hX hT hP (AA_D hD) (lv_entry as hn)
/-- a walk with k throws behind it -/
def Wk (p : Program) (l : Launch) (e : Env) (R : Room) (s : State) (m : MethodId) (args : Array Value) (below : List Frame) (meth : Method) (c : Code) (Qm : State → Prop) (E : EV) (ps : List (Nat × Nat)) (N k : Nat) (I : MI) (J : MJ) (pc : Nat) (lst : List (Nat × Value)) (st : List Value) : Prop :=
  ∀ (H : Heap) (locs : List Loc) (ls : Array Slot), va_P (eD E) vwCl (wsE E ps I J) H → va_D (AA E ps s.heap.size) (wsE E ps I J) → va_S (AA E ps s.heap.size) s.heap H locs → lv_has ls N lst → W p l e R s m args below meth c H locs k (6 * k) Qm (F0 m pc ls st)
theorem Y_ofI {l : Launch} {y : MethodName} {ws ws' : List Cond} {rm : Room} {E : EV} {ps : List (Nat × Nat)} {as : List Value} {I : MI} {J : MJ} {Q : Int32 → MI → MJ → Prop} {X : Nat → MI → MJ → Prop} {cc : ByteArray} {maxL mc : Nat} {ty : FieldType} (hy : plainName y.cls = true) (hw : ws = Cond.code y cc maxL (some ty) :: ws') (hn : (lg_sl as).length ≤ maxL)
    (body : ∀ (p : Program) (e : Env) (s : State) (m : MethodId) (args : Array Value) (below : List Frame) (meth : Method) (c : Code) (Qm : State → Prop), Qm = vx_MQ below (va_Qi (fun r (u : MI × MJ) => Q r u.1 u.2) (KB E ps s.heap.size) (AA E ps s.heap.size)) (XCx E ps s.heap.size X) args s mc (6 * mc) (AA E ps s.heap.size) →
      (∀ {v : Int32} {I : MI} {J : MJ} {H : Heap} {locs : List Loc} {ls : Array Slot} {pc k : Nat}, Q v I J → narrow ty (.int v) = .int v → va_P (eD E) vwCl (wsE E ps I J) H → va_D (AA E ps s.heap.size) (wsE E ps I J) → va_S (AA E ps s.heap.size) s.heap H locs → decode cc pc = .ok (.ireturn, 1) → k ≤ mc → W p l e rm s m args below meth c H locs k (6 * k) Qm (F0 m pc ls [.int v])) →
      meth.locks = false → (∀ x ∈ c.exceptionTable.toList, False) → cOk p m c cc maxL s args ws y.cls → va_K (eD E) vwCl (eT E) s → XS E (AA E ps s.heap.size) s s.heap → XT s → Wk p l e rm s m args below meth c Qm E ps maxL 0 I J 0 (lv_args 0 as) []) : YI l y ws rm E ps as I J Q X mc (6 * mc) :=
  Y_of hy hw hn (fun p e s m args below meth c ls hr hlk ht S hK hX hT hP hD hl => body p e s m args below meth c _ rfl (fun hq hna hP hD hS hdg hk => W.widen hk (Nat.mul_le_mul_left 6 hk) (vx_ret (R_iret S.1 S.2.1 hr hna hlk hK hP hD hS hq hdg))) hlk ht S hK hX hT s.heap [] ls hP hD va_S.rf hl)
theorem Y_ofV {l : Launch} {y : MethodName} {ws ws' : List Cond} {rm : Room} {E : EV} {ps : List (Nat × Nat)} {as : List Value} {I : MI} {J : MJ} {Q : MI → MJ → Prop} {X : Nat → MI → MJ → Prop} {cc : ByteArray} {maxL mc : Nat} (hy : plainName y.cls = true) (hw : ws = Cond.code y cc maxL none :: ws') (hn : (lg_sl as).length ≤ maxL)
    (body : ∀ (p : Program) (e : Env) (s : State) (m : MethodId) (args : Array Value) (below : List Frame) (meth : Method) (c : Code) (Qm : State → Prop), Qm = vx_MQ below (va_Qv (fun (u : MI × MJ) => Q u.1 u.2) (KB E ps s.heap.size) (AA E ps s.heap.size)) (XCx E ps s.heap.size X) args s mc (6 * mc) (AA E ps s.heap.size) →
      (∀ {I : MI} {J : MJ} {H : Heap} {locs : List Loc} {ls : Array Slot} {pc k : Nat}, Q I J → va_P (eD E) vwCl (wsE E ps I J) H → va_D (AA E ps s.heap.size) (wsE E ps I J) → va_S (AA E ps s.heap.size) s.heap H locs → decode cc pc = .ok (.return_, 1) → k ≤ mc → W p l e rm s m args below meth c H locs k (6 * k) Qm (F0 m pc ls [])) →
      meth.locks = false → (∀ x ∈ c.exceptionTable.toList, False) → cOk p m c cc maxL s args ws y.cls → va_K (eD E) vwCl (eT E) s → XS E (AA E ps s.heap.size) s s.heap → XT s → Wk p l e rm s m args below meth c Qm E ps maxL 0 I J 0 (lv_args 0 as) []) : YV l y ws rm E ps as I J Q X mc (6 * mc) :=
  Y_of hy hw hn (fun p e s m args below meth c ls hr hlk ht S hK hX hT hP hD hl => body p e s m args below meth c _ rfl (fun hq hP hD hS hdg hk => W.widen hk (Nat.mul_le_mul_left 6 hk) (vx_ret (R_vret S.1 S.2.1 hr hlk hK hP hD hS hq hdg))) hlk ht S hK hX hT s.heap [] ls hP hD va_S.rf hl)
section RT
variable {p : Program} {l : Launch} {e : Env} {R : Room} {s : State} {m : MethodId} {args : Array Value} {below : List Frame} {meth : Method} {c : Code} {H : Heap} {locs : List Loc} {Qm : State → Prop}
variable {cc : ByteArray} {pc : Nat} {ls : Array Slot} {rest st0 : List Value} {E : EV} {ps : List (Nat × Nat)} {I : MI} {J : MJ} {b r : Nat}
variable {y : MethodName} {bytes : ByteArray} {maxL nL n index ci N mc mc2 k : Nat} {ret : Option FieldType} {ws ws' Ts : List Cond} {rm : Room} {own C : String} {T : u_T} {As fs : List Value} {Qc : Array Value → State → Outcome → State → Prop} {X : Nat → MI → MJ → Prop}
/-- the world of a throw -/
theorem X_end {t : State} {kd : Nat} (hK : va_K (eD E) vwCl (eT E) s) (hP : va_P (eD E) vwCl (wsE E ps I J) H) (hD : va_D (AA E ps s.heap.size) (wsE E ps I J)) (hS : va_S (AA E ps s.heap.size) s.heap H locs) (hf : X kd I J) (ha : s.vm.Alike t.vm) (h1 : H.size ≤ t.heap.size) (h2 : ∀ q : Nat, q < H.size → t.heap[q]? = H[q]?) : XCx E ps s.heap.size X (xN kd) s t := by
  refine ⟨(kd, I, J), hf, ⟨rfl, hP.kept (fun k q hk => h2 _ (vx_lt hP hk)), va_K.moved ha hK, hD⟩, Nat.le_trans hS.1 h1, fun q hq hn => ?_⟩
  rw [h2 q (Nat.lt_of_lt_of_le hq hS.1)]
  exact hS.2.1 q hq hn
/-- throw new X("text") -/
theorem R_thr (hQ : Qm = vx_MQ below Qc (XCx E ps s.heap.size X) args s mc (6 * mc) (AA E ps s.heap.size)) (hl : l.stackTraces = false) (S : cOk p m c cc nL s args Ts "RhymeRoofs") (hK : va_K (eD E) vwCl (eT E) s) (hX : XS E (AA E ps s.heap.size) s s.heap) (hT : XT s) (hlk : meth.locks = false) (ht : ∀ x ∈ c.exceptionTable.toList, False) (kd : Nat) (hkd : kd < 4) {names : List String} {ik is ic : Nat} (text : String) (htx : (is, text) ∈ sxX)
    (hcls : Bundle.fit (xN kd) = true) (hnames : names.all Bundle.fit = true) (hw1 : Cond.classLink "RhymeRoofs" ik (xN kd) ∈ Ts) (hw2 : Cond.initialized (xN kd) ∈ Ts) (hw3 : ∀ w ∈ (vx_atS "RhymeRoofs" ic (xN kd) names).filter goodWord, w ∈ Ts)
    (hw4 : ∀ w ∈ (vx_atS "RhymeRoofs" ic (xN kd) names).filter (fun w => !goodWord w), w ∈ xB kd) (hw5 : ∀ w ∈ Cond.classLink "RhymeRoofs" ik (xN kd) :: Cond.initialized (xN kd) :: vx_atS "RhymeRoofs" ic (xN kd) names, vx_ot w = true)
    (hf : X kd I J) (hP : va_P (eD E) vwCl (wsE E ps I J) H) (hD : va_D (AA E ps s.heap.size) (wsE E ps I J)) (hS : va_S (AA E ps s.heap.size) s.heap H locs) (hsz : ls.size = nL)
    (d0 : decode cc pc = .ok (.new ik, 3)) (d3 : decode cc (pc + 3) = .ok (.dup, 1)) (d4 : decode cc (pc + 4) = .ok (.ldc is, 2)) (d6 : decode cc (pc + 6) = .ok (.invokespecial ic, 3)) (d9 : decode cc (pc + 9) = .ok (.athrow, 1))
    (hRf : names.length + 3 < R.frames) (hRl : 13 * (names.length + 1) + 43 ≤ R.locals) (hRc : k + 1 ≤ R.cells ∧ 6 * k + 6 ≤ R.slots) (hk : k + 1 ≤ mc) : W p l e R s m args below meth c H locs k (6 * k) Qm (F0 m pc ls []) := by
  obtain ⟨sa, hstr⟩ := hX.2.2.2.2.2.2 _ htx
  rw [hQ]
  exact vx_throwS (A := AA E ps s.heap.size) S.1 S.2.1 hl S.2.2.2.1 hcls (fun n hn => List.all_eq_true.mp hnames n hn) (S.2.2.2.2 _ hw1) (S.2.2.2.2 _ hw2) hstr (vx_hat (fun w hw => S.2.2.2.2 _ (hw3 w hw)) hw4 (hT.B hkd)) hw5 hX.2.1 hX.2.2.1 hS (hsz.trans S.2.2.1.symm) d0 d3 d4 d6 d9 (fun x hx => (ht x hx).elim) hRf (by simpa using hRl) hRc.1 hRc.2 hlk
    (fun t ha h1 h2 => X_end hK hP hD hS hf ha h1 h2) hS.2.2 hk (by omega)
/-- the same, the text by a wide index -/
theorem R_thrW (hQ : Qm = vx_MQ below Qc (XCx E ps s.heap.size X) args s mc (6 * mc) (AA E ps s.heap.size)) (hl : l.stackTraces = false) (S : cOk p m c cc nL s args Ts "RhymeRoofs") (hK : va_K (eD E) vwCl (eT E) s) (hX : XS E (AA E ps s.heap.size) s s.heap) (hT : XT s) (hlk : meth.locks = false) (ht : ∀ x ∈ c.exceptionTable.toList, False) (kd : Nat) (hkd : kd < 4) {names : List String} {ik is ic : Nat} (text : String) (htx : (is, text) ∈ sxX)
    (hcls : Bundle.fit (xN kd) = true) (hnames : names.all Bundle.fit = true) (hw1 : Cond.classLink "RhymeRoofs" ik (xN kd) ∈ Ts) (hw2 : Cond.initialized (xN kd) ∈ Ts) (hw3 : ∀ w ∈ (vx_atS "RhymeRoofs" ic (xN kd) names).filter goodWord, w ∈ Ts)
    (hw4 : ∀ w ∈ (vx_atS "RhymeRoofs" ic (xN kd) names).filter (fun w => !goodWord w), w ∈ xB kd) (hw5 : ∀ w ∈ Cond.classLink "RhymeRoofs" ik (xN kd) :: Cond.initialized (xN kd) :: vx_atS "RhymeRoofs" ic (xN kd) names, vx_ot w = true)
    (hf : X kd I J) (hP : va_P (eD E) vwCl (wsE E ps I J) H) (hD : va_D (AA E ps s.heap.size) (wsE E ps I J)) (hS : va_S (AA E ps s.heap.size) s.heap H locs) (hsz : ls.size = nL)
    (d0 : decode cc pc = .ok (.new ik, 3)) (d3 : decode cc (pc + 3) = .ok (.dup, 1)) (d4 : decode cc (pc + 4) = .ok (.ldc_w is, 3)) (d7 : decode cc (pc + 7) = .ok (.invokespecial ic, 3)) (d10 : decode cc (pc + 10) = .ok (.athrow, 1))
    (hRf : names.length + 3 < R.frames) (hRl : 13 * (names.length + 1) + 43 ≤ R.locals) (hRc : k + 1 ≤ R.cells ∧ 6 * k + 6 ≤ R.slots) (hk : k + 1 ≤ mc) : W p l e R s m args below meth c H locs k (6 * k) Qm (F0 m pc ls []) := by
  obtain ⟨sa, hstr⟩ := hX.2.2.2.2.2.2 _ htx
  rw [hQ]
  exact vx_throwSW (A := AA E ps s.heap.size) S.1 S.2.1 hl S.2.2.2.1 hcls (fun n hn => List.all_eq_true.mp hnames n hn) (S.2.2.2.2 _ hw1) (S.2.2.2.2 _ hw2) hstr (vx_hat (fun w hw => S.2.2.2.2 _ (hw3 w hw)) hw4 (hT.B hkd)) hw5 hX.2.1 hX.2.2.1 hS (hsz.trans S.2.2.1.symm) d0 d3 d4 d7 d10 (fun x hx => (ht x hx).elim) hRf (by simpa using hRl) hRc.1 hRc.2 hlk
    (fun t ha h1 h2 => X_end hK hP hD hS hf ha h1 h2) hS.2.2 hk (by omega)
theorem R_preX {A : Nat → Prop} {as : List Value} {U : State} (hK : va_K (eD E) vwCl (eT E) s) (hP : va_P (eD E) vwCl (wsE E ps I J) H) (hD : va_D A (wsE E ps I J)) (hS : va_S A s.heap H locs) (hX : XS E A s s.heap) (hT : XT s) (hA : ∀ q, H.size ≤ q → A q) (hU : U.heap = H) (hW : s.WarmedH U.vm) : KPx E ps as I J H.size as.toArray U :=
  ⟨rfl, by rw [hU], ⟨by rw [hU]; exact hP, va_K.moved hW.alike hK, hD.weaken (fun _ _ _ _ => trivial)⟩, by rw [hU]; exact XS.warm hW ((hX.kept hS.2.1).narrow (AA_sub hD hA (Nat.le_refl _))), hT.warm hW⟩
/-- a call of a check that throws, from a method that lets it through -/
theorem R_xVv {Q2 : MI → MJ → Prop} (hQ : Qm = vx_MQ below Qc (XCx E ps s.heap.size X) args s mc (6 * mc) (AA E ps s.heap.size)) (S : cOk p m c cc nL s args Ts own) (hM : YV l y ws rm E ps (.ref (eA E b r) :: As) I J Q2 X 1 6) (hG : GoodIn Ts (wsV own index C y ws)) (hw : ws = Cond.code y bytes maxL ret :: ws') (hy : yOk y C n) (hrm : rm.cells = 1 ∧ rm.slots = 6) (hR : rm.frames + 1 ≤ R.frames ∧ 8 + (maxL + 11) + rm.locals ≤ R.locals)
    (hK : va_K (eD E) vwCl (eT E) s) (hP : va_P (eD E) vwCl (wsE E ps I J) H) (hD : va_D (AA E ps s.heap.size) (wsE E ps I J)) (hS : va_S (AA E ps s.heap.size) s.heap H locs) (hX : XS E (AA E ps s.heap.size) s s.heap) (hT : XT s) (hlk : meth.locks = false) (ht : ∀ x ∈ c.exceptionTable.toList, False) (hm : (b, r) ∈ ps) (hc : cF E (I b r) (J b r) b r = .inr (ci, fs)) (hcl : vwCl[ci]? = some (C, T, N))
    (hn : As.length = n) (hsz : ls.size = nL) (hst : st0 = As.reverse ++ .ref (eA E b r) :: rest) (hr : (rest.map fun v => v.category).sum ≤ 8) (hcs : k + 1 ≤ R.cells ∧ 6 * k + 6 ≤ R.slots) (hk : k + 1 ≤ mc) (hdg : decode cc pc = .ok (.invokevirtual index, 3))
    (kk : ∀ (I1 : MI) (J1 : MJ) (H1 : Heap) (locs1 : List Loc), Q2 I1 J1 → va_P (eD E) vwCl (wsE E ps I1 J1) H1 → va_D (AA E ps s.heap.size) (wsE E ps I1 J1) → va_S (AA E ps s.heap.size) s.heap H1 locs1 → W p l e R s m args below meth c H1 locs1 (k + 1) (6 * (k + 1)) Qm (F0 m (pc + 3) ls rest)) : W p l e R s m args below meth c H locs k (6 * k) Qm (F0 m pc ls st0) := by
  obtain ⟨q, -, he⟩ := wsE_mem (E := E) I J hm
  rw [hc] at he
  have hA : ∀ q, s.heap.size ≤ q → AA E ps s.heap.size q := fun _ h => Or.inr h
  have hA1 := R_grow hS hA
  have sub := AA_sub hD hA1 (Nat.le_refl _)
  refine vx_callv (vx_runV S (hM H.size) (cwV n S.2.2.2.2 hG hw hrm.1 hrm.2 hy hR) ⟨KPx_blind, va_recv hK hP hcl he, fun U hU hW => R_preX hK hP hD hS hX hT hA1 hU hW⟩ rfl hn hsz hst (lv_room hr) hdg hcs) hS (fun q _ h => sub q h) sub (fun q _ h => sub q h) (fun E9 ce q9 u t H1 locs1 ht1 ha hq hB h1 h2 hS1 hce hcv hcl9 => ?_) (fun u t H1 locs1 ht1 _ hq hB _ _ hS1 => ?_)
  · obtain ⟨hnm, hB⟩ := hB
    subst hnm
    obtain ⟨hP1, hD1⟩ := R_back hD hA1 ht1 hB
    rw [hQ]
    exact vx_out (fun x hx => (ht x hx).elim) hlk hce hcv hcl9 (fun t9 h9 ha9 => X_end hK hP1 hD1 hS1 hq ha9 (by rw [h9]; exact Nat.le_refl _) (fun q _ => by rw [h9])) hS1.2.2 hk (by omega)
  · obtain ⟨hP1, hD1⟩ := R_back hD hA1 ht1 hB
    exact kk u.1 u.2 H1 locs1 hq hP1 hD1 hS1
end RT
