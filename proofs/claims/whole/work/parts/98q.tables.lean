/-! METHODS WITH AN EXCEPTION TABLE: the start, a call under it, what is caught -/
theorem Z_of {l : Launch} {y : MethodName} {ws ws' : List Cond} {rm : Room} {E : EV} {ps : List (Nat × Nat)} {as : List Value} {I : MI} {J : MJ} {cc : ByteArray} {maxL mc ms : Nat} {ret : Option FieldType} {hh : List (Nat × Nat × Nat × Nat)} {Qc : Nat → Array Value → State → Outcome → State → Prop} {X : Nat → MI → MJ → Prop} (hy : plainName y.cls = true) (hw : ws = Cond.codeWith y cc maxL ret hh :: ws') (hn : (lg_sl as).length ≤ maxL)
    (body : ∀ (p : Program) (e : Env) (s : State) (m : MethodId) (args : Array Value) (below : List Frame) (meth : Method) (c : Code) (ls : Array Slot), meth.sig.returnType = ret → meth.locks = false → c.exceptionTable.toList = tableOf hh → cOk p m c cc maxL s args ws y.cls → va_K (eD E) vwCl (eT E) s → XS E (AA E ps s.heap.size) s s.heap → XT s →
      va_P (eD E) vwCl (wsE E ps I J) s.heap → va_D (AA E ps s.heap.size) (wsE E ps I J) → lv_has ls maxL (lv_args 0 as) →
      W p l e rm s m args below meth c s.heap [] 0 0 (vx_MQ below (Qc s.heap.size) (XCx E ps s.heap.size X) args s mc ms (AA E ps s.heap.size)) (F0 m 0 ls [])) : ∀ sz : Nat, vx_Met l y ws rm (KPx E ps as I J sz) (Qc sz) (XCx E ps sz X) mc ms (AA E ps sz) := by
  intro sz
  refine vx_ofWH (cc := cc) (maxL := maxL) (ret := ret) (hh := hh) hy hw ?_
  intro p e s m args below meth c s₁ B hml hv
  obtain ⟨rfl, hsz, ⟨hP, hK, hD⟩, hX, hT⟩ := hv
  subst hsz
  rw [lg_entry_eq]
  exact body p e s m _ below meth c _ B.returns B.notSynchronized (vx_table (x := y) B (atoms_spec (ws := ws) B.pre _ (by rw [hw]; exact List.mem_cons_self))) ⟨B.exec, B.bytes, hml, findClass_of_methodNamed B.named, atoms_spec (ws := ws) B.pre⟩ hK hX hT hP (AA_D hD) (lv_entry as hn)
theorem Z_ofI {l : Launch} {y : MethodName} {ws ws' : List Cond} {rm : Room} {E : EV} {ps : List (Nat × Nat)} {as : List Value} {I : MI} {J : MJ} {Q : Int32 → MI → MJ → Prop} {cc : ByteArray} {maxL : Nat} {hh : List (Nat × Nat × Nat × Nat)} (hy : plainName y.cls = true) (hw : ws = Cond.codeWith y cc maxL (some .int) hh :: ws') (hn : (lg_sl as).length ≤ maxL)
    (body : ∀ (p : Program) (e : Env) (s : State) (m : MethodId) (args : Array Value) (below : List Frame) (meth : Method) (c : Code) (Qm : State → Prop),
      (∀ {v : Int32} {I : MI} {J : MJ} {H : Heap} {locs : List Loc} {ls : Array Slot} {pc : Nat}, Q v I J → va_P (eD E) vwCl (wsE E ps I J) H → va_D (AA E ps s.heap.size) (wsE E ps I J) → va_S (AA E ps s.heap.size) s.heap H locs → decode cc pc = .ok (.ireturn, 1) → W p l e rm s m args below meth c H locs 4 24 Qm (F0 m pc ls [.int v])) →
      c.exceptionTable.toList = tableOf hh → cOk p m c cc maxL s args ws y.cls → va_K (eD E) vwCl (eT E) s → XS E (AA E ps s.heap.size) s s.heap → XT s → Wk p l e rm s m args below meth c Qm E ps maxL 0 I J 0 (lv_args 0 as) []) : YI l y ws rm E ps as I J Q (fun _ _ _ => False) 4 24 :=
  Z_of hy hw hn (fun p e s m args below meth c ls hr hlk ht S hK hX hT hP hD hl => body p e s m args below meth c _ (fun hq hP hD hS hdg => vx_ret (R_iret S.1 S.2.1 hr rfl hlk hK hP hD hS hq hdg)) ht S hK hX hT s.heap [] ls hP hD va_S.rf hl)
section ZT
variable {p : Program} {l : Launch} {e : Env} {R : Room} {s : State} {m : MethodId} {args : Array Value} {below : List Frame} {meth : Method} {c : Code} {H : Heap} {locs : List Loc} {Qm : State → Prop}
variable {cc : ByteArray} {pc : Nat} {ls : Array Slot} {rest st0 : List Value} {E : EV} {ps : List (Nat × Nat)} {I : MI} {J : MJ} {b r : Nat}
variable {y : MethodName} {bytes : ByteArray} {maxL nL n index ci N : Nat} {ret : Option FieldType} {ws ws' Ts : List Cond} {rm : Room} {own C : String} {T : u_T} {As fs : List Value}
/-- a call of a method that throws, under a table -/
theorem R_tVi {Q2 : Int32 → MI → MJ → Prop} {X2 : Nat → MI → MJ → Prop} (S : cOk p m c cc nL s args Ts own) (hM : YI l y ws rm E ps (.ref (eA E b r) :: As) I J Q2 X2 4 24) (hG : GoodIn Ts (wsV own index C y ws)) (hw : ws = Cond.code y bytes maxL ret :: ws') (hy : yOk y C n) (hrm : rm.cells = 4 ∧ rm.slots = 24) (hR : rm.frames + 1 ≤ R.frames ∧ 8 + (maxL + 11) + rm.locals ≤ R.locals)
    (hK : va_K (eD E) vwCl (eT E) s) (hP : va_P (eD E) vwCl (wsE E ps I J) H) (hD : va_D (AA E ps s.heap.size) (wsE E ps I J)) (hS : va_S (AA E ps s.heap.size) s.heap H locs) (hX : XS E (AA E ps s.heap.size) s s.heap) (hT : XT s) (hm : (b, r) ∈ ps) (hc : cF E (I b r) (J b r) b r = .inr (ci, fs)) (hcl : vwCl[ci]? = some (C, T, N))
    (hn : As.length = n) (hsz : ls.size = nL) (hst : st0 = As.reverse ++ .ref (eA E b r) :: rest) (hr : (rest.map fun v => v.category).sum ≤ 8) (hcs : 0 + 4 ≤ R.cells ∧ 6 * 0 + 24 ≤ R.slots) (hdg : decode cc pc = .ok (.invokevirtual index, 3))
    (kx : ∀ (kd : Nat) (ce : Cell) (q9 : Addr) (I1 : MI) (J1 : MJ) (H1 : Heap) (locs1 : List Loc), X2 kd I1 J1 → va_P (eD E) vwCl (wsE E ps I1 J1) H1 → va_D (AA E ps s.heap.size) (wsE E ps I1 J1) → va_S (AA E ps s.heap.size) s.heap H1 locs1 → H1[q9]? = some ce → ce.vm = .none → s.vm.findClass (xN kd) = some ce.cls → vx_W p l e R s m args below meth c H1 locs1 4 24 Qm (F0 m pc ls rest) q9)
    (kk : ∀ (v : Int32) (I1 : MI) (J1 : MJ) (H1 : Heap) (locs1 : List Loc), Q2 v I1 J1 → va_P (eD E) vwCl (wsE E ps I1 J1) H1 → va_D (AA E ps s.heap.size) (wsE E ps I1 J1) → va_S (AA E ps s.heap.size) s.heap H1 locs1 → W p l e R s m args below meth c H1 locs1 4 24 Qm (F0 m (pc + 3) ls (.int v :: rest))) : W p l e R s m args below meth c H locs 0 (6 * 0) Qm (F0 m pc ls st0) := by
  obtain ⟨q, -, he⟩ := wsE_mem (E := E) I J hm
  rw [hc] at he
  have hA : ∀ q, s.heap.size ≤ q → AA E ps s.heap.size q := fun _ h => Or.inr h
  have hA1 := R_grow hS hA
  have sub := AA_sub hD hA1 (Nat.le_refl _)
  refine vx_calli (vx_runV S (hM H.size) (cwV n S.2.2.2.2 hG hw hrm.1 hrm.2 hy hR) ⟨KPx_blind, va_recv hK hP hcl he, fun U hU hW => R_preX hK hP hD hS hX hT hA1 hU hW⟩ rfl hn hsz hst (lv_room hr) hdg hcs) hS (fun q _ h => sub q h) sub (fun q _ h => sub q h) (fun E9 ce q9 u t H1 locs1 ht1 ha hq hB h1 h2 hS1 hce hcv hcl9 => ?_) (fun v u t H1 locs1 ht1 _ hq hB _ _ hS1 => ?_)
  · obtain ⟨hnm, hB⟩ := hB
    subst hnm
    obtain ⟨hP1, hD1⟩ := R_back hD hA1 ht1 hB
    exact kx u.1 ce q9 u.2.1 u.2.2 H1 locs1 hq hP1 hD1 hS1 hce hcv hcl9
  · obtain ⟨hP1, hD1⟩ := R_back hD hA1 ht1 hB
    exact kk v u.1 u.2 H1 locs1 hq hP1 hD1 hS1
end ZT
/-- the exceptions of a call in the order of its rows -/
def XL (ks : List Nat) (Q : Int32 → MI → MJ → Prop) : Nat → MI → MJ → Prop := fun k I1 J1 => ∃ t, ks[t]? = some k ∧ Q (nI (t + 1)) I1 J1
