/-! METHODS THAT ANSWER A FLOAT: the end, the start -/
section RF
variable {p : Program} {l : Launch} {e : Env} {R : Room} {s : State} {m : MethodId} {args : Array Value} {below : List Frame} {meth : Method} {c : Code} {H : Heap} {locs : List Loc} {cells slots : Nat} {Q : State → Prop}
variable {cc : ByteArray} {pc : Nat} {ls : Array Slot} {rest st0 : List Value} {A : Nat → Prop} {H0 : Heap} {E : EV} {ps : List (Nat × Nat)} {I : MI} {J : MJ} {b r : Nat}
theorem R_fret {Q2 : UInt32 → MI → MJ → Prop} {sz : Nat} {v : UInt32} (hx : p.tables.exec = Jvm.exec) (hb : c.code = cc) (hr : meth.sig.returnType = some .float) (hlk : meth.locks = false) (hK : va_K (eD E) vwCl (eT E) s) (hP : va_P (eD E) vwCl (wsE E ps I J) H) (hD : va_D (AA E ps sz) (wsE E ps I J)) (hS : va_S (AA E ps sz) s.heap H locs) (hf : Q2 v I J) (hdg : decode cc pc = .ok (.freturn, 1)) :
    W p l e R s m args below meth c H locs cells slots (MQ below (va_Qf (fun r (u : MI × MJ) => Q2 r u.1 u.2) (KB E ps sz) (AA E ps sz)) args s cells slots (AA E ps sz)) (F0 m pc ls [.float v]) :=
  W.fret hx hb hr (fun t ht hW => ⟨⟨v, (I, J), rfl, hf, by rw [ht]; exact hP, va_K.moved hW.alike hK, hD⟩, hS.F ht⟩) hS.2.2 hdg
variable {y : MethodName} {bytes : ByteArray} {maxL nL n index ci N : Nat} {ret : Option FieldType} {ws ws' Ts : List Cond} {rm : Room} {own C : String} {T : u_T} {As : List Value} {fs : List Value}
theorem R_cVf {Q2 : UInt32 → MI → MJ → Prop} (S : cOk p m c cc nL s args Ts own) (hM : KF l y ws rm E ps (.ref (eA E b r) :: As) I J Q2) (hG : GoodIn Ts (wsV own index C y ws)) (hw : ws = Cond.code y bytes maxL ret :: ws') (hy : yOk y C n) (hR : rOk R rm maxL)
    (hK : va_K (eD E) vwCl (eT E) s) (hP : va_P (eD E) vwCl (wsE E ps I J) H) (hD : va_D A (wsE E ps I J)) (hS : va_S A s.heap H locs) (hX : XS E A s s.heap) (hA : ∀ q, s.heap.size ≤ q → A q) (hm : (b, r) ∈ ps) (hc : cF E (I b r) (J b r) b r = .inr (ci, fs)) (hcl : vwCl[ci]? = some (C, T, N))
    (hn : As.length = n) (hsz : ls.size = nL) (hst : st0 = As.reverse ++ .ref (eA E b r) :: rest) (hr : (rest.map fun v => v.category).sum ≤ 8) (hcs : cells ≤ R.cells ∧ slots ≤ R.slots) (hdg : decode cc pc = .ok (.invokevirtual index, 3))
    (kk : ∀ (v : UInt32) (I1 : MI) (J1 : MJ) (H1 : Heap) (locs1 : List Loc), Q2 v I1 J1 → va_P (eD E) vwCl (wsE E ps I1 J1) H1 → va_D A (wsE E ps I1 J1) → va_S A s.heap H1 locs1 → W p l e R s m args below meth c H1 locs1 cells slots Q (F0 m (pc + 3) ls (.float v :: rest))) : W p l e R s m args below meth c H locs cells slots Q (F0 m pc ls st0) := by
  obtain ⟨q, -, he⟩ := wsE_mem (E := E) I J hm
  rw [hc] at he
  have hA1 := R_grow hS hA
  refine va_callf (va_runV S (hM H.size) (R_cwV S hG hw hy hR) ⟨KP_blind, va_recv hK hP hcl he, fun U hU hW => R_pre hK hP hD hS hX hA1 hU hW⟩ rfl hn hsz hst (lv_room hr) hdg hcs) hS (fun q _ h => AA_sub hD hA1 (Nat.le_refl _) q h) (AA_sub hD hA1 (Nat.le_refl _)) (fun v u t H1 locs1 ht _ hq hB _ _ hS1 => ?_)
  obtain ⟨hP1, hD1⟩ := R_back hD hA1 ht hB
  exact kk v u.1 u.2 H1 locs1 hq hP1 hD1 hS1
end RF
theorem K_ofF {l : Launch} {y : MethodName} {ws ws' : List Cond} {rm : Room} {E : EV} {ps : List (Nat × Nat)} {as : List Value} {I : MI} {J : MJ} {Q : UInt32 → MI → MJ → Prop} {cc : ByteArray} {maxL : Nat} (hy : plainName y.cls = true) (hw : ws = Cond.code y cc maxL (some .float) :: ws') (hn : (lg_sl as).length ≤ maxL)
    (body : ∀ (p : Program) (e : Env) (s : State) (m : MethodId) (args : Array Value) (below : List Frame) (meth : Method) (c : Code) (Qm : State → Prop),
      (∀ {v : UInt32} {I : MI} {J : MJ} {H : Heap} {locs : List Loc} {ls : Array Slot} {pc : Nat}, Q v I J → va_P (eD E) vwCl (wsE E ps I J) H → va_D (AA E ps s.heap.size) (wsE E ps I J) → va_S (AA E ps s.heap.size) s.heap H locs → decode cc pc = .ok (.freturn, 1) → W p l e rm s m args below meth c H locs 0 0 Qm (F0 m pc ls [.float v])) →
      cOk p m c cc maxL s args ws y.cls → va_K (eD E) vwCl (eT E) s → XS E (AA E ps s.heap.size) s s.heap → Wj p l e rm s m args below meth c Qm E ps maxL I J 0 (lv_args 0 as) []) : KF l y ws rm E ps as I J Q :=
  K_of hy hw hn (fun p e s m args below meth c ls hr hlk S hK hX hP hD hl => body p e s m args below meth c _ (fun hq hP hD hS hdg => R_fret S.1 S.2.1 hr hlk hK hP hD hS hq hdg) S hK hX s.heap [] ls hP hD va_S.rf hl)
