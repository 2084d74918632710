/-! THE WALK: a judgement over the world; a method's body; small rows -/
def Wj (p : Program) (l : Launch) (e : Env) (R : Room) (s : State) (m : MethodId) (args : Array Value) (below : List Frame) (meth : Method) (c : Code) (Qm : State → Prop) (E : EV) (ps : List (Nat × Nat)) (N : Nat) (I : MI) (J : MJ) (pc : Nat) (lst : List (Nat × Value)) (st : List Value) : Prop :=
  ∀ (H : Heap) (locs : List Loc) (ls : Array Slot), va_P (eD E) vwCl (wsE E ps I J) H → va_D (AA E ps s.heap.size) (wsE E ps I J) → va_S (AA E ps s.heap.size) s.heap H locs → lv_has ls N lst → W p l e R s m args below meth c H locs 0 0 Qm (F0 m pc ls st)
theorem K_ofI {l : Launch} {y : MethodName} {ws ws' : List Cond} {rm : Room} {E : EV} {ps : List (Nat × Nat)} {as : List Value} {I : MI} {J : MJ} {Q : Int32 → MI → MJ → Prop} {cc : ByteArray} {maxL : Nat} {ty : FieldType} (hy : plainName y.cls = true) (hw : ws = Cond.code y cc maxL (some ty) :: ws') (hn : (lg_sl as).length ≤ maxL)
    (body : ∀ (p : Program) (e : Env) (s : State) (m : MethodId) (args : Array Value) (below : List Frame) (meth : Method) (c : Code) (Qm : State → Prop),
      (∀ {v : Int32} {I : MI} {J : MJ} {H : Heap} {locs : List Loc} {ls : Array Slot} {pc : Nat}, Q v I J → narrow ty (.int v) = .int v → va_P (eD E) vwCl (wsE E ps I J) H → va_D (AA E ps s.heap.size) (wsE E ps I J) → va_S (AA E ps s.heap.size) s.heap H locs → decode cc pc = .ok (.ireturn, 1) → W p l e rm s m args below meth c H locs 0 0 Qm (F0 m pc ls [.int v])) →
      cOk p m c cc maxL s args ws y.cls → va_K (eD E) vwCl (eT E) s → XS E (AA E ps s.heap.size) s s.heap → Wj p l e rm s m args below meth c Qm E ps maxL I J 0 (lv_args 0 as) []) : KI l y ws rm E ps as I J Q :=
  K_of hy hw hn (fun p e s m args below meth c ls hr hlk S hK hX hP hD hl => body p e s m args below meth c _ (fun hq hna hP hD hS hdg => R_iret S.1 S.2.1 hr hna hlk hK hP hD hS hq hdg) S hK hX s.heap [] ls hP hD va_S.rf hl)
theorem K_ofL {l : Launch} {y : MethodName} {ws ws' : List Cond} {rm : Room} {E : EV} {ps : List (Nat × Nat)} {as : List Value} {I : MI} {J : MJ} {Q : Int64 → MI → MJ → Prop} {cc : ByteArray} {maxL : Nat} (hy : plainName y.cls = true) (hw : ws = Cond.code y cc maxL (some .long) :: ws') (hn : (lg_sl as).length ≤ maxL)
    (body : ∀ (p : Program) (e : Env) (s : State) (m : MethodId) (args : Array Value) (below : List Frame) (meth : Method) (c : Code) (Qm : State → Prop),
      (∀ {v : Int64} {I : MI} {J : MJ} {H : Heap} {locs : List Loc} {ls : Array Slot} {pc : Nat}, Q v I J → va_P (eD E) vwCl (wsE E ps I J) H → va_D (AA E ps s.heap.size) (wsE E ps I J) → va_S (AA E ps s.heap.size) s.heap H locs → decode cc pc = .ok (.lreturn, 1) → W p l e rm s m args below meth c H locs 0 0 Qm (F0 m pc ls [.long v])) →
      cOk p m c cc maxL s args ws y.cls → va_K (eD E) vwCl (eT E) s → XS E (AA E ps s.heap.size) s s.heap → Wj p l e rm s m args below meth c Qm E ps maxL I J 0 (lv_args 0 as) []) : KL l y ws rm E ps as I J Q :=
  K_of hy hw hn (fun p e s m args below meth c ls hr hlk S hK hX hP hD hl => body p e s m args below meth c _ (fun hq hP hD hS hdg => R_lret S.1 S.2.1 hr hlk hK hP hD hS hq hdg) S hK hX s.heap [] ls hP hD va_S.rf hl)
theorem K_ofV {l : Launch} {y : MethodName} {ws ws' : List Cond} {rm : Room} {E : EV} {ps : List (Nat × Nat)} {as : List Value} {I : MI} {J : MJ} {Q : MI → MJ → Prop} {cc : ByteArray} {maxL : Nat} (hy : plainName y.cls = true) (hw : ws = Cond.code y cc maxL none :: ws') (hn : (lg_sl as).length ≤ maxL)
    (body : ∀ (p : Program) (e : Env) (s : State) (m : MethodId) (args : Array Value) (below : List Frame) (meth : Method) (c : Code) (Qm : State → Prop),
      (∀ {I : MI} {J : MJ} {H : Heap} {locs : List Loc} {ls : Array Slot} {pc : Nat}, Q I J → va_P (eD E) vwCl (wsE E ps I J) H → va_D (AA E ps s.heap.size) (wsE E ps I J) → va_S (AA E ps s.heap.size) s.heap H locs → decode cc pc = .ok (.return_, 1) → W p l e rm s m args below meth c H locs 0 0 Qm (F0 m pc ls [])) →
      cOk p m c cc maxL s args ws y.cls → va_K (eD E) vwCl (eT E) s → XS E (AA E ps s.heap.size) s s.heap → Wj p l e rm s m args below meth c Qm E ps maxL I J 0 (lv_args 0 as) []) : KV l y ws rm E ps as I J Q :=
  K_of hy hw hn (fun p e s m args below meth c ls hr hlk S hK hX hP hD hl => body p e s m args below meth c _ (fun hq hP hD hS hdg => R_vret S.1 S.2.1 hr hlk hK hP hD hS hq hdg) S hK hX s.heap [] ls hP hD va_S.rf hl)
/-- a number that a boolean place holds as it is -/
def bo (v : Int32) : Prop := narrow .boolean (.int v) = .int v ∧ fits .boolean (.int v) = true
theorem bo0 : bo 0 := ⟨rfl, rfl⟩
theorem bo1 : bo 1 := ⟨rfl, rfl⟩
theorem pst {i : Int32} (h : vp_in i 8) : 2 + i.toNatClampNeg < 11 := by
  have : i.toNatClampNeg < 8 := Nat.not_le.mp fun q => h (Or.inr q)
  omega
theorem hst {i : Int32} (h : vp_in i 8) : 6 + i.toNatClampNeg < 17 := by
  have : i.toNatClampNeg < 8 := Nat.not_le.mp fun q => h (Or.inr q)
  omega
section WR
variable {p : Program} {l : Launch} {e : Env} {R : Room} {s : State} {m : MethodId} {args : Array Value} {below : List Frame} {meth : Method} {c : Code} {H : Heap} {locs : List Loc} {cells slots : Nat} {Q : State → Prop}
variable {cc : ByteArray} {pc : Nat} {ls : Array Slot} {rest : List Value}
theorem lg_eq0 (x y : Int64) : lg_cmp x y = 0 ↔ x = y := by
  unfold lg_cmp
  constructor
  · intro h
    split at h
    · cases h
    · split at h
      · assumption
      · cases h
  · intro h
    subst h
    rw [if_neg (by exact Int64.lt_irrefl), if_pos rfl]
theorem lg_lt0 (x y : Int64) : lg_cmp x y ≤ 0 ↔ ¬ y < x := by
  unfold lg_cmp
  by_cases h : x > y
  · rw [if_pos h]
    exact ⟨fun q => absurd q (by decide), fun q => absurd h q⟩
  · rw [if_neg h]
    refine ⟨fun _ => h, fun _ => ?_⟩
    split <;> decide
theorem lg_ge0 (x y : Int64) : 0 ≤ lg_cmp x y ↔ ¬ x < y := by
  unfold lg_cmp
  by_cases h : x > y
  · rw [if_pos h]
    exact ⟨fun _ q => absurd (Int64.lt_trans h q) Int64.lt_irrefl, fun _ => by decide⟩
  · rw [if_neg h]
    by_cases h2 : x = y
    · rw [if_pos h2]
      subst h2
      exact ⟨fun _ => Int64.lt_irrefl, fun _ => by decide⟩
    · rw [if_neg h2]
      refine ⟨fun q => absurd q (by decide), fun q => absurd ?_ h2⟩
      exact Int64.le_antisymm (Int64.not_lt.mp h) (Int64.not_lt.mp q)
theorem R_swIn (hx : p.tables.exec = Jvm.exec) (hb : c.code = cc) {dflt lo hi : Int} {ofs : Array Int} {len : Nat} {x k : Int32} {off : Int} {tgt : Nat} (hdg : decode cc pc = .ok (.tableswitch dflt lo hi ofs, len)) (h : x = k) (hc : (¬ k.toInt < lo ∧ ¬ hi < k.toInt) ∧ ofs[(k.toInt - lo).toNat]? = some off) (ht : (pc : Int) + off = (tgt : Int))
    (kk : W p l e R s m args below meth c H locs cells slots Q (F0 m tgt ls rest)) : W p l e R s m args below meth c H locs cells slots Q (F0 m pc ls (.int x :: rest)) := by
  subst h
  exact lv_tableIn hx hb hdg hc.1.1 hc.1.2 hc.2 ht kk
theorem ne_I {x k : Int32} {z : Int} (h : ¬ x = k) (hk : k.toInt = z) : ¬ x.toInt = z := fun q => h (Int32.toInt_inj.mp (q.trans hk.symm))
end WR
section CELLS
variable (E : EV)
theorem IAg3 {b : Nat} (h : b < 11) : IA E b 3 6 := fun x y => cF_g E h x y 3
theorem IAg4 {b : Nat} (h : b < 11) : IA E b 4 32 := fun x y => cF_g E h x y 4
theorem IAg5 {b : Nat} (h : b < 11) : IA E b 5 600 := fun x y => cF_g E h x y 5
theorem IAg6 {b : Nat} (h : b < 11) : IA E b 6 16 := fun x y => cF_g E h x y 6
theorem IAg7 {b : Nat} (h : b < 11) : IA E b 7 240 := fun x y => cF_g E h x y 7
theorem IAg8 {b : Nat} (h : b < 11) : IA E b 8 6 := fun x y => cF_g E h x y 8
theorem IAg9 {b : Nat} (h : b < 11) : IA E b 9 6 := fun x y => cF_g E h x y 9
theorem LAg10 {b : Nat} (h : b < 11) : LA E b 10 6 := fun x y => cF_g E h x y 10
theorem IAg11 {b : Nat} (h : b < 11) : IA E b 11 6 := fun x y => cF_g E h x y 11
theorem LAg12 {b : Nat} (h : b < 11) : LA E b 12 32 := fun x y => cF_g E h x y 12
theorem IAg13 {b : Nat} (h : b < 11) : IA E b 13 4 := fun x y => cF_g E h x y 13
theorem IAg14 {b : Nat} (h : b < 11) : IA E b 14 4 := fun x y => cF_g E h x y 14
theorem IAg15 {b : Nat} (h : b < 11) : IA E b 15 6 := fun x y => cF_g E h x y 15
theorem IAo1 : IA E 11 1 600 := fun _ _ => rfl
theorem IAo5 : IA E 11 5 600 := fun _ _ => rfl
theorem IAo7 : IA E 11 7 2048 := fun _ _ => rfl
theorem IAo8 : IA E 11 8 2048 := fun _ _ => rfl
theorem IAo9 : IA E 11 9 8 := fun _ _ => rfl
theorem IAo10 : IA E 11 10 64 := fun _ _ => rfl
theorem IAm1 : IA E 12 1 600 := fun _ _ => rfl
theorem IAm2 : IA E 12 2 1802 := fun _ _ => rfl
theorem IAm3 : IA E 12 3 1802 := fun _ _ => rfl
theorem IAm4 : IA E 12 4 602 := fun _ _ => rfl
theorem LAm14 : LA E 12 14 1200 := fun _ _ => rfl
theorem IAm15 : IA E 12 15 2048 := fun _ _ => rfl
theorem IAm16 : IA E 12 16 2048 := fun _ _ => rfl
theorem IAmh {k : Nat} (h : k < 8) : IA E 12 (6 + k) 1802 := fun x y => by
  rw [cF_m, show 6 + k = k + 6 from Nat.add_comm _ _]
  exact if_pos h
theorem LAl0 : LA E 13 0 1 := fun _ _ => rfl
end CELLS
theorem hs8 {i : Int32} (h : vp_in i 8) : i.toNatClampNeg < 8 := Nat.not_le.mp fun q => h (Or.inr q)
section CP
variable {p : Program} {l : Launch} {e : Env} {R : Room} {s : State} {m : MethodId} {args : Array Value} {below : List Frame} {meth : Method} {c : Code} {H : Heap} {locs : List Loc} {cells slots : Nat} {Q : State → Prop}
variable {cc : ByteArray} {pc : Nat} {ls : Array Slot} {rest : List Value} {A : Nat → Prop} {H0 : Heap} {E : EV} {ps : List (Nat × Nat)} {I : MI} {J : MJ} {nL index : Nat} {Ts : List Cond} {own : String} {b r b0 r0 : Nat}
theorem R_aldG (hx : p.tables.exec = Jvm.exec) (hb : c.code = cc) (hK : va_K (eD E) vwCl (eT E) s) (hR : (eT E)[2]? = some (eG E, .object "RhymeRoofs$Game")) (hP : va_P (eD E) vwCl (wsE E ps I J) H) (hm : (11, 3) ∈ ps) {i : Int32} (hin : vp_in i 8) (hdg : decode cc pc = .ok (.aaload, 1))
    (kk : W p l e R s m args below meth c H locs cells slots Q (F0 m (pc + 1) ls (.ref (eA E (2 + i.toNatClampNeg) 0) :: rest))) : W p l e R s m args below meth c H locs cells slots Q (F0 m pc ls (.int i :: .ref (eA E 11 3) :: rest)) := by
  obtain ⟨q, -, he⟩ := wsE_mem (E := E) I J hm
  refine va_aldq hx hb hK hP q 2 he hR hin hdg ?_
  rw [if_pos (hs8 hin)]
  exact kk
theorem R_aldM (hx : p.tables.exec = Jvm.exec) (hb : c.code = cc) (hK : va_K (eD E) vwCl (eT E) s) (hR : (eT E)[3]? = some (eM E, .array .int)) (hP : va_P (eD E) vwCl (wsE E ps I J) H) (hm : (12, 5) ∈ ps) {i : Int32} (hin : vp_in i 8) (hdg : decode cc pc = .ok (.aaload, 1))
    (kk : W p l e R s m args below meth c H locs cells slots Q (F0 m (pc + 1) ls (.ref (eA E 12 (6 + i.toNatClampNeg)) :: rest))) : W p l e R s m args below meth c H locs cells slots Q (F0 m pc ls (.int i :: .ref (eA E 12 5) :: rest)) := by
  obtain ⟨q, -, he⟩ := wsE_mem (E := E) I J hm
  have hlt := hs8 hin
  refine W.aald (v := va_rf ((fun i => if i < 8 then some (eA E 12 (6 + i)) else none) i.toNatClampNeg)) (ty := .array .int) hx hb (hP q _ he) ((hK.2 3 _ hR).1 8 (fun j => va_rf ((fun i => if i < 8 then some (eA E 12 (6 + i)) else none) j))) rfl (fun q => by cases q) (by show ¬ (i < 0 ∨ (arrV _ _ _).slots.size ≤ _); rw [arrV_size]; exact hin) (by show (arrV _ _ _).slots[_]? = _; rw [arrV_read _ _ hlt]) rfl rfl hdg ?_
  dsimp only
  rw [if_pos hlt]
  exact kk
theorem R_cpyI (S : cOk p m c cc nL s args Ts own) (hsz : ls.size = nL) (hlink : (Cond.methodLink own index arraycopyName).before args s = true) (hnat : (Cond.native arraycopyName).before args s = true) (hstat : (Cond.static arraycopyName).before args s = true) (hini : (Cond.initialized "java/lang/System").before args s = true)
    (hK : va_K (eD E) vwCl (eT E) s) (hP : va_P (eD E) vwCl (wsE E ps I J) H) (hD : va_D A (wsE E ps I J)) (hS : va_S A H0 H locs) (hm0 : (b0, r0) ∈ ps) {n0 n1 : Nat} (hc0 : IA E b0 r0 n0) (hm1 : (b, r) ∈ ps) (hc1 : IA E b r n1)
    {sp dp n : Int32} (h : ¬ sp < 0 ∧ ¬ dp < 0 ∧ ¬ n < 0 ∧ sp.toNatClampNeg + n.toNatClampNeg ≤ n0 ∧ dp.toNatClampNeg + n.toNatClampNeg ≤ n1)
    (hframes : 1 ≤ R.frames) (hlocals : (rest.map fun v => v.category).sum + (nativeFrameWords "java/lang/System" "arraycopy" 5 + 11) ≤ R.locals) (hdg : decode cc pc = .ok (.invokestatic index, 3)) {I2 : MI} (hI : I2 = rI I b r (va_cpy (I b0 r0) (I b r) sp.toNatClampNeg dp.toNatClampNeg n.toNatClampNeg))
    (kk : ∀ (H1 : Heap) (locs1 : List Loc), va_P (eD E) vwCl (wsE E ps I2 J) H1 → va_D A (wsE E ps I2 J) → va_S A H0 H1 locs1 → W p l e R s m args below meth c H1 locs1 cells slots Q (F0 m (pc + 3) ls rest)) : W p l e R s m args below meth c H locs cells slots Q (F0 m pc ls (.int n :: .int dp :: .ref (eA E b r) :: .int sp :: .ref (eA E b0 r0) :: rest)) := by
  obtain ⟨q0, -, he0⟩ := wsE_mem (E := E) I J hm0
  obtain ⟨q1, hq, he1⟩ := wsE_mem (E := E) I J hm1
  rw [hc0] at he0
  rw [hc1] at he1
  subst hI
  refine va_copyi S.1 S.2.1 (S.2.2.1.trans hsz.symm) S.2.2.2.1 hlink hnat hstat hini hK hP hD hS q0 q1 0 0 he0 he1 rfl rfl rfl h.1 h.2.1 h.2.2.1 h.2.2.2.1 h.2.2.2.2 (fun _ _ => rfl) hframes hlocals hdg (fun H1 locs1 hP1 hD1 hS1 => ?_)
  rw [← hc1 _ (J b r), wsE_setI hD hq] at hP1 hD1
  exact kk H1 locs1 hP1 hD1 hS1
theorem R_cpyL (S : cOk p m c cc nL s args Ts own) (hsz : ls.size = nL) (hlink : (Cond.methodLink own index arraycopyName).before args s = true) (hnat : (Cond.native arraycopyName).before args s = true) (hstat : (Cond.static arraycopyName).before args s = true) (hini : (Cond.initialized "java/lang/System").before args s = true)
    (hK : va_K (eD E) vwCl (eT E) s) (hP : va_P (eD E) vwCl (wsE E ps I J) H) (hD : va_D A (wsE E ps I J)) (hS : va_S A H0 H locs) (hm0 : (b0, r0) ∈ ps) {n0 n1 : Nat} (hc0 : LA E b0 r0 n0) (hm1 : (b, r) ∈ ps) (hc1 : LA E b r n1)
    {sp dp n : Int32} (h : ¬ sp < 0 ∧ ¬ dp < 0 ∧ ¬ n < 0 ∧ sp.toNatClampNeg + n.toNatClampNeg ≤ n0 ∧ dp.toNatClampNeg + n.toNatClampNeg ≤ n1)
    (hframes : 1 ≤ R.frames) (hlocals : (rest.map fun v => v.category).sum + (nativeFrameWords "java/lang/System" "arraycopy" 5 + 11) ≤ R.locals) (hdg : decode cc pc = .ok (.invokestatic index, 3)) {J2 : MJ} (hJ : J2 = rJ J b r (va_cpy (J b0 r0) (J b r) sp.toNatClampNeg dp.toNatClampNeg n.toNatClampNeg))
    (kk : ∀ (H1 : Heap) (locs1 : List Loc), va_P (eD E) vwCl (wsE E ps I J2) H1 → va_D A (wsE E ps I J2) → va_S A H0 H1 locs1 → W p l e R s m args below meth c H1 locs1 cells slots Q (F0 m (pc + 3) ls rest)) : W p l e R s m args below meth c H locs cells slots Q (F0 m pc ls (.int n :: .int dp :: .ref (eA E b r) :: .int sp :: .ref (eA E b0 r0) :: rest)) := by
  obtain ⟨q0, -, he0⟩ := wsE_mem (E := E) I J hm0
  obtain ⟨q1, hq, he1⟩ := wsE_mem (E := E) I J hm1
  rw [hc0] at he0
  rw [hc1] at he1
  subst hJ
  refine va_copyl S.1 S.2.1 (S.2.2.1.trans hsz.symm) S.2.2.2.1 hlink hnat hstat hini hK hP hD hS q0 q1 1 1 he0 he1 rfl rfl rfl h.1 h.2.1 h.2.2.1 h.2.2.2.1 h.2.2.2.2 (fun _ _ => rfl) hframes hlocals hdg (fun H1 locs1 hP1 hD1 hS1 => ?_)
  rw [← hc1 (I b r), wsE_setJ hD hq] at hP1 hD1
  exact kk H1 locs1 hP1 hD1 hS1
end CP
