section RK
variable {p : Program} {l : Launch} {e : Env} {R : Room} {s : State} {m : MethodId} {args : Array Value} {below : List Frame} {meth : Method} {c : Code} {H : Heap} {locs : List Loc} {cells slots : Nat} {Q : State → Prop}
variable {cc : ByteArray} {pc : Nat} {ls : Array Slot} {rest st0 : List Value} {A : Nat → Prop} {H0 : Heap} {E : EV} {ps : List (Nat × Nat)} {I : MI} {J : MJ} {b r : Nat}
theorem R_get (hx : p.tables.exec = Jvm.exec) (hb : c.code = cc) {own ref C : String} {T : u_T} {N ci index : Nat} {Ts : List Cond} (hts : ∀ w ∈ Ts, w.before args s = true) (hin : ∀ w ∈ u_ws C T N, w ∈ Ts) (hown : s.vm.findClass own = some m.cls) (hK : va_K (eD E) vwCl (eT E) s) (hP : va_P (eD E) vwCl (wsE E ps I J) H)
    (hm : (b, r) ∈ ps) {fs : List Value} (hc : cF E (I b r) (J b r) b r = .inr (ci, fs)) (hcl : vwCl[ci]? = some (C, T, N)) (k : Nat) (hk : k < N) (hlink : (Cond.fieldLink own index ref (T k).2.1 (T k).2.2.1).before args s = true) (hsame : (T k).1 = ref) {v : Value} (hv : fs[k]? = some v) (hdg : decode cc pc = .ok (.getfield index, 3))
    (kk : W p l e R s m args below meth c H locs cells slots Q (F0 m (pc + 3) ls (v :: rest))) : W p l e R s m args below meth c H locs cells slots Q (F0 m pc ls (.ref (eA E b r) :: rest)) := by
  obtain ⟨q, -, he⟩ := wsE_mem (E := E) I J hm
  rw [hc] at he
  subst hsame
  exact va_get hx hb hts hin hown hK hP q he hcl k hk hlink (fun _ h => h) hv hdg kk
theorem R_put (hx : p.tables.exec = Jvm.exec) (hb : c.code = cc) {own ref C : String} {T : u_T} {N ci index : Nat} {Ts : List Cond} (hts : ∀ w ∈ Ts, w.before args s = true) (hin : ∀ w ∈ u_ws C T N, w ∈ Ts) (ty0 : Nat → FieldType) (hty : ∀ k, k < N → parseFieldDescriptor (T k).2.2.1 = some (ty0 k)) (hnm : ∀ a, a < N → ∀ b, b < N → a ≠ b → (T a).2.1 ≠ (T b).2.1) (hown : s.vm.findClass own = some m.cls) (hK : va_K (eD E) vwCl (eT E) s) (hP : va_P (eD E) vwCl (wsE E ps I J) H) (hD : va_D A (wsE E ps I J)) (hS : va_S A H0 H locs)
    (hm : (b, r) ∈ ps) {fs : (Nat → Int32) → List Value} (hc : ∀ x, cF E x (J b r) b r = .inr (ci, fs x)) (hcl : vwCl[ci]? = some (C, T, N)) (k : Nat) (hk : k < N) (hlink : (Cond.fieldLink own index ref (T k).2.1 (T k).2.2.1).before args s = true) (hsame : (T k).1 = ref) (hfin : (T k).2.2.2 = false) {ty : FieldType} {v : Int32} (hd : parseFieldDescriptor (T k).2.2.1 = some ty) (hn : narrow ty (.int v) = .int v) (hfit : fits ty (.int v) = true) (hl : k < (fs (I b r)).length) (hset : (fs (I b r)).set k (.int v) = fs (upd (I b r) k v))
    (hdg : decode cc pc = .ok (.putfield index, 3)) {I2 : MI} (hI : I2 = sI I b r k v) (kk : ∀ (H1 : Heap) (locs1 : List Loc), va_P (eD E) vwCl (wsE E ps I2 J) H1 → va_D A (wsE E ps I2 J) → va_S A H0 H1 locs1 → W p l e R s m args below meth c H1 locs1 cells slots Q (F0 m (pc + 3) ls rest)) : W p l e R s m args below meth c H locs cells slots Q (F0 m pc ls (.int v :: .ref (eA E b r) :: rest)) := by
  obtain ⟨q, hq, he⟩ := wsE_mem (E := E) I J hm
  rw [hc] at he
  subst hsame
  subst hI
  refine va_put hx hb hts hin ty0 hty hnm hown hK hP hD hS q he hcl k hk hlink (fun _ h => h) hfin hd hn hfit hl hdg (fun H1 locs1 hP1 hD1 hS1 => ?_)
  rw [hset, ← hc, wsE_setI hD hq] at hP1 hD1
  exact kk H1 locs1 hP1 hD1 hS1
theorem R_iald (hx : p.tables.exec = Jvm.exec) (hb : c.code = cc) (hK : va_K (eD E) vwCl (eT E) s) (hP : va_P (eD E) vwCl (wsE E ps I J) H) (hm : (b, r) ∈ ps) {n : Nat} (hc : IA E b r n) {i : Int32} (hin : vp_in i n) (hdg : decode cc pc = .ok (.iaload, 1))
    (kk : W p l e R s m args below meth c H locs cells slots Q (F0 m (pc + 1) ls (.int (I b r i.toNatClampNeg) :: rest))) : W p l e R s m args below meth c H locs cells slots Q (F0 m pc ls (.int i :: .ref (eA E b r) :: rest)) := by
  obtain ⟨q, -, he⟩ := wsE_mem (E := E) I J hm
  rw [hc] at he
  exact va_iald hx hb hK hP q 0 he rfl hin hdg kk
theorem R_lald (hx : p.tables.exec = Jvm.exec) (hb : c.code = cc) (hK : va_K (eD E) vwCl (eT E) s) (hP : va_P (eD E) vwCl (wsE E ps I J) H) (hm : (b, r) ∈ ps) {n : Nat} (hc : LA E b r n) {i : Int32} (hin : vp_in i n) (hdg : decode cc pc = .ok (.laload, 1))
    (kk : W p l e R s m args below meth c H locs cells slots Q (F0 m (pc + 1) ls (.long (J b r i.toNatClampNeg) :: rest))) : W p l e R s m args below meth c H locs cells slots Q (F0 m pc ls (.int i :: .ref (eA E b r) :: rest)) := by
  obtain ⟨q, -, he⟩ := wsE_mem (E := E) I J hm
  rw [hc] at he
  exact va_lald hx hb hK hP q 1 he rfl hin hdg kk
theorem R_iast (hx : p.tables.exec = Jvm.exec) (hb : c.code = cc) (hK : va_K (eD E) vwCl (eT E) s) (hP : va_P (eD E) vwCl (wsE E ps I J) H) (hD : va_D A (wsE E ps I J)) (hS : va_S A H0 H locs) (hm : (b, r) ∈ ps) {n : Nat} (hc : IA E b r n) {i v : Int32} (hin : vp_in i n) (hdg : decode cc pc = .ok (.iastore, 1))
    {I2 : MI} (hI : I2 = sI I b r i.toNatClampNeg v) (kk : ∀ (H1 : Heap) (locs1 : List Loc), va_P (eD E) vwCl (wsE E ps I2 J) H1 → va_D A (wsE E ps I2 J) → va_S A H0 H1 locs1 → W p l e R s m args below meth c H1 locs1 cells slots Q (F0 m (pc + 1) ls rest)) : W p l e R s m args below meth c H locs cells slots Q (F0 m pc ls (.int v :: .int i :: .ref (eA E b r) :: rest)) := by
  obtain ⟨q, hq, he⟩ := wsE_mem (E := E) I J hm
  rw [hc] at he
  subst hI
  refine va_iast hx hb hK hP hD hS q 0 he rfl hin hdg (fun H1 locs1 hP1 hD1 hS1 => ?_)
  rw [← hc _ (J b r), wsE_setI hD hq] at hP1 hD1
  exact kk H1 locs1 hP1 hD1 hS1
theorem R_last (hx : p.tables.exec = Jvm.exec) (hb : c.code = cc) (hK : va_K (eD E) vwCl (eT E) s) (hP : va_P (eD E) vwCl (wsE E ps I J) H) (hD : va_D A (wsE E ps I J)) (hS : va_S A H0 H locs) (hm : (b, r) ∈ ps) {n : Nat} (hc : LA E b r n) {i : Int32} {v : Int64} (hin : vp_in i n) (hdg : decode cc pc = .ok (.lastore, 1))
    {J2 : MJ} (hJ : J2 = sJ J b r i.toNatClampNeg v) (kk : ∀ (H1 : Heap) (locs1 : List Loc), va_P (eD E) vwCl (wsE E ps I J2) H1 → va_D A (wsE E ps I J2) → va_S A H0 H1 locs1 → W p l e R s m args below meth c H1 locs1 cells slots Q (F0 m (pc + 1) ls rest)) : W p l e R s m args below meth c H locs cells slots Q (F0 m pc ls (.long v :: .int i :: .ref (eA E b r) :: rest)) := by
  obtain ⟨q, hq, he⟩ := wsE_mem (E := E) I J hm
  rw [hc] at he
  subst hJ
  refine va_last hx hb hK hP hD hS q 1 he rfl hin hdg (fun H1 locs1 hP1 hD1 hS1 => ?_)
  rw [← hc (I b r), wsE_setJ hD hq] at hP1 hD1
  exact kk H1 locs1 hP1 hD1 hS1
theorem R_alenI (hx : p.tables.exec = Jvm.exec) (hb : c.code = cc) (hK : va_K (eD E) vwCl (eT E) s) (hP : va_P (eD E) vwCl (wsE E ps I J) H) (hm : (b, r) ∈ ps) {n : Nat} (hc : IA E b r n) (hdg : decode cc pc = .ok (.arraylength, 1))
    (kk : W p l e R s m args below meth c H locs cells slots Q (F0 m (pc + 1) ls (.int (nI n) :: rest))) : W p l e R s m args below meth c H locs cells slots Q (F0 m pc ls (.ref (eA E b r) :: rest)) := by
  obtain ⟨q, -, he⟩ := wsE_mem (E := E) I J hm
  rw [hc] at he
  exact va_alen hx hb hK hP q 0 he rfl rfl hdg kk
theorem R_alenL (hx : p.tables.exec = Jvm.exec) (hb : c.code = cc) (hK : va_K (eD E) vwCl (eT E) s) (hP : va_P (eD E) vwCl (wsE E ps I J) H) (hm : (b, r) ∈ ps) {n : Nat} (hc : LA E b r n) (hdg : decode cc pc = .ok (.arraylength, 1))
    (kk : W p l e R s m args below meth c H locs cells slots Q (F0 m (pc + 1) ls (.int (nI n) :: rest))) : W p l e R s m args below meth c H locs cells slots Q (F0 m pc ls (.ref (eA E b r) :: rest)) := by
  obtain ⟨q, -, he⟩ := wsE_mem (E := E) I J hm
  rw [hc] at he
  exact va_alen hx hb hK hP q 1 he rfl rfl hdg kk
/-- what stands behind a call in the caller's world -/
theorem R_back {I1 : MI} {J1 : MJ} {t : State} {H1 : Heap} (hD : va_D A (wsE E ps I J)) (hA : ∀ q, H.size ≤ q → A q) (ht : t.heap = H1) (hB : PW E ps I1 J1 (AA E ps H.size) t) : va_P (eD E) vwCl (wsE E ps I1 J1) H1 ∧ va_D A (wsE E ps I1 J1) := by
  obtain ⟨hP1, -, hD1⟩ := hB
  rw [ht] at hP1
  exact ⟨hP1, hD1.weaken (fun _ q _ h => AA_sub hD hA (Nat.le_refl _) q.1 h)⟩
theorem R_pre {I : MI} {J : MJ} (hK : va_K (eD E) vwCl (eT E) s) (hP : va_P (eD E) vwCl (wsE E ps I J) H) (hD : va_D A (wsE E ps I J)) (hS : va_S A s.heap H locs) (hX : XS E A s s.heap) (hA : ∀ q, H.size ≤ q → A q) {as : List Value} {U : State} (hU : U.heap = H) (hW : s.WarmedH U.vm) : KP E ps as I J H.size as.toArray U :=
  ⟨rfl, by rw [hU], ⟨by rw [hU]; exact hP, va_K.moved hW.alike hK, hD.weaken (fun _ _ _ _ => trivial)⟩, by rw [hU]; exact XS.warm hW ((hX.kept hS.2.1).narrow (AA_sub hD hA (Nat.le_refl _)))⟩
theorem R_grow (hS : va_S A H0 H locs) (hA : ∀ q, H0.size ≤ q → A q) : ∀ q, H.size ≤ q → A q := fun q h => hA q (Nat.le_trans hS.1 h)
variable {y : MethodName} {bytes : ByteArray} {maxL nL n index ci N : Nat} {ret : Option FieldType} {ws ws' Ts : List Cond} {rm : Room} {own C : String} {T : u_T} {As : List Value} {fs : List Value}
/-- what a call asks of its callee's name -/
def yOk (y : MethodName) (C : String) (n : Nat) : Prop := y.cls = C ∧ y.cls ≠ "java/lang/invoke/MethodHandle" ∧ y.cls ≠ "java/lang/invoke/VarHandle" ∧ (parseMethodDescriptor y.desc).map (fun d => d.parameters.length) = some n
/-- the room of a callee in its caller's -/
def rOk (R rm : Room) (maxL : Nat) : Prop := (rm.frames + 1 ≤ R.frames ∧ 8 + (maxL + 11) + rm.locals ≤ R.locals) ∧ rm.cells = 0 ∧ rm.slots = 0
/-- the caller's own facts -/
abbrev cOk (p : Program) (m : MethodId) (c : Code) (cc : ByteArray) (nL : Nat) (s : State) (args : Array Value) (Ts : List Cond) (own : String) : Prop := CallFix p m c cc nL s args Ts own
theorem R_cwV (S : cOk p m c cc nL s args Ts own) (hG : GoodIn Ts (wsV own index C y ws)) (hw : ws = Cond.code y bytes maxL ret :: ws') (hy : yOk y C n) (hR : rOk R rm maxL) : CallW R s args own C index y bytes maxL ret ws rm 0 0 n :=
  cwV n S.2.2.2.2 hG hw hR.2.1 hR.2.2 hy hR.1
theorem R_cwS (S : cOk p m c cc nL s args Ts own) (hG : GoodIn Ts (va_wsS own index y ws)) (hw : ws = Cond.code y bytes maxL ret :: ws') (hy : yOk y C n) (hR : rOk R rm maxL) : CallB R s args own index y bytes maxL ret ws rm 0 0 n ∧ (Cond.static y).before args s = true :=
  va_cwS n S.2.2.2.2 hG hw hR.2.1 hR.2.2 hy.2 hR.1
theorem R_cVi {Q2 : Int32 → MI → MJ → Prop} (S : cOk p m c cc nL s args Ts own) (hM : KI l y ws rm E ps (.ref (eA E b r) :: As) I J Q2) (hG : GoodIn Ts (wsV own index C y ws)) (hw : ws = Cond.code y bytes maxL ret :: ws') (hy : yOk y C n) (hR : rOk R rm maxL)
    (hK : va_K (eD E) vwCl (eT E) s) (hP : va_P (eD E) vwCl (wsE E ps I J) H) (hD : va_D A (wsE E ps I J)) (hS : va_S A s.heap H locs) (hX : XS E A s s.heap) (hA : ∀ q, s.heap.size ≤ q → A q) (hm : (b, r) ∈ ps) (hc : cF E (I b r) (J b r) b r = .inr (ci, fs)) (hcl : vwCl[ci]? = some (C, T, N))
    (hn : As.length = n) (hsz : ls.size = nL) (hst : st0 = As.reverse ++ .ref (eA E b r) :: rest) (hr : (rest.map fun v => v.category).sum ≤ 8) (hcs : cells ≤ R.cells ∧ slots ≤ R.slots) (hdg : decode cc pc = .ok (.invokevirtual index, 3))
    (kk : ∀ (v : Int32) (I1 : MI) (J1 : MJ) (H1 : Heap) (locs1 : List Loc), Q2 v I1 J1 → va_P (eD E) vwCl (wsE E ps I1 J1) H1 → va_D A (wsE E ps I1 J1) → va_S A s.heap H1 locs1 → W p l e R s m args below meth c H1 locs1 cells slots Q (F0 m (pc + 3) ls (.int v :: rest))) : W p l e R s m args below meth c H locs cells slots Q (F0 m pc ls st0) := by
  obtain ⟨q, -, he⟩ := wsE_mem (E := E) I J hm
  rw [hc] at he
  have hA1 := R_grow hS hA
  refine va_calli (va_runV S (hM H.size) (R_cwV S hG hw hy hR) ⟨KP_blind, va_recv hK hP hcl he, fun U hU hW => R_pre hK hP hD hS hX hA1 hU hW⟩ rfl hn hsz hst (lv_room hr) hdg hcs) hS (fun q _ h => AA_sub hD hA1 (Nat.le_refl _) q h) (AA_sub hD hA1 (Nat.le_refl _)) (fun v u t H1 locs1 ht _ hq hB _ _ hS1 => ?_)
  obtain ⟨hP1, hD1⟩ := R_back hD hA1 ht hB
  exact kk v u.1 u.2 H1 locs1 hq hP1 hD1 hS1
theorem R_cVl {Q2 : Int64 → MI → MJ → Prop} (S : cOk p m c cc nL s args Ts own) (hM : KL l y ws rm E ps (.ref (eA E b r) :: As) I J Q2) (hG : GoodIn Ts (wsV own index C y ws)) (hw : ws = Cond.code y bytes maxL ret :: ws') (hy : yOk y C n) (hR : rOk R rm maxL)
    (hK : va_K (eD E) vwCl (eT E) s) (hP : va_P (eD E) vwCl (wsE E ps I J) H) (hD : va_D A (wsE E ps I J)) (hS : va_S A s.heap H locs) (hX : XS E A s s.heap) (hA : ∀ q, s.heap.size ≤ q → A q) (hm : (b, r) ∈ ps) (hc : cF E (I b r) (J b r) b r = .inr (ci, fs)) (hcl : vwCl[ci]? = some (C, T, N))
    (hn : As.length = n) (hsz : ls.size = nL) (hst : st0 = As.reverse ++ .ref (eA E b r) :: rest) (hr : (rest.map fun v => v.category).sum ≤ 8) (hcs : cells ≤ R.cells ∧ slots ≤ R.slots) (hdg : decode cc pc = .ok (.invokevirtual index, 3))
    (kk : ∀ (v : Int64) (I1 : MI) (J1 : MJ) (H1 : Heap) (locs1 : List Loc), Q2 v I1 J1 → va_P (eD E) vwCl (wsE E ps I1 J1) H1 → va_D A (wsE E ps I1 J1) → va_S A s.heap H1 locs1 → W p l e R s m args below meth c H1 locs1 cells slots Q (F0 m (pc + 3) ls (.long v :: rest))) : W p l e R s m args below meth c H locs cells slots Q (F0 m pc ls st0) := by
  obtain ⟨q, -, he⟩ := wsE_mem (E := E) I J hm
  rw [hc] at he
  have hA1 := R_grow hS hA
  refine va_calll (va_runV S (hM H.size) (R_cwV S hG hw hy hR) ⟨KP_blind, va_recv hK hP hcl he, fun U hU hW => R_pre hK hP hD hS hX hA1 hU hW⟩ rfl hn hsz hst (lv_room hr) hdg hcs) hS (fun q _ h => AA_sub hD hA1 (Nat.le_refl _) q h) (AA_sub hD hA1 (Nat.le_refl _)) (fun v u t H1 locs1 ht _ hq hB _ _ hS1 => ?_)
  obtain ⟨hP1, hD1⟩ := R_back hD hA1 ht hB
  exact kk v u.1 u.2 H1 locs1 hq hP1 hD1 hS1
theorem R_cVv {Q2 : MI → MJ → Prop} (S : cOk p m c cc nL s args Ts own) (hM : KV l y ws rm E ps (.ref (eA E b r) :: As) I J Q2) (hG : GoodIn Ts (wsV own index C y ws)) (hw : ws = Cond.code y bytes maxL ret :: ws') (hy : yOk y C n) (hR : rOk R rm maxL)
    (hK : va_K (eD E) vwCl (eT E) s) (hP : va_P (eD E) vwCl (wsE E ps I J) H) (hD : va_D A (wsE E ps I J)) (hS : va_S A s.heap H locs) (hX : XS E A s s.heap) (hA : ∀ q, s.heap.size ≤ q → A q) (hm : (b, r) ∈ ps) (hc : cF E (I b r) (J b r) b r = .inr (ci, fs)) (hcl : vwCl[ci]? = some (C, T, N))
    (hn : As.length = n) (hsz : ls.size = nL) (hst : st0 = As.reverse ++ .ref (eA E b r) :: rest) (hr : (rest.map fun v => v.category).sum ≤ 8) (hcs : cells ≤ R.cells ∧ slots ≤ R.slots) (hdg : decode cc pc = .ok (.invokevirtual index, 3))
    (kk : ∀ (I1 : MI) (J1 : MJ) (H1 : Heap) (locs1 : List Loc), Q2 I1 J1 → va_P (eD E) vwCl (wsE E ps I1 J1) H1 → va_D A (wsE E ps I1 J1) → va_S A s.heap H1 locs1 → W p l e R s m args below meth c H1 locs1 cells slots Q (F0 m (pc + 3) ls rest)) : W p l e R s m args below meth c H locs cells slots Q (F0 m pc ls st0) := by
  obtain ⟨q, -, he⟩ := wsE_mem (E := E) I J hm
  rw [hc] at he
  have hA1 := R_grow hS hA
  refine va_callv (va_runV S (hM H.size) (R_cwV S hG hw hy hR) ⟨KP_blind, va_recv hK hP hcl he, fun U hU hW => R_pre hK hP hD hS hX hA1 hU hW⟩ rfl hn hsz hst (lv_room hr) hdg hcs) hS (fun q _ h => AA_sub hD hA1 (Nat.le_refl _) q h) (AA_sub hD hA1 (Nat.le_refl _)) (fun u t H1 locs1 ht _ hq hB _ _ hS1 => ?_)
  obtain ⟨hP1, hD1⟩ := R_back hD hA1 ht hB
  exact kk u.1 u.2 H1 locs1 hq hP1 hD1 hS1
theorem R_cSi {Q2 : Int32 → MI → MJ → Prop} (S : cOk p m c cc nL s args Ts own) (hM : KI l y ws rm E ps As I J Q2) (hG : GoodIn Ts (va_wsS own index y ws)) (hw : ws = Cond.code y bytes maxL ret :: ws') (hy : yOk y C n) (hR : rOk R rm maxL)
    (hK : va_K (eD E) vwCl (eT E) s) (hP : va_P (eD E) vwCl (wsE E ps I J) H) (hD : va_D A (wsE E ps I J)) (hS : va_S A s.heap H locs) (hX : XS E A s s.heap) (hA : ∀ q, s.heap.size ≤ q → A q)
    (hn : As.length = n) (hsz : ls.size = nL) (hst : st0 = As.reverse ++ rest) (hr : (rest.map fun v => v.category).sum ≤ 8) (hcs : cells ≤ R.cells ∧ slots ≤ R.slots) (hdg : decode cc pc = .ok (.invokestatic index, 3))
    (kk : ∀ (v : Int32) (I1 : MI) (J1 : MJ) (H1 : Heap) (locs1 : List Loc), Q2 v I1 J1 → va_P (eD E) vwCl (wsE E ps I1 J1) H1 → va_D A (wsE E ps I1 J1) → va_S A s.heap H1 locs1 → W p l e R s m args below meth c H1 locs1 cells slots Q (F0 m (pc + 3) ls (.int v :: rest))) : W p l e R s m args below meth c H locs cells slots Q (F0 m pc ls st0) := by
  have hA1 := R_grow hS hA
  refine va_calli (va_runS S (hM H.size) (R_cwS S hG hw hy hR) ⟨KP_blind, fun U hU hW => R_pre hK hP hD hS hX hA1 hU hW⟩ rfl hn hsz hst (lv_room hr) hdg hcs) hS (fun q _ h => AA_sub hD hA1 (Nat.le_refl _) q h) (AA_sub hD hA1 (Nat.le_refl _)) (fun v u t H1 locs1 ht _ hq hB _ _ hS1 => ?_)
  obtain ⟨hP1, hD1⟩ := R_back hD hA1 ht hB
  exact kk v u.1 u.2 H1 locs1 hq hP1 hD1 hS1
theorem R_cSl {Q2 : Int64 → MI → MJ → Prop} (S : cOk p m c cc nL s args Ts own) (hM : KL l y ws rm E ps As I J Q2) (hG : GoodIn Ts (va_wsS own index y ws)) (hw : ws = Cond.code y bytes maxL ret :: ws') (hy : yOk y C n) (hR : rOk R rm maxL)
    (hK : va_K (eD E) vwCl (eT E) s) (hP : va_P (eD E) vwCl (wsE E ps I J) H) (hD : va_D A (wsE E ps I J)) (hS : va_S A s.heap H locs) (hX : XS E A s s.heap) (hA : ∀ q, s.heap.size ≤ q → A q)
    (hn : As.length = n) (hsz : ls.size = nL) (hst : st0 = As.reverse ++ rest) (hr : (rest.map fun v => v.category).sum ≤ 8) (hcs : cells ≤ R.cells ∧ slots ≤ R.slots) (hdg : decode cc pc = .ok (.invokestatic index, 3))
    (kk : ∀ (v : Int64) (I1 : MI) (J1 : MJ) (H1 : Heap) (locs1 : List Loc), Q2 v I1 J1 → va_P (eD E) vwCl (wsE E ps I1 J1) H1 → va_D A (wsE E ps I1 J1) → va_S A s.heap H1 locs1 → W p l e R s m args below meth c H1 locs1 cells slots Q (F0 m (pc + 3) ls (.long v :: rest))) : W p l e R s m args below meth c H locs cells slots Q (F0 m pc ls st0) := by
  have hA1 := R_grow hS hA
  refine va_calll (va_runS S (hM H.size) (R_cwS S hG hw hy hR) ⟨KP_blind, fun U hU hW => R_pre hK hP hD hS hX hA1 hU hW⟩ rfl hn hsz hst (lv_room hr) hdg hcs) hS (fun q _ h => AA_sub hD hA1 (Nat.le_refl _) q h) (AA_sub hD hA1 (Nat.le_refl _)) (fun v u t H1 locs1 ht _ hq hB _ _ hS1 => ?_)
  obtain ⟨hP1, hD1⟩ := R_back hD hA1 ht hB
  exact kk v u.1 u.2 H1 locs1 hq hP1 hD1 hS1
theorem R_cSv {Q2 : MI → MJ → Prop} (S : cOk p m c cc nL s args Ts own) (hM : KV l y ws rm E ps As I J Q2) (hG : GoodIn Ts (va_wsS own index y ws)) (hw : ws = Cond.code y bytes maxL ret :: ws') (hy : yOk y C n) (hR : rOk R rm maxL)
    (hK : va_K (eD E) vwCl (eT E) s) (hP : va_P (eD E) vwCl (wsE E ps I J) H) (hD : va_D A (wsE E ps I J)) (hS : va_S A s.heap H locs) (hX : XS E A s s.heap) (hA : ∀ q, s.heap.size ≤ q → A q)
    (hn : As.length = n) (hsz : ls.size = nL) (hst : st0 = As.reverse ++ rest) (hr : (rest.map fun v => v.category).sum ≤ 8) (hcs : cells ≤ R.cells ∧ slots ≤ R.slots) (hdg : decode cc pc = .ok (.invokestatic index, 3))
    (kk : ∀ (I1 : MI) (J1 : MJ) (H1 : Heap) (locs1 : List Loc), Q2 I1 J1 → va_P (eD E) vwCl (wsE E ps I1 J1) H1 → va_D A (wsE E ps I1 J1) → va_S A s.heap H1 locs1 → W p l e R s m args below meth c H1 locs1 cells slots Q (F0 m (pc + 3) ls rest)) : W p l e R s m args below meth c H locs cells slots Q (F0 m pc ls st0) := by
  have hA1 := R_grow hS hA
  refine va_callv (va_runS S (hM H.size) (R_cwS S hG hw hy hR) ⟨KP_blind, fun U hU hW => R_pre hK hP hD hS hX hA1 hU hW⟩ rfl hn hsz hst (lv_room hr) hdg hcs) hS (fun q _ h => AA_sub hD hA1 (Nat.le_refl _) q h) (AA_sub hD hA1 (Nat.le_refl _)) (fun u t H1 locs1 ht _ hq hB _ _ hS1 => ?_)
  obtain ⟨hP1, hD1⟩ := R_back hD hA1 ht hB
  exact kk u.1 u.2 H1 locs1 hq hP1 hD1 hS1
/-- the ends -/
theorem R_iret {Q2 : Int32 → MI → MJ → Prop} {sz : Nat} {v : Int32} {ty : FieldType} (hx : p.tables.exec = Jvm.exec) (hb : c.code = cc) (hr : meth.sig.returnType = some ty) (hn : narrow ty (.int v) = .int v) (hlk : meth.locks = false) (hK : va_K (eD E) vwCl (eT E) s) (hP : va_P (eD E) vwCl (wsE E ps I J) H) (hD : va_D (AA E ps sz) (wsE E ps I J)) (hS : va_S (AA E ps sz) s.heap H locs) (hf : Q2 v I J) (hdg : decode cc pc = .ok (.ireturn, 1)) :
    W p l e R s m args below meth c H locs cells slots (MQ below (va_Qi (fun r (u : MI × MJ) => Q2 r u.1 u.2) (KB E ps sz) (AA E ps sz)) args s cells slots (AA E ps sz)) (F0 m pc ls [.int v]) :=
  W.zret hx hb hr hn (fun t ht hW => ⟨⟨v, (I, J), rfl, hf, by rw [ht]; exact hP, va_K.moved hW.alike hK, hD⟩, hS.F ht⟩) hS.2.2 hdg
theorem R_lret {Q2 : Int64 → MI → MJ → Prop} {sz : Nat} {v : Int64} (hx : p.tables.exec = Jvm.exec) (hb : c.code = cc) (hr : meth.sig.returnType = some .long) (hlk : meth.locks = false) (hK : va_K (eD E) vwCl (eT E) s) (hP : va_P (eD E) vwCl (wsE E ps I J) H) (hD : va_D (AA E ps sz) (wsE E ps I J)) (hS : va_S (AA E ps sz) s.heap H locs) (hf : Q2 v I J) (hdg : decode cc pc = .ok (.lreturn, 1)) :
    W p l e R s m args below meth c H locs cells slots (MQ below (va_Ql (fun r (u : MI × MJ) => Q2 r u.1 u.2) (KB E ps sz) (AA E ps sz)) args s cells slots (AA E ps sz)) (F0 m pc ls [.long v]) :=
  W.lret hx hb hr (fun t ht hW => ⟨⟨v, (I, J), rfl, hf, by rw [ht]; exact hP, va_K.moved hW.alike hK, hD⟩, hS.F ht⟩) hS.2.2 hdg
theorem R_vret {Q2 : MI → MJ → Prop} {sz : Nat} (hx : p.tables.exec = Jvm.exec) (hb : c.code = cc) (hr : meth.sig.returnType = none) (hlk : meth.locks = false) (hK : va_K (eD E) vwCl (eT E) s) (hP : va_P (eD E) vwCl (wsE E ps I J) H) (hD : va_D (AA E ps sz) (wsE E ps I J)) (hS : va_S (AA E ps sz) s.heap H locs) (hf : Q2 I J) (hdg : decode cc pc = .ok (.return_, 1)) :
    W p l e R s m args below meth c H locs cells slots (MQ below (va_Qv (fun (u : MI × MJ) => Q2 u.1 u.2) (KB E ps sz) (AA E ps sz)) args s cells slots (AA E ps sz)) (F0 m pc ls []) :=
  W.vret hx hb hr (fun t ht hW => ⟨⟨(I, J), rfl, hf, by rw [ht]; exact hP, va_K.moved hW.alike hK, hD⟩, hS.F ht⟩) hS.2.2 hdg
end RK
/-- the body's start, whatever its end -/
theorem K_of {l : Launch} {y : MethodName} {ws ws' : List Cond} {rm : Room} {E : EV} {ps : List (Nat × Nat)} {as : List Value} {I : MI} {J : MJ} {cc : ByteArray} {maxL : Nat} {ret : Option FieldType} {Qc : Nat → Array Value → State → Outcome → State → Prop} (hy : plainName y.cls = true) (hw : ws = Cond.code y cc maxL ret :: ws') (hn : (lg_sl as).length ≤ maxL)
    (body : ∀ (p : Program) (e : Env) (s : State) (m : MethodId) (args : Array Value) (below : List Frame) (meth : Method) (c : Code) (ls : Array Slot), meth.sig.returnType = ret → meth.locks = false → cOk p m c cc maxL s args ws y.cls → va_K (eD E) vwCl (eT E) s → XS E (AA E ps s.heap.size) s s.heap →
      va_P (eD E) vwCl (wsE E ps I J) s.heap → va_D (AA E ps s.heap.size) (wsE E ps I J) → lv_has ls maxL (lv_args 0 as) →
      W p l e rm s m args below meth c s.heap [] 0 0 (MQ below (Qc s.heap.size) args s 0 0 (AA E ps s.heap.size)) (F0 m 0 ls [])) : ∀ sz : Nat, Met l y ws rm (KP E ps as I J sz) (Qc sz) 0 0 (AA E ps sz) := by
  intro sz
  refine Met.ofW (cc := cc) (maxL := maxL) (ret := ret) hy hw ?_
  intro p e s m args below meth c s₁ B hml hv
  obtain ⟨rfl, hsz, ⟨hP, hK, hD⟩, hX⟩ := hv
  subst hsz
  rw [lg_entry_eq]
  exact body p e s m _ below meth c _ B.returns B.notSynchronized ⟨B.exec, B.bytes, hml, findClass_of_methodNamed B.named, atoms_spec (ws := ws) B.pre⟩ hK hX hP (AA_D hD) (lv_entry as hn)
