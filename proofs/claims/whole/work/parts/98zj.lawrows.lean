/-! THE CLAIM OUT OF ONE WALK OF THE LAW'S BODY. Your part is whole_start (and what it stands on); all else here is the same for every law, but numbers. -/
def R_law : String := "RhymeRoofsLaw"
def lw_P (b : Addr) (xs : List Int32) (args : Array Value) (s : State) : Prop := args = #[.ref b] ∧ s.IntsAt b xs ∧ xs.length ≤ 3072 ∧ (Jvm.Cond.and given_1 narrow_1).before args s = true
/-- what a walk over the start with the record d0 says of its end, said of the start itself -/
theorem lw_closed {s t : State} {o : Outcome} {d0 : Drawn} {L : List Loc} {k n : Nat} (hd0 : s.drawn.sameBut d0 lw_cs) (hv : ∃ v, o = .returned v) (hW : (s.setDrawn d0).WarmedH t.vm) (hs : (s.setDrawn d0).sameButNew ({ t with vm := s.vm } : State) L k n) : State.butDraws s t lw_cs (fun t1 => Framed s o t1 L k n) := by
  have h2 : t.drawn = d0 := congrArg State.drawn hs.1
  refine ⟨⟨hv, hW, State.sameButNew.setDrawn hs s.drawn⟩, ?_, by decide⟩
  rw [h2]
  exact hd0
def lw_Q (_ : Array Value) (s : State) (o : Outcome) (t : State) : Prop := o = .returned (some (.int 1)) ∧ State.butDraws s t lw_cs (fun t1 => Framed s o t1 [] 601024 7293033)
def lw_Z (below : List Frame) (a : Array Value) (s : State) : State → Prop := fun t => ∃ o, t.status = .running ∧ Ended t below o ∧ lw_Q a s o t
/-- the law's own end, with 1 on the stack, nothing written that was there before, its room as the claim has it; d0: the record of draws at this point (at the entry s.drawn: begin with 'refine W.base ?_' and 'have hd0 := Drawn.sameBut.refl s.drawn lw_cs') -/
theorem lw_ret {p : Program} {l : Launch} {e : Env} {s : State} {m : MethodId} {below : List Frame} {meth : Method} {c : Code} {b : Nat} {d0 : Drawn} (hd0 : s.drawn.sameBut d0 lw_cs) (hx : p.tables.exec = Jvm.exec) (hb : c.code = code) (hr : meth.sig.returnType = ret) (hlocks : meth.locks = false) {pc : Nat} {H : Heap} {ls : Array Slot} (hdg : decode code pc = .ok (.ireturn, 1)) : W p l e room_1 (s.setDrawn d0) m #[Value.ref b] below meth c H [] 601024 7293033 (lw_Z below #[Value.ref b] s) (F0 m pc ls [.int 1]) := by
  intro T hT X
  obtain ⟨fs, hret, hrun, hended, hW, hframe⟩ := X.leave (v := some (.int 1)) (hlocks := hlocks) (fun h => by rw [hr] at h; cases h)
  have hmeth' : T.vm.method? m = some meth := X.method'
  refine ⟨T.setFrames fs, ?_, .returned (some (.int 1)), hrun, hended, rfl, lw_closed hd0 ⟨_, rfl⟩ hW hframe⟩
  jvm_step X.here [X.here.top, hx, hb, hdg, hmeth', hr, ret, narrow_b1]
  (try refine ⟨rfl, ?_⟩); (try refine ⟨rfl, ?_⟩)
  first | (intro acts; rw [hret _ acts rfl rfl rfl]) | rw [hret _ _ rfl rfl rfl]
  exact Steps.refl _
/-- what holds at the law's entry: the machine, the code, the tables' words (any of lw_tbl by 'hts w (by decide +kernel)'), the script of L ints xs at the cell b, what the Statement gives of the start (any of its parts by flat_of_before) -/
def lw_At (p : Program) (s : State) (m : MethodId) (meth : Method) (c : Code) (b L : Nat) (xs : Nat → Int32) : Prop :=
  p.tables.exec = Jvm.exec ∧ c.code = code ∧ meth.sig.returnType = ret ∧ c.maxLocals = 9 ∧ s.vm.findClass R_law = some m.cls ∧ (∀ w ∈ lw_tbl, w.before #[Value.ref b] s = true) ∧ va_X b L xs s s.heap ∧ b < s.heap.size ∧ meth.locks = false ∧ (Jvm.Cond.and given_1 narrow_1).before #[Value.ref b] s = true
/-! THE LAW'S OWN WORLD AND ITS ROWS -/
def psL : List (Nat × Nat) := (13, 0) :: (psC ++ psM)
theorem ps11 : ∀ r, r < 11 → (11, r) ∈ psL := fun _ h => List.mem_cons_of_mem _ (List.mem_append_left _ (psC_own h))
theorem psG : ∀ k r, k < 11 → r < 16 → (k, r) ∈ psL := fun _ _ h1 h2 => List.mem_cons_of_mem _ (List.mem_append_left _ (psC_game h1 h2))
theorem ps12 : ∀ r, r < 17 → (12, r) ∈ psL := fun _ h => List.mem_cons_of_mem _ (List.mem_append_right _ (psM_in h))
theorem ps13 : (13, 0) ∈ psL := List.mem_cons_self
abbrev fA (s : State) : Nat → Prop := fun q => s.heap.size ≤ q
def LCx (p : Program) (l : Launch) (s : State) (m : MethodId) (meth : Method) (c : Code) (b L : Nat) (xs : Nat → Int32) (E : EV) : Prop :=
  cOk p m c cL_law 9 s #[Value.ref b] wsL_law RL ∧ va_K (eD E) vwCl (eT E) s ∧ XS E (fA s) s s.heap ∧ XT s ∧ ((eT E)[2]? = some (eG E, .object "RhymeRoofs$Game") ∧ (eT E)[3]? = some (eM E, .array .int)) ∧ va_X b L xs s s.heap ∧ b < s.heap.size ∧ meth.sig.returnType = ret ∧ meth.locks = false ∧ l.stackTraces = false
def LSx (p : Program) (l : Launch) (e : Env) (s : State) (m : MethodId) (below : List Frame) (meth : Method) (c : Code) (b : Nat) (E : EV) (pc k n : Nat) (lst : List (Nat × Value)) : Prop :=
  ∀ (I : MI) (J : MJ) (H : Heap) (locs : List Loc) (ls : Array Slot), INV I J → va_P (eD E) vwCl (wsE E psL I J) H → va_D (fA s) (wsE E psL I J) → va_S (fA s) s.heap H locs → lv_has ls 9 lst → W p l e room_1 s m #[Value.ref b] below meth c H locs k n (lw_Z below #[Value.ref b] s) (F0 m pc ls [])
section LR
variable {p : Program} {l : Launch} {e : Env} {R : Room} {s : State} {m : MethodId} {args : Array Value} {below : List Frame} {meth : Method} {c : Code} {H : Heap} {locs : List Loc} {cells slots : Nat} {Q : State → Prop}
variable {cc : ByteArray} {pc : Nat} {ls : Array Slot} {rest st0 : List Value} {A : Nat → Prop} {E : EV} {ps : List (Nat × Nat)} {I : MI} {J : MJ}
variable {y : MethodName} {bytes : ByteArray} {maxL nL n index : Nat} {ret' : Option FieldType} {ws ws' Ts : List Cond} {rm : Room} {own C : String} {As : List Value}
/-- a static call of a helper that lets nothing through -/
theorem R_lSi {Q2 : Int32 → MI → MJ → Prop} {hh : List (Nat × Nat × Nat × Nat)} (S : cOk p m c cc nL s args Ts own) (hM : YI l y ws rm E ps As I J Q2 (fun _ _ _ => False) 4 24) (hG : GoodIn Ts (va_wsS own index y ws)) (hw : ws = Cond.codeWith y bytes maxL ret' hh :: ws') (hy : yOk y C n) (hrm : rm.cells = 4 ∧ rm.slots = 24) (hR : rm.frames + 1 ≤ R.frames ∧ 8 + (maxL + 11) + rm.locals ≤ R.locals)
    (hK : va_K (eD E) vwCl (eT E) s) (hP : va_P (eD E) vwCl (wsE E ps I J) H) (hD : va_D A (wsE E ps I J)) (hS : va_S A s.heap H locs) (hX : XS E A s s.heap) (hT : XT s) (hA : ∀ q, s.heap.size ≤ q → A q)
    (hn : As.length = n) (hsz : ls.size = nL) (hst : st0 = As.reverse ++ rest) (hr : (rest.map fun v => v.category).sum ≤ 8) (hcs : cells + 4 ≤ R.cells ∧ slots + 24 ≤ R.slots) (hdg : decode cc pc = .ok (.invokestatic index, 3))
    (kk : ∀ (v : Int32) (I1 : MI) (J1 : MJ) (H1 : Heap) (locs1 : List Loc), Q2 v I1 J1 → va_P (eD E) vwCl (wsE E ps I1 J1) H1 → va_D A (wsE E ps I1 J1) → va_S A s.heap H1 locs1 → W p l e R s m args below meth c H1 locs1 (cells + 4) (slots + 24) Q (F0 m (pc + 3) ls (.int v :: rest))) : W p l e R s m args below meth c H locs cells slots Q (F0 m pc ls st0) := by
  have hA1 := R_grow hS hA
  have sub := AA_sub hD hA1 (Nat.le_refl _)
  refine vx_calli (vx_runSX S (hM H.size) (vx_cwSW n S.2.2.2.2 hG hw hrm.1 hrm.2 hy.2 hR) ⟨KPx_blind, fun U hU hW => R_preX hK hP hD hS hX hT hA1 hU hW⟩ rfl hn hsz hst (lv_room hr) hdg hcs) hS (fun q _ h => sub q h) sub (fun q _ h => sub q h) (fun E9 ce q9 u t H1 locs1 ht1 ha hq hB h1 h2 hS1 hce hcv hcl9 => hq.elim) (fun v u t H1 locs1 ht1 _ hq hB _ _ hS1 => ?_)
  obtain ⟨hP1, hD1⟩ := R_back hD hA1 ht1 hB
  exact kk v u.1 u.2 H1 locs1 hq hP1 hD1 hS1
/-- a number of the script, i + k places on -/
theorem L_arg {b L i k j0 j4 : Nat} {xs : Nat → Int32} {kI : Int} {lst : List (Nat × Value)} (hx : p.tables.exec = Jvm.exec) (hb : c.code = cc) (hX : va_X b L xs s s.heap) (hbl : b < s.heap.size) (hS : va_S (fA s) s.heap H locs) (hi : i + k < L) (hL : L ≤ 3072) (hk : Int32.ofInt kI = nI k) (hl : lv_has ls 9 lst) (h0 : lst[j0]? = some (0, .ref b)) (h4 : lst[j4]? = some (4, .int (nI i)))
    (d0 : decode cc pc = .ok (.aload_n 0, 1)) (d1 : decode cc (pc + 1) = .ok (.iload 4, 2)) (d3 : decode cc (pc + 3) = .ok (.iconst kI, 1)) (d4 : decode cc (pc + 4) = .ok (.iadd, 1)) (d5 : decode cc (pc + 5) = .ok (.iaload, 1))
    (kk : W p l e R s m args below meth c H locs cells slots Q (F0 m (pc + 6) ls (.int (xs (i + k)) :: rest))) : W p l e R s m args below meth c H locs cells slots Q (F0 m pc ls rest) := by
  refine lv_aload_n hx hb d0 rfl (lv_at hl j0 h0) ?_
  refine lv_iload hx hb d1 (lv_at hl j4 h4) ?_
  refine lv_iconst (v := nI k) hx hb d3 hk ?_
  refine lv_iadd hx hb d4 ?_
  refine va_sld (A := fA s) hx hb hX hbl (Nat.not_le.mpr hbl) hS (vin (i + k) L hi (by omega) (nI_add i k)) d5 ?_
  rw [cln (n := i + k) (by omega) (nI_add i k)]
  exact kk
end LR
