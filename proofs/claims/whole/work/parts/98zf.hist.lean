/-! THE READER, THE HISTORY, THE CLASS ITSELF -/
theorem gW_head (E : EV) (u : (Nat → Nat) × MI × MJ) : (u.1 0, (.inr (1, [.ref (u.1 1), .ref (u.1 7), .ref (u.1 8), .ref (u.1 9), .ref (u.1 10), .ref (u.1 11), .ref (u.1 12), .ref (u.1 13), .ref (u.1 14), .int (u.2.1 0 0 9), .int (u.2.1 0 0 10), .int (u.2.1 0 0 11), .ref (u.1 15)]) : va_E)) ∈ gW E u := List.mem_of_getElem? (i := 0) rfl
def gms (E : EV) (F : Nat → (Nat → Nat) × MI × MJ) : Nat → va_W
  | 0 => []
  | n + 1 => gms E F n ++ gW E (F n)
theorem gms_cong {E : EV} {F F' : Nat → (Nat → Nat) × MI × MJ} : ∀ n, (∀ j, j < n → F j = F' j) → gms E F n = gms E F' n
  | 0, _ => rfl
  | n + 1, h => by
    show gms E F n ++ gW E (F n) = gms E F' n ++ gW E (F' n)
    rw [gms_cong n (fun j hj => h j (by omega)), h n (by omega)]
def pastR (F : Nat → (Nat → Nat) × MI × MJ) (i : Nat) : Nat → Option Nat := fun j => if j < i then some ((F j).1 0) else none
abbrev hL (E : EV) (a q : Nat) (F : Nat → (Nat → Nat) × MI × MJ) (i : Nat) : va_W := (q, .inl (eG E, 8, .inr (.inr (.inr (.inr (pastR F i)))))) :: (a, .inr (2, [.ref q, .int 0, .int 0])) :: gms E F i
theorem hL_zero {E : EV} {a q : Nat} {F : Nat → (Nat → Nat) × MI × MJ} : hL E a q F 0 = [(q, .inl (eG E, 8, .inr (.inr (.inr (.inr (fun _ => none)))))), (a, .inr (2, [.ref q, .int 0, .int 0]))] := by
  have e : pastR F 0 = fun _ => none := funext fun j => if_neg (Nat.not_lt_zero j)
  show (q, _) :: (a, _) :: [] = _
  rw [e]
theorem hL_step {E : EV} {a q i : Nat} {F : Nat → (Nat → Nat) × MI × MJ} {u : (Nat → Nat) × MI × MJ} : hL E a q (fun j => if j = i then u else F j) (i + 1) = (q, .inl (eG E, 8, .inr (.inr (.inr (.inr (va_up (pastR F i) i (some (u.1 0)))))))) :: (a, .inr (2, [.ref q, .int 0, .int 0])) :: (gms E F i ++ gW E u) := by
  have e1 : pastR (fun j => if j = i then u else F j) (i + 1) = va_up (pastR F i) i (some (u.1 0)) := by
    funext j
    unfold pastR va_up
    by_cases h : j = i
    · subst h
      simp
    · by_cases h2 : j < i
      · simp [h, h2, Nat.lt_succ_of_lt h2]
      · simp [h, h2, show ¬ j < i + 1 by omega]
  have e2 : gms E (fun j => if j = i then u else F j) (i + 1) = gms E F i ++ gW E u := by
    show gms E (fun j => if j = i then u else F j) i ++ gW E (if i = i then u else F i) = _
    rw [gms_cong (F' := F) i (fun j hj => if_neg (by omega)), if_pos rfl]
  show (q, _) :: (a, _) :: gms E (fun j => if j = i then u else F j) (i + 1) = _
  rw [e1, e2]
section NA
variable {p : Program} {l : Launch} {e : Env} {R : Room} {s : State} {m : MethodId} {args : Array Value} {below : List Frame} {meth : Method} {c : Code} {H : Heap} {locs : List Loc} {cells slots : Nat} {Q : State → Prop}
variable {cc : ByteArray} {pc : Nat} {ls : Array Slot} {rest : List Value} {A : Nat → Prop} {H0 : Heap} {E : EV} {ws : va_W}
theorem N_objs {own : String} {index : Nat} (hx : p.tables.exec = Jvm.exec) (hb : c.code = cc) (hown : s.vm.findClass own = some m.cls) (hclink : (Cond.classLink own index "RhymeRoofs$Game").before args s = true) (hover : va_AO "RhymeRoofs$Game" s) (hK : va_K (eD E) vwCl (eT E) s) (hP : va_P (eD E) vwCl ws H) (hD : va_D A ws) (hS : va_S A H0 H locs) (hA : ∀ q, H0.size ≤ q → A q)
    (ht : (eG E, .object "RhymeRoofs$Game") ∈ eT E) {n : Int32} (N' : Nat) (hn : ¬ n < 0) (hN : n.toNatClampNeg = N') (hbytes : N' * 4 ≤ 536870912) (hcells : cells + 1 ≤ R.cells) (hslots : slots + N' ≤ R.slots) (hdg : decode cc pc = .ok (.anewarray index, 3))
    (kk : ∀ (q : Nat) (H1 : Heap), va_P (eD E) vwCl ((q, .inl (eG E, N', .inr (.inr (.inr (.inr (fun _ => none)))))) :: ws) H1 → va_D A ((q, .inl (eG E, N', .inr (.inr (.inr (.inr (fun _ => none)))))) :: ws) → va_S A H0 H1 locs → W p l e R s m args below meth c H1 locs (cells + 1) (slots + N') Q (F0 m (pc + 3) ls (.ref q :: rest))) : W p l e R s m args below meth c H locs cells slots Q (F0 m pc ls (.int n :: rest)) := by
  refine va_newq hx hb hown hclink hover hK hP hD hS hA hn hN hbytes hcells hslots hdg (fun q cA H1 hK1 hP1 hD1 hS1 => ?_)
  have ec := N_clsO hK1 ht
  subst ec
  exact kk q H1 hP1.swp hD1.swp hS1
theorem N_astq {a : Nat} (hx : p.tables.exec = Jvm.exec) (hb : c.code = cc) (hK : va_K (eD E) vwCl (eT E) s) (hP : va_P (eD E) vwCl ws H) (hD : va_D A ws) (hS : va_S A H0 H locs) (q0 : Nat) {t0 ci : Nat} {cA : ClassId} {r : vw_C} {n v : Nat} {vs : List Value} {f : Nat → Option Nat} (ha : ws[q0]? = some (a, .inl (cA, n, .inr (.inr (.inr (.inr f)))))) (ht : (eT E)[t0]? = some (cA, .object r.1)) (hv : (v, .inr (ci, vs)) ∈ ws) (hc : vwCl[ci]? = some r) {i : Int32} (hin : vp_in i n) (hdg : decode cc pc = .ok (.aastore, 1))
    (kk : ∀ (H1 : Heap) (locs1 : List Loc), va_P (eD E) vwCl (ws.set q0 (a, .inl (cA, n, .inr (.inr (.inr (.inr (va_up f i.toNatClampNeg (some v)))))))) H1 → va_D A (ws.set q0 (a, .inl (cA, n, .inr (.inr (.inr (.inr (va_up f i.toNatClampNeg (some v)))))))) → va_S A H0 H1 locs1 → W p l e R s m args below meth c H1 locs1 cells slots Q (F0 m (pc + 1) ls rest)) : W p l e R s m args below meth c H locs cells slots Q (F0 m pc ls (.ref v :: .int i :: .ref a :: rest)) := by
  obtain ⟨k, hk⟩ := List.getElem?_of_mem hv
  exact va_astq hx hb hK hP hD hS q0 t0 k ci ha ht hk hc hin hdg kk
end NA
abbrev rW (E : EV) (a : Nat) (u : Nat × ((Nat → Nat) × MI × MJ)) : va_W := ((u.1, .inl (eI E, 600, .inl (fun _ => 0))) :: (a, .inr (5, [.ref (u.2.1 0), .int (-1), .ref u.1, .int 0, .int 0, .int 0, .int 0, .int 0, .int 0, .int 0, .int 0])) :: gW E u.2)
abbrev rmX5_init : Room := { frames := 5, cells := 17, slots := 1588, locals := 102 }
set_option maxRecDepth 100000 in
set_option maxHeartbeats 4000000 in
theorem c_X5_init {l : Launch} {E : EV} {a : Nat} : KC l yX5_init wsX5_init rmX5_init E a (.inr (5, [.null, .int 0, .null, .int 0, .int 0, .int 0, .int 0, .int 0, .int 0, .int 0, .int 0])) (S := (Nat × ((Nat → Nat) × MI × MJ))) (rW E a) (fun _ => True) 17 1588 := by
  refine KC_of (cc := cX5_init) (maxL := 1) (by decide +kernel) rfl rfl (Nat.le_of_ble_eq_true rfl) (fun p e s m args below meth c Qm hret hin S hK hX hO hP hD ls hl => ?_)
  have hA : ∀ q, s.heap.size ≤ q → CA a s.heap.size q := fun _ h => Or.inr h
  have hS : va_S (CA a s.heap.size) s.heap s.heap [] := va_S.rf
  have hts := S.2.2.2.2
  have hown := S.2.2.2.1
  refine lv_aload_n S.1 S.2.1 dX5_init_0 rfl (lv_at hl 0 rfl) ?_
  refine W.objInit S.1 S.2.1 hown (hts (.methodLink RX5 3 objectInit) (by decide +kernel)) (hts (.instanceMethod objectInit) (by decide +kernel)) (hts (.code objectInit ⟨#[0xb1]⟩ 1 none) (by decide +kernel)) rfl (hl.1.trans S.2.2.1.symm) rfl dX5_init_1 (Nat.le_of_ble_eq_true rfl) (Nat.le_of_ble_eq_true rfl) ?_
  refine W.eq (g2 := F0 m 4 ls []) rfl ?_
  refine lv_aload_n S.1 S.2.1 dX5_init_4 rfl (lv_at hl 0 rfl) ?_
  have iX1 : ∀ w ∈ wsX10, w ∈ wsX5_init := fun _ h => List.mem_cons_of_mem _ (List.mem_append_left _ (List.mem_append_left _ (List.mem_append_left _ (List.mem_append_right _ h))))
  refine N_new (ci := 1) (fs := [.null, .null, .null, .null, .null, .null, .null, .null, .null, .int 0, .int 0, .int 0, .null]) (C := RX1) (T := TX1) (N := 13) S.1 S.2.1 hts iX1 tyX1 tyX1_ok hown (by decide +kernel) (by decide +kernel) (by decide +kernel) hK hP hD hS hA rfl (fun j hj => by rcases (show j = 0 ∨ j = 1 ∨ j = 2 ∨ j = 3 ∨ j = 4 ∨ j = 5 ∨ j = 6 ∨ j = 7 ∨ j = 8 ∨ j = 9 ∨ j = 10 ∨ j = 11 ∨ j = 12 by omega) with rfl | rfl | rfl | rfl | rfl | rfl | rfl | rfl | rfl | rfl | rfl | rfl | rfl <;> rfl) (Nat.le_of_ble_eq_true rfl) (Nat.le_of_ble_eq_true rfl) dX5_init_5 (fun q5 H hP hD hS => ?_)
  have hP : va_P (eD E) vwCl [(q5, .inr (1, [.null, .null, .null, .null, .null, .null, .null, .null, .null, .int 0, .int 0, .int 0, .null])), (a, .inr (5, [.null, .int 0, .null, .int 0, .int 0, .int 0, .int 0, .int 0, .int 0, .int 0, .int 0]))] H := hP
  have hD : va_D (CA a s.heap.size) [(q5, .inr (1, [.null, .null, .null, .null, .null, .null, .null, .null, .null, .int 0, .int 0, .int 0, .null])), (a, .inr (5, [.null, .int 0, .null, .int 0, .int 0, .int 0, .int 0, .int 0, .int 0, .int 0, .int 0]))] := hD
  refine lv_dup S.1 S.2.1 dX5_init_8 rfl ?_
  refine N_init (rm := rmX1_init) S (c_X1_init (a := q5)) gX5_init_X1_init rfl ⟨rfl, rfl⟩ (by decide +kernel) (by decide +kernel) (by decide +kernel) rfl (by decide +kernel) ⟨(Nat.le_of_ble_eq_true rfl), (Nat.le_of_ble_eq_true rfl)⟩ hK hP hD hS hX hO hA hl.1 (Nat.le_of_ble_eq_true rfl) ⟨(Nat.le_of_ble_eq_true rfl), (Nat.le_of_ble_eq_true rfl)⟩ dX5_init_9 (fun u9 H locs h9 hPn hDn hS => ?_)
  obtain ⟨h9a, h9⟩ := h9
  subst h9a
  have hP := hPn
  have hD := hDn
  clear hPn hDn
  have hP : va_P (eD E) vwCl ((a, .inr (5, [.null, .int 0, .null, .int 0, .int 0, .int 0, .int 0, .int 0, .int 0, .int 0, .int 0])) :: gW E u9) H := hP
  have hD : va_D (CA a s.heap.size) ((a, .inr (5, [.null, .int 0, .null, .int 0, .int 0, .int 0, .int 0, .int 0, .int 0, .int 0, .int 0])) :: gW E u9) := hD
  have iX5 : ∀ w ∈ wsX50, w ∈ wsX5_init := fun _ h => List.mem_cons_of_mem _ (List.mem_append_left _ (List.mem_append_left _ (List.mem_append_right _ h)))
  refine va_putF (D := eD E) (ci := 5) (v := .ref (u9.1 0)) (ty := (.object "RhymeRoofs$Game")) (C := RX5) (T := TX5) (N := 11) S.1 S.2.1 hts iX5 tyX5 tyX5_ok nmX5 hown hK hP hD hS 0 rfl rfl 0 (by decide) (hts (.fieldLink RX5 12 "RhymeRoofs$SetupReader" "game" "LRhymeRoofs$Game;") (by decide +kernel)) (fun _ h9 => h9) rfl hin rfl (by decide +kernel) rfl rfl (Nat.le_of_ble_eq_true rfl) dX5_init_12 (fun H locs hP hD hS => ?_)
  have hP : va_P (eD E) vwCl ((a, .inr (5, [.ref (u9.1 0), .int 0, .null, .int 0, .int 0, .int 0, .int 0, .int 0, .int 0, .int 0, .int 0])) :: gW E u9) H := hP
  have hD : va_D (CA a s.heap.size) ((a, .inr (5, [.ref (u9.1 0), .int 0, .null, .int 0, .int 0, .int 0, .int 0, .int 0, .int 0, .int 0, .int 0])) :: gW E u9) := hD
  refine lv_aload_n S.1 S.2.1 dX5_init_15 rfl (lv_at hl 0 rfl) ?_
  refine lv_iconst (v := (-1)) S.1 S.2.1 dX5_init_16 rfl ?_
  refine va_put (D := eD E) (ci := 5) (v := .int (-1)) (ty := .int) (C := RX5) (T := TX5) (N := 11) S.1 S.2.1 hts iX5 tyX5 tyX5_ok nmX5 hown hK hP hD hS 0 rfl rfl 1 (by decide) (hts (.fieldLink RX5 18 "RhymeRoofs$SetupReader" "errorAt" "I") (by decide +kernel)) (fun _ h9 => h9) rfl (by decide +kernel) rfl rfl (Nat.le_of_ble_eq_true rfl) dX5_init_17 (fun H locs hP hD hS => ?_)
  have hP : va_P (eD E) vwCl ((a, .inr (5, [.ref (u9.1 0), .int (-1), .null, .int 0, .int 0, .int 0, .int 0, .int 0, .int 0, .int 0, .int 0])) :: gW E u9) H := hP
  have hD : va_D (CA a s.heap.size) ((a, .inr (5, [.ref (u9.1 0), .int (-1), .null, .int 0, .int 0, .int 0, .int 0, .int 0, .int 0, .int 0, .int 0])) :: gW E u9) := hD
  refine lv_aload_n S.1 S.2.1 dX5_init_20 rfl (lv_at hl 0 rfl) ?_
  refine lv_sipush (v := 600) S.1 S.2.1 dX5_init_21 rfl ?_
  refine N_int S.1 S.2.1 (hts (.arrayClass .int) (by decide +kernel)) hK hP hD hS hA 600 (by decide) (by decide) (Nat.le_of_ble_eq_true rfl) (Nat.le_of_ble_eq_true rfl) (Nat.le_of_ble_eq_true rfl) dX5_init_24 (fun q24 H hP hD hS => ?_)
  have hP : va_P (eD E) vwCl ((q24, .inl (eI E, 600, .inl (fun _ => 0))) :: (a, .inr (5, [.ref (u9.1 0), .int (-1), .null, .int 0, .int 0, .int 0, .int 0, .int 0, .int 0, .int 0, .int 0])) :: gW E u9) H := hP
  have hD : va_D (CA a s.heap.size) ((q24, .inl (eI E, 600, .inl (fun _ => 0))) :: (a, .inr (5, [.ref (u9.1 0), .int (-1), .null, .int 0, .int 0, .int 0, .int 0, .int 0, .int 0, .int 0, .int 0])) :: gW E u9) := hD
  refine va_putF (D := eD E) (ci := 5) (v := .ref q24) (ty := (.array .int)) (C := RX5) (T := TX5) (N := 11) S.1 S.2.1 hts iX5 tyX5 tyX5_ok nmX5 hown hK hP hD hS 1 rfl rfl 2 (by decide) (hts (.fieldLink RX5 22 "RhymeRoofs$SetupReader" "text" "[I") (by decide +kernel)) (fun _ h9 => h9) rfl hin rfl (by decide +kernel) rfl rfl (Nat.le_of_ble_eq_true rfl) dX5_init_26 (fun H locs hP hD hS => ?_)
  have hP : va_P (eD E) vwCl ((q24, .inl (eI E, 600, .inl (fun _ => 0))) :: (a, .inr (5, [.ref (u9.1 0), .int (-1), .ref q24, .int 0, .int 0, .int 0, .int 0, .int 0, .int 0, .int 0, .int 0])) :: gW E u9) H := hP
  have hD : va_D (CA a s.heap.size) ((q24, .inl (eI E, 600, .inl (fun _ => 0))) :: (a, .inr (5, [.ref (u9.1 0), .int (-1), .ref q24, .int 0, .int 0, .int 0, .int 0, .int 0, .int 0, .int 0, .int 0])) :: gW E u9) := hD
  exact hret (u := (q24, u9)) trivial hP hD hS dX5_init_29 (Nat.le_of_ble_eq_true rfl) (Nat.le_of_ble_eq_true rfl)
abbrev cW7 (E : EV) (a : Nat) (u : Nat × Nat × Nat × Nat) : va_W := [(u.1, .inl (eI E, 64, .inl (fun _ => 0))), (u.2.1, .inl (eI E, 8, .inl (fun _ => 0))), (u.2.2.1, .inl (eI E, 2048, .inl (fun _ => 0))), (u.2.2.2, .inl (eI E, 2048, .inl (fun _ => 0))), (a, .inr (0, [.int 0, .int 0, .int 0, .ref u.2.2.2, .ref u.2.2.1, .ref u.2.1, .ref u.1, .int 0, .int 0, .int 0, .int 0, .int 0]))]
abbrev rmX2_init : Room := { frames := 5, cells := 129, slots := 7912, locals := 102 }
set_option maxRecDepth 100000 in
set_option maxHeartbeats 4000000 in
theorem c_X2_init {l : Launch} {E : EV} {a : Nat} (hR : (eT E)[2]? = some (eG E, .object "RhymeRoofs$Game")) : KC l yX2_init wsX2_init rmX2_init E a (.inr (2, [.null, .int 0, .int 0])) (S := (Nat × (Nat → (Nat → Nat) × MI × MJ))) (fun u => hL E a u.1 u.2 8) (fun _ => True) 129 7912 := by
  refine KC_of (cc := cX2_init) (maxL := 2) (by decide +kernel) rfl rfl (Nat.le_of_ble_eq_true rfl) (fun p e s m args below meth c Qm hret hin S hK hX hO hP hD ls hl => ?_)
  have hA : ∀ q, s.heap.size ≤ q → CA a s.heap.size q := fun _ h => Or.inr h
  have hS : va_S (CA a s.heap.size) s.heap s.heap [] := va_S.rf
  have hts := S.2.2.2.2
  have hown := S.2.2.2.1
  have iX2 : ∀ w ∈ wsX20, w ∈ wsX2_init := fun _ h => List.mem_cons_of_mem _ (List.mem_append_left _ (List.mem_append_left _ (List.mem_append_left _ (List.mem_append_right _ h))))
  have iX1 : ∀ w ∈ wsX10, w ∈ wsX2_init := fun _ h => List.mem_cons_of_mem _ (List.mem_append_left _ (List.mem_append_left _ (List.mem_append_right _ h)))
  refine lv_aload_n S.1 S.2.1 dX2_init_0 rfl (lv_at hl 0 rfl) ?_
  refine W.objInit S.1 S.2.1 hown (hts (.methodLink RX2 3 objectInit) (by decide +kernel)) (hts (.instanceMethod objectInit) (by decide +kernel)) (hts (.code objectInit ⟨#[0xb1]⟩ 1 none) (by decide +kernel)) rfl (hl.1.trans S.2.2.1.symm) rfl dX2_init_1 (Nat.le_of_ble_eq_true rfl) (Nat.le_of_ble_eq_true rfl) ?_
  refine W.eq (g2 := F0 m 4 ls []) rfl ?_
  refine lv_aload_n S.1 S.2.1 dX2_init_4 rfl (lv_at hl 0 rfl) ?_
  refine lv_bipush (v := 8) S.1 S.2.1 dX2_init_5 rfl ?_
  refine N_objs S.1 S.2.1 hown (hts (.classLink RX2 9 RX1) (by decide +kernel)) hO.1 hK hP hD hS hA (List.mem_of_getElem? hR) 8 (by decide) (by decide) (Nat.le_of_ble_eq_true rfl) (Nat.le_of_ble_eq_true rfl) (Nat.le_of_ble_eq_true rfl) dX2_init_7 (fun q7 H hP hD hS => ?_)
  have hP : va_P (eD E) vwCl [(q7, .inl (eG E, 8, .inr (.inr (.inr (.inr (fun _ => none)))))), (a, .inr (2, [.null, .int 0, .int 0]))] H := hP
  have hD : va_D (CA a s.heap.size) [(q7, .inl (eG E, 8, .inr (.inr (.inr (.inr (fun _ => none)))))), (a, .inr (2, [.null, .int 0, .int 0]))] := hD
  refine va_putF (D := eD E) (ci := 2) (v := .ref q7) (ty := (.array (.object "RhymeRoofs$Game"))) (C := RX2) (T := TX2) (N := 3) S.1 S.2.1 hts iX2 tyX2 tyX2_ok nmX2 hown hK hP hD hS 1 rfl rfl 0 (by decide) (hts (.fieldLink RX2 11 "RhymeRoofs$History" "past" "[LRhymeRoofs$Game;") (by decide +kernel)) (fun _ h9 => h9) rfl hin rfl (by decide +kernel) rfl rfl (Nat.le_of_ble_eq_true rfl) dX2_init_10 (fun H locs hP hD hS => ?_)
  have hP : va_P (eD E) vwCl [(q7, .inl (eG E, 8, .inr (.inr (.inr (.inr (fun _ => none)))))), (a, .inr (2, [.ref q7, .int 0, .int 0]))] H := hP
  have hD : va_D (CA a s.heap.size) [(q7, .inl (eG E, 8, .inr (.inr (.inr (.inr (fun _ => none)))))), (a, .inr (2, [.ref q7, .int 0, .int 0]))] := hD
  refine lv_aload_n S.1 S.2.1 dX2_init_13 rfl (lv_at hl 0 rfl) ?_
  refine lv_iconst (v := 0) S.1 S.2.1 dX2_init_14 rfl ?_
  refine va_put (D := eD E) (ci := 2) (v := .int 0) (ty := .int) (C := RX2) (T := TX2) (N := 3) S.1 S.2.1 hts iX2 tyX2 tyX2_ok nmX2 hown hK hP hD hS 1 rfl rfl 1 (by decide) (hts (.fieldLink RX2 17 "RhymeRoofs$History" "next" "I") (by decide +kernel)) (fun _ h9 => h9) rfl (by decide +kernel) rfl rfl (Nat.le_of_ble_eq_true rfl) dX2_init_15 (fun H locs hP hD hS => ?_)
  have hP : va_P (eD E) vwCl [(q7, .inl (eG E, 8, .inr (.inr (.inr (.inr (fun _ => none)))))), (a, .inr (2, [.ref q7, .int 0, .int 0]))] H := hP
  have hD : va_D (CA a s.heap.size) [(q7, .inl (eG E, 8, .inr (.inr (.inr (.inr (fun _ => none)))))), (a, .inr (2, [.ref q7, .int 0, .int 0]))] := hD
  refine lv_aload_n S.1 S.2.1 dX2_init_18 rfl (lv_at hl 0 rfl) ?_
  refine lv_iconst (v := 0) S.1 S.2.1 dX2_init_19 rfl ?_
  refine va_put (D := eD E) (ci := 2) (v := .int 0) (ty := .int) (C := RX2) (T := TX2) (N := 3) S.1 S.2.1 hts iX2 tyX2 tyX2_ok nmX2 hown hK hP hD hS 1 rfl rfl 2 (by decide) (hts (.fieldLink RX2 21 "RhymeRoofs$History" "count" "I") (by decide +kernel)) (fun _ h9 => h9) rfl (by decide +kernel) rfl rfl (Nat.le_of_ble_eq_true rfl) dX2_init_20 (fun H locs hP hD hS => ?_)
  have hP : va_P (eD E) vwCl [(q7, .inl (eG E, 8, .inr (.inr (.inr (.inr (fun _ => none)))))), (a, .inr (2, [.ref q7, .int 0, .int 0]))] H := hP
  have hD : va_D (CA a s.heap.size) [(q7, .inl (eG E, 8, .inr (.inr (.inr (.inr (fun _ => none)))))), (a, .inr (2, [.ref q7, .int 0, .int 0]))] := hD
  refine lv_iconst (v := 0) S.1 S.2.1 dX2_init_23 rfl ?_
  refine lv_istore_n (lv' := [(1, .int 0), (0, .ref a)]) S.1 S.2.1 dX2_init_24 rfl hl (by decide) rfl (fun ls hl => ?_)
  have loop : ∀ (f i : Nat) (F : Nat → (Nat → Nat) × MI × MJ) (H : Heap) (locs : List Loc) (ls : Array Slot), i + f = 8 → va_P (eD E) vwCl (hL E a q7 F i) H → va_D (CA a s.heap.size) (hL E a q7 F i) → va_S (CA a s.heap.size) s.heap H locs → lv_has ls 2 [(1, .int (nI i)), (0, .ref a)] → W p l e rmX2_init s m args below meth c H locs (1 + 16 * i) (8 + 988 * i) Qm (F0 m 25 ls []) := by
    intro f
    induction f with
    | zero =>
      intro i F H locs ls hi hP hD hS hl
      obtain rfl : i = 8 := by omega
      refine lv_iload_n S.1 S.2.1 dX2_init_25 rfl (lv_at hl 0 rfl) ?_
      refine lv_bipush (v := 8) S.1 S.2.1 dX2_init_26 rfl ?_
      refine lv_icmp_ge (tgt := 50) S.1 S.2.1 dX2_init_28 (by decide) (fun _ => ?_) (fun h => absurd (show (8 : Int32) ≤ nI 8 from (nI_leI (a := 8) (b := 8) (by decide) (by decide)).mpr (Nat.le_refl 8)) h)
      exact hret (u := (q7, F)) trivial hP hD hS dX2_init_50 (Nat.le_of_ble_eq_true rfl) (Nat.le_of_ble_eq_true rfl)
    | succ f ih =>
      intro i F H locs ls hi hP hD hS hl
      have i8 : i < 8 := by omega
      refine lv_iload_n S.1 S.2.1 dX2_init_25 rfl (lv_at hl 0 rfl) ?_
      refine lv_bipush (v := 8) S.1 S.2.1 dX2_init_26 rfl ?_
      refine lv_icmp_ge (tgt := 50) S.1 S.2.1 dX2_init_28 (by decide) (fun h => absurd ((nI_leI (a := 8) (b := i) (by decide) (by omega)).mp h) (by omega)) (fun _ => ?_)
      refine lv_aload_n S.1 S.2.1 dX2_init_31 rfl (lv_at hl 1 rfl) ?_
      refine va_get (D := eD E) (T := TX2) (C := RX2) (N := 3) S.1 S.2.1 hts iX2 hown hK hP 1 rfl rfl 0 (by decide) (hts (.fieldLink RX2 11 "RhymeRoofs$History" "past" "[LRhymeRoofs$Game;") (by decide +kernel)) (fun _ h9 => h9) rfl dX2_init_32 ?_
      refine lv_iload_n S.1 S.2.1 dX2_init_35 rfl (lv_at hl 0 rfl) ?_
      refine N_new (ci := 1) (fs := [.null, .null, .null, .null, .null, .null, .null, .null, .null, .int 0, .int 0, .int 0, .null]) (C := RX1) (T := TX1) (N := 13) S.1 S.2.1 hts iX1 tyX1 tyX1_ok hown (by decide +kernel) (by decide +kernel) (by decide +kernel) hK hP hD hS hA rfl (fun j hj => by rcases (show j = 0 ∨ j = 1 ∨ j = 2 ∨ j = 3 ∨ j = 4 ∨ j = 5 ∨ j = 6 ∨ j = 7 ∨ j = 8 ∨ j = 9 ∨ j = 10 ∨ j = 11 ∨ j = 12 by omega) with rfl | rfl | rfl | rfl | rfl | rfl | rfl | rfl | rfl | rfl | rfl | rfl | rfl <;> rfl) (by show 1 + 16 * i + 1 ≤ 129; omega) (by show 8 + 988 * i + 13 ≤ 7912; omega) dX2_init_36 (fun q36 H hP hD hS => ?_)
      refine lv_dup S.1 S.2.1 dX2_init_39 rfl ?_
      refine N_init (rm := rmX1_init) S (c_X1_init (a := q36)) gX2_init_X1_init rfl ⟨rfl, rfl⟩ (by decide +kernel) (by decide +kernel) (by decide +kernel) rfl (by decide +kernel) ⟨Nat.le_of_ble_eq_true rfl, Nat.le_of_ble_eq_true rfl⟩ hK hP hD hS hX hO hA hl.1 (Nat.le_of_ble_eq_true rfl) ⟨by show 1 + 16 * i + 1 + 15 ≤ 129; omega, by show 8 + 988 * i + 13 + 975 ≤ 7912; omega⟩ dX2_init_40 (fun u H locs hu hPn hDn hS => ?_)
      obtain ⟨hua, -⟩ := hu
      subst hua
      have hP := hPn
      have hD := hDn
      clear hPn hDn
      refine N_astq S.1 S.2.1 hK hP hD hS 0 (t0 := 2) (ci := 1) rfl hR (List.mem_append_right _ (gW_head E u)) rfl (vin i 8 i8 (by decide) rfl) dX2_init_43 (fun H locs hP hD hS => ?_)
      obtain ⟨x, ex⟩ : ∃ x : Int32, x = nI i + (1 : Int32) := ⟨_, rfl⟩
      refine lv_iinc (v := x) (lv' := [(1, .int x), (0, .ref a)]) S.1 S.2.1 dX2_init_44 hl (k := 0) rfl (by rw [ex]; rfl) (by decide) rfl (fun ls hl => ?_)
      have ex2 : x = nI (i + 1) := by rw [ex, nlit 1, nI_add]
      subst ex2
      refine lv_goto (tgt := 25) S.1 S.2.1 dX2_init_47 (by decide) ?_
      refine W.widen (k := 1 + 16 * (i + 1)) (n := 8 + 988 * (i + 1)) (by omega) (by omega) (ih (i + 1) (fun j => if j = i then u else F j) H locs ls (by omega) ?_ ?_ hS hl)
      · rw [hL_step]; rw [cln (n := i) (by omega) rfl] at hP; exact hP
      · rw [hL_step]; rw [cln (n := i) (by omega) rfl] at hD; exact hD
  refine loop 8 0 (fun _ => (fun _ => 0, fun _ _ _ => 0, fun _ _ _ => 0)) _ _ _ rfl ?_ ?_ hS hl
  · rw [hL_zero]; exact hP
  · rw [hL_zero]; exact hD
