/-! THE LAW'S WORLD, put together -/
theorem law_words : ∀ w ∈ wsL_law, w ∈ lw_tbl := fun w h => (List.mem_append.mp h).elim (fun h => (List.mem_append.mp h).elim (fun h => (List.mem_append.mp h).elim (fun h => (List.mem_append.mp h).elim (wsL_law_in0 w) (wsL_law_x0 w)) (wsL_law_x1 w)) (wsL_law_x2 w)) (wsL_law_x3 w)
theorem cG_cong {E : EV} {A A' : Nat → Nat → Nat} {b : Nat} (h : A b = A' b) (x : Nat → Int32) (y : Nat → Int64) (r : Nat) : cGame (eN E A) b x y r = cGame (eN E A') b x y r := by
  have e : ∀ q, eA (eN E A) b q = eA (eN E A') b q := fun q => congrFun h q
  unfold cGame
  simp only [e]
  rfl
theorem cO_cong {E : EV} {A A' : Nat → Nat → Nat} (h : ∀ b, b ≤ 11 → A b = A' b) (x : Nat → Int32) (r : Nat) : cOwn (eN E A) x r = cOwn (eN E A') x r := by
  have e : ∀ b, b ≤ 11 → ∀ q, eA (eN E A) b q = eA (eN E A') b q := fun b hb q => congrFun (h b hb) q
  have e3 : (fun i => if i < 8 then some (eA (eN E A) (2 + i) 0) else none) = (fun i => if i < 8 then some (eA (eN E A') (2 + i) 0) else none : Nat → Option Nat) := by
    funext i
    by_cases hi : i < 8
    · rw [if_pos hi, if_pos hi, e (2 + i) (by omega)]
    · rw [if_neg hi, if_neg hi]
  unfold cOwn
  rw [e3]
  simp only [e 11 (by decide), e 0 (by decide), e 1 (by decide), e 10 (by decide)]
  rfl
theorem cM_cong {E : EV} {A A' : Nat → Nat → Nat} (h : A 12 = A' 12) (x : Nat → Int32) (y : Nat → Int64) (r : Nat) : cModel (eN E A) x y r = cModel (eN E A') x y r := by
  have e : ∀ q, eA (eN E A) 12 q = eA (eN E A') 12 q := fun q => congrFun h q
  unfold cModel
  simp only [e]
  rfl
theorem psC_le : ∀ z ∈ psC, z.1 ≤ 11 := by decide +kernel
theorem psM_12 : ∀ z ∈ psM, z.1 = 12 := by decide +kernel
theorem wsE_C {E : EV} {A A' : Nat → Nat → Nat} {I I' : MI} {J J' : MJ} (h : ∀ b, b ≤ 11 → A b = A' b) (hI : ∀ b, b ≤ 11 → I b = I' b) (hJ : ∀ b, b ≤ 11 → J b = J' b) : wsE (eN E A) psC I J = wsE (eN E A') psC I' J' := by
  unfold wsE
  refine List.map_congr_left (fun z hz => ?_)
  have b := psC_le z hz
  have e : eA (eN E A) z.1 z.2 = eA (eN E A') z.1 z.2 := congrFun (h z.1 b) z.2
  rw [e, hI z.1 b, hJ z.1 b]
  congr 1
  by_cases q : z.1 < 11
  · rw [cF_g _ q, cF_g _ q]
    exact cG_cong (h z.1 b) _ _ _
  · have q2 : z.1 = 11 := by omega
    rw [q2, cF_o, cF_o]
    exact cO_cong h _ _
theorem wsE_M {E : EV} {A A' : Nat → Nat → Nat} {I I' : MI} {J J' : MJ} (h : A 12 = A' 12) (hI : I 12 = I' 12) (hJ : J 12 = J' 12) : wsE (eN E A) psM I J = wsE (eN E A') psM I' J' := by
  unfold wsE
  refine List.map_congr_left (fun z hz => ?_)
  have b := psM_12 z hz
  have e : eA (eN E A) 12 z.2 = eA (eN E A') 12 z.2 := congrFun h z.2
  rw [b, e, hI, hJ, cF_m, cF_m]
  congr 1
  exact cM_cong h _ _ _
def lwA (u : (Nat → Nat → Nat) × MI × MJ) (v : (Nat → Nat) × MI × MJ) (q : Nat) : Nat → Nat → Nat := fun b => if b = 12 then v.1 else if b = 13 then (fun _ => q) else u.1 b
def lwI (u : (Nat → Nat → Nat) × MI × MJ) (v : (Nat → Nat) × MI × MJ) : MI := fun b => if b = 12 then v.2.1 12 else u.2.1 b
def lwJ (u : (Nat → Nat → Nat) × MI × MJ) (v : (Nat → Nat) × MI × MJ) : MJ := fun b => if b = 12 then v.2.2 12 else if b = 13 then (fun _ _ => 0) else u.2.2 b
theorem lw_world {E : EV} {u : (Nat → Nat → Nat) × MI × MJ} {v : (Nat → Nat) × MI × MJ} {q : Nat} : ((q, .inl (eJ E, 1, .inr (.inl (fun _ => 0)))) :: (wsE (eN E u.1) psC u.2.1 u.2.2 ++ wsE (eN E (fun _ => v.1)) psM v.2.1 v.2.2) : va_W) = wsE (eN E (lwA u v q)) psL (lwI u v) (lwJ u v) := by
  have e1 : wsE (eN E u.1) psC u.2.1 u.2.2 = wsE (eN E (lwA u v q)) psC (lwI u v) (lwJ u v) := wsE_C (fun b hb => by unfold lwA; rw [if_neg (by omega), if_neg (by omega)]) (fun b hb => by unfold lwI; rw [if_neg (by omega)]) (fun b hb => by unfold lwJ; rw [if_neg (by omega), if_neg (by omega)])
  have e2 : wsE (eN E (fun _ => v.1)) psM v.2.1 v.2.2 = wsE (eN E (lwA u v q)) psM (lwI u v) (lwJ u v) := wsE_M rfl rfl rfl
  rw [e1, e2]
  unfold psL
  show _ = (_ :: wsE (eN E (lwA u v q)) (psC ++ psM) (lwI u v) (lwJ u v) : va_W)
  rw [wsE_app]
  rfl
-- the start
set_option maxRecDepth 100000 in
set_option maxHeartbeats 4000000 in
/-- YOUR PART: from the entry, for every script of at most 3072 ints, the law comes to its end with true ('hflags': the launch's flags, for a law that throws: no stack traces) -/
theorem whole_start {p : Program} {e : Env} {s : State} {m : MethodId} {below : List Frame} {meth : Method} {c : Code} (l : Launch) (hflags : l.flags = flags0) {b L : Nat} {xs : Nat → Int32} (hL : L ≤ 3072) (C0 : lw_At p s m meth c b L xs) : W p l e room_1 s m #[Value.ref b] below meth c s.heap [] 0 0 (lw_Z below #[Value.ref b] s) (entryFrame m ([Value.ref b] : List Value).toArray 9) := by
  obtain ⟨hx, hb, hr, hml, hown, hts, hscr, hbl, hlk, hgv⟩ := id C0
  have hl9 : l.stackTraces = false := by
    unfold Launch.stackTraces
    rw [hflags]
    decide +kernel
  have hn : ∀ w ∈ nfl, w.before #[Value.ref b] s = true := flat_of_before _ hgv
  have hA : ∀ q : Nat, s.heap.size ≤ q → fA s q := fun _ h => h
  have hbA : ¬ fA s b := Nat.not_le.mpr hbl
  obtain ⟨E0, hK, hX, hR, hR3⟩ := ent_at (A := fA s) hts hn (fun a h => Nat.not_le.mpr h)
  have hT : XT s := xt_at hts hn
  have hO : AOX s := ao_at hts
  have S : cOk p m c cL_law 9 s #[Value.ref b] wsL_law RL := ⟨hx, hb, hml, hown, fun w hw => hts w (law_words w hw)⟩
  have hP : va_P (eD E0) vwCl [] s.heap := fun k q h => by simp at h
  have hD : va_D (fA s) [] := ⟨fun i j p q h => by simp at h, fun k q h => by simp at h⟩
  have hS : va_S (fA s) s.heap s.heap [] := va_S.rf
  have hl := lv_entry ([.ref b]) (n := 9) (Nat.le_of_ble_eq_true rfl)
  rw [lg_entry_eq]
  generalize (lg_sl ([.ref b]) ++ List.replicate (9 - (lg_sl ([.ref b])).length) Slot.unset).toArray = ls at hl ⊢
  have hl : lv_has ls 9 [(0, .ref b)] := hl
  refine N_new (ci := 6) (fs := [.null, .int 0, .int 0, .null, .null, .null, .null, .null]) (C := RX7) (T := TX7) (N := 8) S.1 S.2.1 S.2.2.2.2 inlX7 tyX7 tyX7_ok S.2.2.2.1 (lawR_in 0 _ (by decide +kernel)) (lawR_in 0 _ (by decide +kernel)) (lawR_in 0 _ (by decide +kernel)) hK hP hD hS hA rfl (fun j hj => by rcases (show j = 0 ∨ j = 1 ∨ j = 2 ∨ j = 3 ∨ j = 4 ∨ j = 5 ∨ j = 6 ∨ j = 7 by omega) with rfl | rfl | rfl | rfl | rfl | rfl | rfl | rfl <;> rfl) (Nat.le_of_ble_eq_true rfl) (Nat.le_of_ble_eq_true rfl) dL_law_0 (fun q0 H hP hD hS => ?_)
  refine lv_dup S.1 S.2.1 dL_law_3 rfl ?_
  refine N_init (rm := rmX7_init) S (c_X7_init (a := q0) hR) gL_law_X7_init rfl ⟨rfl, rfl⟩ (lawR_in 0 _ (by decide +kernel)) (lawR_in 0 _ (by decide +kernel)) (lawR_in 0 _ (by decide +kernel)) rfl (by decide +kernel) ⟨(Nat.le_of_ble_eq_true rfl), (Nat.le_of_ble_eq_true rfl)⟩ hK hP hD hS hX hO hA hl.1 (Nat.le_of_ble_eq_true rfl) ⟨(Nat.le_of_ble_eq_true rfl), (Nat.le_of_ble_eq_true rfl)⟩ dL_law_4 (fun u H locs hu hP hD hS => ?_)
  have hP : va_P (eD E0) vwCl (wsE (eN E0 u.1) psC u.2.1 u.2.2) H := hP
  have hD : va_D (fA s) (wsE (eN E0 u.1) psC u.2.1 u.2.2) := hD
  refine lv_astore_n (lv' := [(1, .ref q0), (0, .ref b)]) S.1 S.2.1 dL_law_7 rfl hl (by decide) rfl (fun ls hl => ?_)
  refine N_new (ci := 7) (fs := [.int 0, .null, .int 0, .int 0, .int 0, .int 0, .int 0, .int 0, .null, .null, .null, .null, .int 0, .int 0, .int 0, .int 0, .int 0, .int 0, .null, .null, .null]) (C := RX8) (T := TX8) (N := 21) S.1 S.2.1 S.2.2.2.2 inlX8 tyX8 tyX8_ok S.2.2.2.1 (lawR_in 0 _ (by decide +kernel)) (lawR_in 0 _ (by decide +kernel)) (lawR_in 0 _ (by decide +kernel)) hK hP hD hS hA rfl (fun j hj => by rcases (show j = 0 ∨ j = 1 ∨ j = 2 ∨ j = 3 ∨ j = 4 ∨ j = 5 ∨ j = 6 ∨ j = 7 ∨ j = 8 ∨ j = 9 ∨ j = 10 ∨ j = 11 ∨ j = 12 ∨ j = 13 ∨ j = 14 ∨ j = 15 ∨ j = 16 ∨ j = 17 ∨ j = 18 ∨ j = 19 ∨ j = 20 by omega) with rfl | rfl | rfl | rfl | rfl | rfl | rfl | rfl | rfl | rfl | rfl | rfl | rfl | rfl | rfl | rfl | rfl | rfl | rfl | rfl | rfl <;> rfl) (Nat.le_of_ble_eq_true rfl) (Nat.le_of_ble_eq_true rfl) dL_law_8 (fun q8 H hP hD hS => ?_)
  refine lv_dup S.1 S.2.1 dL_law_11 rfl ?_
  refine N_init (rm := rmX8_init) S (c_X8_init (a := q8) hR3) gL_law_X8_init rfl ⟨rfl, rfl⟩ (lawR_in 0 _ (by decide +kernel)) (lawR_in 5 _ (by decide +kernel)) (lawR_in 5 _ (by decide +kernel)) rfl (by decide +kernel) ⟨(Nat.le_of_ble_eq_true rfl), (Nat.le_of_ble_eq_true rfl)⟩ hK hP hD hS hX hO hA hl.1 (Nat.le_of_ble_eq_true rfl) ⟨(Nat.le_of_ble_eq_true rfl), (Nat.le_of_ble_eq_true rfl)⟩ dL_law_12 (fun v H locs hv hP hD hS => ?_)
  refine lv_astore_n (lv' := [(2, .ref q8), (1, .ref q0), (0, .ref b)]) S.1 S.2.1 dL_law_15 rfl hl (by decide) rfl (fun ls hl => ?_)
  refine lv_iconst (v := 1) S.1 S.2.1 dL_law_16 rfl ?_
  refine N_long S.1 S.2.1 (hts _ ar_j) hK hP hD hS hA 1 (by decide) (by decide) (Nat.le_of_ble_eq_true rfl) (Nat.le_of_ble_eq_true rfl) (Nat.le_of_ble_eq_true rfl) dL_law_17 (fun q17 H hP hD hS => ?_)
  refine lv_astore_n (lv' := [(3, .ref q17), (2, .ref q8), (1, .ref q0), (0, .ref b)]) S.1 S.2.1 dL_law_19 rfl hl (by decide) rfl (fun ls hl => ?_)
  refine lv_iconst (v := 0) S.1 S.2.1 dL_law_20 rfl ?_
  refine lv_istore (lv' := [(4, .int 0), (3, .ref q17), (2, .ref q8), (1, .ref q0), (0, .ref b)]) S.1 S.2.1 dL_law_21 hl (by decide) rfl (fun ls hl => ?_)
  have ew := lw_world (E := E0) (u := u) (v := v) (q := q17)
  have hP : va_P (eD E0) vwCl ((q17, .inl (eJ E0, 1, .inr (.inl (fun _ => 0)))) :: (wsE (eN E0 u.1) psC u.2.1 u.2.2 ++ wsE (eN E0 (fun _ => v.1)) psM v.2.1 v.2.2)) H := hP
  have hD : va_D (fA s) ((q17, .inl (eJ E0, 1, .inr (.inl (fun _ => 0)))) :: (wsE (eN E0 u.1) psC u.2.1 u.2.2 ++ wsE (eN E0 (fun _ => v.1)) psM v.2.1 v.2.2)) := hD
  rw [ew] at hP hD
  obtain ⟨hu0, hu1, hu2, hu3, hu4, hu5⟩ := hu
  obtain ⟨hv0, hv1, hv2, hv3, hv4⟩ := hv
  have V : INV (lwI u v) (lwJ u v) := INV_begin (mI0 12 2) hu1 hv1 hv2 hu5 hu4 hu2 hv3 (hu3.trans hv4.symm)
  have CT : LCx p l s m meth c b L xs (eN E0 (lwA u v q17)) := ⟨S, hK, hX, hT, ⟨hR, hR3⟩, hscr, hbl, hr, hlk, hl9⟩
  refine W.widen (k := 205 + 4 * 0) (n := 40826 + 24 * 0) (Nat.le_of_ble_eq_true rfl) (Nat.le_of_ble_eq_true rfl) (law_loop CT hL 512 0 (by omega) (by decide) (lwI u v) (lwJ u v) H _ ls V hP hD hS ?_)
  have e12 : eA (eN E0 (lwA u v q17)) 12 0 = q8 := hv0
  have e11 : eA (eN E0 (lwA u v q17)) 11 0 = q0 := hu0
  rw [e12, e11]
  exact hl
