/-! THE CLASS' OWN WORLD -/
def oO7 (a q8 q46 q57 q68 : Nat) (g0 g1 : ((Nat → Nat) × MI × MJ)) (h : Nat × (Nat → ((Nat → Nat) × MI × MJ))) (r : Nat × ((Nat → Nat) × MI × MJ)) (c : Nat × Nat × Nat × Nat) : Nat → Nat
  | 0 => a
  | 1 => q8
  | 2 => q46
  | 3 => h.1
  | 4 => q57
  | 5 => r.1
  | 6 => q68
  | 7 => c.2.2.2
  | 8 => c.2.2.1
  | 9 => c.2.1
  | _ => c.1
def oA7 (a q8 q46 q57 q68 : Nat) (g0 g1 : ((Nat → Nat) × MI × MJ)) (h : Nat × (Nat → ((Nat → Nat) × MI × MJ))) (r : Nat × ((Nat → Nat) × MI × MJ)) (c : Nat × Nat × Nat × Nat) : Nat → Nat → Nat := fun b => if b = 0 then g0.1 else if b = 1 then g1.1 else if b = 10 then r.2.1 else if b = 11 then oO7 a q8 q46 q57 q68 g0 g1 h r c else (h.2 (b - 2)).1
def oI7 (a q8 q46 q57 q68 : Nat) (g0 g1 : ((Nat → Nat) × MI × MJ)) (h : Nat × (Nat → ((Nat → Nat) × MI × MJ))) (r : Nat × ((Nat → Nat) × MI × MJ)) (c : Nat × Nat × Nat × Nat) : MI := fun b => if b = 0 then g0.2.1 0 else if b = 1 then g1.2.1 0 else if b = 10 then r.2.2.1 0 else if b = 11 then (fun i => if i = 0 then (fun j => if j = 2 then -1 else 0) else if i = 4 then (fun j => if j = 1 then -1 else 0) else fun _ => 0) else (h.2 (b - 2)).2.1 0
def oJ7 (a q8 q46 q57 q68 : Nat) (g0 g1 : ((Nat → Nat) × MI × MJ)) (h : Nat × (Nat → ((Nat → Nat) × MI × MJ))) (r : Nat × ((Nat → Nat) × MI × MJ)) (c : Nat × Nat × Nat × Nat) : MJ := fun b => if b = 0 then g0.2.2 0 else if b = 1 then g1.2.2 0 else if b = 10 then r.2.2.2 0 else if b = 11 then (fun _ _ => 0) else (h.2 (b - 2)).2.2 0
def gpsN : Nat → List (Nat × Nat)
  | 0 => []
  | n + 1 => gpsN n ++ gps (2 + n)
def psC : List (Nat × Nat) := [(11, 1), (11, 0)] ++ ((((gps 0 ++ gps 1) ++ ([(11, 3), (11, 2)] ++ gpsN 8)) ++ ([(11, 5), (11, 4)] ++ gps 10)) ++ [(11, 10), (11, 9), (11, 8), (11, 7), (11, 6)])
theorem gpsN_in {k r : Nat} (hr : r < 16) : ∀ n, k < n → (2 + k, r) ∈ gpsN n
  | 0, h => absurd h (Nat.not_lt_zero k)
  | n + 1, h => by
    show _ ∈ gpsN n ++ gps (2 + n)
    by_cases e : k = n
    · subst e; exact List.mem_append_right _ (gps_in hr)
    · exact List.mem_append_left _ (gpsN_in hr n (by omega))
theorem psC_own {r : Nat} (h : r < 11) : (11, r) ∈ psC := by
  rcases (show r = 0 ∨ r = 1 ∨ r = 2 ∨ r = 3 ∨ r = 4 ∨ r = 5 ∨ r = 6 ∨ r = 7 ∨ r = 8 ∨ r = 9 ∨ r = 10 by omega) with rfl | rfl | rfl | rfl | rfl | rfl | rfl | rfl | rfl | rfl | rfl <;> simp [psC]
theorem psC_game {k r : Nat} (hk : k < 11) (hr : r < 16) : (k, r) ∈ psC := by
  unfold psC
  by_cases h0 : k = 0
  · subst h0; exact List.mem_append_right _ (List.mem_append_left _ (List.mem_append_left _ (List.mem_append_left _ (List.mem_append_left _ (gps_in hr)))))
  · by_cases h1 : k = 1
    · subst h1; exact List.mem_append_right _ (List.mem_append_left _ (List.mem_append_left _ (List.mem_append_left _ (List.mem_append_right _ (gps_in hr)))))
    · by_cases h10 : k = 10
      · subst h10; exact List.mem_append_right _ (List.mem_append_left _ (List.mem_append_right _ (List.mem_append_right _ (gps_in hr))))
      · have e : k = 2 + (k - 2) := by omega
        rw [e]
        exact List.mem_append_right _ (List.mem_append_left _ (List.mem_append_left _ (List.mem_append_right _ (List.mem_append_right _ (gpsN_in hr 8 (by omega))))))
section OW
variable {E : EV} {a q8 q46 q57 q68 : Nat} {g0 g1 : ((Nat → Nat) × MI × MJ)} {h : Nat × (Nat → ((Nat → Nat) × MI × MJ))} {r : Nat × ((Nat → Nat) × MI × MJ)} {c : Nat × Nat × Nat × Nat}
theorem oA_h {i : Nat} (hi : i < 8) : oA7 a q8 q46 q57 q68 g0 g1 h r c (2 + i) = (h.2 i).1 := by
  unfold oA7
  rw [if_neg (by omega), if_neg (by omega), if_neg (by omega), if_neg (by omega), Nat.add_sub_cancel_left]
theorem oI_h {i : Nat} (hi : i < 8) : oI7 a q8 q46 q57 q68 g0 g1 h r c (2 + i) = (h.2 i).2.1 0 := by
  unfold oI7
  rw [if_neg (by omega), if_neg (by omega), if_neg (by omega), if_neg (by omega), Nat.add_sub_cancel_left]
theorem oJ_h {i : Nat} (hi : i < 8) : oJ7 a q8 q46 q57 q68 g0 g1 h r c (2 + i) = (h.2 i).2.2 0 := by
  unfold oJ7
  rw [if_neg (by omega), if_neg (by omega), if_neg (by omega), if_neg (by omega), Nat.add_sub_cancel_left]
theorem gms_at : ∀ n, n ≤ 8 → gms E h.2 n = wsE (eN E (oA7 a q8 q46 q57 q68 g0 g1 h r c)) (gpsN n) (oI7 a q8 q46 q57 q68 g0 g1 h r c) (oJ7 a q8 q46 q57 q68 g0 g1 h r c)
  | 0, _ => rfl
  | n + 1, hn => by
    show gms E h.2 n ++ gW E (h.2 n) = wsE _ (gpsN n ++ gps (2 + n)) _ _
    rw [wsE_app, ← gms_at n (by omega), gW_at (A := oA7 a q8 q46 q57 q68 g0 g1 h r c) (b := 2 + n) (I := oI7 a q8 q46 q57 q68 g0 g1 h r c) (J := oJ7 a q8 q46 q57 q68 g0 g1 h r c) (by omega) (oA_h (by omega)) (oI_h (by omega)) (oJ_h (by omega))]
theorem hL_at : hL E q46 h.1 h.2 8 = wsE (eN E (oA7 a q8 q46 q57 q68 g0 g1 h r c)) ([(11, 3), (11, 2)] ++ gpsN 8) (oI7 a q8 q46 q57 q68 g0 g1 h r c) (oJ7 a q8 q46 q57 q68 g0 g1 h r c) := by
  have e : pastR h.2 8 = (fun i => if i < 8 then some (oA7 a q8 q46 q57 q68 g0 g1 h r c (2 + i) 0) else none) := by
    funext i
    unfold pastR
    by_cases hi : i < 8
    · rw [if_pos hi, if_pos hi, oA_h hi]
    · rw [if_neg hi, if_neg hi]
  rw [wsE_app, ← gms_at 8 (Nat.le_refl 8)]
  show (h.1, _) :: (q46, _) :: gms E h.2 8 = _
  rw [e]
  rfl
theorem rW_at : rW E q57 r = wsE (eN E (oA7 a q8 q46 q57 q68 g0 g1 h r c)) ([(11, 5), (11, 4)] ++ gps 10) (oI7 a q8 q46 q57 q68 g0 g1 h r c) (oJ7 a q8 q46 q57 q68 g0 g1 h r c) := by
  rw [wsE_app, ← gW_at (b := 10) (u := r.2) (by decide) rfl rfl rfl]
  rfl
theorem cW7_at : cW7 E q68 c = wsE (eN E (oA7 a q8 q46 q57 q68 g0 g1 h r c)) [(11, 10), (11, 9), (11, 8), (11, 7), (11, 6)] (oI7 a q8 q46 q57 q68 g0 g1 h r c) (oJ7 a q8 q46 q57 q68 g0 g1 h r c) := rfl
theorem own_at : ((q8, .inl (eI E, 600, .inl (fun _ => 0))) :: (a, .inr (6, [.ref q8, .int 0, .int (-1), .ref (g0.1 0), .ref (g1.1 0), .ref q46, .ref q57, .ref q68])) :: ((((gW E g0 ++ gW E g1) ++ hL E q46 h.1 h.2 8) ++ rW E q57 r) ++ cW7 E q68 c) : va_W) = wsE (eN E (oA7 a q8 q46 q57 q68 g0 g1 h r c)) psC (oI7 a q8 q46 q57 q68 g0 g1 h r c) (oJ7 a q8 q46 q57 q68 g0 g1 h r c) := by
  unfold psC
  rw [wsE_app, wsE_app, wsE_app, wsE_app, wsE_app (p1 := gps 0), ← hL_at, ← rW_at, ← cW7_at]
  have e0 : gW E g0 = wsE (eN E (oA7 a q8 q46 q57 q68 g0 g1 h r c)) (gps 0) (oI7 a q8 q46 q57 q68 g0 g1 h r c) (oJ7 a q8 q46 q57 q68 g0 g1 h r c) := gW_at (by decide) rfl rfl rfl
  have e1 : gW E g1 = wsE (eN E (oA7 a q8 q46 q57 q68 g0 g1 h r c)) (gps 1) (oI7 a q8 q46 q57 q68 g0 g1 h r c) (oJ7 a q8 q46 q57 q68 g0 g1 h r c) := gW_at (by decide) rfl rfl rfl
  rw [← e0, ← e1]
  rfl
end OW
abbrev rmX7_init : Room := { frames := 6, cells := 186, slots := 16270, locals := 123 }
set_option maxRecDepth 100000 in
set_option maxHeartbeats 4000000 in
theorem c_X7_init {l : Launch} {E : EV} {a : Nat} (hR : (eT E)[2]? = some (eG E, .object "RhymeRoofs$Game")) : KC l yX7_init wsX7_init rmX7_init E a (.inr (6, [.null, .int 0, .int 0, .null, .null, .null, .null, .null])) (S := ((Nat → Nat → Nat) × MI × MJ)) (fun u => wsE (eN E u.1) psC u.2.1 u.2.2) (fun u => u.1 11 0 = a ∧ RS 0 u.2.1 u.2.2 ∧ u.2.1 11 0 1 = 0 ∧ u.2.1 11 0 2 = -1 ∧ u.2.1 11 2 1 = 0 ∧ u.2.1 11 2 2 = 0) 186 16270 := by
  refine KC_of (cc := cX7_init) (maxL := 1) (by decide +kernel) rfl rfl (Nat.le_of_ble_eq_true rfl) (fun p e s m args below meth c Qm hret hin S hK hX hO hP hD ls hl => ?_)
  have hA : ∀ q, s.heap.size ≤ q → CA a s.heap.size q := fun _ h => Or.inr h
  have hS : va_S (CA a s.heap.size) s.heap s.heap [] := va_S.rf
  have hts := S.2.2.2.2
  have hown := S.2.2.2.1
  refine lv_aload_n S.1 S.2.1 dX7_init_0 rfl (lv_at hl 0 rfl) ?_
  refine W.objInit S.1 S.2.1 hown (hts (.methodLink RX7 1 objectInit) (by decide +kernel)) (hts (.instanceMethod objectInit) (by decide +kernel)) (hts (.code objectInit ⟨#[0xb1]⟩ 1 none) (by decide +kernel)) rfl (hl.1.trans S.2.2.1.symm) rfl dX7_init_1 (Nat.le_of_ble_eq_true rfl) (Nat.le_of_ble_eq_true rfl) ?_
  refine W.eq (g2 := F0 m 4 ls []) rfl ?_
  refine lv_aload_n S.1 S.2.1 dX7_init_4 rfl (lv_at hl 0 rfl) ?_
  refine lv_sipush (v := 600) S.1 S.2.1 dX7_init_5 rfl ?_
  refine N_int S.1 S.2.1 (hts (.arrayClass .int) (by decide +kernel)) hK hP hD hS hA 600 (by decide) (by decide) (Nat.le_of_ble_eq_true rfl) (Nat.le_of_ble_eq_true rfl) (Nat.le_of_ble_eq_true rfl) dX7_init_8 (fun q8 H hP hD hS => ?_)
  have hP : va_P (eD E) vwCl [(q8, .inl (eI E, 600, .inl (fun _ => 0))), (a, .inr (6, [.null, .int 0, .int 0, .null, .null, .null, .null, .null]))] H := hP
  have hD : va_D (CA a s.heap.size) [(q8, .inl (eI E, 600, .inl (fun _ => 0))), (a, .inr (6, [.null, .int 0, .int 0, .null, .null, .null, .null, .null]))] := hD
  have iX7 : ∀ w ∈ wsX70, w ∈ wsX7_init := fun _ h => List.mem_cons_of_mem _ (List.mem_append_left _ (List.mem_append_left _ (List.mem_append_left _ (List.mem_append_left _ (List.mem_append_left _ (List.mem_append_left _ (List.mem_append_right _ h)))))))
  refine va_putF (D := eD E) (ci := 6) (v := .ref q8) (ty := (.array .int)) (C := RX7) (T := TX7) (N := 8) S.1 S.2.1 hts iX7 tyX7 tyX7_ok nmX7 hown hK hP hD hS 1 rfl rfl 0 (by decide) (hts (.fieldLink RX7 9 "RhymeRoofs" "buffer" "[I") (by decide +kernel)) (fun _ h9 => h9) rfl hin rfl (by decide +kernel) rfl rfl (Nat.le_of_ble_eq_true rfl) dX7_init_10 (fun H locs hP hD hS => ?_)
  have hP : va_P (eD E) vwCl [(q8, .inl (eI E, 600, .inl (fun _ => 0))), (a, .inr (6, [.ref q8, .int 0, .int 0, .null, .null, .null, .null, .null]))] H := hP
  have hD : va_D (CA a s.heap.size) [(q8, .inl (eI E, 600, .inl (fun _ => 0))), (a, .inr (6, [.ref q8, .int 0, .int 0, .null, .null, .null, .null, .null]))] := hD
  refine lv_aload_n S.1 S.2.1 dX7_init_13 rfl (lv_at hl 0 rfl) ?_
  refine lv_iconst (v := 0) S.1 S.2.1 dX7_init_14 rfl ?_
  refine va_put (D := eD E) (ci := 6) (v := .int 0) (ty := .int) (C := RX7) (T := TX7) (N := 8) S.1 S.2.1 hts iX7 tyX7 tyX7_ok nmX7 hown hK hP hD hS 1 rfl rfl 1 (by decide) (hts (.fieldLink RX7 13 "RhymeRoofs" "bufferLength" "I") (by decide +kernel)) (fun _ h9 => h9) rfl (by decide +kernel) rfl rfl (Nat.le_of_ble_eq_true rfl) dX7_init_15 (fun H locs hP hD hS => ?_)
  have hP : va_P (eD E) vwCl [(q8, .inl (eI E, 600, .inl (fun _ => 0))), (a, .inr (6, [.ref q8, .int 0, .int 0, .null, .null, .null, .null, .null]))] H := hP
  have hD : va_D (CA a s.heap.size) [(q8, .inl (eI E, 600, .inl (fun _ => 0))), (a, .inr (6, [.ref q8, .int 0, .int 0, .null, .null, .null, .null, .null]))] := hD
  refine lv_aload_n S.1 S.2.1 dX7_init_18 rfl (lv_at hl 0 rfl) ?_
  refine lv_iconst (v := (-1)) S.1 S.2.1 dX7_init_19 rfl ?_
  refine va_put (D := eD E) (ci := 6) (v := .int (-1)) (ty := .int) (C := RX7) (T := TX7) (N := 8) S.1 S.2.1 hts iX7 tyX7 tyX7_ok nmX7 hown hK hP hD hS 1 rfl rfl 2 (by decide) (hts (.fieldLink RX7 17 "RhymeRoofs" "offsetOfError" "I") (by decide +kernel)) (fun _ h9 => h9) rfl (by decide +kernel) rfl rfl (Nat.le_of_ble_eq_true rfl) dX7_init_20 (fun H locs hP hD hS => ?_)
  have hP : va_P (eD E) vwCl [(q8, .inl (eI E, 600, .inl (fun _ => 0))), (a, .inr (6, [.ref q8, .int 0, .int (-1), .null, .null, .null, .null, .null]))] H := hP
  have hD : va_D (CA a s.heap.size) [(q8, .inl (eI E, 600, .inl (fun _ => 0))), (a, .inr (6, [.ref q8, .int 0, .int (-1), .null, .null, .null, .null, .null]))] := hD
  refine lv_aload_n S.1 S.2.1 dX7_init_23 rfl (lv_at hl 0 rfl) ?_
  have iX1 : ∀ w ∈ wsX10, w ∈ wsX7_init := fun _ h => List.mem_cons_of_mem _ (List.mem_append_left _ (List.mem_append_left _ (List.mem_append_left _ (List.mem_append_left _ (List.mem_append_left _ (List.mem_append_right _ h))))))
  refine N_new (ci := 1) (fs := [.null, .null, .null, .null, .null, .null, .null, .null, .null, .int 0, .int 0, .int 0, .null]) (C := RX1) (T := TX1) (N := 13) S.1 S.2.1 hts iX1 tyX1 tyX1_ok hown (by decide +kernel) (by decide +kernel) (by decide +kernel) hK hP hD hS hA rfl (fun j hj => by rcases (show j = 0 ∨ j = 1 ∨ j = 2 ∨ j = 3 ∨ j = 4 ∨ j = 5 ∨ j = 6 ∨ j = 7 ∨ j = 8 ∨ j = 9 ∨ j = 10 ∨ j = 11 ∨ j = 12 by omega) with rfl | rfl | rfl | rfl | rfl | rfl | rfl | rfl | rfl | rfl | rfl | rfl | rfl <;> rfl) (Nat.le_of_ble_eq_true rfl) (Nat.le_of_ble_eq_true rfl) dX7_init_24 (fun q24 H hP hD hS => ?_)
  have hP : va_P (eD E) vwCl [(q24, .inr (1, [.null, .null, .null, .null, .null, .null, .null, .null, .null, .int 0, .int 0, .int 0, .null])), (q8, .inl (eI E, 600, .inl (fun _ => 0))), (a, .inr (6, [.ref q8, .int 0, .int (-1), .null, .null, .null, .null, .null]))] H := hP
  have hD : va_D (CA a s.heap.size) [(q24, .inr (1, [.null, .null, .null, .null, .null, .null, .null, .null, .null, .int 0, .int 0, .int 0, .null])), (q8, .inl (eI E, 600, .inl (fun _ => 0))), (a, .inr (6, [.ref q8, .int 0, .int (-1), .null, .null, .null, .null, .null]))] := hD
  refine lv_dup S.1 S.2.1 dX7_init_27 rfl ?_
  refine N_init (rm := rmX1_init) S (c_X1_init (a := q24)) gX7_init_X1_init rfl ⟨rfl, rfl⟩ (by decide +kernel) (by decide +kernel) (by decide +kernel) rfl (by decide +kernel) ⟨(Nat.le_of_ble_eq_true rfl), (Nat.le_of_ble_eq_true rfl)⟩ hK hP hD hS hX hO hA hl.1 (Nat.le_of_ble_eq_true rfl) ⟨(Nat.le_of_ble_eq_true rfl), (Nat.le_of_ble_eq_true rfl)⟩ dX7_init_28 (fun u28 H locs h28 hPn hDn hS => ?_)
  obtain ⟨h28a, h28⟩ := h28
  subst h28a
  have hP := hPn
  have hD := hDn
  clear hPn hDn
  have hP : va_P (eD E) vwCl ((q8, .inl (eI E, 600, .inl (fun _ => 0))) :: (a, .inr (6, [.ref q8, .int 0, .int (-1), .null, .null, .null, .null, .null])) :: gW E u28) H := hP
  have hD : va_D (CA a s.heap.size) ((q8, .inl (eI E, 600, .inl (fun _ => 0))) :: (a, .inr (6, [.ref q8, .int 0, .int (-1), .null, .null, .null, .null, .null])) :: gW E u28) := hD
  refine va_putF (D := eD E) (ci := 6) (v := .ref (u28.1 0)) (ty := (.object "RhymeRoofs$Game")) (C := RX7) (T := TX7) (N := 8) S.1 S.2.1 hts iX7 tyX7 tyX7_ok nmX7 hown hK hP hD hS 1 rfl rfl 3 (by decide) (hts (.fieldLink RX7 23 "RhymeRoofs" "game" "LRhymeRoofs$Game;") (by decide +kernel)) (fun _ h9 => h9) rfl hin rfl (by decide +kernel) rfl rfl (Nat.le_of_ble_eq_true rfl) dX7_init_31 (fun H locs hP hD hS => ?_)
  have hP : va_P (eD E) vwCl ((q8, .inl (eI E, 600, .inl (fun _ => 0))) :: (a, .inr (6, [.ref q8, .int 0, .int (-1), .ref (u28.1 0), .null, .null, .null, .null])) :: gW E u28) H := hP
  have hD : va_D (CA a s.heap.size) ((q8, .inl (eI E, 600, .inl (fun _ => 0))) :: (a, .inr (6, [.ref q8, .int 0, .int (-1), .ref (u28.1 0), .null, .null, .null, .null])) :: gW E u28) := hD
  refine lv_aload_n S.1 S.2.1 dX7_init_34 rfl (lv_at hl 0 rfl) ?_
  refine N_new (ci := 1) (fs := [.null, .null, .null, .null, .null, .null, .null, .null, .null, .int 0, .int 0, .int 0, .null]) (C := RX1) (T := TX1) (N := 13) S.1 S.2.1 hts iX1 tyX1 tyX1_ok hown (by decide +kernel) (by decide +kernel) (by decide +kernel) hK hP hD hS hA rfl (fun j hj => by rcases (show j = 0 ∨ j = 1 ∨ j = 2 ∨ j = 3 ∨ j = 4 ∨ j = 5 ∨ j = 6 ∨ j = 7 ∨ j = 8 ∨ j = 9 ∨ j = 10 ∨ j = 11 ∨ j = 12 by omega) with rfl | rfl | rfl | rfl | rfl | rfl | rfl | rfl | rfl | rfl | rfl | rfl | rfl <;> rfl) (Nat.le_of_ble_eq_true rfl) (Nat.le_of_ble_eq_true rfl) dX7_init_35 (fun q35 H hP hD hS => ?_)
  have hP : va_P (eD E) vwCl ((q35, .inr (1, [.null, .null, .null, .null, .null, .null, .null, .null, .null, .int 0, .int 0, .int 0, .null])) :: (q8, .inl (eI E, 600, .inl (fun _ => 0))) :: (a, .inr (6, [.ref q8, .int 0, .int (-1), .ref (u28.1 0), .null, .null, .null, .null])) :: gW E u28) H := hP
  have hD : va_D (CA a s.heap.size) ((q35, .inr (1, [.null, .null, .null, .null, .null, .null, .null, .null, .null, .int 0, .int 0, .int 0, .null])) :: (q8, .inl (eI E, 600, .inl (fun _ => 0))) :: (a, .inr (6, [.ref q8, .int 0, .int (-1), .ref (u28.1 0), .null, .null, .null, .null])) :: gW E u28) := hD
  refine lv_dup S.1 S.2.1 dX7_init_38 rfl ?_
  refine N_init (rm := rmX1_init) S (c_X1_init (a := q35)) gX7_init_X1_init rfl ⟨rfl, rfl⟩ (by decide +kernel) (by decide +kernel) (by decide +kernel) rfl (by decide +kernel) ⟨(Nat.le_of_ble_eq_true rfl), (Nat.le_of_ble_eq_true rfl)⟩ hK hP hD hS hX hO hA hl.1 (Nat.le_of_ble_eq_true rfl) ⟨(Nat.le_of_ble_eq_true rfl), (Nat.le_of_ble_eq_true rfl)⟩ dX7_init_39 (fun u39 H locs h39 hPn hDn hS => ?_)
  obtain ⟨h39a, h39⟩ := h39
  subst h39a
  have hP := hPn
  have hD := hDn
  clear hPn hDn
  have hP : va_P (eD E) vwCl ((q8, .inl (eI E, 600, .inl (fun _ => 0))) :: (a, .inr (6, [.ref q8, .int 0, .int (-1), .ref (u28.1 0), .null, .null, .null, .null])) :: (gW E u28 ++ gW E u39)) H := hP
  have hD : va_D (CA a s.heap.size) ((q8, .inl (eI E, 600, .inl (fun _ => 0))) :: (a, .inr (6, [.ref q8, .int 0, .int (-1), .ref (u28.1 0), .null, .null, .null, .null])) :: (gW E u28 ++ gW E u39)) := hD
  refine va_putF (D := eD E) (ci := 6) (v := .ref (u39.1 0)) (ty := (.object "RhymeRoofs$Game")) (C := RX7) (T := TX7) (N := 8) S.1 S.2.1 hts iX7 tyX7 tyX7_ok nmX7 hown hK hP hD hS 1 rfl rfl 4 (by decide) (hts (.fieldLink RX7 27 "RhymeRoofs" "future" "LRhymeRoofs$Game;") (by decide +kernel)) (fun _ h9 => h9) rfl hin rfl (by decide +kernel) rfl rfl (Nat.le_of_ble_eq_true rfl) dX7_init_42 (fun H locs hP hD hS => ?_)
  have hP : va_P (eD E) vwCl ((q8, .inl (eI E, 600, .inl (fun _ => 0))) :: (a, .inr (6, [.ref q8, .int 0, .int (-1), .ref (u28.1 0), .ref (u39.1 0), .null, .null, .null])) :: (gW E u28 ++ gW E u39)) H := hP
  have hD : va_D (CA a s.heap.size) ((q8, .inl (eI E, 600, .inl (fun _ => 0))) :: (a, .inr (6, [.ref q8, .int 0, .int (-1), .ref (u28.1 0), .ref (u39.1 0), .null, .null, .null])) :: (gW E u28 ++ gW E u39)) := hD
  refine lv_aload_n S.1 S.2.1 dX7_init_45 rfl (lv_at hl 0 rfl) ?_
  have iX2 : ∀ w ∈ wsX20, w ∈ wsX7_init := fun _ h => List.mem_cons_of_mem _ (List.mem_append_left _ (List.mem_append_left _ (List.mem_append_left _ (List.mem_append_left _ (List.mem_append_right _ h)))))
  refine N_new (ci := 2) (fs := [.null, .int 0, .int 0]) (C := RX2) (T := TX2) (N := 3) S.1 S.2.1 hts iX2 tyX2 tyX2_ok hown (by decide +kernel) (by decide +kernel) (by decide +kernel) hK hP hD hS hA rfl (fun j hj => by rcases (show j = 0 ∨ j = 1 ∨ j = 2 by omega) with rfl | rfl | rfl <;> rfl) (Nat.le_of_ble_eq_true rfl) (Nat.le_of_ble_eq_true rfl) dX7_init_46 (fun q46 H hP hD hS => ?_)
  have hP : va_P (eD E) vwCl ((q46, .inr (2, [.null, .int 0, .int 0])) :: (q8, .inl (eI E, 600, .inl (fun _ => 0))) :: (a, .inr (6, [.ref q8, .int 0, .int (-1), .ref (u28.1 0), .ref (u39.1 0), .null, .null, .null])) :: (gW E u28 ++ gW E u39)) H := hP
  have hD : va_D (CA a s.heap.size) ((q46, .inr (2, [.null, .int 0, .int 0])) :: (q8, .inl (eI E, 600, .inl (fun _ => 0))) :: (a, .inr (6, [.ref q8, .int 0, .int (-1), .ref (u28.1 0), .ref (u39.1 0), .null, .null, .null])) :: (gW E u28 ++ gW E u39)) := hD
  refine lv_dup S.1 S.2.1 dX7_init_49 rfl ?_
  refine N_init (rm := rmX2_init) S (c_X2_init (a := q46) hR) gX7_init_X2_init rfl ⟨rfl, rfl⟩ (by decide +kernel) (by decide +kernel) (by decide +kernel) rfl (by decide +kernel) ⟨(Nat.le_of_ble_eq_true rfl), (Nat.le_of_ble_eq_true rfl)⟩ hK hP hD hS hX hO hA hl.1 (Nat.le_of_ble_eq_true rfl) ⟨(Nat.le_of_ble_eq_true rfl), (Nat.le_of_ble_eq_true rfl)⟩ dX7_init_50 (fun u50 H locs h50 hP hD hS => ?_)
  have hP : va_P (eD E) vwCl ((q8, .inl (eI E, 600, .inl (fun _ => 0))) :: (a, .inr (6, [.ref q8, .int 0, .int (-1), .ref (u28.1 0), .ref (u39.1 0), .null, .null, .null])) :: ((gW E u28 ++ gW E u39) ++ hL E q46 u50.1 u50.2 8)) H := hP
  have hD : va_D (CA a s.heap.size) ((q8, .inl (eI E, 600, .inl (fun _ => 0))) :: (a, .inr (6, [.ref q8, .int 0, .int (-1), .ref (u28.1 0), .ref (u39.1 0), .null, .null, .null])) :: ((gW E u28 ++ gW E u39) ++ hL E q46 u50.1 u50.2 8)) := hD
  refine va_putF (D := eD E) (ci := 6) (v := .ref q46) (ty := (.object "RhymeRoofs$History")) (C := RX7) (T := TX7) (N := 8) S.1 S.2.1 hts iX7 tyX7 tyX7_ok nmX7 hown hK hP hD hS 1 rfl rfl 5 (by decide) (hts (.fieldLink RX7 33 "RhymeRoofs" "history" "LRhymeRoofs$History;") (by decide +kernel)) (fun _ h9 => h9) rfl hin rfl (by decide +kernel) rfl rfl (Nat.le_of_ble_eq_true rfl) dX7_init_53 (fun H locs hP hD hS => ?_)
  have hP : va_P (eD E) vwCl ((q8, .inl (eI E, 600, .inl (fun _ => 0))) :: (a, .inr (6, [.ref q8, .int 0, .int (-1), .ref (u28.1 0), .ref (u39.1 0), .ref q46, .null, .null])) :: ((gW E u28 ++ gW E u39) ++ hL E q46 u50.1 u50.2 8)) H := hP
  have hD : va_D (CA a s.heap.size) ((q8, .inl (eI E, 600, .inl (fun _ => 0))) :: (a, .inr (6, [.ref q8, .int 0, .int (-1), .ref (u28.1 0), .ref (u39.1 0), .ref q46, .null, .null])) :: ((gW E u28 ++ gW E u39) ++ hL E q46 u50.1 u50.2 8)) := hD
  refine lv_aload_n S.1 S.2.1 dX7_init_56 rfl (lv_at hl 0 rfl) ?_
  have iX5 : ∀ w ∈ wsX50, w ∈ wsX7_init := fun _ h => List.mem_cons_of_mem _ (List.mem_append_left _ (List.mem_append_left _ (List.mem_append_left _ (List.mem_append_right _ h))))
  refine N_new (ci := 5) (fs := [.null, .int 0, .null, .int 0, .int 0, .int 0, .int 0, .int 0, .int 0, .int 0, .int 0]) (C := RX5) (T := TX5) (N := 11) S.1 S.2.1 hts iX5 tyX5 tyX5_ok hown (by decide +kernel) (by decide +kernel) (by decide +kernel) hK hP hD hS hA rfl (fun j hj => by rcases (show j = 0 ∨ j = 1 ∨ j = 2 ∨ j = 3 ∨ j = 4 ∨ j = 5 ∨ j = 6 ∨ j = 7 ∨ j = 8 ∨ j = 9 ∨ j = 10 by omega) with rfl | rfl | rfl | rfl | rfl | rfl | rfl | rfl | rfl | rfl | rfl <;> rfl) (Nat.le_of_ble_eq_true rfl) (Nat.le_of_ble_eq_true rfl) dX7_init_57 (fun q57 H hP hD hS => ?_)
  have hP : va_P (eD E) vwCl ((q57, .inr (5, [.null, .int 0, .null, .int 0, .int 0, .int 0, .int 0, .int 0, .int 0, .int 0, .int 0])) :: (q8, .inl (eI E, 600, .inl (fun _ => 0))) :: (a, .inr (6, [.ref q8, .int 0, .int (-1), .ref (u28.1 0), .ref (u39.1 0), .ref q46, .null, .null])) :: ((gW E u28 ++ gW E u39) ++ hL E q46 u50.1 u50.2 8)) H := hP
  have hD : va_D (CA a s.heap.size) ((q57, .inr (5, [.null, .int 0, .null, .int 0, .int 0, .int 0, .int 0, .int 0, .int 0, .int 0, .int 0])) :: (q8, .inl (eI E, 600, .inl (fun _ => 0))) :: (a, .inr (6, [.ref q8, .int 0, .int (-1), .ref (u28.1 0), .ref (u39.1 0), .ref q46, .null, .null])) :: ((gW E u28 ++ gW E u39) ++ hL E q46 u50.1 u50.2 8)) := hD
  refine lv_dup S.1 S.2.1 dX7_init_60 rfl ?_
  refine N_initN (rm := rmX5_init) S (c_X5_init (a := q57)) gX7_init_X5_init_n39 rfl ⟨rfl, rfl⟩ (by decide +kernel) (by decide +kernel) (by decide +kernel) rfl (by decide +kernel) ⟨(Nat.le_of_ble_eq_true rfl), (Nat.le_of_ble_eq_true rfl)⟩ hK hP hD hS hX hO hA hl.1 (Nat.le_of_ble_eq_true rfl) ⟨(Nat.le_of_ble_eq_true rfl), (Nat.le_of_ble_eq_true rfl)⟩ dX7_init_61 (fun u61 H locs h61 hP hD hS => ?_)
  have hP : va_P (eD E) vwCl ((q8, .inl (eI E, 600, .inl (fun _ => 0))) :: (a, .inr (6, [.ref q8, .int 0, .int (-1), .ref (u28.1 0), .ref (u39.1 0), .ref q46, .null, .null])) :: (((gW E u28 ++ gW E u39) ++ hL E q46 u50.1 u50.2 8) ++ rW E q57 u61)) H := hP
  have hD : va_D (CA a s.heap.size) ((q8, .inl (eI E, 600, .inl (fun _ => 0))) :: (a, .inr (6, [.ref q8, .int 0, .int (-1), .ref (u28.1 0), .ref (u39.1 0), .ref q46, .null, .null])) :: (((gW E u28 ++ gW E u39) ++ hL E q46 u50.1 u50.2 8) ++ rW E q57 u61)) := hD
  refine va_putF (D := eD E) (ci := 6) (v := .ref q57) (ty := (.object "RhymeRoofs$SetupReader")) (C := RX7) (T := TX7) (N := 8) S.1 S.2.1 hts iX7 tyX7 tyX7_ok nmX7 hown hK hP hD hS 1 rfl rfl 6 (by decide) (hts (.fieldLink RX7 40 "RhymeRoofs" "reader" "LRhymeRoofs$SetupReader;") (by decide +kernel)) (fun _ h9 => h9) rfl hin rfl (by decide +kernel) rfl rfl (Nat.le_of_ble_eq_true rfl) dX7_init_64 (fun H locs hP hD hS => ?_)
  have hP : va_P (eD E) vwCl ((q8, .inl (eI E, 600, .inl (fun _ => 0))) :: (a, .inr (6, [.ref q8, .int 0, .int (-1), .ref (u28.1 0), .ref (u39.1 0), .ref q46, .ref q57, .null])) :: (((gW E u28 ++ gW E u39) ++ hL E q46 u50.1 u50.2 8) ++ rW E q57 u61)) H := hP
  have hD : va_D (CA a s.heap.size) ((q8, .inl (eI E, 600, .inl (fun _ => 0))) :: (a, .inr (6, [.ref q8, .int 0, .int (-1), .ref (u28.1 0), .ref (u39.1 0), .ref q46, .ref q57, .null])) :: (((gW E u28 ++ gW E u39) ++ hL E q46 u50.1 u50.2 8) ++ rW E q57 u61)) := hD
  refine lv_aload_n S.1 S.2.1 dX7_init_67 rfl (lv_at hl 0 rfl) ?_
  have iX0 : ∀ w ∈ wsX00, w ∈ wsX7_init := fun _ h => List.mem_cons_of_mem _ (List.mem_append_left _ (List.mem_append_left _ (List.mem_append_right _ h)))
  refine N_new (ci := 0) (fs := [.int 0, .int 0, .int 0, .null, .null, .null, .null, .int 0, .int 0, .int 0, .int 0, .int 0]) (C := RX0) (T := TX0) (N := 12) S.1 S.2.1 hts iX0 tyX0 tyX0_ok hown (by decide +kernel) (by decide +kernel) (by decide +kernel) hK hP hD hS hA rfl (fun j hj => by rcases (show j = 0 ∨ j = 1 ∨ j = 2 ∨ j = 3 ∨ j = 4 ∨ j = 5 ∨ j = 6 ∨ j = 7 ∨ j = 8 ∨ j = 9 ∨ j = 10 ∨ j = 11 by omega) with rfl | rfl | rfl | rfl | rfl | rfl | rfl | rfl | rfl | rfl | rfl | rfl <;> rfl) (Nat.le_of_ble_eq_true rfl) (Nat.le_of_ble_eq_true rfl) dX7_init_68 (fun q68 H hP hD hS => ?_)
  have hP : va_P (eD E) vwCl ((q68, .inr (0, [.int 0, .int 0, .int 0, .null, .null, .null, .null, .int 0, .int 0, .int 0, .int 0, .int 0])) :: (q8, .inl (eI E, 600, .inl (fun _ => 0))) :: (a, .inr (6, [.ref q8, .int 0, .int (-1), .ref (u28.1 0), .ref (u39.1 0), .ref q46, .ref q57, .null])) :: (((gW E u28 ++ gW E u39) ++ hL E q46 u50.1 u50.2 8) ++ rW E q57 u61)) H := hP
  have hD : va_D (CA a s.heap.size) ((q68, .inr (0, [.int 0, .int 0, .int 0, .null, .null, .null, .null, .int 0, .int 0, .int 0, .int 0, .int 0])) :: (q8, .inl (eI E, 600, .inl (fun _ => 0))) :: (a, .inr (6, [.ref q8, .int 0, .int (-1), .ref (u28.1 0), .ref (u39.1 0), .ref q46, .ref q57, .null])) :: (((gW E u28 ++ gW E u39) ++ hL E q46 u50.1 u50.2 8) ++ rW E q57 u61)) := hD
  refine lv_dup S.1 S.2.1 dX7_init_71 rfl ?_
  refine N_initN (rm := rmX0_init) S (c_X0_init (a := q68)) gX7_init_X0_init_n46 rfl ⟨rfl, rfl⟩ (by decide +kernel) (by decide +kernel) (by decide +kernel) rfl (by decide +kernel) ⟨(Nat.le_of_ble_eq_true rfl), (Nat.le_of_ble_eq_true rfl)⟩ hK hP hD hS hX hO hA hl.1 (Nat.le_of_ble_eq_true rfl) ⟨(Nat.le_of_ble_eq_true rfl), (Nat.le_of_ble_eq_true rfl)⟩ dX7_init_72 (fun u72 H locs h72 hP hD hS => ?_)
  have hP : va_P (eD E) vwCl ((q8, .inl (eI E, 600, .inl (fun _ => 0))) :: (a, .inr (6, [.ref q8, .int 0, .int (-1), .ref (u28.1 0), .ref (u39.1 0), .ref q46, .ref q57, .null])) :: ((((gW E u28 ++ gW E u39) ++ hL E q46 u50.1 u50.2 8) ++ rW E q57 u61) ++ cW7 E q68 u72)) H := hP
  have hD : va_D (CA a s.heap.size) ((q8, .inl (eI E, 600, .inl (fun _ => 0))) :: (a, .inr (6, [.ref q8, .int 0, .int (-1), .ref (u28.1 0), .ref (u39.1 0), .ref q46, .ref q57, .null])) :: ((((gW E u28 ++ gW E u39) ++ hL E q46 u50.1 u50.2 8) ++ rW E q57 u61) ++ cW7 E q68 u72)) := hD
  refine va_putF (D := eD E) (ci := 6) (v := .ref q68) (ty := (.object "RhymeRoofs$Chains")) (C := RX7) (T := TX7) (N := 8) S.1 S.2.1 hts iX7 tyX7 tyX7_ok nmX7 hown hK hP hD hS 1 rfl rfl 7 (by decide) (hts (.fieldLink RX7 47 "RhymeRoofs" "chains" "LRhymeRoofs$Chains;") (by decide +kernel)) (fun _ h9 => h9) rfl hin rfl (by decide +kernel) rfl rfl (Nat.le_of_ble_eq_true rfl) dX7_init_75 (fun H locs hP hD hS => ?_)
  have hP : va_P (eD E) vwCl ((q8, .inl (eI E, 600, .inl (fun _ => 0))) :: (a, .inr (6, [.ref q8, .int 0, .int (-1), .ref (u28.1 0), .ref (u39.1 0), .ref q46, .ref q57, .ref q68])) :: ((((gW E u28 ++ gW E u39) ++ hL E q46 u50.1 u50.2 8) ++ rW E q57 u61) ++ cW7 E q68 u72)) H := hP
  have hD : va_D (CA a s.heap.size) ((q8, .inl (eI E, 600, .inl (fun _ => 0))) :: (a, .inr (6, [.ref q8, .int 0, .int (-1), .ref (u28.1 0), .ref (u39.1 0), .ref q46, .ref q57, .ref q68])) :: ((((gW E u28 ++ gW E u39) ++ hL E q46 u50.1 u50.2 8) ++ rW E q57 u61) ++ cW7 E q68 u72)) := hD
  rw [own_at] at hP hD
  exact hret (u := (oA7 a q8 q46 q57 q68 u28 u39 u50 u61 u72, oI7 a q8 q46 q57 q68 u28 u39 u50 u61 u72, oJ7 a q8 q46 q57 q68 u28 u39 u50 u61 u72)) ⟨rfl, h28, rfl, rfl, rfl, rfl⟩ hP hD hS dX7_init_78 (Nat.le_of_ble_eq_true rfl) (Nat.le_of_ble_eq_true rfl)
