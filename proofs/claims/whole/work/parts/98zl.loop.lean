/-! THE LAW'S LOOP -/
theorem law_room {L i : Nat} (hL : L ≤ 3072) (hi : i ≤ 3072) (h : ¬ Int32.ofNat L - 6 < nI i) : i + 6 ≤ L := by
  by_cases q : 6 ≤ L
  · obtain ⟨r, rfl⟩ : ∃ r, L = r + 6 := ⟨L - 6, by omega⟩
    have e : Int32.ofNat (r + 6) - 6 = nI r := by
      show nI (r + 6) - nI 6 = nI r
      rw [← nI_add]
      exact Int32.add_sub_cancel _ _
    rw [e] at h
    have : ¬ r < i := fun z => h ((nI_ltI (by omega) (by omega)).mpr z)
    omega
  · refine absurd ?_ h
    rw [Int32.lt_iff_toInt_lt, nI_toInt (show i < 2 ^ 31 by omega)]
    rcases (show L = 0 ∨ L = 1 ∨ L = 2 ∨ L = 3 ∨ L = 4 ∨ L = 5 by omega) with rfl | rfl | rfl | rfl | rfl | rfl
    · rw [show (Int32.ofNat 0 - 6 : Int32).toInt = -6 by decide +kernel]; omega
    · rw [show (Int32.ofNat 1 - 6 : Int32).toInt = -5 by decide +kernel]; omega
    · rw [show (Int32.ofNat 2 - 6 : Int32).toInt = -4 by decide +kernel]; omega
    · rw [show (Int32.ofNat 3 - 6 : Int32).toInt = -3 by decide +kernel]; omega
    · rw [show (Int32.ofNat 4 - 6 : Int32).toInt = -2 by decide +kernel]; omega
    · rw [show (Int32.ofNat 5 - 6 : Int32).toInt = -1 by decide +kernel]; omega
set_option maxRecDepth 100000 in
set_option maxHeartbeats 4000000 in
theorem law_step {p : Program} {l : Launch} {e : Env} {s : State} {m : MethodId} {below : List Frame} {meth : Method} {c : Code} {b L : Nat} {xs : Nat → Int32} {E : EV} (CT : LCx p l s m meth c b L xs E) (hL : L ≤ 3072) {j : Nat} (hj : j ≤ 512) (next : 6 * j + 6 ≤ L → LSx p l e s m below meth c b E 23 (205 + 4 * (j + 1)) (40826 + 24 * (j + 1)) [(4, .int (nI (6 * (j + 1)))), (3, .ref (eA E 13 0)), (2, .ref (eA E 12 0)), (1, .ref (eA E 11 0)), (0, .ref b)]) : LSx p l e s m below meth c b E 23 (205 + 4 * j) (40826 + 24 * j) [(4, .int (nI (6 * j))), (3, .ref (eA E 13 0)), (2, .ref (eA E 12 0)), (1, .ref (eA E 11 0)), (0, .ref b)] := by
  have CT0 := CT
  obtain ⟨S, hK, hX, hT, ⟨hR, hR3⟩, hscr, hbl, hr, hlk, hl9⟩ := CT
  have hbA : ¬ fA s b := Nat.not_le.mpr hbl
  intro I J H locs ls V hP hD hS hl
  refine lv_iload S.1 S.2.1 dL_law_23 (lv_at hl 0 rfl) ?_
  refine lv_aload_n S.1 S.2.1 dL_law_25 rfl (lv_at hl 4 rfl) ?_
  refine va_slen (A := fA s) S.1 S.2.1 hscr hbl hbA hS dL_law_26 ?_
  refine lv_bipush (v := 6) S.1 S.2.1 dL_law_27 rfl ?_
  refine lv_isub S.1 S.2.1 dL_law_29 ?_
  refine lv_icmp_gt (tgt := 1556) S.1 S.2.1 dL_law_30 (by decide) (fun _ => ?_) (fun h => ?_)
  · refine lv_iconst (v := 1) S.1 S.2.1 dL_law_1556 rfl ?_
    refine va_forget (fun q hq => hS.2.2 q hq) ?_
    refine W.widen (k := 601024) (n := 7293033) (by omega) (by omega) ?_
    exact W.base (lw_ret (Drawn.sameBut.refl s.drawn lw_cs) S.1 S.2.1 hr hlk dL_law_1557)
  · have hi := law_room hL (show 6 * j ≤ 3072 by omega) h
    have next := next hi
    have hi5 : 6 * j + 5 < L := by omega
    have hk : 205 + 4 * j + 4 ≤ 601024 := by omega
    have hn : 40826 + 24 * j + 24 ≤ 7293033 := by omega
    have nx : LSx p l e s m below meth c b E 1550 (205 + 4 * j + 4) (40826 + 24 * j + 24) [(4, .int (nI (6 * j))), (3, .ref (eA E 13 0)), (2, .ref (eA E 12 0)), (1, .ref (eA E 11 0)), (0, .ref b)] := by
      intro I J H locs ls V hP hD hS hl
      obtain ⟨x, ex⟩ : ∃ x : Int32, x = nI (6 * j) + (6 : Int32) := ⟨_, rfl⟩
      refine lv_iinc (v := x) (lv' := [(4, .int x), (3, .ref (eA E 13 0)), (2, .ref (eA E 12 0)), (1, .ref (eA E 11 0)), (0, .ref b)]) S.1 S.2.1 dL_law_1550 hl (k := 0) rfl (by rw [ex]; rfl) (by decide) rfl (fun ls hl => ?_)
      have ex2 : x = nI (6 * (j + 1)) := by rw [ex, nlit 6, nI_add, Nat.mul_succ]
      subst ex2
      refine lv_goto (tgt := 23) S.1 S.2.1 dL_law_1553 (by decide) ?_
      exact next I J H locs ls V hP hD hS hl
    refine lv_aload_n S.1 S.2.1 dL_law_33 rfl (lv_at hl 4 rfl) ?_
    refine lv_iload S.1 S.2.1 dL_law_34 (lv_at hl 0 rfl) ?_
    refine va_sld (A := fA s) S.1 S.2.1 hscr hbl hbA hS (vin (6 * j) L (by omega) (by omega) rfl) dL_law_36 ?_
    refine lv_bipush (v := 31) S.1 S.2.1 dL_law_37 rfl ?_
    refine lv_iand S.1 S.2.1 dL_law_39 ?_
    generalize xs (nI (6 * j)).toNatClampNeg &&& 31 = t
    refine Classical.byCases (p := t = (0 : Int32)) (fun h0 => ?_) (fun h0 => ?_)
    · exact R_swIn (tgt := 160) (off := 120) S.1 S.2.1 dL_law_40 h0 (by decide) (by decide) (lw_append CT0 hi5 hL hk hn nx I J H locs ls V hP hD hS hl)
    refine Classical.byCases (p := t = (1 : Int32)) (fun h0 => ?_) (fun h1 => ?_)
    · exact R_swIn (tgt := 233) (off := 193) S.1 S.2.1 dL_law_40 h0 (by decide) (by decide) (lw_load CT0 hi5 hL hk hn nx I J H locs ls V hP hD hS hl)
    refine Classical.byCases (p := t = (2 : Int32)) (fun h0 => ?_) (fun h2 => ?_)
    · exact R_swIn (tgt := 289) (off := 249) S.1 S.2.1 dL_law_40 h0 (by decide) (by decide) (lw_errorOffset CT0 hi5 hL hk hn nx I J H locs ls V hP hD hS hl)
    refine Classical.byCases (p := t = (3 : Int32)) (fun h0 => ?_) (fun h3 => ?_)
    · exact R_swIn (tgt := 302) (off := 262) S.1 S.2.1 dL_law_40 h0 (by decide) (by decide) (lw_state CT0 hi5 hL hk hn nx I J H locs ls V hP hD hS hl)
    refine Classical.byCases (p := t = (4 : Int32)) (fun h0 => ?_) (fun h4 => ?_)
    · exact R_swIn (tgt := 358) (off := 318) S.1 S.2.1 dL_law_40 h0 (by decide) (by decide) (lw_row CT0 hi5 hL hk hn nx I J H locs ls V hP hD hS hl)
    refine Classical.byCases (p := t = (5 : Int32)) (fun h0 => ?_) (fun h5 => ?_)
    · exact R_swIn (tgt := 426) (off := 386) S.1 S.2.1 dL_law_40 h0 (by decide) (by decide) (lw_tile CT0 hi5 hL hk hn nx I J H locs ls V hP hD hS hl)
    refine Classical.byCases (p := t = (6 : Int32)) (fun h0 => ?_) (fun h6 => ?_)
    · exact R_swIn (tgt := 494) (off := 454) S.1 S.2.1 dL_law_40 h0 (by decide) (by decide) (lw_player CT0 hi5 hL hk hn nx I J H locs ls V hP hD hS hl)
    refine Classical.byCases (p := t = (7 : Int32)) (fun h0 => ?_) (fun h7 => ?_)
    · exact R_swIn (tgt := 562) (off := 522) S.1 S.2.1 dL_law_40 h0 (by decide) (by decide) (lw_letter CT0 hi5 hL hk hn nx I J H locs ls V hP hD hS hl)
    refine Classical.byCases (p := t = (8 : Int32)) (fun h0 => ?_) (fun h8 => ?_)
    · exact R_swIn (tgt := 642) (off := 602) S.1 S.2.1 dL_law_40 h0 (by decide) (by decide) (lw_alike CT0 hi5 hL hk hn nx I J H locs ls V hP hD hS hl)
    refine Classical.byCases (p := t = (9 : Int32)) (fun h0 => ?_) (fun h9 => ?_)
    · exact R_swIn (tgt := 717) (off := 677) S.1 S.2.1 dL_law_40 h0 (by decide) (by decide) (lw_rhyme CT0 hi5 hL hk hn nx I J H locs ls V hP hD hS hl)
    refine Classical.byCases (p := t = (10 : Int32)) (fun h0 => ?_) (fun h10 => ?_)
    · exact R_swIn (tgt := 797) (off := 757) S.1 S.2.1 dL_law_40 h0 (by decide) (by decide) (lw_why CT0 hi5 hL hk hn nx I J H locs ls V hP hD hS hl)
    refine Classical.byCases (p := t = (11 : Int32)) (fun h0 => ?_) (fun h11 => ?_)
    · exact R_swIn (tgt := 865) (off := 825) S.1 S.2.1 dL_law_40 h0 (by decide) (by decide) (lw_play CT0 hi5 hL hk hn nx I J H locs ls V hP hD hS hl)
    refine Classical.byCases (p := t = (12 : Int32)) (fun h0 => ?_) (fun h12 => ?_)
    · exact R_swIn (tgt := 945) (off := 905) S.1 S.2.1 dL_law_40 h0 (by decide) (by decide) (lw_best CT0 hi5 hL hk hn nx I J H locs ls V hP hD hS hl)
    refine Classical.byCases (p := t = (13 : Int32)) (fun h0 => ?_) (fun h13 => ?_)
    · exact R_swIn (tgt := 958) (off := 918) S.1 S.2.1 dL_law_40 h0 (by decide) (by decide) (lw_chain CT0 hi5 hL hk hn nx I J H locs ls V hP hD hS hl)
    refine Classical.byCases (p := t = (14 : Int32)) (fun h0 => ?_) (fun h14 => ?_)
    · exact R_swIn (tgt := 1026) (off := 986) S.1 S.2.1 dL_law_40 h0 (by decide) (by decide) (lw_worth CT0 hi5 hL hk hn nx I J H locs ls V hP hD hS hl)
    refine Classical.byCases (p := t = (15 : Int32)) (fun h0 => ?_) (fun h15 => ?_)
    · exact R_swIn (tgt := 1094) (off := 1054) S.1 S.2.1 dL_law_40 h0 (by decide) (by decide) (lw_fillings CT0 hi5 hL hk hn nx I J H locs ls V hP hD hS hl)
    refine Classical.byCases (p := t = (16 : Int32)) (fun h0 => ?_) (fun h16 => ?_)
    · exact R_swIn (tgt := 1162) (off := 1122) S.1 S.2.1 dL_law_40 h0 (by decide) (by decide) (lw_threats CT0 hi5 hL hk hn nx I J H locs ls V hP hD hS hl)
    refine Classical.byCases (p := t = (17 : Int32)) (fun h0 => ?_) (fun h17 => ?_)
    · exact R_swIn (tgt := 1218) (off := 1178) S.1 S.2.1 dL_law_40 h0 (by decide) (by decide) (lw_winner CT0 hi5 hL hk hn nx I J H locs ls V hP hD hS hl)
    refine Classical.byCases (p := t = (18 : Int32)) (fun h0 => ?_) (fun h18 => ?_)
    · exact R_swIn (tgt := 1231) (off := 1191) S.1 S.2.1 dL_law_40 h0 (by decide) (by decide) (lw_stepsToEnd CT0 hi5 hL hk hn nx I J H locs ls V hP hD hS hl)
    refine Classical.byCases (p := t = (19 : Int32)) (fun h0 => ?_) (fun h19 => ?_)
    · exact R_swIn (tgt := 1244) (off := 1204) S.1 S.2.1 dL_law_40 h0 (by decide) (by decide) (lw_covered CT0 hi5 hL hk hn nx I J H locs ls V hP hD hS hl)
    refine Classical.byCases (p := t = (20 : Int32)) (fun h0 => ?_) (fun h20 => ?_)
    · exact R_swIn (tgt := 1287) (off := 1247) S.1 S.2.1 dL_law_40 h0 (by decide) (by decide) (lw_lay CT0 hi5 hL hk hn nx I J H locs ls V hP hD hS hl)
    refine Classical.byCases (p := t = (21 : Int32)) (fun h0 => ?_) (fun h21 => ?_)
    · exact R_swIn (tgt := 1355) (off := 1315) S.1 S.2.1 dL_law_40 h0 (by decide) (by decide) (lw_pass CT0 hi5 hL hk hn nx I J H locs ls V hP hD hS hl)
    refine Classical.byCases (p := t = (22 : Int32)) (fun h0 => ?_) (fun h22 => ?_)
    · exact R_swIn (tgt := 1399) (off := 1359) S.1 S.2.1 dL_law_40 h0 (by decide) (by decide) (lw_auto CT0 hi5 hL hk hn nx I J H locs ls V hP hD hS hl)
    refine Classical.byCases (p := t = (23 : Int32)) (fun h0 => ?_) (fun h23 => ?_)
    · exact R_swIn (tgt := 1455) (off := 1415) S.1 S.2.1 dL_law_40 h0 (by decide) (by decide) (lw_give CT0 hi5 hL hk hn nx I J H locs ls V hP hD hS hl)
    refine Classical.byCases (p := t = (24 : Int32)) (fun h0 => ?_) (fun h24 => ?_)
    · exact R_swIn (tgt := 1523) (off := 1483) S.1 S.2.1 dL_law_40 h0 (by decide) (by decide) (lw_undo CT0 hi5 hL hk hn nx I J H locs ls V hP hD hS hl)
    refine Classical.byCases (p := t = (25 : Int32)) (fun h0 => ?_) (fun h25 => ?_)
    · exact R_swIn (tgt := 1536) (off := 1496) S.1 S.2.1 dL_law_40 h0 (by decide) (by decide) (lw_checksum CT0 hi5 hL hk hn nx I J H locs ls V hP hD hS hl)
    refine lv_tableOut (tgt := 1550) S.1 S.2.1 dL_law_40 (by have q0 := ne_I (z := 0) h0 (by decide); have q1 := ne_I (z := 1) h1 (by decide); have q2 := ne_I (z := 2) h2 (by decide); have q3 := ne_I (z := 3) h3 (by decide); have q4 := ne_I (z := 4) h4 (by decide); have q5 := ne_I (z := 5) h5 (by decide); have q6 := ne_I (z := 6) h6 (by decide); have q7 := ne_I (z := 7) h7 (by decide); have q8 := ne_I (z := 8) h8 (by decide); have q9 := ne_I (z := 9) h9 (by decide); have q10 := ne_I (z := 10) h10 (by decide); have q11 := ne_I (z := 11) h11 (by decide); have q12 := ne_I (z := 12) h12 (by decide); have q13 := ne_I (z := 13) h13 (by decide); have q14 := ne_I (z := 14) h14 (by decide); have q15 := ne_I (z := 15) h15 (by decide); have q16 := ne_I (z := 16) h16 (by decide); have q17 := ne_I (z := 17) h17 (by decide); have q18 := ne_I (z := 18) h18 (by decide); have q19 := ne_I (z := 19) h19 (by decide); have q20 := ne_I (z := 20) h20 (by decide); have q21 := ne_I (z := 21) h21 (by decide); have q22 := ne_I (z := 22) h22 (by decide); have q23 := ne_I (z := 23) h23 (by decide); have q24 := ne_I (z := 24) h24 (by decide); have q25 := ne_I (z := 25) h25 (by decide); omega) (by decide) ?_
    exact W.widen (Nat.le_add_right _ _) (Nat.le_add_right _ _) (nx I J H locs ls V hP hD hS hl)
theorem law_loop {p : Program} {l : Launch} {e : Env} {s : State} {m : MethodId} {below : List Frame} {meth : Method} {c : Code} {b L : Nat} {xs : Nat → Int32} {E : EV} (CT : LCx p l s m meth c b L xs E) (hL : L ≤ 3072) : ∀ (f j : Nat), L ≤ 6 * j + 6 * f → j ≤ 512 → LSx p l e s m below meth c b E 23 (205 + 4 * j) (40826 + 24 * j) [(4, .int (nI (6 * j))), (3, .ref (eA E 13 0)), (2, .ref (eA E 12 0)), (1, .ref (eA E 11 0)), (0, .ref b)] := by
  intro f
  induction f with
  | zero => exact fun j h1 h2 => law_step CT hL h2 (fun h => absurd h (by omega))
  | succ f ih => exact fun j h1 h2 => law_step CT hL h2 (fun h => ih (j + 1) (by omega) (by omega))
