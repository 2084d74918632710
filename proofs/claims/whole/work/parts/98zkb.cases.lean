set_option maxRecDepth 100000 in
set_option maxHeartbeats 4000000 in
theorem lw_rhyme {p : Program} {l : Launch} {e : Env} {s : State} {m : MethodId} {below : List Frame} {meth : Method} {c : Code} {b L : Nat} {xs : Nat → Int32} {E : EV} (CT : LCx p l s m meth c b L xs E) {i k n : Nat} (hi : i + 5 < L) (hL : L ≤ 3072) (hk : k + 4 ≤ 601024) (hn : n + 24 ≤ 7293033) (nx : LSx p l e s m below meth c b E 1550 (k + 4) (n + 24) [(4, .int (nI i)), (3, .ref (eA E 13 0)), (2, .ref (eA E 12 0)), (1, .ref (eA E 11 0)), (0, .ref b)]) : LSx p l e s m below meth c b E 717 k n [(4, .int (nI i)), (3, .ref (eA E 13 0)), (2, .ref (eA E 12 0)), (1, .ref (eA E 11 0)), (0, .ref b)] := by
  obtain ⟨S, hK, hX, hT, ⟨hR, hR3⟩, hscr, hbl, hr, hlk, hl9⟩ := CT
  have hA : ∀ q, s.heap.size ≤ q → fA s q := fun _ h => h
  intro I J H locs ls V hP hD hS hl
  refine lv_aload_n S.1 S.2.1 dL_law_717 rfl (lv_at hl 3 rfl) ?_
  refine L_arg (k := 1) S.1 S.2.1 hscr hbl hS (by omega) hL rfl hl (j0 := 4) (j4 := 0) rfl rfl dL_law_718 dL_law_719 dL_law_721 dL_law_722 dL_law_723 ?_
  refine L_arg (k := 2) S.1 S.2.1 hscr hbl hS (by omega) hL rfl hl (j0 := 4) (j4 := 0) rfl rfl dL_law_724 dL_law_725 dL_law_727 dL_law_728 dL_law_729 ?_
  refine L_arg (k := 3) S.1 S.2.1 hscr hbl hS (by omega) hL rfl hl (j0 := 4) (j4 := 0) rfl rfl dL_law_730 dL_law_731 dL_law_733 dL_law_734 dL_law_735 ?_
  refine lv_aload_n S.1 S.2.1 dL_law_736 rfl (lv_at hl 1 rfl) ?_
  refine R_lSi (As := [.ref (eA E 11 0), .int (xs (i + 1)), .int (xs (i + 2)), .int (xs (i + 3)), .ref (eA E 13 0)]) (rest := []) S (lc_rhyme hl9 ps11 psG hR ps13 V) gL_law_L_rhyme rfl yk_L_rhyme ⟨rfl, rfl⟩ ⟨(Nat.le_of_ble_eq_true rfl), (Nat.le_of_ble_eq_true rfl)⟩ hK hP hD hS hX hT hA rfl hl.1 rfl (Nat.le_of_ble_eq_true rfl) ⟨by show k + 4 ≤ 601024; omega, by show n + 24 ≤ 7293033; omega⟩ dL_law_737 (fun v I1 J1 H locs hq hP hD hS => ?_)
  have hq : f_X8_rhyme (xs (i + 1)) (xs (i + 2)) (xs (i + 3)) I1 J1 (POST v) := hq
  refine lv_istore (lv' := [(5, .int v), (4, .int (nI i)), (3, .ref (eA E 13 0)), (2, .ref (eA E 12 0)), (1, .ref (eA E 11 0)), (0, .ref b)]) S.1 S.2.1 dL_law_740 hl (by decide) rfl (fun ls hl => ?_)
  refine lv_aload_n S.1 S.2.1 dL_law_742 rfl (lv_at hl 3 rfl) ?_
  refine L_arg (k := 1) S.1 S.2.1 hscr hbl hS (by omega) hL rfl hl (j0 := 5) (j4 := 1) rfl rfl dL_law_743 dL_law_744 dL_law_746 dL_law_747 dL_law_748 ?_
  refine L_arg (k := 2) S.1 S.2.1 hscr hbl hS (by omega) hL rfl hl (j0 := 5) (j4 := 1) rfl rfl dL_law_749 dL_law_750 dL_law_752 dL_law_753 dL_law_754 ?_
  refine L_arg (k := 3) S.1 S.2.1 hscr hbl hS (by omega) hL rfl hl (j0 := 5) (j4 := 1) rfl rfl dL_law_755 dL_law_756 dL_law_758 dL_law_759 dL_law_760 ?_
  refine R_cVi (As := [.int (xs (i + 1)), .int (xs (i + 2)), .int (xs (i + 3))]) (rest := []) S (c_X8_rhyme (h12 := ps12) hq) gL_law_X8_rhyme rfl yk_X8_rhyme ⟨⟨(Nat.le_of_ble_eq_true rfl), (Nat.le_of_ble_eq_true rfl)⟩, rfl, rfl⟩ hK hP hD hS hX hA (ps12 0 (by decide)) (cF_m E _ _ 0) rfl rfl hl.1 rfl (Nat.le_of_ble_eq_true rfl) ⟨by show k + 4 ≤ 601024; omega, by show n + 24 ≤ 7293033; omega⟩ dL_law_761 (fun w I2 J2 H locs hq hP hD hS => ?_)
  obtain ⟨hq1, hq2, hqI⟩ := hq
  refine lv_istore (lv' := [(6, .int w), (5, .int v), (4, .int (nI i)), (3, .ref (eA E 13 0)), (2, .ref (eA E 12 0)), (1, .ref (eA E 11 0)), (0, .ref b)]) S.1 S.2.1 dL_law_764 hl (by decide) rfl (fun ls hl => ?_)
  refine lv_aload_n S.1 S.2.1 dL_law_766 rfl (lv_at hl 4 rfl) ?_
  refine R_cVi (As := []) (rest := []) S (c_X8_thrown (Q := fun t I3 J3 => t = I2 12 0 0 ∧ I3 = I2 ∧ J3 = J2) (h12 := ps12) ⟨rfl, rfl, rfl⟩) gL_law_X8_thrown rfl yk_X8_thrown ⟨⟨(Nat.le_of_ble_eq_true rfl), (Nat.le_of_ble_eq_true rfl)⟩, rfl, rfl⟩ hK hP hD hS hX hA (ps12 0 (by decide)) (cF_m E _ _ 0) rfl rfl hl.1 rfl (Nat.le_of_ble_eq_true rfl) ⟨by show k + 4 ≤ 601024; omega, by show n + 24 ≤ 7293033; omega⟩ dL_law_767 (fun t I3 J3 H locs hq3 hPn hDn hS => ?_)
  obtain ⟨et, eI3, eJ3⟩ := hq3
  subst eI3 eJ3
  have hP := hPn
  have hD := hDn
  clear hPn hDn
  refine lv_iload S.1 S.2.1 dL_law_770 (lv_at hl 1 rfl) ?_
  refine lv_icmp_eq (tgt := 777) S.1 S.2.1 dL_law_772 (by decide) (fun _ => ?_) (fun h => absurd (et.trans hq1) h)
  refine lv_iload S.1 S.2.1 dL_law_777 (lv_at hl 1 rfl) ?_
  refine lv_if_ne (tgt := 794) S.1 S.2.1 dL_law_779 (by decide) (fun _ => ?_) (fun h => ?_)
  · refine lv_goto (tgt := 1550) S.1 S.2.1 dL_law_794 (by decide) ?_
    exact nx _ _ _ _ _ hqI hP hD hS (lv_sub hl [2, 3, 4, 5, 6] rfl)
  · refine lv_aload_n S.1 S.2.1 dL_law_782 rfl (lv_at hl 3 rfl) ?_
    refine lv_iconst (v := 0) S.1 S.2.1 dL_law_783 rfl ?_
    refine R_lald S.1 S.2.1 hK hP ps13 (n := 1) (fun _ _ => rfl) (vin 0 1 (by decide) (by decide) rfl) dL_law_784 ?_
    refine lv_iload S.1 S.2.1 dL_law_785 (lv_at hl 0 rfl) ?_
    refine lv_i2l S.1 S.2.1 dL_law_787 rfl ?_
    refine W.lcmp S.1 S.2.1 dL_law_788 ?_
    refine lv_if_eq (tgt := 794) S.1 S.2.1 dL_law_789 (by decide) (fun _ => ?_) (fun h9 => absurd ((lg_eq0 _ _).mpr (hq2 h)) h9)
    refine lv_goto (tgt := 1550) S.1 S.2.1 dL_law_794 (by decide) ?_
    exact nx _ _ _ _ _ hqI hP hD hS (lv_sub hl [2, 3, 4, 5, 6] rfl)
set_option maxRecDepth 100000 in
set_option maxHeartbeats 4000000 in
theorem lw_why {p : Program} {l : Launch} {e : Env} {s : State} {m : MethodId} {below : List Frame} {meth : Method} {c : Code} {b L : Nat} {xs : Nat → Int32} {E : EV} (CT : LCx p l s m meth c b L xs E) {i k n : Nat} (hi : i + 5 < L) (hL : L ≤ 3072) (hk : k + 4 ≤ 601024) (hn : n + 24 ≤ 7293033) (nx : LSx p l e s m below meth c b E 1550 (k + 4) (n + 24) [(4, .int (nI i)), (3, .ref (eA E 13 0)), (2, .ref (eA E 12 0)), (1, .ref (eA E 11 0)), (0, .ref b)]) : LSx p l e s m below meth c b E 797 k n [(4, .int (nI i)), (3, .ref (eA E 13 0)), (2, .ref (eA E 12 0)), (1, .ref (eA E 11 0)), (0, .ref b)] := by
  obtain ⟨S, hK, hX, hT, ⟨hR, hR3⟩, hscr, hbl, hr, hlk, hl9⟩ := CT
  have hA : ∀ q, s.heap.size ≤ q → fA s q := fun _ h => h
  intro I J H locs ls V hP hD hS hl
  refine lv_aload_n S.1 S.2.1 dL_law_797 rfl (lv_at hl 3 rfl) ?_
  refine L_arg (k := 1) S.1 S.2.1 hscr hbl hS (by omega) hL rfl hl (j0 := 4) (j4 := 0) rfl rfl dL_law_798 dL_law_799 dL_law_801 dL_law_802 dL_law_803 ?_
  refine L_arg (k := 2) S.1 S.2.1 hscr hbl hS (by omega) hL rfl hl (j0 := 4) (j4 := 0) rfl rfl dL_law_804 dL_law_805 dL_law_807 dL_law_808 dL_law_809 ?_
  refine lv_aload_n S.1 S.2.1 dL_law_810 rfl (lv_at hl 1 rfl) ?_
  refine R_lSi (As := [.ref (eA E 11 0), .int (xs (i + 1)), .int (xs (i + 2)), .ref (eA E 13 0)]) (rest := []) S (lc_why hl9 ps11 psG hR ps13 V) gL_law_L_why rfl yk_L_why ⟨rfl, rfl⟩ ⟨(Nat.le_of_ble_eq_true rfl), (Nat.le_of_ble_eq_true rfl)⟩ hK hP hD hS hX hT hA rfl hl.1 rfl (Nat.le_of_ble_eq_true rfl) ⟨by show k + 4 ≤ 601024; omega, by show n + 24 ≤ 7293033; omega⟩ dL_law_811 (fun v I1 J1 H locs hq hP hD hS => ?_)
  have hq : f_X8_why (xs (i + 1)) (xs (i + 2)) I1 J1 (POST v) := hq
  refine lv_istore (lv' := [(5, .int v), (4, .int (nI i)), (3, .ref (eA E 13 0)), (2, .ref (eA E 12 0)), (1, .ref (eA E 11 0)), (0, .ref b)]) S.1 S.2.1 dL_law_814 hl (by decide) rfl (fun ls hl => ?_)
  refine lv_aload_n S.1 S.2.1 dL_law_816 rfl (lv_at hl 3 rfl) ?_
  refine L_arg (k := 1) S.1 S.2.1 hscr hbl hS (by omega) hL rfl hl (j0 := 5) (j4 := 1) rfl rfl dL_law_817 dL_law_818 dL_law_820 dL_law_821 dL_law_822 ?_
  refine L_arg (k := 2) S.1 S.2.1 hscr hbl hS (by omega) hL rfl hl (j0 := 5) (j4 := 1) rfl rfl dL_law_823 dL_law_824 dL_law_826 dL_law_827 dL_law_828 ?_
  refine R_cVi (As := [.int (xs (i + 1)), .int (xs (i + 2))]) (rest := []) S (c_X8_why (h12 := ps12) hq) gL_law_X8_why rfl yk_X8_why ⟨⟨(Nat.le_of_ble_eq_true rfl), (Nat.le_of_ble_eq_true rfl)⟩, rfl, rfl⟩ hK hP hD hS hX hA (ps12 0 (by decide)) (cF_m E _ _ 0) rfl rfl hl.1 rfl (Nat.le_of_ble_eq_true rfl) ⟨by show k + 4 ≤ 601024; omega, by show n + 24 ≤ 7293033; omega⟩ dL_law_829 (fun w I2 J2 H locs hq hP hD hS => ?_)
  obtain ⟨hq1, hq2, hqI⟩ := hq
  refine lv_istore (lv' := [(6, .int w), (5, .int v), (4, .int (nI i)), (3, .ref (eA E 13 0)), (2, .ref (eA E 12 0)), (1, .ref (eA E 11 0)), (0, .ref b)]) S.1 S.2.1 dL_law_832 hl (by decide) rfl (fun ls hl => ?_)
  refine lv_aload_n S.1 S.2.1 dL_law_834 rfl (lv_at hl 4 rfl) ?_
  refine R_cVi (As := []) (rest := []) S (c_X8_thrown (Q := fun t I3 J3 => t = I2 12 0 0 ∧ I3 = I2 ∧ J3 = J2) (h12 := ps12) ⟨rfl, rfl, rfl⟩) gL_law_X8_thrown rfl yk_X8_thrown ⟨⟨(Nat.le_of_ble_eq_true rfl), (Nat.le_of_ble_eq_true rfl)⟩, rfl, rfl⟩ hK hP hD hS hX hA (ps12 0 (by decide)) (cF_m E _ _ 0) rfl rfl hl.1 rfl (Nat.le_of_ble_eq_true rfl) ⟨by show k + 4 ≤ 601024; omega, by show n + 24 ≤ 7293033; omega⟩ dL_law_835 (fun t I3 J3 H locs hq3 hPn hDn hS => ?_)
  obtain ⟨et, eI3, eJ3⟩ := hq3
  subst eI3 eJ3
  have hP := hPn
  have hD := hDn
  clear hPn hDn
  refine lv_iload S.1 S.2.1 dL_law_838 (lv_at hl 1 rfl) ?_
  refine lv_icmp_eq (tgt := 845) S.1 S.2.1 dL_law_840 (by decide) (fun _ => ?_) (fun h => absurd (et.trans hq1) h)
  refine lv_iload S.1 S.2.1 dL_law_845 (lv_at hl 1 rfl) ?_
  refine lv_if_ne (tgt := 862) S.1 S.2.1 dL_law_847 (by decide) (fun _ => ?_) (fun h => ?_)
  · refine lv_goto (tgt := 1550) S.1 S.2.1 dL_law_862 (by decide) ?_
    exact nx _ _ _ _ _ hqI hP hD hS (lv_sub hl [2, 3, 4, 5, 6] rfl)
  · refine lv_aload_n S.1 S.2.1 dL_law_850 rfl (lv_at hl 3 rfl) ?_
    refine lv_iconst (v := 0) S.1 S.2.1 dL_law_851 rfl ?_
    refine R_lald S.1 S.2.1 hK hP ps13 (n := 1) (fun _ _ => rfl) (vin 0 1 (by decide) (by decide) rfl) dL_law_852 ?_
    refine lv_iload S.1 S.2.1 dL_law_853 (lv_at hl 0 rfl) ?_
    refine lv_i2l S.1 S.2.1 dL_law_855 rfl ?_
    refine W.lcmp S.1 S.2.1 dL_law_856 ?_
    refine lv_if_eq (tgt := 862) S.1 S.2.1 dL_law_857 (by decide) (fun _ => ?_) (fun h9 => absurd ((lg_eq0 _ _).mpr (hq2 h)) h9)
    refine lv_goto (tgt := 1550) S.1 S.2.1 dL_law_862 (by decide) ?_
    exact nx _ _ _ _ _ hqI hP hD hS (lv_sub hl [2, 3, 4, 5, 6] rfl)
set_option maxRecDepth 100000 in
set_option maxHeartbeats 4000000 in
theorem lw_play {p : Program} {l : Launch} {e : Env} {s : State} {m : MethodId} {below : List Frame} {meth : Method} {c : Code} {b L : Nat} {xs : Nat → Int32} {E : EV} (CT : LCx p l s m meth c b L xs E) {i k n : Nat} (hi : i + 5 < L) (hL : L ≤ 3072) (hk : k + 4 ≤ 601024) (hn : n + 24 ≤ 7293033) (nx : LSx p l e s m below meth c b E 1550 (k + 4) (n + 24) [(4, .int (nI i)), (3, .ref (eA E 13 0)), (2, .ref (eA E 12 0)), (1, .ref (eA E 11 0)), (0, .ref b)]) : LSx p l e s m below meth c b E 865 k n [(4, .int (nI i)), (3, .ref (eA E 13 0)), (2, .ref (eA E 12 0)), (1, .ref (eA E 11 0)), (0, .ref b)] := by
  obtain ⟨S, hK, hX, hT, ⟨hR, hR3⟩, hscr, hbl, hr, hlk, hl9⟩ := CT
  have hA : ∀ q, s.heap.size ≤ q → fA s q := fun _ h => h
  intro I J H locs ls V hP hD hS hl
  refine lv_aload_n S.1 S.2.1 dL_law_865 rfl (lv_at hl 3 rfl) ?_
  refine L_arg (k := 1) S.1 S.2.1 hscr hbl hS (by omega) hL rfl hl (j0 := 4) (j4 := 0) rfl rfl dL_law_866 dL_law_867 dL_law_869 dL_law_870 dL_law_871 ?_
  refine L_arg (k := 2) S.1 S.2.1 hscr hbl hS (by omega) hL rfl hl (j0 := 4) (j4 := 0) rfl rfl dL_law_872 dL_law_873 dL_law_875 dL_law_876 dL_law_877 ?_
  refine L_arg (k := 3) S.1 S.2.1 hscr hbl hS (by omega) hL rfl hl (j0 := 4) (j4 := 0) rfl rfl dL_law_878 dL_law_879 dL_law_881 dL_law_882 dL_law_883 ?_
  refine lv_aload_n S.1 S.2.1 dL_law_884 rfl (lv_at hl 1 rfl) ?_
  refine R_lSi (As := [.ref (eA E 11 0), .int (xs (i + 1)), .int (xs (i + 2)), .int (xs (i + 3)), .ref (eA E 13 0)]) (rest := []) S (lc_play hl9 ps11 psG hR ps13 V) gL_law_L_play rfl yk_L_play ⟨rfl, rfl⟩ ⟨(Nat.le_of_ble_eq_true rfl), (Nat.le_of_ble_eq_true rfl)⟩ hK hP hD hS hX hT hA rfl hl.1 rfl (Nat.le_of_ble_eq_true rfl) ⟨by show k + 4 ≤ 601024; omega, by show n + 24 ≤ 7293033; omega⟩ dL_law_885 (fun v I1 J1 H locs hq hP hD hS => ?_)
  have hq : f_X8_play (xs (i + 1)) (xs (i + 2)) (xs (i + 3)) I1 J1 (POST v) := hq
  refine lv_istore (lv' := [(5, .int v), (4, .int (nI i)), (3, .ref (eA E 13 0)), (2, .ref (eA E 12 0)), (1, .ref (eA E 11 0)), (0, .ref b)]) S.1 S.2.1 dL_law_888 hl (by decide) rfl (fun ls hl => ?_)
  refine lv_aload_n S.1 S.2.1 dL_law_890 rfl (lv_at hl 3 rfl) ?_
  refine L_arg (k := 1) S.1 S.2.1 hscr hbl hS (by omega) hL rfl hl (j0 := 5) (j4 := 1) rfl rfl dL_law_891 dL_law_892 dL_law_894 dL_law_895 dL_law_896 ?_
  refine L_arg (k := 2) S.1 S.2.1 hscr hbl hS (by omega) hL rfl hl (j0 := 5) (j4 := 1) rfl rfl dL_law_897 dL_law_898 dL_law_900 dL_law_901 dL_law_902 ?_
  refine L_arg (k := 3) S.1 S.2.1 hscr hbl hS (by omega) hL rfl hl (j0 := 5) (j4 := 1) rfl rfl dL_law_903 dL_law_904 dL_law_906 dL_law_907 dL_law_908 ?_
  refine R_cVi (As := [.int (xs (i + 1)), .int (xs (i + 2)), .int (xs (i + 3))]) (rest := []) S (c_X8_play (h12 := ps12) hq) gL_law_X8_play rfl yk_X8_play ⟨⟨(Nat.le_of_ble_eq_true rfl), (Nat.le_of_ble_eq_true rfl)⟩, rfl, rfl⟩ hK hP hD hS hX hA (ps12 0 (by decide)) (cF_m E _ _ 0) rfl rfl hl.1 rfl (Nat.le_of_ble_eq_true rfl) ⟨by show k + 4 ≤ 601024; omega, by show n + 24 ≤ 7293033; omega⟩ dL_law_909 (fun w I2 J2 H locs hq hP hD hS => ?_)
  obtain ⟨hq1, hq2, hqI⟩ := hq
  refine lv_istore (lv' := [(6, .int w), (5, .int v), (4, .int (nI i)), (3, .ref (eA E 13 0)), (2, .ref (eA E 12 0)), (1, .ref (eA E 11 0)), (0, .ref b)]) S.1 S.2.1 dL_law_912 hl (by decide) rfl (fun ls hl => ?_)
  refine lv_aload_n S.1 S.2.1 dL_law_914 rfl (lv_at hl 4 rfl) ?_
  refine R_cVi (As := []) (rest := []) S (c_X8_thrown (Q := fun t I3 J3 => t = I2 12 0 0 ∧ I3 = I2 ∧ J3 = J2) (h12 := ps12) ⟨rfl, rfl, rfl⟩) gL_law_X8_thrown rfl yk_X8_thrown ⟨⟨(Nat.le_of_ble_eq_true rfl), (Nat.le_of_ble_eq_true rfl)⟩, rfl, rfl⟩ hK hP hD hS hX hA (ps12 0 (by decide)) (cF_m E _ _ 0) rfl rfl hl.1 rfl (Nat.le_of_ble_eq_true rfl) ⟨by show k + 4 ≤ 601024; omega, by show n + 24 ≤ 7293033; omega⟩ dL_law_915 (fun t I3 J3 H locs hq3 hPn hDn hS => ?_)
  obtain ⟨et, eI3, eJ3⟩ := hq3
  subst eI3 eJ3
  have hP := hPn
  have hD := hDn
  clear hPn hDn
  refine lv_iload S.1 S.2.1 dL_law_918 (lv_at hl 1 rfl) ?_
  refine lv_icmp_eq (tgt := 925) S.1 S.2.1 dL_law_920 (by decide) (fun _ => ?_) (fun h => absurd (et.trans hq1) h)
  refine lv_iload S.1 S.2.1 dL_law_925 (lv_at hl 1 rfl) ?_
  refine lv_if_ne (tgt := 942) S.1 S.2.1 dL_law_927 (by decide) (fun _ => ?_) (fun h => ?_)
  · refine lv_goto (tgt := 1550) S.1 S.2.1 dL_law_942 (by decide) ?_
    exact nx _ _ _ _ _ hqI hP hD hS (lv_sub hl [2, 3, 4, 5, 6] rfl)
  · refine lv_aload_n S.1 S.2.1 dL_law_930 rfl (lv_at hl 3 rfl) ?_
    refine lv_iconst (v := 0) S.1 S.2.1 dL_law_931 rfl ?_
    refine R_lald S.1 S.2.1 hK hP ps13 (n := 1) (fun _ _ => rfl) (vin 0 1 (by decide) (by decide) rfl) dL_law_932 ?_
    refine lv_iload S.1 S.2.1 dL_law_933 (lv_at hl 0 rfl) ?_
    refine lv_i2l S.1 S.2.1 dL_law_935 rfl ?_
    refine W.lcmp S.1 S.2.1 dL_law_936 ?_
    refine lv_if_eq (tgt := 942) S.1 S.2.1 dL_law_937 (by decide) (fun _ => ?_) (fun h9 => absurd ((lg_eq0 _ _).mpr (hq2 h)) h9)
    refine lv_goto (tgt := 1550) S.1 S.2.1 dL_law_942 (by decide) ?_
    exact nx _ _ _ _ _ hqI hP hD hS (lv_sub hl [2, 3, 4, 5, 6] rfl)
set_option maxRecDepth 100000 in
set_option maxHeartbeats 4000000 in
theorem lw_best {p : Program} {l : Launch} {e : Env} {s : State} {m : MethodId} {below : List Frame} {meth : Method} {c : Code} {b L : Nat} {xs : Nat → Int32} {E : EV} (CT : LCx p l s m meth c b L xs E) {i k n : Nat} (hi : i + 5 < L) (hL : L ≤ 3072) (hk : k + 4 ≤ 601024) (hn : n + 24 ≤ 7293033) (nx : LSx p l e s m below meth c b E 1550 (k + 4) (n + 24) [(4, .int (nI i)), (3, .ref (eA E 13 0)), (2, .ref (eA E 12 0)), (1, .ref (eA E 11 0)), (0, .ref b)]) : LSx p l e s m below meth c b E 945 k n [(4, .int (nI i)), (3, .ref (eA E 13 0)), (2, .ref (eA E 12 0)), (1, .ref (eA E 11 0)), (0, .ref b)] := by
  obtain ⟨S, hK, hX, hT, ⟨hR, hR3⟩, hscr, hbl, hr, hlk, hl9⟩ := CT
  have hA : ∀ q, s.heap.size ≤ q → fA s q := fun _ h => h
  intro I J H locs ls V hP hD hS hl
  refine lv_aload_n S.1 S.2.1 dL_law_945 rfl (lv_at hl 3 rfl) ?_
  refine R_cVi (As := []) (rest := []) S (c_X7_best (h11 := ps11) (hG := psG) (hR := hR) (b_best V)) gL_law_X7_best rfl yk_X7_best ⟨⟨(Nat.le_of_ble_eq_true rfl), (Nat.le_of_ble_eq_true rfl)⟩, rfl, rfl⟩ hK hP hD hS hX hA (ps11 0 (by decide)) (cF_o E _ _ 0) rfl rfl hl.1 rfl (Nat.le_of_ble_eq_true rfl) ⟨by show k ≤ 601024; omega, by show n ≤ 7293033; omega⟩ dL_law_946 (fun v I1 J1 H locs hq hP hD hS => ?_)
  refine lv_aload_n S.1 S.2.1 dL_law_949 rfl (lv_at hl 2 rfl) ?_
  refine R_cVi (As := []) (rest := [.int v]) S (c_X8_best (h12 := ps12) hq) gL_law_X8_best rfl yk_X8_best ⟨⟨(Nat.le_of_ble_eq_true rfl), (Nat.le_of_ble_eq_true rfl)⟩, rfl, rfl⟩ hK hP hD hS hX hA (ps12 0 (by decide)) (cF_m E _ _ 0) rfl rfl hl.1 rfl (Nat.le_of_ble_eq_true rfl) ⟨by show k ≤ 601024; omega, by show n ≤ 7293033; omega⟩ dL_law_950 (fun w I2 J2 H locs hq hP hD hS => ?_)
  obtain ⟨ew, hqI⟩ := hq
  refine lv_icmp_eq (tgt := 1550) S.1 S.2.1 dL_law_953 (by decide) (fun _ => ?_) (fun h9 => absurd ew h9)
  refine W.widen (k := k + 4) (n := n + 24) (Nat.le_add_right _ _) (Nat.le_add_right _ _) ?_
  exact nx _ _ _ _ _ hqI hP hD hS (lv_sub hl [0, 1, 2, 3, 4] rfl)
set_option maxRecDepth 100000 in
set_option maxHeartbeats 4000000 in
theorem lw_chain {p : Program} {l : Launch} {e : Env} {s : State} {m : MethodId} {below : List Frame} {meth : Method} {c : Code} {b L : Nat} {xs : Nat → Int32} {E : EV} (CT : LCx p l s m meth c b L xs E) {i k n : Nat} (hi : i + 5 < L) (hL : L ≤ 3072) (hk : k + 4 ≤ 601024) (hn : n + 24 ≤ 7293033) (nx : LSx p l e s m below meth c b E 1550 (k + 4) (n + 24) [(4, .int (nI i)), (3, .ref (eA E 13 0)), (2, .ref (eA E 12 0)), (1, .ref (eA E 11 0)), (0, .ref b)]) : LSx p l e s m below meth c b E 958 k n [(4, .int (nI i)), (3, .ref (eA E 13 0)), (2, .ref (eA E 12 0)), (1, .ref (eA E 11 0)), (0, .ref b)] := by
  obtain ⟨S, hK, hX, hT, ⟨hR, hR3⟩, hscr, hbl, hr, hlk, hl9⟩ := CT
  have hA : ∀ q, s.heap.size ≤ q → fA s q := fun _ h => h
  intro I J H locs ls V hP hD hS hl
  refine lv_aload_n S.1 S.2.1 dL_law_958 rfl (lv_at hl 3 rfl) ?_
  refine L_arg (k := 1) S.1 S.2.1 hscr hbl hS (by omega) hL rfl hl (j0 := 4) (j4 := 0) rfl rfl dL_law_959 dL_law_960 dL_law_962 dL_law_963 dL_law_964 ?_
  refine L_arg (k := 2) S.1 S.2.1 hscr hbl hS (by omega) hL rfl hl (j0 := 4) (j4 := 0) rfl rfl dL_law_965 dL_law_966 dL_law_968 dL_law_969 dL_law_970 ?_
  refine lv_aload_n S.1 S.2.1 dL_law_971 rfl (lv_at hl 1 rfl) ?_
  refine R_lSi (As := [.ref (eA E 11 0), .int (xs (i + 1)), .int (xs (i + 2)), .ref (eA E 13 0)]) (rest := []) S (lc_chain hl9 ps11 psG hR ps13 V) gL_law_L_chain rfl yk_L_chain ⟨rfl, rfl⟩ ⟨(Nat.le_of_ble_eq_true rfl), (Nat.le_of_ble_eq_true rfl)⟩ hK hP hD hS hX hT hA rfl hl.1 rfl (Nat.le_of_ble_eq_true rfl) ⟨by show k + 4 ≤ 601024; omega, by show n + 24 ≤ 7293033; omega⟩ dL_law_972 (fun v I1 J1 H locs hq hP hD hS => ?_)
  have hq : f_X8_chain (xs (i + 1)) (xs (i + 2)) I1 J1 (POST v) := hq
  refine lv_istore (lv' := [(5, .int v), (4, .int (nI i)), (3, .ref (eA E 13 0)), (2, .ref (eA E 12 0)), (1, .ref (eA E 11 0)), (0, .ref b)]) S.1 S.2.1 dL_law_975 hl (by decide) rfl (fun ls hl => ?_)
  refine lv_aload_n S.1 S.2.1 dL_law_977 rfl (lv_at hl 3 rfl) ?_
  refine L_arg (k := 1) S.1 S.2.1 hscr hbl hS (by omega) hL rfl hl (j0 := 5) (j4 := 1) rfl rfl dL_law_978 dL_law_979 dL_law_981 dL_law_982 dL_law_983 ?_
  refine L_arg (k := 2) S.1 S.2.1 hscr hbl hS (by omega) hL rfl hl (j0 := 5) (j4 := 1) rfl rfl dL_law_984 dL_law_985 dL_law_987 dL_law_988 dL_law_989 ?_
  refine R_cVi (As := [.int (xs (i + 1)), .int (xs (i + 2))]) (rest := []) S (c_X8_chain (h12 := ps12) hq) gL_law_X8_chain rfl yk_X8_chain ⟨⟨(Nat.le_of_ble_eq_true rfl), (Nat.le_of_ble_eq_true rfl)⟩, rfl, rfl⟩ hK hP hD hS hX hA (ps12 0 (by decide)) (cF_m E _ _ 0) rfl rfl hl.1 rfl (Nat.le_of_ble_eq_true rfl) ⟨by show k + 4 ≤ 601024; omega, by show n + 24 ≤ 7293033; omega⟩ dL_law_990 (fun w I2 J2 H locs hq hP hD hS => ?_)
  obtain ⟨hq1, hq2, hqI⟩ := hq
  refine lv_istore (lv' := [(6, .int w), (5, .int v), (4, .int (nI i)), (3, .ref (eA E 13 0)), (2, .ref (eA E 12 0)), (1, .ref (eA E 11 0)), (0, .ref b)]) S.1 S.2.1 dL_law_993 hl (by decide) rfl (fun ls hl => ?_)
  refine lv_aload_n S.1 S.2.1 dL_law_995 rfl (lv_at hl 4 rfl) ?_
  refine R_cVi (As := []) (rest := []) S (c_X8_thrown (Q := fun t I3 J3 => t = I2 12 0 0 ∧ I3 = I2 ∧ J3 = J2) (h12 := ps12) ⟨rfl, rfl, rfl⟩) gL_law_X8_thrown rfl yk_X8_thrown ⟨⟨(Nat.le_of_ble_eq_true rfl), (Nat.le_of_ble_eq_true rfl)⟩, rfl, rfl⟩ hK hP hD hS hX hA (ps12 0 (by decide)) (cF_m E _ _ 0) rfl rfl hl.1 rfl (Nat.le_of_ble_eq_true rfl) ⟨by show k + 4 ≤ 601024; omega, by show n + 24 ≤ 7293033; omega⟩ dL_law_996 (fun t I3 J3 H locs hq3 hPn hDn hS => ?_)
  obtain ⟨et, eI3, eJ3⟩ := hq3
  subst eI3 eJ3
  have hP := hPn
  have hD := hDn
  clear hPn hDn
  refine lv_iload S.1 S.2.1 dL_law_999 (lv_at hl 1 rfl) ?_
  refine lv_icmp_eq (tgt := 1006) S.1 S.2.1 dL_law_1001 (by decide) (fun _ => ?_) (fun h => absurd (et.trans hq1) h)
  refine lv_iload S.1 S.2.1 dL_law_1006 (lv_at hl 1 rfl) ?_
  refine lv_if_ne (tgt := 1023) S.1 S.2.1 dL_law_1008 (by decide) (fun _ => ?_) (fun h => ?_)
  · refine lv_goto (tgt := 1550) S.1 S.2.1 dL_law_1023 (by decide) ?_
    exact nx _ _ _ _ _ hqI hP hD hS (lv_sub hl [2, 3, 4, 5, 6] rfl)
  · refine lv_aload_n S.1 S.2.1 dL_law_1011 rfl (lv_at hl 3 rfl) ?_
    refine lv_iconst (v := 0) S.1 S.2.1 dL_law_1012 rfl ?_
    refine R_lald S.1 S.2.1 hK hP ps13 (n := 1) (fun _ _ => rfl) (vin 0 1 (by decide) (by decide) rfl) dL_law_1013 ?_
    refine lv_iload S.1 S.2.1 dL_law_1014 (lv_at hl 0 rfl) ?_
    refine lv_i2l S.1 S.2.1 dL_law_1016 rfl ?_
    refine W.lcmp S.1 S.2.1 dL_law_1017 ?_
    refine lv_if_eq (tgt := 1023) S.1 S.2.1 dL_law_1018 (by decide) (fun _ => ?_) (fun h9 => absurd ((lg_eq0 _ _).mpr (hq2 h)) h9)
    refine lv_goto (tgt := 1550) S.1 S.2.1 dL_law_1023 (by decide) ?_
    exact nx _ _ _ _ _ hqI hP hD hS (lv_sub hl [2, 3, 4, 5, 6] rfl)
set_option maxRecDepth 100000 in
set_option maxHeartbeats 4000000 in
theorem lw_worth {p : Program} {l : Launch} {e : Env} {s : State} {m : MethodId} {below : List Frame} {meth : Method} {c : Code} {b L : Nat} {xs : Nat → Int32} {E : EV} (CT : LCx p l s m meth c b L xs E) {i k n : Nat} (hi : i + 5 < L) (hL : L ≤ 3072) (hk : k + 4 ≤ 601024) (hn : n + 24 ≤ 7293033) (nx : LSx p l e s m below meth c b E 1550 (k + 4) (n + 24) [(4, .int (nI i)), (3, .ref (eA E 13 0)), (2, .ref (eA E 12 0)), (1, .ref (eA E 11 0)), (0, .ref b)]) : LSx p l e s m below meth c b E 1026 k n [(4, .int (nI i)), (3, .ref (eA E 13 0)), (2, .ref (eA E 12 0)), (1, .ref (eA E 11 0)), (0, .ref b)] := by
  obtain ⟨S, hK, hX, hT, ⟨hR, hR3⟩, hscr, hbl, hr, hlk, hl9⟩ := CT
  have hA : ∀ q, s.heap.size ≤ q → fA s q := fun _ h => h
  intro I J H locs ls V hP hD hS hl
  refine lv_aload_n S.1 S.2.1 dL_law_1026 rfl (lv_at hl 3 rfl) ?_
  refine L_arg (k := 1) S.1 S.2.1 hscr hbl hS (by omega) hL rfl hl (j0 := 4) (j4 := 0) rfl rfl dL_law_1027 dL_law_1028 dL_law_1030 dL_law_1031 dL_law_1032 ?_
  refine L_arg (k := 2) S.1 S.2.1 hscr hbl hS (by omega) hL rfl hl (j0 := 4) (j4 := 0) rfl rfl dL_law_1033 dL_law_1034 dL_law_1036 dL_law_1037 dL_law_1038 ?_
  refine lv_aload_n S.1 S.2.1 dL_law_1039 rfl (lv_at hl 1 rfl) ?_
  refine R_lSi (As := [.ref (eA E 11 0), .int (xs (i + 1)), .int (xs (i + 2)), .ref (eA E 13 0)]) (rest := []) S (lc_worth hl9 ps11 psG hR ps13 V) gL_law_L_worth rfl yk_L_worth ⟨rfl, rfl⟩ ⟨(Nat.le_of_ble_eq_true rfl), (Nat.le_of_ble_eq_true rfl)⟩ hK hP hD hS hX hT hA rfl hl.1 rfl (Nat.le_of_ble_eq_true rfl) ⟨by show k + 4 ≤ 601024; omega, by show n + 24 ≤ 7293033; omega⟩ dL_law_1040 (fun v I1 J1 H locs hq hP hD hS => ?_)
  have hq : f_X8_worth (xs (i + 1)) (xs (i + 2)) I1 J1 (POST v) := hq
  refine lv_istore (lv' := [(5, .int v), (4, .int (nI i)), (3, .ref (eA E 13 0)), (2, .ref (eA E 12 0)), (1, .ref (eA E 11 0)), (0, .ref b)]) S.1 S.2.1 dL_law_1043 hl (by decide) rfl (fun ls hl => ?_)
  refine lv_aload_n S.1 S.2.1 dL_law_1045 rfl (lv_at hl 3 rfl) ?_
  refine L_arg (k := 1) S.1 S.2.1 hscr hbl hS (by omega) hL rfl hl (j0 := 5) (j4 := 1) rfl rfl dL_law_1046 dL_law_1047 dL_law_1049 dL_law_1050 dL_law_1051 ?_
  refine L_arg (k := 2) S.1 S.2.1 hscr hbl hS (by omega) hL rfl hl (j0 := 5) (j4 := 1) rfl rfl dL_law_1052 dL_law_1053 dL_law_1055 dL_law_1056 dL_law_1057 ?_
  refine R_cVi (As := [.int (xs (i + 1)), .int (xs (i + 2))]) (rest := []) S (c_X8_worth (h12 := ps12) hq) gL_law_X8_worth rfl yk_X8_worth ⟨⟨(Nat.le_of_ble_eq_true rfl), (Nat.le_of_ble_eq_true rfl)⟩, rfl, rfl⟩ hK hP hD hS hX hA (ps12 0 (by decide)) (cF_m E _ _ 0) rfl rfl hl.1 rfl (Nat.le_of_ble_eq_true rfl) ⟨by show k + 4 ≤ 601024; omega, by show n + 24 ≤ 7293033; omega⟩ dL_law_1058 (fun w I2 J2 H locs hq hP hD hS => ?_)
  obtain ⟨hq1, hq2, hqI⟩ := hq
  refine lv_istore (lv' := [(6, .int w), (5, .int v), (4, .int (nI i)), (3, .ref (eA E 13 0)), (2, .ref (eA E 12 0)), (1, .ref (eA E 11 0)), (0, .ref b)]) S.1 S.2.1 dL_law_1061 hl (by decide) rfl (fun ls hl => ?_)
  refine lv_aload_n S.1 S.2.1 dL_law_1063 rfl (lv_at hl 4 rfl) ?_
  refine R_cVi (As := []) (rest := []) S (c_X8_thrown (Q := fun t I3 J3 => t = I2 12 0 0 ∧ I3 = I2 ∧ J3 = J2) (h12 := ps12) ⟨rfl, rfl, rfl⟩) gL_law_X8_thrown rfl yk_X8_thrown ⟨⟨(Nat.le_of_ble_eq_true rfl), (Nat.le_of_ble_eq_true rfl)⟩, rfl, rfl⟩ hK hP hD hS hX hA (ps12 0 (by decide)) (cF_m E _ _ 0) rfl rfl hl.1 rfl (Nat.le_of_ble_eq_true rfl) ⟨by show k + 4 ≤ 601024; omega, by show n + 24 ≤ 7293033; omega⟩ dL_law_1064 (fun t I3 J3 H locs hq3 hPn hDn hS => ?_)
  obtain ⟨et, eI3, eJ3⟩ := hq3
  subst eI3 eJ3
  have hP := hPn
  have hD := hDn
  clear hPn hDn
  refine lv_iload S.1 S.2.1 dL_law_1067 (lv_at hl 1 rfl) ?_
  refine lv_icmp_eq (tgt := 1074) S.1 S.2.1 dL_law_1069 (by decide) (fun _ => ?_) (fun h => absurd (et.trans hq1) h)
  refine lv_iload S.1 S.2.1 dL_law_1074 (lv_at hl 1 rfl) ?_
  refine lv_if_ne (tgt := 1091) S.1 S.2.1 dL_law_1076 (by decide) (fun _ => ?_) (fun h => ?_)
  · refine lv_goto (tgt := 1550) S.1 S.2.1 dL_law_1091 (by decide) ?_
    exact nx _ _ _ _ _ hqI hP hD hS (lv_sub hl [2, 3, 4, 5, 6] rfl)
  · refine lv_aload_n S.1 S.2.1 dL_law_1079 rfl (lv_at hl 3 rfl) ?_
    refine lv_iconst (v := 0) S.1 S.2.1 dL_law_1080 rfl ?_
    refine R_lald S.1 S.2.1 hK hP ps13 (n := 1) (fun _ _ => rfl) (vin 0 1 (by decide) (by decide) rfl) dL_law_1081 ?_
    refine lv_iload S.1 S.2.1 dL_law_1082 (lv_at hl 0 rfl) ?_
    refine lv_i2l S.1 S.2.1 dL_law_1084 rfl ?_
    refine W.lcmp S.1 S.2.1 dL_law_1085 ?_
    refine lv_if_eq (tgt := 1091) S.1 S.2.1 dL_law_1086 (by decide) (fun _ => ?_) (fun h9 => absurd ((lg_eq0 _ _).mpr (hq2 h)) h9)
    refine lv_goto (tgt := 1550) S.1 S.2.1 dL_law_1091 (by decide) ?_
    exact nx _ _ _ _ _ hqI hP hD hS (lv_sub hl [2, 3, 4, 5, 6] rfl)
set_option maxRecDepth 100000 in
set_option maxHeartbeats 4000000 in
theorem lw_fillings {p : Program} {l : Launch} {e : Env} {s : State} {m : MethodId} {below : List Frame} {meth : Method} {c : Code} {b L : Nat} {xs : Nat → Int32} {E : EV} (CT : LCx p l s m meth c b L xs E) {i k n : Nat} (hi : i + 5 < L) (hL : L ≤ 3072) (hk : k + 4 ≤ 601024) (hn : n + 24 ≤ 7293033) (nx : LSx p l e s m below meth c b E 1550 (k + 4) (n + 24) [(4, .int (nI i)), (3, .ref (eA E 13 0)), (2, .ref (eA E 12 0)), (1, .ref (eA E 11 0)), (0, .ref b)]) : LSx p l e s m below meth c b E 1094 k n [(4, .int (nI i)), (3, .ref (eA E 13 0)), (2, .ref (eA E 12 0)), (1, .ref (eA E 11 0)), (0, .ref b)] := by
  obtain ⟨S, hK, hX, hT, ⟨hR, hR3⟩, hscr, hbl, hr, hlk, hl9⟩ := CT
  have hA : ∀ q, s.heap.size ≤ q → fA s q := fun _ h => h
  intro I J H locs ls V hP hD hS hl
  refine lv_aload_n S.1 S.2.1 dL_law_1094 rfl (lv_at hl 3 rfl) ?_
  refine L_arg (k := 1) S.1 S.2.1 hscr hbl hS (by omega) hL rfl hl (j0 := 4) (j4 := 0) rfl rfl dL_law_1095 dL_law_1096 dL_law_1098 dL_law_1099 dL_law_1100 ?_
  refine L_arg (k := 2) S.1 S.2.1 hscr hbl hS (by omega) hL rfl hl (j0 := 4) (j4 := 0) rfl rfl dL_law_1101 dL_law_1102 dL_law_1104 dL_law_1105 dL_law_1106 ?_
  refine lv_aload_n S.1 S.2.1 dL_law_1107 rfl (lv_at hl 1 rfl) ?_
  refine R_lSi (As := [.ref (eA E 11 0), .int (xs (i + 1)), .int (xs (i + 2)), .ref (eA E 13 0)]) (rest := []) S (lc_fillings hl9 ps11 psG hR ps13 V) gL_law_L_fillings rfl yk_L_fillings ⟨rfl, rfl⟩ ⟨(Nat.le_of_ble_eq_true rfl), (Nat.le_of_ble_eq_true rfl)⟩ hK hP hD hS hX hT hA rfl hl.1 rfl (Nat.le_of_ble_eq_true rfl) ⟨by show k + 4 ≤ 601024; omega, by show n + 24 ≤ 7293033; omega⟩ dL_law_1108 (fun v I1 J1 H locs hq hP hD hS => ?_)
  have hq : f_X8_fillings (xs (i + 1)) (xs (i + 2)) I1 J1 (POST v) := hq
  refine lv_istore (lv' := [(5, .int v), (4, .int (nI i)), (3, .ref (eA E 13 0)), (2, .ref (eA E 12 0)), (1, .ref (eA E 11 0)), (0, .ref b)]) S.1 S.2.1 dL_law_1111 hl (by decide) rfl (fun ls hl => ?_)
  refine lv_aload_n S.1 S.2.1 dL_law_1113 rfl (lv_at hl 3 rfl) ?_
  refine L_arg (k := 1) S.1 S.2.1 hscr hbl hS (by omega) hL rfl hl (j0 := 5) (j4 := 1) rfl rfl dL_law_1114 dL_law_1115 dL_law_1117 dL_law_1118 dL_law_1119 ?_
  refine L_arg (k := 2) S.1 S.2.1 hscr hbl hS (by omega) hL rfl hl (j0 := 5) (j4 := 1) rfl rfl dL_law_1120 dL_law_1121 dL_law_1123 dL_law_1124 dL_law_1125 ?_
  refine R_cVi (As := [.int (xs (i + 1)), .int (xs (i + 2))]) (rest := []) S (c_X8_fillings (h12 := ps12) hq) gL_law_X8_fillings rfl yk_X8_fillings ⟨⟨(Nat.le_of_ble_eq_true rfl), (Nat.le_of_ble_eq_true rfl)⟩, rfl, rfl⟩ hK hP hD hS hX hA (ps12 0 (by decide)) (cF_m E _ _ 0) rfl rfl hl.1 rfl (Nat.le_of_ble_eq_true rfl) ⟨by show k + 4 ≤ 601024; omega, by show n + 24 ≤ 7293033; omega⟩ dL_law_1126 (fun w I2 J2 H locs hq hP hD hS => ?_)
  obtain ⟨hq1, hq2, hqI⟩ := hq
  refine lv_istore (lv' := [(6, .int w), (5, .int v), (4, .int (nI i)), (3, .ref (eA E 13 0)), (2, .ref (eA E 12 0)), (1, .ref (eA E 11 0)), (0, .ref b)]) S.1 S.2.1 dL_law_1129 hl (by decide) rfl (fun ls hl => ?_)
  refine lv_aload_n S.1 S.2.1 dL_law_1131 rfl (lv_at hl 4 rfl) ?_
  refine R_cVi (As := []) (rest := []) S (c_X8_thrown (Q := fun t I3 J3 => t = I2 12 0 0 ∧ I3 = I2 ∧ J3 = J2) (h12 := ps12) ⟨rfl, rfl, rfl⟩) gL_law_X8_thrown rfl yk_X8_thrown ⟨⟨(Nat.le_of_ble_eq_true rfl), (Nat.le_of_ble_eq_true rfl)⟩, rfl, rfl⟩ hK hP hD hS hX hA (ps12 0 (by decide)) (cF_m E _ _ 0) rfl rfl hl.1 rfl (Nat.le_of_ble_eq_true rfl) ⟨by show k + 4 ≤ 601024; omega, by show n + 24 ≤ 7293033; omega⟩ dL_law_1132 (fun t I3 J3 H locs hq3 hPn hDn hS => ?_)
  obtain ⟨et, eI3, eJ3⟩ := hq3
  subst eI3 eJ3
  have hP := hPn
  have hD := hDn
  clear hPn hDn
  refine lv_iload S.1 S.2.1 dL_law_1135 (lv_at hl 1 rfl) ?_
  refine lv_icmp_eq (tgt := 1142) S.1 S.2.1 dL_law_1137 (by decide) (fun _ => ?_) (fun h => absurd (et.trans hq1) h)
  refine lv_iload S.1 S.2.1 dL_law_1142 (lv_at hl 1 rfl) ?_
  refine lv_if_ne (tgt := 1159) S.1 S.2.1 dL_law_1144 (by decide) (fun _ => ?_) (fun h => ?_)
  · refine lv_goto (tgt := 1550) S.1 S.2.1 dL_law_1159 (by decide) ?_
    exact nx _ _ _ _ _ hqI hP hD hS (lv_sub hl [2, 3, 4, 5, 6] rfl)
  · refine lv_aload_n S.1 S.2.1 dL_law_1147 rfl (lv_at hl 3 rfl) ?_
    refine lv_iconst (v := 0) S.1 S.2.1 dL_law_1148 rfl ?_
    refine R_lald S.1 S.2.1 hK hP ps13 (n := 1) (fun _ _ => rfl) (vin 0 1 (by decide) (by decide) rfl) dL_law_1149 ?_
    refine lv_iload S.1 S.2.1 dL_law_1150 (lv_at hl 0 rfl) ?_
    refine lv_i2l S.1 S.2.1 dL_law_1152 rfl ?_
    refine W.lcmp S.1 S.2.1 dL_law_1153 ?_
    refine lv_if_eq (tgt := 1159) S.1 S.2.1 dL_law_1154 (by decide) (fun _ => ?_) (fun h9 => absurd ((lg_eq0 _ _).mpr (hq2 h)) h9)
    refine lv_goto (tgt := 1550) S.1 S.2.1 dL_law_1159 (by decide) ?_
    exact nx _ _ _ _ _ hqI hP hD hS (lv_sub hl [2, 3, 4, 5, 6] rfl)
set_option maxRecDepth 100000 in
set_option maxHeartbeats 4000000 in
theorem lw_threats {p : Program} {l : Launch} {e : Env} {s : State} {m : MethodId} {below : List Frame} {meth : Method} {c : Code} {b L : Nat} {xs : Nat → Int32} {E : EV} (CT : LCx p l s m meth c b L xs E) {i k n : Nat} (hi : i + 5 < L) (hL : L ≤ 3072) (hk : k + 4 ≤ 601024) (hn : n + 24 ≤ 7293033) (nx : LSx p l e s m below meth c b E 1550 (k + 4) (n + 24) [(4, .int (nI i)), (3, .ref (eA E 13 0)), (2, .ref (eA E 12 0)), (1, .ref (eA E 11 0)), (0, .ref b)]) : LSx p l e s m below meth c b E 1162 k n [(4, .int (nI i)), (3, .ref (eA E 13 0)), (2, .ref (eA E 12 0)), (1, .ref (eA E 11 0)), (0, .ref b)] := by
  obtain ⟨S, hK, hX, hT, ⟨hR, hR3⟩, hscr, hbl, hr, hlk, hl9⟩ := CT
  have hA : ∀ q, s.heap.size ≤ q → fA s q := fun _ h => h
  intro I J H locs ls V hP hD hS hl
  refine lv_aload_n S.1 S.2.1 dL_law_1162 rfl (lv_at hl 3 rfl) ?_
  refine L_arg (k := 1) S.1 S.2.1 hscr hbl hS (by omega) hL rfl hl (j0 := 4) (j4 := 0) rfl rfl dL_law_1163 dL_law_1164 dL_law_1166 dL_law_1167 dL_law_1168 ?_
  refine lv_aload_n S.1 S.2.1 dL_law_1169 rfl (lv_at hl 1 rfl) ?_
  refine R_lSi (As := [.ref (eA E 11 0), .int (xs (i + 1)), .ref (eA E 13 0)]) (rest := []) S (lc_threats hl9 ps11 psG hR ps13 V) gL_law_L_threats rfl yk_L_threats ⟨rfl, rfl⟩ ⟨(Nat.le_of_ble_eq_true rfl), (Nat.le_of_ble_eq_true rfl)⟩ hK hP hD hS hX hT hA rfl hl.1 rfl (Nat.le_of_ble_eq_true rfl) ⟨by show k + 4 ≤ 601024; omega, by show n + 24 ≤ 7293033; omega⟩ dL_law_1170 (fun v I1 J1 H locs hq hP hD hS => ?_)
  have hq : f_X8_threats (xs (i + 1)) I1 J1 (POST v) := hq
  refine lv_istore (lv' := [(5, .int v), (4, .int (nI i)), (3, .ref (eA E 13 0)), (2, .ref (eA E 12 0)), (1, .ref (eA E 11 0)), (0, .ref b)]) S.1 S.2.1 dL_law_1173 hl (by decide) rfl (fun ls hl => ?_)
  refine lv_aload_n S.1 S.2.1 dL_law_1175 rfl (lv_at hl 3 rfl) ?_
  refine L_arg (k := 1) S.1 S.2.1 hscr hbl hS (by omega) hL rfl hl (j0 := 5) (j4 := 1) rfl rfl dL_law_1176 dL_law_1177 dL_law_1179 dL_law_1180 dL_law_1181 ?_
  refine R_cVi (As := [.int (xs (i + 1))]) (rest := []) S (c_X8_threats (h12 := ps12) hq) gL_law_X8_threats rfl yk_X8_threats ⟨⟨(Nat.le_of_ble_eq_true rfl), (Nat.le_of_ble_eq_true rfl)⟩, rfl, rfl⟩ hK hP hD hS hX hA (ps12 0 (by decide)) (cF_m E _ _ 0) rfl rfl hl.1 rfl (Nat.le_of_ble_eq_true rfl) ⟨by show k + 4 ≤ 601024; omega, by show n + 24 ≤ 7293033; omega⟩ dL_law_1182 (fun w I2 J2 H locs hq hP hD hS => ?_)
  obtain ⟨hq1, hq2, hqI⟩ := hq
  refine lv_istore (lv' := [(6, .int w), (5, .int v), (4, .int (nI i)), (3, .ref (eA E 13 0)), (2, .ref (eA E 12 0)), (1, .ref (eA E 11 0)), (0, .ref b)]) S.1 S.2.1 dL_law_1185 hl (by decide) rfl (fun ls hl => ?_)
  refine lv_aload_n S.1 S.2.1 dL_law_1187 rfl (lv_at hl 4 rfl) ?_
  refine R_cVi (As := []) (rest := []) S (c_X8_thrown (Q := fun t I3 J3 => t = I2 12 0 0 ∧ I3 = I2 ∧ J3 = J2) (h12 := ps12) ⟨rfl, rfl, rfl⟩) gL_law_X8_thrown rfl yk_X8_thrown ⟨⟨(Nat.le_of_ble_eq_true rfl), (Nat.le_of_ble_eq_true rfl)⟩, rfl, rfl⟩ hK hP hD hS hX hA (ps12 0 (by decide)) (cF_m E _ _ 0) rfl rfl hl.1 rfl (Nat.le_of_ble_eq_true rfl) ⟨by show k + 4 ≤ 601024; omega, by show n + 24 ≤ 7293033; omega⟩ dL_law_1188 (fun t I3 J3 H locs hq3 hPn hDn hS => ?_)
  obtain ⟨et, eI3, eJ3⟩ := hq3
  subst eI3 eJ3
  have hP := hPn
  have hD := hDn
  clear hPn hDn
  refine lv_iload S.1 S.2.1 dL_law_1191 (lv_at hl 1 rfl) ?_
  refine lv_icmp_eq (tgt := 1198) S.1 S.2.1 dL_law_1193 (by decide) (fun _ => ?_) (fun h => absurd (et.trans hq1) h)
  refine lv_iload S.1 S.2.1 dL_law_1198 (lv_at hl 1 rfl) ?_
  refine lv_if_ne (tgt := 1215) S.1 S.2.1 dL_law_1200 (by decide) (fun _ => ?_) (fun h => ?_)
  · refine lv_goto (tgt := 1550) S.1 S.2.1 dL_law_1215 (by decide) ?_
    exact nx _ _ _ _ _ hqI hP hD hS (lv_sub hl [2, 3, 4, 5, 6] rfl)
  · refine lv_aload_n S.1 S.2.1 dL_law_1203 rfl (lv_at hl 3 rfl) ?_
    refine lv_iconst (v := 0) S.1 S.2.1 dL_law_1204 rfl ?_
    refine R_lald S.1 S.2.1 hK hP ps13 (n := 1) (fun _ _ => rfl) (vin 0 1 (by decide) (by decide) rfl) dL_law_1205 ?_
    refine lv_iload S.1 S.2.1 dL_law_1206 (lv_at hl 0 rfl) ?_
    refine lv_i2l S.1 S.2.1 dL_law_1208 rfl ?_
    refine W.lcmp S.1 S.2.1 dL_law_1209 ?_
    refine lv_if_eq (tgt := 1215) S.1 S.2.1 dL_law_1210 (by decide) (fun _ => ?_) (fun h9 => absurd ((lg_eq0 _ _).mpr (hq2 h)) h9)
    refine lv_goto (tgt := 1550) S.1 S.2.1 dL_law_1215 (by decide) ?_
    exact nx _ _ _ _ _ hqI hP hD hS (lv_sub hl [2, 3, 4, 5, 6] rfl)
set_option maxRecDepth 100000 in
set_option maxHeartbeats 4000000 in
theorem lw_winner {p : Program} {l : Launch} {e : Env} {s : State} {m : MethodId} {below : List Frame} {meth : Method} {c : Code} {b L : Nat} {xs : Nat → Int32} {E : EV} (CT : LCx p l s m meth c b L xs E) {i k n : Nat} (hi : i + 5 < L) (hL : L ≤ 3072) (hk : k + 4 ≤ 601024) (hn : n + 24 ≤ 7293033) (nx : LSx p l e s m below meth c b E 1550 (k + 4) (n + 24) [(4, .int (nI i)), (3, .ref (eA E 13 0)), (2, .ref (eA E 12 0)), (1, .ref (eA E 11 0)), (0, .ref b)]) : LSx p l e s m below meth c b E 1218 k n [(4, .int (nI i)), (3, .ref (eA E 13 0)), (2, .ref (eA E 12 0)), (1, .ref (eA E 11 0)), (0, .ref b)] := by
  obtain ⟨S, hK, hX, hT, ⟨hR, hR3⟩, hscr, hbl, hr, hlk, hl9⟩ := CT
  have hA : ∀ q, s.heap.size ≤ q → fA s q := fun _ h => h
  intro I J H locs ls V hP hD hS hl
  refine lv_aload_n S.1 S.2.1 dL_law_1218 rfl (lv_at hl 3 rfl) ?_
  refine R_cVi (As := []) (rest := []) S (c_X7_winner (h11 := ps11) (hG := psG) (hR := hR) (b_winner V)) gL_law_X7_winner rfl yk_X7_winner ⟨⟨(Nat.le_of_ble_eq_true rfl), (Nat.le_of_ble_eq_true rfl)⟩, rfl, rfl⟩ hK hP hD hS hX hA (ps11 0 (by decide)) (cF_o E _ _ 0) rfl rfl hl.1 rfl (Nat.le_of_ble_eq_true rfl) ⟨by show k ≤ 601024; omega, by show n ≤ 7293033; omega⟩ dL_law_1219 (fun v I1 J1 H locs hq hP hD hS => ?_)
  refine lv_aload_n S.1 S.2.1 dL_law_1222 rfl (lv_at hl 2 rfl) ?_
  refine R_cVi (As := []) (rest := [.int v]) S (c_X8_winner (h12 := ps12) hq) gL_law_X8_winner rfl yk_X8_winner ⟨⟨(Nat.le_of_ble_eq_true rfl), (Nat.le_of_ble_eq_true rfl)⟩, rfl, rfl⟩ hK hP hD hS hX hA (ps12 0 (by decide)) (cF_m E _ _ 0) rfl rfl hl.1 rfl (Nat.le_of_ble_eq_true rfl) ⟨by show k ≤ 601024; omega, by show n ≤ 7293033; omega⟩ dL_law_1223 (fun w I2 J2 H locs hq hP hD hS => ?_)
  obtain ⟨ew, hqI⟩ := hq
  refine lv_icmp_eq (tgt := 1550) S.1 S.2.1 dL_law_1226 (by decide) (fun _ => ?_) (fun h9 => absurd ew h9)
  refine W.widen (k := k + 4) (n := n + 24) (Nat.le_add_right _ _) (Nat.le_add_right _ _) ?_
  exact nx _ _ _ _ _ hqI hP hD hS (lv_sub hl [0, 1, 2, 3, 4] rfl)
