/-! TILE, LETTER, PLAY: both sides -/
section NS3
variable {I : MI} {J : MJ}
theorem b_tile {x y : Int32} (V : INV I J) : f_X7_tile x y I J (AG (f_X8_tile x y)) (XR [1, 2] (f_X8_tile x y)) := by
  obtain ⟨⟨W, Lv, C⟩, -⟩ := id V
  have b6 := wf_rows W
  refine k_row W C (fun r hr er => ?_) (fun z => ⟨0, rfl, mc_tile W (fun r k hr er => absurd er (z r hr)) (fun _ I' t => bad_of (by decide +kernel) ⟨t.2, INV_m V t.1⟩) (fun r hr er => absurd er (z r hr))⟩)
  have r6 : r < 6 := by omega
  have t40 := (W.2.2.1 r r6).1
  have sr : ∀ r', r' < dn (I 12 2) 0 → x = nI r' → r' = r := fun r' h e => nij e er (by omega) (by omega)
  have z := c_chk (T := XR [1, 2] (f_X8_tile x y) 2 I J) (F := f_X1_letterOnTile 0 x y I J (fun (v_8 : Int32) (I_6 : MI) (J_7 : MJ) => AG (f_X8_tile x y) v_8 I_6 J_7)) (x := y) (y := I 0 3 x.toNatClampNeg) (n := mTil (I 12 2) r) (by omega) (by rw [cln (by omega) er]; exact (C.2.2.1 r hr).1.trans (wf_c W (okc_row r6 (k := 0) (by decide) (by decide))))
    (fun k hk ek => g_letterOnTile W C r k er ek hr (by omega) (fun J2 e2 e3 => mc_tile W (fun r' k' hr' er' hk' ek' I' t => post_of e3 ⟨t.2, by rw [sr r' hr' er'] at hk' ⊢; rw [nij ek ek' (by omega) (by omega)], INV_m (INV_13 V e2) t.1, t.1.2.2.2.2.2 13 (by decide)⟩) (fun z => absurd er (z r hr)) (fun r' hr' er' z => by rw [sr r' hr' er'] at z; exact absurd ek (z k hk))))
    (fun z => ⟨1, rfl, mc_tile W (fun r' k hr' er' hk ek => by rw [sr r' hr' er'] at hk; exact absurd ek (z k hk)) (fun z2 => absurd er (z2 r hr)) (fun r' hr' er' _ I' t => bad_of (by decide +kernel) ⟨t.2, INV_m V t.1⟩)⟩)
  exact ⟨z.1, fun w => ⟨vin r 6 r6 (by decide) er, z.2 w⟩⟩
theorem b_letter {x y u : Int32} (V : INV I J) : f_X7_letter x y u I J (AG (f_X8_letter x y u)) (XR [1, 2] (f_X8_letter x y u)) := by
  obtain ⟨⟨W, Lv, C⟩, -⟩ := id V
  have b4 := wf_pls W
  refine k_player W C (fun p hp ep => ?_) (fun z => ⟨0, rfl, mc_letter W (fun p k j hp ep => absurd ep (z p hp)) (fun _ I' t => bad_of (by decide +kernel) ⟨t.2, INV_m V t.1⟩) (fun p hp ep => absurd ep (z p hp)) (fun p k hp ep => absurd ep (z p hp))⟩)
  have p4 : p < 4 := by omega
  have sp : ∀ p', p' < dn (I 12 2) 1 → x = nI p' → p' = p := fun p' h e => nij e ep (by omega) (by omega)
  refine k_place W C ep hp (fun k hk ek => ?_) (fun z => ⟨0, rfl, mc_letter W (fun p' k j hp' ep' hk ek => by rw [sp p' hp' ep'] at hk; exact absurd ek (z k hk)) (fun z2 => absurd ep (z2 p hp)) (fun _ _ _ _ I' t => bad_of (by decide +kernel) ⟨t.2, INV_m V t.1⟩) (fun p' k hp' ep' hk ek => by rw [sp p' hp' ep'] at hk; exact absurd ek (z k hk))⟩)
  have m8 := (W.2.2.2 p p4).1
  have l8 := ((W.2.2.2 p p4).2 k hk).1
  have sk : ∀ k', k' < mMany (I 12 2) p → y = nI k' → k' = k := fun k' h e => nij e ek (by omega) (by omega)
  have wd := wrd_hand W p4 hk
  refine g_wordOf W C p k ep ek hp hk ?_
  have z := c_chk (T := XR [1, 2] (f_X8_letter x y u) 2 I J) (F := f_X6_letterAt (lN (pkN (I 12 2) (wA p k + 1) (mLen (I 12 2) p k))) u I J (fun (v : Int32) (I_6 : MI) (J_7 : MJ) => AG (f_X8_letter x y u) v I_6 J_7)) (x := u) (y := nI (mLen (I 12 2) p k)) (n := mLen (I 12 2) p k) (by omega) rfl
    (fun j hj ej => k_letter (wA p k + 1) _ j wd rfl ej hj (fun J2 e2 e3 => mc_letter W (fun p' k' j' hp' ep' hk' ek' hj' ej' I' t => post_of e3 ⟨t.2, by
      have s1 := sp p' hp' ep'
      subst s1
      have s2 := sk k' hk' ek'
      subst s2
      rw [nij ej ej' (by omega) (by omega)], INV_m (INV_13 V e2) t.1, t.1.2.2.2.2.2 13 (by decide)⟩) (fun z => absurd ep (z p hp)) (fun p' hp' ep' z => by rw [sp p' hp' ep'] at z; exact absurd ek (z k hk)) (fun p' k' hp' ep' hk' ek' z => by
      have s1 := sp p' hp' ep'
      subst s1
      have s2 := sk k' hk' ek'
      subst s2
      exact absurd ej (z j hj))))
    (fun z => ⟨1, rfl, mc_letter W (fun p' k' j' hp' ep' hk' ek' hj' ej' => by
      have s1 := sp p' hp' ep'
      subst s1
      have s2 := sk k' hk' ek'
      subst s2
      exact absurd ej' (z j' hj')) (fun z2 => absurd ep (z2 p hp)) (fun p' hp' ep' z2 => by rw [sp p' hp' ep'] at z2; exact absurd ek (z2 k hk)) (fun _ _ _ _ _ _ _ I' t => bad_of (by decide +kernel) ⟨t.2, INV_m V t.1⟩)⟩)
  exact ⟨z.1, fun w => k_len (wA p k + 1) _ wd rfl (z.2 w)⟩
theorem b_play {x y u : Int32} (V : INV I J) : f_X7_play x y u I J (AG (f_X8_play x y u)) (XR [1, 0, 2] (f_X8_play x y u)) := by
  obtain ⟨⟨W, Lv, C⟩, -⟩ := id V
  obtain ⟨L, T, G⟩ := RK_tok C.2.2.2.2
  have b6 := wf_rows W
  have t5 : dn (I 12 2) 5 < dn (I 12 2) 1 := W.2.1.2.2.2.2.2.1
  have m8 := (W.2.2.2 _ (wf_turn W)).1
  refine k_place W C (e_turn W C) t5 (fun k hk ek => ?_) (fun z => ⟨0, rfl, mc_play W T (fun k r hk ek => absurd ek (z k hk)) (fun k r hk ek => absurd ek (z k hk)) (fun _ I' t => bad_of (by decide +kernel) ⟨t.2, INV_m V t.1⟩) (fun k hk ek => absurd ek (z k hk)) (fun k r hk ek => absurd ek (z k hk)) (fun k r w hk ek => absurd ek (z k hk))⟩)
  refine k_row W C (fun r hr er => ?_) (fun z => ⟨0, rfl, mc_play W T (fun k' r hk' ek' hr er => absurd er (z r hr)) (fun k' r hk' ek' hr er => absurd er (z r hr)) (fun z2 => absurd ek (z2 k hk)) (fun _ _ _ _ I' t => bad_of (by decide +kernel) ⟨t.2, INV_m V t.1⟩) (fun k' r hk' ek' hr er => absurd er (z r hr)) (fun k' r w hk' ek' hr er => absurd er (z r hr))⟩)
  have r6 : r < 6 := by omega
  have bad : (∀ w, 0 ≤ w → w ≤ 1 → u ≠ nI w) → XR [1, 0, 2] (f_X8_play x y u) 0 I J := fun z => ⟨1, rfl, mc_play W T (fun k' r' hk' ek' hr' er' e0 => absurd e0 (z 0 (by decide) (by decide))) (fun k' r' hk' ek' hr' er' e1 => absurd e1 (z 1 (by decide) (by decide))) (fun z2 => absurd ek (z2 k hk)) (fun k' hk' ek' z2 => absurd er (z2 r hr)) (fun _ _ _ _ _ _ _ I' t => bad_of (by decide +kernel) ⟨t.2, INV_m V t.1⟩) (fun k' r' w hk' ek' hr' er' hw ew => absurd ew (z w (Nat.zero_le _) (by omega)))⟩
  have same : ∀ k' r', k' < mMany (I 12 2) (dn (I 12 2) 5) → x = nI k' → r' < dn (I 12 2) 0 → y = nI r' → k' = k ∧ r' = r := fun k' r' h1 e1 h2 e2 => ⟨nij e1 ek (by omega) (by omega), nij e2 er (by omega) (by omega)⟩
  have lt := mRef_lt (I 12 2) k r
  refine c_rng (lo := 0) (hi := 1) (by decide) (by decide) rfl rfl (fun w _ hw ew => ?_) bad
  have n01 : ∀ w', w' < 2 → u ≠ nI w' → w' ≠ w := fun w' _ h e => h (by rw [e]; exact ew)
  refine g_obstacleNow W C k r ek er hk hr (q_eq (mRef (I 12 2) k r) 0 (by omega) (by decide) rfl rfl (fun q => ?_) (fun q => ⟨2, rfl, mc_play W T (fun k' r' hk' ek' hr' er' _ q' => ?_) (fun k' r' hk' ek' hr' er' _ q' => ?_) (fun z2 => absurd ek (z2 k hk)) (fun k' hk' ek' z2 => absurd er (z2 r hr)) (fun k' r' hk' ek' hr' er' z2 => absurd ew (z2 w (by omega))) (fun _ _ _ _ _ _ _ _ _ _ I' t => bad_of (by decide +kernel) ⟨t.2, INV_m V t.1⟩)⟩))
  · refine q_eq w 0 (by omega) (by decide) ew rfl (fun q0 => ?_) (fun q1 => ?_)
    · subst q0
      refine g_wordOf W C (dn (I 12 2) 5) k (e_turn W C) ek t5 hk (g_pointsFor W C (wA (dn (I 12 2) 5) k + 1) _ r (wrd_hand W (wf_turn W) hk) rfl er hr (fun J2 e2 e3 => ?_))
      refine mc_play W T (fun k' r' hk' ek' hr' er' _ _ I' t => ?_) (fun k' r' hk' ek' hr' er' e1 => absurd (nij ew e1 (by decide) (by decide)) (by decide)) (fun z2 => absurd ek (z2 k hk)) (fun k' hk' ek' z2 => absurd er (z2 r hr)) (fun k' r' hk' ek' hr' er' z2 => absurd ew (z2 0 (by decide))) (fun k' r' w' hk' ek' hr' er' _ _ q' => ?_)
      · obtain ⟨s1, s2⟩ := same k' r' hk' ek' hr' er'
        subst s1 s2
        exact post_of e3 ⟨t.2, rfl, INV_m (INV_13 V e2) t.1, t.1.2.2.2.2.2 13 (by decide)⟩
      · obtain ⟨s1, s2⟩ := same k' r' hk' ek' hr' er'
        subst s1 s2
        exact absurd q q'
    · refine g_rankOf W C L T G k r ek er hk hr (mRef_fit q) (fun v I1 hs hv J2 e2 e3 => ?_)
      have f : fR I I1 J J := fR_sI2 hs
      have V1 := INV_13 (INV_f V f) e2
      have e12 : I1 12 2 = I 12 2 := by rw [f.1 12 (by decide) (by decide) (by decide)]
      refine mc_play (L := L) (by rw [e12]; exact W) (by rw [e12]; exact T) (fun k' r' hk' ek' hr' er' e0 => ?_) (fun k' r' hk' ek' hr' er' _ _ v' I' J' t hv' => ?_) (fun z2 => absurd ek (z2 k (by rw [e12]; exact hk))) (fun k' hk' ek' z2 => absurd er (z2 r (by rw [e12]; exact hr))) (fun k' r' hk' ek' hr' er' z2 => absurd ew (z2 w (by omega))) (fun k' r' w' hk' ek' hr' er' _ _ q' => ?_)
      · exact absurd (nij ew e0 (by omega) (by decide)) q1
      · rw [e12] at hk' hr' hv'
        obtain ⟨s1, s2⟩ := same k' r' hk' ek' hr' er'
        subst s1 s2
        exact post_of e3 ⟨t.2, Int32.toInt_inj.mp (hv.trans hv'.symm), INV_m V1 t.1, t.1.2.2.2.2.2 13 (by decide)⟩
      · rw [e12] at hk' hr' q'
        obtain ⟨s1, s2⟩ := same k' r' hk' ek' hr' er'
        subst s1 s2
        exact absurd q q'
  · obtain ⟨s1, s2⟩ := same k' r' hk' ek' hr' er'
    subst s1 s2
    exact absurd q' q
  · obtain ⟨s1, s2⟩ := same k' r' hk' ek' hr' er'
    subst s1 s2
    exact absurd q' q
end NS3
