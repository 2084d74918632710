/-! A RANK'S EXPRESSION: the model's terms and sums -/
/-- behind a term -/
def spR (tx : Nat → Nat) (n D : Nat) (sp : Nat → SD → List TK → Except ERR SS) (f s i : Nat) (d : SD) (L : List TK) : Except ERR SS :=
  if bt tx n (skp tx n i) = 43 then spA tx n D sp f 0 2 (skp tx n i + 1) (pD s d) (pL s L)
  else if bt tx n (skp tx n i) = 45 then spA tx n D sp f 0 3 (skp tx n i + 1) (pD s d) (pL s L)
  else .ok (skp tx n i, pD s d, pL s L)
/-- behind a factor -/
def spB (tx : Nat → Nat) (n D : Nat) (sp : Nat → SD → List TK → Except ERR SS) (f s i : Nat) (d : SD) (L : List TK) : Except ERR SS :=
  if bt tx n (skp tx n i) = 42 then spA tx n D sp f 4 s (skp tx n i + 1) d L
  else if bt tx n (skp tx n i) = 47 then spA tx n D sp f 5 s (skp tx n i + 1) d L
  else spR tx n D sp f s i d L
theorem spA_s {tx : Nat → Nat} {n D : Nat} {sp : Nat → SD → List TK → Except ERR SS} (f t s i : Nat) (d : SD) (L : List TK) : spA tx n D sp (f + 1) t s i d L = exB (spFac tx n D sp i d L) (fun q => spB tx n D sp f s q.1 (pD t q.2.1) (pL t q.2.2)) := rfl
section MS2
variable {tx : Nat → Nat} {n sn g : Nat} {hd : Bool}
variable {D : Nat} {rs : MI → MJ → (MI → MJ → Prop) → Prop} {sp : Nat → SD → List TK → Except ERR SS} {I0 : MI} {J : MJ} {Q : MI → MJ → Prop}
/-- a continuation that goes on as the text does -/
def GK (tx : Nat → Nat) (n sn g : Nat) (hd : Bool) (D : Nat) (sp : Nat → SD → List TK → Except ERR SS) (I0 : MI) (J : MJ) (Q : MI → MJ → Prop) (k0 f s : Nat) (K : MI → MJ → Prop) : Prop :=
  ∀ (i : Nat) (d : SD) (L : List TK) (I : MI), n < i + f + 1 → MSw tx n i d sn hd g (4 - D) I → mF I0 I → TI n (pe s) i d L (k0 + 1 + pe s) → ¬ bt tx n (skp tx n i) = 42 → ¬ bt tx n (skp tx n i) = 47 → FIN tx n sn g hd (4 - D) (spR tx n D sp f s i d L) I0 J Q → K I J
/-- one that lets an error through -/
def BK (I0 : MI) (J : MJ) (Q K : MI → MJ → Prop) : Prop := ∀ (c : Int32) (o : Nat) (I : MI), ME c o I0 I → (∀ I', ME c o I0 I' → Q I' J) → K I J
theorem FIN_f {w : Nat} {r : Except ERR SS} {I I' : MI} (F : FIN tx n sn g hd w r I J Q) (m : mF I I') : FIN tx n sn g hd w r I' J Q :=
  ⟨fun s es I2 S F2 => F.1 s es I2 S (m.trans F2), fun c o eo I2 e => F.2 c o eo I2 (m.ME e)⟩
theorem m_T (hD : D ≤ 4) (hrs : 1 ≤ D → mSumP tx n sn g hd (D - 1) sp rs) (hB : rsB rs) (hsp : 1 ≤ D → ∀ i d L k, k ≤ 2 * (5 - D) → TI n 0 i d L k → ∀ s, sp i d L = .ok s → TO n 0 i d L k s) {k0 s : Nat} (hk : k0 ≤ 2 * (4 - D)) (hs : okO s) :
    ∀ (f : Nat) (K : MI → MJ → Prop), (∀ f', f' ≤ f → GK tx n sn g hd D sp I0 J Q k0 f' s K) → BK I0 J Q K → ∀ (m i : Nat) (d : SD) (L : List TK) (I : MI), f + 1 ≤ m → n < i + f + 1 → MSw tx n i d sn hd g (4 - D) I → mF I0 I → TI n (pe s) i d L (k0 + 1 + pe s) → FIN tx n sn g hd (4 - D) (spB tx n D sp f s i d L) I0 J Q → f_X8_term_L4 rs K m I J := by
  intro f
  have ps : pe s ≤ 1 := by unfold pe; split <;> omega
  induction f with
  | zero =>
    intro K hK hb m i d L I hm hn S F T G
    obtain ⟨m', rfl⟩ : ∃ m', m = m' + 1 := ⟨m - 1, by omega⟩
    have ni := S.1.2.1
    have ei : skp tx n i = i := by have := skp_ok (tx := tx) (n := n) ni; omega
    have eb : bt tx n (skp tx n i) = 256 := bt_end (by omega)
    show f_X8_term_B4 rs K _ I J
    refine m_good S.1 (q_f (by decide) (m_ahead S.1 (fun I1 a1 f1 _ => ?_)))
    have S1 := MSw_mo S f1 (by omega) a1
    rw [eb]
    refine q_f (by decide) (m_ahead a1 (fun I2 a2 f2 _ => ?_))
    have e2 : skp tx n (skp tx n i) = skp tx n i := skp_skp ni
    rw [e2] at a2 ⊢
    have S2 := MSw_mo S1 f2 (Nat.le_refl _) a2
    rw [eb]
    refine q_f (by decide) (hK 0 (Nat.le_refl _) (skp tx n i) d L I2 (by omega) S2 ((F.trans (mF_mo f1)).trans (mF_mo f2)) (TI_to T (by omega) (by omega)) (by rw [e2, eb]; decide) (by rw [e2, eb]; decide) ?_)
    unfold spB at G
    rw [eb, if_neg (by decide), if_neg (by decide)] at G
    unfold spR at G ⊢
    rw [e2]
    exact G
  | succ f ih =>
    intro K hK hb m i d L I hm hn S F T G
    obtain ⟨m', rfl⟩ : ∃ m', m = m' + 1 := ⟨m - 1, by omega⟩
    have n6 := S.1.1
    have ni := S.1.2.1
    have z := skp_ok (tx := tx) (n := n) ni
    have sk : skp tx n (skp tx n i) = skp tx n i := skp_skp ni
    have iff : ∀ s, s < 256 → (eB (bt tx n (skp tx n i)) = nI s ↔ bt tx n (skp tx n i) = s) := fun s hs => eB_eq (MA_le S.1 (skp tx n i)) hs
    -- an operator: the next factor, then the loop again
    have mul : ∀ (o : Nat) (v : Int32) (I1 : MI), 2 ≤ o → o ≤ 5 → bt tx n (skp tx n i) < 256 → MSw tx n (skp tx n i) d sn hd g (4 - D) I1 → mF I0 I1 → FIN tx n sn g hd (4 - D) (spA tx n D sp (f + 1) o s (skp tx n i + 1) d L) I0 J Q → (v = 0 → o = 5) → (¬ v = 0 → o = 4) → f_X8_term_J43 rs K (f_X8_term_L4 rs K m') v I1 J := by
      intro o v I1 o2 o5 hb256 S1 F1 G1 hv0 hv1 I22 e22
      have lt := bt_lt hb256 rfl
      have a22 : MA tx n (skp tx n i + 1) I22 := MA_put S1.1 (by omega) e22 (by rw [S1.1.2.2.2.1, nI_1])
      have S22 : MSw tx n (skp tx n i + 1) d sn hd g (4 - D) I22 := MSw_mo S1 (mo_put (Or.inl rfl) e22) (by omega) a22
      have F22 : mF I0 I22 := F1.trans (mF_put (Or.inl ⟨rfl, Or.inr (Or.inr rfl)⟩) e22)
      have po : pe o = 1 := if_neg (by omega)
      have T22 : TI n (pe o + pe s) (skp tx n i + 1) d L (k0 + pe o + pe s) := by rw [po]; exact TI_to T (by omega) (by omega)
      rw [spA_s] at G1
      have emit : ∀ (I3 : MI) (P : MI → MJ → Prop), (∀ x : Int32, x = nI o → f_X8_emit x I3 J P) → ((v = (0 : Int32) → f_X8_emit (5 : Int32) I3 J P) ∧ (¬ v = (0 : Int32) → f_X8_emit (4 : Int32) I3 J P)) := fun I3 P h => ⟨fun q => h 5 (by rw [hv0 q]; rfl), fun q => h 4 (by rw [hv1 q]; rfl)⟩
      refine m_fac hD hrs hB hsp (u := pe o + pe s) (k := k0 + pe o + pe s) (by omega) S22 T22 ⟨fun q eq I3 S3 F3 => ?_, fun c o' eq I3 E3 => ?_⟩
      · rw [eq, exB_ok] at G1
        have O := spFac_ok hD hsp (by omega) T22 eq
        obtain ⟨a1, a2, a3, a4, a5, a6⟩ := aft_ok (u0 := 0) (Or.inr ⟨o2, o5⟩) hs O
        have m2 := tkM_le q.2.2
        have tl := O.1.2.1
        have rk := O.1.2.2.2.2.2.1
        have qn := O.1.2.2.1
        have o2' := O.2.1
        have ed : pD o q.2.1 = em q.2.1 o := by
          unfold pD
          rw [if_neg (by omega)]
          obtain ⟨b, rfl⟩ : ∃ b, o = b + 2 := ⟨o - 2, by omega⟩
          rfl
        refine emit I3 _ (fun x ex => MSw_em S3 O.1.2.2.2.2.1 (by omega) ex (fun I4 S4 F4 => ?_))
        rw [← ed] at S4
        exact ih K (fun f' h => hK f' (by omega)) hb m' q.1 _ _ I4 (by omega) (by omega) S4 ((F22.trans F3).trans F4) a1 G1
      · rw [eq, exB_er] at G1
        refine emit I3 _ (fun x ex => bad_emit E3 ?_)
        obtain ⟨m'', rfl⟩ : ∃ m'', m' = m'' + 1 := ⟨m' - 1, by omega⟩
        show f_X8_term_B4 rs K _ I3 J
        exact bad_good E3 (q_t rfl (hb c o' I3 (F22.ME E3) (fun I' e => G1.2 c o' rfl I' e)))
    show f_X8_term_B4 rs K _ I J
    refine m_good S.1 (q_f (by decide) (m_ahead S.1 (fun I1 a1 f1 _ => ?_)))
    have S1 := MSw_mo S f1 z.1.1 a1
    have F1 := F.trans (mF_mo f1)
    unfold spB at G
    refine ⟨fun y => ?_, fun y => ?_⟩
    · have c := (iff 42 (by decide)).mp y
      rw [if_pos c] at G
      refine m_ahead a1 (fun I2 a2 f2 _ => ?_)
      rw [sk] at a2 ⊢
      have S2 := MSw_mo S1 f2 (Nat.le_refl _) a2
      exact q_t y (mul 4 1 I2 (by decide) (by decide) (by omega) S2 (F1.trans (mF_mo f2)) G (fun q => absurd q (by decide)) (fun _ => rfl))
    · have c42 : ¬ bt tx n (skp tx n i) = 42 := fun w => y ((iff 42 (by decide)).mpr w)
      rw [if_neg c42] at G
      refine m_ahead a1 (fun I2 a2 f2 _ => ?_)
      rw [sk] at a2 ⊢
      have S2 := MSw_mo S1 f2 (Nat.le_refl _) a2
      have F2 := F1.trans (mF_mo f2)
      refine ⟨fun y2 => ?_, fun y2 => ?_⟩
      · have c := (iff 47 (by decide)).mp y2
        rw [if_pos c] at G
        refine m_ahead a2 (fun I3 a3 f3 _ => ?_)
        rw [sk] at a3 ⊢
        have S3 := MSw_mo S2 f3 (Nat.le_refl _) a3
        exact q_f y (mul 5 0 I3 (by decide) (by decide) (by omega) S3 (F2.trans (mF_mo f3)) G (fun _ => rfl) (fun q => absurd rfl q))
      · have c47 : ¬ bt tx n (skp tx n i) = 47 := fun w => y2 ((iff 47 (by decide)).mpr w)
        rw [if_neg c47] at G
        refine hK (f + 1) (Nat.le_refl _) (skp tx n i) d L I2 (by omega) S2 F2 (TI_to T (by omega) (by omega)) (by rw [sk]; exact c42) (by rw [sk]; exact c47) ?_
        unfold spR at G ⊢
        rw [sk]
        exact G
theorem m_S (hD : D ≤ 4) (hrs : 1 ≤ D → mSumP tx n sn g hd (D - 1) sp rs) (hB : rsB rs) (hsp : 1 ≤ D → ∀ i d L k, k ≤ 2 * (5 - D) → TI n 0 i d L k → ∀ s, sp i d L = .ok s → TO n 0 i d L k s) {k0 : Nat} (hk : k0 ≤ 2 * (4 - D)) :
    ∀ (f m i : Nat) (d : SD) (L : List TK) (I : MI), f + 1 ≤ m → n < i + f + 1 → MSw tx n i d sn hd g (4 - D) I → mF I0 I → TI n 0 i d L (k0 + 1) → FIN tx n sn g hd (4 - D) (spR tx n D sp f 0 i d L) I0 J Q → f_X8_readSum_L4 rs Q m I J := by
  intro f
  induction f using Nat.strongRecOn with
  | _ f ih =>
    intro m i d L I hm hn S F T G
    obtain ⟨m', rfl⟩ : ∃ m', m = m' + 1 := ⟨m - 1, by omega⟩
    have n6 := S.1.1
    have ni := S.1.2.1
    have z := skp_ok (tx := tx) (n := n) ni
    have sk : skp tx n (skp tx n i) = skp tx n i := skp_skp ni
    have iff : ∀ s, s < 256 → (eB (bt tx n (skp tx n i)) = nI s ↔ bt tx n (skp tx n i) = s) := fun s hs => eB_eq (MA_le S.1 (skp tx n i)) hs
    have add : ∀ (o : Nat) (v : Int32) (I1 : MI), 2 ≤ o → o ≤ 5 → bt tx n (skp tx n i) < 256 → MSw tx n (skp tx n i) d sn hd g (4 - D) I1 → mF I0 I1 → FIN tx n sn g hd (4 - D) (spA tx n D sp f 0 o (skp tx n i + 1) d L) I0 J Q → (v = 0 → o = 3) → (¬ v = 0 → o = 2) → f_X8_readSum_J43 rs Q (f_X8_readSum_L4 rs Q m') v I1 J := by
      intro o v I1 o2 o5 hb256 S1 F1 G1 hv0 hv1 I22 e22
      have lt := bt_lt hb256 rfl
      obtain ⟨f', rfl⟩ : ∃ f', f = f' + 1 := ⟨f - 1, by omega⟩
      have a22 : MA tx n (skp tx n i + 1) I22 := MA_put S1.1 (by omega) e22 (by rw [S1.1.2.2.2.1, nI_1])
      have S22 : MSw tx n (skp tx n i + 1) d sn hd g (4 - D) I22 := MSw_mo S1 (mo_put (Or.inl rfl) e22) (by omega) a22
      have F22 : mF I0 I22 := F1.trans (mF_put (Or.inl ⟨rfl, Or.inr (Or.inr rfl)⟩) e22)
      have po : pe o = 1 := if_neg (by omega)
      have p0 : pe 0 = 0 := rfl
      have T22 : TI n (pe 0 + pe o) (skp tx n i + 1) d L (k0 + pe 0 + pe o) := by rw [po]; exact TI_to T (by show 0 + 1 + i ≤ 0 + (skp tx n i + 1); omega) (by omega)
      rw [spA_s] at G1
      have emit : ∀ (I3 : MI) (P : MI → MJ → Prop), (∀ x : Int32, x = nI o → f_X8_emit x I3 J P) → ((v = (0 : Int32) → f_X8_emit (3 : Int32) I3 J P) ∧ (¬ v = (0 : Int32) → f_X8_emit (2 : Int32) I3 J P)) := fun I3 P h => ⟨fun q => h 3 (by rw [hv0 q]; rfl), fun q => h 2 (by rw [hv1 q]; rfl)⟩
      have Kb : ∀ (c : Int32) (o' : Nat) (I3 : MI), ME c o' I0 I3 → (∀ I', ME c o' I0 I' → Q I' J) → ((v = (0 : Int32) → f_X8_readSum_J68 rs Q (f_X8_readSum_L4 rs Q m') (3 : Int32) I3 J) ∧ (¬ v = (0 : Int32) → f_X8_readSum_J68 rs Q (f_X8_readSum_L4 rs Q m') (2 : Int32) I3 J)) := by
        intro c o' I3 E3 h
        refine emit I3 _ (fun x ex => bad_emit E3 ?_)
        obtain ⟨m'', rfl⟩ : ∃ m'', m' = m'' + 1 := ⟨m' - 1, by omega⟩
        show f_X8_readSum_B4 rs Q _ I3 J
        exact bad_good E3 (q_t rfl (h I3 E3))
      refine m_fac hD hrs hB hsp (u := pe 0 + pe o) (k := k0 + pe 0 + pe o) (by omega) S22 T22 ⟨fun q eq I3 S3 F3 => ⟨f' + 1, ?_⟩, fun c o' eq I3 E3 => ⟨1, ?_⟩⟩
      · rw [eq, exB_ok] at G1
        have O := spFac_ok hD hsp (by omega) T22 eq
        have o2' := O.2.1
        refine m_T (s := o) (k0 := k0) hD hrs hB hsp hk (Or.inr ⟨o2, o5⟩) f' _ (fun f'' hf'' => fun i4 d4 L4 I4 hn4 S4 F4 T4 _ _ G4 => ?_) (fun c o' I4 E4 h => Kb c o' I4 E4 h) (f' + 1) q.1 _ _ I3 (Nat.le_refl _) (by omega) S3 (F22.trans F3) (TI_to (by rw [p0] at O; rw [show k0 + 1 + pe o = k0 + 0 + pe o + 1 by omega]; exact O.1) (by omega) O.1.2.2.1) G1
        have m2 := tkM_le L4
        have tl := T4.2.1
        have rk := T4.2.2.2.2.2.1
        have qn := T4.2.2.1
        have ed : pD o d4 = em d4 o := by
          unfold pD
          rw [if_neg (by omega)]
          obtain ⟨b, rfl⟩ : ∃ b, o = b + 2 := ⟨o - 2, by omega⟩
          rfl
        have tp := TI_p (w := 0) (m := k0 + 1) (Or.inr ⟨o2, o5⟩) (TI_to T4 (by omega) T4.2.2.1) (by omega)
        refine emit I4 _ (fun x ex => MSw_em S4 T4.2.2.2.2.1 (by omega) ex (fun I5 S5 F5 => ?_))
        rw [← ed] at S5
        exact ih f'' (by omega) m' i4 _ _ I5 (by omega) hn4 S5 (F4.trans F5) tp.1 (by
          unfold spR at G4 ⊢
          exact G4)
      · rw [eq, exB_er] at G1
        show f_X8_term_B4 rs _ _ I3 J
        exact bad_good E3 (q_t rfl (Kb c o' I3 (F22.ME E3) (fun I' e => G1.2 c o' rfl I' e)))
    show f_X8_readSum_B4 rs Q _ I J
    refine m_good S.1 (q_f (by decide) (m_ahead S.1 (fun I1 a1 f1 _ => ?_)))
    have S1 := MSw_mo S f1 z.1.1 a1
    have F1 := F.trans (mF_mo f1)
    unfold spR at G
    refine ⟨fun y => ?_, fun y => ?_⟩
    · have c := (iff 43 (by decide)).mp y
      rw [if_pos c] at G
      refine m_ahead a1 (fun I2 a2 f2 _ => ?_)
      rw [sk] at a2 ⊢
      have S2 := MSw_mo S1 f2 (Nat.le_refl _) a2
      exact q_t y (add 2 1 I2 (by decide) (by decide) (by omega) S2 (F1.trans (mF_mo f2)) G (fun q => absurd q (by decide)) (fun _ => rfl))
    · have c43 : ¬ bt tx n (skp tx n i) = 43 := fun w => y ((iff 43 (by decide)).mpr w)
      rw [if_neg c43] at G
      refine m_ahead a1 (fun I2 a2 f2 _ => ?_)
      rw [sk] at a2 ⊢
      have S2 := MSw_mo S1 f2 (Nat.le_refl _) a2
      have F2 := F1.trans (mF_mo f2)
      refine ⟨fun y2 => ?_, fun y2 => ?_⟩
      · have c := (iff 45 (by decide)).mp y2
        rw [if_pos c] at G
        refine m_ahead a2 (fun I3 a3 f3 _ => ?_)
        rw [sk] at a3 ⊢
        have S3 := MSw_mo S2 f3 (Nat.le_refl _) a3
        exact q_f y (add 3 0 I3 (by decide) (by decide) (by omega) S3 (F2.trans (mF_mo f3)) G (fun _ => rfl) (fun q => absurd rfl q))
      · have c45 : ¬ bt tx n (skp tx n i) = 45 := fun w => y2 ((iff 45 (by decide)).mpr w)
        rw [if_neg c45] at G
        exact G.1 _ rfl I2 S2 F2
theorem rsB_sum : ∀ F, 1 ≤ F → rsB (f_X8_readSum F) := by
  intro F hF c o I0 I J Q E h
  obtain ⟨F', rfl⟩ : ∃ F', F = F' + 1 := ⟨F - 1, by omega⟩
  show f_X8_readSum_S (f_X8_readSum F') I J Q
  unfold f_X8_readSum_S f_X8_term
  refine bad_factor E ⟨1, ?_⟩
  show f_X8_term_B4 _ _ _ I J
  refine bad_good E (q_t rfl ⟨1, ?_⟩)
  show f_X8_readSum_B4 _ _ _ I J
  exact bad_good E (q_t rfl h)
theorem m_sumS (hD : D ≤ 4) (hrs : 1 ≤ D → mSumP tx n sn g hd (D - 1) sp rs) (hB : rsB rs) (hsp : 1 ≤ D → ∀ i d L k, k ≤ 2 * (5 - D) → TI n 0 i d L k → ∀ s, sp i d L = .ok s → TO n 0 i d L k s) {i k : Nat} {d : SD} {L : List TK} {I : MI} (hk : k ≤ 2 * (4 - D)) (S : MSw tx n i d sn hd g (4 - D) I) (T : TI n 0 i d L k) (G : FIN tx n sn g hd (4 - D) (spA tx n D sp 601 0 0 i d L) I J Q) : f_X8_readSum_S rs I J Q := by
  have n6 := S.1.1
  rw [spA_s] at G
  unfold f_X8_readSum_S f_X8_term
  refine m_fac hD hrs hB hsp (u := 0) (k := k) (by omega) S T ⟨fun q eq I3 S3 F3 => ⟨601, ?_⟩, fun c o eq I3 E3 => ⟨1, ?_⟩⟩
  · rw [eq, exB_ok] at G
    have O := spFac_ok hD hsp (by omega) T eq
    have o2 := O.2.1
    refine m_T (I0 := I) (s := 0) (k0 := k) hD hrs hB hsp hk (Or.inl rfl) 600 _ (fun f'' hf'' => fun i4 d4 L4 I4 hn4 S4 F4 T4 _ _ G4 => ⟨f'' + 1, m_S hD hrs hB hsp (k0 := k) hk f'' (f'' + 1) i4 d4 L4 I4 (Nat.le_refl _) hn4 S4 F4 T4 G4⟩) (fun c o I4 E4 h => ⟨1, ?_⟩) 601 q.1 _ _ I3 (Nat.le_refl _) (by omega) S3 F3 O.1 G
    show f_X8_readSum_B4 rs _ _ I4 J
    exact bad_good E4 (q_t rfl (h I4 E4))
  · rw [eq, exB_er] at G
    show f_X8_term_B4 rs _ _ I3 J
    refine bad_good E3 (q_t rfl ⟨1, ?_⟩)
    show f_X8_readSum_B4 rs _ _ I3 J
    exact bad_good E3 (q_t rfl (G.2 c o rfl I3 E3))
end MS2
theorem m_sum {tx : Nat → Nat} {n sn g : Nat} {hd : Bool} : ∀ (D F : Nat), D ≤ 4 → D + 2 ≤ F → mSumP tx n sn g hd D (spSum tx n D) (f_X8_readSum F)
  | 0, F, hD, hF => by
    intro i k d L I J Q hk S T G
    obtain ⟨F', rfl⟩ : ∃ F', F = F' + 1 := ⟨F - 1, by omega⟩
    exact m_sumS (rs := f_X8_readSum F') (sp := fun _ _ _ => .error (-6, 0)) hD (fun h => absurd h (by omega)) (rsB_sum F' (by omega)) (fun h => absurd h (by omega)) hk S T G
  | D + 1, F, hD, hF => by
    intro i k d L I J Q hk S T G
    obtain ⟨F', rfl⟩ : ∃ F', F = F' + 1 := ⟨F - 1, by omega⟩
    exact m_sumS (rs := f_X8_readSum F') (sp := spSum tx n D) hD (fun _ => m_sum D F' (by omega) (by omega)) (rsB_sum F' (by omega)) (fun _ i d L k hk T s e => spSum_ok D (by omega) i d L k (by omega) T s e) hk S T G
