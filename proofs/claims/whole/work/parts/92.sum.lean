/-! A RANK'S EXPRESSION: what is read -/
def em (d : SD) (v : Nat) : SD := upd (upd d (602 + dn d 9) (nI v)) 9 (nI (dn d 9 + 1))
def emT (d : SD) : TK → SD
  | (0, v) => em (em d 0) v
  | (1, k) => em (em d 1) k
  | (o + 2, _) => em d (o + 2)
abbrev SS : Type := Nat × SD × List TK
def factOf (tx : Nat → Nat) (n j k : Nat) : Option Nat := if runIs tx n 8 j k = true then some 0 else if runIs tx n 9 j k = true then some 1 else if runIs tx n 10 j k = true then some 2 else if runIs tx n 11 j k = true then some 3 else if runIs tx n 12 j k = true then some 4 else if runIs tx n 6 j k = true then some 5 else none
def spFact (tx : Nat → Nat) (n j k : Nat) (d : SD) (L : List TK) : Except ERR SS := match factOf tx n j k with
  | some f => .ok (k, emT d (1, f), L ++ [(1, f)])
  | none => .error (-2, j)
def spFac (tx : Nat → Nat) (n D : Nat) (rs : Nat → SD → List TK → Except ERR SS) (i : Nat) (d : SD) (L : List TK) : Except ERR SS :=
  if bt tx n (skp tx n i) = 40 then (if D = 0 then .error (-6, skp tx n i) else exB (rs (skp tx n i + 1) d L) (fun s => exB (spSign tx n 41 s.1) (fun j => .ok (j, s.2.1, s.2.2))))
  else if isD (bt tx n (skp tx n i)) = true then exB (spNum tx n 0 9999 i) (fun q => .ok (q.1, emT d (0, q.2), L ++ [(0, q.2)]))
  else exB (spRun tx n i) (fun k => spFact tx n (skp tx n i) k d L)
def pD (t : Nat) (d : SD) : SD := if t = 0 then d else emT d (t, 0)
def pL (t : Nat) (L : List TK) : List TK := if t = 0 then L else L ++ [(t, 0)]
def spA (tx : Nat → Nat) (n D : Nat) (rs : Nat → SD → List TK → Except ERR SS) : Nat → Nat → Nat → Nat → SD → List TK → Except ERR SS
  | 0, _, _, i, d, L => .ok (i, d, L)
  | f + 1, t, s, i, d, L => exB (spFac tx n D rs i d L) (fun q =>
      if bt tx n (skp tx n q.1) = 42 then spA tx n D rs f 4 s (skp tx n q.1 + 1) (pD t q.2.1) (pL t q.2.2)
      else if bt tx n (skp tx n q.1) = 47 then spA tx n D rs f 5 s (skp tx n q.1 + 1) (pD t q.2.1) (pL t q.2.2)
      else if bt tx n (skp tx n q.1) = 43 then spA tx n D rs f 0 2 (skp tx n q.1 + 1) (pD s (pD t q.2.1)) (pL s (pL t q.2.2))
      else if bt tx n (skp tx n q.1) = 45 then spA tx n D rs f 0 3 (skp tx n q.1 + 1) (pD s (pD t q.2.1)) (pL s (pL t q.2.2))
      else .ok (skp tx n q.1, pD s (pD t q.2.1), pL s (pL t q.2.2)))
def spSum (tx : Nat → Nat) (n : Nat) : Nat → Nat → SD → List TK → Except ERR SS
  | 0, i, d, L => spA tx n 0 (fun _ _ _ => .error (-6, 0)) 601 0 0 i d L
  | D + 1, i, d, L => spA tx n (D + 1) (spSum tx n D) 601 0 0 i d L
/-- the draft's codes are those of the tokens -/
def RKd (d : SD) (L : List TK) : Prop := dn d 9 = (L.flatMap tkM).length ∧ ∀ q, q < (L.flatMap tkM).length → dn d (602 + q) = (L.flatMap tkM).getD q 0
/-- the same outside of the codes -/
def eqc (d d' : SD) : Prop := ∀ q, q < 602 → q ≠ 9 → d' q = d q
def TI (n u i : Nat) (d : SD) (L : List TK) (k : Nat) : Prop := tkD L 0 = some k ∧ L.length + u + 4 ≤ i ∧ i ≤ n ∧ n ≤ 600 ∧ DW d ∧ RKd d L
theorem eqc.rfl {d : SD} : eqc d d := fun _ _ _ => Eq.refl _
theorem eqc.trans {d d' d'' : SD} (h : eqc d d') (g : eqc d' d'') : eqc d d'' := fun q a b => (g q a b).trans (h q a b)
theorem tkD_app (x : TK) : ∀ (L : List TK) (a : Nat), tkD (L ++ [x]) a = (tkD L a).bind (fun m => tkD [x] m)
  | [], _ => rfl
  | (0, v) :: L, a => by
    show (if v ≤ 9999 ∧ a < 11 then tkD (L ++ [x]) (a + 1) else none) = Option.bind (if v ≤ 9999 ∧ a < 11 then tkD L (a + 1) else none) _
    split
    · exact tkD_app x L _
    · rfl
  | (1, v) :: L, a => by
    show (if v ≤ 5 ∧ a < 11 then tkD (L ++ [x]) (a + 1) else none) = Option.bind (if v ≤ 5 ∧ a < 11 then tkD L (a + 1) else none) _
    split
    · exact tkD_app x L _
    · rfl
  | (o + 2, v) :: L, a => by
    show (if o ≤ 3 ∧ 2 ≤ a then tkD (L ++ [x]) (a - 1) else none) = Option.bind (if o ≤ 3 ∧ 2 ≤ a then tkD L (a - 1) else none) _
    split
    · exact tkD_app x L _
    · rfl
theorem tkM_le : ∀ (L : List TK), (L.flatMap tkM).length ≤ 2 * L.length
  | [] => Nat.le_refl _
  | (0, v) :: L => by
    have := tkM_le L
    rw [List.flatMap_cons, List.length_append]
    show 2 + _ ≤ 2 * (L.length + 1)
    omega
  | (1, v) :: L => by
    have := tkM_le L
    rw [List.flatMap_cons, List.length_append]
    show 2 + _ ≤ 2 * (L.length + 1)
    omega
  | (o + 2, v) :: L => by
    have := tkM_le L
    rw [List.flatMap_cons, List.length_append]
    show 1 + _ ≤ 2 * (L.length + 1)
    omega
theorem DW_hi {d : SD} (D : DW d) {c v : Nat} (hc : 602 ≤ c) (hv : v < 1048576) : DW (upd d c (nI v)) := by
  obtain ⟨g, A, R, P⟩ := D
  have u : ∀ k, k < 602 → upd d c (nI v) k = d k := fun k q => upd_ot _ _ (by omega)
  have un : ∀ k, k < 602 → dn (upd d c (nI v)) k = dn d k := fun k q => dn_ot d _ (by omega)
  refine ⟨gd_upd g c _ (fun _ => gv v hv), ?_, fun r hr => ?_, fun p hp => ?_⟩
  · rw [un 0 (by decide), un 1 (by decide), un 2 (by decide), un 3 (by decide), un 4 (by decide), u 5 (by decide), u 6 (by decide), u 7 (by decide)]
    exact A
  · have e0 : mTil (upd d c (nI v)) r = mTil d r := un _ (show 36 + 45 * r < 602 by omega)
    rw [e0, u _ (show 36 + 45 * r + 1 < 602 by omega), u _ (show 36 + 45 * r + 2 < 602 by omega), u _ (show 36 + 45 * r + 3 < 602 by omega), u _ (show 36 + 45 * r + 4 < 602 by omega), un 0 (by decide)]
    exact R r hr
  · obtain ⟨p1, p2, p3⟩ := P p hp
    have em : mMany (upd d c (nI v)) p = mMany d p := un _ (show 306 + 74 * p + 1 < 602 by omega)
    rw [em]
    refine ⟨(u _ (show 306 + 74 * p < 602 by omega)).trans p1, p2, fun k hk => ?_⟩
    have el : mLen (upd d c (nI v)) p k = mLen d p k := un _ (show 306 + 74 * p + 2 + 9 * k < 602 by omega)
    rw [el]
    have k3 := p3 k hk
    refine ⟨k3.1, fun j hj => ?_⟩
    rw [un _ (show 306 + 74 * p + 2 + 9 * k + 1 + j < 602 by omega)]
    exact k3.2 j hj
section EM
variable {d : SD}
theorem em_9 (v : Nat) (h : dn d 9 < 1200) : dn (em d v) 9 = dn d 9 + 1 := dn_at _ (by omega)
theorem em_eqc (v : Nat) : eqc d (em d v) := fun q h1 h2 => by
  unfold em
  rw [upd_ot _ _ h2, upd_ot _ _ (by omega)]
theorem em_old (v : Nat) {q : Nat} (h : q < dn d 9) : dn (em d v) (602 + q) = dn d (602 + q) := by
  unfold em
  rw [dn_ot _ _ (by omega), dn_ot _ _ (by omega)]
theorem em_new {v : Nat} (hv : v < 1048576) : dn (em d v) (602 + dn d 9) = v := by
  unfold em
  rw [dn_ot _ _ (by omega)]
  exact dn_at _ (by omega)
theorem em_DW {v : Nat} (D : DW d) (h : dn d 9 < 1200) (hv : v < 1048576) : DW (em d v) := DW_low (DW_hi D (by omega) hv) (by decide) (by omega)
def RKl (d : SD) (M : List Nat) : Prop := dn d 9 = M.length ∧ ∀ q, q < M.length → dn d (602 + q) = M.getD q 0
theorem RKl_em {M : List Nat} {v : Nat} (R : RKl d M) (h : M.length < 1200) (hv : v < 1048576) : RKl (em d v) (M ++ [v]) := by
  obtain ⟨r1, r2⟩ := R
  refine ⟨by rw [em_9 v (by omega), r1, List.length_append]; rfl, fun q hq => ?_⟩
  rw [List.length_append] at hq
  have hq2 : q < M.length + 1 := hq
  by_cases z : q = M.length
  · rw [z, ← r1, em_new hv, r1, List.getD_eq_getElem?_getD, List.getElem?_append_right (Nat.le_refl _), Nat.sub_self]
    rfl
  · rw [em_old v (by omega), r2 q (by omega), List.getD_eq_getElem?_getD, List.getD_eq_getElem?_getD, List.getElem?_append_left (by omega)]
end EM
/-- a token put behind the others -/
def okT (x : TK) (k : Nat) : Prop := (x.1 = 0 ∧ x.2 ≤ 9999 ∧ k < 11) ∨ (x.1 = 1 ∧ x.2 ≤ 5 ∧ k < 11) ∨ (2 ≤ x.1 ∧ x.1 ≤ 5 ∧ 2 ≤ k)
def afT (x : TK) (k : Nat) : Nat := if x.1 ≤ 1 then k + 1 else k - 1
theorem TI_push {n u i k : Nat} {d : SD} {L : List TK} {x : TK} (T : TI n (u + 1) i d L k) (ok : okT x k) : TI n u i (emT d x) (L ++ [x]) (afT x k) ∧ eqc d (emT d x) := by
  obtain ⟨t1, t2, t3, t4, t5, t6⟩ := T
  have len : (L ++ [x]).length = L.length + 1 := by rw [List.length_append]; rfl
  have m2 := tkM_le L
  have tk : tkD (L ++ [x]) 0 = tkD [x] k := by rw [tkD_app, t1]; rfl
  have fm : (L ++ [x]).flatMap tkM = L.flatMap tkM ++ tkM x := by rw [List.flatMap_append, List.flatMap_cons, List.flatMap_nil, List.append_nil]
  obtain ⟨a, v⟩ := x
  rcases ok with ⟨o1, o2, o3⟩ | ⟨o1, o2, o3⟩ | ⟨o1, o2, o3⟩
  · dsimp only at o1 o2
    subst o1
    have e1 := RKl_em (v := 0) t6 (by omega) (by decide)
    have l1 : (L.flatMap tkM ++ [0]).length = (L.flatMap tkM).length + 1 := by rw [List.length_append]; rfl
    have e2 := RKl_em (v := v) e1 (by omega) (by omega)
    have t6' := t6.1
    refine ⟨⟨?_, by rw [len]; omega, t3, t4, em_DW (em_DW t5 (by omega) (by decide)) (by rw [em_9 _ (by omega)]; omega) (by omega), ?_⟩, (em_eqc 0).trans (em_eqc v)⟩
    · rw [tk]
      show (if v ≤ 9999 ∧ k < 11 then some (k + 1) else none) = some (afT (0, v) k)
      rw [if_pos ⟨o2, o3⟩]
      rfl
    · unfold RKd
      rw [fm, show L.flatMap tkM ++ tkM (0, v) = (L.flatMap tkM ++ [0]) ++ [v] by rw [List.append_assoc]; rfl]
      exact e2
  · dsimp only at o1 o2
    subst o1
    have e1 := RKl_em (v := 1) t6 (by omega) (by decide)
    have l1 : (L.flatMap tkM ++ [1]).length = (L.flatMap tkM).length + 1 := by rw [List.length_append]; rfl
    have e2 := RKl_em (v := v) e1 (by omega) (by omega)
    have t6' := t6.1
    refine ⟨⟨?_, by rw [len]; omega, t3, t4, em_DW (em_DW t5 (by omega) (by decide)) (by rw [em_9 _ (by omega)]; omega) (by omega), ?_⟩, (em_eqc 1).trans (em_eqc v)⟩
    · rw [tk]
      show (if v ≤ 5 ∧ k < 11 then some (k + 1) else none) = some (afT (1, v) k)
      rw [if_pos ⟨o2, o3⟩]
      rfl
    · unfold RKd
      rw [fm, show L.flatMap tkM ++ tkM (1, v) = (L.flatMap tkM ++ [1]) ++ [v] by rw [List.append_assoc]; rfl]
      exact e2
  · dsimp only at o1 o2
    obtain ⟨b, rfl⟩ : ∃ b, a = b + 2 := ⟨a - 2, by omega⟩
    have e1 := RKl_em (v := b + 2) t6 (by omega) (by omega)
    have t6' := t6.1
    refine ⟨⟨?_, by rw [len]; omega, t3, t4, em_DW t5 (by omega) (by omega), ?_⟩, em_eqc (b + 2)⟩
    · rw [tk]
      show (if b ≤ 3 ∧ 2 ≤ k then some (k - 1) else none) = some (afT (b + 2, v) k)
      rw [if_pos ⟨by omega, o3⟩]
      unfold afT
      rw [if_neg (by dsimp only; omega)]
    · unfold RKd
      rw [fm]
      exact e1
theorem TI_to {n u u' i j k : Nat} {d : SD} {L : List TK} (T : TI n u i d L k) (hj : u' + i ≤ u + j) (hn : j ≤ n) : TI n u' j d L k := by
  obtain ⟨t1, t2, t3, t4, t5, t6⟩ := T
  exact ⟨t1, by omega, hn, t4, t5, t6⟩
