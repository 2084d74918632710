/-! A SETUP BEING READ: the model's draft, and the class' game beside it -/
abbrev SD : Type := Nat → Int32
def DW (d : SD) : Prop :=
  gd d ∧ (dn d 0 ≤ 6 ∧ (2 ≤ dn d 1 ∧ dn d 1 ≤ 4) ∧ (1 ≤ dn d 2 ∧ dn d 2 ≤ 4) ∧ dn d 3 ≤ 9 ∧ dn d 4 ≤ 99 ∧ d 5 = 0 ∧ d 6 = 0 ∧ d 7 = 0) ∧
  (∀ r, r < 6 → mTil d r ≤ 40 ∧ d (rA r + 1) = 0 ∧ d (rA r + 2) = 0 ∧ d (rA r + 4) = 0 ∧ (d (rA r + 3) = -1 ∨ d (rA r + 3) = 0) ∧ (r < dn d 0 → d (rA r + 3) = -1 ∧ 1 ≤ mTil d r)) ∧
  ∀ p, p < 4 → d (pA p) = 0 ∧ mMany d p ≤ 8 ∧ ∀ k, k < mMany d p → (1 ≤ mLen d p k ∧ mLen d p k ≤ 8) ∧ ∀ j, j < mLen d p k → dn d (wA p k + 1 + j) < 26
def GG (I : MI) (d : SD) (g : Nat) : Prop := ∃ F : Nat → Nat, ∀ x, x < 26 → dn d (10 + x) ≤ g ∧ (dn d (10 + x) = 0 → I 10 4 (x + 1) = nI (x + 1)) ∧ (¬ dn d (10 + x) = 0 → F (dn d (10 + x)) < 26 ∧ I 10 4 (x + 1) = nI (F (dn d (10 + x)) + 1) ∧ dn d (10 + F (dn d (10 + x))) = dn d (10 + x))
def RR (I : MI) (J : MJ) (d : SD) (g : Nat) : Prop :=
  (I 10 1 3 = d 0 ∧ I 10 1 4 = d 1 ∧ I 10 1 5 = d 2 ∧ I 10 1 6 = d 3 ∧ I 10 1 7 = d 4 ∧ I 10 0 9 = 0 ∧ I 10 0 10 = 0 ∧ I 10 0 11 = 0) ∧ GG I d g ∧
  (∀ r, r < 6 → I 10 8 r = 0 ∧ I 10 9 r = 0 ∧ I 10 11 r = -1 ∧ J 10 10 r = 0 ∧ (r < dn d 0 → I 10 3 r = d (rA r))) ∧
  ∀ p, p < 4 → I 10 13 p = d (pA p + 1) ∧ I 10 14 p = 0 ∧ ∀ k, k < mMany d p → J 10 12 (8 * p + k) = lN (pkN d (wA p k + 1) (mLen d p k))
def GM (I : MI) (d : SD) : Prop := ∃ gm, gm < 2 ^ 27 ∧ I 11 4 10 = nI gm ∧ ∀ x, x < 26 → gm.testBit (x + 1) = decide (¬ dn d (10 + x) = 0)
/-- the class' state while it reads: place, draft, tokens of the rank, what was told, whether a hand was, how many groups -/
def KS (tx : Nat → Nat) (n i : Nat) (d : SD) (L : List TK) (sn : Nat) (hd : Bool) (g : Nat) (I : MI) (J : MJ) : Prop := KA tx n i I ∧ (sn < 32 ∧ I 11 4 8 = nI sn) ∧ I 11 4 9 = (if hd then 1 else 0) ∧ GM I d ∧ RR I J d g ∧ gTok I 10 L
def MS (tx : Nat → Nat) (n i : Nat) (d : SD) (sn : Nat) (hd : Bool) (g : Nat) (I : MI) : Prop := MA tx n i I ∧ (sn < 32 ∧ I 12 0 15 = nI sn) ∧ I 12 0 16 = (if hd then 1 else 0) ∧ (I 12 0 17 = nI g ∧ g ≤ i) ∧ I 12 3 = d ∧ I 12 0 14 = 0
/-- what reading leaves alone -/
def kF (I I' : MI) (J J' : MJ) : Prop := (∀ b r, b ≠ 10 → ¬ (b = 11 ∧ r = 4) → I' b r = I b r) ∧ (∀ b, b ≠ 10 → J' b = J b) ∧ ∀ k, (k ≤ 3 ∨ k = 5) → I' 11 4 k = I 11 4 k
def kE (c : Int32) (o : Nat) (I I' : MI) (J J' : MJ) : Prop := ER c o I I' ∧ ∀ b, b ≠ 10 → J' b = J b
def mF (I I' : MI) : Prop := (∀ b r, ¬ (b = 12 ∧ (r = 0 ∨ r = 3)) → I' b r = I b r) ∧ ∀ k, (k ≤ 2 ∨ (6 ≤ k ∧ k ≤ 12)) → I' 12 0 k = I 12 0 k
theorem kF.rfl {I : MI} {J : MJ} : kF I I J J := ⟨fun _ _ _ _ => Eq.refl _, fun _ _ => Eq.refl _, fun _ _ => Eq.refl _⟩
theorem kF.trans {I I' I'' : MI} {J J' J'' : MJ} (h : kF I I' J J') (g : kF I' I'' J' J'') : kF I I'' J J'' := ⟨fun b r a c => (g.1 b r a c).trans (h.1 b r a c), fun b a => (g.2.1 b a).trans (h.2.1 b a), fun k a => (g.2.2 k a).trans (h.2.2 k a)⟩
theorem kF.kE {I I' I'' : MI} {J J' J'' : MJ} {c : Int32} {o : Nat} (h : kF I I' J J') (g : kE c o I' I'' J' J'') : kE c o I I'' J J'' := ⟨⟨fun b r a m => (g.1.1 b r a m).trans (h.1 b r a m), g.1.2⟩, fun b a => (g.2 b a).trans (h.2.1 b a)⟩
theorem kF_fo {I I' : MI} {J : MJ} (h : fo I I') : kF I I' J J := ⟨fun b r _ n => h.1 b r n, fun _ _ => Eq.refl _, fun k hk => h.2 k (by omega) (by omega) (by omega)⟩
theorem kE_er {I I' : MI} {J : MJ} {c : Int32} {o : Nat} (h : ER c o I I') : kE c o I I' J J := ⟨h, fun _ _ => Eq.refl _⟩
theorem mF.rfl {I : MI} : mF I I := ⟨fun _ _ _ => Eq.refl _, fun _ _ => Eq.refl _⟩
theorem mF.trans {I I' I'' : MI} (h : mF I I') (g : mF I' I'') : mF I I'' := ⟨fun b r n => (g.1 b r n).trans (h.1 b r n), fun k a => (g.2 k a).trans (h.2 k a)⟩
theorem mF.ME {I I' I'' : MI} {c : Int32} {o : Nat} (h : mF I I') (g : ME c o I' I'') : ME c o I I'' := ⟨fun b r n => (g.1 b r n).trans (h.1 b r n), g.2.1, g.2.2.1, g.2.2.2.1, fun k hk => (g.2.2.2.2 k hk).trans (h.2 k (by omega))⟩
theorem mF_mo {I I' : MI} (h : mo I I') : mF I I' := ⟨fun b r n => h.1 b r (fun z => n ⟨z.1, Or.inl z.2⟩), fun k hk => h.2 k (by omega) (by omega)⟩
theorem mF_put {I I' : MI} {r k : Nat} {v : Int32} (hr : (r = 0 ∧ (13 ≤ k ∨ k = 3 ∨ k = 4)) ∨ r = 3) (e : I' = sI I 12 r k v) : mF I I' := by
  refine ⟨fun b q n => ?_, fun q hq => ?_⟩
  · rw [e]; unfold sI; exact rI_ne (fun z => n ⟨z.1, by omega⟩)
  · rw [e]
    rcases hr with ⟨z, hk⟩ | z
    · subst z; exact sI_ot _ _ _ _ (by omega)
    · rw [sI_ro _ _ _ _ _ (by omega)]
/-- a token read: the state goes along -/
theorem KS_fo {tx : Nat → Nat} {n i j sn g : Nat} {d : SD} {L : List TK} {hd : Bool} {I I' : MI} {J : MJ} (S : KS tx n i d L sn hd g I J) (f : fo I I') (a : KA tx n j I') : KS tx n j d L sn hd g I' J := by
  obtain ⟨-, s2, s3, s4, s5, s6⟩ := S
  have o : ∀ r, I' 10 r = I 10 r := fun r => f.1 10 r (by omega)
  refine ⟨a, ⟨s2.1, by rw [f.2 8 (by decide) (by decide) (by decide)]; exact s2.2⟩, by rw [f.2 9 (by decide) (by decide) (by decide)]; exact s3, ?_, ?_, ?_⟩
  · unfold GM; rw [f.2 10 (by decide) (by decide) (by decide)]; exact s4
  · unfold RR GG; rw [o 0, o 1, o 3, o 4, o 8, o 9, o 11, o 13, o 14]; exact s5
  · unfold gTok; rw [o 2, o 5]; exact s6
theorem MS_mo {tx : Nat → Nat} {n i j sn g : Nat} {d : SD} {hd : Bool} {I I' : MI} (S : MS tx n i d sn hd g I) (f : mo I I') (hj : i ≤ j) (a : MA tx n j I') : MS tx n j d sn hd g I' := by
  obtain ⟨-, s2, s3, s4, s5, s6⟩ := S
  exact ⟨a, ⟨s2.1, by rw [f.2 15 (by decide) (by decide)]; exact s2.2⟩, by rw [f.2 16 (by decide) (by decide)]; exact s3, ⟨by rw [f.2 17 (by decide) (by decide)]; exact s4.1, by omega⟩, by rw [f.1 12 3 (by decide)]; exact s5, by rw [f.2 14 (by decide) (by decide)]; exact s6⟩
theorem dn_at (d : SD) {i v : Nat} (h : v < 2 ^ 31) : dn (upd d i (nI v)) i = v := by unfold dn; rw [upd_at]; exact nI_clamp h
theorem dn_ot (d : SD) {i j : Nat} (v : Int32) (h : j ≠ i) : dn (upd d i v) j = dn d j := by unfold dn; rw [upd_ot _ _ h]
/-- a word's cells: below their base, or above -/
theorem pk_upd {d : SD} {a i n : Nat} {v : Int32} (h : i < a ∨ a + n ≤ i) : pkN (upd d i v) a n = pkN d a n := pk_ch n (fun j hj => dn_ot d v (by omega))
theorem DW_val {d : SD} (D : DW d) {c v : Nat} (hc : 1 ≤ c ∧ c ≤ 4) (hv : (c = 1 → 2 ≤ v ∧ v ≤ 4) ∧ (c = 2 → 1 ≤ v ∧ v ≤ 4) ∧ (c = 3 → v ≤ 9) ∧ (c = 4 → v ≤ 99)) : DW (upd d c (nI v)) := by
  obtain ⟨g, ⟨a0, a1, a2, a3, a4, a5, a6, a7⟩, R, P⟩ := D
  have lv : v ≤ 99 := by omega
  have e : ∀ k, dn (upd d c (nI v)) k = if k = c then v else dn d k := fun k => by
    by_cases q : k = c
    · rw [if_pos q, q, dn_at d (by omega)]
    · rw [if_neg q, dn_ot d _ q]
  have u : ∀ k, k ≠ c → upd d c (nI v) k = d k := fun k q => upd_ot _ _ q
  refine ⟨gd_upd g c _ (fun _ => gv v (by omega)), ⟨?_, ?_, ?_, ?_, ?_, ?_, ?_, ?_⟩, fun r hr => ?_, fun p hp => ?_⟩
  · rw [e, if_neg (by omega)]; exact a0
  · rw [e]; split <;> omega
  · rw [e]; split <;> omega
  · rw [e]; split <;> omega
  · rw [e]; split <;> omega
  · rw [u 5 (by omega)]; exact a5
  · rw [u 6 (by omega)]; exact a6
  · rw [u 7 (by omega)]; exact a7
  · obtain ⟨r1, r2, r3, r4, r5, r6⟩ := R r hr
    have ge : ∀ k, rA r + k ≠ c := fun k => by show 36 + 45 * r + k ≠ c; omega
    have e0 : mTil (upd d c (nI v)) r = mTil d r := dn_ot d _ (ge 0)
    rw [e0, u _ (ge 1), u _ (ge 2), u _ (ge 3), u _ (ge 4), dn_ot d _ (show (0 : Nat) ≠ c by omega)]
    exact ⟨r1, r2, r3, r4, r5, r6⟩
  · obtain ⟨p1, p2, p3⟩ := P p hp
    have ge : ∀ k, pA p + k ≠ c := fun k => by show 306 + 74 * p + k ≠ c; omega
    have em : mMany (upd d c (nI v)) p = mMany d p := dn_ot d _ (ge 1)
    refine ⟨(u _ (ge 0)).trans p1, by rw [em]; exact p2, fun k hk => ?_⟩
    rw [em] at hk
    have gw : ∀ j, wA p k + j ≠ c := fun j => by show 306 + 74 * p + 2 + 9 * k + j ≠ c; omega
    have el : mLen (upd d c (nI v)) p k = mLen d p k := dn_ot d _ (gw 0)
    refine ⟨by rw [el]; exact (p3 k hk).1, fun j hj => ?_⟩
    rw [el] at hj
    rw [Nat.add_assoc, dn_ot d _ (gw (1 + j)), ← Nat.add_assoc]
    exact (p3 k hk).2 j hj
theorem RR_val {I I' : MI} {J : MJ} {d : SD} {g c v : Nat} (R : RR I J d g) (hc : 1 ≤ c ∧ c ≤ 4) (e : I' = sI I 10 1 (c + 3) (nI v)) : RR I' J (upd d c (nI v)) g := by
  obtain ⟨⟨a0, a1, a2, a3, a4, a5, a6, a7⟩, G, Rw, P⟩ := R
  have o : ∀ r, r ≠ 1 → I' 10 r = I 10 r := fun r h => by rw [e]; exact sI_ro _ _ _ _ _ h
  have u : ∀ k, k ≠ c → upd d c (nI v) k = d k := fun k q => upd_ot _ _ q
  have fld : ∀ k, k ≤ 4 → I 10 1 (k + 3) = d k → I' 10 1 (k + 3) = upd d c (nI v) k := fun k hk h => by
    by_cases q : k = c
    · subst q; rw [e, sI_at, upd_at]
    · rw [e, sI_ot _ _ _ _ (by omega), u k q]; exact h
  have o0 := o 0 (by decide)
  refine ⟨⟨fld 0 (by decide) a0, fld 1 (by decide) a1, fld 2 (by decide) a2, fld 3 (by decide) a3, fld 4 (by decide) a4, by rw [o0]; exact a5, by rw [o0]; exact a6, by rw [o0]; exact a7⟩, ?_, fun r hr => ?_, fun p hp => ?_⟩
  · obtain ⟨F, G⟩ := G
    refine ⟨F, fun x hx => ?_⟩
    have z := G x hx
    rw [o 4 (by decide), dn_ot d _ (show 10 + x ≠ c by omega), dn_ot d _ (show 10 + F (dn d (10 + x)) ≠ c by omega)]
    exact z
  · have z := Rw r hr
    rw [o 8 (by decide), o 9 (by decide), o 11 (by decide), o 3 (by decide), u _ (show 36 + 45 * r ≠ c by omega), dn_ot d _ (show (0 : Nat) ≠ c by omega)]
    exact z
  · obtain ⟨p1, p2, p3⟩ := P p hp
    have ge : ∀ k, pA p + k ≠ c := fun k => by show 306 + 74 * p + k ≠ c; omega
    have em : mMany (upd d c (nI v)) p = mMany d p := dn_ot d _ (ge 1)
    rw [o 13 (by decide), o 14 (by decide), u _ (ge 1), em]
    refine ⟨p1, p2, fun k hk => ?_⟩
    have el : mLen (upd d c (nI v)) p k = mLen d p k := dn_ot d _ (show 306 + 74 * p + 2 + 9 * k ≠ c by omega)
    rw [el, pk_upd (Or.inl (show c < 306 + 74 * p + 2 + 9 * k + 1 by omega))]
    exact p3 k hk
