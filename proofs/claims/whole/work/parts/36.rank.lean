/-! A RANK'S VALUE -/
def clp (z : Int) : Int := if 1000000 < z then 1000000 else if z < -1000000 then -1000000 else z
def opZ (o : Nat) (a b : Int) : Int := clp (match o with
  | 0 => a + b
  | 1 => a - b
  | 2 => a * b
  | _ => if b = 0 then 0 else a.tdiv b)
def evL (F : Nat → Int) : List TK → List Int → List Int
  | [], st => st
  | (0, v) :: l, st => evL F l ((v : Int) :: st)
  | (1, k) :: l, st => evL F l (F k :: st)
  | (o + 2, _) :: l, b :: a :: st => evL F l (opZ o a b :: st)
  | (_ + 2, _) :: l, st => evL F l st
/-- a list as a stack in a row: its last one lowest -/
def stO (f : Nat → Int) : List Int → Prop
  | [] => True
  | v :: t => f t.length = v ∧ stO f t
theorem stO_cong {f g : Nat → Int} : ∀ {t : List Int}, (∀ j, j < t.length → g j = f j) → stO f t → stO g t
  | [], _, _ => trivial
  | v :: t, h, hs => ⟨(h t.length (by simp)).trans hs.1, stO_cong (t := t) (fun j hj => h j (by simp; omega)) hs.2⟩
abbrev mil (z : Int) : Prop := -1000000 ≤ z ∧ z ≤ 1000000
theorem clp_mil (z : Int) : mil (clp z) := by
  unfold clp mil
  split
  · omega
  · split <;> omega
theorem mul_mil {a b : Int} (ha : mil a) (hb : mil b) : -1000000000000 ≤ a * b ∧ a * b ≤ 1000000000000 := by
  have h1 : (a * b).natAbs ≤ 1000000 * 1000000 := by
    rw [Int.natAbs_mul]
    exact Nat.mul_le_mul (by unfold mil at ha; omega) (by unfold mil at hb; omega)
  omega
theorem tdiv_mil {a b : Int} (ha : mil a) (hb : b ≠ 0) : mil (a.tdiv b) := by
  have h1 : (a.tdiv b).natAbs ≤ a.natAbs := by
    rw [Int.natAbs_tdiv]
    exact Nat.div_le_self _ _
  unfold mil at ha ⊢
  omega
theorem lt_L (x y : Int64) : x < y ↔ x.toInt < y.toInt := Int64.lt_iff_toInt_lt
theorem eq_L (x y : Int64) : x = y ↔ x.toInt = y.toInt := Int64.toInt_inj.symm
theorem lN_z {n : Nat} (h : n < 2 ^ 31) : (lN n).toInt = (n : Int) := lN_toInt h
/-- a fact of a play -/
def mFact (d : Nat → Int32) (k r : Nat) : Nat → Nat
  | 0 => mPts d (dn d 5) k r
  | 1 => mLen d (dn d 5) k
  | 2 => mRht d (dn d 5) k r
  | 3 => mFree d r - mLen d (dn d 5) k
  | 4 => if mFree d r - mLen d (dn d 5) k = 0 then 1 else 0
  | _ => mMany d (dn d 5) - 1
theorem mPts_lt {d : Nat → Int32} (W : WF d) {p k r : Nat} (hp : p < 4) (hk : k < mMany d p) (hr : r < 6) : mPts d p k r < 10000 := by
  have h1 := ((W.2.2.2 p hp).2 k hk).1
  have h2 := mRht_le d p k r
  have h3 : dn d 3 ≤ 9 := W.2.1.2.2.2.1
  have h4 : dn d 4 ≤ 99 := W.2.1.2.2.2.2.1
  have h5 := W.2.2.1 r hr
  have h6 : dn d 3 * mRht d p k r ≤ 9 * 8 := Nat.mul_le_mul h3 (by omega)
  have h7 : dn d 4 * (mWds d r + 1) ≤ 99 * 41 := Nat.mul_le_mul h4 (by omega)
  unfold mPts
  split <;> omega
theorem mFact_lt {d : Nat → Int32} (W : WF d) {k r : Nat} (hk : k < mMany d (dn d 5)) (hr : r < 6) (j : Nat) : mFact d k r j < 10000 := by
  have hp := wf_turn W
  have h1 := ((W.2.2.2 _ hp).2 k hk).1
  have h2 := mRht_le d (dn d 5) k r
  have h5 := W.2.2.1 r hr
  have h8 := (W.2.2.2 _ hp).1
  unfold mFact
  split
  · exact mPts_lt W hp hk hr
  · omega
  · omega
  · show mTil d r - mUse d r - _ < _
    omega
  · split <;> omega
  · omega
section MK
variable {I : MI}
theorem m_fact {J : MJ} {x0 x1 x2 : Int32} {Q : Int32 → MI → MJ → Prop} (W : WF (I 12 2)) (j k r : Nat) (e0 : x0 = nI j) (e1 : x1 = nI k) (e2 : x2 = nI r) (hj : j ≤ 5) (hk : k < mMany (I 12 2) (dn (I 12 2) 5)) (hr : r < 6) (hfit : mLen (I 12 2) (dn (I 12 2) 5) k ≤ mFree (I 12 2) r) (h : Q (nI (mFact (I 12 2) k r j)) I J) : f_X8_fact x0 x1 x2 I J Q := by
  have hp := wf_turn W
  have h8 : k < 8 := Nat.lt_of_lt_of_le hk (W.2.2.2 _ hp).1
  have hl := ((W.2.2.2 _ hp).2 k hk).1
  have w := W.2.2.1 r hr
  have hm := (W.2.2.2 _ hp).1
  refine ⟨vin 5 _ (by decide) (by decide) rfl, fun p ep => ?_⟩
  have ep2 : p = nI (dn (I 12 2) 5) := ep.trans (c5 W)
  refine m_free W r e2 hr (m_lengthOf _ k ep2 e1 hp h8 (fun z ez => ?_))
  have ez2 : z = nI (mFree (I 12 2) r - mLen (I 12 2) (dn (I 12 2) 5) k) := by rw [ez, w_len W hp h8, nsub hfit]
  have hz : mFree (I 12 2) r - mLen (I 12 2) (dn (I 12 2) 5) k < 2 ^ 31 := by show mTil (I 12 2) r - mUse (I 12 2) r - _ < _; omega
  have dj : ∀ (n : Nat), n ≤ 5 → ∀ {A B : Prop}, (j = n → A) → (¬ j = n → B) → ((x0 = nI n → A) ∧ (¬ x0 = nI n → B)) := fun n hn A B f g => q_eq j n (by omega) (by omega) e0 rfl f g
  refine dj 0 (by decide) (fun q => ?_) (fun q0 => dj 1 (by decide) (fun q => ?_) (fun q1 => dj 2 (by decide) (fun q => ?_) (fun q2 => dj 3 (by decide) (fun q => ?_) (fun q3 => dj 4 (by decide) (fun q => ?_) (fun q4 => ?_)))))
  · subst q
    exact m_pointsFor W _ k r ep2 e1 e2 hp hk hr h
  · subst q
    refine m_lengthOf _ k ep2 e1 hp h8 ?_
    rw [w_len W hp h8]
    exact h
  · subst q
    exact m_rhymeThere W _ k r ep2 e1 e2 hp hk hr h
  · subst q
    rw [ez2]
    exact h
  · subst q
    unfold mFact at h
    refine q_eq _ 0 hz (by decide) ez2 rfl (fun q => ?_) (fun q => ?_)
    · rw [if_pos q] at h; exact h
    · rw [if_neg q] at h; exact h
  · have : j = 5 := by omega
    subst this
    refine m_many W _ ep2 hp ?_
    rw [nlit 1, nsub (by omega)]
    exact h
theorem m_limited {J : MJ} {x : Int64} {Q : Int64 → MI → MJ → Prop} (h : ∀ v : Int64, v.toInt = clp x.toInt → Q v I J) : f_X8_limited x I J Q := by
  unfold f_X8_limited
  unfold clp at h
  refine ⟨fun q => h _ ?_, fun q => ⟨fun q2 => h _ ?_, fun q2 => h _ ?_⟩⟩
  · rw [lt_L, show ((1000000 : Int64)).toInt = 1000000 from rfl] at q
    rw [if_pos q]; rfl
  · rw [lt_L, show ((1000000 : Int64)).toInt = 1000000 from rfl] at q
    rw [lt_L, show ((-1000000 : Int64)).toInt = -1000000 from rfl] at q2
    rw [if_neg q, if_pos q2]; rfl
  · rw [lt_L, show ((1000000 : Int64)).toInt = 1000000 from rfl] at q
    rw [lt_L, show ((-1000000 : Int64)).toInt = -1000000 from rfl] at q2
    rw [if_neg q, if_neg q2]
end MK
