/-! LOAD: both sides -/
/-- an error's code is never 0 -/
def nz {α : Type} (r : Except ERR α) : Prop := ∀ c o, r = .error (c, o) → c ≠ 0
theorem nz_ok {α : Type} (a : α) : nz (.ok a : Except ERR α) := fun _ _ h => by cases h
theorem nz_er {α : Type} {c : Int32} {o : Nat} (h : c ≠ 0) : nz (.error (c, o) : Except ERR α) := fun c' o' e => by cases e; exact h
theorem nz_B {α β : Type} {r : Except ERR α} {f : α → Except ERR β} (h : nz r) (g : ∀ a, nz (f a)) : nz (exB r f) := by
  cases r with
  | error e =>
    obtain ⟨c, o⟩ := e
    exact fun c' o' q => by cases q; exact h c o rfl
  | ok a => exact g a
section NZ
variable {tx : Nat → Nat} {n : Nat}
theorem nz_sign {s i : Nat} : nz (spSign tx n s i) := by unfold spSign; split; exact nz_ok _; exact nz_er (by decide)
theorem nz_run {i : Nat} : nz (spRun tx n i) := by unfold spRun; split; exact nz_ok _; exact nz_er (by decide)
theorem nz_num {lo hi i : Nat} : nz (spNum tx n lo hi i) := by
  unfold spNum
  split
  · split
    · exact nz_ok _
    · exact nz_er (by decide)
  · exact nz_er (by decide)
theorem nz_val {bit lo hi c j k sn : Nat} {d : SD} : nz (spVal tx n bit lo hi c j k d sn) := by
  unfold spVal
  split
  · exact nz_er (by decide)
  · exact nz_B nz_num (fun _ => nz_ok _)
theorem nz_alL {g : Nat} : ∀ (f q : Nat) (d : SD), nz (spAlL tx g f q d)
  | 0, _, _ => nz_ok _
  | f + 1, q, d => by
    unfold spAlL
    split
    · exact nz_alL f _ _
    · exact nz_er (by decide)
theorem nz_alike {i g : Nat} {d : SD} : nz (spAlike tx n i d g) := nz_B nz_run (fun _ => nz_B (nz_alL _ _ _) (fun _ => nz_ok _))
theorem nz_txt {p i : Nat} {d : SD} : nz (spTxt tx n p i d) := nz_B nz_run (fun _ => by split; exact nz_er (by decide); split; exact nz_er (by decide); exact nz_ok _)
theorem nz_handL {p : Nat} : ∀ (f i : Nat) (d : SD), nz (spHandL tx n p f i d)
  | 0, _, _ => nz_ok _
  | f + 1, i, d => nz_B nz_txt (fun q => by
    split
    · exact nz_handL f _ _
    · exact nz_ok _)
theorem nz_hand {i : Nat} {d : SD} : nz (spHand tx n i d) := nz_B nz_num (fun _ => nz_handL _ _ _)
theorem nz_rows : ∀ (f i : Nat) (d : SD), nz (spRows tx n f i d)
  | 0, _, _ => nz_ok _
  | f + 1, i, d => nz_B nz_num (fun q => by
    split
    · exact nz_er (by decide)
    · split
      · exact nz_rows f _ _
      · exact nz_ok _)
theorem nz_roof {i : Nat} {d : SD} : nz (spRoof tx n i d) := nz_B nz_run (fun _ => by
  split
  · exact nz_B (nz_rows _ _ _) (fun _ => nz_B nz_sign (fun _ => nz_ok _))
  · exact nz_er (by decide))
theorem nz_fact {j k : Nat} {d : SD} {L : List TK} : nz (spFact tx n j k d L) := by unfold spFact; split; exact nz_ok _; exact nz_er (by decide)
theorem nz_fac {D i : Nat} {d : SD} {L : List TK} {rs : Nat → SD → List TK → Except ERR SS} (h : ∀ i d L, nz (rs i d L)) : nz (spFac tx n D rs i d L) := by
  unfold spFac
  split
  · split
    · exact nz_er (by decide)
    · exact nz_B (h _ _ _) (fun _ => nz_B nz_sign (fun _ => nz_ok _))
  · split
    · exact nz_B nz_num (fun _ => nz_ok _)
    · exact nz_B nz_run (fun _ => nz_fact)
theorem nz_A {D : Nat} {rs : Nat → SD → List TK → Except ERR SS} (h : ∀ i d L, nz (rs i d L)) : ∀ (f t s i : Nat) (d : SD) (L : List TK), nz (spA tx n D rs f t s i d L)
  | 0, _, _, _, _, _ => nz_ok _
  | f + 1, t, s, i, d, L => nz_B (nz_fac h) (fun q => by
    split
    · exact nz_A h f _ _ _ _ _
    · split
      · exact nz_A h f _ _ _ _ _
      · split
        · exact nz_A h f _ _ _ _ _
        · split
          · exact nz_A h f _ _ _ _ _
          · exact nz_ok _)
theorem nz_sum : ∀ (D i : Nat) (d : SD) (L : List TK), nz (spSum tx n D i d L)
  | 0, _, _, _ => nz_A (fun _ _ _ => nz_er (by decide)) _ _ _ _ _ _
  | D + 1, _, _, _ => nz_A (fun i d L => nz_sum D i d L) _ _ _ _ _ _
theorem nz_body {j k sn g : Nat} {d : SD} {L : List TK} {hd : Bool} : nz (spBody tx n j k d L sn hd g) := by
  unfold spBody
  split
  · split
    · exact nz_er (by decide)
    · exact nz_B nz_val (fun _ => nz_ok _)
  · split
    · exact nz_B nz_val (fun _ => nz_ok _)
    · split
      · exact nz_B nz_val (fun _ => nz_ok _)
      · split
        · exact nz_B nz_val (fun _ => nz_ok _)
        · split
          · exact nz_B nz_alike (fun _ => nz_ok _)
          · split
            · exact nz_B nz_hand (fun _ => nz_ok _)
            · split
              · split
                · exact nz_er (by decide)
                · exact nz_B (nz_sum _ _ _ _) (fun _ => nz_ok _)
              · exact nz_er (by decide)
theorem nz_stmt {st : S6} : nz (spStmt tx n st) := nz_B nz_run (fun _ => nz_B nz_body (fun _ => nz_B nz_sign (fun _ => nz_ok _)))
theorem nz_loop : ∀ (f : Nat) (st : S6), nz (spLoop tx n f st)
  | 0, _ => nz_ok _
  | f + 1, st => by
    have e : spLoop tx n (f + 1) st = if bt tx n (skp tx n st.1) = 256 then .ok (skp tx n st.1, st.2) else exB (spStmt tx n st) (fun s => spLoop tx n f s) := rfl
    rw [e]
    split
    · exact nz_ok _
    · exact nz_B nz_stmt (fun s => nz_loop f s)
theorem nz_load {d : SD} : nz (spLoad tx n d) := nz_B nz_roof (fun _ => nz_loop _ _)
end NZ
