/-! THE MEMORY: rows of ints and of longs, by block and item. Blocks 0..10: a Game each; 11: the class' other cells; 12: the model's; 13: the law's own row. -/
abbrev MI : Type := Nat → Nat → Nat → Int32
abbrev MJ : Type := Nat → Nat → Nat → Int64
def rI (I : MI) (b r : Nat) (f : Nat → Int32) : MI := fun b' r' => if b' = b ∧ r' = r then f else I b' r'
def rJ (J : MJ) (b r : Nat) (f : Nat → Int64) : MJ := fun b' r' => if b' = b ∧ r' = r then f else J b' r'
theorem rI_same (I : MI) (b r : Nat) (f : Nat → Int32) : rI I b r f b r = f := if_pos ⟨rfl, rfl⟩
theorem rJ_same (J : MJ) (b r : Nat) (f : Nat → Int64) : rJ J b r f b r = f := if_pos ⟨rfl, rfl⟩
theorem rI_ne {I : MI} {b r b' r' : Nat} {f : Nat → Int32} (h : ¬ (b' = b ∧ r' = r)) : rI I b r f b' r' = I b' r' := if_neg h
theorem rJ_ne {J : MJ} {b r b' r' : Nat} {f : Nat → Int64} (h : ¬ (b' = b ∧ r' = r)) : rJ J b r f b' r' = J b' r' := if_neg h
/-- one place of a row -/
abbrev sI (I : MI) (b r i : Nat) (v : Int32) : MI := rI I b r (upd (I b r) i v)
abbrev sJ (J : MJ) (b r i : Nat) (v : Int64) : MJ := rJ J b r (vp_updL (J b r) i v)
/-- what does not change in a run: the tables' numbers, the addresses, those of the text constants and of their bytes, the classes of the rows of ints, longs, games, rows; further rows' classes -/
abbrev EV : Type := va_G × (Nat → Nat → Nat) × (Nat → Nat) × (Nat → Nat) × ClassId × ClassId × ClassId × ClassId × List (ClassId × FieldType)
abbrev eD (E : EV) : va_G := E.1
abbrev eA (E : EV) : Nat → Nat → Nat := E.2.1
abbrev eK (E : EV) : Nat → Nat := E.2.2.1
abbrev eV (E : EV) : Nat → Nat := E.2.2.2.1
abbrev eI (E : EV) : ClassId := E.2.2.2.2.1
abbrev eJ (E : EV) : ClassId := E.2.2.2.2.2.1
abbrev eG (E : EV) : ClassId := E.2.2.2.2.2.2.1
abbrev eM (E : EV) : ClassId := E.2.2.2.2.2.2.2.1
abbrev eR (E : EV) : List (ClassId × FieldType) := E.2.2.2.2.2.2.2.2
def eT (E : EV) : List (ClassId × FieldType) := (eI E, .int) :: (eJ E, .long) :: eR E
def cGame (E : EV) (b : Nat) (x : Nat → Int32) (y : Nat → Int64) (r : Nat) : va_E := match r with
  | 0 => .inr (1, [.ref (eA E b 1), .ref (eA E b 7), .ref (eA E b 8), .ref (eA E b 9), .ref (eA E b 10), .ref (eA E b 11), .ref (eA E b 12), .ref (eA E b 13), .ref (eA E b 14), .int (x 9), .int (x 10), .int (x 11), .ref (eA E b 15)])
  | 1 => .inr (4, [.ref (eA E b 3), .ref (eA E b 4), .ref (eA E b 2), .int (x 3), .int (x 4), .int (x 5), .int (x 6), .int (x 7)])
  | 2 => .inr (3, [.ref (eA E b 5), .ref (eA E b 6), .int (x 2)])
  | 3 => .inl (eI E, 6, .inl x)
  | 4 => .inl (eI E, 32, .inl x)
  | 5 => .inl (eI E, 600, .inl x)
  | 6 => .inl (eI E, 16, .inl x)
  | 7 => .inl (eI E, 240, .inl x)
  | 8 => .inl (eI E, 6, .inl x)
  | 9 => .inl (eI E, 6, .inl x)
  | 10 => .inl (eJ E, 6, .inr (.inl y))
  | 11 => .inl (eI E, 6, .inl x)
  | 12 => .inl (eJ E, 32, .inr (.inl y))
  | 13 => .inl (eI E, 4, .inl x)
  | 14 => .inl (eI E, 4, .inl x)
  | _ => .inl (eI E, 6, .inl x)
def cOwn (E : EV) (x : Nat → Int32) (r : Nat) : va_E := match r with
  | 0 => .inr (6, [.ref (eA E 11 1), .int (x 1), .int (x 2), .ref (eA E 0 0), .ref (eA E 1 0), .ref (eA E 11 2), .ref (eA E 11 4), .ref (eA E 11 6)])
  | 1 => .inl (eI E, 600, .inl x)
  | 2 => .inr (2, [.ref (eA E 11 3), .int (x 1), .int (x 2)])
  | 3 => .inl (eG E, 8, .inr (.inr (.inr (.inr (fun i => if i < 8 then some (eA E (2 + i) 0) else none)))))
  | 4 => .inr (5, [.ref (eA E 10 0), .int (x 1), .ref (eA E 11 5), .int (x 3), .int (x 4), .int (x 5), .int (x 6), .int (x 7), .int (x 8), .int (x 9), .int (x 10)])
  | 5 => .inl (eI E, 600, .inl x)
  | 6 => .inr (0, [.int (x 0), .int (x 1), .int (x 2), .ref (eA E 11 7), .ref (eA E 11 8), .ref (eA E 11 9), .ref (eA E 11 10), .int (x 7), .int (x 8), .int (x 9), .int (x 10), .int (x 11)])
  | 7 => .inl (eI E, 2048, .inl x)
  | 8 => .inl (eI E, 2048, .inl x)
  | 9 => .inl (eI E, 8, .inl x)
  | _ => .inl (eI E, 64, .inl x)
def cModel (E : EV) (x : Nat → Int32) (y : Nat → Int64) (r : Nat) : va_E := match r with
  | 0 => .inr (7, [.int (x 0), .ref (eA E 12 1), .int (x 2), .int (x 3), .int (x 4), .int (x 5), .int (x 6), .int (x 7), .ref (eA E 12 2), .ref (eA E 12 3), .ref (eA E 12 4), .ref (eA E 12 5), .int (x 12), .int (x 13), .int (x 14), .int (x 15), .int (x 16), .int (x 17), .ref (eA E 12 14), .ref (eA E 12 15), .ref (eA E 12 16)])
  | 1 => .inl (eI E, 600, .inl x)
  | 2 => .inl (eI E, 1802, .inl x)
  | 3 => .inl (eI E, 1802, .inl x)
  | 4 => .inl (eI E, 602, .inl x)
  | 5 => .inl (eM E, 8, .inr (.inr (.inr (.inr (fun i => if i < 8 then some (eA E 12 (6 + i)) else none)))))
  | r + 6 => if r < 8 then .inl (eI E, 1802, .inl x) else if r = 8 then .inl (eJ E, 1200, .inr (.inl y)) else .inl (eI E, 2048, .inl x)
def cF (E : EV) (x : Nat → Int32) (y : Nat → Int64) (b r : Nat) : va_E := if b < 11 then cGame E b x y r else if b = 11 then cOwn E x r else if b = 12 then cModel E x y r else .inl (eJ E, 1, .inr (.inl y))
theorem cF_g (E : EV) {b : Nat} (h : b < 11) (x : Nat → Int32) (y : Nat → Int64) (r : Nat) : cF E x y b r = cGame E b x y r := if_pos h
theorem cF_o (E : EV) (x : Nat → Int32) (y : Nat → Int64) (r : Nat) : cF E x y 11 r = cOwn E x r := rfl
theorem cF_m (E : EV) (x : Nat → Int32) (y : Nat → Int64) (r : Nat) : cF E x y 12 r = cModel E x y r := rfl
/-- rows of n ints, of n longs -/
def IA (E : EV) (b r n : Nat) : Prop := ∀ (x : Nat → Int32) (y : Nat → Int64), cF E x y b r = .inl (eI E, n, .inl x)
def LA (E : EV) (b r n : Nat) : Prop := ∀ (x : Nat → Int32) (y : Nat → Int64), cF E x y b r = .inl (eJ E, n, .inr (.inl y))
def wsE (E : EV) (ps : List (Nat × Nat)) (I : MI) (J : MJ) : va_W := ps.map (fun z => (eA E z.1 z.2, cF E (I z.1 z.2) (J z.1 z.2) z.1 z.2))
theorem wsE_at {E : EV} {ps : List (Nat × Nat)} {I : MI} {J : MJ} {k : Nat} {b r : Nat} (h : ps[k]? = some (b, r)) : (wsE E ps I J)[k]? = some (eA E b r, cF E (I b r) (J b r) b r) := by
  unfold wsE
  rw [List.getElem?_map, h]
  rfl
theorem wsE_mem {E : EV} {ps : List (Nat × Nat)} (I : MI) (J : MJ) {b r : Nat} (h : (b, r) ∈ ps) : ∃ k : Nat, ps[k]? = some (b, r) ∧ (wsE E ps I J)[k]? = some (eA E b r, cF E (I b r) (J b r) b r) := by
  obtain ⟨k, hk⟩ := List.getElem?_of_mem h
  exact ⟨k, hk, wsE_at hk⟩
theorem wsE_set {E : EV} {ps : List (Nat × Nat)} {I : MI} {J : MJ} {A : Nat → Prop} (hD : va_D A (wsE E ps I J)) {k b r : Nat} (hk : ps[k]? = some (b, r)) (f : Nat → Int32) (g : Nat → Int64) :
    (wsE E ps I J).set k (eA E b r, cF E f g b r) = wsE E ps (rI I b r f) (rJ J b r g) := by
  apply List.ext_getElem?
  intro j
  rw [List.getElem?_set]
  by_cases hj : k = j
  · subst hj
    rw [if_pos rfl, wsE_at hk, rI_same, rJ_same]
    have hl : k < (wsE E ps I J).length := (List.getElem?_eq_some_iff.mp (wsE_at (E := E) (I := I) (J := J) hk)).1
    rw [if_pos hl]
  · rw [if_neg hj]
    unfold wsE
    rw [List.getElem?_map, List.getElem?_map]
    cases hz : ps[j]? with
    | none => rfl
    | some z =>
      have hne : ¬ (z.1 = b ∧ z.2 = r) := by
        rintro ⟨h1, h2⟩
        have hz' : ps[j]? = some (b, r) := by rw [hz, ← h1, ← h2]
        exact hj (hD.1 k j _ _ (wsE_at hk) (wsE_at hz') rfl)
      show some (eA E z.1 z.2, cF E (I z.1 z.2) (J z.1 z.2) z.1 z.2) = some (eA E z.1 z.2, cF E (rI I b r f z.1 z.2) (rJ J b r g z.1 z.2) z.1 z.2)
      rw [rI_ne hne, rJ_ne hne]
theorem rJ_id (J : MJ) (b r : Nat) : rJ J b r (J b r) = J := by
  funext b' r'
  unfold rJ
  split
  · next h => rw [h.1, h.2]
  · rfl
theorem rI_id (I : MI) (b r : Nat) : rI I b r (I b r) = I := by
  funext b' r'
  unfold rI
  split
  · next h => rw [h.1, h.2]
  · rfl
theorem wsE_setI {E : EV} {ps : List (Nat × Nat)} {I : MI} {J : MJ} {A : Nat → Prop} (hD : va_D A (wsE E ps I J)) {k b r : Nat} (hk : ps[k]? = some (b, r)) (f : Nat → Int32) :
    (wsE E ps I J).set k (eA E b r, cF E f (J b r) b r) = wsE E ps (rI I b r f) J := by rw [wsE_set hD hk, rJ_id]
theorem wsE_setJ {E : EV} {ps : List (Nat × Nat)} {I : MI} {J : MJ} {A : Nat → Prop} (hD : va_D A (wsE E ps I J)) {k b r : Nat} (hk : ps[k]? = some (b, r)) (g : Nat → Int64) :
    (wsE E ps I J).set k (eA E b r, cF E (I b r) g b r) = wsE E ps I (rJ J b r g) := by rw [wsE_set hD hk, rI_id]
/-- the cells of the world, and those that come from sz on -/
def AA (E : EV) (ps : List (Nat × Nat)) (sz : Nat) : Nat → Prop := fun q => (∃ z ∈ ps, q = eA E z.1 z.2) ∨ sz ≤ q
theorem AA_D {E : EV} {ps : List (Nat × Nat)} {I : MI} {J : MJ} {sz : Nat} {A : Nat → Prop} (h : va_D A (wsE E ps I J)) : va_D (AA E ps sz) (wsE E ps I J) := by
  refine ⟨h.1, fun k q hk => Or.inl ?_⟩
  unfold wsE at hk
  rw [List.getElem?_map] at hk
  cases hz : ps[k]? with
  | none => rw [hz] at hk; cases hk
  | some z =>
    rw [hz] at hk
    cases hk
    exact ⟨z, List.mem_of_getElem? hz, rfl⟩
theorem AA_sub {E : EV} {ps : List (Nat × Nat)} {I : MI} {J : MJ} {sz sz2 : Nat} {A : Nat → Prop} (hD : va_D A (wsE E ps I J)) (hA : ∀ q, sz ≤ q → A q) (h : sz ≤ sz2) : ∀ q, AA E ps sz2 q → A q := by
  rintro q (⟨z, hz, rfl⟩ | hq)
  · obtain ⟨k, -, hk⟩ := wsE_mem (E := E) I J (show (z.1, z.2) ∈ ps from hz)
    exact hD.2 k _ hk
  · exact hA q (Nat.le_trans h hq)
/-- the world in a state -/
def PW (E : EV) (ps : List (Nat × Nat)) (I : MI) (J : MJ) (A : Nat → Prop) (U : State) : Prop := va_P (eD E) vwCl (wsE E ps I J) U.heap ∧ va_K (eD E) vwCl (eT E) U ∧ va_D A (wsE E ps I J)
/-- the text constants that are read letter by letter: their lengths and bytes -/
def sxW : List String := ["roof", "players", "need", "bonus", "crown", "alike", "hand", "rank", "points", "letters", "rhyme", "left", "full"]
def sxL : List Nat := [4, 7, 4, 5, 5, 5, 4, 4, 6, 7, 5, 4, 4]
def sxB : List (List Int32) := [[114, 111, 111, 102], [112, 108, 97, 121, 101, 114, 115], [110, 101, 101, 100], [98, 111, 110, 117, 115], [99, 114, 111, 119, 110], [97, 108, 105, 107, 101], [104, 97, 110, 100], [114, 97, 110, 107], [112, 111, 105, 110, 116, 115], [108, 101, 116, 116, 101, 114, 115], [114, 104, 121, 109, 101], [108, 101, 102, 116], [102, 117, 108, 108]]
/-- where they stand: class, entry, text, number -/
def sxR : List (String × Nat × String × Nat) := [("RhymeRoofs$SetupReader", 106, "roof", 0), ("RhymeRoofs$SetupReader", 130, "players", 1), ("RhymeRoofs$SetupReader", 135, "need", 2), ("RhymeRoofs$SetupReader", 140, "bonus", 3), ("RhymeRoofs$SetupReader", 145, "crown", 4), ("RhymeRoofs$SetupReader", 150, "alike", 5), ("RhymeRoofs$SetupReader", 155, "hand", 6), ("RhymeRoofs$SetupReader", 160, "rank", 7), ("RhymeRoofs$SetupReader", 211, "points", 8), ("RhymeRoofs$SetupReader", 213, "letters", 9), ("RhymeRoofs$SetupReader", 215, "rhyme", 10), ("RhymeRoofs$SetupReader", 217, "left", 11), ("RhymeRoofs$SetupReader", 219, "full", 12),
  ("RhymeRoofsModel", 196, "roof", 0), ("RhymeRoofsModel", 174, "players", 1), ("RhymeRoofsModel", 180, "need", 2), ("RhymeRoofsModel", 182, "bonus", 3), ("RhymeRoofsModel", 184, "crown", 4), ("RhymeRoofsModel", 186, "alike", 5), ("RhymeRoofsModel", 138, "hand", 6), ("RhymeRoofsModel", 194, "rank", 7), ("RhymeRoofsModel", 124, "points", 8), ("RhymeRoofsModel", 130, "letters", 9), ("RhymeRoofsModel", 132, "rhyme", 10), ("RhymeRoofsModel", 134, "left", 11), ("RhymeRoofsModel", 136, "full", 12)]
/-- the texts of the class' exceptions -/
def sxX : List (Nat × String) := [(57, "the buffer has not so many bytes"), (81, "no such number of the state"), (266, "no such row"), (90, "no such number of a row"), (107, "no such tile"), (269, "no such player"), (116, "no such number of a player"), (271, "no such place of the hand"), (135, "the word has not so many letters"), (141, "not a letter"), (163, "no such number of a play"), (165, "the word cannot be laid there"), (222, "the game is over"), (227, "not a number of steps"), (233, "the buffer does not start with such a word"), (238, "no word can be given")]
/-- what stands outside of the world and stays: text constants, three statics -/
def XS (E : EV) (A : Nat → Prop) (U : State) (H : Heap) : Prop :=
  vk_S 13 sxL sxB (eK E) (eV E) A U H ∧ vx_Zq Bundle.tN "UNASSIGNED_STACK" Bundle.steD A U H ∧ vx_Zq Bundle.tN "SUPPRESSED_SENTINEL" Bundle.listD A U H ∧ va_Z "java/lang/String" "COMPACT_STRINGS" "Z" (.int 1) A U H ∧ va_Zq "jdk/internal/util/Preconditions" "SIOOBE_FORMATTER" "Ljava/util/function/BiFunction;" A U H ∧
  (∀ q ∈ sxR, vk_R q.1 q.2.1 q.2.2.1 (eK E q.2.2.2) U) ∧ ∀ q ∈ sxX, ∃ a : Nat, vk_R "RhymeRoofs" q.1 q.2 a U
theorem XS.warm {E : EV} {A : Nat → Prop} {s U : State} {H : Heap} (hW : s.WarmedH U.vm) (h : XS E A s H) : XS E A U H :=
  ⟨h.1.moved hW.alike, h.2.1.moved hW.alike, h.2.2.1.moved hW.alike, va_Z.moved hW.alike h.2.2.2.1, va_Zq.moved hW.alike h.2.2.2.2.1, fun q hq => (h.2.2.2.2.2.1 q hq).warm hW, fun q hq => by
    obtain ⟨a, ha⟩ := h.2.2.2.2.2.2 q hq
    exact ⟨a, ha.warm hW⟩⟩
theorem XS.same {E : EV} {A : Nat → Prop} {s U : State} {H : Heap} (hv : U.vm = s.vm) (h : XS E A s H) : XS E A U H := by
  have ha : s.vm.Alike U.vm := by rw [hv]; exact Vm.Alike.refl _
  exact ⟨h.1.moved ha, h.2.1.moved ha, h.2.2.1.moved ha, va_Z.moved ha h.2.2.2.1, va_Zq.moved ha h.2.2.2.2.1, fun q hq => (h.2.2.2.2.2.1 q hq).same hv, fun q hq => by
    obtain ⟨a, ha⟩ := h.2.2.2.2.2.2 q hq
    exact ⟨a, ha.same hv⟩⟩
theorem XS.kept {E : EV} {A : Nat → Prop} {U : State} {H H1 : Heap} (h : XS E A U H) (hq : ∀ a : Nat, a < H.size → ¬ A a → H1[a]? = H[a]?) : XS E A U H1 := ⟨h.1.kept hq, h.2.1.kept hq, h.2.2.1.kept hq, h.2.2.2.1.kept hq, h.2.2.2.2.1.kept hq, h.2.2.2.2.2⟩
theorem XS.narrow {E : EV} {A B : Nat → Prop} {U : State} {H : Heap} (h : XS E A U H) (hAB : ∀ q, B q → A q) : XS E B U H := ⟨h.1.narrow hAB, h.2.1.narrow hAB, h.2.2.1.narrow hAB, h.2.2.2.1.narrow hAB, h.2.2.2.2.1.narrow hAB, h.2.2.2.2.2⟩
/-- a method's start and its ends -/
def KP (E : EV) (ps : List (Nat × Nat)) (args : List Value) (I : MI) (J : MJ) (sz : Nat) : Array Value → State → Prop := va_Pc args (fun U => U.heap.size = sz ∧ PW E ps I J (fun _ => True) U ∧ XS E (AA E ps sz) U U.heap)
abbrev KB (E : EV) (ps : List (Nat × Nat)) (sz : Nat) : MI × MJ → State → Prop := fun u t => PW E ps u.1 u.2 (AA E ps sz) t
abbrev KI (l : Launch) (y : MethodName) (ws : List Cond) (rm : Room) (E : EV) (ps : List (Nat × Nat)) (args : List Value) (I : MI) (J : MJ) (Q : Int32 → MI → MJ → Prop) : Prop :=
  ∀ sz : Nat, Met l y ws rm (KP E ps args I J sz) (va_Qi (fun r (u : MI × MJ) => Q r u.1 u.2) (KB E ps sz) (AA E ps sz)) 0 0 (AA E ps sz)
abbrev KL (l : Launch) (y : MethodName) (ws : List Cond) (rm : Room) (E : EV) (ps : List (Nat × Nat)) (args : List Value) (I : MI) (J : MJ) (Q : Int64 → MI → MJ → Prop) : Prop :=
  ∀ sz : Nat, Met l y ws rm (KP E ps args I J sz) (va_Ql (fun r (u : MI × MJ) => Q r u.1 u.2) (KB E ps sz) (AA E ps sz)) 0 0 (AA E ps sz)
abbrev KF (l : Launch) (y : MethodName) (ws : List Cond) (rm : Room) (E : EV) (ps : List (Nat × Nat)) (args : List Value) (I : MI) (J : MJ) (Q : UInt32 → MI → MJ → Prop) : Prop :=
  ∀ sz : Nat, Met l y ws rm (KP E ps args I J sz) (va_Qf (fun r (u : MI × MJ) => Q r u.1 u.2) (KB E ps sz) (AA E ps sz)) 0 0 (AA E ps sz)
abbrev KV (l : Launch) (y : MethodName) (ws : List Cond) (rm : Room) (E : EV) (ps : List (Nat × Nat)) (args : List Value) (I : MI) (J : MJ) (Q : MI → MJ → Prop) : Prop :=
  ∀ sz : Nat, Met l y ws rm (KP E ps args I J sz) (va_Qv (fun (u : MI × MJ) => Q u.1 u.2) (KB E ps sz) (AA E ps sz)) 0 0 (AA E ps sz)
theorem KP_blind {E : EV} {ps : List (Nat × Nat)} {args : List Value} {I : MI} {J : MJ} {sz : Nat} : FrameBlind (fun a U => KP E ps args I J sz a U) := fun a U g mk q => by
  obtain ⟨q0, q1, ⟨qP, qK, qD⟩, qX⟩ := q
  exact ⟨q0, q1, ⟨qP, va_K.moved (u := U) (U := U.calling g mk a) (Vm.Alike.refl U.vm) qK, qD⟩, XS.same (s := U) (U := U.calling g mk a) rfl qX⟩
theorem nm_o {α : Sort _} {e : α} {B : α → Prop} {G : Prop} (h : ∀ x, x = e → B x) (k : ∀ x, x = e → B x → G) : G := k e rfl (h e rfl)
