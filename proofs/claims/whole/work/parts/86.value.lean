/-! STATEMENTS OF ONE NUMBER; GROUPS OF LETTERS: what is read, and the class -/
def exB {α β : Type} (r : Except ERR α) (f : α → Except ERR β) : Except ERR β := match r with
  | .error e => .error e
  | .ok a => f a
def spVal (tx : Nat → Nat) (n bit lo hi c j k : Nat) (d : SD) (sn : Nat) : Except ERR (Nat × SD × Nat) :=
  if sn.testBit bit = true then .error (-2, j) else exB (spNum tx n lo hi k) (fun q => .ok (q.1, upd d c (nI q.2), sn + 2 ^ bit))
def spAlL (tx : Nat → Nat) (g : Nat) : Nat → Nat → SD → Except ERR SD
  | 0, _, d => .ok d
  | f + 1, q, d => if dn d (10 + (tx q - 97)) = 0 then spAlL tx g f (q + 1) (upd d (10 + (tx q - 97)) (nI g)) else .error (-4, q)
def spAlike (tx : Nat → Nat) (n i : Nat) (d : SD) (g : Nat) : Except ERR (Nat × SD) :=
  exB (spRun tx n i) (fun k => exB (spAlL tx (g + 1) (k - skp tx n i) (skp tx n i) d) (fun d' => .ok (k, d')))
theorem and_pow (a k : Nat) : a &&& 2 ^ k = if a.testBit k then 2 ^ k else 0 := by
  apply Nat.eq_of_testBit_eq
  intro i
  rw [Nat.testBit_and, Nat.testBit_two_pow]
  by_cases h : a.testBit k = true
  · rw [if_pos h, Nat.testBit_two_pow]
    by_cases e : k = i
    · rw [← e, h]; simp
    · simp [e]
  · rw [if_neg h, Nat.zero_testBit]
    by_cases e : k = i
    · rw [← e, Bool.eq_false_iff.mpr h]; rfl
    · simp [e]
theorem n_and {a b : Nat} (ha : a < 2 ^ 32) (hb : b < 2 ^ 32) : nI a &&& nI b = nI (a &&& b) := by
  apply Int32.toBitVec_inj.mp
  rw [Int32.toBitVec_and]
  show BitVec.ofNat 32 a &&& BitVec.ofNat 32 b = BitVec.ofNat 32 (a &&& b)
  apply BitVec.eq_of_toNat_eq
  rw [BitVec.toNat_and, BitVec.toNat_ofNat, BitVec.toNat_ofNat, BitVec.toNat_ofNat, Nat.mod_eq_of_lt ha, Nat.mod_eq_of_lt hb, Nat.mod_eq_of_lt (Nat.and_lt_two_pow _ hb)]
theorem n_or {a b : Nat} (ha : a < 2 ^ 32) (hb : b < 2 ^ 32) : nI a ||| nI b = nI (a ||| b) := by
  apply Int32.toBitVec_inj.mp
  rw [Int32.toBitVec_or]
  show BitVec.ofNat 32 a ||| BitVec.ofNat 32 b = BitVec.ofNat 32 (a ||| b)
  apply BitVec.eq_of_toNat_eq
  rw [BitVec.toNat_or, BitVec.toNat_ofNat, BitVec.toNat_ofNat, BitVec.toNat_ofNat, Nat.mod_eq_of_lt ha, Nat.mod_eq_of_lt hb, Nat.mod_eq_of_lt (Nat.or_lt_two_pow ha hb)]
theorem sh_27 : ∀ k, k < 27 → ((1 : Int32) <<< (nI k &&& 31)) = nI (2 ^ k) := by decide +kernel
theorem DW_low {d : SD} (D : DW d) {c v : Nat} (hc : 8 ≤ c ∧ c < 36) (hv : v < 1048576) : DW (upd d c (nI v)) := by
  obtain ⟨g, A, R, P⟩ := D
  have u : ∀ k, k ≠ c → upd d c (nI v) k = d k := fun k q => upd_ot _ _ q
  refine ⟨gd_upd g c _ (fun _ => gv v hv), ?_, fun r hr => ?_, fun p hp => ?_⟩
  · rw [dn_ot d _ (show (0 : Nat) ≠ c by omega), dn_ot d _ (show (1 : Nat) ≠ c by omega), dn_ot d _ (show (2 : Nat) ≠ c by omega), dn_ot d _ (show (3 : Nat) ≠ c by omega), dn_ot d _ (show (4 : Nat) ≠ c by omega), u 5 (by omega), u 6 (by omega), u 7 (by omega)]
    exact A
  · have ge : ∀ k, rA r + k ≠ c := fun k => by show 36 + 45 * r + k ≠ c; omega
    have e0 : mTil (upd d c (nI v)) r = mTil d r := dn_ot d _ (ge 0)
    rw [e0, u _ (ge 1), u _ (ge 2), u _ (ge 3), u _ (ge 4), dn_ot d _ (show (0 : Nat) ≠ c by omega)]
    exact R r hr
  · obtain ⟨p1, p2, p3⟩ := P p hp
    have ge : ∀ k, pA p + k ≠ c := fun k => by show 306 + 74 * p + k ≠ c; omega
    have em : mMany (upd d c (nI v)) p = mMany d p := dn_ot d _ (ge 1)
    refine ⟨(u _ (ge 0)).trans p1, by rw [em]; exact p2, fun k hk => ?_⟩
    rw [em] at hk
    have gw : ∀ j, wA p k + j ≠ c := fun j => by show 306 + 74 * p + 2 + 9 * k + j ≠ c; omega
    have el : mLen (upd d c (nI v)) p k = mLen d p k := dn_ot d _ (gw 0)
    refine ⟨by rw [el]; exact (p3 k hk).1, fun j hj => ?_⟩
    rw [el] at hj
    rw [Nat.add_assoc, dn_ot d _ (gw (1 + j)), ← Nat.add_assoc]
    exact (p3 k hk).2 j hj
section KV
variable {I : MI} {J : MJ} {tx : Nat → Nat} {n i sn g : Nat} {d : SD} {L : List TK} {hd : Bool}
theorem KS_tell {I' : MI} {s : Nat} (S : KS tx n i d L sn hd g I J) (hs : s < 32) (e : I' = sI I 11 4 8 (nI s)) : KS tx n i d L s hd g I' J ∧ kF I I' J J := by
  obtain ⟨s1, s2, s3, s4, s5, s6⟩ := S
  have o : ∀ r, I' 10 r = I 10 r := fun r => by rw [e]; unfold sI; exact rI_ne (by omega)
  have f : ∀ k, k ≠ 8 → I' 11 4 k = I 11 4 k := fun k h => by rw [e]; exact sI_ot _ _ _ _ h
  refine ⟨⟨KA_keep s1 (f 3 (by decide)) (f 4 (by decide)) (by rw [e]; exact sI_ro _ _ _ _ _ (by decide)), ⟨hs, by rw [e, sI_at]⟩, by rw [f 9 (by decide)]; exact s3, ?_, ?_, ?_⟩, fun b r n m => ?_, fun _ _ => rfl, fun k hk => f k (by omega)⟩
  · unfold GM; rw [f 10 (by decide)]; exact s4
  · unfold RR GG; rw [o 0, o 1, o 3, o 4, o 8, o 9, o 11, o 13, o 14]; exact s5
  · unfold gTok; rw [o 2, o 5]; exact s6
  · rw [e]; unfold sI; exact rI_ne m
theorem k_val {x1 x2 x3 : Int32} {Q : Int32 → MI → MJ → Prop} {bit lo hi c j fld : Nat} (S : KS tx n i d L sn hd g I J) (e7 : I 11 4 7 = nI j) (hb : bit < 5) (e1 : x1 = nI (2 ^ bit)) (e2 : x2 = nI lo) (e3 : x3 = nI hi) (hlo : lo ≤ 9999) (hhi : hi ≤ 9999) (hc : 1 ≤ c ∧ c ≤ 4) (hf : fld = c + 3)
    (hQ : ∀ k' d' sn', spVal tx n bit lo hi c j i d sn = .ok (k', d', sn') → ∀ I' J', KS tx n k' d' L sn' hd g I' J' → kF I I' J J' → Q 1 I' J') (hE : ∀ c' o, spVal tx n bit lo hi c j i d sn = .error (c', o) → ∀ I' J', kE c' o I I' J J' → Q 0 I' J') :
    f_X5_tellOnce x1 I J (fun (v_3 : Int32) (I_1 : MI) (J_2 : MJ) => ((v_3 = (0 : Int32) → Q (0 : Int32) I_1 J_2) ∧ (¬ v_3 = (0 : Int32) → f_X5_readNumber x2 x3 I_1 J_2 (fun (v_7 : Int32) (I_5 : MI) (J_6 : MJ) => ((v_7 = (0 : Int32) → Q (0 : Int32) I_5 J_6) ∧ (¬ v_7 = (0 : Int32) → ∀ I_9 : MI, I_9 = sI I_5 10 1 fld (I_5 11 4 6) → Q (1 : Int32) I_9 J_6)))))) := by
  subst hf
  unfold spVal at hQ hE
  refine k_tellOnce sn bit j S.2.1.1 hb S.2.1.2 e7 e1 (fun z I1 g1 s32 => q_f (by decide) ?_) (fun z I' er => q_t rfl (hE _ _ (if_pos z) I' J (kE_er er)))
  have zt : ¬ sn.testBit bit = true := by rw [z]; decide
  rw [if_neg zt] at hQ hE
  have T := KS_tell S s32 g1
  refine k_number T.1.1 e2 e3 hlo hhi (fun k v ek I5 a5 f5 e6 _ l1 l2 _ => q_f (by decide) (fun I9 e9 => ?_)) (fun c' o ek I' er => q_t rfl (hE c' o (by rw [ek]; rfl) I' J (T.2.kE (kE_er er))))
  have S5 := KS_fo T.1 f5 a5
  rw [e6] at e9
  obtain ⟨s1, s2, s3, s4, s5, s6⟩ := S5
  have o : ∀ r, r ≠ 1 → I9 10 r = I5 10 r := fun r h => by rw [e9]; exact sI_ro _ _ _ _ _ h
  have o11 : ∀ r, I9 11 r = I5 11 r := fun r => by rw [e9]; unfold sI; exact rI_ne (by omega)
  refine hQ k _ _ (by rw [ek]; rfl) I9 J ⟨KA_keep s1 (by rw [o11]) (by rw [o11]) (o11 5), by rw [o11]; exact s2, by rw [o11]; exact s3, ?_, RR_val s5 hc e9, ?_⟩ ((T.2.trans (kF_fo f5)).trans ⟨fun b r nb _ => by rw [e9]; unfold sI; exact rI_ne (fun y => nb y.1), fun _ _ => rfl, fun k _ => by rw [o11]⟩)
  · obtain ⟨gm, g1', g2', g3'⟩ := s4
    refine ⟨gm, g1', by rw [o11]; exact g2', fun x hx => ?_⟩
    rw [dn_ot d _ (show 10 + x ≠ c by omega)]
    exact g3' x hx
  · unfold gTok; rw [o 2 (by decide), o 5 (by decide)]; exact s6
/-- the letters of a group, one by one -/
def alI (tx : Nat → Nat) (g j q f : Nat) (d : SD) (I : MI) : Prop := (∃ F : Nat → Nat, F (g + 1) = f ∧ ∀ x, x < 26 → dn d (10 + x) ≤ g + 1 ∧ (dn d (10 + x) = 0 → I 10 4 (x + 1) = nI (x + 1)) ∧ (¬ dn d (10 + x) = 0 → F (dn d (10 + x)) < 26 ∧ I 10 4 (x + 1) = nI (F (dn d (10 + x)) + 1) ∧ dn d (10 + F (dn d (10 + x))) = dn d (10 + x))) ∧ (j < q → dn d (10 + f) = g + 1)
theorem al_start {j f : Nat} (G : GG I d g) : alI tx g j j f d I := by
  obtain ⟨F, G⟩ := G
  refine ⟨⟨fun m => if m = g + 1 then f else F m, if_pos rfl, fun x hx => ?_⟩, fun h => absurd h (Nat.lt_irrefl _)⟩
  obtain ⟨z1, z2, z3⟩ := G x hx
  refine ⟨by omega, z2, fun y => ?_⟩
  have e : (if dn d (10 + x) = g + 1 then f else F (dn d (10 + x))) = F (dn d (10 + x)) := if_neg (by omega)
  show (if dn d (10 + x) = g + 1 then f else F (dn d (10 + x))) < 26 ∧ I 10 4 (x + 1) = nI ((if dn d (10 + x) = g + 1 then f else F (dn d (10 + x))) + 1) ∧ dn d (10 + if dn d (10 + x) = g + 1 then f else F (dn d (10 + x))) = dn d (10 + x)
  rw [e]
  exact z3 y
theorem al_step {j q f a : Nat} {I' : MI} (G : alI tx g j q f d I) (hf : f < 26) (ha : a < 26) (hg : g + 1 < 1048576) (hjq : q = j → a = f) (hq : j ≤ q) (h0 : dn d (10 + a) = 0) (e : I' 10 4 = upd (I 10 4) (a + 1) (nI (f + 1))) : alI tx g j (q + 1) f (upd d (10 + a) (nI (g + 1))) I' := by
  obtain ⟨⟨F, hF, G⟩, G2⟩ := G
  have da : dn (upd d (10 + a) (nI (g + 1))) (10 + a) = g + 1 := dn_at d (by omega)
  have do' : ∀ x, x ≠ a → dn (upd d (10 + a) (nI (g + 1))) (10 + x) = dn d (10 + x) := fun x h => dn_ot d _ (by omega)
  have ff : dn (upd d (10 + a) (nI (g + 1))) (10 + f) = g + 1 := by
    by_cases z : f = a
    · rw [z]; exact da
    · rw [do' f z]
      by_cases y : q = j
      · exact absurd (hjq y).symm z
      · exact G2 (by omega)
  refine ⟨⟨F, hF, fun x hx => ?_⟩, fun _ => ff⟩
  by_cases z : x = a
  · subst z
    rw [da, e, upd_at]
    exact ⟨Nat.le_refl _, fun y => absurd y (by omega), fun _ => by rw [hF]; exact ⟨hf, rfl, ff⟩⟩
  · obtain ⟨z1, z2, z3⟩ := G x hx
    rw [do' x z, e, upd_ot _ _ (by omega)]
    refine ⟨z1, z2, fun y => ?_⟩
    have w := z3 y
    refine ⟨w.1, w.2.1, ?_⟩
    rw [do' _ (fun v => y (by rw [← w.2.2, v]; exact h0))]
    exact w.2.2
theorem al_end {j q f : Nat} (G : alI tx g j q f d I) : GG I d (g + 1) := by
  obtain ⟨⟨F, -, G⟩, -⟩ := G
  exact ⟨F, G⟩
theorem spAlL_ok {g' : Nat} : ∀ (f q : Nat) (d : SD), DW d → g' < 1048576 → (∀ r, q ≤ r → r < q + f → isL (tx r) = true) → ∀ d', spAlL tx g' f q d = .ok d' → DW d'
  | 0, _, _, D, _, _, _, e => by cases e; exact D
  | f + 1, q, d, D, hg, hl, d', e => by
    unfold spAlL at e
    have l := isL_t (hl q (Nat.le_refl _) (by omega))
    split at e
    · exact spAlL_ok f (q + 1) _ (DW_low D (by omega) hg) hg (fun r a b => hl r (by omega) (by omega)) d' e
    · cases e
end KV
