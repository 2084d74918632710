/-! THE LAW'S CALLS OF THE CLASS: behind each the model may be asked, and the law agrees -/
def LQ (M : MI → MJ → (Int32 → MI → MJ → Prop) → Prop) : Int32 → MI → MJ → Prop := fun k I1 J1 => M I1 J1 (POST k)
def LQb (M : MI → MJ → (Int32 → MI → MJ → Prop) → Prop) : Int32 → MI → MJ → Prop := fun k I1 J1 => M I1 J1 (PSTb k)
theorem j13_put {J J2 : MJ} {v : Int64} (e : J2 = sJ J 13 0 0 v) : J13 J J2 ∧ J2 13 0 0 = v := by
  refine ⟨fun b hb => ?_, by rw [e, sJ_at]⟩
  funext r
  rw [e]
  unfold sJ
  exact rJ_ne (fun z => hb z.1)
section CASES
variable {l : Launch} {E : EV} {ps : List (Nat × Nat)} {I : MI} {J : MJ} {x y u : Int32}
theorem lc_load (hl9 : l.stackTraces = false) (h11 : ∀ r, r < 11 → (11, r) ∈ ps) (hG : ∀ k r, k < 11 → r < 16 → (k, r) ∈ ps) (hR : (eT E)[2]? = some (eG E, .object "RhymeRoofs$Game")) (h13 : (13, 0) ∈ ps) (V : INV I J) : YI l yL_load wsL_load rmL_load E ps [.ref (eA E 11 0), .int x, .ref (eA E 13 0)] I J (LQ (f_X8_load x)) (fun _ _ _ => False) 4 24 :=
  c_L_load hl9 h11 hG hR h13 (b_load V) (fun v I1 J1 h J2 e => h J2 (j13_put e).1 (j13_put e).2) (fun k I1 J1 h => h)
theorem lc_state (hl9 : l.stackTraces = false) (h11 : ∀ r, r < 11 → (11, r) ∈ ps) (hG : ∀ k r, k < 11 → r < 16 → (k, r) ∈ ps) (hR : (eT E)[2]? = some (eG E, .object "RhymeRoofs$Game")) (h13 : (13, 0) ∈ ps) (V : INV I J) : YI l yL_state wsL_state rmL_state E ps [.ref (eA E 11 0), .int x, .ref (eA E 13 0)] I J (LQ (f_X8_state x)) (fun _ _ _ => False) 4 24 :=
  c_L_state hl9 h11 hG hR h13 (b_state V) (fun v I1 J1 h J2 e => h J2 (j13_put e).1 (j13_put e).2) (fun k I1 J1 h => h)
theorem lc_row (hl9 : l.stackTraces = false) (h11 : ∀ r, r < 11 → (11, r) ∈ ps) (hG : ∀ k r, k < 11 → r < 16 → (k, r) ∈ ps) (hR : (eT E)[2]? = some (eG E, .object "RhymeRoofs$Game")) (h13 : (13, 0) ∈ ps) (V : INV I J) : YI l yL_row wsL_row rmL_row E ps [.ref (eA E 11 0), .int x, .int y, .ref (eA E 13 0)] I J (LQ (f_X8_row x y)) (fun _ _ _ => False) 4 24 :=
  c_L_row hl9 h11 hG hR h13 (b_row V) (fun v I1 J1 h J2 e => h J2 (j13_put e).1 (j13_put e).2) (fun k I1 J1 h => h)
theorem lc_player (hl9 : l.stackTraces = false) (h11 : ∀ r, r < 11 → (11, r) ∈ ps) (hG : ∀ k r, k < 11 → r < 16 → (k, r) ∈ ps) (hR : (eT E)[2]? = some (eG E, .object "RhymeRoofs$Game")) (h13 : (13, 0) ∈ ps) (V : INV I J) : YI l yL_player wsL_player rmL_player E ps [.ref (eA E 11 0), .int x, .int y, .ref (eA E 13 0)] I J (LQ (f_X8_player x y)) (fun _ _ _ => False) 4 24 :=
  c_L_player hl9 h11 hG hR h13 (b_player V) (fun v I1 J1 h J2 e => h J2 (j13_put e).1 (j13_put e).2) (fun k I1 J1 h => h)
theorem lc_alike (hl9 : l.stackTraces = false) (h11 : ∀ r, r < 11 → (11, r) ∈ ps) (hG : ∀ k r, k < 11 → r < 16 → (k, r) ∈ ps) (hR : (eT E)[2]? = some (eG E, .object "RhymeRoofs$Game")) (h13 : (13, 0) ∈ ps) (V : INV I J) : YI l yL_alike wsL_alike rmL_alike E ps [.ref (eA E 11 0), .int x, .int y, .ref (eA E 13 0)] I J (LQb (f_X8_alike x y)) (fun _ _ _ => False) 4 24 :=
  c_L_alike hl9 h11 hG hR h13 (b_alike V) (fun v I1 J1 h => ⟨fun z J2 e => h J2 (j13_put e).1 (by rw [(j13_put e).2, if_pos z]), fun z J2 e => h J2 (j13_put e).1 (by rw [(j13_put e).2, if_neg z])⟩) (fun k I1 J1 h => h)
theorem lc_rhyme (hl9 : l.stackTraces = false) (h11 : ∀ r, r < 11 → (11, r) ∈ ps) (hG : ∀ k r, k < 11 → r < 16 → (k, r) ∈ ps) (hR : (eT E)[2]? = some (eG E, .object "RhymeRoofs$Game")) (h13 : (13, 0) ∈ ps) (V : INV I J) : YI l yL_rhyme wsL_rhyme rmL_rhyme E ps [.ref (eA E 11 0), .int x, .int y, .int u, .ref (eA E 13 0)] I J (LQ (f_X8_rhyme x y u)) (fun _ _ _ => False) 4 24 :=
  c_L_rhyme hl9 h11 hG hR h13 (b_rhyme V) (fun v I1 J1 h J2 e => h J2 (j13_put e).1 (j13_put e).2) (fun k I1 J1 h => h)
theorem lc_why (hl9 : l.stackTraces = false) (h11 : ∀ r, r < 11 → (11, r) ∈ ps) (hG : ∀ k r, k < 11 → r < 16 → (k, r) ∈ ps) (hR : (eT E)[2]? = some (eG E, .object "RhymeRoofs$Game")) (h13 : (13, 0) ∈ ps) (V : INV I J) : YI l yL_why wsL_why rmL_why E ps [.ref (eA E 11 0), .int x, .int y, .ref (eA E 13 0)] I J (LQ (f_X8_why x y)) (fun _ _ _ => False) 4 24 :=
  c_L_why hl9 h11 hG hR h13 (b_why V) (fun v I1 J1 h J2 e => h J2 (j13_put e).1 (j13_put e).2) (fun k I1 J1 h => h)
theorem lc_chain (hl9 : l.stackTraces = false) (h11 : ∀ r, r < 11 → (11, r) ∈ ps) (hG : ∀ k r, k < 11 → r < 16 → (k, r) ∈ ps) (hR : (eT E)[2]? = some (eG E, .object "RhymeRoofs$Game")) (h13 : (13, 0) ∈ ps) (V : INV I J) : YI l yL_chain wsL_chain rmL_chain E ps [.ref (eA E 11 0), .int x, .int y, .ref (eA E 13 0)] I J (LQ (f_X8_chain x y)) (fun _ _ _ => False) 4 24 :=
  c_L_chain hl9 h11 hG hR h13 (b_chain V) (fun v I1 J1 h J2 e => h J2 (j13_put e).1 (j13_put e).2) (fun k I1 J1 h => h)
theorem lc_worth (hl9 : l.stackTraces = false) (h11 : ∀ r, r < 11 → (11, r) ∈ ps) (hG : ∀ k r, k < 11 → r < 16 → (k, r) ∈ ps) (hR : (eT E)[2]? = some (eG E, .object "RhymeRoofs$Game")) (h13 : (13, 0) ∈ ps) (V : INV I J) : YI l yL_worth wsL_worth rmL_worth E ps [.ref (eA E 11 0), .int x, .int y, .ref (eA E 13 0)] I J (LQ (f_X8_worth x y)) (fun _ _ _ => False) 4 24 :=
  c_L_worth hl9 h11 hG hR h13 (b_worth V) (fun v I1 J1 h J2 e => h J2 (j13_put e).1 (j13_put e).2) (fun k I1 J1 h => h)
theorem lc_fillings (hl9 : l.stackTraces = false) (h11 : ∀ r, r < 11 → (11, r) ∈ ps) (hG : ∀ k r, k < 11 → r < 16 → (k, r) ∈ ps) (hR : (eT E)[2]? = some (eG E, .object "RhymeRoofs$Game")) (h13 : (13, 0) ∈ ps) (V : INV I J) : YI l yL_fillings wsL_fillings rmL_fillings E ps [.ref (eA E 11 0), .int x, .int y, .ref (eA E 13 0)] I J (LQ (f_X8_fillings x y)) (fun _ _ _ => False) 4 24 :=
  c_L_fillings hl9 h11 hG hR h13 (b_fillings V) (fun v I1 J1 h J2 e => h J2 (j13_put e).1 (j13_put e).2) (fun k I1 J1 h => h)
theorem lc_threats (hl9 : l.stackTraces = false) (h11 : ∀ r, r < 11 → (11, r) ∈ ps) (hG : ∀ k r, k < 11 → r < 16 → (k, r) ∈ ps) (hR : (eT E)[2]? = some (eG E, .object "RhymeRoofs$Game")) (h13 : (13, 0) ∈ ps) (V : INV I J) : YI l yL_threats wsL_threats rmL_threats E ps [.ref (eA E 11 0), .int x, .ref (eA E 13 0)] I J (LQ (f_X8_threats x)) (fun _ _ _ => False) 4 24 :=
  c_L_threats hl9 h11 hG hR h13 (b_threats V) (fun v I1 J1 h J2 e => h J2 (j13_put e).1 (j13_put e).2) (fun k I1 J1 h => h)
theorem lc_lay (hl9 : l.stackTraces = false) (h11 : ∀ r, r < 11 → (11, r) ∈ ps) (hG : ∀ k r, k < 11 → r < 16 → (k, r) ∈ ps) (hR : (eT E)[2]? = some (eG E, .object "RhymeRoofs$Game")) (h13 : (13, 0) ∈ ps) (V : INV I J) : YI l yL_lay wsL_lay rmL_lay E ps [.ref (eA E 11 0), .int x, .int y, .ref (eA E 13 0)] I J (LQ (f_X8_lay x y)) (fun _ _ _ => False) 4 24 :=
  c_L_lay hl9 h11 hG hR h13 (b_lay V) (fun v I1 J1 h J2 e => h J2 (j13_put e).1 (j13_put e).2) (fun k I1 J1 h => h)
theorem lc_pass (hl9 : l.stackTraces = false) (h11 : ∀ r, r < 11 → (11, r) ∈ ps) (hG : ∀ k r, k < 11 → r < 16 → (k, r) ∈ ps) (hR : (eT E)[2]? = some (eG E, .object "RhymeRoofs$Game")) (h13 : (13, 0) ∈ ps) (V : INV I J) : YI l yL_pass wsL_pass rmL_pass E ps [.ref (eA E 11 0), .ref (eA E 13 0)] I J (LQ (f_X8_pass)) (fun _ _ _ => False) 4 24 :=
  c_L_pass hl9 h11 hG hR h13 (b_pass V) (fun v I1 J1 h J2 e => h J2 (j13_put e).1 (j13_put e).2) (fun k I1 J1 h => h)
theorem lc_auto (hl9 : l.stackTraces = false) (h11 : ∀ r, r < 11 → (11, r) ∈ ps) (hG : ∀ k r, k < 11 → r < 16 → (k, r) ∈ ps) (hR : (eT E)[2]? = some (eG E, .object "RhymeRoofs$Game")) (h13 : (13, 0) ∈ ps) (V : INV I J) : YI l yL_auto wsL_auto rmL_auto E ps [.ref (eA E 11 0), .int x, .ref (eA E 13 0)] I J (LQ (f_X8_auto x)) (fun _ _ _ => False) 4 24 :=
  c_L_auto hl9 h11 hG hR h13 (b_auto V) (fun v I1 J1 h J2 e => h J2 (j13_put e).1 (j13_put e).2) (fun k I1 J1 h => h)
theorem lc_give (hl9 : l.stackTraces = false) (h11 : ∀ r, r < 11 → (11, r) ∈ ps) (hG : ∀ k r, k < 11 → r < 16 → (k, r) ∈ ps) (hR : (eT E)[2]? = some (eG E, .object "RhymeRoofs$Game")) (h13 : (13, 0) ∈ ps) (V : INV I J) : YI l yL_give wsL_give rmL_give E ps [.ref (eA E 11 0), .int x, .int y, .ref (eA E 13 0)] I J (LQ (f_X8_give x y)) (fun _ _ _ => False) 4 24 :=
  c_L_give hl9 h11 hG hR h13 (b_give V) (fun v I1 J1 h J2 e => h J2 (j13_put e).1 (j13_put e).2) (fun k I1 J1 h => h)
end CASES
