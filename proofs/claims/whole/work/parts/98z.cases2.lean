/-! THE LAW'S CALLS OF TILE, LETTER, PLAY -/
section CASE3
variable {l : Launch} {E : EV} {ps : List (Nat × Nat)} {I : MI} {J : MJ} {x y u : Int32}
theorem lc_tile (hl9 : l.stackTraces = false) (h11 : ∀ r, r < 11 → (11, r) ∈ ps) (hG : ∀ k r, k < 11 → r < 16 → (k, r) ∈ ps) (hR : (eT E)[2]? = some (eG E, .object "RhymeRoofs$Game")) (h13 : (13, 0) ∈ ps) (V : INV I J) : YI l yL_tile wsL_tile rmL_tile E ps [.ref (eA E 11 0), .int x, .int y, .ref (eA E 13 0)] I J (LQ (f_X8_tile x y)) (fun _ _ _ => False) 4 24 :=
  c_L_tile hl9 h11 hG hR h13 (b_tile V) (fun v I1 J1 h J2 e => h J2 (j13_put e).1 (j13_put e).2) (fun k I1 J1 h => h)
theorem lc_letter (hl9 : l.stackTraces = false) (h11 : ∀ r, r < 11 → (11, r) ∈ ps) (hG : ∀ k r, k < 11 → r < 16 → (k, r) ∈ ps) (hR : (eT E)[2]? = some (eG E, .object "RhymeRoofs$Game")) (h13 : (13, 0) ∈ ps) (V : INV I J) : YI l yL_letter wsL_letter rmL_letter E ps [.ref (eA E 11 0), .int x, .int y, .int u, .ref (eA E 13 0)] I J (LQ (f_X8_letter x y u)) (fun _ _ _ => False) 4 24 :=
  c_L_letter hl9 h11 hG hR h13 (b_letter V) (fun v I1 J1 h J2 e => h J2 (j13_put e).1 (j13_put e).2) (fun k I1 J1 h => h)
theorem lc_play (hl9 : l.stackTraces = false) (h11 : ∀ r, r < 11 → (11, r) ∈ ps) (hG : ∀ k r, k < 11 → r < 16 → (k, r) ∈ ps) (hR : (eT E)[2]? = some (eG E, .object "RhymeRoofs$Game")) (h13 : (13, 0) ∈ ps) (V : INV I J) : YI l yL_play wsL_play rmL_play E ps [.ref (eA E 11 0), .int x, .int y, .int u, .ref (eA E 13 0)] I J (LQ (f_X8_play x y u)) (fun _ _ _ => False) 4 24 :=
  c_L_play hl9 h11 hG hR h13 (b_play V) (fun v I1 J1 h J2 e => h J2 (j13_put e).1 (j13_put e).2) (fun k I1 J1 h => h)
end CASE3
