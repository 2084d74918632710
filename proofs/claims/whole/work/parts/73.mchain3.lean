/-! CHAINS: what the model tells of them -/
theorem chG_0 (d : Nat → Int32) (p r w t : Nat) : chG d p r w 0 0 t = 0 := by
  unfold chG
  by_cases a : w = 2
  · rw [if_pos a]; split <;> rfl
  · rw [if_neg a]
    by_cases b : w = 0
    · rw [if_pos b, if_pos rfl]
    · rw [if_neg b]
theorem cmb_m {w a b : Nat} (h : w ≠ 2) : cmb w a b = max a b := if_neg h
section ME
variable {I : MI} {J : MJ} {d : Nat → Int32}
theorem chG_le (W : WF d) {p r w t l : Nat} (hp : p < 4) (hr : r < 6) (hw : w ≠ 2) (ht : t < 2 ^ mMany d p) : chG d p r w (chW d p r t l) (chB d p r t l) t ≤ 100000 := by
  have p8 := pw_8 _ (W.2.2.2 p hp).1
  have h3 := pop_le t (by omega)
  have h2 := chB_le (r := r) W hp hr t l ht
  unfold chG
  rw [if_neg hw]
  split
  · split <;> omega
  · omega
theorem m_of32 {x1 x2 x3 x5 x6 v0 : Int32} {K : Int32 → MI → MJ → Prop} (hd : I 12 2 = d) (W : WF d) (p r w t a0 : Nat) (hp : p < 4) (hr : r < 6) (h1 : 0 < t) (ht : t < 2 ^ mMany d p) (hw : w ≤ 2)
    (e1 : x1 = nI p) (e2 : x2 = nI r) (e3 : x3 = nI w) (e5 : x5 = nI (mMany d p)) (e6 : x6 = nI t) (e0 : v0 = nI a0) (ha : w ≠ 2 → a0 ≤ 100000) (ho : ∀ l, l < mMany d p → ckO d p r I t l)
    (h : K (nI (cmb w a0 (fld w (fun l => chG d p r w (chW d p r t l) (chB d p r t l) t) (mMany d p)))) I J) : f_X8_ofChains_L32 x1 x2 x3 x5 x6 K (mMany d p + 1) v0 0 I J := by
  have wp := W.2.2.2 p hp
  have wr := W.2.2.1 r hr
  have p8 := pw_8 _ wp.1
  have hsb := sBit_le W hp ht
  refine up_inv (fun m (s : Int32) j => f_X8_ofChains_L32 x1 x2 x3 x5 x6 K m s j I J) (fun l s => s = nI (cmb w a0 (fld w (fun l => chG d p r w (chW d p r t l) (chB d p r t l) t) l))) (mMany d p) (fun m s hs => ?_) (fun m s l hl hs ih => ?_) v0 (by rw [e0]; show nI a0 = nI (cmb w a0 0); rw [cmb_0])
  · show f_X8_ofChains_B32 _ _ _ _ _ _ _ _ _ I J
    exact q_t (by rw [e5]; exact Int32.le_refl _) (by rw [hs]; exact h)
  · show f_X8_ofChains_B32 _ _ _ _ _ _ _ _ _ I J
    have o := ho l hl
    have Wlt := chW_lt (r := r) (t := t) W hp l (by omega)
    have nx : ∀ (s' j : Int32), s' = nI (cmb w (cmb w a0 (fld w (fun l => chG d p r w (chW d p r t l) (chB d p r t l) t) l)) (chG d p r w (chW d p r t l) (chB d p r t l) t)) → j = nI l + 1 → f_X8_ofChains_L32 x1 x2 x3 x5 x6 K m s' j I J := fun s' j es ej => ih s' j (by rw [es, ← cmb_as]; rfl) (by rw [ej, nI_1])
    refine q_f (by rw [e5]; exact nge hl (by omega)) (fun x8 e8 => ?_)
    have q8 : x8 = nI (8 * t + l) := by rw [e8, e6, nlit 8, nmul, nI_add]
    have v8 : vp_in x8 2048 := vin _ _ (by omega) (by decide) q8
    rw [cln (by omega) q8, o.1]
    refine ⟨v8, q_eq (chW d p r t l) 0 Wlt (by decide) rfl rfl (fun z j ej => nx s j ?_ ej) (fun z => ?_)⟩
    · have : chG d p r w (chW d p r t l) (chB d p r t l) t = 0 := by
        rw [chB_W z, z]
        exact chG_0 _ _ _ _ _
      rw [this, cmb_0]; exact hs
    · refine q_eq w 2 (by omega) (by decide) e3 rfl (fun z2 => ?_) (fun z2 => q_eq w 0 (by omega) (by decide) e3 rfl (fun z0 => ?_) (fun z0 => ?_))
      · subst z2
        refine M_lettersOf hd W p t e1 e6 hp (by omega) (M_free hd W r e2 hr (q_eq (sBit d p t) (mFree d r) (by omega) (by show _ - _ < _; omega) rfl rfl (fun y => ⟨v8, fun s' es j ej => nx s' j ?_ ej⟩) (fun y s' es j ej => nx s' j ?_ ej)))
        · rw [es, hs, o.1, nI_add]
          unfold chG cmb
          rw [if_pos rfl, if_pos y]
          rfl
        · rw [es, hs]
          unfold chG cmb
          rw [if_pos rfl, if_neg y]
          exact nI_add _ 0
      · subst z0
        have hb : cmb 0 a0 (fld 0 (fun l => chG d p r 0 (chW d p r t l) (chB d p r t l) t) l) ≤ 100000 := Nat.max_le.mpr ⟨ha (by decide), fld_le (by decide) _ (fun k hk => chG_le W hp hr (by decide) ht)⟩
        have h3 := pop_le t (by omega)
        refine M_sizeOf t e6 (by omega) (M_max _ (pop t) (by omega) (by omega) hs rfl (fun j ej => nx _ j ?_ ej))
        unfold chG
        rw [if_neg (by decide), if_pos rfl, if_neg z]
        rfl
      · have hb : cmb w a0 (fld w (fun l => chG d p r w (chW d p r t l) (chB d p r t l) t) l) ≤ 100000 := by
          unfold cmb
          rw [if_neg z2]
          exact Nat.max_le.mpr ⟨ha z2, fld_le z2 _ (fun k hk => chG_le W hp hr z2 ht)⟩
        have h3 := pop_le t (by omega)
        have h2 := chB_le (r := r) W hp hr t l ht
        refine ⟨v8, M_max _ (chB d p r t l) (by omega) (by omega) hs (o.2 z) (fun j ej => nx _ j ?_ ej)⟩
        have eG : chG d p r w (chW d p r t l) (chB d p r t l) t = chB d p r t l := by
          unfold chG
          rw [if_neg z2, if_neg z0]
        rw [eG, cmb_m (b := chB d p r t l) z2]
theorem m_ofChains {x1 x2 x3 : Int32} {Q : Int32 → MI → MJ → Prop} (hd : I 12 2 = d) (W : WF d) (p r w : Nat) (hp : p < 4) (hr : r < 6) (hw : w ≤ 2) (e1 : x1 = nI p) (e2 : x2 = nI r) (e3 : x3 = nI w) (h : ∀ s', ckF I s' → Q (nI (chAll d p r w)) s' J) : f_X8_ofChains x1 x2 x3 I J Q := by
  have wp := W.2.2.2 p hp
  have p8 := pw_8 _ wp.1
  have pos := Nat.two_pow_pos (mMany d p)
  have sh := b_shl (mMany d p) (by omega)
  have W' : WF (I 12 2) := by rw [hd]; exact W
  refine m_many W' p e1 hp ?_
  rw [hd]
  refine m_layChains hd W p r hp hr e1 e2 (fun s f o => ⟨_, up_invF (fun m (a : Int32) j => f_X8_ofChains_L20 x1 x2 x3 (nI (mMany d p)) _ m a j s J) (fun t a => a = nI (fld w (fun t => fld w (fun l => chG d p r w (chW d p r t l) (chB d p r t l) t) (mMany d p)) t)) 1 (2 ^ mMany d p) pos (fun m a ha => ?_) (fun m a t h1 ht ha ih => ?_) 0 ?_⟩)
  · show f_X8_ofChains_B20 _ _ _ _ _ _ _ _ s J
    exact q_t (by rw [sh]; exact Int32.le_refl _) (by rw [ha]; exact h s f)
  · show f_X8_ofChains_B20 _ _ _ _ _ _ _ _ s J
    refine q_f (by rw [sh]; exact nge ht (by omega)) ⟨_, m_of32 (by rw [f 12 2 (by decide)]; exact hd) W p r w t _ hp hr h1 ht hw e1 e2 e3 rfl rfl ha (fun hw2 => fld_le hw2 _ (fun k hk => fld_le hw2 _ (fun l hl => chG_le W hp hr hw2 (by omega)))) (fun l hl => o t l h1 ht hl) (fun j ej => ih _ j rfl (by rw [ej, nI_1]))⟩
  · have z : fld w (fun l => chG d p r w (chW d p r 0 l) (chB d p r 0 l) 0) (mMany d p) = 0 := fld_0 (fun l _ => by
      have y : chW d p r 0 l = 0 := chW_no (fun q => by rw [Nat.zero_testBit] at q; cases q.1)
      rw [chB_W y, y]
      exact chG_0 _ _ _ _ _)
    show (0 : Int32) = nI (cmb w 0 (fld w (fun l => chG d p r w (chW d p r 0 l) (chB d p r 0 l) 0) (mMany d p)))
    rw [z, cmb_0]
    rfl
end ME
