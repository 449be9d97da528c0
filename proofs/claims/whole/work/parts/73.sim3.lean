theorem b_tbT {σ ρ : St} (h : NW σ ρ) (hn : 0 ≤ ρ 0 5) (v : Int) : ∀ o, 0 ≤ o → o < ρ 0 5 → kdX σ v o = tb (TH ρ v) o := fun o a b => by rw [tb_TH hn a, decide_eq_true b, Bool.true_and, b_kd h v a b]

theorem s_supplied {σ σ1 σ2 : St} {it p1 : Int} {x y : Int} (h : INV σ) (hx : ((fun x => (¬ ((0 ≤ it ∧ it ≤ 2) ∧ (0 ≤ p1 ∧ p1 ≤ 11)) ∧ x = -1) ∨ (((0 ≤ it ∧ it ≤ 2) ∧ (0 ≤ p1 ∧ p1 ≤ 11)) ∧ x = σ 109 (12 * it + p1)))) x ∧ σ1 = σ) (hy : ((fun x σ2 => ((¬ ((0 ≤ it ∧ it ≤ 2) ∧ (0 ≤ p1 ∧ p1 ≤ 11)) ∧ x = -1) ∨ (((0 ≤ it ∧ it ≤ 2) ∧ (0 ≤ p1 ∧ p1 ≤ 11)) ∧ x = σ1 1 (12 * it + p1))) ∧ σ2 = σ1)) y σ2) : x = y ∧ INV σ2 := by
  obtain ⟨hx, e⟩ := hx
  obtain ⟨hy, e2⟩ := hy
  subst e
  subst e2
  have hw := I_nw h
  refine ⟨?_, h⟩
  rcases hx with ⟨a, b⟩ | ⟨a, b⟩ <;> rcases hy with ⟨c, d⟩ | ⟨c, d⟩
  · omega
  · exact absurd c a
  · exact absurd a c
  · rw [b, d]; exact hw.2.1 _ (by omega) (by omega)

theorem s_group {σ σ1 σ2 : St} {g wh : Int} {x y : Int} (h : INV σ) (hx : ((fun x => (¬ ((0 ≤ g ∧ g ≤ 3) ∧ (0 ≤ wh ∧ wh ≤ 2)) ∧ x = -1) ∨ ((0 ≤ g ∧ g ≤ 3) ∧ ((wh = 0 ∧ x = σ 110 g) ∨ (wh = 1 ∧ x = σ 110 g * sm (σ 109) 36 / 100) ∨ (wh = 2 ∧ x = amS (σ 83 5) (σ 84) (σ 87) (tb (TX σ 1)) g))))) x ∧ σ1 = σ) (hy : ((fun x σ2 => σ2 = σ1 ∧ ((¬ ((0 ≤ g ∧ g ≤ 3) ∧ (0 ≤ wh ∧ wh ≤ 2)) ∧ x = -1) ∨ (((0 ≤ g ∧ g ≤ 3) ∧ wh = 0) ∧ x = σ1 1 (36 + g)) ∨ (((0 ≤ g ∧ g ≤ 3) ∧ wh = 1) ∧ x = σ1 1 (36 + g) * sm (σ1 1) 36 / 100) ∨ (((0 ≤ g ∧ g ≤ 3) ∧ wh = 2) ∧ x = amS (σ1 0 5) (σ1 2) (σ1 4) (tb (TH σ1 1)) g)))) y σ2) : x = y ∧ INV σ2 := by
  obtain ⟨hx, e⟩ := hx
  obtain ⟨e2, hy⟩ := hy
  subst e
  subst e2
  have hw := I_nw h
  refine ⟨?_, h⟩
  rcases hx with ⟨a, b⟩ | ⟨a, ⟨w, b⟩ | ⟨w, b⟩ | ⟨w, b⟩⟩ <;> rcases hy with ⟨c, d⟩ | ⟨⟨c, w2⟩, d⟩ | ⟨⟨c, w2⟩, d⟩ | ⟨⟨c, w2⟩, d⟩ <;> first
    | omega
    | (rw [b, d]; exact hw.2.2.1 _ (by omega) (by omega))
    | (rw [b, d]; exact b_sh hw (by omega) (by omega))
    | (rw [b, d, b_TX hw]; exact b_am hw (fun _ _ _ => rfl) _)

theorem s_of {σ σ1 σ2 : St} {o wh : Int} {x y : Int} (h : INV σ) (hx : ((fun x σ2 => ((¬ (0 ≤ o ∧ o < σ 83 5) ∧ x = -1) ∨ ((0 ≤ o ∧ o < σ 83 5) ∧ ((wh = 0 ∧ x = σ 84 o) ∨ (wh = 1 ∧ x = σ 85 o) ∨ (wh = 2 ∧ x = σ 112 o) ∨ (wh = 3 ∧ x = σ 87 o) ∨ (wh = 4 ∧ x = σ 88 o) ∨ (wh = 5 ∧ x = σ 111 o) ∨ (wh = 6 ∧ bP x (LATX σ o)) ∨ ((wh < 0 ∨ 6 < wh) ∧ x = -1)))) ∧ EQK σ2 σ ∧ KOK σ2)) x σ1) (hy : ((fun x σ2 => ((¬ (0 ≤ o ∧ o < σ1 0 5) ∧ x = -1) ∨ ((0 ≤ o ∧ o < σ1 0 5) ∧ ((wh = 0 ∧ x = σ1 2 o) ∨ (wh = 1 ∧ x = σ1 3 o) ∨ (wh = 2 ∧ x = σ1 1 (64 + o)) ∨ (wh = 3 ∧ x = σ1 4 o) ∨ (wh = 4 ∧ x = σ1 5 o) ∨ (wh = 5 ∧ x = σ1 1 (40 + o)) ∨ (wh = 6 ∧ bP x (LATE σ1 o)) ∨ ((wh < 0 ∨ 6 < wh) ∧ x = -1)))) ∧ ∃ τ, σ2 = SC σ1 τ)) y σ2) : x = y ∧ INV σ2 := by
  obtain ⟨hx, e1, k1⟩ := hx
  obtain ⟨hy, τ, e2⟩ := hy
  subst e2
  have hw := NW_E (I_nw h) EQK_0 e1
  have hn := hw.1
  refine ⟨?_, INV_q h e1 k1 EQ_SC⟩
  rcases hx with ⟨a, b⟩ | ⟨a, b⟩ <;> rcases hy with ⟨c, d⟩ | ⟨c, d⟩
  · omega
  · omega
  · omega
  · obtain ⟨g1, g2, g3, g4, g5, g6⟩ := hw.2.2.2 o c.1 c.2
    rcases b with ⟨w, b⟩ | ⟨w, b⟩ | ⟨w, b⟩ | ⟨w, b⟩ | ⟨w, b⟩ | ⟨w, b⟩ | ⟨w, b⟩ | ⟨w, b⟩ <;> rcases d with ⟨w2, d⟩ | ⟨w2, d⟩ | ⟨w2, d⟩ | ⟨w2, d⟩ | ⟨w2, d⟩ | ⟨w2, d⟩ | ⟨w2, d⟩ | ⟨w2, d⟩ <;> first
      | omega
      | exact bP_inj (bP_c b (b_LATE hw c.1 c.2)) d

theorem s_left {σ σ1 σ2 : St} {u1 : Int} {x y : Int} (h : INV σ) (hx : ((fun x => (¬ (0 ≤ u1 ∧ u1 / 10000 < 13 ∧ u1 / 100 % 100 < 13 ∧ u1 % 100 < 13) ∧ x = -10000) ∨ ((0 ≤ u1 ∧ u1 / 10000 < 13 ∧ u1 / 100 % 100 < 13 ∧ u1 % 100 < 13) ∧ x = LFT (σ 109) (σ 83 5) (σ 84) (σ 85) (σ 112) (fun o => decide (σ 111 o = 1)) (u1 / 10000) (u1 / 100 % 100) (u1 % 100)))) x ∧ σ1 = σ) (hy : ((fun x σ2 => (¬ (0 ≤ u1 ∧ prt u1 0 ≤ 12 ∧ prt u1 1 ≤ 12 ∧ prt u1 2 ≤ 12) ∧ x = -10000 ∧ σ2 = σ1) ∨ ((0 ≤ u1 ∧ prt u1 0 ≤ 12 ∧ prt u1 1 ≤ 12 ∧ prt u1 2 ≤ 12) ∧ x = LFT (σ1 1) (σ1 0 5) (σ1 2) (σ1 3) (fun o => σ1 1 (64 + o)) (tb (TH σ1 1)) (prt u1 0) (prt u1 1) (prt u1 2) ∧ ∃ τ, σ2 = SC σ1 τ))) y σ2) : x = y ∧ INV σ2 := by
  obtain ⟨hx, e⟩ := hx
  subst e
  have hw := I_nw h
  have p0 : prt u1 0 = u1 / 10000 := if_pos rfl
  have p1 : prt u1 1 = u1 / 100 % 100 := by unfold prt; rw [if_neg (by decide), if_pos rfl]
  have p2 : prt u1 2 = u1 % 100 := by unfold prt; rw [if_neg (by decide), if_neg (by decide)]
  rw [p0, p1, p2] at hy
  rcases hx with ⟨a, b⟩ | ⟨a, b⟩ <;> rcases hy with ⟨c, d, e⟩ | ⟨c, d, τ, e⟩
  · subst e; exact ⟨by omega, h⟩
  · exact absurd (show 0 ≤ u1 ∧ u1 / 10000 < 13 ∧ u1 / 100 % 100 < 13 ∧ u1 % 100 < 13 by omega) a
  · exact absurd (show 0 ≤ u1 ∧ u1 / 10000 ≤ 12 ∧ u1 / 100 % 100 ≤ 12 ∧ u1 % 100 ≤ 12 by omega) c
  · subst e
    refine ⟨?_, INV_EQ h EQ_SC⟩
    rw [b, d]
    have e1 := b_dm hw (b_tbT hw (I_ro h).1.1 1) (u1 / 10000) (u1 / 100 % 100) (u1 % 100)
    unfold LFT
    rw [b_sq hw (by omega) (by omega), b_sq hw (by omega) (by omega), b_sq hw (by omega) (by omega)]
    exact congrArg (fun z => sq (σ1 1) 0 (u1 / 10000) + sq (σ1 1) 1 (u1 / 100 % 100) + sq (σ1 1) 2 (u1 % 100) - z) e1

theorem s_hinders {σ σ1 σ2 : St} {o p1 : Int} {x y : Int} (h : INV σ) (hx : ((HIN σ o p1)) x σ1) (hy : ((fun x σ2 => (¬ ((0 ≤ o ∧ o < σ1 0 5) ∧ (-1 ≤ p1 ∧ p1 ≤ 0)) ∧ x = -1 ∧ σ2 = σ1) ∨ (((0 ≤ o ∧ o < σ1 0 5) ∧ (-1 ≤ p1 ∧ p1 ≤ 0)) ∧ σ1 1 (40 + o) ≠ 0 ∧ x = -5 ∧ σ2 = σ1) ∨ (((0 ≤ o ∧ o < σ1 0 5) ∧ (-1 ≤ p1 ∧ p1 ≤ 0)) ∧ σ1 1 (40 + o) = 0 ∧ ∃ k0 τ, σ2 = SC σ1 τ ∧ fst (LK σ1 (tb (ior (TH σ1 1) (pw o)))) 2197 k0 ∧ ((0 ≤ LK σ1 (tb (ior (TH σ1 1) (pw o))) k0 ∧ x = -2) ∨ (LK σ1 (tb (ior (TH σ1 1) (pw o))) k0 < 0 ∧ p1 = -1 ∧ x = stp k0) ∨ (LK σ1 (tb (ior (TH σ1 1) (pw o))) k0 < 0 ∧ p1 = 0 ∧ x = 100000 + LK σ1 (tb (ior (TH σ1 1) (pw o))) k0))))) y σ2) : x = y ∧ INV σ2 := by
  rcases hx with ⟨a, b, e⟩ | ⟨a, ⟨a2, b, e⟩ | ⟨a2, e, j, hj, hv⟩⟩
  · subst e
    have hw := I_nw h
    have hn := hw.1
    rcases hy with ⟨c, d, e⟩ | ⟨c, c2, d, e⟩ | ⟨c, _⟩
    · subst e; exact ⟨by omega, h⟩
    · omega
    · omega
  · subst e
    have hw := I_nw h
    have hn := hw.1
    rcases hy with ⟨c, d, e⟩ | ⟨c, c2, d, e⟩ | ⟨c, c2, _⟩
    · omega
    · subst e; exact ⟨by omega, h⟩
    · have := (hw.2.2.2 o c.1.1 c.1.2).1
      omega
  · have e1 : EQ σ1 σ := by rw [e]; exact EQ_LY EQ_0
    have hw := NW_E (I_nw h) EQK_0 (EQ_K e1)
    have hn := hw.1
    rcases hy with ⟨c, d, e⟩ | ⟨c, c2, d, e⟩ | ⟨c, c2, k0, τ, e9, hk, hz⟩
    · omega
    · have := (hw.2.2.2 o c.1.1 c.1.2).1
      omega
    · subst e9
      refine ⟨?_, INV_EQ (INV_EQ h e1) EQ_SC⟩
      have eL : ∀ i, 0 ≤ i → i < 2197 → LY σ (ior (TX σ 1) (pw o)) 92 i = LK σ1 (tb (ior (TH σ1 1) (pw o))) i := fun i x z => by
        rw [show LY σ (ior (TX σ 1) (pw o)) 92 i = LX σ (tb (ior (TX σ 1) (pw o))) i from RW_at ⟨x, z⟩, b_TX hw 1]
        exact b_LX hw (fun _ _ _ => rfl) x z
      have ej : j = k0 := fst_u eL hj hk
      subst ej
      have ev := eL j hj.1 hj.2.1
      rw [ev] at hv
      rcases hv with ⟨u, v⟩ | ⟨u, ⟨w, v⟩ | ⟨w, v⟩⟩ <;> rcases hz with ⟨u2, v2⟩ | ⟨u2, w2, v2⟩ | ⟨u2, w2, v2⟩ <;> omega

theorem FI_hS {it la a b c : Int} (ha : 0 ≤ a) (hb : 0 ≤ b) (hc : 0 ≤ c) : hS it la a b c ↔ FI it la 0 ≤ a ∧ FI it la 1 ≤ b ∧ FI it la 2 ≤ c := by rw [← hSb_iff, hSb_FI ha hb hc]

theorem s_spare {σ σ1 σ2 : St} {it la : Int} {x y : Int} (h : INV σ) (hx : ((fun x σ2 => (¬ ((1 ≤ it ∧ it ≤ 7) ∧ (0 ≤ la ∧ la ≤ 11)) ∧ x = -1 ∧ σ2 = σ) ∨ (((1 ≤ it ∧ it ≤ 7) ∧ (0 ≤ la ∧ la ≤ 11)) ∧ σ2 = LY σ (TX σ 1) ∧ ((¬ MEX σ (tb (TX σ 1)) ∧ x = 0) ∨ (MEX σ (tb (TX σ 1)) ∧ ∃ y, LEA (LY σ (TX σ 1)) it la y ∧ x = max 0 y))))) x σ1) (hy : ((fun x σ2 => (¬ ((1 ≤ it ∧ it ≤ 7) ∧ (0 ≤ la ∧ la ≤ 11)) ∧ x = -1 ∧ σ2 = σ1) ∨ (((1 ≤ it ∧ it ≤ 7) ∧ (0 ≤ la ∧ la ≤ 11)) ∧ ¬ MET σ1 (tb (TH σ1 1)) ∧ x = 0 ∧ ∃ τ, σ2 = SC σ1 τ) ∨ (((1 ≤ it ∧ it ≤ 7) ∧ (0 ≤ la ∧ la ≤ 11)) ∧ MET σ1 (tb (TH σ1 1)) ∧ ((∃ k, 0 ≤ k ∧ k < 2197 ∧ hS it la (k / 169) (k / 13 % 13) (k % 13) ∧ x = LK σ1 (tb (TH σ1 1)) k) ∧ ∀ k, 0 ≤ k → k < 2197 → hS it la (k / 169) (k / 13 % 13) (k % 13) → x ≤ LK σ1 (tb (TH σ1 1)) k) ∧ ∃ τ, σ2 = SC σ1 τ))) y σ2) : x = y ∧ INV σ2 := by
  rcases hx with ⟨a, b, e⟩ | ⟨a, e, hv⟩
  · subst e
    rcases hy with ⟨c, d, e⟩ | ⟨c, _⟩ | ⟨c, _⟩
    · subst e; exact ⟨by omega, h⟩
    · exact absurd c a
    · exact absurd c a
  · have e1 : EQ σ1 σ := by rw [e]; exact EQ_LY EQ_0
    have hw := NW_E (I_nw h) EQK_0 (EQ_K e1)
    have hm : MEX σ (tb (TX σ 1)) ↔ MET σ1 (tb (TH σ1 1)) := by rw [b_TX hw 1]; exact b_MEX hw (fun _ _ _ => rfl)
    have eL : ∀ i, 0 ≤ i → i < 2197 → LY σ (TX σ 1) 92 i = LK σ1 (tb (TH σ1 1)) i := fun i x z => by
      rw [show LY σ (TX σ 1) 92 i = LX σ (tb (TX σ 1)) i from RW_at ⟨x, z⟩, b_TX hw 1]
      exact b_LX hw (fun _ _ _ => rfl) x z
    rcases hy with ⟨c, _⟩ | ⟨c, c2, d, τ, e9⟩ | ⟨c, c2, ⟨⟨k, x0, x1, x2, x3⟩, hmin⟩, τ, e9⟩
    · exact absurd a c
    · subst e9
      refine ⟨?_, INV_EQ (INV_EQ h e1) EQ_SC⟩
      rcases hv with ⟨_, v⟩ | ⟨u, _⟩
      · omega
      · exact absurd (hm.mp u) c2
    · subst e9
      refine ⟨?_, INV_EQ (INV_EQ h e1) EQ_SC⟩
      rcases hv with ⟨u, _⟩ | ⟨u, z, ⟨l1, j, j0, j1, j2, j3⟩, v⟩
      · exact absurd (hm.mpr c2) u
      · have g1 := l1 k x0 x1 ((FI_hS (by omega) (by omega) (by omega)).mp x2)
        have g2 := hmin j j0 j1 ((FI_hS (by omega) (by omega) (by omega)).mpr j2)
        have g3 := c2 k x0 x1
        rw [eL k x0 x1] at g1
        rw [← eL j j0 j1] at g2
        omega

theorem pc_diff {P K : Int → Bool} {n : Int} (hn : 0 ≤ n ∧ n ≤ 24) (h : ∀ q, K q = true → P q = true) : pc (iand (bsum P n) (ixor (bsum K n) (-1))) = pc (bsum P n) - cnt n K := by
  have e1 : pc (iand (bsum P n) (ixor (bsum K n) (-1))) = sm (fun t => if t < n then bI (P t = true ∧ K t = false) else 0) 32 := by
    rw [pc_sum]
    exact sm_c (fun o a b => by
      rw [tb_iandn (bsI hn) (bsI hn) (by omega), tb_bs hn.1 a, tb_bs hn.1 a]
      by_cases z : o < n
      · rw [if_pos z, decide_eq_true z, Bool.true_and, Bool.true_and]
        exact bI_c (by rw [Bool.and_eq_true, Bool.not_eq_true'])
      · rw [if_neg z, decide_eq_false z, Bool.false_and, Bool.false_and]
        rfl)
  rw [e1, sm_cut ⟨hn.1, by omega⟩, pc_bs ⟨hn.1, by omega⟩]
  have e2 : cnt n P = sm (fun t => bI (P t = true ∧ K t = false) + bI (K t = true)) n := sm_c (fun o _ _ => by
    cases hk : K o
    · cases hp : P o <;> rfl
    · rw [h o hk]; rfl)
  rw [e2, sm_add]
  unfold cnt
  omega
theorem s_late {σ σ1 σ2 : St} {x y : Int} (h : INV σ) (hx : ((fun x σ2 => x = pc (iand (TX σ 1) (ixor (KS σ) (-1))) ∧ EQK σ2 σ ∧ KOK σ2)) x σ1) (hy : ((fun x σ2 => x = pc (TH σ1 1) - cnt (σ1 0 5) (KK σ1 240) ∧ ∃ τ, σ2 = SC σ1 τ)) y σ2) : x = y ∧ INV σ2 := by
  obtain ⟨hx, e1, k1⟩ := hx
  obtain ⟨hy, τ, e2⟩ := hy
  subst e2
  have hw := NW_E (I_nw h) EQK_0 e1
  refine ⟨?_, INV_q h e1 k1 EQ_SC⟩
  rw [hx, hy, ← b_TX hw 1, ← b_KK hw 240, ← hw.1]
  exact pc_diff (I_xo h).1 (fun q z => (kf_in z).2.2.2)

theorem cntk_c {n : Int} {rk rk' : Int → Int} {K : Int → Bool} (h : ∀ q, 0 ≤ q → q < n → kap rk q = kap rk' q) (v : Int) : cntk n rk K v = cntk n rk' K v := sm_c (fun q a b => bI_c (by rw [h q a b]))
theorem cntk_mono {n : Int} {rk : Int → Int} {K : Int → Bool} {u v : Int} (h : u ≤ v) : cntk n rk K u ≤ cntk n rk K v := sm_le (fun q a b => by
  unfold bI
  by_cases z : K q = true ∧ kap rk q < u
  · rw [if_pos z, if_pos ⟨z.1, by have := z.2; omega⟩]; exact Int.le_refl _
  · rw [if_neg z]; split <;> omega)
theorem cntk_inj {n : Int} {rk : Int → Int} {K : Int → Bool} {x y : Int} (hn : n ≤ 24) (hx : 0 ≤ x ∧ x < n) (hy : 0 ≤ y ∧ y < n) (kx : K x = true) (ky : K y = true) (h : cntk n rk K (kap rk x) = cntk n rk K (kap rk y)) : x = y := by
  rcases Int.lt_trichotomy (kap rk x) (kap rk y) with z | z | z
  · have h1 := cntk_s (rk := rk) hn hx kx rfl
    have h2 := cntk_mono (n := n) (rk := rk) (K := K) (u := kap rk x + 1) (v := kap rk y) (by omega)
    omega
  · exact kap_inj ⟨hx.1, by omega⟩ ⟨hy.1, by omega⟩ z
  · have h1 := cntk_s (rk := rk) hn hy ky rfl
    have h2 := cntk_mono (n := n) (rk := rk) (K := K) (u := kap rk y + 1) (v := kap rk x) (by omega)
    omega

theorem s_kept {σ σ1 σ2 : St} {i : Int} {x y : Int} (h : INV σ) (hx : ((fun x σ2 => (i < -1 ∧ x = -1 ∧ σ2 = σ) ∨ (((i = -1 ∧ x = pc (KS σ)) ∨ KEP (σ 83 5) (σ 88) (KKX σ 240) i x) ∧ EQK σ2 σ ∧ KOK σ2))) x σ1) (hy : ((fun x σ2 => (i < -1 ∧ x = -1 ∧ σ2 = σ1) ∨ ((i = -1 ∧ x = cnt (σ1 0 5) (KK σ1 240)) ∨ ((0 ≤ i ∧ i < cnt (σ1 0 5) (KK σ1 240)) ∧ (0 ≤ x ∧ x < σ1 0 5) ∧ KK σ1 240 x = true ∧ cntk (σ1 0 5) (σ1 5) (KK σ1 240) (kap (σ1 5) x) = i) ∨ (0 ≤ i ∧ cnt (σ1 0 5) (KK σ1 240) ≤ i ∧ x = -2)) ∧ ∃ τ, σ2 = SC σ1 τ)) y σ2) : x = y ∧ INV σ2 := by
  rcases hx with ⟨a, b, e⟩ | ⟨hx, e1, k1⟩
  · subst e
    rcases hy with ⟨c, d, e⟩ | ⟨hy, _⟩
    · subst e; exact ⟨by omega, h⟩
    · rcases hy with ⟨c, _⟩ | ⟨⟨c, _⟩, _⟩ | ⟨c, _⟩ <;> omega
  · have hw := NW_E (I_nw h) EQK_0 e1
    have hn := hw.1
    have hn24 := (I_xo h).1
    have hpk : pc (KS σ) = cnt (σ 83 5) (KKX σ 240) := pc_bs (P := KKX σ 240) ⟨hn24.1, by omega⟩
    have hK := b_KK hw 240
    rcases hy with ⟨c, d, e⟩ | ⟨hy, τ, e⟩
    · rcases hx with ⟨a, b⟩ | ⟨⟨a, _⟩, _⟩ | ⟨a, _⟩ <;> omega
    · subst e
      refine ⟨?_, INV_q h e1 k1 EQ_SC⟩
      rw [← hK, ← hn] at hy
      rcases hx with ⟨a, b⟩ | ⟨⟨a1, a2⟩, b1, b2, b3⟩ | ⟨a1, a2, b⟩ <;> rcases hy with ⟨c, d⟩ | ⟨⟨c1, c2⟩, d1, d2, d3⟩ | ⟨c1, c2, d⟩ <;> first
        | omega
        | (have e3 : cntk (σ 83 5) (σ 88) (KKX σ 240) (kap (σ 88) y) = i := by
            rw [b_kap hw d1.1 (by omega), ← d3]
            exact cntk_c (fun q x z => b_kap hw x (by omega)) _
           exact cntk_inj hn24.2 b1 d1 b2 d2 (b3.trans e3.symm))

theorem s_why {σ σ1 σ2 : St} {o : Int} {x y : Int} (h : INV σ) (hx : ((fun x σ2 => (¬ (0 ≤ o ∧ o < σ 83 5) ∧ x = -1 ∧ σ2 = σ) ∨ ((0 ≤ o ∧ o < σ 83 5) ∧ ((¬ LATX σ o ∧ x = -5) ∨ (LATX σ o ∧ ∃ j, fst (LX σ (KOX σ o)) 2197 j ∧ x = stp j)) ∧ EQK σ2 σ ∧ KOK σ2))) x σ1) (hy : ((fun x σ2 => (¬ (0 ≤ o ∧ o < σ1 0 5) ∧ x = -1 ∧ σ2 = σ1) ∨ ((0 ≤ o ∧ o < σ1 0 5) ∧ ((¬ LATE σ1 o ∧ x = -5) ∨ (LATE σ1 o ∧ ∃ k0, fst (LK σ1 (KO σ1 o)) 2197 k0 ∧ x = stp k0)) ∧ ∃ τ, σ2 = SC σ1 τ))) y σ2) : x = y ∧ INV σ2 := by
  rcases hx with ⟨a, b, e⟩ | ⟨a, hv, e1, k1⟩
  · subst e
    have hn := (I_nw h).1
    rcases hy with ⟨c, d, e⟩ | ⟨c, hz⟩
    · subst e; exact ⟨by omega, h⟩
    · clear hz; omega
  · have hw := NW_E (I_nw h) EQK_0 e1
    have hn := hw.1
    rcases hy with ⟨c, d, e⟩ | ⟨c, hz, τ, e⟩
    · clear hv; omega
    · subst e
      refine ⟨?_, INV_q h e1 k1 EQ_SC⟩
      have hl := b_LATE hw c.1 c.2
      rcases hv with ⟨u, v⟩ | ⟨u, j, hj, v⟩ <;> rcases hz with ⟨u2, v2⟩ | ⟨u2, k0, hk, v2⟩
      · omega
      · exact absurd (hl.mpr u2) u
      · exact absurd (hl.mp u) u2
      · have ej : j = k0 := fst_u (fun i x z => b_LX hw (fun q _ _ => by rw [b_KO hw c.1 c.2]) x z) hj hk
        rw [v, v2, ej]

theorem s_get {σ σ1 σ2 : St} {w i : Int} {x y : Int} (h : INV σ) (hx : ((fun x σ2 => σ2 = σ ∧ ((¬ ((0 ≤ w ∧ w < 4) ∧ (0 ≤ i ∧ i < σ 102 w)) ∧ x = -9223372036854775808) ∨ (((0 ≤ w ∧ w < 4) ∧ (0 ≤ i ∧ i < σ 102 w)) ∧ x = σ 101 (24 * w + i))))) x σ1) (hy : ((fun x σ2 => σ2 = σ1 ∧ ((¬ ((0 ≤ w ∧ w ≤ 3) ∧ (0 ≤ i ∧ i < σ1 21 w)) ∧ x = -9223372036854775808) ∨ (((0 ≤ w ∧ w ≤ 3) ∧ (0 ≤ i ∧ i < σ1 21 w)) ∧ x = σ1 20 (24 * w + i))))) y σ2) : x = y ∧ INV σ2 := by
  obtain ⟨e, hx⟩ := hx
  obtain ⟨e2, hy⟩ := hy
  subst e
  subst e2
  refine ⟨?_, h⟩
  rcases hx with ⟨a, b⟩ | ⟨a, b⟩ <;> rcases hy with ⟨c, d⟩ | ⟨c, d⟩
  · omega
  · have := (h.2.2.1.1 w (by omega) (by omega)).1
    exact absurd (show (0 ≤ w ∧ w < 4) ∧ (0 ≤ i ∧ i < σ2 102 w) by omega) a
  · have := (h.2.2.1.1 w (by omega) (by omega)).1
    exact absurd (show (0 ≤ w ∧ w ≤ 3) ∧ (0 ≤ i ∧ i < σ2 21 w) by omega) c
  · have h2 := h.2.2.1.1 w (by omega) (by omega)
    rw [b, d]
    exact (h.2.2.1.2 _ (by omega) (by omega)).1

theorem s_count {σ σ1 σ2 : St} {wh : Int} {x y : Int} (h : INV σ) (hx : ((fun x => (wh = 0 ∧ x = σ 83 5) ∨ (wh = 1 ∧ x = pc (TX σ 0)) ∨ (wh = 2 ∧ x = pc (TX σ 1)) ∨ (wh = 3 ∧ x = pc (TX σ 2)) ∨ (wh = 4 ∧ x = σ 89 1) ∨ (wh = 5 ∧ x = σ 106 1) ∨ (wh = 6 ∧ x = σ 106 2) ∨ (wh = 7 ∧ x = sm (σ 109) 36) ∨ (wh = 8 ∧ x = amS (σ 83 5) (σ 84) (σ 87) (tb (TX σ 1)) (-1)) ∨ ((wh < 0 ∨ 8 < wh) ∧ x = -1))) x ∧ σ1 = σ) (hy : ((fun x σ2 => σ2 = σ1 ∧ ((wh = 0 ∧ x = σ1 0 5) ∨ (wh = 1 ∧ x = pc (TH σ1 0)) ∨ (wh = 2 ∧ x = pc (TH σ1 1)) ∨ (wh = 3 ∧ x = pc (TH σ1 2)) ∨ (wh = 4 ∧ x = σ1 0 18) ∨ (wh = 5 ∧ x = σ1 0 11) ∨ (wh = 6 ∧ x = σ1 0 10 - σ1 0 11) ∨ (wh = 7 ∧ x = sm (σ1 1) 36) ∨ (wh = 8 ∧ x = amS (σ1 0 5) (σ1 2) (σ1 4) (tb (TH σ1 1)) (-1)) ∨ ((wh < 0 ∨ 8 < wh) ∧ x = -1)))) y σ2) : x = y ∧ INV σ2 := by
  obtain ⟨hx, e⟩ := hx
  obtain ⟨e2, hy⟩ := hy
  subst e
  subst e2
  refine ⟨?_, h⟩
  have hw := I_nw h
  have hn := hw.1
  have g1 := h.2.1.1
  have g2 := h.2.2.2.1.1.2.1
  have g3 := h.2.2.2.1.1.2.2.1
  have g4 := b_sm hw
  have g5 := b_TX hw 0
  have g6 := b_TX hw 1
  have g7 := b_TX hw 2
  have g8 := b_am hw (P := tb (TX σ2 1)) (P' := tb (TX σ2 1)) (fun _ _ _ => rfl) (-1)
  rw [← g5, ← g6, ← g7, ← g8] at hy
  rcases hx with ⟨w, b⟩ | ⟨w, b⟩ | ⟨w, b⟩ | ⟨w, b⟩ | ⟨w, b⟩ | ⟨w, b⟩ | ⟨w, b⟩ | ⟨w, b⟩ | ⟨w, b⟩ | ⟨w, b⟩ <;> rcases hy with ⟨w2, d⟩ | ⟨w2, d⟩ | ⟨w2, d⟩ | ⟨w2, d⟩ | ⟨w2, d⟩ | ⟨w2, d⟩ | ⟨w2, d⟩ | ⟨w2, d⟩ | ⟨w2, d⟩ | ⟨w2, d⟩ <;> omega
