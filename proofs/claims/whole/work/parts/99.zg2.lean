/-! each method -/
theorem f_supply {σ σ1 : St} {i q n1 : Int} {x : Int} (hx : ((fun x σ2 => (¬ (((0 ≤ i ∧ i ≤ 2) ∧ (0 ≤ q ∧ q ≤ 11)) ∧ (0 ≤ n1 ∧ n1 ≤ 99)) ∧ x = -1 ∧ σ2 = σ) ∨ ((((0 ≤ i ∧ i ≤ 2) ∧ (0 ≤ q ∧ q ≤ 11)) ∧ (0 ≤ n1 ∧ n1 ≤ 99)) ∧ x = σ 109 (12 * i + q) ∧ σ2 = NCH (put σ 109 (12 * i + q) n1)))) x σ1) : LQ σ1 σ := by
  rcases hx with ⟨_, _, e⟩ | ⟨_, _, e⟩
  · rw [e]; exact LQ_r
  · rw [e]; exact LQ_NCH (LQ_put (by decide) LQ_r)
theorem f_share {σ σ1 : St} {g n1 : Int} {x : Int} (hx : ((fun x σ2 => (¬ ((0 ≤ g ∧ g ≤ 3) ∧ (0 ≤ n1 ∧ n1 ≤ 100)) ∧ x = -1 ∧ σ2 = σ) ∨ (((0 ≤ g ∧ g ≤ 3) ∧ (0 ≤ n1 ∧ n1 ≤ 100)) ∧ x = σ 110 g ∧ σ2 = NCH (put σ 110 g n1)))) x σ1) : LQ σ1 σ := by
  rcases hx with ⟨_, _, e⟩ | ⟨_, _, e⟩
  · rw [e]; exact LQ_r
  · rw [e]; exact LQ_NCH (LQ_put (by decide) LQ_r)
theorem f_feed {σ σ1 : St} {v : Int} {x : Int} (hx : ((fun x σ2 => (¬ (32 ≤ v ∧ v ≤ 126) ∧ x = -1 ∧ σ2 = σ) ∨ ((32 ≤ v ∧ v ≤ 126) ∧ σ 89 1 = 100 ∧ x = -3 ∧ σ2 = σ) ∨ ((32 ≤ v ∧ v ≤ 126) ∧ σ 89 1 ≠ 100 ∧ x = σ 89 1 + 1 ∧ σ2 = put (put σ 90 (σ 89 1) v) 89 1 (σ 89 1 + 1)))) x σ1) : LQ σ1 σ := by
  rcases hx with ⟨_, _, e⟩ | ⟨_, _, _, e⟩ | ⟨_, _, _, e⟩
  · rw [e]; exact LQ_r
  · rw [e]; exact LQ_r
  · rw [e]; exact LQ_put (by decide) (LQ_put (by decide) LQ_r)
theorem f_orders {σ σ1 : St} {x : Int} (hx : ((fun x σ2 => ∃ (J : Nat) (ρ1 : St), (∀ i, i < J → conN (σ 90) (σ 89 1) (σ 83 5) i) ∧ BF σ ρ1 (σ 83 5) ∧ ((OKN (σ 90) (σ 89 1) (σ 83 5) J ∧ x = σ 83 5 + J + 1 ∧ STO σ ρ1 (σ 83 5) (J + 1) ∧ σ2 = ASK (put (put ρ1 83 5 (σ 83 5 + J + 1)) 89 1 0) (σ 83 5) (σ 83 5 + J + 1)) ∨ (∃ F, FLN (σ 90) (σ 89 1) (σ 83 5) J F ∧ x = -100 - F ∧ σ2 = put ρ1 89 1 0)))) x σ1) : LQ σ1 σ := by
  obtain ⟨J, ρ1, _, hB, hx⟩ := hx
  rcases hx with ⟨_, _, _, e⟩ | ⟨F, _, _, e⟩
  · rw [e]; exact LQ_ASK (LQ_put (by decide) (LQ_put (by decide) (LQ_BF hB)))
  · rw [e]; exact LQ_put (by decide) (LQ_BF hB)
theorem f_of {σ σ1 : St} {o wh : Int} {x : Int} (hx : ((fun x σ2 => ((¬ (0 ≤ o ∧ o < σ 83 5) ∧ x = -1) ∨ ((0 ≤ o ∧ o < σ 83 5) ∧ ((wh = 0 ∧ x = σ 84 o) ∨ (wh = 1 ∧ x = σ 85 o) ∨ (wh = 2 ∧ x = σ 112 o) ∨ (wh = 3 ∧ x = σ 87 o) ∨ (wh = 4 ∧ x = σ 88 o) ∨ (wh = 5 ∧ x = σ 111 o) ∨ (wh = 6 ∧ bP x (LATX σ o)) ∨ ((wh < 0 ∨ 6 < wh) ∧ x = -1)))) ∧ EQK σ2 σ ∧ KOK σ2)) x σ1) : LQ σ1 σ := by
  have e := hx.2.1
  exact LQ_EQK e
theorem f_late {σ σ1 : St} {x : Int} (hx : ((fun x σ2 => x = pc (iand (TX σ 1) (ixor (KS σ) (-1))) ∧ EQK σ2 σ ∧ KOK σ2)) x σ1) : LQ σ1 σ := by
  have e := hx.2.1
  exact LQ_EQK e
theorem f_promise {σ σ1 : St} {o : Int} {x : Int} (hx : ((fun x σ2 => (¬ (0 ≤ o ∧ o < σ 83 5) ∧ x = -1 ∧ σ2 = σ) ∨ ((0 ≤ o ∧ o < σ 83 5) ∧ σ 111 o ≠ 0 ∧ x = -5 ∧ σ2 = σ) ∨ ((0 ≤ o ∧ o < σ 83 5) ∧ σ 111 o = 0 ∧ ¬ CANX σ o (tb (TX σ 1)) (tb (ior (TX σ 1) (pw o))) ∧ x = -2 ∧ EQ σ2 σ) ∨ ((0 ≤ o ∧ o < σ 83 5) ∧ σ 111 o = 0 ∧ CANX σ o (tb (TX σ 1)) (tb (ior (TX σ 1) (pw o))) ∧ (x = pc (TX (put σ 111 o 1) 1) ∧ EQ σ2 (NCH (put σ 111 o 1)))))) x σ1) : LQ σ1 σ := by
  rcases hx with ⟨_, _, e⟩ | ⟨_, _, _, e⟩ | ⟨_, _, _, _, e⟩ | ⟨_, _, _, _, e⟩
  · rw [e]; exact LQ_r
  · rw [e]; exact LQ_r
  · exact LQ_EQ e LQ_r
  · exact LQ_EQ e (LQ_NCH (LQ_put (by decide) LQ_r))
theorem f_promiseAll {σ σ1 : St} {x : Int} (hx : ((fun x σ2 => x = pc (bsum (PQ σ 240) (σ 83 5)) - pc (TX σ 1) ∧ EQ σ2 (NCH (PX σ (KPX σ 240))))) x σ1) : LQ σ1 σ := by
  have e := hx.2
  exact LQ_EQ e (LQ_NCH LQ_PX)
theorem f_giveUp {σ σ1 : St} {o : Int} {x : Int} (hx : ((fun x σ2 => (¬ (0 ≤ o ∧ o < σ 83 5) ∧ x = -1 ∧ σ2 = σ) ∨ ((0 ≤ o ∧ o < σ 83 5) ∧ σ 111 o ≠ 1 ∧ x = -5 ∧ σ2 = σ) ∨ ((0 ≤ o ∧ o < σ 83 5) ∧ σ 111 o = 1 ∧ (x = pc (TX (put σ 111 o 0) 1) ∧ EQ σ2 (NCH (put σ 111 o 0)))))) x σ1) : LQ σ1 σ := by
  rcases hx with ⟨_, _, e⟩ | ⟨_, _, _, e⟩ | ⟨_, _, _, e⟩
  · rw [e]; exact LQ_r
  · rw [e]; exact LQ_r
  · exact LQ_EQ e (LQ_NCH (LQ_put (by decide) LQ_r))
theorem f_gone {σ σ1 : St} {o : Int} {x : Int} (hx : ((fun x σ2 => (¬ (0 ≤ o ∧ o < σ 83 5) ∧ x = -1 ∧ σ2 = σ) ∨ ((0 ≤ o ∧ o < σ 83 5) ∧ σ 111 o = 2 ∧ x = -5 ∧ σ2 = σ) ∨ ((0 ≤ o ∧ o < σ 83 5) ∧ σ 111 o ≠ 2 ∧ (x = pc (TX (put σ 111 o 2) 1) ∧ EQ σ2 (NCH (put σ 111 o 2)))))) x σ1) : LQ σ1 σ := by
  rcases hx with ⟨_, _, e⟩ | ⟨_, _, _, e⟩ | ⟨_, _, _, e⟩
  · rw [e]; exact LQ_r
  · rw [e]; exact LQ_r
  · exact LQ_EQ e (LQ_NCH (LQ_put (by decide) LQ_r))
theorem f_move {σ σ1 : St} {o q : Int} {x : Int} (hx : ((fun x σ2 => (¬ ((0 ≤ o ∧ o < σ 83 5) ∧ (0 ≤ q ∧ q ≤ 11)) ∧ x = -1 ∧ σ2 = σ) ∨ (((0 ≤ o ∧ o < σ 83 5) ∧ (0 ≤ q ∧ q ≤ 11)) ∧ σ 111 o = 2 ∧ x = -5 ∧ σ2 = σ) ∨ (((0 ≤ o ∧ o < σ 83 5) ∧ (0 ≤ q ∧ q ≤ 11)) ∧ (σ 111 o = 1 ∧ ¬ MEX (put σ 112 o q) (tb (TX (put σ 112 o q) 1))) ∧ x = -2 ∧ EQ σ2 σ) ∨ (((0 ≤ o ∧ o < σ 83 5) ∧ (0 ≤ q ∧ q ≤ 11)) ∧ σ 111 o ≠ 2 ∧ ¬ (σ 111 o = 1 ∧ ¬ MEX (put σ 112 o q) (tb (TX (put σ 112 o q) 1))) ∧ x = σ 112 o ∧ EQ σ2 (NCH (put σ 112 o q))))) x σ1) : LQ σ1 σ := by
  rcases hx with ⟨_, _, e⟩ | ⟨_, _, _, e⟩ | ⟨_, _, _, e⟩ | ⟨_, _, _, _, e⟩
  · rw [e]; exact LQ_r
  · rw [e]; exact LQ_r
  · exact LQ_EQ e LQ_r
  · exact LQ_EQ e (LQ_NCH (LQ_put (by decide) LQ_r))
theorem f_swap {σ σ1 : St} {o q : Int} {x : Int} (hx : ((fun x σ2 => (¬ ((0 ≤ o ∧ o < σ 83 5) ∧ (0 ≤ q ∧ q < σ 83 5) ∧ o ≠ q) ∧ x = -1 ∧ σ2 = σ) ∨ (((0 ≤ o ∧ o < σ 83 5) ∧ (0 ≤ q ∧ q < σ 83 5) ∧ o ≠ q) ∧ ¬ (σ 111 o = 1 ∧ σ 111 q = 1) ∧ x = -5 ∧ σ2 = σ) ∨ (((0 ≤ o ∧ o < σ 83 5) ∧ (0 ≤ q ∧ q < σ 83 5) ∧ o ≠ q) ∧ (σ 111 o = 1 ∧ σ 111 q = 1) ∧ ¬ MEX (put (put σ 112 o (σ 112 q)) 112 q (σ 112 o)) (tb (TX (put (put σ 112 o (σ 112 q)) 112 q (σ 112 o)) 1)) ∧ x = -2 ∧ EQ σ2 σ) ∨ (((0 ≤ o ∧ o < σ 83 5) ∧ (0 ≤ q ∧ q < σ 83 5) ∧ o ≠ q) ∧ (σ 111 o = 1 ∧ σ 111 q = 1) ∧ MEX (put (put σ 112 o (σ 112 q)) 112 q (σ 112 o)) (tb (TX (put (put σ 112 o (σ 112 q)) 112 q (σ 112 o)) 1)) ∧ x = 1 ∧ EQ σ2 (NCH (put (put σ 112 o (σ 112 q)) 112 q (σ 112 o)))))) x σ1) : LQ σ1 σ := by
  rcases hx with ⟨_, _, e⟩ | ⟨_, _, _, e⟩ | ⟨_, _, _, _, e⟩ | ⟨_, _, _, _, e⟩
  · rw [e]; exact LQ_r
  · rw [e]; exact LQ_r
  · exact LQ_EQ e LQ_r
  · exact LQ_EQ e (LQ_NCH (LQ_put (by decide) (LQ_put (by decide) LQ_r)))
theorem f_hinders {σ σ1 : St} {o p1 : Int} {x : Int} (hx : ((HIN σ o p1)) x σ1) : LQ σ1 σ := by
  rcases hx with ⟨_, _, e⟩ | ⟨_, ⟨_, _, e⟩ | ⟨_, e, _⟩⟩
  · rw [e]; exact LQ_r
  · rw [e]; exact LQ_r
  · rw [e]; exact LQ_LY
theorem f_could {σ σ1 : St} {o wh : Int} {x : Int} (hx : ((COU σ o wh)) x σ1) : LQ σ1 σ := by
  rcases hx with ⟨_, _, e⟩ | ⟨_, ⟨_, _, e⟩ | ⟨_, e, _⟩⟩
  · rw [e]; exact LQ_r
  · rw [e]; exact LQ_r
  · rw [e]; exact LQ_LY
theorem f_spare {σ σ1 : St} {it la : Int} {x : Int} (hx : ((fun x σ2 => (¬ ((1 ≤ it ∧ it ≤ 7) ∧ (0 ≤ la ∧ la ≤ 11)) ∧ x = -1 ∧ σ2 = σ) ∨ (((1 ≤ it ∧ it ≤ 7) ∧ (0 ≤ la ∧ la ≤ 11)) ∧ σ2 = LY σ (TX σ 1) ∧ ((¬ MEX σ (tb (TX σ 1)) ∧ x = 0) ∨ (MEX σ (tb (TX σ 1)) ∧ ∃ y, LEA (LY σ (TX σ 1)) it la y ∧ x = max 0 y))))) x σ1) : LQ σ1 σ := by
  rcases hx with ⟨_, _, e⟩ | ⟨_, e, _⟩
  · rw [e]; exact LQ_r
  · rw [e]; exact LQ_LY
theorem f_filled {σ σ1 : St} {wh : Int} {x : Int} (hx : ((fun x σ2 => (¬ (0 ≤ wh ∧ wh ≤ 1) ∧ x = -1 ∧ σ2 = σ) ∨ ((0 ≤ wh ∧ wh ≤ 1) ∧ 8 < pc (TX σ 0) ∧ x = -7 ∧ σ2 = σ) ∨ ((0 ≤ wh ∧ wh ≤ 1) ∧ pc (TX σ 0) ≤ 8 ∧ (∃ i m, FB (FCX σ) (FVX σ) (pw (pc (TX σ 0))) i m ∧ x = if wh = 0 then i else m) ∧ EQ σ2 σ))) x σ1) : LQ σ1 σ := by
  rcases hx with ⟨_, _, e⟩ | ⟨_, _, _, e⟩ | ⟨_, _, _, e⟩
  · rw [e]; exact LQ_r
  · rw [e]; exact LQ_r
  · exact LQ_EQ e LQ_r
theorem f_range {σ σ1 : St} {o it p0 wh : Int} {x : Int} (hx : ((fun x σ2 => RGX σ o it p0 wh x ∧ EQ σ2 σ)) x σ1) : LQ σ1 σ := by
  have e := hx.2
  exact LQ_EQ e LQ_r
theorem f_kept {σ σ1 : St} {i : Int} {x : Int} (hx : ((fun x σ2 => (i < -1 ∧ x = -1 ∧ σ2 = σ) ∨ (((i = -1 ∧ x = pc (KS σ)) ∨ KEP (σ 83 5) (σ 88) (KKX σ 240) i x) ∧ EQK σ2 σ ∧ KOK σ2))) x σ1) : LQ σ1 σ := by
  rcases hx with ⟨_, _, e⟩ | ⟨_, e, _⟩
  · rw [e]; exact LQ_r
  · exact LQ_EQK e
theorem f_why {σ σ1 : St} {o : Int} {x : Int} (hx : ((fun x σ2 => (¬ (0 ≤ o ∧ o < σ 83 5) ∧ x = -1 ∧ σ2 = σ) ∨ ((0 ≤ o ∧ o < σ 83 5) ∧ ((¬ LATX σ o ∧ x = -5) ∨ (LATX σ o ∧ ∃ j, fst (LX σ (KOX σ o)) 2197 j ∧ x = stp j)) ∧ EQK σ2 σ ∧ KOK σ2))) x σ1) : LQ σ1 σ := by
  rcases hx with ⟨_, _, e⟩ | ⟨_, _, e, _⟩
  · rw [e]; exact LQ_r
  · exact LQ_EQK e
theorem f_ledger {σ σ1 : St} {o at1 : Int} {x : Int} (hx : ((fun x σ2 => (¬ ((0 ≤ o ∧ o < σ 83 5) ∧ -1 ≤ at1) ∧ x = -1 ∧ σ2 = σ) ∨ (((0 ≤ o ∧ o < σ 83 5) ∧ -1 ≤ at1) ∧ ∃ (lt : Int) (L : List Int), bP lt (LATX σ o) ∧ L = LED o (σ 84 o) (σ 85 o) (σ 112 o) (σ 87 o) (σ 88 o) (wdI (σ 111 o) lt) ∧ (EQK σ2 σ ∧ KOK σ2) ∧ x = if at1 = -1 then (L.length : Int) else if at1 < L.length then L.getD at1.toNat 0 else -2))) x σ1) : LQ σ1 σ := by
  rcases hx with ⟨_, _, e⟩ | ⟨_, _, _, _, _, ⟨e, _⟩, _⟩
  · rw [e]; exact LQ_r
  · exact LQ_EQK e
theorem f_row {σ σ1 : St} {w n1 : Int} {x : Int} (hx : ((fun x σ2 => (¬ ((0 ≤ w ∧ w < 4) ∧ n1 ≤ 24) ∧ x = -1 ∧ σ2 = σ) ∨ (((0 ≤ w ∧ w < 4) ∧ n1 ≤ 24) ∧ n1 < 0 ∧ x = -14 ∧ σ2 = σ) ∨ (((0 ≤ w ∧ w < 4) ∧ n1 ≤ 24) ∧ 0 ≤ n1 ∧ x = 1 ∧ σ2 = SLk σ w n1 24))) x σ1) : LQ σ1 σ := by
  rcases hx with ⟨_, _, e⟩ | ⟨_, _, _, e⟩ | ⟨_, _, _, e⟩
  · rw [e]; exact LQ_r
  · rw [e]; exact LQ_r
  · rw [e]; exact LQ_SLk
theorem f_put {σ σ1 : St} {w i v : Int} {x : Int} (hx : ((fun x σ2 => (¬ (0 ≤ w ∧ w < 4) ∧ x = -1 ∧ σ2 = σ) ∨ ((0 ≤ w ∧ w < 4) ∧ σ 102 w < 0 ∧ x = -11 ∧ σ2 = σ) ∨ ((0 ≤ w ∧ w < 4) ∧ 0 ≤ σ 102 w ∧ ¬ (0 ≤ i ∧ i < σ 102 w) ∧ x = -13 ∧ σ2 = σ) ∨ ((0 ≤ w ∧ w < 4) ∧ 0 ≤ σ 102 w ∧ (0 ≤ i ∧ i < σ 102 w) ∧ x = 1 ∧ σ2 = put σ 101 (24 * w + i) v))) x σ1) : LQ σ1 σ := by
  rcases hx with ⟨_, _, e⟩ | ⟨_, _, _, e⟩ | ⟨_, _, _, _, e⟩ | ⟨_, _, _, _, e⟩
  · rw [e]; exact LQ_r
  · rw [e]; exact LQ_r
  · rw [e]; exact LQ_r
  · rw [e]; exact LQ_put (by decide) LQ_r
theorem f_get {σ σ1 : St} {w i : Int} {x : Int} (hx : ((fun x σ2 => σ2 = σ ∧ ((¬ ((0 ≤ w ∧ w < 4) ∧ (0 ≤ i ∧ i < σ 102 w)) ∧ x = -9223372036854775808) ∨ (((0 ≤ w ∧ w < 4) ∧ (0 ≤ i ∧ i < σ 102 w)) ∧ x = σ 101 (24 * w + i))))) x σ1) : LQ σ1 σ := by
  have e := hx.1
  rw [e]; exact LQ_r
theorem f_from {σ σ1 : St} {w i it q : Int} {x : Int} (hx : ((fun x σ2 => (¬ ((0 ≤ w ∧ w < 4) ∧ ((0 ≤ it ∧ it ≤ 2) ∧ (0 ≤ q ∧ q ≤ 11))) ∧ x = -1 ∧ σ2 = σ) ∨ (((0 ≤ w ∧ w < 4) ∧ ((0 ≤ it ∧ it ≤ 2) ∧ (0 ≤ q ∧ q ≤ 11))) ∧ σ 102 w < 0 ∧ x = -11 ∧ σ2 = σ) ∨ (((0 ≤ w ∧ w < 4) ∧ ((0 ≤ it ∧ it ≤ 2) ∧ (0 ≤ q ∧ q ≤ 11))) ∧ 0 ≤ σ 102 w ∧ i < 0 ∧ x = -13 ∧ σ2 = σ) ∨ (((0 ≤ w ∧ w < 4) ∧ ((0 ≤ it ∧ it ≤ 2) ∧ (0 ≤ q ∧ q ≤ 11))) ∧ 0 ≤ σ 102 w ∧ 0 ≤ i ∧ 0 ≤ x ∧ (∀ j, 0 ≤ j → j < x → goX σ w i q j) ∧ ¬ goX σ w i q x ∧ σ2 = NCH (FRX σ w i it q x)))) x σ1) : LQ σ1 σ := by
  rcases hx with ⟨_, _, e⟩ | ⟨_, _, _, e⟩ | ⟨_, _, _, _, e⟩ | ⟨_, _, _, _, _, _, e⟩
  · rw [e]; exact LQ_r
  · rw [e]; exact LQ_r
  · rw [e]; exact LQ_r
  · rw [e]; exact LQ_NCH LQ_FRX
theorem f_lefts {σ σ1 : St} {w i : Int} {x : Int} (hx : ((fun x σ2 => (¬ (0 ≤ w ∧ w < 4) ∧ x = -1 ∧ σ2 = σ) ∨ ((0 ≤ w ∧ w < 4) ∧ σ 102 w < 0 ∧ x = -11 ∧ σ2 = σ) ∨ ((0 ≤ w ∧ w < 4) ∧ 0 ≤ σ 102 w ∧ i < 0 ∧ x = -13 ∧ σ2 = σ) ∨ ((0 ≤ w ∧ w < 4) ∧ 0 ≤ σ 102 w ∧ 0 ≤ i ∧ x = max 0 (min 12 (σ 102 w - i)) ∧ σ2 = LTX σ w i x))) x σ1) : LQ σ1 σ := by
  rcases hx with ⟨_, _, e⟩ | ⟨_, _, _, e⟩ | ⟨_, _, _, _, e⟩ | ⟨_, _, _, _, e⟩
  · rw [e]; exact LQ_r
  · rw [e]; exact LQ_r
  · rw [e]; exact LQ_r
  · rw [e]; exact LQ_LTX
theorem f_undo {σ σ1 : St} {x : Int} (hx : ((fun x σ2 => (σ 106 1 = 0 ∧ x = -5 ∧ σ2 = σ) ∨ (σ 106 1 ≠ 0 ∧ x = σ 106 1 - 1 ∧ σ2 = LSX (put (put σ 106 1 (σ 106 1 - 1)) 106 2 (σ 106 2 + 1)) (σ 107 (σ 106 1 - 1)).toNat))) x σ1) : LQ σ1 σ := by
  rcases hx with ⟨_, _, e⟩ | ⟨_, _, e⟩
  · rw [e]; exact LQ_r
  · rw [e]; exact LQ_LSX (LQ_put (by decide) (LQ_put (by decide) LQ_r))
theorem f_redo {σ σ1 : St} {x : Int} (hx : ((fun x σ2 => (σ 106 2 = 0 ∧ x = -5 ∧ σ2 = σ) ∨ (σ 106 2 ≠ 0 ∧ x = σ 106 2 - 1 ∧ σ2 = LSX (put (put σ 106 1 (σ 106 1 + 1)) 106 2 (σ 106 2 - 1)) (σ 107 (σ 106 1 + 1)).toNat))) x σ1) : LQ σ1 σ := by
  rcases hx with ⟨_, _, e⟩ | ⟨_, _, e⟩
  · rw [e]; exact LQ_r
  · rw [e]; exact LQ_LSX (LQ_put (by decide) (LQ_put (by decide) LQ_r))
theorem f_back {σ σ1 : St} {x : Int} (hx : ((fun x σ2 => (σ 82 10 = 0 ∧ x = -5 ∧ σ2 = σ) ∨ (σ 82 10 = 1 ∧ x = pc (TX (LBX σ 1) 1) ∧ σ2 = (CPY (put (put (LBX σ 1) 106 1 0) 106 2 0) (σ 107 0).toNat 0 (σ 83 5))))) x σ1) : LQ σ1 σ := by
  rcases hx with ⟨_, _, e⟩ | ⟨_, _, e⟩
  · rw [e]; exact LQ_r
  · rw [e]; exact LQ_CPY (LQ_put (by decide) (LQ_put (by decide) (LQ_LBX LQ_r)))
theorem f_image {σ : St} {n : Int} : LQ (put (CPY σ 1 0 n) 82 10 1) σ := LQ_put (by decide) (LQ_CPY LQ_r)
