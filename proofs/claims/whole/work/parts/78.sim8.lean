/-- the reference's cells are another's -/
def EQR (ρ σ : St) : Prop := ∀ a b, scr a b = false → a < 82 → ρ a b = σ a b
theorem EQ_R {σ ρ : St} (h : EQ ρ σ) : EQR ρ σ := fun a b x _ => h a b x
theorem EQR_b {σ ρ : St} (h : EQR ρ σ) {a : Nat} (ha : (1 ≤ a ∧ a ≤ 8) ∨ a = 10 ∨ a = 12 ∨ (20 ≤ a ∧ a < 46)) : ρ a = σ a := funext fun b => h a b (scr_b ha) (by omega)
theorem EQR_5 {σ ρ : St} (h : EQR ρ σ) : ρ 0 5 = σ 0 5 := h 0 5 rfl (by decide)
theorem RO_R {σ ρ : St} (h : RO σ) (e : EQR ρ σ) : RO ρ := by
  unfold RO
  rw [EQR_5 e, EQR_b e (a := 1) (by omega), EQR_b e (a := 2) (by omega), EQR_b e (a := 3) (by omega), EQR_b e (a := 4) (by omega), EQR_b e (a := 5) (by omega)]
  exact h
theorem NW_R {σ σ' ρ : St} (h : NW σ σ') (e : EQR ρ σ') : NW σ ρ := by
  unfold NW
  rw [EQR_5 e, EQR_b e (a := 1) (by omega), EQR_b e (a := 2) (by omega), EQR_b e (a := 3) (by omega), EQR_b e (a := 4) (by omega), EQR_b e (a := 5) (by omega)]
  exact h
def NOWc (κ σ : St) : Prop := ∀ a b, scr a b = false → ¬ (109 ≤ a ∧ a ≤ 112) → κ a b = σ a b
theorem NOWc_p {κ σ : St} {a : Nat} {b v : Int} (h : NOWc κ σ) (ha : 109 ≤ a ∧ a ≤ 112) : NOWc (put κ a b v) σ := fun x y z w => by rw [put_q (by omega)]; exact h x y z w
theorem NOWc_0 {σ : St} : NOWc σ σ := fun _ _ _ _ => rfl
theorem ch_R {σ κ σ1 : St} (hL : XL σ) (hk : NOWc κ σ) (e1 : EQ σ1 (NCH κ)) : EQR σ1 σ := fun a b x y => by
  have hLk : XL κ := XL_c hL (fun a b z => hk a b (scr_hi (by omega)) (by omega))
  rw [e1 a b x, NCH_o hLk (by omega), hk a b x (by omega)]
theorem he_o {σ κ : St} {w : Int → Int} (h : NW σ σ) (h9 : ∀ j, 0 ≤ j → j < 36 → κ 109 j = σ 109 j ∧ w j = σ 1 j) (h10 : ∀ g, 0 ≤ g → g < 4 → κ 110 g = σ 110 g ∧ w (36 + g) = σ 1 (36 + g)) (h11 : ∀ o, 0 ≤ o → o < σ 0 5 → κ 111 o = w (40 + o) ∧ κ 112 o = w (64 + o)) : (∀ j, 0 ≤ j → j < 36 → κ 109 j = w j) ∧ (∀ g, 0 ≤ g → g < 4 → κ 110 g = w (36 + g)) ∧ ∀ o, 0 ≤ o → o < σ 0 5 → κ 111 o = w (40 + o) ∧ κ 112 o = w (64 + o) :=
  ⟨fun j a b => by rw [(h9 j a b).1, (h9 j a b).2]; exact h.2.1 j a b, fun g a b => by rw [(h10 g a b).1, (h10 g a b).2]; exact h.2.2.1 g a b, h11⟩
theorem he_k {σ : St} (h : NW σ σ) (hn : σ 0 5 ≤ 24) {o v : Int} (ho : 0 ≤ o ∧ o < σ 0 5) : (∀ j, 0 ≤ j → j < 36 → put σ 111 o v 109 j = up1 (σ 1) (40 + o) v j) ∧ (∀ g, 0 ≤ g → g < 4 → put σ 111 o v 110 g = up1 (σ 1) (40 + o) v (36 + g)) ∧ ∀ q, 0 ≤ q → q < σ 0 5 → put σ 111 o v 111 q = up1 (σ 1) (40 + o) v (40 + q) ∧ put σ 111 o v 112 q = up1 (σ 1) (40 + o) v (64 + q) :=
  he_o h (fun j a b => ⟨rfl, up1_n (by omega)⟩) (fun g a b => ⟨rfl, up1_n (by omega)⟩) (fun q a b => by
    obtain ⟨e1, e2, _⟩ := h.2.2.2 q a b
    refine ⟨?_, by rw [up1_n (by omega)]; exact e2⟩
    by_cases z : q = o
    · rw [z, put_s, up1_s]
    · rw [put_k z, up1_n (by omega)]; exact e1)
theorem he_l {σ : St} (h : NW σ σ) (hn : σ 0 5 ≤ 24) {κ : St} {w : Int → Int} {o v : Int} (ho : 0 ≤ o ∧ o < σ 0 5) (hκ : (∀ j, 0 ≤ j → j < 36 → κ 109 j = w j) ∧ (∀ g, 0 ≤ g → g < 4 → κ 110 g = w (36 + g)) ∧ ∀ q, 0 ≤ q → q < σ 0 5 → κ 111 q = w (40 + q) ∧ κ 112 q = w (64 + q)) : (∀ j, 0 ≤ j → j < 36 → put κ 112 o v 109 j = up1 w (64 + o) v j) ∧ (∀ g, 0 ≤ g → g < 4 → put κ 112 o v 110 g = up1 w (64 + o) v (36 + g)) ∧ ∀ q, 0 ≤ q → q < σ 0 5 → put κ 112 o v 111 q = up1 w (64 + o) v (40 + q) ∧ put κ 112 o v 112 q = up1 w (64 + o) v (64 + q) :=
  ⟨fun j a b => by rw [up1_n (by omega)]; exact hκ.1 j a b, fun g a b => by rw [up1_n (by omega)]; exact hκ.2.1 g a b, fun q a b => by
    obtain ⟨e1, e2⟩ := hκ.2.2 q a b
    refine ⟨by rw [up1_n (by omega)]; exact e1, ?_⟩
    by_cases z : q = o
    · rw [z, put_s, up1_s]
    · rw [put_k z, up1_n (by omega)]; exact e2⟩
theorem he_0 {σ : St} (h : NW σ σ) : (∀ j, 0 ≤ j → j < 36 → σ 109 j = σ 1 j) ∧ (∀ g, 0 ≤ g → g < 4 → σ 110 g = σ 1 (36 + g)) ∧ ∀ q, 0 ≤ q → q < σ 0 5 → σ 111 q = σ 1 (40 + q) ∧ σ 112 q = σ 1 (64 + q) := ⟨h.2.1, h.2.2.1, fun q a b => ⟨(h.2.2.2 q a b).1, (h.2.2.2 q a b).2.1⟩⟩
theorem wOK_u {f : Int → Int} {k v : Int} (h : wOK f) (h2 : (0 ≤ k ∧ k < 36 → 0 ≤ v ∧ v ≤ 99) ∧ (36 ≤ k ∧ k < 40 → 0 ≤ v ∧ v ≤ 100) ∧ (40 ≤ k ∧ k < 64 → 0 ≤ v ∧ v ≤ 2) ∧ (64 ≤ k ∧ k < 88 → 0 ≤ v ∧ v ≤ 11)) : wOK (up1 f k v) := by
  obtain ⟨a, b, c, d⟩ := h
  obtain ⟨p, q, r, s⟩ := h2
  refine ⟨fun j x y => ?_, fun j x y => ?_, fun j x y => ?_, fun j x y => ?_⟩ <;> by_cases z : j = k
  · rw [z, up1_s]; exact p (by omega)
  · rw [up1_n z]; exact a j x y
  · rw [z, up1_s]; exact q (by omega)
  · rw [up1_n z]; exact b j x y
  · rw [z, up1_s]; exact r (by omega)
  · rw [up1_n z]; exact c j x y
  · rw [z, up1_s]; exact s (by omega)
  · rw [up1_n z]; exact d j x y
theorem b_TXk {σ ρ : St} (h : NW σ ρ) {o v : Int} : TX (put σ 111 o v) 1 = bsum (fun q => decide (up1 (ρ 1) (40 + o) v (40 + q) = 1)) (ρ 0 5) := by
  unfold TX
  rw [show put σ 111 o v 83 5 = σ 83 5 from rfl, h.1]
  exact bs_c (fun q a b => by
    by_cases z : q = o
    · rw [z, put_s, up1_s]
    · rw [put_k z, up1_n (by omega), (h.2.2.2 q a b).1])
/-- an order becomes something, on both sides -/
theorem bec {σ σ1 σ2 : St} {o v x y : Int} (h : INV σ) (ho : 0 ≤ o ∧ o < σ 0 5) (hv : 0 ≤ v ∧ v ≤ 2) (hx : x = pc (TX (put σ 111 o v) 1) ∧ EQ σ1 (NCH (put σ 111 o v))) (hy : y = pc (bsum (fun q => decide (up1 (σ1 1) (40 + o) v (40 + q) = 1)) (σ1 0 5)) ∧ ∃ τ, σ2 = SC (CG σ1 (up1 (σ1 1) (40 + o) v)) τ) : x = y ∧ INV σ2 := by
  obtain ⟨hx, e1⟩ := hx
  obtain ⟨hy, τ, e9⟩ := hy
  subst e9
  have hR := ch_R (I_xl h) (NOWc_p NOWc_0 (by omega)) e1
  have hw := NW_R (I_nw h) hR
  have hn := (I_ro h).1
  refine ⟨by rw [hx, hy, b_TXk hw], ?_⟩
  rw [EQR_b hR (a := 1) (by omega)]
  exact INV_ch h (NOWc_p NOWc_0 (by omega)) (XO_k (I_xo h) hv) (wOK_u (I_ro h).2.1 (by omega)) (he_k (I_nw h) hn.2 ho) e1 EQ_SC

theorem s_supply {σ σ1 σ2 : St} {i q n1 : Int} {x y : Int} (h : INV σ) (hx : ((fun x σ2 => (¬ (((0 ≤ i ∧ i ≤ 2) ∧ (0 ≤ q ∧ q ≤ 11)) ∧ (0 ≤ n1 ∧ n1 ≤ 99)) ∧ x = -1 ∧ σ2 = σ) ∨ ((((0 ≤ i ∧ i ≤ 2) ∧ (0 ≤ q ∧ q ≤ 11)) ∧ (0 ≤ n1 ∧ n1 ≤ 99)) ∧ x = σ 109 (12 * i + q) ∧ σ2 = NCH (put σ 109 (12 * i + q) n1)))) x σ1) (hy : ((fun x σ2 => (¬ (((0 ≤ i ∧ i ≤ 2) ∧ (0 ≤ q ∧ q ≤ 11)) ∧ (0 ≤ n1 ∧ n1 ≤ 99)) ∧ x = -1 ∧ σ2 = σ1) ∨ ((((0 ≤ i ∧ i ≤ 2) ∧ (0 ≤ q ∧ q ≤ 11)) ∧ (0 ≤ n1 ∧ n1 ≤ 99)) ∧ x = σ1 1 (12 * i + q) ∧ ∃ τ, σ2 = SC (CG σ1 (up1 (σ1 1) (12 * i + q) n1)) τ))) y σ2) : x = y ∧ INV σ2 := by
  rcases hx with ⟨a, b, e⟩ | ⟨a, b, e⟩
  · subst e
    rcases hy with ⟨c, d, e⟩ | ⟨c, _⟩
    · subst e; exact ⟨by omega, h⟩
    · exact absurd c a
  · have e1 : EQ σ1 (NCH (put σ 109 (12 * i + q) n1)) := by rw [e]; exact EQ_0
    have hR := ch_R (I_xl h) (NOWc_p NOWc_0 (by omega)) e1
    rcases hy with ⟨c, _⟩ | ⟨c, d, τ, e9⟩
    · exact absurd a c
    · subst e9
      rw [EQR_b hR (a := 1) (by omega)] at d ⊢
      refine ⟨by rw [b, d]; exact (I_nw h).2.1 _ (by omega) (by omega), ?_⟩
      refine INV_ch h (NOWc_p NOWc_0 (by omega)) (XO_su (I_xo h) a.2) (wOK_u (I_ro h).2.1 (by omega)) ?_ e1 EQ_SC
      have hw := I_nw h
      refine ⟨fun j x y => ?_, fun g x y => by rw [up1_n (by omega)]; exact hw.2.2.1 g x y, fun o x y => ?_⟩
      · by_cases z : j = 12 * i + q
        · rw [z, put_s, up1_s]
        · rw [put_k z, up1_n z]; exact hw.2.1 j x y
      · rw [up1_n (by omega), up1_n (by omega)]
        exact ⟨(hw.2.2.2 o x y).1, (hw.2.2.2 o x y).2.1⟩

theorem s_share {σ σ1 σ2 : St} {g n1 : Int} {x y : Int} (h : INV σ) (hx : ((fun x σ2 => (¬ ((0 ≤ g ∧ g ≤ 3) ∧ (0 ≤ n1 ∧ n1 ≤ 100)) ∧ x = -1 ∧ σ2 = σ) ∨ (((0 ≤ g ∧ g ≤ 3) ∧ (0 ≤ n1 ∧ n1 ≤ 100)) ∧ x = σ 110 g ∧ σ2 = NCH (put σ 110 g n1)))) x σ1) (hy : ((fun x σ2 => (¬ ((0 ≤ g ∧ g ≤ 3) ∧ (0 ≤ n1 ∧ n1 ≤ 100)) ∧ x = -1 ∧ σ2 = σ1) ∨ (((0 ≤ g ∧ g ≤ 3) ∧ (0 ≤ n1 ∧ n1 ≤ 100)) ∧ x = σ1 1 (36 + g) ∧ ∃ τ, σ2 = SC (CG σ1 (up1 (σ1 1) (36 + g) n1)) τ))) y σ2) : x = y ∧ INV σ2 := by
  rcases hx with ⟨a, b, e⟩ | ⟨a, b, e⟩
  · subst e
    rcases hy with ⟨c, d, e⟩ | ⟨c, _⟩
    · subst e; exact ⟨by omega, h⟩
    · exact absurd c a
  · have e1 : EQ σ1 (NCH (put σ 110 g n1)) := by rw [e]; exact EQ_0
    have hR := ch_R (I_xl h) (NOWc_p NOWc_0 (by omega)) e1
    rcases hy with ⟨c, _⟩ | ⟨c, d, τ, e9⟩
    · exact absurd a c
    · subst e9
      rw [EQR_b hR (a := 1) (by omega)] at d ⊢
      refine ⟨by rw [b, d]; exact (I_nw h).2.2.1 _ (by omega) (by omega), ?_⟩
      refine INV_ch h (NOWc_p NOWc_0 (by omega)) (XO_sh (I_xo h) a.2) (wOK_u (I_ro h).2.1 (by omega)) ?_ e1 EQ_SC
      have hw := I_nw h
      refine ⟨fun j x y => by rw [up1_n (by omega)]; exact hw.2.1 j x y, fun g1 x y => ?_, fun o x y => ?_⟩
      · by_cases z : g1 = g
        · rw [z, put_s, up1_s]
        · rw [put_k z, up1_n (by omega)]; exact hw.2.2.1 g1 x y
      · rw [up1_n (by omega), up1_n (by omega)]
        exact ⟨(hw.2.2.2 o x y).1, (hw.2.2.2 o x y).2.1⟩

theorem s_promise {σ σ1 σ2 : St} {o : Int} {x y : Int} (h : INV σ) (hx : ((fun x σ2 => (¬ (0 ≤ o ∧ o < σ 83 5) ∧ x = -1 ∧ σ2 = σ) ∨ ((0 ≤ o ∧ o < σ 83 5) ∧ σ 111 o ≠ 0 ∧ x = -5 ∧ σ2 = σ) ∨ ((0 ≤ o ∧ o < σ 83 5) ∧ σ 111 o = 0 ∧ ¬ CANX σ o (tb (TX σ 1)) (tb (ior (TX σ 1) (pw o))) ∧ x = -2 ∧ EQ σ2 σ) ∨ ((0 ≤ o ∧ o < σ 83 5) ∧ σ 111 o = 0 ∧ CANX σ o (tb (TX σ 1)) (tb (ior (TX σ 1) (pw o))) ∧ (x = pc (TX (put σ 111 o 1) 1) ∧ EQ σ2 (NCH (put σ 111 o 1)))))) x σ1) (hy : ((fun x σ2 => (¬ (0 ≤ o ∧ o < σ1 0 5) ∧ x = -1 ∧ σ2 = σ1) ∨ ((0 ≤ o ∧ o < σ1 0 5) ∧ σ1 1 (40 + o) ≠ 0 ∧ x = -5 ∧ σ2 = σ1) ∨ ((0 ≤ o ∧ o < σ1 0 5) ∧ σ1 1 (40 + o) = 0 ∧ ¬ CAN σ1 o (ior (TH σ1 1) (pw o)) ∧ x = -2 ∧ ∃ τ, σ2 = SC σ1 τ) ∨ ((0 ≤ o ∧ o < σ1 0 5) ∧ σ1 1 (40 + o) = 0 ∧ CAN σ1 o (ior (TH σ1 1) (pw o)) ∧ x = pc (bsum (fun q => decide (up1 (σ1 1) (40 + o) 1 (40 + q) = 1)) (σ1 0 5)) ∧ ∃ τ, σ2 = SC (CG σ1 (up1 (σ1 1) (40 + o) 1)) τ))) y σ2) : x = y ∧ INV σ2 := by
  have hw0 := I_nw h
  have hn := hw0.1
  have hn24 := (I_ro h).1
  rcases hx with ⟨a, b, e⟩ | ⟨a, a2, b, e⟩ | ⟨a, a2, a3, b, e1⟩ | ⟨a, a2, a3, hx⟩
  · subst e
    rcases hy with ⟨c, d, e⟩ | ⟨c, _⟩ | ⟨c, _⟩ | ⟨c, _⟩
    · subst e; exact ⟨by omega, h⟩
    · omega
    · omega
    · omega
  · subst e
    have hk := (hw0.2.2.2 o a.1 (by omega)).1
    rcases hy with ⟨c, d, e⟩ | ⟨c, c2, d, e⟩ | ⟨c, c2, _⟩ | ⟨c, c2, _⟩
    · omega
    · subst e; exact ⟨by omega, h⟩
    · omega
    · omega
  all_goals
    have ho : 0 ≤ o ∧ o < σ 0 5 := by omega
    have hR : EQR σ1 σ := by first | exact EQ_R e1 | exact ch_R (I_xl h) (NOWc_p NOWc_0 (by omega)) hx.2
    have hw := NW_R hw0 hR
    have h5 := EQR_5 hR
    have hk := (hw.2.2.2 o ho.1 (by omega)).1
    have hcan : CANX σ o (tb (TX σ 1)) (tb (ior (TX σ 1) (pw o))) ↔ CAN σ1 o (ior (TH σ1 1) (pw o)) := by
      have hTr : 0 ≤ TX σ 1 ∧ TX σ 1 ≤ 2147483647 := bsI (P := fun o => decide (σ 111 o = 1)) (by omega)
      have hbo : tb (TX σ 1) o = false := by
        show tb (bsum (kdX σ 1) (σ 83 5)) o = false
        rw [tb_bs (by omega) ho.1, show kdX σ 1 o = false from decide_eq_false (by omega), Bool.and_false]
      rw [← b_TX hw 1, can_c hw (I_xo h) (RO_R (I_ro h) hR) ⟨ho.1, by omega⟩ hTr hbo]
      exact and_congr Iff.rfl (MEX_P (fun q x y => ins_ior hTr (by omega) x))
    rcases hy with ⟨c, d, e⟩ | ⟨c, c2, d, e⟩ | ⟨c, c2, c3, d, τ, e9⟩ | ⟨c, c2, c3, hy⟩
    · omega
    · omega
    · first
      | (subst e9; exact ⟨by omega, INV_EQ (INV_EQ h e1) EQ_SC⟩)
      | exact absurd (hcan.mp a3) c3
    · first
      | exact absurd (hcan.mpr c3) a3
      | exact bec h ho (by omega) hx hy

theorem s_giveUp {σ σ1 σ2 : St} {o : Int} {x y : Int} (h : INV σ) (hx : ((fun x σ2 => (¬ (0 ≤ o ∧ o < σ 83 5) ∧ x = -1 ∧ σ2 = σ) ∨ ((0 ≤ o ∧ o < σ 83 5) ∧ σ 111 o ≠ 1 ∧ x = -5 ∧ σ2 = σ) ∨ ((0 ≤ o ∧ o < σ 83 5) ∧ σ 111 o = 1 ∧ (x = pc (TX (put σ 111 o 0) 1) ∧ EQ σ2 (NCH (put σ 111 o 0)))))) x σ1) (hy : ((fun x σ2 => (¬ (0 ≤ o ∧ o < σ1 0 5) ∧ x = -1 ∧ σ2 = σ1) ∨ ((0 ≤ o ∧ o < σ1 0 5) ∧ σ1 1 (40 + o) ≠ 1 ∧ x = -5 ∧ σ2 = σ1) ∨ ((0 ≤ o ∧ o < σ1 0 5) ∧ σ1 1 (40 + o) = 1 ∧ x = pc (bsum (fun q => decide (up1 (σ1 1) (40 + o) 0 (40 + q) = 1)) (σ1 0 5)) ∧ ∃ τ, σ2 = SC (CG σ1 (up1 (σ1 1) (40 + o) 0)) τ))) y σ2) : x = y ∧ INV σ2 := by
  have hw0 := I_nw h
  have hn := hw0.1
  rcases hx with ⟨a, b, e⟩ | ⟨a, a2, b, e⟩ | ⟨a, a2, hx⟩
  · subst e
    rcases hy with ⟨c, d, e⟩ | ⟨c, _⟩ | ⟨c, _⟩
    · subst e; exact ⟨by omega, h⟩
    · omega
    · omega
  · subst e
    have hk := (hw0.2.2.2 o a.1 (by omega)).1
    rcases hy with ⟨c, d, e⟩ | ⟨c, c2, d, e⟩ | ⟨c, c2, _⟩
    · omega
    · subst e; exact ⟨by omega, h⟩
    · omega
  · have hR : EQR σ1 σ := ch_R (I_xl h) (NOWc_p NOWc_0 (by omega)) hx.2
    have hw := NW_R hw0 hR
    have h5 := EQR_5 hR
    have hk := (hw.2.2.2 o a.1 (by omega)).1
    rcases hy with ⟨c, d, e⟩ | ⟨c, c2, d, e⟩ | ⟨c, c2, hy⟩
    · omega
    · omega
    · exact bec h ⟨a.1, by omega⟩ (by omega) hx hy

theorem s_gone {σ σ1 σ2 : St} {o : Int} {x y : Int} (h : INV σ) (hx : ((fun x σ2 => (¬ (0 ≤ o ∧ o < σ 83 5) ∧ x = -1 ∧ σ2 = σ) ∨ ((0 ≤ o ∧ o < σ 83 5) ∧ σ 111 o = 2 ∧ x = -5 ∧ σ2 = σ) ∨ ((0 ≤ o ∧ o < σ 83 5) ∧ σ 111 o ≠ 2 ∧ (x = pc (TX (put σ 111 o 2) 1) ∧ EQ σ2 (NCH (put σ 111 o 2)))))) x σ1) (hy : ((fun x σ2 => (¬ (0 ≤ o ∧ o < σ1 0 5) ∧ x = -1 ∧ σ2 = σ1) ∨ ((0 ≤ o ∧ o < σ1 0 5) ∧ σ1 1 (40 + o) = 2 ∧ x = -5 ∧ σ2 = σ1) ∨ ((0 ≤ o ∧ o < σ1 0 5) ∧ σ1 1 (40 + o) ≠ 2 ∧ x = pc (bsum (fun q => decide (up1 (σ1 1) (40 + o) 2 (40 + q) = 1)) (σ1 0 5)) ∧ ∃ τ, σ2 = SC (CG σ1 (up1 (σ1 1) (40 + o) 2)) τ))) y σ2) : x = y ∧ INV σ2 := by
  have hw0 := I_nw h
  have hn := hw0.1
  rcases hx with ⟨a, b, e⟩ | ⟨a, a2, b, e⟩ | ⟨a, a2, hx⟩
  · subst e
    rcases hy with ⟨c, d, e⟩ | ⟨c, _⟩ | ⟨c, _⟩
    · subst e; exact ⟨by omega, h⟩
    · omega
    · omega
  · subst e
    have hk := (hw0.2.2.2 o a.1 (by omega)).1
    rcases hy with ⟨c, d, e⟩ | ⟨c, c2, d, e⟩ | ⟨c, c2, _⟩
    · omega
    · subst e; exact ⟨by omega, h⟩
    · omega
  · have hR : EQR σ1 σ := ch_R (I_xl h) (NOWc_p NOWc_0 (by omega)) hx.2
    have hw := NW_R hw0 hR
    have h5 := EQR_5 hR
    have hk := (hw.2.2.2 o a.1 (by omega)).1
    rcases hy with ⟨c, d, e⟩ | ⟨c, c2, d, e⟩ | ⟨c, c2, hy⟩
    · omega
    · omega
    · exact bec h ⟨a.1, by omega⟩ (by omega) hx hy

theorem s_move {σ σ1 σ2 : St} {o q : Int} {x y : Int} (h : INV σ) (hx : ((fun x σ2 => (¬ ((0 ≤ o ∧ o < σ 83 5) ∧ (0 ≤ q ∧ q ≤ 11)) ∧ x = -1 ∧ σ2 = σ) ∨ (((0 ≤ o ∧ o < σ 83 5) ∧ (0 ≤ q ∧ q ≤ 11)) ∧ σ 111 o = 2 ∧ x = -5 ∧ σ2 = σ) ∨ (((0 ≤ o ∧ o < σ 83 5) ∧ (0 ≤ q ∧ q ≤ 11)) ∧ (σ 111 o = 1 ∧ ¬ MEX (put σ 112 o q) (tb (TX (put σ 112 o q) 1))) ∧ x = -2 ∧ EQ σ2 σ) ∨ (((0 ≤ o ∧ o < σ 83 5) ∧ (0 ≤ q ∧ q ≤ 11)) ∧ σ 111 o ≠ 2 ∧ ¬ (σ 111 o = 1 ∧ ¬ MEX (put σ 112 o q) (tb (TX (put σ 112 o q) 1))) ∧ x = σ 112 o ∧ EQ σ2 (NCH (put σ 112 o q))))) x σ1) (hy : ((fun x σ2 => (¬ ((0 ≤ o ∧ o < σ1 0 5) ∧ (0 ≤ q ∧ q ≤ 11)) ∧ x = -1 ∧ σ2 = σ1) ∨ (((0 ≤ o ∧ o < σ1 0 5) ∧ (0 ≤ q ∧ q ≤ 11)) ∧ σ1 1 (40 + o) = 2 ∧ x = -5 ∧ σ2 = σ1) ∨ (((0 ≤ o ∧ o < σ1 0 5) ∧ (0 ≤ q ∧ q ≤ 11)) ∧ (σ1 1 (40 + o) = 1 ∧ ¬ MET (put σ1 1 (64 + o) q) (tb (TH (put σ1 1 (64 + o) q) 1))) ∧ x = -2 ∧ ∃ τ, σ2 = SC σ1 τ) ∨ (((0 ≤ o ∧ o < σ1 0 5) ∧ (0 ≤ q ∧ q ≤ 11)) ∧ σ1 1 (40 + o) ≠ 2 ∧ ¬ (σ1 1 (40 + o) = 1 ∧ ¬ MET (put σ1 1 (64 + o) q) (tb (TH (put σ1 1 (64 + o) q) 1))) ∧ x = σ1 1 (64 + o) ∧ ∃ τ, σ2 = SC (CG σ1 (up1 (σ1 1) (64 + o) q)) τ))) y σ2) : x = y ∧ INV σ2 := by
  have hw0 := I_nw h
  have hn := hw0.1
  have hn24 := (I_ro h).1
  have hmet : ∀ σ1, EQR σ1 σ → (0 ≤ o ∧ o < σ 0 5) → (MEX (put σ 112 o q) (tb (TX (put σ 112 o q) 1)) ↔ MET (put σ1 1 (64 + o) q) (tb (TH (put σ1 1 (64 + o) q) 1))) := fun σ1 hR ho => by
    have hw := NW_la (NW_R hw0 hR) (by rw [EQR_5 hR]; exact hn24.2) (o := o) (j := q) ho.1
    rw [b_TX hw 1]
    exact b_MEX hw (fun _ _ _ => rfl)
  rcases hx with ⟨a, b, e⟩ | ⟨a, a2, b, e⟩ | ⟨a, a2, b, e1⟩ | ⟨a, a2, a3, b, e1⟩
  · subst e
    rcases hy with ⟨c, d, e⟩ | ⟨c, _⟩ | ⟨c, _⟩ | ⟨c, _⟩
    · subst e; exact ⟨by omega, h⟩
    · exact absurd (show (0 ≤ o ∧ o < σ1 83 5) ∧ (0 ≤ q ∧ q ≤ 11) by omega) a
    · exact absurd (show (0 ≤ o ∧ o < σ1 83 5) ∧ (0 ≤ q ∧ q ≤ 11) by omega) a
    · exact absurd (show (0 ≤ o ∧ o < σ1 83 5) ∧ (0 ≤ q ∧ q ≤ 11) by omega) a
  · subst e
    have hk := (hw0.2.2.2 o a.1.1 (by omega)).1
    rcases hy with ⟨c, d, e⟩ | ⟨c, c2, d, e⟩ | ⟨c, c2, _⟩ | ⟨c, c2, _⟩
    · exact absurd (show (0 ≤ o ∧ o < σ1 0 5) ∧ (0 ≤ q ∧ q ≤ 11) by omega) c
    · subst e; exact ⟨by omega, h⟩
    · have := c2.1; omega
    · omega
  · have hR := EQ_R e1
    have hw := NW_R hw0 hR
    have h5 := EQR_5 hR
    have ho : 0 ≤ o ∧ o < σ 0 5 := by omega
    have hk := (hw.2.2.2 o ho.1 (by omega)).1
    have hm := hmet σ1 hR ho
    rcases hy with ⟨c, d, e⟩ | ⟨c, c2, d, e⟩ | ⟨c, c2, d, τ, e9⟩ | ⟨c, c2, c3, _⟩
    · exact absurd (show (0 ≤ o ∧ o < σ1 0 5) ∧ (0 ≤ q ∧ q ≤ 11) by omega) c
    · have := a2.1; omega
    · subst e9; exact ⟨by omega, INV_EQ (INV_EQ h e1) EQ_SC⟩
    · exact absurd ⟨by have := a2.1; omega, fun z => a2.2 (hm.mpr z)⟩ c3
  · have hR := ch_R (I_xl h) (NOWc_p NOWc_0 (by omega)) e1
    have hw := NW_R hw0 hR
    have h5 := EQR_5 hR
    have ho : 0 ≤ o ∧ o < σ 0 5 := by omega
    have hk := hw.2.2.2 o ho.1 (by omega)
    have hk1 := hk.1
    have hm := hmet σ1 hR ho
    rcases hy with ⟨c, d, e⟩ | ⟨c, c2, d, e⟩ | ⟨c, c2, d, τ, e9⟩ | ⟨c, c2, c3, d, τ, e9⟩
    · exact absurd (show (0 ≤ o ∧ o < σ1 0 5) ∧ (0 ≤ q ∧ q ≤ 11) by omega) c
    · omega
    · exact absurd ⟨by have := c2.1; omega, fun z => c2.2 (hm.mp z)⟩ a3
    · subst e9
      refine ⟨by rw [b, d]; exact hk.2.1, ?_⟩
      rw [EQR_b hR (a := 1) (by omega)]
      exact INV_ch h (NOWc_p NOWc_0 (by omega)) (XO_la (I_xo h) a.2) (wOK_u (I_ro h).2.1 (by omega)) (he_l hw0 hn24.2 ho (he_0 hw0)) e1 EQ_SC

theorem s_swap {σ σ1 σ2 : St} {o q : Int} {x y : Int} (h : INV σ) (hx : ((fun x σ2 => (¬ ((0 ≤ o ∧ o < σ 83 5) ∧ (0 ≤ q ∧ q < σ 83 5) ∧ o ≠ q) ∧ x = -1 ∧ σ2 = σ) ∨ (((0 ≤ o ∧ o < σ 83 5) ∧ (0 ≤ q ∧ q < σ 83 5) ∧ o ≠ q) ∧ ¬ (σ 111 o = 1 ∧ σ 111 q = 1) ∧ x = -5 ∧ σ2 = σ) ∨ (((0 ≤ o ∧ o < σ 83 5) ∧ (0 ≤ q ∧ q < σ 83 5) ∧ o ≠ q) ∧ (σ 111 o = 1 ∧ σ 111 q = 1) ∧ ¬ MEX (put (put σ 112 o (σ 112 q)) 112 q (σ 112 o)) (tb (TX (put (put σ 112 o (σ 112 q)) 112 q (σ 112 o)) 1)) ∧ x = -2 ∧ EQ σ2 σ) ∨ (((0 ≤ o ∧ o < σ 83 5) ∧ (0 ≤ q ∧ q < σ 83 5) ∧ o ≠ q) ∧ (σ 111 o = 1 ∧ σ 111 q = 1) ∧ MEX (put (put σ 112 o (σ 112 q)) 112 q (σ 112 o)) (tb (TX (put (put σ 112 o (σ 112 q)) 112 q (σ 112 o)) 1)) ∧ x = 1 ∧ EQ σ2 (NCH (put (put σ 112 o (σ 112 q)) 112 q (σ 112 o)))))) x σ1) (hy : ((fun x σ2 => (¬ ((0 ≤ o ∧ o < σ1 0 5) ∧ (0 ≤ q ∧ q < σ1 0 5) ∧ o ≠ q) ∧ x = -1 ∧ σ2 = σ1) ∨ (((0 ≤ o ∧ o < σ1 0 5) ∧ (0 ≤ q ∧ q < σ1 0 5) ∧ o ≠ q) ∧ ¬ (σ1 1 (40 + o) = 1 ∧ σ1 1 (40 + q) = 1) ∧ x = -5 ∧ σ2 = σ1) ∨ (((0 ≤ o ∧ o < σ1 0 5) ∧ (0 ≤ q ∧ q < σ1 0 5) ∧ o ≠ q) ∧ (σ1 1 (40 + o) = 1 ∧ σ1 1 (40 + q) = 1) ∧ ¬ MET (put (put σ1 1 (64 + o) (σ1 1 (64 + q))) 1 (64 + q) (σ1 1 (64 + o))) (tb (TH (put (put σ1 1 (64 + o) (σ1 1 (64 + q))) 1 (64 + q) (σ1 1 (64 + o))) 1)) ∧ x = -2 ∧ ∃ τ, σ2 = SC σ1 τ) ∨ (((0 ≤ o ∧ o < σ1 0 5) ∧ (0 ≤ q ∧ q < σ1 0 5) ∧ o ≠ q) ∧ (σ1 1 (40 + o) = 1 ∧ σ1 1 (40 + q) = 1) ∧ MET (put (put σ1 1 (64 + o) (σ1 1 (64 + q))) 1 (64 + q) (σ1 1 (64 + o))) (tb (TH (put (put σ1 1 (64 + o) (σ1 1 (64 + q))) 1 (64 + q) (σ1 1 (64 + o))) 1)) ∧ x = 1 ∧ ∃ τ, σ2 = SC (CG σ1 (up1 (up1 (σ1 1) (64 + o) (σ1 1 (64 + q))) (64 + q) (σ1 1 (64 + o)))) τ))) y σ2) : x = y ∧ INV σ2 := by
  have hw0 := I_nw h
  have hn := hw0.1
  have hn24 := (I_ro h).1
  have hmet : ∀ σ1, EQR σ1 σ → (0 ≤ o ∧ o < σ 0 5) → (0 ≤ q ∧ q < σ 0 5) → (MEX (put (put σ 112 o (σ 112 q)) 112 q (σ 112 o)) (tb (TX (put (put σ 112 o (σ 112 q)) 112 q (σ 112 o)) 1)) ↔ MET (put (put σ1 1 (64 + o) (σ1 1 (64 + q))) 1 (64 + q) (σ1 1 (64 + o))) (tb (TH (put (put σ1 1 (64 + o) (σ1 1 (64 + q))) 1 (64 + q) (σ1 1 (64 + o))) 1))) := fun σ1 hR ho hq => by
    have hw1 := NW_R hw0 hR
    have h5 := EQR_5 hR
    have hw := NW_la (NW_la hw1 (by omega) (o := o) (j := σ 112 q) ho.1) (by show σ1 0 5 ≤ 24; omega) (o := q) (j := σ 112 o) hq.1
    rw [(hw1.2.2.2 q hq.1 (by omega)).2.1, (hw1.2.2.2 o ho.1 (by omega)).2.1] at hw ⊢
    rw [b_TX hw 1]
    exact b_MEX hw (fun _ _ _ => rfl)
  rcases hx with ⟨a, b, e⟩ | ⟨a, a2, b, e⟩ | ⟨a, a2, a3, b, e1⟩ | ⟨a, a2, a3, b, e1⟩
  · subst e
    rcases hy with ⟨c, d, e⟩ | ⟨c, _⟩ | ⟨c, _⟩ | ⟨c, _⟩
    · subst e; exact ⟨by omega, h⟩
    · omega
    · omega
    · omega
  · subst e
    have hk := (hw0.2.2.2 o a.1.1 (by omega)).1
    have hk2 := (hw0.2.2.2 q a.2.1.1 (by omega)).1
    rcases hy with ⟨c, d, e⟩ | ⟨c, c2, d, e⟩ | ⟨c, c2, _⟩ | ⟨c, c2, _⟩
    · omega
    · subst e; exact ⟨by omega, h⟩
    · omega
    · omega
  all_goals
    have ho : 0 ≤ o ∧ o < σ 0 5 := by omega
    have hq : 0 ≤ q ∧ q < σ 0 5 := by omega
    have hR : EQR σ1 σ := by first | exact EQ_R e1 | exact ch_R (I_xl h) (NOWc_p (NOWc_p NOWc_0 (by omega)) (by omega)) e1
    have hw := NW_R hw0 hR
    have h5 := EQR_5 hR
    have hk := hw.2.2.2 o ho.1 (by omega)
    have hk2 := hw.2.2.2 q hq.1 (by omega)
    have hk1 := hk.1
    have hk21 := hk2.1
    have hm := hmet σ1 hR ho hq
    rcases hy with ⟨c, d, e⟩ | ⟨c, c2, d, e⟩ | ⟨c, c2, c3, d, τ, e9⟩ | ⟨c, c2, c3, d, τ, e9⟩
    · omega
    · omega
    · first
      | (subst e9; exact ⟨by omega, INV_EQ (INV_EQ h e1) EQ_SC⟩)
      | exact absurd (hm.mp a3) c3
    · first
      | exact absurd (hm.mpr c3) a3
      | (subst e9
         refine ⟨by omega, ?_⟩
         have hX := I_xo h
         have hl1 := (hX.2.2 o ho.1 (by omega)).2.1
         have hl2 := (hX.2.2 q hq.1 (by omega)).2.1
         rw [← hk.2.1, ← hk2.2.1, EQR_b hR (a := 1) (by omega)]
         exact INV_ch h (NOWc_p (NOWc_p NOWc_0 (by omega)) (by omega)) (XO_la (XO_la hX hl2) hl1) (wOK_u (wOK_u (I_ro h).2.1 (by omega)) (by omega)) (he_l hw0 hn24.2 hq (he_l hw0 hn24.2 ho (he_0 hw0))) e1 EQ_SC)
