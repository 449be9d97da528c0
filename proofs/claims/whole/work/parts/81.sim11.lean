/-! BOTH SIDES: the image -/
/-- rows that the kept ones look at -/
def FRk (ρ σ : St) : Prop := ∀ a : Nat, (83 ≤ a ∧ a ≤ 88) ∨ (109 ≤ a ∧ a ≤ 112) → ρ a = σ a
theorem KS_k {σ ρ : St} (e : FRk ρ σ) : KS ρ = KS σ := by
  have em : ∀ P, MEX ρ P ↔ MEX σ P := fun P => by
    unfold MEX LX
    rw [e 109 (by omega), e 83 (by omega), e 84 (by omega), e 85 (by omega), e 112 (by omega)]
  unfold KS KKX kdX
  rw [e 83 (by omega), e 88 (by omega), e 111 (by omega)]
  congr 2
  funext K o
  exact propext (em _)
theorem put_a {σ : St} {a : Nat} {b v : Int} {x : Nat} {y : Int} : put σ a b v x y = if x = a ∧ y = b then v else σ x y := rfl

theorem s_image {σ σ1 σ2 : St} {x y : Int} (h : INV σ) (hx : x = (pc (TX σ 1)) ∧ σ1 = (put (CPY σ 1 0 (σ 83 5)) 82 10 1)) (hy : y = (pc (TH σ1 1)) ∧ σ2 = (put (cpy σ1 1 10 88) 0 13 (σ1 0 5))) : x = y ∧ INV σ2 := by
  have hall := h
  obtain ⟨⟨a1, a2, a3, a4⟩, hT, ⟨q1, q2⟩, ⟨⟨d1, d2, d3, d4, d5, d6⟩, ⟨f1, f2, f3, f4⟩⟩, g1, k1⟩ := h
  obtain ⟨hx, e⟩ := hx
  obtain ⟨hy, e2⟩ := hy
  have hn := a1.1
  have hn24 := a2.1
  have s1o : ∀ (a : Nat) (b : Int), ¬ (113 ≤ a ∧ a ≤ 117) → ¬ (a = 82 ∧ b = 10) → σ1 a b = σ a b := fun a b x y => by rw [e, put_q y, CPY_o (by omega)]
  have s1i : ∀ b, σ1 82 b = put σ 82 10 1 82 b := fun b => by
    rw [e]
    by_cases z : b = 10
    · rw [z, put_s, put_s]
    · rw [put_q (by omega), put_q (by omega), CPY_o (by omega)]
  have s1s : ∀ (a : Nat) (b : Int), 113 ≤ a ∧ a ≤ 117 → σ1 a b = CPY σ 1 0 (σ 83 5) a b := fun a b x => by rw [e, put_i (by omega)]
  have n5 : σ1 0 5 = σ 0 5 := s1o 0 5 (by omega) (by omega)
  have r1 : σ1 1 = σ 1 := funext fun b => s1o 1 b (by omega) (by omega)
  have s2o : ∀ (a : Nat) (b : Int), ¬ (a = 10 ∧ 0 ≤ b ∧ b < 88) → ¬ (a = 0 ∧ b = 13) → σ2 a b = σ1 a b := fun a b x y => by rw [e2, put_q y, cpy_n x]
  refine ⟨?_, ?_⟩
  · rw [hx, hy, b_TX a1 1]
    unfold TH
    rw [n5, r1]
  · have c : ∀ (a : Nat) (b : Int), ¬ (113 ≤ a ∧ a ≤ 117) → ¬ (a = 82 ∧ b = 10) → ¬ (a = 10 ∧ 0 ≤ b ∧ b < 88) → ¬ (a = 0 ∧ b = 13) → σ2 a b = σ a b := fun a b x y z w => by rw [s2o a b z w, s1o a b x y]
    have cf : ∀ a : Nat, (1 ≤ a ∧ a ≤ 9) ∨ (11 ≤ a ∧ a < 82) ∨ (83 ≤ a ∧ a ≤ 112) ∨ 118 ≤ a → σ2 a = σ a := fun a x => funext fun b => c a b (by omega) (by omega) (by omega) (by omega)
    have m5 := c 0 5 (by omega) (by omega) (by omega) (by omega)
    have m10 := c 0 10 (by omega) (by omega) (by omega) (by omega)
    have m11 := c 0 11 (by omega) (by omega) (by omega) (by omega)
    have m18 := c 0 18 (by omega) (by omega) (by omega) (by omega)
    have m13 : σ2 0 13 = σ 0 5 := by rw [e2, put_s, n5]
    have m82 : σ2 82 10 = 1 := by rw [s2o 82 10 (by omega) (by omega), s1i, put_s]
    have htS : ∀ j, tS σ2 j = tS σ j := fun j => by unfold tS; rw [cf 107 (by omega)]
    have r7 : ∀ j, 0 ≤ j → j ≤ σ 0 10 → 2 ≤ tS σ j := fun j x y => by have := d4 j x (by omega); unfold tS; omega
    have hst : ∀ j, 0 ≤ j → j ≤ σ 0 10 → ∀ (a : Nat) (b : Int), 108 + 5 * tS σ j ≤ a ∧ a ≤ 112 + 5 * tS σ j → σ2 a b = σ a b := fun j x y a b z => by
      have := r7 j x y
      rw [cf a (by omega)]
    have hkN : ∀ j, 0 ≤ j → j ≤ σ 0 10 → kN σ2 j = kN σ j := fun j x y => by
      unfold kN
      rw [htS, hst j x y _ 4 (by omega)]
    have im : ∀ (a : Nat) (b : Int), 113 ≤ a ∧ a ≤ 117 → σ2 a b = CPY σ 1 0 (σ 83 5) a b := fun a b x => by rw [s2o a b (by omega) (by omega), s1s a b x]
    have i4 : σ2 113 4 = σ 0 5 := by rw [im 113 4 (by omega), CPY_at, if_neg (by omega), if_neg (by omega), if_neg (by omega), if_neg (by omega), if_pos ⟨rfl, rfl⟩, hn]
    have i9 : ∀ b, 0 ≤ b → b < 36 → σ2 114 b = σ 109 b := fun b x y => by rw [im 114 b (by omega), CPY_at, if_pos ⟨rfl, x, y⟩]
    have i10 : ∀ b, 0 ≤ b → b < 4 → σ2 115 b = σ 110 b := fun b x y => by rw [im 115 b (by omega), CPY_at, if_neg (by omega), if_pos ⟨rfl, x, y⟩]
    have i11 : ∀ b, 0 ≤ b → b < σ 0 5 → σ2 116 b = σ 111 b := fun b x y => by rw [im 116 b (by omega), CPY_at, if_neg (by omega), if_neg (by omega), if_pos ⟨rfl, x, by omega⟩]
    have i12 : ∀ b, 0 ≤ b → b < σ 0 5 → σ2 117 b = σ 112 b := fun b x y => by rw [im 117 b (by omega), CPY_at, if_neg (by omega), if_neg (by omega), if_neg (by omega), if_pos ⟨rfl, x, by omega⟩]
    have jm : ∀ b, 0 ≤ b → b < 88 → σ2 10 b = σ 1 b := fun b x y => by
      rw [e2, put_i (by omega)]
      unfold cpy
      rw [if_pos ⟨rfl, x, y⟩, r1]
    refine ⟨⟨?_, ?_, ?_, ?_⟩, ?_, ?_, ⟨?_, ?_⟩, ?_, ?_⟩
    · unfold NW
      rw [cf 83 (by omega), cf 84 (by omega), cf 85 (by omega), cf 87 (by omega), cf 88 (by omega), cf 109 (by omega), cf 110 (by omega), cf 111 (by omega), cf 112 (by omega), m5, cf 1 (by omega), cf 2 (by omega), cf 3 (by omega), cf 4 (by omega), cf 5 (by omega)]
      exact a1
    · unfold RO
      rw [m5, cf 1 (by omega), cf 2 (by omega), cf 3 (by omega), cf 4 (by omega), cf 5 (by omega)]
      exact a2
    · exact XO_c a3 (fun a b z => by rw [cf a (by omega)])
    · rw [m5, cf 2 (by omega)]; exact a4
    · unfold JT
      rw [m18, cf 12 (by omega), cf 89 (by omega), cf 90 (by omega)]
      exact hT
    · unfold JS
      rw [cf 20 (by omega), cf 21 (by omega), cf 101 (by omega), cf 102 (by omega)]
      exact ⟨q1, q2⟩
    · unfold JH0
      rw [m10, m11, cf 106 (by omega), cf 107 (by omega), cf 8 (by omega)]
      exact ⟨d1, d2, d3, d4, d5, d6⟩
    · refine ⟨fun j x y => ?_, fun i x y => ?_, ?_, ?_⟩
      · rw [m10] at y
        rw [htS]
        exact SOK_s (f1 j x y) (hst j x y) (by rw [cf 83 (by omega)]; exact Int.le_refl _)
      · rw [m10] at y
        obtain ⟨p1, p3, p4, p5⟩ := f2 i x y
        unfold JHi
        rw [hkN (i + 1) (by omega) (by omega), hkN i x (by omega), htS, htS, cf 8 (by omega), cf (34 + i.toNat) (by omega), cf (22 + i.toNat) (by omega)]
        refine ⟨p1, SEQ_s p3 (hst (i + 1) (by omega) (by omega)), SEQ_s p4 (hst i x (by omega)), ?_⟩
        unfold ASKD
        rw [cf 86 (by omega)]
        exact p5
      · rw [m11, htS, hkN _ d1.1 d1.2.1, cf 1 (by omega)]
        exact SEQ_s f3 (hst _ d1.1 d1.2.1)
      · rw [m11, hkN _ d1.1 d1.2.1, m5, cf 1 (by omega)]
        unfold ASKD
        rw [cf 86 (by omega)]
        exact f4
    · refine Or.inr ⟨m82, by rw [m13, m5]; exact ⟨hn24.1, Int.le_refl _⟩, by rw [m13]; exact i4, ?_, ?_⟩
      · obtain ⟨o1, ⟨o2, o3⟩, o4⟩ := a3
        refine ⟨?_, fun j x y => ?_, fun j x y => ?_, fun o x y => ?_⟩
        · show 0 ≤ σ2 113 4 ∧ σ2 113 4 ≤ σ2 83 5
          rw [i4, cf 83 (by omega), hn]
          exact ⟨hn24.1, Int.le_refl _⟩
        · show 0 ≤ σ2 114 j ∧ σ2 114 j ≤ 99
          rw [i9 j x y]; exact o2 j x y
        · show 0 ≤ σ2 115 j ∧ σ2 115 j ≤ 100
          rw [i10 j x y]; exact o3 j x y
        · have y2 : o < σ 0 5 := by
            have y3 : o < σ2 113 4 := y
            rw [i4] at y3; exact y3
          show (0 ≤ σ2 116 o ∧ σ2 116 o ≤ 2) ∧ 0 ≤ σ2 117 o ∧ σ2 117 o ≤ 11
          rw [i11 o x y2, i12 o x y2]
          have := o4 o x (by omega)
          exact ⟨this.1, this.2.1⟩
      · rw [m13]
        refine ⟨fun j x y => ?_, fun j x y => ?_, fun o x y => ?_⟩
        · show σ2 114 j = σ2 10 j
          rw [i9 j x y, jm j x (by omega)]; exact a1.2.1 j x y
        · show σ2 115 j = σ2 10 (36 + j)
          rw [i10 j x y, jm (36 + j) (by omega) (by omega)]; exact a1.2.2.1 j x y
        · show σ2 116 o = σ2 10 (40 + o) ∧ σ2 117 o = σ2 10 (64 + o)
          rw [i11 o x y, i12 o x y, jm (40 + o) (by omega) (by omega), jm (64 + o) (by omega) (by omega)]
          have := a1.2.2.2 o x y
          exact ⟨this.1, this.2.1⟩
    · have f : FRk σ2 σ := fun a x => cf a (by omega)
      unfold KOK
      rw [KS_k f, show σ2 82 12 = σ 82 12 from c 82 12 (by omega) (by omega) (by omega) (by omega), show σ2 82 11 = σ 82 11 from c 82 11 (by omega) (by omega) (by omega) (by omega)]
      exact k1

theorem s_back {σ σ1 σ2 : St} {x y : Int} (h : INV σ) (hx : ((fun x σ2 => (σ 82 10 = 0 ∧ x = -5 ∧ σ2 = σ) ∨ (σ 82 10 = 1 ∧ x = pc (TX (LBX σ 1) 1) ∧ σ2 = (CPY (put (put (LBX σ 1) 106 1 0) 106 2 0) (σ 107 0).toNat 0 (σ 83 5))))) x σ1) (hy : ((fun x σ2 => (σ1 0 13 < 0 ∧ x = -5 ∧ σ2 = σ1) ∨ (0 ≤ σ1 0 13 ∧ x = pc (TH (BK σ1) 1) ∧ σ2 = BK σ1))) y σ2) : x = y ∧ INV σ2 := by
  have hall := h
  obtain ⟨⟨a1, a2, a3, a4⟩, hT, ⟨q1, q2⟩, ⟨⟨d1, d2, d3, d4, d5, d6⟩, ⟨f1, f2, f3, f4⟩⟩, g1, k1⟩ := h
  have hn := a1.1
  have hn24 := a2.1
  rcases hx with ⟨a, b, e⟩ | ⟨a, b, e⟩
  · subst e
    rcases g1 with ⟨g2, g3⟩ | ⟨g2, g3⟩
    · rcases hy with ⟨c, d, e⟩ | ⟨c, _⟩
      · subst e; exact ⟨by omega, hall⟩
      · omega
    · omega
  · rcases g1 with ⟨g2, g3⟩ | ⟨g2, g3, g4, g5, g6⟩
    · omega
    have g4 : σ 113 4 = σ 0 13 := g4
    have h07 := d4 0 (by omega) (by omega)
    obtain ⟨t, ht⟩ : ∃ t, (σ 107 0).toNat = t := ⟨_, rfl⟩
    have ht2 : 2 ≤ t ∧ t ≤ 14 := by omega
    rw [ht] at e
    obtain ⟨κ, hκ⟩ : ∃ κ, put (put (LBX σ 1) 106 1 0) 106 2 0 = κ := ⟨_, rfl⟩
    rw [hκ] at e
    have kL : ∀ (a : Nat) (b : Int), a ≠ 106 → κ a b = LBX σ 1 a b := fun a b z => by rw [← hκ, put_i z, put_i z]
    have kc : ∀ (a : Nat) (b : Int), a ≠ 106 → ¬ (108 ≤ a ∧ a ≤ 112) → ¬ (a = 82 ∧ b = 12) → κ a b = σ a b := fun a b z y x => by rw [kL a b z, LBX_o y x]
    have k12 : κ 82 12 = 0 := by rw [kL 82 12 (by decide)]; exact put_s
    have lat := fun b => LBX_at (σ := σ) (t := 1) (b := b)
    have hXk : XO κ := XO_c (XO_LBX a3 g5) (fun a b z => kL a b (by omega))
    have s1o : ∀ (a : Nat) (b : Int), ¬ (108 + 5 * t ≤ a ∧ a ≤ 112 + 5 * t) → σ1 a b = κ a b := fun a b z => by rw [e, CPY_o z]
    have s1r : ∀ (a : Nat) (b : Int), a < 82 → σ1 a b = σ a b := fun a b z => by rw [s1o a b (by omega), kc a b (by omega) (by omega) (by omega)]
    rw [s1r 0 13 (by decide)] at hy
    rcases hy with ⟨c, _⟩ | ⟨c, d, e9⟩
    · omega
    have hBK : ∀ (a : Nat) (b : Int), σ2 a b = if a = 0 ∧ b = 11 then 0 else if a = 0 ∧ b = 10 then 0 else if a = 1 ∧ 40 + σ 0 13 ≤ b ∧ b < 40 + σ 0 5 then 0 else if a = 1 ∧ ((0 ≤ b ∧ b < 40) ∨ (40 ≤ b ∧ b < 40 + σ 0 13) ∨ (64 ≤ b ∧ b < 64 + σ 0 13)) then σ 10 b else σ1 a b := fun a b => by
      rw [e9]
      unfold BK
      rw [put_a, put_a]
      by_cases z : a = 0 ∧ b = 11
      · rw [if_pos z, if_pos z]
      rw [if_neg z, if_neg z]
      by_cases z2 : a = 0 ∧ b = 10
      · rw [if_pos z2, if_pos z2]
      rw [if_neg z2, if_neg z2]
      unfold BKk LB
      rw [s1r 0 13 (by decide), s1r 0 5 (by decide), show max 0 (σ 0 13) = σ 0 13 by omega, s1r 10 b (by decide)]
    have c2 : ∀ (a : Nat) (b : Int), 2 ≤ a → σ2 a b = σ1 a b := fun a b x => by rw [hBK, if_neg (by omega), if_neg (by omega), if_neg (by omega), if_neg (by omega)]
    have w1 : ∀ b, σ2 1 b = if 40 + σ 0 13 ≤ b ∧ b < 40 + σ 0 5 then 0 else if (0 ≤ b ∧ b < 40) ∨ (40 ≤ b ∧ b < 40 + σ 0 13) ∨ (64 ≤ b ∧ b < 64 + σ 0 13) then σ 10 b else σ 1 b := fun b => by
      rw [hBK, if_neg (by omega), if_neg (by omega)]
      by_cases z : 40 + σ 0 13 ≤ b ∧ b < 40 + σ 0 5
      · rw [if_pos ⟨rfl, z⟩, if_pos z]
      rw [if_neg (fun y => z y.2), if_neg z]
      by_cases z2 : (0 ≤ b ∧ b < 40) ∨ (40 ≤ b ∧ b < 40 + σ 0 13) ∨ (64 ≤ b ∧ b < 64 + σ 0 13)
      · rw [if_pos ⟨rfl, z2⟩, if_pos z2]
      · rw [if_neg (fun y => z2 y.2), if_neg z2]
        exact s1r 1 b (by decide)
    have c0 : ∀ b, b ≠ 10 → b ≠ 11 → σ2 0 b = σ 0 b := fun b x y => by rw [hBK, if_neg (by omega), if_neg (by omega), if_neg (by omega), if_neg (by omega)]; exact s1r 0 b (by decide)
    have cf : ∀ a : Nat, (2 ≤ a ∧ a ≤ 8) ∨ a = 10 ∨ a = 12 ∨ (20 ≤ a ∧ a < 46) → σ2 a = σ a := fun a x => funext fun b => by rw [c2 a b (by omega)]; exact s1r a b (by omega)
    have ch' : ∀ a : Nat, (83 ≤ a ∧ a ≤ 105) ∨ a = 107 ∨ (113 ≤ a ∧ a ≤ 117) → σ2 a = σ a := fun a x => funext fun b => by rw [c2 a b (by omega), s1o a b (by omega), kc a b (by omega) (by omega) (by omega)]
    have n5 : σ2 0 5 = σ 0 5 := c0 5 (by decide) (by decide)
    have n13 : σ2 0 13 = σ 0 13 := c0 13 (by decide) (by decide)
    have n18 : σ2 0 18 = σ 0 18 := c0 18 (by decide) (by decide)
    have n10 : σ2 0 10 = 0 := by rw [hBK, if_neg (by omega), if_pos ⟨rfl, rfl⟩]
    have n11 : σ2 0 11 = 0 := by rw [hBK, if_pos ⟨rfl, rfl⟩]
    have n106 : ∀ b, σ2 106 b = κ 106 b := fun b => by rw [c2 106 b (by decide), s1o 106 b (by omega)]
    -- the class's now
    have nw9 : ∀ a b, 109 ≤ a ∧ a ≤ 112 → σ2 a b = LBX σ 1 a b := fun a b x => by rw [c2 a b (by omega), s1o a b (by omega), kL a b (by omega)]
    have n109 : ∀ j, 0 ≤ j → j < 36 → σ2 109 j = σ 10 j := fun j x y => by
      rw [nw9 109 j (by omega), (lat j).1, if_pos ⟨x, y⟩]
      exact g6.1 j x y
    have n110 : ∀ j, 0 ≤ j → j < 4 → σ2 110 j = σ 10 (36 + j) := fun j x y => by
      rw [nw9 110 j (by omega), (lat j).2.1, if_pos ⟨x, y⟩]
      exact g6.2.1 j x y
    have n111 : ∀ o, 0 ≤ o → o < σ 0 5 → σ2 111 o = if o < σ 0 13 then σ 10 (40 + o) else 0 := fun o x y => by
      rw [nw9 111 o (by omega), (lat o).2.2.1, show σ (108 + 5 * 1) 4 = σ 0 13 from g4]
      by_cases z : o < σ 0 13
      · rw [if_neg (by omega), if_pos ⟨x, z⟩, if_pos z]
        exact (g6.2.2 o x z).1
      · rw [if_pos (by omega), if_neg z]
    have n112 : ∀ o, 0 ≤ o → o < σ 0 5 → σ2 112 o = if o < σ 0 13 then σ 10 (64 + o) else σ 1 (64 + o) := fun o x y => by
      rw [nw9 112 o (by omega), (lat o).2.2.2, show σ (108 + 5 * 1) 4 = σ 0 13 from g4]
      by_cases z : o < σ 0 13
      · rw [if_pos ⟨x, z⟩, if_pos z]
        exact (g6.2.2 o x z).2
      · rw [if_neg (by omega), if_neg z]
        exact (a1.2.2.2 o x y).2.1
    have wk : ∀ o, 0 ≤ o → o < σ 0 5 → σ2 1 (40 + o) = (if o < σ 0 13 then σ 10 (40 + o) else 0) ∧ σ2 1 (64 + o) = if o < σ 0 13 then σ 10 (64 + o) else σ 1 (64 + o) := fun o x y => by
      constructor
      · rw [w1 (40 + o)]
        by_cases z : o < σ 0 13
        · rw [if_neg (c := 40 + σ 0 13 ≤ 40 + o ∧ 40 + o < 40 + σ 0 5) (by omega), if_pos (c := (0 ≤ 40 + o ∧ 40 + o < 40) ∨ (40 ≤ 40 + o ∧ 40 + o < 40 + σ 0 13) ∨ (64 ≤ 40 + o ∧ 40 + o < 64 + σ 0 13)) (by omega), if_pos z]
        · rw [if_pos (c := 40 + σ 0 13 ≤ 40 + o ∧ 40 + o < 40 + σ 0 5) (by omega), if_neg z]
      · rw [w1 (64 + o), if_neg (c := 40 + σ 0 13 ≤ 64 + o ∧ 64 + o < 40 + σ 0 5) (by omega)]
        by_cases z : o < σ 0 13
        · rw [if_pos (c := (0 ≤ 64 + o ∧ 64 + o < 40) ∨ (40 ≤ 64 + o ∧ 64 + o < 40 + σ 0 13) ∨ (64 ≤ 64 + o ∧ 64 + o < 64 + σ 0 13)) (by omega), if_pos z]
        · rw [if_neg (c := (0 ≤ 64 + o ∧ 64 + o < 40) ∨ (40 ≤ 64 + o ∧ 64 + o < 40 + σ 0 13) ∨ (64 ≤ 64 + o ∧ 64 + o < 64 + σ 0 13)) (by omega), if_neg z]
    have hXO : XO σ2 := XO_c hXk (fun a b z => by rw [c2 a b (by omega), s1o a b (by omega)])
    have hNW : NW σ2 σ2 := by
      refine ⟨by rw [ch' 83 (by omega), n5, hn], fun j x y => ?_, fun g x y => ?_, fun o x y => ?_⟩
      · rw [n109 j x y, w1, if_neg (by omega), if_pos (by omega)]
      · rw [n110 g x y, w1, if_neg (by omega), if_pos (by omega)]
      · rw [n5] at y
        obtain ⟨_, _, m3, m4, m5, m6⟩ := a1.2.2.2 o x y
        rw [n111 o x y, n112 o x y, (wk o x y).1, (wk o x y).2, ch' 84 (by omega), ch' 85 (by omega), ch' 87 (by omega), ch' 88 (by omega), cf 2 (by omega), cf 3 (by omega), cf 4 (by omega), cf 5 (by omega)]
        exact ⟨rfl, rfl, m3, m4, m5, m6⟩
    have hwOK : wOK (σ2 1) := by
      obtain ⟨p1, p2, p3, p4⟩ := a2.2.1
      obtain ⟨x1, ⟨x2, x3⟩, x4⟩ := hXO
      obtain ⟨y1, y2, y3, y4⟩ := hNW
      refine ⟨fun j x y => by rw [← y2 j x y]; exact x2 j x y, fun j x y => ?_, fun j x y => ?_, fun j x y => ?_⟩
      · have := y3 (j - 36) (by omega) (by omega)
        rw [show 36 + (j - 36) = j by omega] at this
        rw [← this]; exact x3 _ (by omega) (by omega)
      · by_cases z : j - 40 < σ2 0 5
        · have := (y4 (j - 40) (by omega) z).1
          rw [show 40 + (j - 40) = j by omega] at this
          rw [← this]; exact (x4 _ (by omega) (by omega)).1
        · rw [n5] at z
          rw [w1, if_neg (by omega), if_neg (by omega)]; exact p3 j x y
      · by_cases z : j - 64 < σ2 0 5
        · have := (y4 (j - 64) (by omega) z).2.1
          rw [show 64 + (j - 64) = j by omega] at this
          rw [← this]; exact (x4 _ (by omega) (by omega)).2.1
        · rw [n5] at z
          rw [w1, if_neg (by omega), if_neg (by omega)]; exact p4 j x y
    refine ⟨?_, ?_⟩
    · -- the value: the promised ones
      have eT : TX (LBX σ 1) 1 = TX σ2 1 := by
        unfold TX
        rw [show σ2 83 5 = σ 83 5 from by rw [ch' 83 (by omega)], show LBX σ 1 83 5 = σ 83 5 from LBX_o (by omega) (by omega), show σ2 111 = LBX σ 1 111 from funext fun b => nw9 111 b (by omega)]
      rw [b, d, ← e9, eT, b_TX hNW 1]
    have htS : ∀ j, tS σ2 j = tS σ j := fun j => by unfold tS; rw [ch' 107 (by omega)]
    have t0 : tS σ2 0 = t := by rw [htS]; exact ht
    have st : ∀ (a : Nat) (b : Int), 108 + 5 * t ≤ a ∧ a ≤ 112 + 5 * t → σ2 a b = CPY κ t 0 (σ 83 5) a b := fun a b x => by rw [c2 a b (by omega), e]
    have k9 : ∀ a b, 109 ≤ a ∧ a ≤ 112 → κ a b = σ2 a b := fun a b x => by rw [nw9 a b x, kL a b (by omega)]
    have i4 : σ2 (108 + 5 * t) 4 = σ 0 5 := by rw [st _ 4 (by omega), CPY_at, if_neg (by omega), if_neg (by omega), if_neg (by omega), if_neg (by omega), if_pos ⟨rfl, rfl⟩, hn]
    have i9 : ∀ b, 0 ≤ b → b < 36 → σ2 (109 + 5 * t) b = σ2 109 b := fun b x y => by rw [st (109 + 5 * t) b (by omega), CPY_at, if_pos ⟨rfl, x, y⟩]; exact k9 109 b (by omega)
    have i10 : ∀ b, 0 ≤ b → b < 4 → σ2 (110 + 5 * t) b = σ2 110 b := fun b x y => by rw [st (110 + 5 * t) b (by omega), CPY_at, if_neg (by omega), if_pos ⟨rfl, x, y⟩]; exact k9 110 b (by omega)
    have i11 : ∀ b, 0 ≤ b → b < σ 0 5 → σ2 (111 + 5 * t) b = σ2 111 b := fun b x y => by rw [st (111 + 5 * t) b (by omega), CPY_at, if_neg (by omega), if_neg (by omega), if_pos ⟨rfl, x, by omega⟩]; exact k9 111 b (by omega)
    have i12 : ∀ b, 0 ≤ b → b < σ 0 5 → σ2 (112 + 5 * t) b = σ2 112 b := fun b x y => by rw [st (112 + 5 * t) b (by omega), CPY_at, if_neg (by omega), if_neg (by omega), if_neg (by omega), if_pos ⟨rfl, x, by omega⟩]; exact k9 112 b (by omega)
    have k0 : kN σ2 0 = σ 0 5 := by unfold kN; rw [t0]; exact i4
    refine ⟨⟨hNW, ?_, hXO, ?_⟩, ?_, ?_, ⟨?_, ?_⟩, ?_, ?_⟩
    · unfold RO
      rw [n5, cf 2 (by omega), cf 3 (by omega), cf 4 (by omega), cf 5 (by omega)]
      exact ⟨a2.1, hwOK, a2.2.2⟩
    · rw [n5, cf 2 (by omega)]; exact a4
    · unfold JT
      rw [n18, cf 12 (by omega), ch' 89 (by omega), ch' 90 (by omega)]
      exact hT
    · unfold JS
      rw [cf 20 (by omega), cf 21 (by omega), ch' 101 (by omega), ch' 102 (by omega)]
      exact ⟨q1, q2⟩
    · have m1 : σ2 106 1 = 0 := by rw [n106, ← hκ, put_k (by decide), put_s]
      have m2 : σ2 106 2 = 0 := by rw [n106, ← hκ, put_s]
      unfold JH0
      rw [n10, n11, m1, m2, ch' 107 (by omega), cf 8 (by omega)]
      exact ⟨by omega, rfl, rfl, d4, d5, d6⟩
    · refine ⟨fun j x y => ?_, fun i x y => ?_, ?_, ?_⟩
      · rw [n10] at y
        have j0 : j = 0 := by omega
        rw [j0, t0]
        obtain ⟨x1, ⟨x2, x3⟩, x4⟩ := hXO
        refine ⟨by rw [i4, ch' 83 (by omega)]; omega, fun j x y => by rw [i9 j x y]; exact x2 j x y, fun j x y => by rw [i10 j x y]; exact x3 j x y, fun o x y => ?_⟩
        rw [i4] at y
        rw [i11 o x y, i12 o x y]
        have := x4 o x (by rw [ch' 83 (by omega)]; omega)
        exact ⟨this.1, this.2.1⟩
      · rw [n10] at y
        omega
      · rw [n11, t0, k0]
        obtain ⟨y1, y2, y3, y4⟩ := hNW
        refine ⟨fun j x y => by rw [i9 j x y]; exact y2 j x y, fun j x y => by rw [i10 j x y]; exact y3 j x y, fun o x y => ?_⟩
        rw [i11 o x y, i12 o x y]
        have := y4 o x (by rw [n5]; exact y)
        exact ⟨this.1, this.2.1⟩
      · rw [n11, k0, n5]
        intro o x y
        omega
    · refine Or.inr ⟨?_, by rw [n13, n5]; exact g3, by rw [ch' (108 + 5 * 1) (by omega), n13]; exact g4, ?_, ?_⟩
      · rw [c2 82 10 (by decide), s1o 82 10 (by omega), kc 82 10 (by decide) (by omega) (by omega)]; exact g2
      · exact SOK_s g5 (fun a b p => by rw [ch' a (by omega)]) (by rw [ch' 83 (by omega)]; exact Int.le_refl _)
      · rw [n13, cf 10 (by omega)]
        exact SEQ_s g6 (fun a b p => by rw [ch' a (by omega)])
    · have e12 : σ2 82 12 = 0 := by rw [c2 82 12 (by decide), s1o 82 12 (by omega), k12]
      exact ⟨Or.inl e12, fun z => by omega⟩
