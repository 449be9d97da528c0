theorem cnt_or {n : Int} {P K : Int → Bool} (h : ∀ q, 0 ≤ q → q < n → ¬ (P q = true ∧ K q = true)) : cnt n (fun q => P q || K q) = cnt n P + cnt n K := by
  unfold cnt
  rw [← sm_add]
  exact sm_c (fun q a b => by
    show bI ((P q || K q) = true) = bI (P q = true) + bI (K q = true)
    cases hp : P q
    · rw [Bool.false_or, bI_f, Int.zero_add]
    · cases hk : K q
      · rfl
      · exact absurd ⟨hp, hk⟩ (h q a b))
theorem PX_now {σ : St} {K : Int → Bool} : NOWc (PX σ K) σ := fun a b _ y => PX_o (by omega)
theorem XO_PX {σ : St} {K : Int → Bool} (h : XO σ) : XO (PX σ K) := by
  obtain ⟨h1, h2, h3⟩ := h
  refine ⟨h1, h2, fun o a b => ?_⟩
  have h4 := h3 o a b
  refine ⟨?_, h4.2⟩
  show 0 ≤ PX σ K 111 o ∧ PX σ K 111 o ≤ 2
  unfold PX
  split
  · omega
  · exact h4.1

theorem s_promiseAll {σ σ1 σ2 : St} {x y : Int} (h : INV σ) (hx : ((fun x σ2 => x = pc (bsum (PQ σ 240) (σ 83 5)) - pc (TX σ 1) ∧ EQ σ2 (NCH (PX σ (KPX σ 240))))) x σ1) (hy : ((fun x σ2 => x = cnt (σ1 0 5) (KP σ1 240) ∧ ∃ τ, σ2 = SC (CG σ1 (wPA σ1 (KP σ1 240))) τ)) y σ2) : x = y ∧ INV σ2 := by
  obtain ⟨hx, e1⟩ := hx
  obtain ⟨hy, τ, e9⟩ := hy
  subst e9
  have hn24 := (I_xo h).1
  have hR := ch_R (I_xl h) PX_now e1
  have hw := NW_R (I_nw h) hR
  have hRO := RO_R (I_ro h) hR
  have hn := hw.1
  have h5 := EQR_5 hR
  have hK := b_KP hw hRO 240
  refine ⟨?_, ?_⟩
  · have e2 : pc (bsum (PQ σ 240) (σ 83 5)) = cnt (σ 83 5) (PQ σ 240) := pc_bs ⟨hn24.1, by omega⟩
    have e3 : pc (TX σ 1) = cnt (σ 83 5) (kdX σ 1) := pc_bs (P := kdX σ 1) ⟨hn24.1, by omega⟩
    have e4 : cnt (σ 83 5) (PQ σ 240) = cnt (σ 83 5) (kdX σ 1) + cnt (σ 83 5) (KPX σ 240) := cnt_or (fun q _ _ z => by
      have z2 := (kf_in z.2).2.2.2
      have a1 : σ 111 q = 1 := decide_eq_true_eq.mp z.1
      have a2 : σ 111 q = 0 := decide_eq_true_eq.mp z2
      omega)
    rw [hx, hy, e2, e3, e4, hK, hn]
    omega
  · refine INV_ch h PX_now (XO_PX (I_xo h)) (by rw [← PA_1]; exact (RO_PA hRO).2.1) ?_ e1 EQ_SC
    have hw0 := I_nw h
    refine ⟨fun j a b => ?_, fun g a b => ?_, fun o a b => ⟨?_, ?_⟩⟩
    · rw [PX_o (by decide), wPA_o (by omega), EQR_b hR (a := 1) (by omega)]; exact hw0.2.1 j a b
    · rw [PX_o (by decide), wPA_o (by omega), EQR_b hR (a := 1) (by omega)]; exact hw0.2.2.1 g a b
    · rw [← hK]
      unfold PX wPA
      rw [show 40 + o - 40 = o by omega, EQR_b hR (a := 1) (by omega)]
      by_cases z : KPX σ 240 o = true
      · rw [if_pos ⟨rfl, a, by omega, z⟩, if_pos ⟨by omega, by omega, z⟩]
      · rw [if_neg (fun y => z y.2.2.2), if_neg (fun y => z y.2.2)]
        exact (hw0.2.2.2 o a b).1
    · rw [PX_o (by decide), wPA_o (by omega), EQR_b hR (a := 1) (by omega)]; exact (hw0.2.2.2 o a b).2.1

theorem s_from {σ σ1 σ2 : St} {w i it q : Int} {x y : Int} (h : INV σ) (hx : ((fun x σ2 => (¬ ((0 ≤ w ∧ w < 4) ∧ ((0 ≤ it ∧ it ≤ 2) ∧ (0 ≤ q ∧ q ≤ 11))) ∧ x = -1 ∧ σ2 = σ) ∨ (((0 ≤ w ∧ w < 4) ∧ ((0 ≤ it ∧ it ≤ 2) ∧ (0 ≤ q ∧ q ≤ 11))) ∧ σ 102 w < 0 ∧ x = -11 ∧ σ2 = σ) ∨ (((0 ≤ w ∧ w < 4) ∧ ((0 ≤ it ∧ it ≤ 2) ∧ (0 ≤ q ∧ q ≤ 11))) ∧ 0 ≤ σ 102 w ∧ i < 0 ∧ x = -13 ∧ σ2 = σ) ∨ (((0 ≤ w ∧ w < 4) ∧ ((0 ≤ it ∧ it ≤ 2) ∧ (0 ≤ q ∧ q ≤ 11))) ∧ 0 ≤ σ 102 w ∧ 0 ≤ i ∧ 0 ≤ x ∧ (∀ j, 0 ≤ j → j < x → goX σ w i q j) ∧ ¬ goX σ w i q x ∧ σ2 = NCH (FRX σ w i it q x)))) x σ1) (hy : ((fun x σ2 => (¬ ((0 ≤ w ∧ w ≤ 3) ∧ ((0 ≤ it ∧ it ≤ 2) ∧ (0 ≤ q ∧ q ≤ 11))) ∧ x = -1 ∧ σ2 = σ1) ∨ (((0 ≤ w ∧ w ≤ 3) ∧ ((0 ≤ it ∧ it ≤ 2) ∧ (0 ≤ q ∧ q ≤ 11))) ∧ σ1 21 w < 0 ∧ x = -11 ∧ σ2 = σ1) ∨ (((0 ≤ w ∧ w ≤ 3) ∧ ((0 ≤ it ∧ it ≤ 2) ∧ (0 ≤ q ∧ q ≤ 11))) ∧ 0 ≤ σ1 21 w ∧ i < 0 ∧ x = -13 ∧ σ2 = σ1) ∨ (((0 ≤ w ∧ w ≤ 3) ∧ ((0 ≤ it ∧ it ≤ 2) ∧ (0 ≤ q ∧ q ≤ 11))) ∧ 0 ≤ σ1 21 w ∧ 0 ≤ i ∧ 0 ≤ x ∧ (∀ j, 0 ≤ j → j < x → goF σ1 w i q j) ∧ ¬ goF σ1 w i q x ∧ ∃ τ, σ2 = SC (CG σ1 (wFR σ1 w i it q x)) τ))) y σ2) : x = y ∧ INV σ2 := by
  have hs := h.2.2.1.1
  rcases hx with ⟨a, b, e⟩ | ⟨a, a2, b, e⟩ | ⟨a, a2, a3, b, e⟩ | ⟨a, a2, a3, a4, a5, a6, e⟩
  · subst e
    rcases hy with ⟨c, d, e⟩ | ⟨c, _⟩ | ⟨c, _⟩ | ⟨c, _⟩
    · subst e; exact ⟨by omega, h⟩
    · omega
    · omega
    · omega
  · subst e
    have hsw := hs w a.1.1 a.1.2
    rcases hy with ⟨c, d, e⟩ | ⟨c, c2, d, e⟩ | ⟨c, c2, _⟩ | ⟨c, c2, _⟩
    · omega
    · subst e; exact ⟨by omega, h⟩
    · omega
    · omega
  · subst e
    have hsw := hs w a.1.1 a.1.2
    rcases hy with ⟨c, d, e⟩ | ⟨c, c2, d, e⟩ | ⟨c, c2, c3, d, e⟩ | ⟨c, c2, c3, _⟩
    · omega
    · omega
    · subst e; exact ⟨by omega, h⟩
    · omega
  · have e1 : EQ σ1 (NCH (FRX σ w i it q x)) := by rw [e]; exact EQ_0
    have hF : NOWc (FRX σ w i it q x) σ := fun a b _ y => if_neg (fun z => y (by omega))
    have hR := ch_R (I_xl h) hF e1
    have r20 := EQR_b hR (a := 20) (by omega)
    have r21 := EQR_b hR (a := 21) (by omega)
    have r1 := EQR_b hR (a := 1) (by omega)
    have hsw := hs w a.1.1 a.1.2
    have hgo : ∀ j, 0 ≤ j → (goX σ w i q j ↔ goF σ1 w i q j) := fun j z => by
      unfold goX goF
      rw [r20, r21, hsw.1]
      constructor
      · rintro ⟨p1, p2, p3, p4⟩
        rw [(h.2.2.1.2 (24 * w + i + j) (by omega) (by omega)).1] at p3 p4
        exact ⟨p1, p2, p3, p4⟩
      · rintro ⟨p1, p2, p3, p4⟩
        rw [← (h.2.2.1.2 (24 * w + i + j) (by omega) (by omega)).1] at p3 p4
        exact ⟨p1, p2, p3, p4⟩
    rw [r21] at hy
    rcases hy with ⟨c, d, e⟩ | ⟨c, c2, d, e⟩ | ⟨c, c2, c3, d, e⟩ | ⟨c, c2, c3, c4, c5, c6, τ, e9⟩
    · omega
    · omega
    · omega
    · subst e9
      have exy : x = y := by
        rcases Int.lt_trichotomy x y with t | t | t
        · exact absurd ((hgo x a4).mpr (c5 x a4 t)) a6
        · exact t
        · exact absurd ((hgo y c4).mp (a5 y c4 t)) c6
      refine ⟨exy, ?_⟩
      rw [← exy]
      have hb : ∀ b, 12 * it + q ≤ b → b < 12 * it + q + x → goX σ w i q (b - (12 * it + q)) := fun b u v => a5 _ (by omega) (by omega)
      have hq12 : q + x ≤ 12 := by
        by_cases z : x = 0
        · omega
        · have := (a5 (x - 1) (by omega) (by omega)).1
          omega
      have hX := I_xo h
      have hw0 := I_nw h
      refine INV_ch h hF ?_ ?_ ?_ e1 EQ_SC
      · obtain ⟨h1, ⟨h2, h3⟩, h4⟩ := hX
        refine ⟨h1, ⟨fun j u v => ?_, h3⟩, h4⟩
        show 0 ≤ FRX σ w i it q x 109 j ∧ FRX σ w i it q x 109 j ≤ 99
        unfold FRX
        by_cases z : (109 : Nat) = 109 ∧ 12 * it + q ≤ j ∧ j < 12 * it + q + x
        · rw [if_pos z]
          have := (hb j z.2.1 z.2.2).2.2
          exact this
        · rw [if_neg z]; exact h2 j u v
      · have hwk := (I_ro h).2.1
        have ew : ∀ b, wFR σ1 w i it q x b = if 12 * it + q ≤ b ∧ b < 12 * it + q + x then σ 20 (24 * w + i + (b - (12 * it + q))) else σ 1 b := fun b => by
          unfold wFR
          rw [r1, r20]
        obtain ⟨k1, k2, k3, k4⟩ := hwk
        refine ⟨fun j u v => ?_, fun j u v => by rw [ew, if_neg (by omega)]; exact k2 j u v, fun j u v => by rw [ew, if_neg (by omega)]; exact k3 j u v, fun j u v => by rw [ew, if_neg (by omega)]; exact k4 j u v⟩
        rw [ew]
        by_cases z : 12 * it + q ≤ j ∧ j < 12 * it + q + x
        · rw [if_pos z]
          have h9 := hb j z.1 z.2
          have h91 := h9.1
          have h92 := h9.2.1
          rw [← (h.2.2.1.2 (24 * w + i + (j - (12 * it + q))) (by omega) (by omega)).1]
          exact h9.2.2
        · rw [if_neg z]; exact k1 j u v
      · refine ⟨fun j u v => ?_, fun g u v => ?_, fun o u v => ⟨?_, ?_⟩⟩
        · unfold FRX wFR
          by_cases z : 12 * it + q ≤ j ∧ j < 12 * it + q + x
          · have h9 := hb j z.1 z.2
            have h91 := h9.1
            have h92 := h9.2.1
            rw [if_pos ⟨rfl, z⟩, if_pos z, r20]
            exact (h.2.2.1.2 (24 * w + i + (j - (12 * it + q))) (by omega) (by omega)).1
          · rw [if_neg (fun y => z y.2), if_neg z, r1]; exact hw0.2.1 j u v
        · show σ 110 g = wFR σ1 w i it q x (36 + g)
          unfold wFR
          rw [if_neg (by omega), r1]; exact hw0.2.2.1 g u v
        · show σ 111 o = wFR σ1 w i it q x (40 + o)
          unfold wFR
          rw [if_neg (by omega), r1]; exact (hw0.2.2.2 o u v).1
        · show σ 112 o = wFR σ1 w i it q x (64 + o)
          unfold wFR
          rw [if_neg (by omega), r1]; exact (hw0.2.2.2 o u v).2.1

/-! tape and shelves: all else stays -/
def FRH (ρ σ : St) : Prop := ∀ a, (83 ≤ a ∧ a ≤ 88) ∨ 106 ≤ a → ρ a = σ a
section FRs
variable {σ ρ : St}
theorem tS_F (e : FRH ρ σ) : tS ρ = tS σ := by
  unfold tS
  rw [e 107 (by omega)]
theorem kN_F (e : FRH ρ σ) (k : Int) : kN ρ k = kN σ k := by
  unfold kN
  rw [tS_F e, e (108 + 5 * tS σ k) (by omega)]
theorem SEQ_F (e : FRH ρ σ) (t : Nat) (f : Int → Int) (m : Int) : SEQ ρ t f m ↔ SEQ σ t f m := by
  unfold SEQ
  rw [e (109 + 5 * t) (by omega), e (110 + 5 * t) (by omega), e (111 + 5 * t) (by omega), e (112 + 5 * t) (by omega)]
theorem ASKD_F (e : FRH ρ σ) (f : Int → Int) (lo hi : Int) : ASKD ρ f lo hi ↔ ASKD σ f lo hi := by
  unfold ASKD
  rw [e 86 (by omega)]
theorem SOK_F (e : FRH ρ σ) (t : Nat) : SOK ρ t ↔ SOK σ t := by
  unfold SOK
  rw [e (108 + 5 * t) (by omega), e (109 + 5 * t) (by omega), e (110 + 5 * t) (by omega), e (111 + 5 * t) (by omega), e (112 + 5 * t) (by omega), e 83 (by omega)]
theorem XO_F (e : FRH ρ σ) (h : XO σ) : XO ρ := XO_c h (fun a b z => by rw [e a (by omega)])
theorem KS_F (e : FRH ρ σ) : KS ρ = KS σ := by
  have em : ∀ P, MEX ρ P ↔ MEX σ P := fun P => by
    unfold MEX LX
    rw [e 109 (by omega), e 83 (by omega), e 84 (by omega), e 85 (by omega), e 112 (by omega)]
  unfold KS KKX kdX
  rw [e 83 (by omega), e 88 (by omega), e 111 (by omega)]
  congr 2
  funext K o
  exact propext (em _)
theorem INV_fr (h : INV σ) (e : FRH ρ σ) (eb : ∀ a, (1 ≤ a ∧ a ≤ 8) ∨ a = 10 ∨ (22 ≤ a ∧ a < 46) → ρ a = σ a) (e0 : ρ 0 5 = σ 0 5 ∧ ρ 0 10 = σ 0 10 ∧ ρ 0 11 = σ 0 11 ∧ ρ 0 13 = σ 0 13) (e82 : ρ 82 = σ 82) (hT : JT ρ) (hS : JS ρ) : INV ρ := by
  obtain ⟨⟨a1, a2, a3, a4⟩, _, _, ⟨⟨d1, d2, d3, d4, d5, d6⟩, ⟨f1, f2, f3, f4⟩⟩, g1, k1⟩ := h
  obtain ⟨e5, e10, e11, e13⟩ := e0
  refine ⟨⟨?_, ?_, XO_F e a3, ?_⟩, hT, hS, ⟨?_, ?_⟩, ?_, ?_⟩
  · unfold NW
    rw [e 83 (by omega), e 84 (by omega), e 85 (by omega), e 87 (by omega), e 88 (by omega), e 109 (by omega), e 110 (by omega), e 111 (by omega), e 112 (by omega), e5, eb 1 (by omega), eb 2 (by omega), eb 3 (by omega), eb 4 (by omega), eb 5 (by omega)]
    exact a1
  · unfold RO
    rw [e5, eb 1 (by omega), eb 2 (by omega), eb 3 (by omega), eb 4 (by omega), eb 5 (by omega)]
    exact a2
  · rw [e5, eb 2 (by omega)]; exact a4
  · unfold JH0
    rw [e10, e11, e 106 (by omega), e 107 (by omega), eb 8 (by omega)]
    exact ⟨d1, d2, d3, d4, d5, d6⟩
  · unfold JHs
    rw [e10, e11, e5, tS_F e, kN_F e, SEQ_F e, ASKD_F e, eb 1 (by omega)]
    refine ⟨fun k a b => (SOK_F e _).mpr (f1 k a b), fun i a b => ?_, f3, f4⟩
    have := f2 i a b
    unfold JHi
    rw [kN_F e, kN_F e, tS_F e, SEQ_F e, SEQ_F e, ASKD_F e, eb 8 (by omega), eb (34 + i.toNat) (by omega), eb (22 + i.toNat) (by omega)]
    exact this
  · unfold JI
    rw [e82, e13, e5, SOK_F e, SEQ_F e, e (108 + 5 * 1) (by omega), eb 10 (by omega)]
    exact g1
  · unfold KOK
    rw [KS_F e, e82]
    exact k1
end FRs

theorem s_feed {σ σ1 σ2 : St} {v : Int} {x y : Int} (h : INV σ) (hx : ((fun x σ2 => (¬ (32 ≤ v ∧ v ≤ 126) ∧ x = -1 ∧ σ2 = σ) ∨ ((32 ≤ v ∧ v ≤ 126) ∧ σ 89 1 = 100 ∧ x = -3 ∧ σ2 = σ) ∨ ((32 ≤ v ∧ v ≤ 126) ∧ σ 89 1 ≠ 100 ∧ x = σ 89 1 + 1 ∧ σ2 = put (put σ 90 (σ 89 1) v) 89 1 (σ 89 1 + 1)))) x σ1) (hy : ((fun x σ2 => (¬ (32 ≤ v ∧ v ≤ 126) ∧ x = -1 ∧ σ2 = σ1) ∨ ((32 ≤ v ∧ v ≤ 126) ∧ σ1 0 18 = 100 ∧ x = -3 ∧ σ2 = σ1) ∨ ((32 ≤ v ∧ v ≤ 126) ∧ σ1 0 18 ≠ 100 ∧ x = σ1 0 18 + 1 ∧ σ2 = put (put σ1 12 (σ1 0 18) v) 0 18 (σ1 0 18 + 1)))) y σ2) : x = y ∧ INV σ2 := by
  obtain ⟨t1, t2, t3, t4⟩ := h.2.1
  rcases hx with ⟨a, b, e⟩ | ⟨a, a2, b, e⟩ | ⟨a, a2, b, e⟩
  · subst e
    rcases hy with ⟨c, d, e⟩ | ⟨c, _⟩ | ⟨c, _⟩
    · subst e; exact ⟨by omega, h⟩
    · exact absurd c a
    · exact absurd c a
  · subst e
    rcases hy with ⟨c, d, e⟩ | ⟨c, c2, d, e⟩ | ⟨c, c2, _⟩
    · exact absurd a c
    · subst e; exact ⟨by omega, h⟩
    · omega
  · have r18 : σ1 0 18 = σ 0 18 := by rw [e]; rfl
    rw [r18] at hy
    rcases hy with ⟨c, d, e2⟩ | ⟨c, c2, d, e2⟩ | ⟨c, c2, d, e2⟩
    · exact absurd a c
    · omega
    · have hs := h.2.2.1
      refine ⟨by omega, ?_⟩
      rw [e2, e, t1]
      refine INV_fr h (fun z y => ?_) (fun z y => ?_) ⟨rfl, rfl, rfl, rfl⟩ rfl ?_ hs
      · funext k
        rw [put_i (by omega), put_i (by omega), put_i (by omega), put_i (by omega)]
      · funext k
        rw [put_q (by omega), put_i (by omega), put_i (by omega), put_i (by omega)]
      · refine ⟨?_, ?_, fun j u u2 => ?_, fun k u u2 => ?_⟩
        · rfl
        · show 0 ≤ σ 0 18 + 1 ∧ σ 0 18 + 1 ≤ 100
          omega
        · have v2 : j < σ 0 18 + 1 := u2
          show put σ 90 (σ 0 18) v 90 j = put σ 12 (σ 0 18) v 12 j
          rw [put_e, put_e]
          by_cases z : j = σ 0 18
          · rw [if_pos z, if_pos z]
          · rw [if_neg z, if_neg z]; exact t3 j u (by omega)
        · show 0 ≤ put σ 90 (σ 0 18) v 90 k ∧ put σ 90 (σ 0 18) v 90 k ≤ 126
          rw [put_e]
          split
          · omega
          · exact t4 k u u2

theorem s_row {σ σ1 σ2 : St} {w n1 : Int} {x y : Int} (h : INV σ) (hx : ((fun x σ2 => (¬ ((0 ≤ w ∧ w < 4) ∧ n1 ≤ 24) ∧ x = -1 ∧ σ2 = σ) ∨ (((0 ≤ w ∧ w < 4) ∧ n1 ≤ 24) ∧ n1 < 0 ∧ x = -14 ∧ σ2 = σ) ∨ (((0 ≤ w ∧ w < 4) ∧ n1 ≤ 24) ∧ 0 ≤ n1 ∧ x = 1 ∧ σ2 = SLk σ w n1 24))) x σ1) (hy : ((fun x σ2 => (¬ ((0 ≤ w ∧ w ≤ 3) ∧ n1 ≤ 24) ∧ x = -1 ∧ σ2 = σ1) ∨ (((0 ≤ w ∧ w ≤ 3) ∧ n1 ≤ 24) ∧ n1 < 0 ∧ x = -14 ∧ σ2 = σ1) ∨ (((0 ≤ w ∧ w ≤ 3) ∧ n1 ≤ 24) ∧ 0 ≤ n1 ∧ x = 1 ∧ σ2 = RWk σ1 w n1 24))) y σ2) : x = y ∧ INV σ2 := by
  have hs := h.2.2.1.1
  rcases hx with ⟨a, b, e⟩ | ⟨a, a2, b, e⟩ | ⟨a, a2, b, e⟩
  · subst e
    rcases hy with ⟨c, d, e⟩ | ⟨c, _⟩ | ⟨c, _⟩
    · subst e; exact ⟨by omega, h⟩
    · omega
    · omega
  · subst e
    rcases hy with ⟨c, d, e⟩ | ⟨c, c2, d, e⟩ | ⟨c, c2, _⟩
    · omega
    · subst e; exact ⟨by omega, h⟩
    · omega
  · rcases hy with ⟨c, d, e2⟩ | ⟨c, c2, d, e2⟩ | ⟨c, c2, d, e2⟩
    · omega
    · omega
    · refine ⟨by omega, ?_⟩
      rw [e2, e]
      refine INV_fr h (fun z y => ?_) (fun z y => ?_) ⟨rfl, rfl, rfl, rfl⟩ rfl h.2.1 ?_
      · funext k
        unfold RWk
        rw [if_neg (by omega), put_i (by omega)]
        unfold SLk
        rw [if_neg (by omega), put_i (by omega)]
      · funext k
        unfold RWk
        rw [if_neg (by omega), put_i (by omega)]
        unfold SLk
        rw [if_neg (by omega), put_i (by omega)]
      · refine ⟨fun j u v => ?_, fun j u v => ?_⟩
        · show put σ 102 w n1 102 j = put σ 21 w n1 21 j ∧ -1 ≤ put σ 21 w n1 21 j ∧ put σ 21 w n1 21 j ≤ 24
          rw [put_e, put_e]
          by_cases z : j = w
          · rw [if_pos z, if_pos z]; omega
          · rw [if_neg z, if_neg z]; exact hs j u v
        · have e1 : RWk (SLk σ w n1 24) w n1 24 20 j = if 24 * w ≤ j ∧ j < 24 * w + 24 then 0 else σ 20 j := by
            unfold RWk
            by_cases z : 24 * w ≤ j ∧ j < 24 * w + 24
            · rw [if_pos ⟨rfl, z⟩, if_pos z]
            · rw [if_neg (fun y => z y.2), if_neg z]; rfl
          have e2 : RWk (SLk σ w n1 24) w n1 24 101 j = if 24 * w ≤ j ∧ j < 24 * w + 24 then 0 else σ 101 j := by
            show SLk σ w n1 24 101 j = _
            unfold SLk
            by_cases z : 24 * w ≤ j ∧ j < 24 * w + 24
            · rw [if_pos ⟨rfl, z⟩, if_pos z]
            · rw [if_neg (fun y => z y.2), if_neg z]; rfl
          rw [e1, e2]
          by_cases z : 24 * w ≤ j ∧ j < 24 * w + 24
          · rw [if_pos z, if_pos z]; exact ⟨rfl, by omega⟩
          · rw [if_neg z, if_neg z]; exact h.2.2.1.2 j u v
