set_option maxHeartbeats 4000000 in
theorem INV_ch {σ κ σ1 σ2 : St} {w : Int → Int} (h : INV σ) (hk : ∀ a b, scr a b = false → ¬ (109 ≤ a ∧ a ≤ 112) → κ a b = σ a b) (hX : XO κ) (hw : wOK w) (he : (∀ j, 0 ≤ j → j < 36 → κ 109 j = w j) ∧ (∀ g, 0 ≤ g → g < 4 → κ 110 g = w (36 + g)) ∧ ∀ o, 0 ≤ o → o < σ 0 5 → κ 111 o = w (40 + o) ∧ κ 112 o = w (64 + o)) (e1 : EQ σ1 (NCH κ)) (e2 : EQ σ2 (CG σ1 w)) : INV σ2 := by
  have hall := h
  obtain ⟨⟨a1, a2, a3, a4⟩, ⟨b1, b2, b3, b4⟩, ⟨q1, q2⟩, ⟨⟨d1, d2, d3, d4, d5, d6⟩, ⟨f1, f2, f3, f4⟩⟩, g1, _⟩ := h
  have hn := a1.1
  have hn24 := a2.1
  have hL : XL κ := XL_c (I_xl hall) (fun a b z => hk a b (scr_hi (by omega)) (by omega))
  have k106 : κ 106 1 = σ 0 11 := by rw [hk 106 1 (scr_hi (by omega)) (by omega)]; exact d2
  have k107 : ∀ b, κ 107 b = σ 107 b := fun b => hk 107 b (scr_hi (by omega)) (by omega)
  have k83 : κ 83 5 = σ 0 5 := by rw [hk 83 5 (scr_hi (by omega)) (by omega)]; exact hn
  have hTr := chT_rg hL
  -- the reference's cells ahead of its own step
  have r1 : ∀ a b, scr a b = false → a < 82 → σ1 a b = σ a b := fun a b x y => by rw [e1 a b x, NCH_o hL (by omega), hk a b x (by omega)]
  have s5 : σ1 0 5 = σ 0 5 := r1 0 5 rfl (by decide)
  have s11 : σ1 0 11 = σ 0 11 := r1 0 11 rfl (by decide)
  have sb : ∀ a : Nat, ((1 ≤ a ∧ a ≤ 8) ∨ a = 10 ∨ a = 12 ∨ (20 ≤ a ∧ a < 46)) → ∀ b, σ1 a b = σ a b := fun a x b => r1 a b (scr_b x) (by omega)
  have hd1 : 0 ≤ σ1 0 11 ∧ σ1 0 11 ≤ 12 := by omega
  obtain ⟨cE, c11, c10, c8, crow, c8o, crowo⟩ := CG_at (w := w) hd1
  have c2 : ∀ a b, scr a b = false → 46 ≤ a → σ2 a b = NCH κ a b := fun a b x y => by rw [e2 a b x, CG_o (by omega) hd1, e1 a b x]
  have c3 : ∀ a b, scr a b = false → 46 ≤ a → ¬ (a = 106 ∨ a = 107 ∨ 118 ≤ a ∨ (a = 82 ∧ b = 12)) → ¬ (109 ≤ a ∧ a ≤ 112) → σ2 a b = σ a b := fun a b x y z u => by rw [c2 a b x y, NCH_o hL z, hk a b x u]
  have c4 : ∀ a b, scr a b = false → a < 46 → ¬ (a = 1 ∨ a = 8 ∨ 22 ≤ a ∨ (a = 0 ∧ (b = 10 ∨ b = 11))) → σ2 a b = σ a b := fun a b x y z => by rw [e2 a b x, CG_o (by omega) hd1, r1 a b x (by omega)]
  have w1 : ∀ b, σ2 1 b = w b := fun b => by rw [e2 1 b rfl, CG_1]
  obtain ⟨E, hE⟩ : ∃ E, cgE σ1 = E := ⟨_, rfl⟩
  rw [hE] at cE c11 c10 c8 crow c8o crowo
  obtain ⟨s, hs⟩ : ∃ s : Int, (σ 0 11 = 12 ∧ s = 1 ∧ E = 11) ∨ (σ 0 11 ≠ 12 ∧ s = 0 ∧ E = σ 0 11) := by
    unfold cgE at hE
    rw [s11] at hE
    by_cases z : σ 0 11 = 12
    · rw [if_pos z] at hE
      exact ⟨1, Or.inl ⟨z, rfl, hE.symm⟩⟩
    · rw [if_neg z] at hE
      exact ⟨0, Or.inr ⟨z, rfl, hE.symm⟩⟩
  have hEs : E + s = σ 0 11 := by omega
  have n5 : σ2 0 5 = σ 0 5 := c4 0 5 rfl (by decide) (by omega)
  have n11 : σ2 0 11 = E + 1 := by rw [e2 0 11 rfl, c11]
  have n10 : σ2 0 10 = E + 1 := by rw [e2 0 10 rfl, c10]
  have n83 : σ2 83 5 = σ 83 5 := c3 83 5 rfl (by decide) (by omega) (by omega)
  have n8E : σ2 8 E = σ 0 5 := by rw [e2 8 E rfl, c8, s5]
  have f8 : ∀ i, 0 ≤ i → i < E → σ2 8 i = σ 8 (i + s) := fun i x y => by
    rw [e2 8 i rfl, c8o i x (by omega) (by omega), s11]
    by_cases z : σ 0 11 = 12
    · rw [if_pos z, sb 8 (by omega), show i + s = i + 1 by omega]
    · rw [if_neg z, sb 8 (by omega), show i + s = i by omega]
  have f22 : ∀ i, 0 ≤ i → i < E → ∀ b, 0 ≤ b → b < 88 → σ2 (22 + i.toNat) b = σ (22 + (i + s).toNat) b := fun i x y b p q => by
    rw [e2 _ b (scr_b (by omega)), (crowo i x y b p q).1, s11]
    by_cases z : σ 0 11 = 12
    · rw [if_pos z, sb _ (by omega), show i + s = i + 1 by omega]
    · rw [if_neg z, sb _ (by omega), show i + s = i by omega]
  have f34 : ∀ i, 0 ≤ i → i < E → ∀ b, 0 ≤ b → b < 88 → σ2 (34 + i.toNat) b = σ (34 + (i + s).toNat) b := fun i x y b p q => by
    rw [e2 _ b (scr_b (by omega)), (crowo i x y b p q).2, s11]
    by_cases z : σ 0 11 = 12
    · rw [if_pos z, sb _ (by omega), show i + s = i + 1 by omega]
    · rw [if_neg z, sb _ (by omega), show i + s = i by omega]
  have g22 : ∀ b, 0 ≤ b → b < 88 → σ2 (22 + E.toNat) b = σ 1 b := fun b p q => by rw [e2 _ b (scr_b (by omega)), (crow b p q).1, sb 1 (by omega)]
  have g34 : ∀ b, 0 ≤ b → b < 88 → σ2 (34 + E.toNat) b = w b := fun b p q => by rw [e2 _ b (scr_b (by omega)), (crow b p q).2]
  -- where states lie
  have t7 : ∀ k, 0 ≤ k → k < 13 → σ2 107 k = if σ 0 11 < 12 then σ 107 k else if k < 12 then σ 107 (k + 1) else σ 107 0 := fun k x y => by
    rw [c2 107 k (scr_hi (by omega)) (by decide), (NCH_7 hL).1, NT2_7 x y, k106, k107, k107, k107]
  have f107 : ∀ k, 0 ≤ k → k ≤ E → σ2 107 k = σ 107 (k + s) := fun k x y => by
    rw [t7 k x (by omega)]
    by_cases z : σ 0 11 < 12
    · rw [if_pos z, show k + s = k by omega]
    · rw [if_neg z, if_pos (by omega), show k + s = k + 1 by omega]
  have inj2 : ∀ j k, 0 ≤ j → j < 13 → 0 ≤ k → k < 13 → σ2 107 j = σ2 107 k → j = k := fun j k j0 j1 k0 k1 z => by
    rw [t7 j j0 j1, t7 k k0 k1] at z
    by_cases y : σ 0 11 < 12
    · rw [if_pos y, if_pos y] at z
      exact d5 j k j0 j1 k0 k1 z
    · rw [if_neg y, if_neg y] at z
      by_cases p : j < 12 <;> by_cases q : k < 12
      · rw [if_pos p, if_pos q] at z
        have := d5 (j + 1) (k + 1) (by omega) (by omega) (by omega) (by omega) z
        omega
      · rw [if_pos p, if_neg q] at z
        have := d5 (j + 1) 0 (by omega) (by omega) (by omega) (by omega) z
        omega
      · rw [if_neg p, if_pos q] at z
        have := d5 0 (k + 1) (by omega) (by omega) (by omega) (by omega) z
        omega
      · omega
  have r107 : ∀ k, 0 ≤ k → k < 13 → 2 ≤ σ2 107 k ∧ σ2 107 k ≤ 14 := fun k x y => by
    rw [t7 k x y]
    split
    · exact d4 k x y
    · split
      · exact d4 _ (by omega) (by omega)
      · exact d4 0 (by decide) (by decide)
  have n1061 : σ2 106 1 = E + 1 := by
    rw [c2 106 1 (scr_hi (by omega)) (by decide), (NCH_7 hL).2, NT_1, show put κ 82 12 0 106 1 = κ 106 1 from rfl, k106]
    split <;> omega
  have n1062 : σ2 106 2 = 0 := by
    rw [c2 106 2 (scr_hi (by omega)) (by decide), (NCH_7 hL).2]
    unfold NT2
    exact put_s
  have tT : tS σ2 (E + 1) = chT κ := by
    unfold tS chT
    rw [c2 107 (E + 1) (scr_hi (by omega)) (by decide), (NCH_7 hL).1, NT_1, show put κ 82 12 0 106 1 = κ 106 1 from rfl, k106]
    by_cases z : σ 0 11 < 12
    · rw [if_pos z, show E + 1 = σ 0 11 + 1 by omega]
    · rw [if_neg z, show E + 1 = σ 0 11 by omega]
  have tk : ∀ k, 0 ≤ k → k ≤ E → tS σ2 k = tS σ (k + s) := fun k x y => by
    unfold tS
    rw [f107 k x y]
  have tne : ∀ k, 0 ≤ k → k ≤ E → tS σ2 k ≠ chT κ := fun k x y z => by
    rw [← tT] at z
    unfold tS at z
    have p1 := r107 k x (by omega)
    have p2 := r107 (E + 1) (by omega) (by omega)
    have := inj2 k (E + 1) x (by omega) (by omega) (by omega) (by omega)
    omega
  have st2 : ∀ k, 0 ≤ k → k ≤ E → ∀ (a : Nat) (b : Int), 108 + 5 * tS σ2 k ≤ a ∧ a ≤ 112 + 5 * tS σ2 k → σ2 a b = σ a b := fun k x y a b z => by
    have p1 := r107 k x (by omega)
    have p2 : 2 ≤ tS σ2 k := by unfold tS; omega
    rw [c2 a b (scr_hi (by omega)) (by omega), NCH_st hL z (tne k x y), hk a b (scr_hi (by omega)) (by omega)]
  have kk : ∀ k, 0 ≤ k → k ≤ E → kN σ2 k = kN σ (k + s) := fun k x y => by
    unfold kN
    rw [st2 k x y _ 4 (by omega), tk k x y]
  have hkn : ∀ k, 0 ≤ k → k ≤ σ 0 10 → 0 ≤ kN σ k ∧ kN σ k ≤ σ 0 5 := fun k x y => by
    have := (f1 k x y).1
    rw [hn] at this
    exact this
  have new := NCH_new hL
  have tc : ∀ (a : Nat) (b : Int), 108 + 5 * chT κ ≤ a ∧ a ≤ 112 + 5 * chT κ → σ2 a b = NCH κ a b := fun a b z => c2 a b (scr_hi (by omega)) (by omega)
  have kE1 : kN σ2 (E + 1) = σ 0 5 := by
    unfold kN
    rw [tT, tc _ 4 (by omega), new.1, k83]
  have hSEQ : SEQ σ2 (tS σ2 (E + 1)) w (σ 0 5) := by
    rw [tT]
    refine ⟨fun j x y => ?_, fun g x y => ?_, fun o x y => ⟨?_, ?_⟩⟩
    · rw [tc _ j (by omega), new.2.1 j x y]; exact he.1 j x y
    · rw [tc _ g (by omega), new.2.2.1 g x y]; exact he.2.1 g x y
    · rw [tc _ o (by omega), (new.2.2.2 o x (by omega)).1]; exact (he.2.2 o x y).1
    · rw [tc _ o (by omega), (new.2.2.2 o x (by omega)).2]; exact (he.2.2 o x y).2
  have e86 : ∀ b, σ2 86 b = σ 86 b := fun b => c3 86 b (scr_hi (by omega)) (by decide) (by omega) (by omega)
  have ask86 : ∀ {f : Int → Int} {lo hi : Int}, ASKD σ f lo hi → ASKD σ2 f lo hi := fun z o x y => by rw [e86]; exact z o x y
  have hJHi : ∀ i, 0 ≤ i → i < E → JHi σ2 i := fun i x y => by
    obtain ⟨⟨p1, p2⟩, p3, p4, p5⟩ := f2 (i + s) (by omega) (by omega)
    have e8 := d6 (i + s) (by omega) (by omega)
    have hki := hkn (i + s) (by omega) (by omega)
    unfold JHi
    rw [kk (i + 1) (by omega) (by omega), kk i x (by omega), tk (i + 1) (by omega) (by omega), tk i x (by omega), f8 i x y, show i + 1 + s = i + s + 1 by omega]
    refine ⟨⟨p1, p2⟩, ?_, ?_, ?_⟩
    · refine SEQ_f (SEQ_s p3 (fun a b z => st2 (i + 1) (by omega) (by omega) a b (by rw [tk (i + 1) (by omega) (by omega), show i + 1 + s = i + s + 1 by omega]; exact z))) (by omega) (fun b u v => f34 i x y b u v)
    · exact SEQ_f (SEQ_s p4 (fun a b z => st2 i x (by omega) a b (by rw [tk i x (by omega)]; exact z))) (by omega) (fun b u v => f22 i x y b u v)
    · exact ASKD_f (ask86 p5) hki.1 (by omega) (fun b u v => f22 i x y b u v)
  have hd11 := hkn (σ 0 11) (by omega) (by omega)
  have hJHE : JHi σ2 E := by
    unfold JHi
    rw [kE1, n8E, kk E (by omega) (by omega), tk E (by omega) (by omega), hEs]
    refine ⟨⟨rfl, hd11.2⟩, SEQ_f hSEQ (by omega) g34, ?_, ?_⟩
    · exact SEQ_f (SEQ_s f3 (fun a b z => st2 E (by omega) (by omega) a b (by rw [tk E (by omega) (by omega), hEs]; exact z))) (by omega) g22
    · exact ASKD_f (ask86 f4) hd11.1 (by omega) g22
  have hwf : σ2 1 = w := funext w1
  have c3f : ∀ a, 83 ≤ a ∧ a ≤ 88 → σ2 a = σ a := fun a x => funext fun b => c3 a b (scr_hi (by omega)) (by omega) (by omega) (by omega)
  have c4f : ∀ a, (2 ≤ a ∧ a ≤ 5) ∨ a = 10 ∨ a = 12 ∨ a = 20 ∨ a = 21 → σ2 a = σ a := fun a x => funext fun b => c4 a b (scr_b (by omega)) (by omega) (by omega)
  have now : ∀ a b, 109 ≤ a ∧ a ≤ 112 → σ2 a b = κ a b := fun a b x => by rw [c2 a b (scr_hi (by omega)) (by omega), NCH_o hL (by omega)]
  have hXO : XO σ2 := XO_c hX (fun a b z => by
    rcases z with z | z | z
    · rw [c3f a (by omega), hk a b (scr_hi (by omega)) (by omega)]
    · rw [z.1, z.2, n83, hn, k83]
    · exact now a b z)
  refine ⟨⟨?_, ?_, hXO, ?_⟩, ?_, ?_, ⟨?_, ?_⟩, ?_, ?_⟩
  · -- the same numbers now
    refine ⟨by rw [n83, n5, hn], fun j x y => by rw [now 109 j (by omega), w1]; exact he.1 j x y, fun g x y => by rw [now 110 g (by omega), w1]; exact he.2.1 g x y, fun o x y => ?_⟩
    rw [n5] at y
    obtain ⟨_, _, m3, m4, m5, m6⟩ := a1.2.2.2 o x y
    rw [now 111 o (by omega), now 112 o (by omega), w1, w1, c3f 84 (by omega), c3f 85 (by omega), c3f 87 (by omega), c3f 88 (by omega), c4f 2 (by omega), c4f 3 (by omega), c4f 4 (by omega), c4f 5 (by omega)]
    exact ⟨(he.2.2 o x y).1, (he.2.2 o x y).2, m3, m4, m5, m6⟩
  · unfold RO
    rw [n5, hwf, c4f 2 (by omega), c4f 3 (by omega), c4f 4 (by omega), c4f 5 (by omega)]
    exact ⟨a2.1, hw, a2.2.2⟩
  · rw [n5, c4f 2 (by omega)]; exact a4
  · unfold JT
    rw [c4f 12 (by omega), c4 0 18 rfl (by decide) (by omega), c3 89 1 rfl (by decide) (by omega) (by omega), show σ2 90 = σ 90 from funext fun b => c3 90 b rfl (by decide) (by omega) (by omega)]
    exact ⟨b1, b2, b3, b4⟩
  · unfold JS
    rw [c4f 20 (by omega), c4f 21 (by omega), show σ2 101 = σ 101 from funext fun b => c3 101 b rfl (by decide) (by omega) (by omega), show σ2 102 = σ 102 from funext fun b => c3 102 b rfl (by decide) (by omega) (by omega)]
    exact ⟨q1, q2⟩
  · refine ⟨by omega, by omega, by omega, r107, inj2, fun k x y => ?_⟩
    rcases Int.lt_trichotomy k E with z | z | z
    · rw [f8 k x z]; exact d6 _ (by omega) (by omega)
    · rw [z, n8E]; exact hn24
    · rw [e2 8 k rfl, c8o k x y (by omega), s11, if_neg (by omega), sb 8 (by omega)]
      exact d6 k x y
  · refine ⟨fun k x y => ?_, fun i x y => ?_, ?_, ?_⟩
    · rw [n10] at y
      by_cases z : k ≤ E
      · refine SOK_s (σ := σ) ?_ (st2 k x z) (by rw [n83]; exact Int.le_refl _)
        rw [tk k x z]
        exact f1 _ (by omega) (by omega)
      · rw [show k = E + 1 by omega]
        have kE := kE1
        unfold kN at kE
        obtain ⟨h1, h2, h3⟩ := hSEQ
        refine ⟨by rw [kE, n83, hn]; omega, fun j p q => ?_, fun g p q => ?_, fun o p q => ?_⟩
        · rw [h1 j p q, ← he.1 j p q]; exact hX.2.1.1 j p q
        · rw [h2 g p q, ← he.2.1 g p q]; exact hX.2.1.2 g p q
        · rw [kE] at q
          rw [(h3 o p q).1, (h3 o p q).2, ← (he.2.2 o p q).1, ← (he.2.2 o p q).2]
          have := hX.2.2 o p (by rw [k83]; exact q)
          exact ⟨this.1, this.2.1⟩
    · rw [n10] at y
      by_cases z : i < E
      · exact hJHi i x z
      · rw [show i = E by omega]; exact hJHE
    · rw [n11, kE1, hwf]; exact hSEQ
    · rw [n11, kE1, n5]
      exact fun o x y => by omega
  · have t1 : ∀ (a : Nat) (b : Int), 113 ≤ a ∧ a ≤ 117 → σ2 a b = σ a b := fun a b x => c3 a b (scr_hi (by omega)) (by omega) (by omega) (by omega)
    rcases g1 with ⟨x, y⟩ | ⟨x, y, z, u, v⟩
    · exact Or.inl ⟨by rw [c3 82 10 rfl (by decide) (by omega) (by omega)]; exact x, by rw [c4 0 13 rfl (by decide) (by omega)]; exact y⟩
    · refine Or.inr ⟨by rw [c3 82 10 rfl (by decide) (by omega) (by omega)]; exact x, by rw [c4 0 13 rfl (by decide) (by omega), n5]; exact y, by rw [t1 _ 4 (by omega), c4 0 13 rfl (by decide) (by omega)]; exact z, ?_, ?_⟩
      · exact SOK_s u (fun a b p => t1 a b (by omega)) (by rw [n83]; exact Int.le_refl _)
      · rw [c4 0 13 rfl (by decide) (by omega), c4f 10 (by omega)]
        exact SEQ_s v (fun a b p => t1 a b (by omega))
  · -- what is kept is sought anew
    have e12 : σ2 82 12 = 0 := by
      rw [c2 82 12 rfl (by decide)]
      unfold NCH
      rw [NOTE_o (XL_c hL (fun a b z => put_q (by omega))) (by omega), put_s]
    exact ⟨Or.inl e12, fun z => by omega⟩
