theorem s_put {σ σ1 σ2 : St} {w i v : Int} {x y : Int} (hv : lR v) (h : INV σ) (hx : ((fun x σ2 => (¬ (0 ≤ w ∧ w < 4) ∧ x = -1 ∧ σ2 = σ) ∨ ((0 ≤ w ∧ w < 4) ∧ σ 102 w < 0 ∧ x = -11 ∧ σ2 = σ) ∨ ((0 ≤ w ∧ w < 4) ∧ 0 ≤ σ 102 w ∧ ¬ (0 ≤ i ∧ i < σ 102 w) ∧ x = -13 ∧ σ2 = σ) ∨ ((0 ≤ w ∧ w < 4) ∧ 0 ≤ σ 102 w ∧ (0 ≤ i ∧ i < σ 102 w) ∧ x = 1 ∧ σ2 = put σ 101 (24 * w + i) v))) x σ1) (hy : ((fun x σ2 => (¬ (0 ≤ w ∧ w ≤ 3) ∧ x = -1 ∧ σ2 = σ1) ∨ ((0 ≤ w ∧ w ≤ 3) ∧ σ1 21 w < 0 ∧ x = -11 ∧ σ2 = σ1) ∨ ((0 ≤ w ∧ w ≤ 3) ∧ 0 ≤ σ1 21 w ∧ ¬ (0 ≤ i ∧ i < σ1 21 w) ∧ x = -13 ∧ σ2 = σ1) ∨ ((0 ≤ w ∧ w ≤ 3) ∧ 0 ≤ σ1 21 w ∧ (0 ≤ i ∧ i < σ1 21 w) ∧ x = 1 ∧ σ2 = put σ1 20 (24 * w + i) v))) y σ2) : x = y ∧ INV σ2 := by
  have hs := h.2.2.1.1
  rcases hx with ⟨a, b, e⟩ | ⟨a, a2, b, e⟩ | ⟨a, a2, a3, b, e⟩ | ⟨a, a2, a3, b, e⟩
  · subst e
    rcases hy with ⟨c, d, e⟩ | ⟨c, _⟩ | ⟨c, _⟩ | ⟨c, _⟩
    · subst e; exact ⟨by omega, h⟩
    · omega
    · omega
    · omega
  · subst e
    have hsw := hs w a.1 a.2
    rcases hy with ⟨c, d, e⟩ | ⟨c, c2, d, e⟩ | ⟨c, c2, _⟩ | ⟨c, c2, _⟩
    · omega
    · subst e; exact ⟨by omega, h⟩
    · omega
    · omega
  · subst e
    have hsw := hs w a.1 a.2
    rcases hy with ⟨c, d, e⟩ | ⟨c, c2, d, e⟩ | ⟨c, c2, c3, d, e⟩ | ⟨c, c2, c3, _⟩
    · omega
    · omega
    · subst e; exact ⟨by omega, h⟩
    · omega
  · have hsw := hs w a.1 a.2
    have r21 : σ1 21 w = σ 21 w := by rw [e]; rfl
    rw [r21] at hy
    rcases hy with ⟨c, d, e2⟩ | ⟨c, c2, d, e2⟩ | ⟨c, c2, c3, d, e2⟩ | ⟨c, c2, c3, d, e2⟩
    · omega
    · omega
    · omega
    · refine ⟨by omega, ?_⟩
      rw [e2, e]
      refine INV_fr h (fun z y => ?_) (fun z y => ?_) ⟨rfl, rfl, rfl, rfl⟩ rfl h.2.1 ⟨fun j u u2 => hs j u u2, fun j u u2 => ?_⟩
      · funext k
        rw [put_i (by omega), put_i (by omega)]
      · funext k
        rw [put_i (by omega), put_i (by omega)]
      · show put σ 101 (24 * w + i) v 101 j = put (put σ 101 (24 * w + i) v) 20 (24 * w + i) v 20 j ∧ lR (put (put σ 101 (24 * w + i) v) 20 (24 * w + i) v 20 j)
        rw [put_e, put_e]
        by_cases z : j = 24 * w + i
        · rw [if_pos z, if_pos z]; exact ⟨rfl, hv⟩
        · rw [if_neg z, if_neg z]; exact h.2.2.1.2 j u u2

theorem s_lefts {σ σ1 σ2 : St} {w i : Int} {x y : Int} (h : INV σ) (hx : ((fun x σ2 => (¬ (0 ≤ w ∧ w < 4) ∧ x = -1 ∧ σ2 = σ) ∨ ((0 ≤ w ∧ w < 4) ∧ σ 102 w < 0 ∧ x = -11 ∧ σ2 = σ) ∨ ((0 ≤ w ∧ w < 4) ∧ 0 ≤ σ 102 w ∧ i < 0 ∧ x = -13 ∧ σ2 = σ) ∨ ((0 ≤ w ∧ w < 4) ∧ 0 ≤ σ 102 w ∧ 0 ≤ i ∧ x = max 0 (min 12 (σ 102 w - i)) ∧ σ2 = LTX σ w i x))) x σ1) (hy : ((fun x σ2 => (¬ (0 ≤ w ∧ w ≤ 3) ∧ x = -1 ∧ σ2 = σ1) ∨ ((0 ≤ w ∧ w ≤ 3) ∧ σ1 21 w < 0 ∧ x = -11 ∧ σ2 = σ1) ∨ ((0 ≤ w ∧ w ≤ 3) ∧ 0 ≤ σ1 21 w ∧ i < 0 ∧ x = -13 ∧ σ2 = σ1) ∨ ((0 ≤ w ∧ w ≤ 3) ∧ 0 ≤ σ1 21 w ∧ 0 ≤ i ∧ x = max 0 (min 12 (σ1 21 w - i)) ∧ ∃ τ, σ2 = SC (LTk σ1 w i x) τ))) y σ2) : x = y ∧ INV σ2 := by
  have hs := h.2.2.1.1
  rcases hx with ⟨a, b, e⟩ | ⟨a, a2, b, e⟩ | ⟨a, a2, a3, b, e⟩ | ⟨a, a2, a3, b, e⟩
  · subst e
    rcases hy with ⟨c, d, e⟩ | ⟨c, _⟩ | ⟨c, _⟩ | ⟨c, _⟩
    · subst e; exact ⟨by omega, h⟩
    · omega
    · omega
    · omega
  · subst e
    have hsw := hs w a.1 a.2
    rcases hy with ⟨c, d, e⟩ | ⟨c, c2, d, e⟩ | ⟨c, c2, _⟩ | ⟨c, c2, _⟩
    · omega
    · subst e; exact ⟨by omega, h⟩
    · omega
    · omega
  · subst e
    have hsw := hs w a.1 a.2
    rcases hy with ⟨c, d, e⟩ | ⟨c, c2, d, e⟩ | ⟨c, c2, c3, d, e⟩ | ⟨c, c2, c3, _⟩
    · omega
    · omega
    · subst e; exact ⟨by omega, h⟩
    · omega
  · have hsw := hs w a.1 a.2
    have r21 : σ1 21 w = σ 21 w := by rw [e]; unfold LTX; rw [if_neg (by omega)]
    rw [r21] at hy
    rcases hy with ⟨c, d, e2⟩ | ⟨c, c2, d, e2⟩ | ⟨c, c2, c3, d, e2⟩ | ⟨c, c2, c3, d, τ, e2⟩
    · omega
    · omega
    · omega
    · have exy : x = y := by rw [b, d, hsw.1]
      refine ⟨exy, ?_⟩
      rw [e2]
      refine INV_EQ ?_ EQ_SC
      rw [← exy, e]
      have hw0 := I_nw h
      have hj : ∀ j, 0 ≤ j → j ≤ 12 → LJX σ j = LJ (LTX σ w i x) j := fun j u u2 => by
        have hd := b_dm hw0 (b_tbT hw0 (I_ro h).1.1 1) j j j
        have q0 := b_sq hw0 (i := 0) (q := j) (by decide) ⟨u, u2⟩
        have q1 := b_sq hw0 (i := 1) (q := j) (by decide) ⟨u, u2⟩
        have q2 := b_sq hw0 (i := 2) (q := j) (by decide) ⟨u, u2⟩
        show sq (σ 109) 0 j + sq (σ 109) 1 j + sq (σ 109) 2 j - dm (σ 83 5) (σ 84) (σ 85) (σ 112) (kdX σ 1) j j j = sq (σ 1) 0 j + sq (σ 1) 1 j + sq (σ 1) 2 j - dm (σ 0 5) (σ 2) (σ 3) (fun o => σ 1 (64 + o)) (tb (TH σ 1)) j j j
        rw [q0, q1, q2, hd]
      have e101 : ∀ j, LTk (LTX σ w i x) w i x 101 j = if 24 * w + i ≤ j ∧ j < 24 * w + i + x then LJX σ (j - (24 * w + i) + 1) else σ 101 j := fun j => by
        unfold LTk
        rw [if_neg (by omega)]
        unfold LTX
        by_cases z : 24 * w + i ≤ j ∧ j < 24 * w + i + x
        · rw [if_pos ⟨rfl, z⟩, if_pos z]
        · rw [if_neg (fun y => z y.2), if_neg z]
      have e20 : ∀ j, LTk (LTX σ w i x) w i x 20 j = if 24 * w + i ≤ j ∧ j < 24 * w + i + x then LJ (LTX σ w i x) (j - (24 * w + i) + 1) else σ 20 j := fun j => by
        unfold LTk
        by_cases z : 24 * w + i ≤ j ∧ j < 24 * w + i + x
        · rw [if_pos ⟨rfl, z⟩, if_pos z]
        · rw [if_neg (fun y => z y.2), if_neg z]
          unfold LTX
          rw [if_neg (by omega)]
      have o9 : ∀ (a : Nat) (b : Int), a ≠ 101 → a ≠ 20 → LTk (LTX σ w i x) w i x a b = σ a b := fun a b u u2 => by
        unfold LTk
        rw [if_neg (fun z => u2 z.1)]
        unfold LTX
        rw [if_neg (fun z => u z.1)]
      refine INV_fr h (fun z y => funext fun k => o9 z k (by omega) (by omega)) (fun z y => funext fun k => o9 z k (by omega) (by omega)) ⟨o9 0 5 (by decide) (by decide), o9 0 10 (by decide) (by decide), o9 0 11 (by decide) (by decide), o9 0 13 (by decide) (by decide)⟩ (funext fun k => o9 82 k (by decide) (by decide)) ?_ ⟨fun j u u2 => ?_, fun j u u2 => ?_⟩
      · obtain ⟨t1, t2, t3, t4⟩ := h.2.1
        exact ⟨by rw [o9 89 1 (by decide) (by decide), o9 0 18 (by decide) (by decide)]; exact t1, by rw [o9 0 18 (by decide) (by decide)]; exact t2, fun j u u2 => by rw [o9 90 j (by decide) (by decide), o9 12 j (by decide) (by decide)]; rw [o9 0 18 (by decide) (by decide)] at u2; exact t3 j u u2, fun k u u2 => by rw [o9 90 k (by decide) (by decide)]; exact t4 k u u2⟩
      · rw [o9 102 j (by decide) (by decide), o9 21 j (by decide) (by decide)]; exact hs j u u2
      · rw [e101, e20]
        by_cases z : 24 * w + i ≤ j ∧ j < 24 * w + i + x
        · rw [if_pos z, if_pos z]
          have h9 := hj (j - (24 * w + i) + 1) (by omega) (by omega)
          refine ⟨h9, ?_⟩
          have hr := LJ_rng (σ := σ) (I_ro h) (j := j - (24 * w + i) + 1) (by omega) (by omega)
          have e9 : LJ (LTX σ w i x) (j - (24 * w + i) + 1) = LJ σ (j - (24 * w + i) + 1) := rfl
          rw [e9]
          omega
        · rw [if_neg z, if_neg z]; exact h.2.2.1.2 j u u2

theorem ASKD_m {σ : St} {f : Int → Int} {lo hi lo' : Int} (h : ASKD σ f lo hi) (hl : lo ≤ lo') : ASKD σ f lo' hi := fun o a b => h o (by omega) b
set_option maxHeartbeats 4000000 in
/-- a change undone or done again -/
theorem INV_lay {σ σ1 σ2 : St} {k m : Int} {f : Int → Int} (h : INV σ) (hk : 0 ≤ k ∧ k ≤ σ 0 10) (hm : kN σ k ≤ m ∧ m ≤ σ 0 5) (hf : SEQ σ (tS σ k) f (kN σ k)) (ha : ASKD σ f (kN σ k) m) (hb : ASKD σ (σ 1) m (σ 0 5)) (e1 : σ1 = LSX (put (put σ 106 1 k) 106 2 (σ 0 10 - k)) (tS σ k))
    (e2 : ∀ a b, scr a b = false → σ2 a b = if a = 0 ∧ b = 11 then k else if a = 1 ∧ ((0 ≤ b ∧ b < 40) ∨ (40 ≤ b ∧ b < 40 + m) ∨ (64 ≤ b ∧ b < 64 + m)) then f b else σ1 a b) : INV σ2 := by
  obtain ⟨⟨a1, a2, a3, a4⟩, ⟨b1, b2, b3, b4⟩, ⟨q1, q2⟩, ⟨⟨d1, d2, d3, d4, d5, d6⟩, ⟨f1, f2, f3, f4⟩⟩, g1, _⟩ := h
  have hn := a1.1
  have hn24 := a2.1
  have hsk := f1 k hk.1 hk.2
  have hK : 0 ≤ kN σ k := hsk.1.1
  have ht7 := d4 k hk.1 (by omega)
  have ht : 2 ≤ tS σ k ∧ tS σ k ≤ 14 := by unfold tS; omega
  obtain ⟨t, htt⟩ : ∃ t, tS σ k = t := ⟨_, rfl⟩
  obtain ⟨K, hKK⟩ : ∃ K, kN σ k = K := ⟨_, rfl⟩
  have hKt : σ (108 + 5 * t) 4 = K := by rw [← htt, ← hKK]; rfl
  rw [htt] at ht hsk hf e1
  rw [hKK] at hm hf ha hK
  obtain ⟨κ, hκ⟩ : ∃ κ, put (put σ 106 1 k) 106 2 (σ 0 10 - k) = κ := ⟨_, rfl⟩
  rw [hκ] at e1
  have kc : ∀ (a : Nat) (b : Int), a ≠ 106 → κ a b = σ a b := fun a b z => by rw [← hκ, put_i z, put_i z]
  have c5 : κ 83 5 = σ 0 5 := by rw [kc 83 5 (by decide), hn]
  have cK : κ (108 + 5 * t) 4 = K := by rw [kc _ 4 (by omega), hKt]
  have hXk : XO κ := XO_c a3 (fun a b z => kc a b (by omega))
  have hSk : SOK κ t := SOK_s hsk (fun a b z => kc a b (by omega)) (by rw [c5, hn]; exact Int.le_refl _)
  -- the class's cells
  have s1o : ∀ (a : Nat) (b : Int), ¬ (108 ≤ a ∧ a ≤ 112) → a ≠ 106 → ¬ (a = 82 ∧ b = 12) → σ1 a b = σ a b := fun a b x y z => by rw [e1, LSX_o x z, kc a b y]
  have s106 : ∀ b, σ1 106 b = κ 106 b := fun b => by rw [e1, LSX_o (by omega) (by omega)]
  have lat := fun b => LBX_at (σ := κ) (t := t) (b := b)
  have n109 : ∀ j, 0 ≤ j → j < 36 → σ1 109 j = f j := fun j x y => by
    rw [e1, show LSX κ t 109 j = LBX κ t 109 j from by unfold LSX TLD; rw [if_neg (by omega)], (lat j).1, if_pos ⟨x, y⟩, kc _ j (by omega)]
    exact hf.1 j x y
  have n110 : ∀ g, 0 ≤ g → g < 4 → σ1 110 g = f (36 + g) := fun g x y => by
    rw [e1, show LSX κ t 110 g = LBX κ t 110 g from by unfold LSX TLD; rw [if_neg (by omega)], (lat g).2.1, if_pos ⟨x, y⟩, kc _ g (by omega)]
    exact hf.2.1 g x y
  have n111 : ∀ o, 0 ≤ o → o < σ 0 5 → σ1 111 o = if o < K then f (40 + o) else 0 := fun o x y => by
    rw [e1, show LSX κ t 111 o = LBX κ t 111 o from by unfold LSX TLD; rw [if_neg (by omega)], (lat o).2.2.1, cK, c5]
    by_cases z : o < K
    · rw [if_neg (by omega), if_pos ⟨x, z⟩, if_pos z, kc _ o (by omega)]
      exact (hf.2.2 o x z).1
    · rw [if_pos (by omega), if_neg z]
  have n112 : ∀ o, 0 ≤ o → o < σ 0 5 → σ1 112 o = if o < K then f (64 + o) else σ 86 o := fun o x y => by
    rw [e1]
    unfold LSX TLD
    rw [cK, c5]
    by_cases z : o < K
    · rw [if_neg (by omega), (lat o).2.2.2, cK, if_pos ⟨x, z⟩, if_pos z, kc _ o (by omega)]
      exact (hf.2.2 o x z).2
    · rw [if_pos (by omega), if_neg z, kc 86 o (by decide)]
  -- the reference's
  have w1 : ∀ b, σ2 1 b = if (0 ≤ b ∧ b < 40) ∨ (40 ≤ b ∧ b < 40 + m) ∨ (64 ≤ b ∧ b < 64 + m) then f b else σ 1 b := fun b => by
    rw [e2 1 b rfl, if_neg (by omega)]
    by_cases z : (0 ≤ b ∧ b < 40) ∨ (40 ≤ b ∧ b < 40 + m) ∨ (64 ≤ b ∧ b < 64 + m)
    · rw [if_pos ⟨rfl, z⟩, if_pos z]
    · rw [if_neg (fun y => z y.2), if_neg z]
      exact s1o 1 b (by omega) (by decide) (by omega)
  have wk : ∀ o, 0 ≤ o → o < σ 0 5 → σ2 1 (40 + o) = (if o < K then f (40 + o) else 0) ∧ σ2 1 (64 + o) = if o < K then f (64 + o) else σ 86 o := fun o x y => by
    rw [w1 (40 + o), w1 (64 + o)]
    by_cases z : o < m
    · rw [if_pos (c := (0 ≤ 40 + o ∧ 40 + o < 40) ∨ (40 ≤ 40 + o ∧ 40 + o < 40 + m) ∨ (64 ≤ 40 + o ∧ 40 + o < 64 + m)) (by omega), if_pos (c := (0 ≤ 64 + o ∧ 64 + o < 40) ∨ (40 ≤ 64 + o ∧ 64 + o < 40 + m) ∨ (64 ≤ 64 + o ∧ 64 + o < 64 + m)) (by omega)]
      by_cases u : o < K
      · rw [if_pos u, if_pos u]; exact ⟨rfl, rfl⟩
      · rw [if_neg u, if_neg u]
        exact ha o (by omega) z
    · rw [if_neg (c := (0 ≤ 40 + o ∧ 40 + o < 40) ∨ (40 ≤ 40 + o ∧ 40 + o < 40 + m) ∨ (64 ≤ 40 + o ∧ 40 + o < 64 + m)) (by omega), if_neg (c := (0 ≤ 64 + o ∧ 64 + o < 40) ∨ (40 ≤ 64 + o ∧ 64 + o < 40 + m) ∨ (64 ≤ 64 + o ∧ 64 + o < 64 + m)) (by omega), if_neg (c := o < K) (by omega), if_neg (c := o < K) (by omega)]
      exact hb o (by omega) y
  have c2 : ∀ (a : Nat) (b : Int), scr a b = false → 2 ≤ a → σ2 a b = σ1 a b := fun a b x y => by rw [e2 a b x, if_neg (by omega), if_neg (by omega)]
  have c0 : ∀ b, scr 0 b = false → b ≠ 11 → σ2 0 b = σ 0 b := fun b x y => by rw [e2 0 b x, if_neg (fun z => y z.2), if_neg (by omega)]; exact s1o 0 b (by omega) (by decide) (by omega)
  have cf : ∀ a : Nat, (2 ≤ a ∧ a ≤ 8) ∨ a = 10 ∨ a = 12 ∨ (20 ≤ a ∧ a < 46) → σ2 a = σ a := fun a x => funext fun b => by rw [c2 a b (scr_b (by omega)) (by omega)]; exact s1o a b (by omega) (by omega) (by omega)
  have ch' : ∀ a : Nat, (83 ≤ a ∧ a ≤ 88) ∨ a = 107 ∨ 113 ≤ a → σ2 a = σ a := fun a x => funext fun b => by rw [c2 a b (scr_hi (by omega)) (by omega)]; exact s1o a b (by omega) (by omega) (by omega)
  have n5 : σ2 0 5 = σ 0 5 := c0 5 rfl (by decide)
  have n10 : σ2 0 10 = σ 0 10 := c0 10 rfl (by decide)
  have n13 : σ2 0 13 = σ 0 13 := c0 13 rfl (by decide)
  have n18 : σ2 0 18 = σ 0 18 := c0 18 rfl (by decide)
  have n11 : σ2 0 11 = k := by rw [e2 0 11 rfl, if_pos ⟨rfl, rfl⟩]
  have hXO : XO σ2 := XO_c (XO_LSX hXk hSk) (fun a b z => by rw [c2 a b (scr_hi (by omega)) (by omega), e1])
  have htS : ∀ j, tS σ2 j = tS σ j := fun j => by unfold tS; rw [ch' 107 (by omega)]
  have r7 : ∀ j, 0 ≤ j → j ≤ σ 0 10 → 2 ≤ tS σ j := fun j x y => by have := d4 j x (by omega); unfold tS; omega
  have hst : ∀ j, 0 ≤ j → j ≤ σ 0 10 → ∀ (a : Nat) (b : Int), 108 + 5 * tS σ j ≤ a ∧ a ≤ 112 + 5 * tS σ j → σ2 a b = σ a b := fun j x y a b z => by
    have := r7 j x y
    rw [ch' a (by omega)]
  have hkN : ∀ j, 0 ≤ j → j ≤ σ 0 10 → kN σ2 j = kN σ j := fun j x y => by
    unfold kN
    rw [htS, hst j x y _ 4 (by omega)]
  have e86 : σ2 86 = σ 86 := ch' 86 (by omega)
  have hwOK : wOK (σ2 1) := by
    obtain ⟨p1, p2, p3, p4⟩ := a2.2.1
    obtain ⟨s1, s2, s3, s4⟩ := hsk
    rw [hKt] at s1 s4
    refine ⟨fun j x y => ?_, fun j x y => ?_, fun j x y => ?_, fun j x y => ?_⟩
    · rw [w1, if_pos (by omega), ← hf.1 j x y]; exact s2 j x y
    · have := hf.2.1 (j - 36) (by omega) (by omega)
      rw [show 36 + (j - 36) = j by omega] at this
      rw [w1, if_pos (by omega), ← this]; exact s3 _ (by omega) (by omega)
    · by_cases z : j - 40 < σ 0 5
      · have := (wk (j - 40) (by omega) z).1
        rw [show 40 + (j - 40) = j by omega] at this
        rw [this]
        by_cases u : j - 40 < K
        · have h9 := (hf.2.2 (j - 40) (by omega) u).1
          rw [show 40 + (j - 40) = j by omega] at h9
          rw [if_pos u, ← h9]; exact (s4 _ (by omega) u).1
        · rw [if_neg u]; omega
      · rw [w1, if_neg (by omega)]; exact p3 j x y
    · by_cases z : j - 64 < σ 0 5
      · have := (wk (j - 64) (by omega) z).2
        rw [show 64 + (j - 64) = j by omega] at this
        rw [this]
        by_cases u : j - 64 < K
        · have h9 := (hf.2.2 (j - 64) (by omega) u).2
          rw [show 64 + (j - 64) = j by omega] at h9
          rw [if_pos u, ← h9]; exact (s4 _ (by omega) u).2
        · rw [if_neg u]
          exact (a3.2.2 (j - 64) (by omega) (by omega)).2.2.2.2.1
      · rw [w1, if_neg (by omega)]; exact p4 j x y
  refine ⟨⟨?_, ?_, hXO, ?_⟩, ?_, ?_, ⟨?_, ?_⟩, ?_, ?_⟩
  · refine ⟨by rw [ch' 83 (by omega), n5, hn], fun j x y => ?_, fun g x y => ?_, fun o x y => ?_⟩
    · rw [c2 109 j (scr_hi (by omega)) (by decide), n109 j x y, w1, if_pos (by omega)]
    · rw [c2 110 g (scr_hi (by omega)) (by decide), n110 g x y, w1, if_pos (by omega)]
    · rw [n5] at y
      obtain ⟨_, _, m3, m4, m5, m6⟩ := a1.2.2.2 o x y
      rw [c2 111 o (scr_hi (by omega)) (by decide), c2 112 o (scr_hi (by omega)) (by decide), n111 o x y, n112 o x y, (wk o x y).1, (wk o x y).2, ch' 84 (by omega), ch' 85 (by omega), ch' 87 (by omega), ch' 88 (by omega), cf 2 (by omega), cf 3 (by omega), cf 4 (by omega), cf 5 (by omega)]
      exact ⟨rfl, rfl, m3, m4, m5, m6⟩
  · unfold RO
    rw [n5, cf 2 (by omega), cf 3 (by omega), cf 4 (by omega), cf 5 (by omega)]
    exact ⟨a2.1, hwOK, a2.2.2⟩
  · rw [n5, cf 2 (by omega)]; exact a4
  · unfold JT
    rw [n18, cf 12 (by omega), show σ2 89 1 = σ 89 1 from by rw [c2 89 1 rfl (by decide)]; exact s1o 89 1 (by omega) (by decide) (by omega), show σ2 90 = σ 90 from funext fun b => by rw [c2 90 b rfl (by decide)]; exact s1o 90 b (by omega) (by decide) (by omega)]
    exact ⟨b1, b2, b3, b4⟩
  · unfold JS
    rw [cf 20 (by omega), cf 21 (by omega), show σ2 101 = σ 101 from funext fun b => by rw [c2 101 b rfl (by decide)]; exact s1o 101 b (by omega) (by decide) (by omega), show σ2 102 = σ 102 from funext fun b => by rw [c2 102 b rfl (by decide)]; exact s1o 102 b (by omega) (by decide) (by omega)]
    exact ⟨q1, q2⟩
  · have m1 : σ2 106 1 = k := by rw [c2 106 1 (scr_hi (by omega)) (by decide), s106, ← hκ, put_k (by decide), put_s]
    have m2 : σ2 106 2 = σ 0 10 - k := by rw [c2 106 2 (scr_hi (by omega)) (by decide), s106, ← hκ, put_s]
    unfold JH0
    rw [n10, n11, m1, m2, ch' 107 (by omega), cf 8 (by omega)]
    exact ⟨by omega, rfl, rfl, d4, d5, d6⟩
  · refine ⟨fun j x y => ?_, fun i x y => ?_, ?_, ?_⟩
    · rw [n10] at y
      rw [htS]
      exact SOK_s (f1 j x y) (hst j x y) (by rw [ch' 83 (by omega)]; exact Int.le_refl _)
    · rw [n10] at y
      obtain ⟨p1, p3, p4, p5⟩ := f2 i x y
      unfold JHi
      rw [hkN (i + 1) (by omega) (by omega), hkN i x (by omega), htS, htS, cf 8 (by omega), cf (34 + i.toNat) (by omega), cf (22 + i.toNat) (by omega)]
      refine ⟨p1, SEQ_s p3 (hst (i + 1) (by omega) (by omega)), SEQ_s p4 (hst i x (by omega)), ?_⟩
      unfold ASKD
      rw [e86]
      exact p5
    · rw [n11, htS, hkN k hk.1 hk.2, htt, hKK]
      have h9 : SEQ σ2 t f K := SEQ_s hf (fun a b z => hst k hk.1 hk.2 a b (by rw [htt]; exact z))
      obtain ⟨u1, u2, u3⟩ := h9
      refine ⟨fun j x y => by rw [u1 j x y, w1, if_pos (by omega)], fun g x y => by rw [u2 g x y, w1, if_pos (by omega)], fun o x y => ?_⟩
      have h8 := wk o x (by omega)
      rw [if_pos y, if_pos y] at h8
      rw [h8.1, h8.2]
      exact u3 o x y
    · rw [n11, hkN k hk.1 hk.2, n5, hKK]
      intro o x y
      have h8 := wk o (by omega) y
      rw [if_neg (by omega), if_neg (by omega)] at h8
      rw [h8.1, h8.2, e86]
      exact ⟨rfl, rfl⟩
  · unfold JI
    rw [show σ2 82 10 = σ 82 10 from by rw [c2 82 10 rfl (by decide)]; exact s1o 82 10 (by omega) (by decide) (by omega), n13, n5, ch' (108 + 5 * 1) (by omega), cf 10 (by omega)]
    rcases g1 with x | ⟨x, y, z, u, v⟩
    · exact Or.inl x
    · exact Or.inr ⟨x, y, z, SOK_s u (fun a b p => by rw [ch' a (by omega)]) (by rw [ch' 83 (by omega)]; exact Int.le_refl _), SEQ_s v (fun a b p => by rw [ch' a (by omega)])⟩
  · have e12 : σ2 82 12 = 0 := by
      rw [c2 82 12 rfl (by decide), e1]
      unfold LSX TLD
      rw [if_neg (by omega)]
      exact put_s
    exact ⟨Or.inl e12, fun z => by omega⟩

theorem s_undo {σ σ1 σ2 : St} {x y : Int} (h : INV σ) (hx : ((fun x σ2 => (σ 106 1 = 0 ∧ x = -5 ∧ σ2 = σ) ∨ (σ 106 1 ≠ 0 ∧ x = σ 106 1 - 1 ∧ σ2 = LSX (put (put σ 106 1 (σ 106 1 - 1)) 106 2 (σ 106 2 + 1)) (σ 107 (σ 106 1 - 1)).toNat))) x σ1) (hy : ((fun x σ2 => (σ1 0 11 = 0 ∧ x = -5 ∧ σ2 = σ1) ∨ (σ1 0 11 ≠ 0 ∧ x = σ1 0 11 - 1 ∧ σ2 = LB (put σ1 0 11 (σ1 0 11 - 1)) (22 + (σ1 0 11 - 1).toNat) (max 0 (σ1 8 (σ1 0 11 - 1)))))) y σ2) : x = y ∧ INV σ2 := by
  have hall := h
  have d1 := h.2.2.2.1.1.1
  have d2 := h.2.2.2.1.1.2.1
  have d3 := h.2.2.2.1.1.2.2.1
  have d6 := h.2.2.2.1.1.2.2.2.2.2
  rcases hx with ⟨a, b, e⟩ | ⟨a, b, e⟩
  · subst e
    rcases hy with ⟨c, d, e⟩ | ⟨c, _⟩
    · subst e; exact ⟨by omega, h⟩
    · omega
  · have s1o : ∀ (a : Nat) (b : Int), a < 82 → σ1 a b = σ a b := fun a b z => by rw [e, LSX_o (by omega) (by omega), put_i (by omega), put_i (by omega)]
    rw [s1o 0 11 (by decide)] at hy
    rcases hy with ⟨c, _⟩ | ⟨c, d, e9⟩
    · omega
    · refine ⟨by omega, ?_⟩
      have f1 := h.2.2.2.1.2.1
      have f2 := h.2.2.2.1.2.2.1 (σ 0 11 - 1) (by omega) (by omega)
      have f4 := h.2.2.2.1.2.2.2.2
      have h8 := d6 (σ 0 11 - 1) (by omega) (by omega)
      obtain ⟨⟨p1, p2⟩, p3, p4, p5⟩ := f2
      rw [show σ 0 11 - 1 + 1 = σ 0 11 by omega] at p1
      have hkn := (f1 (σ 0 11) (by omega) (by omega)).1
      have hn := (I_nw h).1
      have hkn2 : kN σ (σ 0 11) ≤ σ 0 5 := by have := hkn.2; rw [hn] at this; exact this
      refine INV_lay hall (σ1 := σ1) (k := σ 0 11 - 1) (m := σ 8 (σ 0 11 - 1)) (f := σ (22 + (σ 0 11 - 1).toNat)) (by omega) ⟨p2, by omega⟩ p4 p5 (by rw [← p1]; exact f4) (by rw [e, d2, d3, show σ 0 10 - σ 0 11 + 1 = σ 0 10 - (σ 0 11 - 1) by omega]; rfl) (fun a b x => ?_)
      have e8 : σ1 8 (σ 0 11 - 1) = σ 8 (σ 0 11 - 1) := s1o 8 _ (by decide)
      rw [e9, e8, show max 0 (σ 8 (σ 0 11 - 1)) = σ 8 (σ 0 11 - 1) by omega]
      unfold LB
      by_cases z : a = 0 ∧ b = 11
      · rw [if_neg (by omega), if_pos z, z.1, z.2, put_s]
      · rw [if_neg z]
        by_cases y : a = 1 ∧ ((0 ≤ b ∧ b < 40) ∨ (40 ≤ b ∧ b < 40 + σ 8 (σ 0 11 - 1)) ∨ (64 ≤ b ∧ b < 64 + σ 8 (σ 0 11 - 1)))
        · rw [if_pos y, if_pos y, put_i (by omega)]; exact s1o _ b (by omega)
        · rw [if_neg y, if_neg y, put_q z]

theorem s_redo {σ σ1 σ2 : St} {x y : Int} (h : INV σ) (hx : ((fun x σ2 => (σ 106 2 = 0 ∧ x = -5 ∧ σ2 = σ) ∨ (σ 106 2 ≠ 0 ∧ x = σ 106 2 - 1 ∧ σ2 = LSX (put (put σ 106 1 (σ 106 1 + 1)) 106 2 (σ 106 2 - 1)) (σ 107 (σ 106 1 + 1)).toNat))) x σ1) (hy : ((fun x σ2 => (σ1 0 11 = σ1 0 10 ∧ x = -5 ∧ σ2 = σ1) ∨ (σ1 0 11 ≠ σ1 0 10 ∧ x = σ1 0 10 - (σ1 0 11 + 1) ∧ σ2 = put (LB σ1 (34 + (σ1 0 11).toNat) (max 0 (σ1 8 (σ1 0 11)))) 0 11 (σ1 0 11 + 1)))) y σ2) : x = y ∧ INV σ2 := by
  have hall := h
  have d1 := h.2.2.2.1.1.1
  have d2 := h.2.2.2.1.1.2.1
  have d3 := h.2.2.2.1.1.2.2.1
  have d6 := h.2.2.2.1.1.2.2.2.2.2
  rcases hx with ⟨a, b, e⟩ | ⟨a, b, e⟩
  · subst e
    rcases hy with ⟨c, d, e⟩ | ⟨c, _⟩
    · subst e; exact ⟨by omega, h⟩
    · omega
  · have s1o : ∀ (a : Nat) (b : Int), a < 82 → σ1 a b = σ a b := fun a b z => by rw [e, LSX_o (by omega) (by omega), put_i (by omega), put_i (by omega)]
    rw [s1o 0 11 (by decide), s1o 0 10 (by decide)] at hy
    rcases hy with ⟨c, _⟩ | ⟨c, d, e9⟩
    · omega
    · refine ⟨by omega, ?_⟩
      have f1 := h.2.2.2.1.2.1
      have f2 := h.2.2.2.1.2.2.1 (σ 0 11) (by omega) (by omega)
      have f4 := h.2.2.2.1.2.2.2.2
      have h8 := d6 (σ 0 11) (by omega) (by omega)
      obtain ⟨⟨p1, p2⟩, p3, p4, p5⟩ := f2
      have hkn := (f1 (σ 0 11 + 1) (by omega) (by omega)).1
      have hn := (I_nw h).1
      have hkn2 : kN σ (σ 0 11 + 1) ≤ σ 0 5 := by have := hkn.2; rw [hn] at this; exact this
      refine INV_lay hall (σ1 := σ1) (k := σ 0 11 + 1) (m := σ 8 (σ 0 11)) (f := σ (34 + (σ 0 11).toNat)) (by omega) ⟨by omega, by omega⟩ (by rw [p1]; exact p3) (fun o x y => by omega) (ASKD_m f4 p2) (by rw [e, d2, d3, show σ 0 10 - σ 0 11 - 1 = σ 0 10 - (σ 0 11 + 1) by omega]; rfl) (fun a b x => ?_)
      have e8 : σ1 8 (σ 0 11) = σ 8 (σ 0 11) := s1o 8 _ (by decide)
      rw [e9, e8, show max 0 (σ 8 (σ 0 11)) = σ 8 (σ 0 11) by omega]
      by_cases z : a = 0 ∧ b = 11
      · rw [if_pos z, z.1, z.2, put_s]
      · rw [put_q z, if_neg z]
        unfold LB
        by_cases y : a = 1 ∧ ((0 ≤ b ∧ b < 40) ∨ (40 ≤ b ∧ b < 40 + σ 8 (σ 0 11)) ∨ (64 ≤ b ∧ b < 64 + σ 8 (σ 0 11)))
        · rw [if_pos y, if_pos y]; exact s1o _ b (by omega)
        · rw [if_neg y, if_neg y]
