/-! SPEC 3: a change, closed -/
theorem bsI {P : Int → Bool} {n : Int} (h : 0 ≤ n ∧ n ≤ 24) : 0 ≤ bsum P n ∧ bsum P n ≤ 2147483647 := by
  have h1 := bs_rng (P := P) h.1
  have h2 : pw n ≤ pw 24 := pw_le h.2
  have h3 : pw 24 = 16777216 := by decide
  omega
theorem bsJ {P : Int → Bool} {n : Int} (h : 0 ≤ n ∧ n ≤ 24) : 0 ≤ bsum P n ∧ bsum P n ≤ 16777215 := by
  have h1 := bs_rng (P := P) h.1
  have h2 : pw n ≤ pw 24 := pw_le h.2
  have h3 : pw 24 = 16777216 := by decide
  omega
/-- the place where a change is noted, the state as the kept ones stand then -/
def cgE (σ : St) : Int := if σ 0 11 = 12 then 11 else σ 0 11
def cgS (σ : St) : St := if σ 0 11 = 12 then SHk σ 12 else σ
/-- a change of the numbers to w, noted -/
def CG (σ : St) (w : Int → Int) : St := fun a b =>
  if a = 22 + (cgE σ).toNat ∧ 0 ≤ b ∧ b < 88 then σ 1 b
  else if a = 34 + (cgE σ).toNat ∧ 0 ≤ b ∧ b < 88 then w b
  else if a = 1 then w b
  else if a = 8 ∧ b = cgE σ then σ 0 5
  else if a = 0 ∧ (b = 10 ∨ b = 11) then cgE σ + 1
  else cgS σ a b
theorem scr_a {a : Nat} {b : Int} (h : scr a b = false) : a ≠ 9 := by
  intro e
  subst e
  cases h
theorem CH_at {ρ : St} {d : Int} (h : 0 ≤ d ∧ d < 12) (a : Nat) (b : Int) : CH ρ d a b =
    if a = 22 + d.toNat ∧ 0 ≤ b ∧ b < 88 then ρ 9 b else if a = 34 + d.toNat ∧ 0 ≤ b ∧ b < 88 then ρ 1 b else if a = 8 ∧ b = d then ρ 0 5 else if a = 0 ∧ (b = 10 ∨ b = 11) then d + 1 else ρ a b := by
  unfold CH
  by_cases h1 : a = 22 + d.toNat ∧ 0 ≤ b ∧ b < 88
  · rw [if_pos h1, put_q (by omega), put_q (by omega), put_q (by omega)]
    unfold cpy
    rw [if_neg (by omega), if_pos h1]
  · rw [if_neg h1]
    by_cases h2 : a = 34 + d.toNat ∧ 0 ≤ b ∧ b < 88
    · rw [if_pos h2, put_q (by omega), put_q (by omega), put_q (by omega)]
      unfold cpy
      rw [if_pos h2, if_neg (by omega)]
    · rw [if_neg h2]
      by_cases h3 : a = 8 ∧ b = d
      · rw [if_pos h3, put_q (by omega), put_q (by omega), h3.1, h3.2, put_s]
      · rw [if_neg h3]
        by_cases h4 : a = 0 ∧ (b = 10 ∨ b = 11)
        · rw [if_pos h4]
          by_cases h5 : b = 10
          · rw [h4.1, h5, put_s]
          · have h6 : b = 11 := by omega
            rw [h4.1, h6, put_q (by omega), put_s]
        · rw [if_neg h4, put_q (by omega), put_q (by omega), put_q h3]
          unfold cpy
          rw [if_neg h2, if_neg h1]
theorem CHG_CG {σ ρ : St} {w : Int → Int} (hd : 0 ≤ σ 0 11 ∧ σ 0 11 ≤ 12) (h9 : ∀ b, 0 ≤ b → b < 88 → ρ 9 b = σ 1 b) (h1 : ρ 1 = w) (ho : ∀ a b, a ≠ 1 → scr a b = false → ρ a b = σ a b) : CHG ρ = SC (CG σ w) (CHG ρ) := by
  have e11 : ρ 0 11 = σ 0 11 := ho 0 11 (by decide) rfl
  have e5 : ρ 0 5 = σ 0 5 := ho 0 5 (by decide) rfl
  funext a b
  cases hs : scr a b
  · rw [SC_n hs]
    unfold CHG
    by_cases q : ρ 0 11 = 12
    · have qs : σ 0 11 = 12 := by rw [← e11]; exact q
      have ee : cgE σ = 11 := if_pos qs
      have es : cgS σ = SHk σ 12 := if_pos qs
      rw [if_pos q, CH_at (by decide)]
      unfold CG
      rw [ee, es]
      have k9 : ∀ b, put (SHk ρ 12) 0 11 11 9 b = ρ 9 b := fun b => by
        rw [put_q (by omega)]
        unfold SHk
        rw [if_neg (by omega), if_neg (by omega), if_neg (by omega)]
      have k1 : ∀ b, put (SHk ρ 12) 0 11 11 1 b = ρ 1 b := fun b => by
        rw [put_q (by omega)]
        unfold SHk
        rw [if_neg (by omega), if_neg (by omega), if_neg (by omega)]
      have k5 : put (SHk ρ 12) 0 11 11 0 5 = ρ 0 5 := by
        rw [put_q (by omega)]
        unfold SHk
        rw [if_neg (by omega), if_neg (by omega), if_neg (by omega)]
      by_cases p1 : a = 22 + (11 : Int).toNat ∧ 0 ≤ b ∧ b < 88
      · rw [if_pos p1, if_pos p1, k9, h9 b p1.2.1 p1.2.2]
      · rw [if_neg p1, if_neg p1]
        by_cases p2 : a = 34 + (11 : Int).toNat ∧ 0 ≤ b ∧ b < 88
        · rw [if_pos p2, if_pos p2, k1, h1]
        · rw [if_neg p2, if_neg p2]
          by_cases p3 : a = 1
          · rw [if_neg (by omega), if_neg (by omega), if_pos p3, p3, k1, h1]
          · rw [if_neg p3]
            by_cases p4 : a = 8 ∧ b = 11
            · rw [if_pos p4, if_pos p4, k5, e5]
            · rw [if_neg p4, if_neg p4]
              by_cases p5 : a = 0 ∧ (b = 10 ∨ b = 11)
              · rw [if_pos p5, if_pos p5]
              · rw [if_neg p5, if_neg p5, put_q (by omega)]
                unfold SHk
                have n22 : ∀ (a' : Nat) (b' : Int), 22 ≤ a' → a' < 46 → scr a' b' = false := by
                  intro a' b' z1 z2
                  unfold scr
                  rw [if_neg (by omega), if_pos (by omega)]
                by_cases r1 : (22 ≤ a ∧ (a : Int) < 21 + 12) ∧ 0 ≤ b ∧ b < 88
                · rw [if_pos r1, if_pos r1, ho (a + 1) b (by omega) (n22 _ _ (by omega) (by omega))]
                · rw [if_neg r1, if_neg r1]
                  by_cases r2 : (34 ≤ a ∧ (a : Int) < 33 + 12 ∧ a < 46) ∧ 0 ≤ b ∧ b < 88
                  · rw [if_pos r2, if_pos r2, ho (a + 1) b (by omega) (n22 _ _ (by omega) (by omega))]
                  · rw [if_neg r2, if_neg r2]
                    by_cases r3 : a = 8 ∧ 0 ≤ b ∧ b < 12 - 1
                    · rw [if_pos r3, if_pos r3, ho 8 (b + 1) (by decide) rfl]
                    · rw [if_neg r3, if_neg r3, ho a b p3 hs]
    · have qs : ¬ σ 0 11 = 12 := by rw [← e11]; exact q
      have ee : cgE σ = σ 0 11 := if_neg qs
      have es : cgS σ = σ := if_neg qs
      rw [if_neg q, CH_at (by omega), e11, e5]
      unfold CG
      rw [ee, es]
      by_cases p1 : a = 22 + (σ 0 11).toNat ∧ 0 ≤ b ∧ b < 88
      · rw [if_pos p1, if_pos p1, h9 b p1.2.1 p1.2.2]
      · rw [if_neg p1, if_neg p1]
        by_cases p2 : a = 34 + (σ 0 11).toNat ∧ 0 ≤ b ∧ b < 88
        · rw [if_pos p2, if_pos p2, h1]
        · rw [if_neg p2, if_neg p2]
          by_cases p3 : a = 1
          · rw [if_neg (by omega), if_neg (by omega), if_pos p3, p3, h1]
          · rw [if_neg p3]
            by_cases p4 : a = 8 ∧ b = σ 0 11
            · rw [if_pos p4, if_pos p4]
            · rw [if_neg p4, if_neg p4]
              by_cases p5 : a = 0 ∧ (b = 10 ∨ b = 11)
              · rw [if_pos p5, if_pos p5]
              · rw [if_neg p5, if_neg p5, ho a b p3 hs]
  · rw [SC_y hs]
theorem CG_SC {σ τ τ' : St} {w : Int → Int} : SC (CG (SC σ τ) w) τ' = SC (CG σ w) τ' := by
  funext a b
  cases hs : scr a b
  · rw [SC_n hs, SC_n hs]
    have ee : cgE (SC σ τ) = cgE σ := rfl
    unfold CG
    rw [ee]
    have es : cgS (SC σ τ) a b = cgS σ a b := by
      unfold cgS
      have e11 : SC σ τ 0 11 = σ 0 11 := rfl
      rw [e11]
      by_cases q : σ 0 11 = 12
      · rw [if_pos q, if_pos q]
        unfold SHk
        have n22 : ∀ (a' : Nat) (b' : Int), 22 ≤ a' → a' < 46 → SC σ τ a' b' = σ a' b' := by
          intro a' b' z1 z2
          apply SC_n
          unfold scr
          rw [if_neg (by omega), if_pos (by omega)]
        by_cases r1 : (22 ≤ a ∧ (a : Int) < 21 + 12) ∧ 0 ≤ b ∧ b < 88
        · rw [if_pos r1, if_pos r1, n22 _ _ (by omega) (by omega)]
        · rw [if_neg r1, if_neg r1]
          by_cases r2 : (34 ≤ a ∧ (a : Int) < 33 + 12 ∧ a < 46) ∧ 0 ≤ b ∧ b < 88
          · rw [if_pos r2, if_pos r2, n22 _ _ (by omega) (by omega)]
          · rw [if_neg r2, if_neg r2]
            by_cases r3 : a = 8 ∧ 0 ≤ b ∧ b < 12 - 1
            · rw [if_pos r3, if_pos r3]; rfl
            · rw [if_neg r3, if_neg r3, SC_n hs]
      · rw [if_neg q, if_neg q, SC_n hs]
    rw [es]
    rfl
  · rw [SC_y hs, SC_y hs]
/-- what a change leaves: any place but these -/
theorem CG_o {σ : St} {w : Int → Int} {a : Nat} {b : Int} (h : ¬ (a = 1 ∨ a = 8 ∨ (22 ≤ a ∧ a < 46) ∨ (a = 0 ∧ (b = 10 ∨ b = 11)))) (hd : 0 ≤ σ 0 11 ∧ σ 0 11 ≤ 12) : CG σ w a b = σ a b := by
  have h0 : 0 ≤ cgE σ ∧ cgE σ < 12 := by unfold cgE; split <;> omega
  unfold CG
  rw [if_neg (by omega), if_neg (by omega), if_neg (by omega), if_neg (by omega), if_neg (by omega)]
  unfold cgS
  split
  · unfold SHk
    rw [if_neg (by omega), if_neg (by omega), if_neg (by omega)]
  · rfl
theorem CG_1 {σ : St} {w : Int → Int} : CG σ w 1 = w := by
  funext b
  unfold CG
  rw [if_neg (by omega), if_neg (by omega), if_pos rfl]
theorem CHG_o {σ : St} {a : Nat} {b : Int} (h : ¬ (a = 8 ∨ (22 ≤ a ∧ a < 46) ∨ (a = 0 ∧ (b = 10 ∨ b = 11)))) (hd : 0 ≤ σ 0 11 ∧ σ 0 11 ≤ 12) : CHG σ a b = σ a b := by
  unfold CHG
  split
  · rw [CH_at (by decide), if_neg (by omega), if_neg (by omega), if_neg (by omega), if_neg (by omega), put_q (by omega)]
    unfold SHk
    rw [if_neg (by omega), if_neg (by omega), if_neg (by omega)]
  · rw [CH_at (by omega), if_neg (by omega), if_neg (by omega), if_neg (by omega), if_neg (by omega)]
/-- those that are something -/
def TH (σ : St) (v : Int) : Int := bsum (fun o => decide (σ 1 (40 + o) = v)) (σ 0 5)
theorem up1_put {σ : St} {i : Nat} {k v : Int} : put σ i k v i = up1 (σ i) k v := by
  funext b
  rw [put_e]
  rfl
/-- the state before a change was begun, laid aside -/
theorem cpy19 {σ : St} {b : Int} (h0 : 0 ≤ b) (h1 : b < 88) : cpy σ 1 9 88 9 b = σ 1 b := if_pos ⟨rfl, h0, h1⟩
theorem cpy19o {σ : St} {a : Nat} {b : Int} (h : a ≠ 9) : cpy σ 1 9 88 a b = σ a b := if_neg (fun q => h q.1)
