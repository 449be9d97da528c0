/-! the class's methods leave the reference's numbers -/
def LQ (ρ σ : St) : Prop := ∀ (a : Nat) (b : Int), a < 82 → scr a b = false → ρ a b = σ a b
theorem LQ_r {σ : St} : LQ σ σ := fun _ _ _ _ => rfl
theorem LQ_o {ρ σ : St} (h : ∀ (a : Nat) (b : Int), a < 82 → ρ a b = σ a b) : LQ ρ σ := fun a b ha _ => h a b ha
theorem LQ_EQ {ρ κ σ : St} (h : EQ ρ κ) (h2 : LQ κ σ) : LQ ρ σ := fun a b ha hs => (h a b hs).trans (h2 a b ha hs)
theorem LQ_EQK {ρ σ : St} (h : EQK ρ σ) : LQ ρ σ := fun a b ha hs => h a b hs (by omega)
theorem NT2_lo {σ : St} {a : Nat} {b : Int} (ha : a < 82) : NT2 σ a b = σ a b := by
  unfold NT2 NT1
  rw [put_i (by omega)]
  split
  · rw [put_i (by omega)]
  · unfold DROP
    rw [if_neg (by omega), if_neg (by omega)]
theorem NCH_lo {σ : St} {a : Nat} {b : Int} (ha : a < 82) : NCH σ a b = σ a b := by
  unfold NCH NOTE
  rw [CPY_o (by omega), NT2_lo ha, put_i (by omega)]
theorem LQ_NCH {κ σ : St} (h : LQ κ σ) : LQ (NCH κ) σ := fun a b ha hs => (NCH_lo ha).trans (h a b ha hs)
theorem LQ_put {κ σ : St} {i : Nat} {k v : Int} (hi : 82 ≤ i) (h : LQ κ σ) : LQ (put κ i k v) σ := fun a b ha hs => (put_i (by omega)).trans (h a b ha hs)
theorem LQ_CPY {κ σ : St} {t u : Nat} {n : Int} (h : LQ κ σ) : LQ (CPY κ t u n) σ := fun a b ha hs => (CPY_o (by omega)).trans (h a b ha hs)
theorem LQ_LBX {κ σ : St} {t : Nat} (h : LQ κ σ) : LQ (LBX κ t) σ := fun a b ha hs => (LBX_o (by omega) (by omega)).trans (h a b ha hs)
theorem LQ_LSX {κ σ : St} {t : Nat} (h : LQ κ σ) : LQ (LSX κ t) σ := fun a b ha hs => (LSX_o (by omega) (by omega)).trans (h a b ha hs)
theorem LQ_PX {σ : St} {K : Int → Bool} : LQ (PX σ K) σ := LQ_o fun a b ha => PX_o (by omega)
theorem LQ_LY {σ : St} {B : Int} : LQ (LY σ B) σ := LQ_o fun a b ha => by
  unfold LY RW UPk
  rw [if_neg (by omega), if_neg (by omega)]
theorem LQ_SLk {σ : St} {w n k : Int} : LQ (SLk σ w n k) σ := LQ_o fun a b ha => by
  unfold SLk
  rw [if_neg (by omega), put_i (by omega)]
theorem LQ_FRX {σ : St} {w i it q n : Int} : LQ (FRX σ w i it q n) σ := LQ_o fun a b ha => by
  unfold FRX
  rw [if_neg (by omega)]
theorem LQ_LTX {σ : St} {w i n : Int} : LQ (LTX σ w i n) σ := LQ_o fun a b ha => by
  unfold LTX
  rw [if_neg (by omega)]
theorem LQ_BF {σ ρ : St} {n : Int} (h : BF σ ρ n) : LQ ρ σ := LQ_o fun a b ha => h a b (by omega) (by omega)
theorem LQ_ASK {κ σ : St} {lo hi : Int} (h : LQ κ σ) : LQ (ASK κ lo hi) σ := fun a b ha hs => (ASK_o (by omega)).trans (h a b ha hs)
section LQs
variable {σ ρ : St}
theorem LQ_b (h : LQ ρ σ) {a : Nat} (ha : (1 ≤ a ∧ a ≤ 8) ∨ a = 10 ∨ a = 12 ∨ (20 ≤ a ∧ a < 46)) : ρ a = σ a := funext fun b => h a b (by omega) (scr_b ha)
theorem LQ_0n (h : LQ ρ σ) {b : Int} (hb : b = 5 ∨ b = 10 ∨ b = 11 ∨ b = 13 ∨ b = 18) : ρ 0 b = σ 0 b := by
  rcases hb with rfl | rfl | rfl | rfl | rfl <;> exact h 0 _ (by decide) rfl
theorem F_ro (h : INV σ) (e : LQ ρ σ) : RO ρ := by
  unfold RO
  rw [LQ_0n e (by omega), LQ_b e (a := 1) (by omega), LQ_b e (a := 2) (by omega), LQ_b e (a := 3) (by omega), LQ_b e (a := 4) (by omega), LQ_b e (a := 5) (by omega)]
  exact I_ro h
theorem F_hd (h : INV σ) (e : LQ ρ σ) : 0 ≤ ρ 0 11 ∧ ρ 0 11 ≤ 12 := by rw [LQ_0n e (by omega)]; exact I_hd h
theorem F_hd2 (h : INV σ) (e : LQ ρ σ) : 0 ≤ ρ 0 11 ∧ ρ 0 11 ≤ ρ 0 10 ∧ ρ 0 10 ≤ 12 := by rw [LQ_0n e (b := 11) (by omega), LQ_0n e (b := 10) (by omega)]; exact h.2.2.2.1.1.1
theorem F_hn (h : INV σ) (e : LQ ρ σ) : 0 ≤ ρ 0 5 ∧ ρ 0 5 ≤ 24 := by rw [LQ_0n e (by omega)]; exact (I_ro h).1
theorem F_hz (h : INV σ) (e : LQ ρ σ) : 0 ≤ ρ 0 18 ∧ ρ 0 18 ≤ 100 := by rw [LQ_0n e (by omega)]; exact h.2.1.2.1
theorem F_ht (h : INV σ) (e : LQ ρ σ) : ∀ j, 0 ≤ j → j < ρ 0 18 → 0 ≤ ρ 12 j ∧ ρ 12 j ≤ 126 := fun j h1 h2 => by
  rw [LQ_0n e (by omega)] at h2
  have h3 := h.2.1.2.2.1 j h1 h2
  have h4 := h.2.1.2.1
  have h5 := h.2.1.2.2.2 j h1 (by omega)
  rw [LQ_b e (a := 12) (by omega), ← h3]
  exact h5
theorem F_hs (h : INV σ) (e : LQ ρ σ) : ∀ j, 0 ≤ j → j < 4 → -1 ≤ ρ 21 j ∧ ρ 21 j ≤ 24 := by rw [LQ_b e (a := 21) (by omega)]; exact I_hs h
theorem F_hr (h : INV σ) (e : LQ ρ σ) : ∀ j, 0 ≤ j → j < 96 → lR (ρ 20 j) := by rw [LQ_b e (a := 20) (by omega)]; exact I_hr h
theorem F_h8 (h : INV σ) (e : LQ ρ σ) : ∀ k, 0 ≤ k → k < 12 → 0 ≤ ρ 8 k ∧ ρ 8 k ≤ 24 := by rw [LQ_b e (a := 8) (by omega)]; exact h.2.2.2.1.1.2.2.2.2.2
theorem F_hi (h : INV σ) (e : LQ ρ σ) : -1 ≤ ρ 0 13 ∧ ρ 0 13 ≤ ρ 0 5 := by
  rw [LQ_0n e (b := 13) (by omega), LQ_0n e (b := 5) (by omega)]
  have h1 := (I_ro h).1
  rcases h.2.2.2.2.1 with ⟨_, h2⟩ | ⟨_, h2, _⟩ <;> omega
theorem F_bk (h : INV σ) (e : LQ ρ σ) : ∀ o, 0 ≤ o → o < 24 → iR (BK ρ 1 (40 + o)) := fun o h1 h2 => by
  have hr := F_ro h e
  have hw := hr.2.1.2.2.1 (40 + o) (by omega) (by omega)
  unfold BK
  rw [put_i (by omega), put_i (by omega)]
  unfold BKk
  by_cases q : (1 : Nat) = 1 ∧ 40 + ρ 0 13 ≤ 40 + o ∧ 40 + o < 40 + ρ 0 5
  · rw [if_pos q]
    exact ⟨by decide, by decide⟩
  · rw [if_neg q]
    unfold LB
    by_cases q2 : (1 : Nat) = 1 ∧ ((0 ≤ 40 + o ∧ 40 + o < 40) ∨ (40 ≤ 40 + o ∧ 40 + o < 40 + max 0 (ρ 0 13)) ∨ (64 ≤ 40 + o ∧ 40 + o < 64 + max 0 (ρ 0 13)))
    · rw [if_pos q2]
      rw [LQ_b e (a := 10) (by omega)]
      rw [LQ_0n e (b := 13) (by omega)] at q2
      rcases h.2.2.2.2.1 with ⟨_, h3⟩ | ⟨_, h3, h4, h5, h6⟩
      · omega
      · have h7 := (h6.2.2 o h1 (by omega)).1
        have h8 := (h5.2.2.2 o h1 (by omega)).1
        have h9 : σ (111 + 5 * 1) o = σ 10 (40 + o) := h7
        rw [← h9]
        exact ⟨by omega, by omega⟩
    · rw [if_neg q2]
      exact ⟨by omega, by omega⟩
end LQs
