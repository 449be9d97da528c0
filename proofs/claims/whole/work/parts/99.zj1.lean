/-! what the contracts ask, out of what holds between the calls -/
section ILs
variable {σ : St}
theorem I_hzx (h : INV σ) : 0 ≤ σ 89 1 ∧ σ 89 1 ≤ 100 := by rw [h.2.1.1]; exact h.2.1.2.1
theorem I_h1 (h : INV σ) : ∀ o, 0 ≤ o → o < σ 83 5 → 1 ≤ σ 84 o := fun o h1 h2 => by
  have hn := (I_nw h).1
  have h3 := ((I_nw h).2.2.2 o h1 (by omega)).2.2.1
  rw [h3]
  exact h.1.2.2.2 o h1 (by omega)
theorem I_ha (h : INV σ) : 0 ≤ σ 106 2 ∧ σ 106 1 + σ 106 2 ≤ 12 := by
  obtain ⟨⟨a1, a2, a3⟩, b, c, _⟩ := h.2.2.2.1.1
  omega
theorem I_hk (h : INV σ) : ∀ k, 0 ≤ k → k ≤ σ 106 1 + σ 106 2 → SOK σ (σ 107 k).toNat := fun k h1 h2 => by
  obtain ⟨⟨a1, a2, a3⟩, b, c, _⟩ := h.2.2.2.1.1
  exact h.2.2.2.1.2.1 k h1 (by omega)
theorem I_hb (h : INV σ) : σ 82 10 = 0 ∨ σ 82 10 = 1 := by
  rcases h.2.2.2.2.1 with ⟨q, _⟩ | ⟨q, _⟩
  · exact Or.inl q
  · exact Or.inr q
theorem I_hk1 (h : INV σ) : σ 82 10 = 1 → SOK σ 1 := fun h1 => by
  rcases h.2.2.2.2.1 with ⟨q, _⟩ | ⟨_, _, _, q, _⟩
  · omega
  · exact q
theorem I_h6 (h : INV σ) : iR (σ 106 1) ∧ iR (σ 106 2) := by
  obtain ⟨⟨a1, a2, a3⟩, b, c, _⟩ := h.2.2.2.1.1
  exact ⟨⟨by omega, by omega⟩, ⟨by omega, by omega⟩⟩
theorem lcI_iR {a b : Int} : iR (lcI a b) := by
  unfold lcI
  split
  · exact ⟨by decide, by decide⟩
  · split
    · exact ⟨by decide, by decide⟩
    · exact ⟨by decide, by decide⟩
end ILs
