/-- all but the tape's place and fault, and the k-th order's cells -/
def AG (σ ρ : St) (k : Int) : Prop := ∀ a b, ¬ (a = 89 ∧ (b = 2 ∨ b = 3)) → ¬ (84 ≤ a ∧ a ≤ 88 ∧ b = k) → ρ a b = σ a b
theorem AG_0 {σ : St} {k : Int} : AG σ σ k := fun _ _ _ _ => rfl
theorem AG_t {σ ρ τ : St} {k : Int} (h : AG σ ρ k) (h2 : AG ρ τ k) : AG σ τ k := fun a b x y => (h2 a b x y).trans (h a b x y)
theorem AG_p {σ ρ : St} {k v : Int} {i : Nat} (h : AG σ ρ k) (hi : 84 ≤ i ∧ i ≤ 88) : AG σ (put ρ i k v) k := fun a b x y => (put_q (by omega)).trans (h a b x y)
theorem AG_2 {σ ρ : St} {k v : Int} (h : AG σ ρ k) : AG σ (put ρ 89 2 v) k := fun a b x y => (put_q (by omega)).trans (h a b x y)
theorem AG_3 {σ ρ : St} {k v : Int} (h : AG σ ρ k) : AG σ (put ρ 89 3 v) k := fun a b x y => (put_q (by omega)).trans (h a b x y)
theorem AG_r {σ ρ : St} {k : Int} (h : AG σ ρ k) : ρ 90 = σ 90 ∧ ρ 89 1 = σ 89 1 := ⟨funext fun b => h 90 b (by omega) (by omega), h 89 1 (by omega) (by omega)⟩
/-- something read: good, or a fault -/
theorem RN_f {σ ρ : St} {k0 lo hi x : Int} (h : RNB σ lo hi x ρ) (hf : σ 89 3 = -1) (ha : 0 ≤ σ 89 2) : AG σ ρ k0 ∧ ((ρ 89 3 = -1 ∧ 0 ≤ (numF (σ 90) (σ 89 1) 2 lo hi (σ 89 2)).1 ∧ x = (numF (σ 90) (σ 89 1) 2 lo hi (σ 89 2)).1 ∧ ρ 89 2 = (numF (σ 90) (σ 89 1) 2 lo hi (σ 89 2)).2) ∨ (0 ≤ ρ 89 3 ∧ (numF (σ 90) (σ 89 1) 2 lo hi (σ 89 2)).1 < 0 ∧ ρ 89 3 = (numF (σ 90) (σ 89 1) 2 lo hi (σ 89 2)).2)) := by
  refine ⟨?_, ?_⟩
  · rcases h with ⟨_, _, rfl⟩ | ⟨_, _, _, k, rfl⟩
    · exact AG_2 AG_0
    · exact AG_3 (AG_2 AG_0)
  · rcases h with ⟨a, b, rfl⟩ | ⟨a, b, e, k, rfl⟩
    · exact Or.inl ⟨(put_k (by decide)).trans hf, a, b, put_s⟩
    · exact Or.inr ⟨by rw [put_s]; exact ha, a, by rw [put_s, e]⟩
theorem RD_f {σ ρ : St} {k0 : Int} {r : Int × Int} {x : Int} (h : RDB σ r x ρ) (hf : σ 89 3 = -1) (hr : 0 ≤ r.2) : AG σ ρ k0 ∧ ((ρ 89 3 = -1 ∧ 0 ≤ r.1 ∧ x = r.1 ∧ ρ 89 2 = r.2) ∨ (0 ≤ ρ 89 3 ∧ r.1 < 0 ∧ ρ 89 3 = r.2)) := by
  rcases h with ⟨a, b, rfl⟩ | ⟨a, b, rfl⟩
  · exact ⟨AG_2 AG_0, Or.inl ⟨(put_k (by decide)).trans hf, a, b, put_s⟩⟩
  · exact ⟨AG_3 (AG_2 AG_0), Or.inr ⟨by rw [put_s]; exact hr, a, put_s⟩⟩
