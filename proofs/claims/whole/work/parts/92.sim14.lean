/-- the reference's ledger, what is to be proved of it -/
def LGP (σ : St) (o at1 : Int) : Int → St → Prop := (fun x σ2 => (¬ ((0 ≤ o ∧ o < σ 0 5) ∧ -1 ≤ at1) ∧ x = -1 ∧ σ2 = σ) ∨ (((0 ≤ o ∧ o < σ 0 5) ∧ -1 ≤ at1) ∧ ∃ (lt : Int) (L : List Int), bP lt (LATE σ o) ∧ L = LED o (σ 2 o) (σ 3 o) (σ 1 (64 + o)) (σ 4 o) (σ 5 o) (wdI (σ 1 (40 + o)) lt) ∧ (∃ τ, σ2 = SC σ τ) ∧ x = if at1 = -1 then (L.length : Int) else if at1 < L.length then L.getD at1.toNat 0 else -2))
theorem bP_u {x y : Int} {P Q : Prop} (h : bP x P) (h2 : bP y Q) (e : P ↔ Q) : x = y := by
  rcases h with ⟨a, b⟩ | ⟨a, b⟩ <;> rcases h2 with ⟨c, d⟩ | ⟨c, d⟩
  · omega
  · exact absurd (e.mp b) d
  · exact absurd (e.mpr d) b
  · omega
theorem s_ledger {σ σ1 σ2 : St} {o at1 x y : Int} (h : INV σ) (hx : ((fun x σ2 => (¬ ((0 ≤ o ∧ o < σ 83 5) ∧ -1 ≤ at1) ∧ x = -1 ∧ σ2 = σ) ∨ (((0 ≤ o ∧ o < σ 83 5) ∧ -1 ≤ at1) ∧ ∃ (lt : Int) (L : List Int), bP lt (LATX σ o) ∧ L = LED o (σ 84 o) (σ 85 o) (σ 112 o) (σ 87 o) (σ 88 o) (wdI (σ 111 o) lt) ∧ (EQK σ2 σ ∧ KOK σ2) ∧ x = if at1 = -1 then (L.length : Int) else if at1 < L.length then L.getD at1.toNat 0 else -2))) x σ1) (hy : LGP σ1 o at1 y σ2) : x = y ∧ INV σ2 := by
  have hw := I_nw h
  have hn := hw.1
  rcases hx with ⟨a, b, e⟩ | ⟨a, lt, L, hb, hL, ⟨hE, hK⟩, hv⟩
  · subst e
    rcases hy with ⟨c, d, e⟩ | ⟨c, _⟩
    · subst e; exact ⟨by omega, h⟩
    · exact absurd ⟨⟨c.1.1, by rw [hn]; exact c.1.2⟩, c.2⟩ a
  · have hw1 : NW σ σ1 := NW_E hw EQK_0 hE
    have h5 : σ1 0 5 = σ 0 5 := by rw [← hw1.1, hn]
    rcases hy with ⟨c, _⟩ | ⟨c, lt', L', hb', hL', ⟨τ, e2⟩, hv'⟩
    · exact absurd ⟨⟨a.1.1, by rw [h5, ← hn]; exact a.1.2⟩, a.2⟩ c
    · have hlt : lt = lt' := bP_u hb hb' (b_LATE hw1 c.1.1 c.1.2)
      obtain ⟨r1, r2, r3, r4, r5, r6⟩ := hw1.2.2.2 o c.1.1 c.1.2
      have hLL : L = L' := by rw [hL, hL', r1, r2, r3, r4, r5, r6, hlt]
      refine ⟨by rw [hv, hv', hLL], ?_⟩
      rw [e2]
      exact INV_q h hE hK EQ_SC
