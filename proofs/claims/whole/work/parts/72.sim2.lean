/-! BOTH SIDES: what holds between calls -/
/-- the number of the state behind the k-th change; how many orders it knows -/
def tS (σ : St) (k : Int) : Nat := (σ 107 k).toNat
def kN (σ : St) (k : Int) : Int := σ (108 + 5 * tS σ k) 4
/-- a state and a row of numbers tell the same of so many orders -/
def SEQ (σ : St) (t : Nat) (f : Int → Int) (m : Int) : Prop := (∀ j, 0 ≤ j → j < 36 → σ (109 + 5 * t) j = f j) ∧ (∀ g, 0 ≤ g → g < 4 → σ (110 + 5 * t) g = f (36 + g)) ∧ ∀ o, 0 ≤ o → o < m → σ (111 + 5 * t) o = f (40 + o) ∧ σ (112 + 5 * t) o = f (64 + o)
/-- orders with nothing done to them -/
def ASKD (σ : St) (f : Int → Int) (lo hi : Int) : Prop := ∀ o, lo ≤ o → o < hi → f (40 + o) = 0 ∧ f (64 + o) = σ 86 o
def J1 (σ : St) : Prop := NW σ σ ∧ RO σ ∧ XO σ ∧ ∀ o, 0 ≤ o → o < σ 0 5 → 1 ≤ σ 2 o
def JT (σ : St) : Prop := σ 89 1 = σ 0 18 ∧ (0 ≤ σ 0 18 ∧ σ 0 18 ≤ 100) ∧ (∀ j, 0 ≤ j → j < σ 0 18 → σ 90 j = σ 12 j) ∧ ∀ k, 0 ≤ k → k < 100 → 0 ≤ σ 90 k ∧ σ 90 k ≤ 126
def JS (σ : St) : Prop := (∀ w, 0 ≤ w → w < 4 → σ 102 w = σ 21 w ∧ -1 ≤ σ 21 w ∧ σ 21 w ≤ 24) ∧ ∀ j, 0 ≤ j → j < 96 → σ 101 j = σ 20 j ∧ lR (σ 20 j)
def JH0 (σ : St) : Prop := (0 ≤ σ 0 11 ∧ σ 0 11 ≤ σ 0 10 ∧ σ 0 10 ≤ 12) ∧ σ 106 1 = σ 0 11 ∧ σ 106 2 = σ 0 10 - σ 0 11 ∧ (∀ k, 0 ≤ k → k < 13 → 2 ≤ σ 107 k ∧ σ 107 k ≤ 14) ∧ (∀ j k, 0 ≤ j → j < 13 → 0 ≤ k → k < 13 → σ 107 j = σ 107 k → j = k) ∧ ∀ k, 0 ≤ k → k < 12 → 0 ≤ σ 8 k ∧ σ 8 k ≤ 24
/-- one change: the states about it, as both sides have them -/
def JHi (σ : St) (i : Int) : Prop := (kN σ (i + 1) = σ 8 i ∧ kN σ i ≤ σ 8 i) ∧ SEQ σ (tS σ (i + 1)) (σ (34 + i.toNat)) (σ 8 i) ∧ SEQ σ (tS σ i) (σ (22 + i.toNat)) (kN σ i) ∧ ASKD σ (σ (22 + i.toNat)) (kN σ i) (σ 8 i)
def JHs (σ : St) : Prop := (∀ k, 0 ≤ k → k ≤ σ 0 10 → SOK σ (tS σ k)) ∧ (∀ i, 0 ≤ i → i < σ 0 10 → JHi σ i) ∧ SEQ σ (tS σ (σ 0 11)) (σ 1) (kN σ (σ 0 11)) ∧ ASKD σ (σ 1) (kN σ (σ 0 11)) (σ 0 5)
def JI (σ : St) : Prop := (σ 82 10 = 0 ∧ σ 0 13 = -1) ∨ (σ 82 10 = 1 ∧ (0 ≤ σ 0 13 ∧ σ 0 13 ≤ σ 0 5) ∧ σ (108 + 5 * 1) 4 = σ 0 13 ∧ SOK σ 1 ∧ SEQ σ 1 (σ 10) (σ 0 13))
def INV (σ : St) : Prop := J1 σ ∧ JT σ ∧ JS σ ∧ (JH0 σ ∧ JHs σ) ∧ JI σ ∧ KOK σ
section EKs
variable {σ ρ : St}
theorem tS_E (e : EQK ρ σ) : tS ρ = tS σ := by
  unfold tS
  rw [EQK_h e (a := 107) (by omega)]
theorem kN_E (e : EQK ρ σ) (k : Int) : kN ρ k = kN σ k := by
  unfold kN
  rw [tS_E e, EQK_h e (a := 108 + 5 * tS σ k) (by omega)]
theorem SEQ_E (e : EQK ρ σ) (t : Nat) (f : Int → Int) (m : Int) : SEQ ρ t f m ↔ SEQ σ t f m := by
  unfold SEQ
  rw [EQK_h e (a := 109 + 5 * t) (by omega), EQK_h e (a := 110 + 5 * t) (by omega), EQK_h e (a := 111 + 5 * t) (by omega), EQK_h e (a := 112 + 5 * t) (by omega)]
theorem ASKD_E (e : EQK ρ σ) (f : Int → Int) (lo hi : Int) : ASKD ρ f lo hi ↔ ASKD σ f lo hi := by
  unfold ASKD
  rw [EQK_h e (a := 86) (by omega)]
theorem SOK_E (e : EQK ρ σ) (t : Nat) : SOK ρ t ↔ SOK σ t := by
  unfold SOK
  rw [EQK_h e (a := 108 + 5 * t) (by omega), EQK_h e (a := 109 + 5 * t) (by omega), EQK_h e (a := 110 + 5 * t) (by omega), EQK_h e (a := 111 + 5 * t) (by omega), EQK_h e (a := 112 + 5 * t) (by omega), EQK_h e (a := 83) (by omega)]
theorem JHi_E (e : EQK ρ σ) {i : Int} (h : 0 ≤ i ∧ i < 12) : JHi ρ i ↔ JHi σ i := by
  unfold JHi
  rw [kN_E e, kN_E e, tS_E e, SEQ_E e, SEQ_E e, ASKD_E e, EQK_b e (a := 8) (by omega), EQK_b e (a := 34 + i.toNat) (by omega), EQK_b e (a := 22 + i.toNat) (by omega)]
theorem INV_E (h : INV σ) (e : EQK ρ σ) (hk : KOK ρ) : INV ρ := by
  obtain ⟨⟨a1, a2, a3, a4⟩, ⟨b1, b2, b3, b4⟩, ⟨c1, c2⟩, ⟨⟨d1, d2, d3, d4, d5, d6⟩, ⟨f1, f2, f3, f4⟩⟩, g1, _⟩ := h
  have e5 : ρ 0 5 = σ 0 5 := EQK_0n e (by omega)
  have e10 : ρ 0 10 = σ 0 10 := EQK_0n e (by omega)
  have e11 : ρ 0 11 = σ 0 11 := EQK_0n e (by omega)
  have e13 : ρ 0 13 = σ 0 13 := EQK_0n e (by omega)
  have e18 : ρ 0 18 = σ 0 18 := EQK_0n e (by omega)
  have e891 : ρ 89 1 = σ 89 1 := e 89 1 rfl (by omega)
  have e8210 : ρ 82 10 = σ 82 10 := e 82 10 rfl (by omega)
  have e90 : ρ 90 = σ 90 := funext fun b => e 90 b rfl (by omega)
  have e101 : ρ 101 = σ 101 := funext fun b => e 101 b rfl (by omega)
  have e102 : ρ 102 = σ 102 := funext fun b => e 102 b rfl (by omega)
  refine ⟨⟨NW_E a1 e e, RO_E a2 e, XO_E a3 e, ?_⟩, ?_, ?_, ⟨?_, ?_⟩, ?_, hk⟩
  · rw [e5, EQK_b e (a := 2) (by omega)]; exact a4
  · unfold JT
    rw [e18, e891, e90, EQK_b e (a := 12) (by omega)]
    exact ⟨b1, b2, b3, b4⟩
  · unfold JS
    rw [e101, e102, EQK_b e (a := 20) (by omega), EQK_b e (a := 21) (by omega)]
    exact ⟨c1, c2⟩
  · unfold JH0
    rw [e10, e11, EQK_h e (a := 106) (by omega), EQK_h e (a := 107) (by omega), EQK_b e (a := 8) (by omega)]
    exact ⟨d1, d2, d3, d4, d5, d6⟩
  · unfold JHs
    rw [e10, e11, e5, tS_E e, kN_E e, SEQ_E e, ASKD_E e, EQK_b e (a := 1) (by omega)]
    exact ⟨fun k a b => (SOK_E e _).mpr (f1 k a b), fun i a b => (JHi_E e ⟨a, by omega⟩).mpr (f2 i a b), f3, f4⟩
  · unfold JI
    rw [e8210, e13, e5, SOK_E e, SEQ_E e, EQK_h e (a := 108 + 5 * 1) (by omega), EQK_b e (a := 10) (by omega)]
    exact g1
theorem EQ_SC {τ : St} : EQ (SC σ τ) σ := fun a b x => SC_n x
theorem KOK_EQ (h : KOK σ) (e : EQ ρ σ) : KOK ρ := by
  unfold KOK
  rw [KS_E (EQ_K e), e 82 11 rfl, e 82 12 rfl]
  exact h
theorem INV_EQ (h : INV σ) (e : EQ ρ σ) : INV ρ := INV_E h (EQ_K e) (KOK_EQ h.2.2.2.2.2 e)
/-- a call that only looks: both sides -/
theorem INV_q {σ1 σ2 : St} (h : INV σ) (e1 : EQK σ1 σ) (k1 : KOK σ1) (e2 : EQ σ2 σ1) : INV σ2 := INV_EQ (INV_E h e1 k1) e2
theorem I_nw (h : INV σ) : NW σ σ := h.1.1
theorem I_ro (h : INV σ) : RO σ := h.1.2.1
theorem I_xo (h : INV σ) : XO σ := h.1.2.2.1
theorem I_kok (h : INV σ) : KOK σ := h.2.2.2.2.2
theorem I_xl (h : INV σ) : XL σ := ⟨by have := h.2.2.2.1.1; have h2 := this.2.1; have h3 := this.1; omega, h.2.2.2.1.1.2.2.2.1⟩
theorem I_hd (h : INV σ) : 0 ≤ σ 0 11 ∧ σ 0 11 ≤ 12 := by have := h.2.2.2.1.1.1; omega
theorem I_hs (h : INV σ) : ∀ j, 0 ≤ j → j < 4 → -1 ≤ σ 21 j ∧ σ 21 j ≤ 24 := fun j a b => (h.2.2.1.1 j a b).2
theorem I_hsx (h : INV σ) : ∀ j, 0 ≤ j → j < 4 → -1 ≤ σ 102 j ∧ σ 102 j ≤ 24 := fun j a b => by rw [(h.2.2.1.1 j a b).1]; exact (h.2.2.1.1 j a b).2
theorem I_hr (h : INV σ) : ∀ j, 0 ≤ j → j < 96 → lR (σ 20 j) := fun j a b => (h.2.2.1.2 j a b).2
theorem I_hrx (h : INV σ) : ∀ j, 0 ≤ j → j < 96 → lR (σ 101 j) := fun j a b => by rw [(h.2.2.1.2 j a b).1]; exact (h.2.2.1.2 j a b).2
end EKs
