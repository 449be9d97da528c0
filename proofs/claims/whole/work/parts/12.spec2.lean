/-! SPEC 2: scratch cells; what is left at steps -/
/-- cells whose contents nothing rests on -/
def scr (a : Nat) (b : Int) : Bool :=
  if a < 22 then (a == 9 || a == 11 || a == 13 || (14 ≤ a && a ≤ 19) || (a == 0 && (b == 14 || b == 15 || b == 19 || b == 20 || b == 27 || b == 28 || b == 29 || b == 31 || b == 32)))
  else if a < 46 then false else if a < 82 then true
  else if a < 106 then (a == 92 || a == 93 || (95 ≤ a && a ≤ 99) || a == 104 || a == 105 || (a == 94 && (b == 5 || b == 6)) || (a == 103 && b == 1) || (a == 89 && (b == 2 || b == 3)))
  else false
/-- the state σ, scratch cells as τ has them -/
def SC (σ τ : St) : St := fun a b => if scr a b = true then τ a b else σ a b
theorem SC_self (σ : St) : SC σ σ = σ := by
  funext a b
  unfold SC
  split <;> rfl
theorem put_q {σ : St} {i a : Nat} {k v b : Int} (h : ¬ (a = i ∧ b = k)) : put σ i k v a b = σ a b := if_neg h
theorem SC_n {σ τ : St} {a : Nat} {b : Int} (h : scr a b = false) : SC σ τ a b = σ a b := if_neg (by rw [h]; decide)
theorem SC_y {σ τ : St} {a : Nat} {b : Int} (h : scr a b = true) : SC σ τ a b = τ a b := if_pos h
theorem SC_SC (σ τ τ' : St) : SC (SC σ τ) τ' = SC σ τ' := by
  funext a b
  cases h : scr a b
  · rw [SC_n h, SC_n h, SC_n h]
  · rw [SC_y h, SC_y h]
/-- a scratch cell written -/
theorem SC_put {σ τ : St} {i : Nat} {k v : Int} (h : scr i k = true) : put (SC σ τ) i k v = SC σ (put τ i k v) := by
  funext a b
  by_cases q : a = i ∧ b = k
  · obtain ⟨rfl, rfl⟩ := q
    rw [put_s, SC_y h, put_s]
  · rw [put_q q]
    cases h2 : scr a b
    · rw [SC_n h2, SC_n h2]
    · rw [SC_y h2, SC_y h2, put_q q]
theorem SC_put0 {σ : St} {i : Nat} {k v : Int} (h : scr i k = true) : put σ i k v = SC σ (put σ i k v) := by
  rw [← SC_put h, SC_self]
theorem SC_putS {σ ρ : St} {i : Nat} {k v : Int} (h : ρ = SC σ ρ) (hs : scr i k = true) : put ρ i k v = SC σ (put ρ i k v) := by
  rw [← SC_put hs, ← h]
/-- another cell written -/
theorem SC_putc {σ τ : St} {i : Nat} {k v : Int} (h : scr i k = false) : put (SC σ τ) i k v = SC (put σ i k v) τ := by
  funext a b
  by_cases q : a = i ∧ b = k
  · obtain ⟨rfl, rfl⟩ := q
    rw [put_s, SC_n h, put_s]
  · rw [put_q q]
    cases h2 : scr a b
    · rw [SC_n h2, SC_n h2, put_q q]
    · rw [SC_y h2, SC_y h2]
theorem SC_cpy {σ τ : St} {i j : Nat} {n : Int} (h : ∀ b, scr j b = true) : cpy (SC σ τ) i j n = SC σ (cpy (SC σ τ) i j n) := by
  funext a b
  cases h2 : scr a b
  · rw [SC_n h2]
    have : ¬ (a = j ∧ 0 ≤ b ∧ b < n) := fun q => by rw [q.1, h b] at h2; cases h2
    show (if a = j ∧ 0 ≤ b ∧ b < n then _ else SC σ τ a b) = _
    rw [if_neg this, SC_n h2]
  · rw [SC_y h2]
/-- the cells that looking up what is left writes -/
def scr1 (a : Nat) (b : Int) : Bool := a == 11 || (a == 0 && (b == 14 || b == 15))
def S1 (σ τ : St) : St := fun a b => if scr1 a b = true then τ a b else σ a b
theorem S1_self (σ : St) : S1 σ σ = σ := by
  funext a b
  unfold S1
  split <;> rfl
theorem S1_n {σ τ : St} {a : Nat} {b : Int} (h : scr1 a b = false) : S1 σ τ a b = σ a b := if_neg (by rw [h]; decide)
theorem S1_y {σ τ : St} {a : Nat} {b : Int} (h : scr1 a b = true) : S1 σ τ a b = τ a b := if_pos h
theorem S1_S1 (σ τ τ' : St) : S1 (S1 σ τ) τ' = S1 σ τ' := by
  funext a b
  cases h : scr1 a b
  · rw [S1_n h, S1_n h, S1_n h]
  · rw [S1_y h, S1_y h]
/-- a scratch cell written -/
theorem S1_put {σ τ : St} {i : Nat} {k v : Int} (h : scr1 i k = true) : put (S1 σ τ) i k v = S1 σ (put τ i k v) := by
  funext a b
  by_cases q : a = i ∧ b = k
  · obtain ⟨rfl, rfl⟩ := q
    rw [put_s, S1_y h, put_s]
  · rw [put_q q]
    cases h2 : scr1 a b
    · rw [S1_n h2, S1_n h2]
    · rw [S1_y h2, S1_y h2, put_q q]
theorem S1_put0 {σ : St} {i : Nat} {k v : Int} (h : scr1 i k = true) : put σ i k v = S1 σ (put σ i k v) := by
  rw [← S1_put h, S1_self]
theorem S1_putS {σ ρ : St} {i : Nat} {k v : Int} (h : ρ = S1 σ ρ) (hs : scr1 i k = true) : put ρ i k v = S1 σ (put ρ i k v) := by
  rw [← S1_put hs, ← h]
/-- another cell written -/
theorem S1_putc {σ τ : St} {i : Nat} {k v : Int} (h : scr1 i k = false) : put (S1 σ τ) i k v = S1 (put σ i k v) τ := by
  funext a b
  by_cases q : a = i ∧ b = k
  · obtain ⟨rfl, rfl⟩ := q
    rw [put_s, S1_n h, put_s]
  · rw [put_q q]
    cases h2 : scr1 a b
    · rw [S1_n h2, S1_n h2, put_q q]
    · rw [S1_y h2, S1_y h2]
theorem scr1_scr {a : Nat} {b : Int} (h : scr a b = false) : scr1 a b = false := by
  cases h1 : scr1 a b
  · rfl
  · unfold scr1 at h1
    simp only [Bool.or_eq_true, Bool.and_eq_true, beq_iff_eq] at h1
    rcases h1 with rfl | ⟨rfl, rfl | rfl⟩ <;> cases h
theorem S1_SC (σ τ : St) : S1 σ τ = SC σ (S1 σ τ) := by
  funext a b
  cases h : scr a b
  · rw [SC_n h, S1_n (scr1_scr h)]
  · rw [SC_y h]
theorem put_put {σ : St} {i : Nat} {k u v : Int} : put (put σ i k u) i k v = put σ i k v := by
  funext a b
  by_cases q : a = i ∧ b = k
  · obtain ⟨rfl, rfl⟩ := q
    rw [put_s, put_s]
  · rw [put_q q, put_q q, put_q q]
-- a step's three numbers, one more than they are
def prt (q i : Int) : Int := if i = 0 then q / 10000 else if i = 1 then q / 100 % 100 else q % 100
def stp (k : Int) : Int := 10000 * (k / 169) + 100 * (k / 13 % 13) + k % 13
theorem prt_stp {k : Int} (h0 : 0 ≤ k) (h1 : k < 2197) : prt (stp k) 0 = k / 169 ∧ prt (stp k) 1 = k / 13 % 13 ∧ prt (stp k) 2 = k % 13 := by
  unfold prt stp
  refine ⟨?_, ?_, ?_⟩
  · rw [if_pos rfl]; omega
  · rw [if_neg (by decide), if_pos rfl]; omega
  · rw [if_neg (by decide), if_neg (by decide)]; omega
/-- an order of such items, latest is counted at a step -/
def hS (it la a b c : Int) : Prop := (tb it 0 = false ∨ la < a) ∧ (tb it 1 = false ∨ la < b) ∧ (tb it 2 = false ∨ la < c)
def hSb (it la a b c : Int) : Bool := (!tb it 0 || decide (la < a)) && (!tb it 1 || decide (la < b)) && (!tb it 2 || decide (la < c))
theorem hSb_iff {it la a b c : Int} : hSb it la a b c = true ↔ hS it la a b c := by
  unfold hSb hS
  simp only [Bool.and_eq_true, Bool.or_eq_true, Bool.not_eq_true', decide_eq_true_eq, and_assoc]
/-- an item's supplies up to a number -/
def sq (su : Int → Int) (i q : Int) : Int := sm (fun t => su (12 * i + t)) q
/-- amounts of the counted ones -/
def dm (n : Int) (am it la : Int → Int) (P : Int → Bool) (a b c : Int) : Int := sm (fun o => if (P o && hSb (it o) (la o) a b c) = true then am o else 0) n
def LFT (su : Int → Int) (n : Int) (am it la : Int → Int) (P : Int → Bool) (a b c : Int) : Int := sq su 0 a + sq su 1 b + sq su 2 c - dm n am it la P a b c
/-- amounts of a set, of a group (below 0: of any) -/
def amS (n : Int) (am gr : Int → Int) (P : Int → Bool) (g : Int) : Int := sm (fun o => if P o = true ∧ (g < 0 ∨ gr o = g) then am o else 0) n
theorem sq_rng {su : Int → Int} (h : ∀ j, 0 ≤ j → j < 36 → 0 ≤ su j ∧ su j ≤ 99) {i q : Int} (hi : 0 ≤ i ∧ i < 3) (hq : 0 ≤ q ∧ q ≤ 12) : 0 ≤ sq su i q ∧ sq su i q ≤ q * 99 :=
  ⟨sm_nn (fun k a b => (h _ (by omega) (by omega)).1), sm_ub hq.1 (fun k a b => (h _ (by omega) (by omega)).2)⟩
theorem dm_rng {n : Int} {am it la : Int → Int} {P : Int → Bool} {a b c : Int} (hn : 0 ≤ n) (ha : ∀ o, 0 ≤ o → o < n → 0 ≤ am o ∧ am o ≤ 60) : 0 ≤ dm n am it la P a b c ∧ dm n am it la P a b c ≤ n * 60 :=
  ⟨sm_nn (fun k x y => by have := ha k x y; split <;> omega), sm_ub hn (fun k x y => by have := ha k x y; split <;> omega)⟩
theorem amS_rng {n : Int} {am gr : Int → Int} {P : Int → Bool} {g : Int} (hn : 0 ≤ n) (ha : ∀ o, 0 ≤ o → o < n → 0 ≤ am o ∧ am o ≤ 60) : 0 ≤ amS n am gr P g ∧ amS n am gr P g ≤ n * 60 :=
  ⟨sm_nn (fun k x y => by have := ha k x y; split <;> omega), sm_ub hn (fun k x y => by have := ha k x y; split <;> omega)⟩
/-- a truth value, told -/
def bP (x : Int) (b : Prop) : Prop := (x = 1 ∧ b) ∨ (x = 0 ∧ ¬ b)
theorem bP_0 {x : Int} {b : Prop} (h : bP x b) : x = 0 → ¬ b := fun q => by
  rcases h with ⟨h1, _⟩ | ⟨_, h2⟩
  · omega
  · exact h2
theorem bP_1 {x : Int} {b : Prop} (h : bP x b) : x ≠ 0 → b := fun q => by
  rcases h with ⟨_, h2⟩ | ⟨h1, _⟩
  · exact h2
  · exact absurd h1 q
theorem bP_iR {x : Int} {b : Prop} (h : bP x b) : iR x := by
  rcases h with ⟨h1, _⟩ | ⟨h1, _⟩ <;> omega
theorem bP_c {x : Int} {a b : Prop} (h : bP x a) (e : a ↔ b) : bP x b := by
  rcases h with ⟨h1, h2⟩ | ⟨h1, h2⟩
  · exact Or.inl ⟨h1, e.mp h2⟩
  · exact Or.inr ⟨h1, fun q => h2 (e.mpr q)⟩
theorem bP_inj {x y : Int} {b : Prop} (h : bP x b) (h2 : bP y b) : x = y := by
  rcases h with ⟨h1, h3⟩ | ⟨h1, h3⟩ <;> rcases h2 with ⟨h4, h5⟩ | ⟨h4, h5⟩ <;> first | omega | exact absurd h3 h5 | exact absurd h5 h3
theorem bP_bI {b : Prop} [Decidable b] : bP (bI b) b := by
  unfold bI
  split
  · exact Or.inl ⟨rfl, by assumption⟩
  · exact Or.inr ⟨rfl, by assumption⟩
/-- the first of 2197 at which least stands -/
def fst (L : Int → Int) (n k0 : Int) : Prop := 0 ≤ k0 ∧ k0 < n ∧ (∀ k, 0 ≤ k → k < n → L k0 ≤ L k) ∧ ∀ k, 0 ≤ k → k < k0 → L k0 < L k
theorem fst_u {L L' : Int → Int} {n j k : Int} (e : ∀ i, 0 ≤ i → i < n → L i = L' i) (h : fst L n j) (h2 : fst L' n k) : j = k := by
  obtain ⟨a1, a2, a3, a4⟩ := h
  obtain ⟨b1, b2, b3, b4⟩ := h2
  rcases Int.lt_trichotomy j k with q | q | q
  · have := b4 j a1 q
    have := a3 k b1 b2
    have := e j a1 a2
    have := e k b1 b2
    omega
  · exact q
  · have := a4 k b1 q
    have := b3 j a1 a2
    have := e j a1 a2
    have := e k b1 b2
    omega
/-- what is left at the k-th step -/
def LK (σ : St) (P : Int → Bool) (k : Int) : Int := LFT (σ 1) (σ 0 5) (σ 2) (σ 3) (fun o => σ 1 (64 + o)) P (k / 169) (k / 13 % 13) (k % 13)
/-- all of a set can be met -/
def MET (σ : St) (P : Int → Bool) : Prop := ∀ k, 0 ≤ k → k < 2197 → 0 ≤ LK σ P k
/-- what the reference's cells are -/
def wOK (f : Int → Int) : Prop := (∀ j, 0 ≤ j → j < 36 → 0 ≤ f j ∧ f j ≤ 99) ∧ (∀ j, 36 ≤ j → j < 40 → 0 ≤ f j ∧ f j ≤ 100) ∧ (∀ j, 40 ≤ j → j < 64 → 0 ≤ f j ∧ f j ≤ 2) ∧ (∀ j, 64 ≤ j → j < 88 → 0 ≤ f j ∧ f j ≤ 11)
def RO (σ : St) : Prop := (0 ≤ σ 0 5 ∧ σ 0 5 ≤ 24) ∧ wOK (σ 1) ∧ (∀ o, 0 ≤ o → o < 24 → 0 ≤ σ 2 o ∧ σ 2 o ≤ 60) ∧ (∀ o, 0 ≤ o → o < 24 → 0 ≤ σ 3 o ∧ σ 3 o ≤ 7) ∧ (∀ o, 0 ≤ o → o < 24 → 0 ≤ σ 4 o ∧ σ 4 o ≤ 3) ∧ ∀ o, 0 ≤ o → o < 24 → 0 ≤ σ 5 o ∧ σ 5 o ≤ 9
theorem LK_rng {σ : St} (h : RO σ) (P : Int → Bool) {k : Int} (h0 : 0 ≤ k) (h1 : k < 2197) : -1440 ≤ LK σ P k ∧ LK σ P k ≤ 3564 := by
  have a := sq_rng (su := σ 1) h.2.1.1 (i := 0) (q := k / 169) (by omega) (by omega)
  have b := sq_rng (su := σ 1) h.2.1.1 (i := 1) (q := k / 13 % 13) (by omega) (by omega)
  have c := sq_rng (su := σ 1) h.2.1.1 (i := 2) (q := k % 13) (by omega) (by omega)
  have d := dm_rng (n := σ 0 5) (am := σ 2) (it := σ 3) (la := fun o => σ 1 (64 + o)) (P := P) (a := k / 169) (b := k / 13 % 13) (c := k % 13) h.1.1 (fun o x y => h.2.2.1 o x (by have := h.1; omega))
  have := h.1
  unfold LK LFT
  omega
