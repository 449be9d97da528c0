/-! SPEC 5: texts of orders -/
/-- the byte at a place of the tape; behind its end: 0 -/
def ch (tp : Int → Int) (z q : Int) : Int := if 0 ≤ q ∧ q < z then tp q else 0
def nk (tp : Int → Int) (z fg q : Int) : Int := if 48 ≤ ch tp z q ∧ ch tp z q ≤ 57 then (if fg = 2 ∧ 48 ≤ ch tp z (q + 1) ∧ ch tp z (q + 1) ≤ 57 then 2 else 1) else 0
def nv (tp : Int → Int) (z fg q : Int) : Int := if nk tp z fg q = 2 then 10 * (ch tp z q - 48) + ch tp z (q + 1) - 48 else ch tp z q - 48
/-- a number of so many figures at most: what it is, where it ends; or -1, where it begins -/
def numF (tp : Int → Int) (z fg lo hi q : Int) : Int × Int := if nk tp z fg q ≠ 0 ∧ lo ≤ nv tp z fg q ∧ nv tp z fg q ≤ hi then (nv tp z fg q, q + nk tp z fg q) else (-1, q)
/-- the bits of the first letters -/
def bts (tp : Int → Int) (z q : Int) : Nat → Int
  | 0 => 0
  | j + 1 => bts tp z q j + pw (ch tp z (q + j) - 97)
def vlt (tp : Int → Int) (z q : Int) (j : Nat) : Prop := (97 ≤ ch tp z (q + j) ∧ ch tp z (q + j) ≤ 99) ∧ tb (bts tp z q j) (ch tp z (q + j) - 97) = false
/-- letters: so many come, then a fault or the end -/
def letF (tp : Int → Int) (z q : Int) (r : Int × Int) : Prop := ∃ K : Nat, (∀ j, j < K → vlt tp z q j) ∧ ¬ vlt tp z q K ∧ r = if 97 ≤ ch tp z (q + K) ∧ ch tp z (q + K) ≤ 99 then (-1, q + K) else if K = 0 then (-1, q) else (bts tp z q K, q + K)
theorem letF_u {tp : Int → Int} {z q : Int} {r r' : Int × Int} (h : letF tp z q r) (h' : letF tp z q r') : r = r' := by
  obtain ⟨K, a1, a2, a3⟩ := h
  obtain ⟨K', b1, b2, b3⟩ := h'
  have e : K = K' := by
    rcases Nat.lt_trichotomy K K' with z | z | z
    · exact absurd (b1 K z) a2
    · exact z
    · exact absurd (a1 K' z) b2
  subst e
  rw [a3, b3]
def optF (tp : Int → Int) (z c hi q : Int) : Int × Int := if ch tp z q = c then numF tp z 1 0 hi (q + 1) else (0, q)
/-- a line: amount, items, latest, group, rank, where it ends; or amount -1, the fault -/
def LNF (tp : Int → Int) (z q am it la gr rk e : Int) : Prop :=
  ∃ l : Int × Int, ((numF tp z 2 1 60 q).1 < 0 ∧ am = -1 ∧ e = (numF tp z 2 1 60 q).2) ∨
    (0 ≤ (numF tp z 2 1 60 q).1 ∧ letF tp z (numF tp z 2 1 60 q).2 l ∧
      ((l.1 < 0 ∧ am = -1 ∧ e = l.2) ∨ (0 ≤ l.1 ∧ ch tp z l.2 ≠ 64 ∧ am = -1 ∧ e = l.2) ∨
        (0 ≤ l.1 ∧ ch tp z l.2 = 64 ∧ (((numF tp z 2 0 11 (l.2 + 1)).1 < 0 ∧ am = -1 ∧ e = (numF tp z 2 0 11 (l.2 + 1)).2) ∨
          (0 ≤ (numF tp z 2 0 11 (l.2 + 1)).1 ∧ (((optF tp z 103 3 (numF tp z 2 0 11 (l.2 + 1)).2).1 < 0 ∧ am = -1 ∧ e = (optF tp z 103 3 (numF tp z 2 0 11 (l.2 + 1)).2).2) ∨
            (0 ≤ (optF tp z 103 3 (numF tp z 2 0 11 (l.2 + 1)).2).1 ∧ (((optF tp z 114 9 (optF tp z 103 3 (numF tp z 2 0 11 (l.2 + 1)).2).2).1 < 0 ∧ am = -1 ∧ e = (optF tp z 114 9 (optF tp z 103 3 (numF tp z 2 0 11 (l.2 + 1)).2).2).2) ∨
              (0 ≤ (optF tp z 114 9 (optF tp z 103 3 (numF tp z 2 0 11 (l.2 + 1)).2).2).1 ∧ am = (numF tp z 2 1 60 q).1 ∧ it = l.1 ∧ la = (numF tp z 2 0 11 (l.2 + 1)).1 ∧ gr = (optF tp z 103 3 (numF tp z 2 0 11 (l.2 + 1)).2).1 ∧ rk = (optF tp z 114 9 (optF tp z 103 3 (numF tp z 2 0 11 (l.2 + 1)).2).2).1 ∧ e = (optF tp z 114 9 (optF tp z 103 3 (numF tp z 2 0 11 (l.2 + 1)).2).2).2)))))))))
theorem ch_rng {tp : Int → Int} {z q : Int} (h : ∀ j, 0 ≤ j → j < z → 0 ≤ tp j ∧ tp j ≤ 126) : 0 ≤ ch tp z q ∧ ch tp z q ≤ 126 := by
  unfold ch
  split
  · rename_i y; exact h q y.1 y.2
  · omega
theorem ch_in {tp : Int → Int} {z q : Int} (h : ch tp z q ≠ 0) : 0 ≤ q ∧ q < z := by
  unfold ch at h
  split at h
  · assumption
  · exact absurd rfl h
theorem ch_eq {tp : Int → Int} {z q : Int} (h0 : 0 ≤ q) (h1 : q < z) : ch tp z q = tp q := if_pos ⟨h0, h1⟩
theorem ch_end {tp : Int → Int} {z q : Int} (h : z ≤ q) : ch tp z q = 0 := if_neg (by omega)
theorem tb3 {b : Int} (h : 0 ≤ b) : (tb b 0 = true ↔ b % 2 = 1) ∧ (tb b 1 = true ↔ b / 2 % 2 = 1) ∧ (tb b 2 = true ↔ b / 4 % 2 = 1) := by
  obtain ⟨n, rfl⟩ := Int.eq_ofNat_of_zero_le h
  unfold tb
  rw [Int.toNat_natCast, show (0 : Int).toNat = 0 from rfl, show (1 : Int).toNat = 1 from rfl, show (2 : Int).toNat = 2 from rfl]
  simp only [Nat.testBit_eq_decide_div_mod_eq, decide_eq_true_eq]
  omega
theorem bit3 : ∀ b : Fin 8, ∀ c : Fin 3, (tb (b.val : Int) (c.val : Int) = false → ior (b.val : Int) (pw (c.val : Int)) = (b.val : Int) + pw (c.val : Int) ∧ iand (b.val : Int) (pw (c.val : Int)) = 0) ∧ (tb (b.val : Int) (c.val : Int) = true → iand (b.val : Int) (pw (c.val : Int)) ≠ 0) := by decide +kernel
theorem bit3' {b c : Int} (hb : 0 ≤ b ∧ b ≤ 7) (hc : 0 ≤ c ∧ c ≤ 2) : (tb b c = false → ior b (pw c) = b + pw c ∧ iand b (pw c) = 0) ∧ (tb b c = true → iand b (pw c) ≠ 0) := by
  have h := bit3 ⟨b.toNat, by omega⟩ ⟨c.toNat, by omega⟩
  have e1 : ((b.toNat : Nat) : Int) = b := by omega
  have e2 : ((c.toNat : Nat) : Int) = c := by omega
  simp only [e1, e2] at h
  exact h
/-- so many letters, so many bits -/
theorem bts_inv {tp : Int → Int} {z q : Int} : ∀ {K : Nat}, (∀ j, j < K → vlt tp z q j) → (0 ≤ bts tp z q K ∧ bts tp z q K ≤ 7) ∧ bts tp z q K % 2 + bts tp z q K / 2 % 2 + bts tp z q K / 4 % 2 = K
  | 0, _ => by
    show (0 ≤ (0 : Int) ∧ (0 : Int) ≤ 7) ∧ _
    refine ⟨by omega, ?_⟩
    show (0 : Int) % 2 + 0 / 2 % 2 + 0 / 4 % 2 = ((0 : Nat) : Int)
    omega
  | K + 1, h => by
    obtain ⟨h1, h2⟩ := bts_inv (K := K) (fun j hj => h j (by omega))
    obtain ⟨h3, h4⟩ := h K (by omega)
    show (0 ≤ bts tp z q K + pw (ch tp z (q + K) - 97) ∧ bts tp z q K + pw (ch tp z (q + K) - 97) ≤ 7) ∧ (bts tp z q K + pw (ch tp z (q + K) - 97)) % 2 + (bts tp z q K + pw (ch tp z (q + K) - 97)) / 2 % 2 + (bts tp z q K + pw (ch tp z (q + K) - 97)) / 4 % 2 = ((K + 1 : Nat) : Int)
    generalize bts tp z q K = B at *
    have hc : 0 ≤ ch tp z (q + K) - 97 ∧ ch tp z (q + K) - 97 ≤ 2 := by omega
    clear h3 h
    generalize ch tp z (q + K) - 97 = c at *
    have t3 := tb3 h1.1
    rcases (show c = 0 ∨ c = 1 ∨ c = 2 by omega) with rfl | rfl | rfl
    · have n : ¬ B % 2 = 1 := fun y => by rw [t3.1.mpr y] at h4; cases h4
      have e : pw 0 = 1 := by decide
      rw [e]
      omega
    · have n : ¬ B / 2 % 2 = 1 := fun y => by rw [t3.2.1.mpr y] at h4; cases h4
      have e : pw 1 = 2 := by decide
      rw [e]
      omega
    · have n : ¬ B / 4 % 2 = 1 := fun y => by rw [t3.2.2.mpr y] at h4; cases h4
      have e : pw 2 = 4 := by decide
      rw [e]
      omega
