theorem land_dig {k a b c d : Nat} (hb : b < 2 ^ k) (hd : d < 2 ^ k) : (2 ^ k * a + b) &&& (2 ^ k * c + d) = 2 ^ k * (a &&& c) + (b &&& d) := by
  apply Nat.eq_of_testBit_eq
  intro i
  rw [Nat.testBit_and, Nat.testBit_two_pow_mul_add a hb, Nat.testBit_two_pow_mul_add c hd, Nat.testBit_two_pow_mul_add (a &&& c) (Nat.and_lt_two_pow b hd)]
  split <;> rw [Nat.testBit_and]
/-- a number of t equal digits -/
def MS (k d : Nat) : Nat → Nat
  | 0 => 0
  | t + 1 => 2 ^ k * MS k d t + d
/-- the sum of t digits -/
def SD (k : Nat) : Nat → Nat → Nat
  | 0, _ => 0
  | t + 1, x => x % 2 ^ k + SD k t (x / 2 ^ k)
def E1 : Nat → Nat → Nat
  | 0, _ => 0
  | t + 1, x => 4 * E1 t (x / 4) + x % 4 / 2
theorem E1_land : ∀ (t x : Nat), (x / 2) &&& MS 2 1 t = E1 t x
  | 0, x => Nat.and_zero _
  | t + 1, x => by
    have e : x / 2 = 2 ^ 2 * (x / 4 / 2) + x / 2 % 4 := by omega
    show (x / 2) &&& (2 ^ 2 * MS 2 1 t + 1) = 4 * E1 t (x / 4) + x % 4 / 2
    rw [e, land_dig (by omega) (by decide), E1_land t (x / 4), Nat.and_one_is_mod]
    omega
theorem E1_le : ∀ (t x : Nat), 2 * E1 t x ≤ x
  | 0, x => by show 2 * 0 ≤ x; omega
  | t + 1, x => by
    have := E1_le t (x / 4)
    show 2 * (4 * E1 t (x / 4) + x % 4 / 2) ≤ x
    omega
/-- digits of base 4, each how many bits its two have -/
def D1 : Nat → Nat → Nat
  | 0, _ => 0
  | t + 1, x => 4 * D1 t (x / 4) + (x % 4 - x % 4 / 2)
theorem D1_E1 : ∀ (t x : Nat), x < 2 ^ (2 * t) → D1 t x = x - E1 t x
  | 0, x, h => by
    show 0 = x - 0
    rw [Nat.mul_zero, Nat.pow_zero] at h
    omega
  | t + 1, x, h => by
    rw [show 2 * (t + 1) = 2 * t + 2 by omega, Nat.pow_add] at h
    have := D1_E1 t (x / 4) (by omega)
    have := E1_le t (x / 4)
    show 4 * D1 t (x / 4) + (x % 4 - x % 4 / 2) = x - (4 * E1 t (x / 4) + x % 4 / 2)
    omega
theorem D1_SD : ∀ (t x : Nat), SD 2 t (D1 t x) = pcN (2 * t) x
  | 0, x => rfl
  | t + 1, x => by
    have ih := D1_SD t (x / 4)
    show (4 * D1 t (x / 4) + (x % 4 - x % 4 / 2)) % 2 ^ 2 + SD 2 t ((4 * D1 t (x / 4) + (x % 4 - x % 4 / 2)) / 2 ^ 2) = pcN (2 * t + 1 + 1) x
    rw [show (4 * D1 t (x / 4) + (x % 4 - x % 4 / 2)) / 2 ^ 2 = D1 t (x / 4) by omega, ih]
    show _ = x % 2 + (x / 2 % 2 + pcN (2 * t) (x / 2 / 2))
    rw [show x / 2 / 2 = x / 4 by omega]
    omega
/-- all of t digits are so small -/
def DB (k m : Nat) : Nat → Nat → Prop
  | 0, _ => True
  | t + 1, x => x % 2 ^ k ≤ m ∧ DB k m t (x / 2 ^ k)
theorem D1_DB : ∀ (t x : Nat), DB 2 2 t (D1 t x)
  | 0, _ => trivial
  | t + 1, x => by
    show (4 * D1 t (x / 4) + (x % 4 - x % 4 / 2)) % 2 ^ 2 ≤ 2 ∧ DB 2 2 t ((4 * D1 t (x / 4) + (x % 4 - x % 4 / 2)) / 2 ^ 2)
    rw [show (4 * D1 t (x / 4) + (x % 4 - x % 4 / 2)) / 2 ^ 2 = D1 t (x / 4) by omega]
    exact ⟨by omega, D1_DB t (x / 4)⟩
/-- fours -/
def D2 : Nat → Nat → Nat
  | 0, _ => 0
  | t + 1, x => 16 * D2 t (x / 16) + (x % 4 + x / 4 % 4)
theorem and3 (x : Nat) : x &&& 3 = x % 4 := Nat.and_two_pow_sub_one_eq_mod x 2
theorem D2_land : ∀ (t x : Nat), (x &&& MS 4 3 t) + ((x / 4) &&& MS 4 3 t) = D2 t x
  | 0, x => by
    show (x &&& 0) + ((x / 4) &&& 0) = 0
    rw [Nat.and_zero, Nat.and_zero]
  | t + 1, x => by
    have e : x = 2 ^ 4 * (x / 16) + x % 16 := by omega
    have e2 : x / 4 = 2 ^ 4 * (x / 16 / 4) + x / 4 % 16 := by omega
    have h1 : x &&& (2 ^ 4 * MS 4 3 t + 3) = 2 ^ 4 * ((x / 16) &&& MS 4 3 t) + (x % 16 &&& 3) := by
      conv => lhs; rw [e]
      exact land_dig (by omega) (by decide)
    have h2 : (x / 4) &&& (2 ^ 4 * MS 4 3 t + 3) = 2 ^ 4 * ((x / 16 / 4) &&& MS 4 3 t) + (x / 4 % 16 &&& 3) := by
      conv => lhs; rw [e2]
      exact land_dig (by omega) (by decide)
    have ih := D2_land t (x / 16)
    show (x &&& (2 ^ 4 * MS 4 3 t + 3)) + ((x / 4) &&& (2 ^ 4 * MS 4 3 t + 3)) = 16 * D2 t (x / 16) + (x % 4 + x / 4 % 4)
    rw [h1, h2, and3, and3]
    omega
theorem D2_SD : ∀ (t x : Nat), DB 2 2 (2 * t) x → SD 4 t (D2 t x) = SD 2 (2 * t) x ∧ DB 4 4 t (D2 t x)
  | 0, x, _ => ⟨rfl, trivial⟩
  | t + 1, x, h => by
    obtain ⟨h1, h2, h3⟩ : x % 2 ^ 2 ≤ 2 ∧ x / 2 ^ 2 % 2 ^ 2 ≤ 2 ∧ DB 2 2 (2 * t) (x / 2 ^ 2 / 2 ^ 2) := h
    rw [show x / 2 ^ 2 / 2 ^ 2 = x / 16 by omega] at h3
    obtain ⟨i1, i2⟩ := D2_SD t (x / 16) h3
    have e : (16 * D2 t (x / 16) + (x % 4 + x / 4 % 4)) / 2 ^ 4 = D2 t (x / 16) := by omega
    constructor
    · show (16 * D2 t (x / 16) + (x % 4 + x / 4 % 4)) % 2 ^ 4 + SD 4 t ((16 * D2 t (x / 16) + (x % 4 + x / 4 % 4)) / 2 ^ 4) = x % 2 ^ 2 + (x / 2 ^ 2 % 2 ^ 2 + SD 2 (2 * t) (x / 2 ^ 2 / 2 ^ 2))
      rw [e, i1, show x / 2 ^ 2 / 2 ^ 2 = x / 16 by omega]
      omega
    · show (16 * D2 t (x / 16) + (x % 4 + x / 4 % 4)) % 2 ^ 4 ≤ 4 ∧ DB 4 4 t ((16 * D2 t (x / 16) + (x % 4 + x / 4 % 4)) / 2 ^ 4)
      rw [e]
      exact ⟨by omega, i2⟩
