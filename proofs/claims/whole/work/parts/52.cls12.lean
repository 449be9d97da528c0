theorem land_dig {k a b c d : Nat} (hb : b < 2 ^ k) (hd : d < 2 ^ k) : (2 ^ k * a + b) &&& (2 ^ k * c + d) = 2 ^ k * (a &&& c) + (b &&& d) := by
  apply Nat.eq_of_testBit_eq
  intro i
  rw [Nat.testBit_and, Nat.testBit_two_pow_mul_add a hb, Nat.testBit_two_pow_mul_add c hd, Nat.testBit_two_pow_mul_add (a &&& c) (Nat.and_lt_two_pow b hd)]
  split <;> rw [Nat.testBit_and]
/-- a number of t equal digits -/
def MS (k d : Nat) : Nat → Nat
  | 0 => 0
  | t + 1 => 2 ^ k * MS k d t + d
/-- the sum of t digits -/
def SD (k : Nat) : Nat → Nat → Nat
  | 0, _ => 0
  | t + 1, x => x % 2 ^ k + SD k t (x / 2 ^ k)
def E1 : Nat → Nat → Nat
  | 0, _ => 0
  | t + 1, x => 4 * E1 t (x / 4) + x % 4 / 2
theorem E1_land : ∀ (t x : Nat), (x / 2) &&& MS 2 1 t = E1 t x
  | 0, x => Nat.and_zero _
  | t + 1, x => by
    have e : x / 2 = 2 ^ 2 * (x / 4 / 2) + x / 2 % 4 := by omega
    show (x / 2) &&& (2 ^ 2 * MS 2 1 t + 1) = 4 * E1 t (x / 4) + x % 4 / 2
    rw [e, land_dig (by omega) (by decide), E1_land t (x / 4), Nat.and_one_is_mod]
    omega
theorem E1_le : ∀ (t x : Nat), 2 * E1 t x ≤ x
  | 0, x => by show 2 * 0 ≤ x; omega
  | t + 1, x => by
    have := E1_le t (x / 4)
    show 2 * (4 * E1 t (x / 4) + x % 4 / 2) ≤ x
    omega
/-- digits of base 4, each how many bits its two have -/
def D1 : Nat → Nat → Nat
  | 0, _ => 0
  | t + 1, x => 4 * D1 t (x / 4) + (x % 4 - x % 4 / 2)
theorem D1_E1 : ∀ (t x : Nat), x < 2 ^ (2 * t) → D1 t x = x - E1 t x
  | 0, x, h => by
    show 0 = x - 0
    rw [Nat.mul_zero, Nat.pow_zero] at h
    omega
  | t + 1, x, h => by
    rw [show 2 * (t + 1) = 2 * t + 2 by omega, Nat.pow_add] at h
    have := D1_E1 t (x / 4) (by omega)
    have := E1_le t (x / 4)
    show 4 * D1 t (x / 4) + (x % 4 - x % 4 / 2) = x - (4 * E1 t (x / 4) + x % 4 / 2)
    omega
theorem D1_SD : ∀ (t x : Nat), SD 2 t (D1 t x) = pcN (2 * t) x
  | 0, x => rfl
  | t + 1, x => by
    have ih := D1_SD t (x / 4)
    show (4 * D1 t (x / 4) + (x % 4 - x % 4 / 2)) % 2 ^ 2 + SD 2 t ((4 * D1 t (x / 4) + (x % 4 - x % 4 / 2)) / 2 ^ 2) = pcN (2 * t + 1 + 1) x
    rw [show (4 * D1 t (x / 4) + (x % 4 - x % 4 / 2)) / 2 ^ 2 = D1 t (x / 4) by omega, ih]
    show _ = x % 2 + (x / 2 % 2 + pcN (2 * t) (x / 2 / 2))
    rw [show x / 2 / 2 = x / 4 by omega]
    omega
/-- all of t digits are so small -/
def DB (k m : Nat) : Nat → Nat → Prop
  | 0, _ => True
  | t + 1, x => x % 2 ^ k ≤ m ∧ DB k m t (x / 2 ^ k)
theorem D1_DB : ∀ (t x : Nat), DB 2 2 t (D1 t x)
  | 0, _ => trivial
  | t + 1, x => by
    show (4 * D1 t (x / 4) + (x % 4 - x % 4 / 2)) % 2 ^ 2 ≤ 2 ∧ DB 2 2 t ((4 * D1 t (x / 4) + (x % 4 - x % 4 / 2)) / 2 ^ 2)
    rw [show (4 * D1 t (x / 4) + (x % 4 - x % 4 / 2)) / 2 ^ 2 = D1 t (x / 4) by omega]
    exact ⟨by omega, D1_DB t (x / 4)⟩
/-- fours -/
def D2 : Nat → Nat → Nat
  | 0, _ => 0
  | t + 1, x => 16 * D2 t (x / 16) + (x % 4 + x / 4 % 4)
theorem and3 (x : Nat) : x &&& 3 = x % 4 := Nat.and_two_pow_sub_one_eq_mod x 2
theorem D2_land : ∀ (t x : Nat), (x &&& MS 4 3 t) + ((x / 4) &&& MS 4 3 t) = D2 t x
  | 0, x => by
    show (x &&& 0) + ((x / 4) &&& 0) = 0
    rw [Nat.and_zero, Nat.and_zero]
  | t + 1, x => by
    have e : x = 2 ^ 4 * (x / 16) + x % 16 := by omega
    have e2 : x / 4 = 2 ^ 4 * (x / 16 / 4) + x / 4 % 16 := by omega
    have h1 : x &&& (2 ^ 4 * MS 4 3 t + 3) = 2 ^ 4 * ((x / 16) &&& MS 4 3 t) + (x % 16 &&& 3) := by
      conv => lhs; rw [e]
      exact land_dig (by omega) (by decide)
    have h2 : (x / 4) &&& (2 ^ 4 * MS 4 3 t + 3) = 2 ^ 4 * ((x / 16 / 4) &&& MS 4 3 t) + (x / 4 % 16 &&& 3) := by
      conv => lhs; rw [e2]
      exact land_dig (by omega) (by decide)
    have ih := D2_land t (x / 16)
    show (x &&& (2 ^ 4 * MS 4 3 t + 3)) + ((x / 4) &&& (2 ^ 4 * MS 4 3 t + 3)) = 16 * D2 t (x / 16) + (x % 4 + x / 4 % 4)
    rw [h1, h2, and3, and3]
    omega
theorem D2_SD : ∀ (t x : Nat), DB 2 2 (2 * t) x → SD 4 t (D2 t x) = SD 2 (2 * t) x ∧ DB 4 4 t (D2 t x)
  | 0, x, _ => ⟨rfl, trivial⟩
  | t + 1, x, h => by
    obtain ⟨h1, h2, h3⟩ : x % 2 ^ 2 ≤ 2 ∧ x / 2 ^ 2 % 2 ^ 2 ≤ 2 ∧ DB 2 2 (2 * t) (x / 2 ^ 2 / 2 ^ 2) := h
    rw [show x / 2 ^ 2 / 2 ^ 2 = x / 16 by omega] at h3
    obtain ⟨i1, i2⟩ := D2_SD t (x / 16) h3
    have e : (16 * D2 t (x / 16) + (x % 4 + x / 4 % 4)) / 2 ^ 4 = D2 t (x / 16) := by omega
    constructor
    · show (16 * D2 t (x / 16) + (x % 4 + x / 4 % 4)) % 2 ^ 4 + SD 4 t ((16 * D2 t (x / 16) + (x % 4 + x / 4 % 4)) / 2 ^ 4) = x % 2 ^ 2 + (x / 2 ^ 2 % 2 ^ 2 + SD 2 (2 * t) (x / 2 ^ 2 / 2 ^ 2))
      rw [e, i1, show x / 2 ^ 2 / 2 ^ 2 = x / 16 by omega]
      omega
    · show (16 * D2 t (x / 16) + (x % 4 + x / 4 % 4)) % 2 ^ 4 ≤ 4 ∧ DB 4 4 t ((16 * D2 t (x / 16) + (x % 4 + x / 4 % 4)) / 2 ^ 4)
      rw [e]
      exact ⟨by omega, i2⟩

/-- eights -/
def D3 : Nat → Nat → Nat
  | 0, _ => 0
  | t + 1, z => 256 * D3 t (z / 256) + (z % 16 + z / 16 % 16)
theorem and15 (x : Nat) : x &&& 15 = x % 16 := Nat.and_two_pow_sub_one_eq_mod x 4
theorem D3_land : ∀ (t z : Nat), DB 4 4 (2 * t) z → (z + z / 16) &&& MS 8 15 t = D3 t z
  | 0, z, _ => Nat.and_zero _
  | t + 1, z, h => by
    obtain ⟨h1, h2, h3⟩ : z % 16 ≤ 4 ∧ z / 16 % 16 ≤ 4 ∧ DB 4 4 (2 * t) (z / 16 / 16) := h
    rw [show z / 16 / 16 = z / 256 by omega] at h3
    have ih := D3_land t (z / 256) h3
    have e : z + z / 16 = 2 ^ 8 * ((z + z / 16) / 256) + (z + z / 16) % 256 := by omega
    have h4 : (z + z / 16) &&& (2 ^ 8 * MS 8 15 t + 15) = 2 ^ 8 * (((z + z / 16) / 256) &&& MS 8 15 t) + ((z + z / 16) % 256 &&& 15) := by
      conv => lhs; rw [e]
      exact land_dig (by omega) (by decide)
    have h5 : ((z + z / 16) / 256) &&& MS 8 15 t = (z / 256 + z / 256 / 16) &&& MS 8 15 t := by
      cases t with
      | zero => exact (Nat.and_zero _).trans (Nat.and_zero _).symm
      | succ t =>
        have h6 : z / 256 % 16 ≤ 4 := h3.1
        have h7 : z + z / 16 = 256 * (z / 256 + z / 256 / 16) + (16 * (z / 256 % 16) + 17 * (z / 16 % 16) + z % 16) := by omega
        have h8 : 16 * (z / 256 % 16) + 17 * (z / 16 % 16) + z % 16 < 256 := by omega
        have h9 : (z + z / 16) / 256 = z / 256 + z / 256 / 16 := by
          rw [h7]
          generalize z / 256 + z / 256 / 16 = u at *
          generalize 16 * (z / 256 % 16) + 17 * (z / 16 % 16) + z % 16 = v at *
          omega
        rw [h9]
    show (z + z / 16) &&& (2 ^ 8 * MS 8 15 t + 15) = 256 * D3 t (z / 256) + (z % 16 + z / 16 % 16)
    rw [h4, h5, ih, and15]
    omega
theorem D3_SD : ∀ (t x : Nat), DB 4 4 (2 * t) x → SD 8 t (D3 t x) = SD 4 (2 * t) x ∧ DB 8 8 t (D3 t x)
  | 0, x, _ => ⟨rfl, trivial⟩
  | t + 1, x, h => by
    obtain ⟨h1, h2, h3⟩ : x % 2 ^ 4 ≤ 4 ∧ x / 2 ^ 4 % 2 ^ 4 ≤ 4 ∧ DB 4 4 (2 * t) (x / 2 ^ 4 / 2 ^ 4) := h
    rw [show x / 2 ^ 4 / 2 ^ 4 = x / 256 by omega] at h3
    obtain ⟨i1, i2⟩ := D3_SD t (x / 256) h3
    have e : (256 * D3 t (x / 256) + (x % 16 + x / 16 % 16)) / 2 ^ 8 = D3 t (x / 256) := by omega
    constructor
    · show (256 * D3 t (x / 256) + (x % 16 + x / 16 % 16)) % 2 ^ 8 + SD 8 t ((256 * D3 t (x / 256) + (x % 16 + x / 16 % 16)) / 2 ^ 8) = x % 2 ^ 4 + (x / 2 ^ 4 % 2 ^ 4 + SD 4 (2 * t) (x / 2 ^ 4 / 2 ^ 4))
      rw [e, i1, show x / 2 ^ 4 / 2 ^ 4 = x / 256 by omega]
      omega
    · show (256 * D3 t (x / 256) + (x % 16 + x / 16 % 16)) % 2 ^ 8 ≤ 8 ∧ DB 8 8 t ((256 * D3 t (x / 256) + (x % 16 + x / 16 % 16)) / 2 ^ 8)
      rw [e]
      exact ⟨by omega, i2⟩
theorem D2_le : ∀ (t x : Nat), D2 t x ≤ x
  | 0, x => Nat.zero_le x
  | t + 1, x => by
    have := D2_le t (x / 16)
    show 16 * D2 t (x / 16) + (x % 4 + x / 4 % 4) ≤ x
    omega
theorem D3_le : ∀ (t x : Nat), D3 t x ≤ x
  | 0, x => Nat.zero_le x
  | t + 1, x => by
    have := D3_le t (x / 256)
    show 256 * D3 t (x / 256) + (x % 16 + x / 16 % 16) ≤ x
    omega
theorem D4 {q : Nat} (h : DB 8 8 4 q) (hq : q < 2147483648) : ((q + q / 256) + (q + q / 256) / 65536) % 64 = SD 8 4 q := by
  obtain ⟨h0, h1, h2, h3, _⟩ : q % 256 ≤ 8 ∧ q / 256 % 256 ≤ 8 ∧ q / 256 / 256 % 256 ≤ 8 ∧ q / 256 / 256 / 256 % 256 ≤ 8 ∧ True := h
  show _ = q % 256 + (q / 256 % 256 + (q / 256 / 256 % 256 + (q / 256 / 256 / 256 % 256 + 0)))
  have e3 : q / 256 / 256 / 256 % 256 = q / 256 / 256 / 256 := Nat.mod_eq_of_lt (by omega)
  have e2 : q / 256 / 256 = q / 256 / 256 % 256 + 256 * (q / 256 / 256 / 256) := by omega
  have e1 : q / 256 = q / 256 % 256 + 256 * (q / 256 / 256) := by omega
  have e0 : q = q % 256 + 256 * (q / 256) := by omega
  rw [e3] at h3 ⊢
  generalize q / 256 / 256 / 256 = c3 at *
  generalize q / 256 / 256 % 256 = c2 at *
  generalize q / 256 / 256 = q2 at *
  generalize q / 256 % 256 = c1 at *
  generalize q / 256 = q1 at *
  generalize q % 256 = c0 at *
  subst e2
  subst e1
  have e4 : (q + (c1 + 256 * (c2 + 256 * c3))) / 65536 = c2 + c3 + 256 * c3 := by omega
  rw [e4]
  omega
theorem iand_nat {a b : Nat} (ha : a < 2147483648) (hb : b < 2147483648) : iand (a : Int) (b : Int) = ((a &&& b : Nat) : Int) := by
  have h0 := iand_nn (a := (a : Int)) (b := (b : Int)) ⟨by omega, by omega⟩
  have e : (iand (a : Int) (b : Int)).toNat = a &&& b := by
    apply Nat.eq_of_testBit_eq
    intro i
    have h := tb_iand (a := (a : Int)) (b := (b : Int)) (o := (i : Nat)) ⟨by omega, by omega⟩ ⟨by omega, by omega⟩
    unfold tb at h
    rw [Int.toNat_natCast, Int.toNat_natCast, Int.toNat_natCast] at h
    rw [h, Nat.testBit_and]
  omega

theorem hySJ6_bitCount_0f7a4 : yJ6_bitCount_0f7a4.cls ≠ "java/lang/invoke/MethodHandle" ∧ yJ6_bitCount_0f7a4.cls ≠ "java/lang/invoke/VarHandle" ∧ (parseMethodDescriptor yJ6_bitCount_0f7a4.desc).map (fun d => d.parameters.length) = some 1 := by decide +kernel
set_option maxHeartbeats 8000000 in
set_option maxRecDepth 100000 in
theorem c_J6_bitCount_0f7a4 {l : Launch} {G : Gy} (hG : Inj G) (σ : St) {b : Int} (hb : 0 ≤ b ∧ b ≤ 2147483647) : ME l yJ6_bitCount_0f7a4 wsJ6_bitCount_0f7a4 ({ frames := 0, cells := 0, slots := 0, locals := 0 } : Room) G [.int (zI (b))] σ (pc b) σ := by
  refine MI.of hG (by decide +kernel) rfl rfl (Nat.le_of_ble_eq_true rfl) rfl ?_
  intro p e s m args below meth c H0 Q hC hret
  obtain ⟨x, rfl⟩ := Int.eq_ofNat_of_zero_le hb.1
  have hx : x < 2147483648 := by omega
  have d1 := D1_E1 16 x (by omega)
  have e1 := E1_le 16 x
  have f1 := D1_SD 16 x
  have g1 := D1_DB 16 x
  have l1 : (x / 2) &&& 1431655765 = E1 16 x := E1_land 16 x
  obtain ⟨y, hy⟩ : ∃ y, y = D1 16 x := ⟨_, rfl⟩
  rw [← hy] at d1 f1 g1
  obtain ⟨f2, g2⟩ := D2_SD 8 y g1
  have l2 : (y &&& 858993459) + ((y / 4) &&& 858993459) = D2 8 y := D2_land 8 y
  have m2 := D2_le 8 y
  obtain ⟨z, hz⟩ : ∃ z, z = D2 8 y := ⟨_, rfl⟩
  rw [← hz] at f2 g2 l2 m2
  obtain ⟨f3, g3⟩ := D3_SD 4 z g2
  have l3 : (z + z / 16) &&& 252645135 = D3 4 z := D3_land 4 z g2
  have m3 := D3_le 4 z
  have g2b : z + z / 16 < 2147483648 := by
    obtain ⟨k0, k1, k2, k3, k4, k5, k6, k7, _⟩ := g2
    omega
  obtain ⟨w, hw⟩ : ∃ w, w = D3 4 z := ⟨_, rfl⟩
  rw [← hw] at f3 g3 l3 m3
  have f4 := D4 g3 (by omega)
  have hwb : w + w / 256 < 2147483648 := by
    obtain ⟨k0, k1, k2, k3, _⟩ := g3
    omega
  have fin : (pc ((x : Nat) : Int)) = (((w + w / 256) + (w + w / 256) / 65536) % 64 : Nat) := by
    unfold pc
    rw [Int.toNat_natCast, f4, f3, ← f1, ← f2]
  refine wp_iload_n hC dJ6_bitCount_0f7a4_0 rfl ?_
  refine wp_iload_n hC dJ6_bitCount_0f7a4_1 rfl ?_
  refine wp_iconst hC dJ6_bitCount_0f7a4_2 ?_
  refine wp_iushr hC 1 (by decide) (by omega) dJ6_bitCount_0f7a4_3 ?_
  refine wp_ldcw (n := 1431655765) hC dJ6_bitCount_0f7a4_4 (by decide +kernel) ?_
  refine wp_iand hC dJ6_bitCount_0f7a4_7 ?_
  refine wp_top (b := ((E1 16 x : Nat) : Int)) (by rw [← l1]; exact iand_nat (a := x / 2) (b := 1431655765) (by omega) (by decide)) ?_
  refine wp_isub hC dJ6_bitCount_0f7a4_8 ?_
  refine wp_top (b := ((y : Nat) : Int)) (by omega) ?_
  refine wp_istore_n (lv2 := [(0, _)]) hC dJ6_bitCount_0f7a4_9 rfl (by decide) ?_
  refine wp_iload_n hC dJ6_bitCount_0f7a4_10 rfl ?_
  refine wp_ldcw (n := 858993459) hC dJ6_bitCount_0f7a4_11 (by decide +kernel) ?_
  refine wp_iand hC dJ6_bitCount_0f7a4_14 ?_
  refine wp_top (b := ((y &&& 858993459 : Nat) : Int)) (iand_nat (by omega) (by decide)) ?_
  refine wp_iload_n hC dJ6_bitCount_0f7a4_15 rfl ?_
  refine wp_iconst hC dJ6_bitCount_0f7a4_16 ?_
  refine wp_iushr hC 2 (by decide) (by omega) dJ6_bitCount_0f7a4_17 ?_
  refine wp_ldcw (n := 858993459) hC dJ6_bitCount_0f7a4_18 (by decide +kernel) ?_
  refine wp_iand hC dJ6_bitCount_0f7a4_21 ?_
  refine wp_top (b := ((y / 4 &&& 858993459 : Nat) : Int)) (iand_nat (a := y / 4) (by omega) (by decide)) ?_
  refine wp_iadd hC dJ6_bitCount_0f7a4_22 ?_
  refine wp_top (b := ((z : Nat) : Int)) (by omega) ?_
  refine wp_istore_n (lv2 := [(0, _)]) hC dJ6_bitCount_0f7a4_23 rfl (by decide) ?_
  refine wp_iload_n hC dJ6_bitCount_0f7a4_24 rfl ?_
  refine wp_iload_n hC dJ6_bitCount_0f7a4_25 rfl ?_
  refine wp_iconst hC dJ6_bitCount_0f7a4_26 ?_
  refine wp_iushr hC 4 (by decide) (by omega) dJ6_bitCount_0f7a4_27 ?_
  refine wp_iadd hC dJ6_bitCount_0f7a4_28 ?_
  refine wp_top (b := ((z + z / 16 : Nat) : Int)) (by omega) ?_
  refine wp_ldcw (n := 252645135) hC dJ6_bitCount_0f7a4_29 (by decide +kernel) ?_
  refine wp_iand hC dJ6_bitCount_0f7a4_32 ?_
  refine wp_top (b := ((w : Nat) : Int)) (by rw [← l3]; exact iand_nat (a := z + z / 16) (b := 252645135) (by omega) (by decide)) ?_
  refine wp_istore_n (lv2 := [(0, _)]) hC dJ6_bitCount_0f7a4_33 rfl (by decide) ?_
  refine wp_iload_n hC dJ6_bitCount_0f7a4_34 rfl ?_
  refine wp_iload_n hC dJ6_bitCount_0f7a4_35 rfl ?_
  refine wp_bipush hC dJ6_bitCount_0f7a4_36 rfl ?_
  refine wp_iushr hC 8 (by decide) (by omega) dJ6_bitCount_0f7a4_38 ?_
  refine wp_iadd hC dJ6_bitCount_0f7a4_39 ?_
  refine wp_top (b := ((w + w / 256 : Nat) : Int)) (by omega) ?_
  refine wp_istore_n (lv2 := [(0, _)]) hC dJ6_bitCount_0f7a4_40 rfl (by decide) ?_
  refine wp_iload_n hC dJ6_bitCount_0f7a4_41 rfl ?_
  refine wp_iload_n hC dJ6_bitCount_0f7a4_42 rfl ?_
  refine wp_bipush hC dJ6_bitCount_0f7a4_43 rfl ?_
  refine wp_iushr hC 16 (by decide) (by omega) dJ6_bitCount_0f7a4_45 ?_
  refine wp_iadd hC dJ6_bitCount_0f7a4_46 ?_
  refine wp_top (b := (((w + w / 256) + (w + w / 256) / 65536 : Nat) : Int)) (by omega) ?_
  refine wp_istore_n (lv2 := [(0, _)]) hC dJ6_bitCount_0f7a4_47 rfl (by decide) ?_
  refine wp_iload_n hC dJ6_bitCount_0f7a4_48 rfl ?_
  refine wp_bipush hC dJ6_bitCount_0f7a4_49 rfl ?_
  refine wp_iand hC dJ6_bitCount_0f7a4_51 ?_
  refine wp_top (b := ((((w + w / 256) + (w + w / 256) / 65536) % 64 : Nat) : Int)) (by rw [← Nat.and_two_pow_sub_one_eq_mod _ 6]; exact iand_nat (b := 63) (by omega) (by decide)) ?_
  exact hret _ _ _ _ (by omega) rfl (⟨fin.symm, rfl⟩) dJ6_bitCount_0f7a4_52
