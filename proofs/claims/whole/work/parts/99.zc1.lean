/-! the first state -/
def s0 : St := fun a b =>
  if a = 1 then (if 36 ≤ b ∧ b < 40 then 100 else 0)
  else if a = 0 then (if b = 13 then -1 else 0)
  else if a = 21 then (if 0 ≤ b ∧ b < 4 then -1 else 0)
  else if a = 102 then (if 0 ≤ b ∧ b < 4 then -1 else 0)
  else if a = 107 then (if 0 ≤ b ∧ b < 13 then b + 2 else 0)
  else if 108 ≤ a ∧ (a - 108) % 5 = 2 then (if 0 ≤ b ∧ b < 4 then 100 else 0)
  else 0
theorem s0_1 (b : Int) : s0 1 b = if 36 ≤ b ∧ b < 40 then 100 else 0 := rfl
theorem s0_21 (b : Int) : s0 21 b = if 0 ≤ b ∧ b < 4 then -1 else 0 := rfl
theorem s0_102 (b : Int) : s0 102 b = if 0 ≤ b ∧ b < 4 then -1 else 0 := rfl
theorem s0_107 (b : Int) : s0 107 b = if 0 ≤ b ∧ b < 13 then b + 2 else 0 := rfl
theorem s0_110 (b : Int) : s0 110 b = if 0 ≤ b ∧ b < 4 then 100 else 0 := rfl
theorem s0_120 (b : Int) : s0 120 b = if 0 ≤ b ∧ b < 4 then 100 else 0 := rfl
theorem s0_w : wOK (s0 1) := by
  refine ⟨fun j h1 h2 => ?_, fun j h1 h2 => ?_, fun j h1 h2 => ?_, fun j h1 h2 => ?_⟩ <;> rw [s0_1]
  · rw [if_neg (by omega)]; omega
  · rw [if_pos (by omega)]; omega
  · rw [if_neg (by omega)]; omega
  · rw [if_neg (by omega)]; omega
theorem s0_J1 : J1 s0 := by
  refine ⟨⟨rfl, fun j h1 h2 => ?_, fun g h1 h2 => ?_, fun o h1 h2 => absurd h2 (Int.not_lt.mpr h1)⟩, ⟨⟨Int.le_refl 0, by decide⟩, s0_w, fun o _ _ => ⟨Int.le_refl 0, (by decide : (0 : Int) ≤ 60)⟩, fun o _ _ => ⟨Int.le_refl 0, (by decide : (0 : Int) ≤ 7)⟩, fun o _ _ => ⟨Int.le_refl 0, (by decide : (0 : Int) ≤ 3)⟩, fun o _ _ => ⟨Int.le_refl 0, (by decide : (0 : Int) ≤ 9)⟩⟩, ⟨⟨Int.le_refl 0, by decide⟩, ⟨fun j _ _ => ⟨Int.le_refl 0, (by decide : (0 : Int) ≤ 99)⟩, fun j h1 h2 => ?_⟩, fun o h1 h2 => absurd h2 (Int.not_lt.mpr h1)⟩, fun o h1 h2 => absurd h2 (Int.not_lt.mpr h1)⟩
  · rw [s0_1, if_neg (by omega)]; rfl
  · rw [s0_1, s0_110, if_pos (by omega), if_pos (by omega)]
  · rw [s0_110, if_pos (by omega)]; omega
theorem s0_SEQ : SEQ s0 2 (s0 1) 0 := by
  refine ⟨fun j h1 h2 => ?_, fun g h1 h2 => ?_, fun o h1 h2 => absurd h2 (Int.not_lt.mpr h1)⟩
  · rw [s0_1, if_neg (by omega)]; rfl
  · rw [s0_1, if_pos (by omega)]
    show s0 120 g = 100
    rw [s0_120, if_pos (by omega)]
theorem s0_INV : INV s0 := by
  refine ⟨s0_J1, ⟨rfl, ⟨Int.le_refl 0, (by decide : (0 : Int) ≤ 100)⟩, fun j _ _ => rfl, fun k _ _ => ⟨Int.le_refl 0, (by decide : (0 : Int) ≤ 126)⟩⟩, ⟨fun w h1 h2 => ?_, fun j _ _ => ⟨rfl, (by decide : (-9223372036854775808 : Int) ≤ 0), (by decide : (0 : Int) ≤ 9223372036854775807)⟩⟩, ⟨⟨⟨Int.le_refl 0, Int.le_refl 0, (by decide : (0 : Int) ≤ 12)⟩, rfl, rfl, fun k h1 h2 => ?_, fun j k h1 h2 h3 h4 h5 => ?_, fun k _ _ => ⟨Int.le_refl 0, (by decide : (0 : Int) ≤ 24)⟩⟩, fun k h1 h2 => ?_, fun i h1 h2 => absurd h2 (Int.not_lt.mpr h1), s0_SEQ, fun o h1 h2 => absurd h2 (Int.not_lt.mpr h1)⟩, Or.inl ⟨rfl, rfl⟩, ?_⟩
  · rw [s0_102, s0_21, if_pos (by omega)]; omega
  · rw [s0_107, if_pos (by omega)]; omega
  · rw [s0_107, s0_107, if_pos (by omega), if_pos (by omega)] at h5; omega
  · have e : k = 0 := by
      have h3 : k ≤ 0 := h2
      omega
    subst e
    show SOK s0 2
    refine ⟨⟨Int.le_refl 0, Int.le_refl 0⟩, fun j _ _ => ⟨Int.le_refl 0, (by decide : (0 : Int) ≤ 99)⟩, fun j h3 h4 => ?_, fun o h3 h4 => absurd h4 (Int.not_lt.mpr h3)⟩
    show 0 ≤ s0 120 j ∧ s0 120 j ≤ 100
    rw [s0_120, if_pos (by omega)]
    omega
  · exact ⟨Or.inl rfl, fun h => absurd h (by decide : ¬ (0 : Int) = 1)⟩
