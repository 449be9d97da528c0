/-! BOTH SIDES: the same numbers on both sides, the same answers looked up -/
theorem scr_b {a : Nat} {b : Int} (h : (1 ≤ a ∧ a ≤ 8) ∨ a = 10 ∨ a = 12 ∨ (20 ≤ a ∧ a < 46)) : scr a b = false := by
  unfold scr
  by_cases h1 : a < 22
  · rw [if_pos h1]
    rcases (show a = 1 ∨ a = 2 ∨ a = 3 ∨ a = 4 ∨ a = 5 ∨ a = 6 ∨ a = 7 ∨ a = 8 ∨ a = 10 ∨ a = 12 ∨ a = 20 ∨ a = 21 by omega) with rfl | rfl | rfl | rfl | rfl | rfl | rfl | rfl | rfl | rfl | rfl | rfl <;> rfl
  · rw [if_neg h1, if_pos (by omega)]
/-- a row of the reference's -/
theorem EQK_b {σ ρ : St} (h : EQK ρ σ) {a : Nat} (ha : (1 ≤ a ∧ a ≤ 8) ∨ a = 10 ∨ a = 12 ∨ (20 ≤ a ∧ a < 46)) : ρ a = σ a := funext fun b => h a b (scr_b ha) (by omega)
theorem EQK_0n {σ ρ : St} (h : EQK ρ σ) {b : Int} (hb : b = 5 ∨ b = 10 ∨ b = 11 ∨ b = 13 ∨ b = 18) : ρ 0 b = σ 0 b := by
  rcases hb with rfl | rfl | rfl | rfl | rfl <;> exact h 0 _ rfl (by omega)
theorem RO_E {σ ρ : St} (h : RO σ) (e : EQK ρ σ) : RO ρ := by
  unfold RO
  rw [EQK_0n e (by omega), EQK_b e (a := 1) (by omega), EQK_b e (a := 2) (by omega), EQK_b e (a := 3) (by omega), EQK_b e (a := 4) (by omega), EQK_b e (a := 5) (by omega)]
  exact h
/-- the class's cells in one state and the reference's in another tell the same -/
def NW (σ ρ : St) : Prop := σ 83 5 = ρ 0 5 ∧ (∀ j, 0 ≤ j → j < 36 → σ 109 j = ρ 1 j) ∧ (∀ g, 0 ≤ g → g < 4 → σ 110 g = ρ 1 (36 + g)) ∧
  ∀ o, 0 ≤ o → o < ρ 0 5 → σ 111 o = ρ 1 (40 + o) ∧ σ 112 o = ρ 1 (64 + o) ∧ σ 84 o = ρ 2 o ∧ σ 85 o = ρ 3 o ∧ σ 87 o = ρ 4 o ∧ σ 88 o = ρ 5 o
theorem NW_E {σ ρ σ' ρ' : St} (h : NW σ ρ) (e : EQK σ' σ) (e2 : EQK ρ' ρ) : NW σ' ρ' := by
  unfold NW
  rw [EQK_h e (a := 83) (by omega), EQK_h e (a := 84) (by omega), EQK_h e (a := 85) (by omega), EQK_h e (a := 87) (by omega), EQK_h e (a := 88) (by omega), EQK_h e (a := 109) (by omega), EQK_h e (a := 110) (by omega), EQK_h e (a := 111) (by omega), EQK_h e (a := 112) (by omega),
    EQK_0n e2 (by omega), EQK_b e2 (a := 1) (by omega), EQK_b e2 (a := 2) (by omega), EQK_b e2 (a := 3) (by omega), EQK_b e2 (a := 4) (by omega), EQK_b e2 (a := 5) (by omega)]
  exact h
section NWs
variable {σ ρ : St}
theorem b_sq (h : NW σ ρ) {i q : Int} (hi : 0 ≤ i ∧ i < 3) (hq : 0 ≤ q ∧ q ≤ 12) : sq (σ 109) i q = sq (ρ 1) i q := sm_c (fun t a b => h.2.1 _ (by omega) (by omega))
theorem b_sm (h : NW σ ρ) : sm (σ 109) 36 = sm (ρ 1) 36 := sm_c (fun t a b => h.2.1 t a b)
theorem b_dm (h : NW σ ρ) {P P' : Int → Bool} (hp : ∀ o, 0 ≤ o → o < ρ 0 5 → P o = P' o) (a b c : Int) : dm (σ 83 5) (σ 84) (σ 85) (σ 112) P a b c = dm (ρ 0 5) (ρ 2) (ρ 3) (fun o => ρ 1 (64 + o)) P' a b c := by
  unfold dm
  rw [h.1]
  exact sm_c (fun o x y => by
    obtain ⟨_, e2, e3, e4, _, _⟩ := h.2.2.2 o x y
    rw [e2, e3, e4, hp o x y])
theorem b_LX (h : NW σ ρ) {P P' : Int → Bool} (hp : ∀ o, 0 ≤ o → o < ρ 0 5 → P o = P' o) {k : Int} (h0 : 0 ≤ k) (h1 : k < 2197) : LX σ P k = LK ρ P' k := by
  unfold LX LK LFT
  rw [b_sq h (by omega) (by omega), b_sq h (by omega) (by omega), b_sq h (by omega) (by omega), b_dm h hp]
theorem b_MEX (h : NW σ ρ) {P P' : Int → Bool} (hp : ∀ o, 0 ≤ o → o < ρ 0 5 → P o = P' o) : MEX σ P ↔ MET ρ P' := by
  unfold MEX MET
  constructor
  · intro z k a b; rw [← b_LX h hp a b]; exact z k a b
  · intro z k a b; rw [b_LX h hp a b]; exact z k a b
theorem b_kd (h : NW σ ρ) (v : Int) {o : Int} (h0 : 0 ≤ o) (h1 : o < ρ 0 5) : kdX σ v o = kdB ρ v o := by
  unfold kdX kdB
  rw [(h.2.2.2 o h0 h1).1]
theorem b_TX (h : NW σ ρ) (v : Int) : TX σ v = TH ρ v := by
  unfold TX TH
  rw [h.1]
  exact bs_c (fun o a b => b_kd h v a b)
theorem b_am (h : NW σ ρ) {P P' : Int → Bool} (hp : ∀ o, 0 ≤ o → o < ρ 0 5 → P o = P' o) (g : Int) : amS (σ 83 5) (σ 84) (σ 87) P g = amS (ρ 0 5) (ρ 2) (ρ 4) P' g := by
  rw [h.1]
  exact amS_c (fun o a b => by
    obtain ⟨_, _, e3, _, e5, _⟩ := h.2.2.2 o a b
    exact ⟨e3, e5, hp o a b⟩)
theorem b_sh (h : NW σ ρ) {g : Int} (h0 : 0 ≤ g) (h1 : g < 4) : σ 110 g * sm (σ 109) 36 / 100 = ρ 1 (36 + g) * sm (ρ 1) 36 / 100 := by rw [h.2.2.1 g h0 h1, b_sm h]
theorem b_kap (h : NW σ ρ) {o : Int} (h0 : 0 ≤ o) (h1 : o < ρ 0 5) : kap (σ 88) o = kap (ρ 5) o := by
  unfold kap
  rw [(h.2.2.2 o h0 h1).2.2.2.2.2]
theorem kf_c {n : Int} {rk rk' : Int → Int} {cd cd' : Int → Bool} {ok ok' : (Int → Bool) → Int → Prop} (h : ∀ q, 0 ≤ q → q < n → kap rk q = kap rk' q ∧ cd q = cd' q ∧ ∀ K, ok K q ↔ ok' K q) : ∀ t, kf n rk cd ok t = kf n rk' cd' ok' t
  | 0 => rfl
  | t + 1 => by
    funext q
    rw [Bool.eq_iff_iff, kf_s, kf_s, kf_c h t]
    constructor
    · rintro (z | ⟨a, b, c, d, e⟩)
      · exact Or.inl z
      · obtain ⟨e1, e2, e3⟩ := h q a b
        exact Or.inr ⟨a, b, by rw [← e1]; exact c, by rw [← e2]; exact d, (e3 _).mp e⟩
    · rintro (z | ⟨a, b, c, d, e⟩)
      · exact Or.inl z
      · obtain ⟨e1, e2, e3⟩ := h q a b
        exact Or.inr ⟨a, b, by rw [e1]; exact c, by rw [e2]; exact d, (e3 _).mpr e⟩
theorem b_KK (h : NW σ ρ) (t : Nat) : KKX σ t = KK ρ t := by
  unfold KKX KK
  rw [h.1]
  exact kf_c (fun q a b => ⟨b_kap h a b, b_kd h 1 a b, fun K => b_MEX h (fun _ _ _ => rfl)⟩) t
theorem b_KP (h : NW σ ρ) (hr : RO ρ) (t : Nat) : KPX σ t = KP ρ t := by
  unfold KPX KP
  rw [h.1]
  refine kf_c (fun q a b => ⟨b_kap h a b, b_kd h 0 a b, fun K => ?_⟩) t
  have hp : ∀ o, 0 ≤ o → o < ρ 0 5 → (kdX σ 1 o || ins K q o) = (kdB ρ 1 o || ins K q o) := fun o x y => by rw [b_kd h 1 x y]
  have hg := hr.2.2.2.2.1 q a (by have := hr.1; omega)
  unfold CANY CANP
  rw [b_am h hp, (h.2.2.2 q a b).2.2.2.2.1, b_sh h hg.1 (by omega), b_MEX h hp]
theorem b_KO (h : NW σ ρ) {o : Int} (h0 : 0 ≤ o) (h1 : o < ρ 0 5) : KOX σ o = KO ρ o := by
  unfold KOX KO
  rw [b_kap h h0 h1, b_KK h]
theorem b_LATE (h : NW σ ρ) {o : Int} (h0 : 0 ≤ o) (h1 : o < ρ 0 5) : LATX σ o ↔ LATE ρ o := by
  unfold LATX LATE
  rw [(h.2.2.2 o h0 h1).1, b_MEX h (P := KOX σ o) (P' := KO ρ o) (fun q _ _ => by rw [b_KO h h0 h1])]
end NWs
