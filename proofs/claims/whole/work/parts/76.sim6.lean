/-! BOTH SIDES: a change noted -/
/-- the state that a change is kept in -/
def chT (κ : St) : Nat := (NT2 (put κ 82 12 0) 107 (NT2 (put κ 82 12 0) 106 1)).toNat
theorem chT_rg {κ : St} (h : XL κ) : 2 ≤ chT κ ∧ chT κ ≤ 14 := by
  have hL : XL (put κ 82 12 0) := XL_c h (fun a b z => put_q (by omega))
  have e1 := NT_1 (σ := put κ 82 12 0)
  have h1 := hL.1
  have hr := NT_L hL.2 (NT2 (put κ 82 12 0) 106 1) (by rw [e1]; split <;> omega) (by rw [e1]; split <;> omega)
  unfold chT
  omega
theorem NT2_o {κ : St} {a : Nat} {b : Int} (h : a ≠ 106) (h2 : a ≠ 107) : NT2 κ a b = κ a b := by
  unfold NT2 NT1
  rw [put_i h]
  split
  · exact put_i h
  · unfold DROP
    rw [if_neg (fun z => h2 z.1), if_neg (fun z => h2 z.1)]
/-- another state than the one that the change is kept in -/
theorem NCH_st {κ : St} (h : XL κ) {a t : Nat} {b : Int} (ha : 108 + 5 * t ≤ a ∧ a ≤ 112 + 5 * t) (hne : t ≠ chT κ) : NCH κ a b = κ a b := by
  unfold NCH NOTE
  have hT : chT κ = (NT2 (put κ 82 12 0) 107 (NT2 (put κ 82 12 0) 106 1)).toNat := rfl
  rw [← hT, CPY_o (by omega), NT2_o (by omega) (by omega), put_q (by omega)]
/-- the state that the change is kept in -/
theorem NCH_new {κ : St} (h : XL κ) : NCH κ (108 + 5 * chT κ) 4 = κ 83 5 ∧ (∀ b, 0 ≤ b → b < 36 → NCH κ (109 + 5 * chT κ) b = κ 109 b) ∧ (∀ b, 0 ≤ b → b < 4 → NCH κ (110 + 5 * chT κ) b = κ 110 b) ∧ ∀ b, 0 ≤ b → b < κ 83 5 → NCH κ (111 + 5 * chT κ) b = κ 111 b ∧ NCH κ (112 + 5 * chT κ) b = κ 112 b := by
  have hT : chT κ = (NT2 (put κ 82 12 0) 107 (NT2 (put κ 82 12 0) 106 1)).toNat := rfl
  have e : ∀ a : Nat, ∀ b : Int, 108 ≤ a → NT2 (put κ 82 12 0) a b = κ a b := fun a b z => by rw [NT2_o (by omega) (by omega), put_q (by omega)]
  unfold NCH NOTE
  rw [← hT]
  refine ⟨?_, fun b x y => ?_, fun b x y => ?_, fun b x y => ⟨?_, ?_⟩⟩
  · rw [CPY_at, if_neg (by omega), if_neg (by omega), if_neg (by omega), if_neg (by omega), if_pos ⟨rfl, rfl⟩]
  · rw [CPY_at, if_pos ⟨rfl, x, y⟩, e _ _ (by omega)]
  · rw [CPY_at, if_neg (by omega), if_pos ⟨rfl, x, y⟩, e _ _ (by omega)]
  · rw [CPY_at, if_neg (by omega), if_neg (by omega), if_pos ⟨rfl, x, y⟩, e _ _ (by omega)]
  · rw [CPY_at, if_neg (by omega), if_neg (by omega), if_neg (by omega), if_pos ⟨rfl, x, y⟩, e _ _ (by omega)]
theorem NCH_7 {κ : St} (h : XL κ) {b : Int} : NCH κ 107 b = NT2 (put κ 82 12 0) 107 b ∧ NCH κ 106 b = NT2 (put κ 82 12 0) 106 b := by
  have hr := chT_rg h
  have hT : chT κ = (NT2 (put κ 82 12 0) 107 (NT2 (put κ 82 12 0) 106 1)).toNat := rfl
  unfold NCH NOTE
  rw [← hT, CPY_o (by omega), CPY_o (by omega)]
  exact ⟨rfl, rfl⟩
theorem NT2_7 {κ : St} {k : Int} (h0 : 0 ≤ k) (h1 : k < 13) : NT2 (put κ 82 12 0) 107 k = if κ 106 1 < 12 then κ 107 k else if k < 12 then κ 107 (k + 1) else κ 107 0 := by
  have e1 : put κ 82 12 0 106 1 = κ 106 1 := rfl
  unfold NT2 NT1
  rw [put_i (by decide), e1]
  by_cases z : κ 106 1 < 12
  · rw [if_pos z, if_pos z, put_i (by decide), put_i (by decide)]
  · rw [if_neg z, if_neg z]
    unfold DROP
    by_cases y : k < 12
    · rw [if_pos ⟨rfl, h0, y⟩, if_pos y]; rfl
    · rw [if_neg (by omega), if_neg y, if_pos ⟨rfl, by omega⟩]; rfl
/-- rows: what a change leaves of the reference's -/
theorem CG_at {σ : St} {w : Int → Int} (hd : 0 ≤ σ 0 11 ∧ σ 0 11 ≤ 12) : (0 ≤ cgE σ ∧ cgE σ < 12) ∧ CG σ w 0 11 = cgE σ + 1 ∧ CG σ w 0 10 = cgE σ + 1 ∧ CG σ w 8 (cgE σ) = σ 0 5 ∧ (∀ b, 0 ≤ b → b < 88 → CG σ w (22 + (cgE σ).toNat) b = σ 1 b ∧ CG σ w (34 + (cgE σ).toNat) b = w b) ∧
    (∀ i, 0 ≤ i → i < 12 → i ≠ cgE σ → CG σ w 8 i = if σ 0 11 = 12 then σ 8 (i + 1) else σ 8 i) ∧
    ∀ i, 0 ≤ i → i < cgE σ → ∀ b, 0 ≤ b → b < 88 → CG σ w (22 + i.toNat) b = (if σ 0 11 = 12 then σ (22 + (i + 1).toNat) b else σ (22 + i.toNat) b) ∧ CG σ w (34 + i.toNat) b = (if σ 0 11 = 12 then σ (34 + (i + 1).toNat) b else σ (34 + i.toNat) b) := by
  have hE : 0 ≤ cgE σ ∧ cgE σ < 12 := by unfold cgE; split <;> omega
  refine ⟨hE, ?_, ?_, ?_, fun b x y => ⟨?_, ?_⟩, fun i x y z => ?_, fun i x y b p q => ⟨?_, ?_⟩⟩
  · unfold CG
    rw [if_neg (by omega), if_neg (by omega), if_neg (by omega), if_neg (by omega), if_pos ⟨rfl, Or.inr rfl⟩]
  · unfold CG
    rw [if_neg (by omega), if_neg (by omega), if_neg (by omega), if_neg (by omega), if_pos ⟨rfl, Or.inl rfl⟩]
  · unfold CG
    rw [if_neg (by omega), if_neg (by omega), if_neg (by omega), if_pos ⟨rfl, rfl⟩]
  · unfold CG
    rw [if_pos ⟨rfl, x, y⟩]
  · unfold CG
    rw [if_neg (by omega), if_pos ⟨rfl, x, y⟩]
  · unfold CG
    rw [if_neg (by omega), if_neg (by omega), if_neg (by omega), if_neg (by omega), if_neg (by omega)]
    unfold cgS
    by_cases w12 : σ 0 11 = 12
    · have hE11 : cgE σ = 11 := if_pos w12
      rw [if_pos w12, if_pos w12]
      unfold SHk
      rw [if_neg (by omega), if_neg (by omega), if_pos (by omega)]
    · rw [if_neg w12, if_neg w12]
  · unfold CG
    rw [if_neg (by omega), if_neg (by omega), if_neg (by omega), if_neg (by omega), if_neg (by omega)]
    unfold cgS
    by_cases w12 : σ 0 11 = 12
    · have hE11 : cgE σ = 11 := if_pos w12
      rw [if_pos w12, if_pos w12]
      unfold SHk
      rw [if_pos (by omega), show 22 + i.toNat + 1 = 22 + (i + 1).toNat by omega]
    · rw [if_neg w12, if_neg w12]
  · unfold CG
    rw [if_neg (by omega), if_neg (by omega), if_neg (by omega), if_neg (by omega), if_neg (by omega)]
    unfold cgS
    by_cases w12 : σ 0 11 = 12
    · have hE11 : cgE σ = 11 := if_pos w12
      rw [if_pos w12, if_pos w12]
      unfold SHk
      rw [if_neg (by omega), if_pos (by omega), show 34 + i.toNat + 1 = 34 + (i + 1).toNat by omega]
    · rw [if_neg w12, if_neg w12]
theorem SEQ_f {σ : St} {t : Nat} {f f' : Int → Int} {m : Int} (h : SEQ σ t f m) (hm : m ≤ 24) (e : ∀ b, 0 ≤ b → b < 88 → f' b = f b) : SEQ σ t f' m := by
  obtain ⟨a, b, c⟩ := h
  exact ⟨fun j x y => by rw [e _ (by omega) (by omega)]; exact a j x y, fun g x y => by rw [e _ (by omega) (by omega)]; exact b g x y, fun o x y => by rw [e _ (by omega) (by omega), e _ (by omega) (by omega)]; exact c o x y⟩
theorem ASKD_f {σ : St} {f f' : Int → Int} {lo hi : Int} (h : ASKD σ f lo hi) (h0 : 0 ≤ lo) (hm : hi ≤ 24) (e : ∀ b, 0 ≤ b → b < 88 → f' b = f b) : ASKD σ f' lo hi := fun o x y => by
  rw [e _ (by omega) (by omega), e _ (by omega) (by omega)]
  exact h o x y
/-- a state's cells are another's -/
theorem SEQ_s {σ ρ : St} {t : Nat} {f : Int → Int} {m : Int} (h : SEQ σ t f m) (e : ∀ (a : Nat) (b : Int), 108 + 5 * t ≤ a ∧ a ≤ 112 + 5 * t → ρ a b = σ a b) : SEQ ρ t f m := by
  obtain ⟨a, b, c⟩ := h
  exact ⟨fun j x y => by rw [e _ _ (by omega)]; exact a j x y, fun g x y => by rw [e _ _ (by omega)]; exact b g x y, fun o x y => by rw [e _ _ (by omega), e _ _ (by omega)]; exact c o x y⟩
theorem SOK_s {σ ρ : St} {t : Nat} (h : SOK σ t) (e : ∀ (a : Nat) (b : Int), 108 + 5 * t ≤ a ∧ a ≤ 112 + 5 * t → ρ a b = σ a b) (h5 : σ 83 5 ≤ ρ 83 5) : SOK ρ t := by
  obtain ⟨a, b, c, d⟩ := h
  unfold SOK
  rw [e (108 + 5 * t) 4 (by omega)]
  exact ⟨⟨a.1, by have := a.2; omega⟩, fun j x y => by rw [e _ _ (by omega)]; exact b j x y, fun j x y => by rw [e _ _ (by omega)]; exact c j x y, fun o x y => by rw [e _ _ (by omega), e _ _ (by omega)]; exact d o x y⟩
