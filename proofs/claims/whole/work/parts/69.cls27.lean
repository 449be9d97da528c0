/-- picked among the first k: what is told of picks alone -/
def PKE (σ ρ : St) (k : Int) : Prop := ρ 94 5 = cnt k (kdX σ 0) ∧
  (∀ j, 0 ≤ j → j < cnt k (kdX σ 0) → (0 ≤ ρ 95 j ∧ ρ 95 j < k) ∧ kdX σ 0 (ρ 95 j) = true ∧ cnt (ρ 95 j) (kdX σ 0) = j) ∧
  ∀ i q, 0 ≤ i → i < 3 → 0 ≤ q → q < 13 → (0 ≤ ρ 98 (13 * i + q) ∧ ρ 98 (13 * i + q) < pw (cnt k (kdX σ 0))) ∧ ∀ j, 0 ≤ j → j < cnt k (kdX σ 0) → tb (ρ 98 (13 * i + q)) j = decide (FI (σ 85 (ρ 95 j)) (σ 112 (ρ 95 j)) i ≤ q)
theorem cnt_1 {A : Int → Bool} {a : Int} (h : 0 ≤ a) (hA : A a = true) : cnt (a + 1) A = cnt a A + 1 := by rw [cnt_s h, hA, bI_t]
theorem cnt_inj {A : Int → Bool} {a b : Int} (ha : 0 ≤ a) (hb : 0 ≤ b) (hA : A a = true) (hB : A b = true) (h : cnt a A = cnt b A) : a = b := by
  rcases Int.lt_trichotomy a b with z | z | z
  · have := cnt_mono (K := A) (a := a + 1) (b := b) (by omega) (by omega)
    rw [cnt_1 ha hA] at this
    omega
  · exact z
  · have := cnt_mono (K := A) (a := b + 1) (b := a) (by omega) (by omega)
    rw [cnt_1 hb hB] at this
    omega
/-- sums over those that are something, by how manieth they are -/
theorem sm_re {A : Int → Bool} {pk : Int → Int} {n : Int} (hn : 0 ≤ n) (hpk : ∀ j, 0 ≤ j → j < cnt n A → (0 ≤ pk j ∧ pk j < n) ∧ A (pk j) = true ∧ cnt (pk j) A = j) (g : Int → Int → Int) : sm (fun o => if A o = true then g (cnt o A) o else 0) n = sm (fun j => g j (pk j)) (cnt n A) := by
  have key : ∀ m, 0 ≤ m → m ≤ n → sm (fun o => if A o = true then g (cnt o A) o else 0) m = sm (fun j => g j (pk j)) (cnt m A) := int_ind (P := fun m => m ≤ n → sm (fun o => if A o = true then g (cnt o A) o else 0) m = sm (fun j => g j (pk j)) (cnt m A)) (fun _ => rfl) (fun k h0 ih hk => by
    rw [sm_s h0, ih (by omega)]
    by_cases z : A k = true
    · have hc := cnt_rng (K := A) h0
      rw [if_pos z, cnt_1 h0 z, sm_s hc.1]
      have hle := cnt_mono (K := A) (a := k + 1) (b := n) (by omega) (by omega)
      rw [cnt_1 h0 z] at hle
      have h1 := hpk (cnt k A) hc.1 (by omega)
      have e : pk (cnt k A) = k := cnt_inj h1.1.1 h0 h1.2.1 z h1.2.2
      show _ = _ + g (cnt k A) (pk (cnt k A))
      rw [e]
    · rw [if_neg z, cnt_s h0, Bool.eq_false_iff.mpr z, bI_f, Int.add_zero, Int.add_zero])
  exact key n hn (Int.le_refl n)
theorem pc_bs {P : Int → Bool} {n : Int} (hn : 0 ≤ n ∧ n ≤ 32) : pc (bsum P n) = cnt n P := by
  rw [pc_sum]
  have e : sm (fun o => bI (tb (bsum P n) o = true)) 32 = sm (fun t => if t < n then bI (P t = true) else 0) 32 := sm_c (fun o a _ => by
    rw [tb_bs hn.1 a]
    by_cases z : o < n
    · rw [if_pos z, decide_eq_true z, Bool.true_and]
    · rw [if_neg z, decide_eq_false z, Bool.false_and]
      rfl)
  rw [e, sm_cut hn]
  rfl
/-- of those asked the ones of a set of places among them, as the class has it -/
def TKF (σ : St) (w : Int) : Int → Bool := fun o => kdX σ 0 o && tb w (cnt o (kdX σ 0))
def FVX (σ : St) (k : Int) : Int := amS (σ 83 5) (σ 84) (σ 87) (TKF σ k) (-1)
def FCX (σ : St) (k : Int) : Prop := (∀ o, 0 ≤ o → o < σ 83 5 → TKF σ k o = true → amS (σ 83 5) (σ 84) (σ 87) (fun q => TKF σ k q || kdX σ 1 q) (σ 87 o) ≤ σ 110 (σ 87 o) * sm (σ 109) 36 / 100) ∧ MEX σ (fun q => TKF σ k q || kdX σ 1 q)
/-- two sets apart -/
theorem sm_or {n : Int} {P Q : Int → Bool} {f : Int → Int} (h : ∀ o, 0 ≤ o → o < n → ¬ (P o = true ∧ Q o = true)) : sm (fun o => if (P o || Q o) = true then f o else 0) n = sm (fun o => if P o = true then f o else 0) n + sm (fun o => if Q o = true then f o else 0) n := by
  rw [← sm_add]
  exact sm_c (fun o a b => by
    cases hp : P o
    · rw [Bool.false_or, if_neg Bool.false_ne_true, Int.zero_add]
    · have hq : Q o = false := by
        cases hq : Q o
        · rfl
        · exact absurd ⟨hp, hq⟩ (h o a b)
      rw [hq, Bool.true_or, if_pos rfl, if_neg Bool.false_ne_true, Int.add_zero])
theorem apart {σ : St} {w o : Int} : ¬ (TKF σ w o = true ∧ kdX σ 1 o = true) := by
  rintro ⟨a, b⟩
  unfold TKF at a
  rw [Bool.and_eq_true] at a
  have a1 : σ 111 o = 0 := decide_eq_true_eq.mp a.1
  have b1 : σ 111 o = 1 := decide_eq_true_eq.mp b
  omega
theorem SW_FV {σ ρ : St} (h : PKE σ ρ (σ 83 5)) (hn : 0 ≤ σ 83 5) (w : Int) : SWj σ ρ w (cnt (σ 83 5) (kdX σ 0)) = FVX σ w := by
  have e := sm_re hn h.2.1 (fun j o => if tb w j = true then σ 84 o else 0)
  unfold SWj FVX amS
  rw [← e]
  exact sm_c (fun o _ _ => by
    unfold TKF
    cases hA : kdX σ 0 o
    · rw [if_neg Bool.false_ne_true, Bool.false_and, if_neg (show ¬ (false = true ∧ ((-1 : Int) < 0 ∨ σ 87 o = -1)) from fun z => Bool.noConfusion z.1)]
    · rw [if_pos rfl, Bool.true_and]
      cases ht : tb w (cnt o (kdX σ 0))
      · rw [if_neg Bool.false_ne_true, if_neg (show ¬ (false = true ∧ ((-1 : Int) < 0 ∨ σ 87 o = -1)) from fun z => Bool.noConfusion z.1)]
      · rw [if_pos rfl, if_pos ⟨rfl, Or.inl (by decide)⟩])
theorem TK_am {σ ρ : St} (h : PKE σ ρ (σ 83 5)) (hn : 0 ≤ σ 83 5) (w : Int) {g : Int} (hg : 0 ≤ g) : TKj σ ρ w g (cnt (σ 83 5) (kdX σ 0)) = amS (σ 83 5) (σ 84) (σ 87) (TKF σ w) g := by
  have e := sm_re hn h.2.1 (fun j o => if tb w j = true ∧ σ 87 o = g then σ 84 o else 0)
  unfold TKj amS
  rw [← e]
  exact sm_c (fun o _ _ => by
    unfold TKF
    cases hA : kdX σ 0 o
    · rw [if_neg Bool.false_ne_true, Bool.false_and, if_neg (show ¬ (false = true ∧ (g < 0 ∨ σ 87 o = g)) from fun z => Bool.noConfusion z.1)]
    · rw [if_pos rfl, Bool.true_and]
      by_cases z : tb w (cnt o (kdX σ 0)) = true ∧ σ 87 o = g
      · rw [if_pos z, if_pos ⟨z.1, Or.inr z.2⟩]
      · rw [if_neg z, if_neg (show ¬ (tb w (cnt o (kdX σ 0)) = true ∧ (g < 0 ∨ σ 87 o = g)) from fun y => z ⟨y.1, y.2.resolve_left (by omega)⟩)])
/-- what a set takes at a place -/
theorem SW_dm {σ ρ : St} (hX : XO σ) (h : PKE σ ρ (σ 83 5)) (hc8 : cnt (σ 83 5) (kdX σ 0) ≤ 8) {w j : Int} (hw : 0 ≤ w ∧ w ≤ 255) (h0 : 0 ≤ j) (h1 : j < 2197) : SWj σ ρ (iand w (prX ρ j)) (cnt (σ 83 5) (kdX σ 0)) = dm (σ 83 5) (σ 84) (σ 85) (σ 112) (TKF σ w) (j / 169) (j / 13 % 13) (j % 13) := by
  have hn := hX.1
  have hp8 : pw (cnt (σ 83 5) (kdX σ 0)) ≤ pw 8 := pw_le hc8
  have e8 : pw 8 = 256 := by decide
  have h98 : ∀ i q, 0 ≤ i → i < 3 → 0 ≤ q → q < 13 → 0 ≤ ρ 98 (13 * i + q) ∧ ρ 98 (13 * i + q) < 256 := fun i q a b c d => by have := (h.2.2 i q a b c d).1; omega
  have a0 := h98 0 (j / 169) (by decide) (by decide) (by omega) (by omega)
  have a1 := h98 1 (j / 13 % 13) (by decide) (by decide) (by omega) (by omega)
  have a2 := h98 2 (j % 13) (by decide) (by decide) (by omega) (by omega)
  rw [show 13 * 0 + j / 169 = j / 169 by omega] at a0
  have b0 := iand_le (a := ρ 98 (j / 169)) (b := ρ 98 (13 * 1 + j / 13 % 13)) a0.1 a1.1 (by omega) (by omega)
  have b1 := iand_le (a := iand (ρ 98 (j / 169)) (ρ 98 (13 * 1 + j / 13 % 13))) (b := ρ 98 (13 * 2 + j % 13)) b0.1 a2.1 (by omega) (by omega)
  have hpr : prX ρ j = iand (iand (ρ 98 (j / 169)) (ρ 98 (13 * 1 + j / 13 % 13))) (ρ 98 (13 * 2 + j % 13)) := rfl
  rw [hpr]
  have e := sm_re hn.1 h.2.1 (fun t o => if tb (iand w (iand (iand (ρ 98 (j / 169)) (ρ 98 (13 * 1 + j / 13 % 13))) (ρ 98 (13 * 2 + j % 13)))) t = true then σ 84 o else 0)
  unfold SWj dm
  rw [← e]
  exact sm_c (fun o x y => by
    unfold TKF
    cases hA : kdX σ 0 o
    · rw [if_neg Bool.false_ne_true, Bool.false_and, Bool.false_and, if_neg Bool.false_ne_true]
    · rw [if_pos rfl, Bool.true_and]
      have hco := cnt_rng (K := kdX σ 0) x
      have hcn := cnt_mono (K := kdX σ 0) (a := o + 1) (b := σ 83 5) (by omega) (by omega)
      rw [cnt_1 x hA] at hcn
      have hpo := h.2.1 (cnt o (kdX σ 0)) hco.1 (by omega)
      have epo : ρ 95 (cnt o (kdX σ 0)) = o := cnt_inj hpo.1.1 x hpo.2.1 hA hpo.2.2
      have t0 := (h.2.2 0 (j / 169) (by decide) (by decide) (by omega) (by omega)).2 (cnt o (kdX σ 0)) hco.1 (by omega)
      have t1 := (h.2.2 1 (j / 13 % 13) (by decide) (by decide) (by omega) (by omega)).2 (cnt o (kdX σ 0)) hco.1 (by omega)
      have t2 := (h.2.2 2 (j % 13) (by decide) (by decide) (by omega) (by omega)).2 (cnt o (kdX σ 0)) hco.1 (by omega)
      rw [epo] at t0 t1 t2
      rw [show 13 * 0 + j / 169 = j / 169 by omega] at t0
      rw [tb_iand ⟨by omega, by omega⟩ ⟨by omega, by omega⟩, tb_iand ⟨by omega, by omega⟩ ⟨by omega, by omega⟩, tb_iand ⟨by omega, by omega⟩ ⟨by omega, by omega⟩, t0, t1, t2]
      have eS := hSb_FI (it := σ 85 o) (la := σ 112 o) (a := j / 169) (b := j / 13 % 13) (c := j % 13) (by omega) (by omega) (by omega)
      have e2 : (decide (FI (σ 85 o) (σ 112 o) 0 ≤ j / 169) && decide (FI (σ 85 o) (σ 112 o) 1 ≤ j / 13 % 13) && decide (FI (σ 85 o) (σ 112 o) 2 ≤ j % 13)) = hSb (σ 85 o) (σ 112 o) (j / 169) (j / 13 % 13) (j % 13) := by
        rw [Bool.eq_iff_iff, eS]
        simp only [Bool.and_eq_true, decide_eq_true_eq, and_assoc]
      rw [e2])
/-- what the tightest places tell -/
theorem MT_all {σ ρ τ : St} (hX : XO σ) (hpi : PKE σ ρ (σ 83 5)) (hsw : ∀ w, 0 ≤ w → w < 256 → ρ 96 w = SWj σ ρ w (cnt (σ 83 5) (kdX σ 0))) (hc8 : cnt (σ 83 5) (kdX σ 0) ≤ 8) (hl : ∀ k, 0 ≤ k → k < 2197 → ρ 92 k = LX σ (kdX σ 1) k) (ht : TGI ρ τ 2197) {w : Int} (hw : 0 ≤ w ∧ w ≤ 255) : (∀ p, 0 ≤ p → p < 256 → τ 96 (iand w p) ≤ τ 97 p) ↔ MEX σ (fun q => TKF σ w q || kdX σ 1 q) := by
  have hn := hX.1
  have hp8 : pw (cnt (σ 83 5) (kdX σ 0)) ≤ pw 8 := pw_le hc8
  have e8 : pw 8 = 256 := by decide
  have hs := cnt_rng (K := kdX σ 0) hn.1
  have h98 : ∀ b, 0 ≤ b → b < 39 → 0 ≤ ρ 98 b ∧ ρ 98 b < 256 := fun b x y => by
    have := (hpi.2.2 (b / 13) (b % 13) (by omega) (by omega) (by omega) (by omega)).1
    rw [show 13 * (b / 13) + b % 13 = b by omega] at this
    omega
  have hia : ∀ p, 0 ≤ p → p < 256 → 0 ≤ iand w p ∧ iand w p < 256 := fun p a b => by have := iand_le (a := w) (b := p) hw.1 a (by omega) (by omega); omega
  have e96 : ∀ v, 0 ≤ v → v < 256 → τ 96 v = SWj σ ρ v (cnt (σ 83 5) (kdX σ 0)) := fun v a b => by rw [ht.1 96 v (by decide)]; exact hsw v a b
  have hor : ∀ j, LX σ (fun q => TKF σ w q || kdX σ 1 q) j = LX σ (kdX σ 1) j - dm (σ 83 5) (σ 84) (σ 85) (σ 112) (TKF σ w) (j / 169) (j / 13 % 13) (j % 13) := fun j => by
    have e : dm (σ 83 5) (σ 84) (σ 85) (σ 112) (fun q => TKF σ w q || kdX σ 1 q) (j / 169) (j / 13 % 13) (j % 13) = dm (σ 83 5) (σ 84) (σ 85) (σ 112) (TKF σ w) (j / 169) (j / 13 % 13) (j % 13) + dm (σ 83 5) (σ 84) (σ 85) (σ 112) (kdX σ 1) (j / 169) (j / 13 % 13) (j % 13) := by
      have e1 := sm_or (n := σ 83 5) (P := fun o => TKF σ w o && hSb (σ 85 o) (σ 112 o) (j / 169) (j / 13 % 13) (j % 13)) (Q := fun o => kdX σ 1 o && hSb (σ 85 o) (σ 112 o) (j / 169) (j / 13 % 13) (j % 13)) (f := σ 84) (fun o _ _ z => by
        rw [Bool.and_eq_true, Bool.and_eq_true] at z
        exact apart ⟨z.1.1, z.2.1⟩)
      unfold dm
      rw [← e1]
      exact sm_c (fun o _ _ => by rw [Bool.and_or_distrib_right])
    unfold LX LFT
    rw [e]
    omega
  constructor
  · intro h j a b
    have hpr := prX_rg h98 a b
    have h1 := h (prX ρ j) hpr.1 hpr.2
    have h2 := (ht.2 (prX ρ j) hpr.1 hpr.2).1 j a b rfl
    have h3 := hia (prX ρ j) hpr.1 hpr.2
    rw [e96 _ h3.1 h3.2, SW_dm hX hpi hc8 hw a b] at h1
    rw [hl j a b] at h2
    rw [hor j]
    omega
  · intro h p a b
    have h3 := hia p a b
    rw [e96 _ h3.1 h3.2]
    rcases (ht.2 p a b).2 with e | ⟨j, x, y, z, e⟩
    · have := (SWj_rg (σ := σ) (τ := ρ) (w := iand w p) hs.1 (fun t x y => by
        have hpt := hpi.2.1 t x y
        exact (hX.2.2 (ρ 95 t) hpt.1.1 hpt.1.2).2.2.1)).2
      omega
    · have h4 := h j x y
      rw [hor j] at h4
      rw [e, hl j x y, ← z, SW_dm hX hpi hc8 hw x y]
      omega
theorem RM_all {σ ρ τ : St} (hX : XO σ) (h1 : ∀ o, 0 ≤ o → o < σ 83 5 → 1 ≤ σ 84 o) (hd : PKE σ ρ (σ 83 5)) (h95 : τ 95 = ρ 95) (hr : ∀ g, 0 ≤ g → g < 4 → τ 105 g = ROOM σ g (kdX σ 1)) {w : Int} : HRM σ τ (cnt (σ 83 5) (kdX σ 0)) w ↔ ∀ o, 0 ≤ o → o < σ 83 5 → TKF σ w o = true → amS (σ 83 5) (σ 84) (σ 87) (fun q => TKF σ w q || kdX σ 1 q) (σ 87 o) ≤ σ 110 (σ 87 o) * sm (σ 109) 36 / 100 := by
  have hn := hX.1
  have e0 : ∀ g, 0 ≤ g → TKj σ τ w g (cnt (σ 83 5) (kdX σ 0)) = amS (σ 83 5) (σ 84) (σ 87) (TKF σ w) g := fun g a => by
    rw [← TK_am hd hn.1 w a]
    unfold TKj
    rw [h95]
  have hor : ∀ g, amS (σ 83 5) (σ 84) (σ 87) (fun q => TKF σ w q || kdX σ 1 q) g = amS (σ 83 5) (σ 84) (σ 87) (TKF σ w) g + amS (σ 83 5) (σ 84) (σ 87) (kdX σ 1) g := fun g => by
    have e1 := sm_or (n := σ 83 5) (P := fun o => TKF σ w o && decide (g < 0 ∨ σ 87 o = g)) (Q := fun o => kdX σ 1 o && decide (g < 0 ∨ σ 87 o = g)) (f := σ 84) (fun o _ _ z => by
      rw [Bool.and_eq_true, Bool.and_eq_true] at z
      exact apart ⟨z.1.1, z.2.1⟩)
    have e2 : ∀ P : Int → Bool, amS (σ 83 5) (σ 84) (σ 87) P g = sm (fun o => if (P o && decide (g < 0 ∨ σ 87 o = g)) = true then σ 84 o else 0) (σ 83 5) := fun P => sm_c (fun o _ _ => by
      by_cases z : P o = true ∧ (g < 0 ∨ σ 87 o = g)
      · rw [if_pos z, if_pos (by rw [Bool.and_eq_true, decide_eq_true_eq]; exact z)]
      · rw [if_neg z, if_neg (by rw [Bool.and_eq_true, decide_eq_true_eq]; exact z)])
    rw [e2, e2, e2, ← e1]
    exact sm_c (fun o _ _ => by rw [Bool.and_or_distrib_right])
  unfold HRM
  constructor
  · intro h o a b z
    have hg := (hX.2.2 o a b).2.2.2.2.2.1
    have h2 := h (σ 87 o) hg.1 (by omega)
    rw [e0 _ hg.1, hr _ hg.1 (by omega)] at h2
    have hpos : 0 < amS (σ 83 5) (σ 84) (σ 87) (TKF σ w) (σ 87 o) := by
      have h3 := sm_one (f := fun o1 => if TKF σ w o1 = true ∧ (σ 87 o < 0 ∨ σ 87 o1 = σ 87 o) then σ 84 o1 else 0) (n := σ 83 5) (k := o) a b (fun j x y => by have := (hX.2.2 j x y).2.2.1; split <;> omega)
      have h4 : (if TKF σ w o = true ∧ (σ 87 o < 0 ∨ σ 87 o = σ 87 o) then σ 84 o else 0) = σ 84 o := if_pos ⟨z, Or.inr rfl⟩
      have h5 := h1 o a b
      unfold amS
      have h6 : (if TKF σ w o = true ∧ (σ 87 o < 0 ∨ σ 87 o = σ 87 o) then σ 84 o else 0) ≤ sm (fun o1 => if TKF σ w o1 = true ∧ (σ 87 o < 0 ∨ σ 87 o1 = σ 87 o) then σ 84 o1 else 0) (σ 83 5) := h3
      rw [h4] at h6
      omega
    have h3 := h2 hpos
    rw [hor]
    unfold ROOM at h3
    omega
  · intro h g a b z
    rw [e0 g a] at z ⊢
    rw [hr g a b]
    -- some order of the set is of the group
    have hex : ∃ o, 0 ≤ o ∧ o < σ 83 5 ∧ TKF σ w o = true ∧ σ 87 o = g := by
      refine Classical.byContradiction (fun hno => ?_)
      have e : amS (σ 83 5) (σ 84) (σ 87) (TKF σ w) g = sm (fun _ => 0) (σ 83 5) := sm_c (fun o x y => if_neg (fun q => hno ⟨o, x, y, q.1, q.2.resolve_left (by omega)⟩))
      rw [e, sm_k hn.1, Int.mul_zero] at z
      omega
    obtain ⟨o, x, y, q, e⟩ := hex
    have h2 := h o x y q
    rw [e, hor] at h2
    unfold ROOM
    omega
theorem FB_c {C C' : Int → Prop} {V V' : Int → Int} {N i m : Int} (e : ∀ k, 1 ≤ k → k < N → (C k ↔ C' k) ∧ V k = V' k) (h : FB C V N i m) : FB C' V' N i m := by
  obtain ⟨a1, a2, a3⟩ := h
  refine ⟨?_, fun k x y z => ?_, fun k x y z => ?_⟩
  · rcases a1 with q | ⟨x1, x2, x3, x4, x5⟩
    · exact Or.inl q
    · exact Or.inr ⟨x1, x2, (e i x1 x2).1.mp x3, by rw [← (e i x1 x2).2]; exact x4, x5⟩
  · rw [← (e k x y).2]
    exact a2 k x y ((e k x y).1.mpr z)
  · have hk : k < N := by
      rcases a1 with q | q
      · omega
      · have := q.2.1; omega
    rw [← (e k x hk).2]
    exact a3 k x y ((e k x hk).1.mpr z)
/-- the rooms of the first groups -/
def RMk (σ : St) (k : Int) : St := fun a b => if a = 105 ∧ 0 ≤ b ∧ b < k then ROOM σ b (kdX σ 1) else σ a b
theorem RM_0 {σ : St} : σ = RMk σ 0 := by
  funext a b
  unfold RMk
  rw [if_neg (by omega)]
theorem RM_s {σ : St} {k : Int} (h : 0 ≤ k) : put (RMk σ k) 105 k (ROOM σ k (kdX σ 1)) = RMk σ (k + 1) := by
  funext a b
  by_cases q : a = 105 ∧ b = k
  · rw [q.1, q.2, put_s]
    unfold RMk
    rw [if_pos (by omega)]
  · rw [put_q q]
    unfold RMk
    by_cases z : a = 105 ∧ 0 ≤ b ∧ b < k
    · rw [if_pos z, if_pos (by omega)]
    · rw [if_neg z, if_neg (by omega)]
theorem EQ_RM {σ : St} {k : Int} : EQ (RMk σ k) σ := fun a b x => by
  unfold RMk
  rw [if_neg (fun z => by rw [z.1] at x; cases x)]
theorem EQ_F9 {σ ρ τ : St} (h : EQ ρ σ) (h2 : F9 τ ρ) : EQ τ σ := fun a b x => by
  rw [← h a b x]
  exact h2 a b (fun z => by rw [z.1] at x; rcases z.2 with e | e <;> rw [e] at x <;> cases x) (fun z => by
    rcases (show a = 95 ∨ a = 96 ∨ a = 97 ∨ a = 98 ∨ a = 99 by omega) with e | e | e | e | e <;> rw [e] at x <;> cases x)
