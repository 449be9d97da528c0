/-- all but what fillings write -/
def F9 (ρ σ : St) : Prop := ∀ a b, ¬ (a = 94 ∧ (b = 5 ∨ b = 6)) → ¬ (95 ≤ a ∧ a ≤ 99) → ρ a b = σ a b
theorem F9_0 {σ : St} : F9 σ σ := fun _ _ _ _ => rfl
theorem F9_t {σ ρ τ : St} (h : F9 ρ σ) (h2 : F9 τ ρ) : F9 τ σ := fun a b x y => (h2 a b x y).trans (h a b x y)
theorem F9_h {σ ρ : St} (h : F9 ρ σ) {a : Nat} (ha : ¬ (94 ≤ a ∧ a ≤ 99)) : ρ a = σ a := funext fun b => h a b (by omega) (by omega)
theorem cnt_mono {K : Int → Bool} {a b : Int} (h0 : 0 ≤ a) (h : a ≤ b) : cnt a K ≤ cnt b K := sm_mono h0 h (fun k _ _ => by rcases bI_rng (b := K k = true) with z | z <;> omega)
theorem tb_addpw {c s j : Int} (h0 : 0 ≤ c) (h1 : c < pw s) (hs : 0 ≤ s ∧ s ≤ 24) (hj : 0 ≤ j) : tb (c + pw s) j = (tb c j || decide (j = s)) := by
  have hp : pw s ≤ pw 24 := pw_le hs.2
  have h24 : pw 24 = 16777216 := by decide
  rw [← ior_pw h0 h1 hs.1 (by omega), tb_ior ⟨h0, by omega⟩ (pw_b (by omega)), tb_pw hs.1 hj]
/-- numbers' sets with one more order, the first of them -/
def CTk (ρ : St) (f : Int → Int) (s i q : Int) : St := fun a b => if a = 98 ∧ (0 ≤ b ∧ b < 39) ∧ (b / 13 < i ∨ (b / 13 = i ∧ b % 13 < q)) ∧ f (b / 13) ≤ b % 13 then ρ 98 b + pw s else ρ a b
theorem CT_0 {ρ : St} {f : Int → Int} {s : Int} : ρ = CTk ρ f s 0 0 := by
  funext a b
  unfold CTk
  rw [if_neg (by omega)]
theorem CT_c {ρ : St} {f : Int → Int} {s i q i' q' : Int} (h : ∀ b, 0 ≤ b → b < 39 → f (b / 13) ≤ b % 13 → ((b / 13 < i ∨ (b / 13 = i ∧ b % 13 < q)) ↔ (b / 13 < i' ∨ (b / 13 = i' ∧ b % 13 < q')))) : CTk ρ f s i q = CTk ρ f s i' q' := by
  funext a b
  unfold CTk
  by_cases z : a = 98 ∧ (0 ≤ b ∧ b < 39) ∧ (b / 13 < i ∨ (b / 13 = i ∧ b % 13 < q)) ∧ f (b / 13) ≤ b % 13
  · rw [if_pos z, if_pos ⟨z.1, z.2.1, (h b z.2.1.1 z.2.1.2 z.2.2.2).mp z.2.2.1, z.2.2.2⟩]
  · rw [if_neg z, if_neg (fun w => z ⟨w.1, w.2.1, (h b w.2.1.1 w.2.1.2 w.2.2.2).mpr w.2.2.1, w.2.2.2⟩)]
theorem CT_s {ρ : St} {f : Int → Int} {s i q : Int} (hi : 0 ≤ i ∧ i < 3) (hq : 0 ≤ q ∧ q < 13) (hf : f i ≤ q) (hr : 0 ≤ ρ 98 (13 * i + q) ∧ ρ 98 (13 * i + q) < pw s) (hs : 0 ≤ s ∧ s ≤ 24) : put (CTk ρ f s i q) 98 (13 * i + q) (ior (CTk ρ f s i q 98 (13 * i + q)) (pw s)) = CTk ρ f s i (q + 1) := by
  have e0 : CTk ρ f s i q 98 (13 * i + q) = ρ 98 (13 * i + q) := if_neg (fun z => by have := z.2.2.1; omega)
  rw [e0, ior_pw hr.1 hr.2 hs.1 (by omega)]
  funext a b
  by_cases z : a = 98 ∧ b = 13 * i + q
  · rw [z.1, z.2, put_s]
    unfold CTk
    rw [if_pos ⟨rfl, by omega, by omega, by rw [show (13 * i + q) / 13 = i by omega, show (13 * i + q) % 13 = q by omega]; exact hf⟩]
  · rw [put_q z]
    unfold CTk
    by_cases w : a = 98 ∧ (0 ≤ b ∧ b < 39) ∧ (b / 13 < i ∨ (b / 13 = i ∧ b % 13 < q)) ∧ f (b / 13) ≤ b % 13
    · rw [if_pos w, if_pos ⟨w.1, w.2.1, by have := w.2.2.1; omega, w.2.2.2⟩]
    · rw [if_neg w, if_neg (fun y => w ⟨y.1, y.2.1, by have := y.2.2.1; omega, y.2.2.2⟩)]
theorem CT_at {ρ : St} {f : Int → Int} {s i q : Int} (hi : 0 ≤ i ∧ i < 3) (hq : 0 ≤ q ∧ q < 13) : CTk ρ f s 3 0 98 (13 * i + q) = if f i ≤ q then ρ 98 (13 * i + q) + pw s else ρ 98 (13 * i + q) := by
  unfold CTk
  rw [show (13 * i + q) / 13 = i by omega, show (13 * i + q) % 13 = q by omega]
  by_cases z : f i ≤ q
  · rw [if_pos z, if_pos ⟨rfl, by omega, by omega, z⟩]
  · rw [if_neg z, if_neg (fun w => z w.2.2.2)]
theorem CT_end {ρ : St} {f : Int → Int} {s i : Int} : CTk ρ f s i 13 = CTk ρ f s (i + 1) 0 := CT_c (fun b x y z => by omega)
theorem CT_beg {ρ : St} {f : Int → Int} {s i : Int} : CTk ρ f s i 0 = CTk ρ f s i (f i) := CT_c (fun b x y z => ⟨fun w => by omega, fun w => by
  rcases w with w | ⟨w1, w2⟩
  · exact Or.inl w
  · rw [w1] at z; omega⟩)
theorem CT_o {ρ : St} {f : Int → Int} {s i q : Int} {a : Nat} {b : Int} (h : a ≠ 98) : CTk ρ f s i q a b = ρ a b := if_neg (fun z => h z.1)
/-- picked among the first k -/
def PKI (σ ρ : St) (k : Int) : Prop := F9 ρ σ ∧ ρ 94 5 = cnt k (kdX σ 0) ∧
  (∀ j, 0 ≤ j → j < cnt k (kdX σ 0) → (0 ≤ ρ 95 j ∧ ρ 95 j < k) ∧ kdX σ 0 (ρ 95 j) = true ∧ cnt (ρ 95 j) (kdX σ 0) = j) ∧
  ∀ i q, 0 ≤ i → i < 3 → 0 ≤ q → q < 13 → (0 ≤ ρ 98 (13 * i + q) ∧ ρ 98 (13 * i + q) < pw (cnt k (kdX σ 0))) ∧ ∀ j, 0 ≤ j → j < cnt k (kdX σ 0) → tb (ρ 98 (13 * i + q)) j = decide (FI (σ 85 (ρ 95 j)) (σ 112 (ρ 95 j)) i ≤ q)
theorem PKI_c {σ ρ : St} {k k' : Int} (h : PKI σ ρ k) (hk : k ≤ k') (e : cnt k' (kdX σ 0) = cnt k (kdX σ 0)) : PKI σ ρ k' := by
  unfold PKI
  rw [e]
  exact ⟨h.1, h.2.1, fun j a b => by have := h.2.2.1 j a b; exact ⟨⟨this.1.1, by have := this.1.2; omega⟩, this.2⟩, h.2.2.2⟩
theorem PKI_s {σ ρ : St} {k : Int} (h : PKI σ ρ k) (hk : 0 ≤ k) (hA : kdX σ 0 k = true) (hs : cnt k (kdX σ 0) ≤ 23) : PKI σ (put (put (CTk ρ (FI (σ 85 k) (σ 112 k)) (cnt k (kdX σ 0)) 3 0) 95 (cnt k (kdX σ 0)) k) 94 5 (cnt k (kdX σ 0) + 1)) (k + 1) := by
  have hc : cnt (k + 1) (kdX σ 0) = cnt k (kdX σ 0) + 1 := by rw [cnt_s hk, hA, bI_t]
  have hr := cnt_rng (K := kdX σ 0) hk
  obtain ⟨h1, h2, h3, h4⟩ := h
  generalize hs0 : cnt k (kdX σ 0) = s at *
  unfold PKI
  rw [hc]
  have e95 : ∀ j, (put (put (CTk ρ (FI (σ 85 k) (σ 112 k)) s 3 0) 95 s k) 94 5 (s + 1)) 95 j = if j = s then k else ρ 95 j := fun j => by
    rw [put_i (by decide), put_e, CT_o (by decide)]
  have e98 : ∀ b, (put (put (CTk ρ (FI (σ 85 k) (σ 112 k)) s 3 0) 95 s k) 94 5 (s + 1)) 98 b = CTk ρ (FI (σ 85 k) (σ 112 k)) s 3 0 98 b := fun b => by
    rw [put_i (by decide), put_i (by decide)]
  refine ⟨fun a b x y => ?_, put_s, fun j a b => ?_, fun i q i0 i1 q0 q1 => ?_⟩
  · rw [put_q (by omega), put_q (by omega), CT_o (by omega)]; exact h1 a b x y
  · rw [e95]
    by_cases z : j = s
    · rw [if_pos z]
      exact ⟨⟨hk, by omega⟩, hA, by rw [z]; exact hs0⟩
    · rw [if_neg z]
      have := h3 j a (by omega)
      exact ⟨⟨this.1.1, by have := this.1.2; omega⟩, this.2⟩
  · rw [e98, CT_at ⟨i0, i1⟩ ⟨q0, q1⟩, pw_s (by omega)]
    obtain ⟨g1, g2⟩ := h4 i q i0 i1 q0 q1
    refine ⟨by split <;> omega, fun j a b => ?_⟩
    rw [e95]
    by_cases z : j = s
    · rw [if_pos z, z]
      split
      · rename_i w
        rw [tb_addpw g1.1 g1.2 (by omega) (by omega), decide_eq_true rfl, Bool.or_true, decide_eq_true w]
      · rename_i w
        rw [tb_ge g1.2, decide_eq_false w]
    · rw [if_neg z]
      have e := g2 j a (by omega)
      split
      · rw [tb_addpw g1.1 g1.2 (by omega) a, decide_eq_false z, Bool.or_false, e]
      · exact e
/-- what a set's picked ones take together -/
def SWj (σ ρ : St) (w j : Int) : Int := sm (fun t => if tb w t = true then σ 84 (ρ 95 t) else 0) j
def SUk (σ ρ : St) (s w : Int) : St := fun a b => if a = 96 ∧ 0 ≤ b ∧ b < w then SWj σ ρ b s else ρ a b
theorem SU_0 {σ ρ : St} {s : Int} : ρ = SUk σ ρ s 0 := by
  funext a b
  unfold SUk
  rw [if_neg (by omega)]
theorem SU_s {σ ρ : St} {s w : Int} (h : 0 ≤ w) : put (SUk σ ρ s w) 96 w (SWj σ ρ w s) = SUk σ ρ s (w + 1) := by
  funext a b
  by_cases q : a = 96 ∧ b = w
  · rw [q.1, q.2, put_s]
    unfold SUk
    rw [if_pos (by omega)]
  · rw [put_q q]
    unfold SUk
    by_cases z : a = 96 ∧ 0 ≤ b ∧ b < w
    · rw [if_pos z, if_pos (by omega)]
    · rw [if_neg z, if_neg (by omega)]
theorem SU_o {σ ρ : St} {s w : Int} {a : Nat} {b : Int} (h : a ≠ 96) : SUk σ ρ s w a b = ρ a b := if_neg (fun z => h z.1)
/-- what picking leaves -/
def PKD (σ ρ : St) : Prop := PKI σ ρ (σ 83 5) ∧ ∀ w, 0 ≤ w → w < 256 → ρ 96 w = SWj σ ρ w (cnt (σ 83 5) (kdX σ 0))
theorem PKD_of {σ ρ : St} {s : Int} (h : PKI σ ρ (σ 83 5)) (e : s = cnt (σ 83 5) (kdX σ 0)) : PKD σ (SUk σ ρ s 256) := by
  subst e
  obtain ⟨h1, h2, h3, h4⟩ := h
  have e95 : ∀ j, SUk σ ρ (cnt (σ 83 5) (kdX σ 0)) 256 95 j = ρ 95 j := fun j => SU_o (by decide)
  refine ⟨⟨fun a b x y => by rw [SU_o (by omega)]; exact h1 a b x y, by rw [SU_o (by decide)]; exact h2, fun j a b => by rw [e95]; exact h3 j a b, fun i q a b c d => ?_⟩, fun w a b => ?_⟩
  · rw [SU_o (by decide)]
    refine ⟨(h4 i q a b c d).1, fun j x y => by rw [e95]; exact (h4 i q a b c d).2 j x y⟩
  · have e : SWj σ (SUk σ ρ (cnt (σ 83 5) (kdX σ 0)) 256) w (cnt (σ 83 5) (kdX σ 0)) = SWj σ ρ w (cnt (σ 83 5) (kdX σ 0)) := sm_c (fun t _ _ => by rw [e95])
    rw [e]
    exact if_pos ⟨rfl, a, b⟩
