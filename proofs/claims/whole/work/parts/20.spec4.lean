/-! SPEC 4: sets by predicates; those kept, those promised in turn -/
theorem LK_c {σ ρ : St} {P P' : Int → Bool} (hn : ρ 0 5 = σ 0 5) (hs : ∀ j, 0 ≤ j → j < 36 → ρ 1 j = σ 1 j) (ha : ∀ o, 0 ≤ o → o < σ 0 5 → ρ 2 o = σ 2 o ∧ ρ 3 o = σ 3 o ∧ ρ 1 (64 + o) = σ 1 (64 + o) ∧ P o = P' o) {k : Int} (h0 : 0 ≤ k) (h1 : k < 2197) : LK ρ P k = LK σ P' k := by
  have e : ∀ i q, 0 ≤ i → i < 3 → 0 ≤ q → q ≤ 12 → sq (ρ 1) i q = sq (σ 1) i q := fun i q a b c d => sm_c (fun t x y => hs _ (by omega) (by omega))
  unfold LK LFT
  rw [e 0 _ (by decide) (by decide) (by omega) (by omega), e 1 _ (by decide) (by decide) (by omega) (by omega), e 2 _ (by decide) (by decide) (by omega) (by omega), hn]
  congr 1
  exact sm_c (fun o x y => by
    obtain ⟨a1, a2, a3, a4⟩ := ha o x y
    show (if (P o && hSb (ρ 3 o) (ρ 1 (64 + o)) _ _ _) = true then ρ 2 o else 0) = if (P' o && hSb (σ 3 o) (σ 1 (64 + o)) _ _ _) = true then σ 2 o else 0
    rw [a1, a2, a3, a4])
theorem MET_c {σ ρ : St} {P P' : Int → Bool} (hn : ρ 0 5 = σ 0 5) (hs : ∀ j, 0 ≤ j → j < 36 → ρ 1 j = σ 1 j) (ha : ∀ o, 0 ≤ o → o < σ 0 5 → ρ 2 o = σ 2 o ∧ ρ 3 o = σ 3 o ∧ ρ 1 (64 + o) = σ 1 (64 + o) ∧ P o = P' o) : MET ρ P ↔ MET σ P' :=
  ⟨fun h k a b => by rw [← LK_c hn hs ha a b]; exact h k a b, fun h k a b => by rw [LK_c hn hs ha a b]; exact h k a b⟩
theorem MET_P {σ : St} {P P' : Int → Bool} (h : ∀ o, 0 ≤ o → o < σ 0 5 → P o = P' o) : MET σ P ↔ MET σ P' := MET_c rfl (fun _ _ _ => rfl) (fun o a b => ⟨rfl, rfl, rfl, h o a b⟩)
theorem amS_c {n g : Int} {am gr am' gr' : Int → Int} {P P' : Int → Bool} (h : ∀ o, 0 ≤ o → o < n → am o = am' o ∧ gr o = gr' o ∧ P o = P' o) : amS n am gr P g = amS n am' gr' P' g :=
  sm_c (fun o x y => by
    obtain ⟨a1, a2, a3⟩ := h o x y
    rw [a1, a2, a3])
def CANP (σ : St) (o : Int) (P : Int → Bool) : Prop := amS (σ 0 5) (σ 2) (σ 4) P (σ 4 o) ≤ σ 1 (36 + σ 4 o) * sm (σ 1) 36 / 100 ∧ MET σ P
theorem CAN_P {σ ρ : St} {o B : Int} {P : Int → Bool} (h : RO σ) (ho : 0 ≤ o ∧ o < σ 0 5) (hn : ρ 0 5 = σ 0 5) (hs : ∀ j, 0 ≤ j → j < 40 → ρ 1 j = σ 1 j) (ha : ∀ o, 0 ≤ o → o < σ 0 5 → ρ 2 o = σ 2 o ∧ ρ 3 o = σ 3 o ∧ ρ 1 (64 + o) = σ 1 (64 + o) ∧ ρ 4 o = σ 4 o ∧ tb B o = P o) : CAN ρ o B ↔ CANP σ o P := by
  have hg := h.2.2.2.2.1 o ho.1 (by have := h.1; omega)
  unfold CAN CANP
  rw [hn, amS_c (fun q a b => ⟨(ha q a b).1, (ha q a b).2.2.2.1, (ha q a b).2.2.2.2⟩), (ha o ho.1 ho.2).2.2.2.1, hs (36 + σ 4 o) (by omega) (by omega), sm_c (fun j a b => hs j a (by omega))]
  exact and_congr Iff.rfl (MET_c hn (fun j a b => hs j a (by omega)) (fun q a b => ⟨(ha q a b).1, (ha q a b).2.1, (ha q a b).2.2.1, (ha q a b).2.2.2.2⟩))
/-- how many of a set -/
def cnt (n : Int) (K : Int → Bool) : Int := sm (fun q => bI (K q = true)) n
/-- how many of them have their turn ahead of one -/
def cntk (n : Int) (rk : Int → Int) (K : Int → Bool) (v : Int) : Int := sm (fun q => bI (K q = true ∧ kap rk q < v)) n
theorem cnt_rng {n : Int} {K : Int → Bool} (hn : 0 ≤ n) : 0 ≤ cnt n K ∧ cnt n K ≤ n := by
  have h1 := sm_nn (f := fun q => bI (K q = true)) (n := n) (fun k _ _ => by rcases bI_rng (b := K k = true) with z | z <;> omega)
  have h2 := sm_ub (f := fun q => bI (K q = true)) (n := n) (c := 1) hn (fun k _ _ => by rcases bI_rng (b := K k = true) with z | z <;> omega)
  unfold cnt
  omega
theorem sm_up {f g : Int → Int} {n o d : Int} (ho : 0 ≤ o ∧ o < n) (h : ∀ q, 0 ≤ q → q < n → g q = if q = o then f q + d else f q) : sm g n = sm f n + d := by
  have key : ∀ m, 0 ≤ m → m ≤ n → sm g m = sm f m + if o < m then d else 0 := int_ind (P := fun m => m ≤ n → sm g m = sm f m + if o < m then d else 0) (fun _ => by rw [sm_0, sm_0, if_neg (by omega)]; rfl) (fun k h0 ih hk => by
    rw [sm_s h0, sm_s h0, ih (by omega), h k h0 (by omega)]
    by_cases q : k = o
    · rw [if_pos q, if_neg (by omega), if_pos (by omega)]; omega
    · rw [if_neg q]
      by_cases z : o < k
      · rw [if_pos z, if_pos (by omega)]; omega
      · rw [if_neg z, if_neg (by omega)]; omega)
  rw [key n (by omega) (Int.le_refl n), if_pos ho.2]
/-- a set and one more -/
def ins (K : Int → Bool) (o : Int) : Int → Bool := fun q => K q || decide (q = o)
theorem cnt_ins {n o : Int} {K : Int → Bool} (ho : 0 ≤ o ∧ o < n) (hk : K o = false) : cnt n (ins K o) = cnt n K + 1 :=
  sm_up ho (fun q _ _ => by
    by_cases e : q = o
    · subst e
      rw [if_pos rfl, hk]
      unfold ins
      rw [hk, decide_eq_true rfl]
      rfl
    · rw [if_neg e]
      apply bI_c
      unfold ins
      rw [decide_eq_false e, Bool.or_false])
theorem cntk_ins_o {n o v : Int} {rk : Int → Int} {K : Int → Bool} (hv : v ≤ kap rk o) : cntk n rk (ins K o) v = cntk n rk K v :=
  sm_c (fun q _ _ => bI_c (by
    unfold ins
    rw [Bool.or_eq_true, decide_eq_true_eq]
    constructor
    · rintro ⟨z | z, y⟩
      · exact ⟨z, y⟩
      · rw [z] at y; omega
    · rintro ⟨z, y⟩
      exact ⟨Or.inl z, y⟩))
theorem cntk_all {n v : Int} {rk : Int → Int} {K : Int → Bool} (h : ∀ q, 0 ≤ q → q < n → K q = true → kap rk q < v) : cntk n rk K v = cnt n K :=
  sm_c (fun q a b => bI_c ⟨fun z => z.1, fun z => ⟨z, h q a b z⟩⟩)
theorem tb_all0 {B : Int} (h0 : 0 ≤ B ∧ B ≤ 2147483647) (h : ∀ q, 0 ≤ q → tb B q = false) : B = 0 := by
  have e : B.toNat = 0 := by
    apply Nat.eq_of_testBit_eq
    intro i
    have := h (i : Nat) (by omega)
    unfold tb at this
    rw [Int.toNat_natCast] at this
    rw [this, Nat.zero_testBit]
  omega
/-- whether an order's turn: those that are something -/
def kdB (σ : St) (v : Int) : Int → Bool := fun q => decide (σ 1 (40 + q) = v)
theorem tb_TH {σ : St} {v q : Int} (hn : 0 ≤ σ 0 5) (h0 : 0 ≤ q) : tb (TH σ v) q = (decide (q < σ 0 5) && kdB σ v q) := tb_bs hn h0
/-- promised in turn -/
noncomputable def KP (σ : St) : Nat → Int → Bool := kf (σ 0 5) (σ 5) (kdB σ 0) (fun K o => CANP σ o (fun q => kdB σ 1 q || ins K o q))
/-- kept in turn -/
noncomputable def KK (σ : St) : Nat → Int → Bool := kf (σ 0 5) (σ 5) (kdB σ 1) (fun K o => MET σ (ins K o))
theorem kf_ins {n : Int} {rk : Int → Int} {cand : Int → Bool} {ok : (Int → Bool) → Int → Prop} {t : Nat} {o : Int} (hn : n ≤ 24) (ho : 0 ≤ o ∧ o < n) (ht : kap rk o = t) (hc : cand o = true) (hok : ok (kf n rk cand ok t) o) : kf n rk cand ok (t + 1) = ins (kf n rk cand ok t) o := by
  funext q
  rw [Bool.eq_iff_iff, kf_s]
  unfold ins
  rw [Bool.or_eq_true, decide_eq_true_eq]
  constructor
  · rintro (z | ⟨a, b, x, y, _⟩)
    · exact Or.inl z
    · exact Or.inr (kap_inj ⟨a, by omega⟩ ⟨ho.1, by omega⟩ (x.trans ht.symm))
  · rintro (z | rfl)
    · exact Or.inl z
    · exact Or.inr ⟨ho.1, ho.2, ht, hc, hok⟩
theorem kf_no {n : Int} {rk : Int → Int} {cand : Int → Bool} {ok : (Int → Bool) → Int → Prop} {t : Nat} {o : Int} (hn : n ≤ 24) (ho : 0 ≤ o ∧ o < n) (ht : kap rk o = t) (hok : ¬ ok (kf n rk cand ok t) o) : kf n rk cand ok (t + 1) = kf n rk cand ok t := by
  funext q
  rw [Bool.eq_iff_iff, kf_s]
  constructor
  · rintro (z | ⟨a, b, x, y, w⟩)
    · exact z
    · have e := kap_inj ⟨a, by omega⟩ ⟨ho.1, by omega⟩ (x.trans ht.symm)
      rw [e] at w
      exact absurd w hok
  · exact Or.inl
theorem kf_fut {n : Int} {rk : Int → Int} {cand : Int → Bool} {ok : (Int → Bool) → Int → Prop} {t : Nat} {o : Int} (ht : (t : Int) ≤ kap rk o) : kf n rk cand ok t o = false := by
  cases h : kf n rk cand ok t o
  · rfl
  · have := (kf_in h).2.2.1
    omega
/-- what is grown stays -/
theorem kf_mono {n : Int} {rk : Int → Int} {cand : Int → Bool} {ok : (Int → Bool) → Int → Prop} {t : Nat} {q : Int} : ∀ d : Nat, kap rk q < t → kf n rk cand ok (t + d) q = kf n rk cand ok t q
  | 0, _ => rfl
  | d + 1, h => by
    rw [← kf_mono d h, Bool.eq_iff_iff]
    show kf n rk cand ok (t + d + 1) q = true ↔ _
    rw [kf_s]
    constructor
    · rintro (z | ⟨_, _, x, _, _⟩)
      · exact z
      · omega
    · exact Or.inl
theorem kap_rng {σ : St} (h : RO σ) {o : Int} (ho : 0 ≤ o ∧ o < 24) : 0 ≤ kap (σ 5) o ∧ kap (σ 5) o < 240 := by
  have := h.2.2.2.2.2 o ho.1 ho.2
  unfold kap
  omega
