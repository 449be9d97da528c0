/-! BOTH SIDES: lines, whichever tape they stand on -/
section TPs
variable {tp tp' : Int → Int} {z : Int}
theorem nk_c (h : ch tp z = ch tp' z) : nk tp z = nk tp' z := by
  funext fg q
  unfold nk
  rw [h]
theorem nv_c (h : ch tp z = ch tp' z) : nv tp z = nv tp' z := by
  funext fg q
  unfold nv
  rw [nk_c h, h]
theorem numF_c (h : ch tp z = ch tp' z) : numF tp z = numF tp' z := by
  funext fg lo hi q
  unfold numF
  rw [nk_c h, nv_c h]
theorem bts_c (h : ch tp z = ch tp' z) : bts tp z = bts tp' z := by
  funext q j
  induction j with
  | zero => rfl
  | succ j ih =>
    show bts tp z q j + pw (ch tp z (q + j) - 97) = bts tp' z q j + pw (ch tp' z (q + j) - 97)
    rw [ih, h]
theorem vlt_c (h : ch tp z = ch tp' z) : vlt tp z = vlt tp' z := by
  funext q j
  unfold vlt
  rw [bts_c h, h]
theorem letF_c (h : ch tp z = ch tp' z) : letF tp z = letF tp' z := by
  funext q r
  unfold letF
  rw [bts_c h, vlt_c h, h]
theorem optF_c (h : ch tp z = ch tp' z) : optF tp z = optF tp' z := by
  funext c hi q
  unfold optF
  rw [numF_c h, h]
theorem LNF_c (h : ch tp z = ch tp' z) : LNF tp z = LNF tp' z := by
  funext q am it la gr rk e
  unfold LNF
  rw [numF_c h, letF_c h, optF_c h, h]
theorem LT_c (h : ch tp z = ch tp' z) : LT tp z = LT tp' z := by
  funext q t
  unfold LT
  rw [LNF_c h]
theorem lnT_c (h : ch tp z = ch tp' z) : lnT tp z = lnT tp' z := by
  funext q
  unfold lnT
  rw [LT_c h]
theorem pos_c (h : ch tp z = ch tp' z) : pos tp z = pos tp' z := by
  funext i
  induction i with
  | zero => rfl
  | succ i ih =>
    show (lnT tp z (pos tp z i)).2.2.2.2.2 + 1 = (lnT tp' z (pos tp' z i)).2.2.2.2.2 + 1
    rw [ih, lnT_c h]
theorem lnP_c (h : ch tp z = ch tp' z) : lnP tp z = lnP tp' z := by
  funext i
  unfold lnP
  rw [lnT_c h, pos_c h]
theorem letF_v {q : Int} {r : Int × Int} (h : letF tp z q r) : r.1 ≤ 7 := by
  obtain ⟨K, a1, a2, a3⟩ := h
  have hb := (bts_inv a1).1
  rw [a3]
  split
  · exact (by decide : (-1 : Int) ≤ 7)
  · split
    · exact (by decide : (-1 : Int) ≤ 7)
    · exact hb.2
theorem optF_v {c hi q : Int} (h0 : 0 ≤ hi) (h : 0 ≤ (optF tp z c hi q).1) : (optF tp z c hi q).1 ≤ hi := by
  unfold optF at h ⊢
  by_cases y : ch tp z q = c
  · rw [if_pos y] at h ⊢; exact (numF_v h).2
  · rw [if_neg y]; exact h0
theorem LT_v {q : Int} {t : Int × Int × Int × Int × Int × Int} (h : LT tp z q t) (h0 : 0 ≤ t.1) : (1 ≤ t.1 ∧ t.1 ≤ 60) ∧ (0 ≤ t.2.1 ∧ t.2.1 ≤ 7) ∧ (0 ≤ t.2.2.1 ∧ t.2.2.1 ≤ 11) ∧ (0 ≤ t.2.2.2.1 ∧ t.2.2.2.1 ≤ 3) ∧ (0 ≤ t.2.2.2.2.1 ∧ t.2.2.2.2.1 ≤ 9) := by
  obtain ⟨l, h⟩ := h
  rcases h with ⟨_, a, _⟩ | ⟨n1, hl, h⟩
  · omega
  rcases h with ⟨_, a, _⟩ | ⟨_, _, a, _⟩ | ⟨l0, hc, h⟩
  · omega
  · omega
  rcases h with ⟨_, a, _⟩ | ⟨n2, h⟩
  · omega
  rcases h with ⟨_, a, _⟩ | ⟨n3, h⟩
  · omega
  rcases h with ⟨_, a, _⟩ | ⟨n4, e1, e2, e3, e4, e5, e6⟩
  · omega
  have v1 := numF_v n1
  have v2 := numF_v n2
  have v3 := optF_v (by decide) n3
  have v4 := optF_v (by decide) n4
  have v5 := letF_v hl
  rw [e1, e2, e3, e4, e5]
  exact ⟨v1, ⟨l0, v5⟩, v2, ⟨n3, v3⟩, ⟨n4, v4⟩⟩
theorem lnT_v {q : Int} (h0 : 0 ≤ (lnT tp z q).1) : (1 ≤ (lnT tp z q).1 ∧ (lnT tp z q).1 ≤ 60) ∧ (0 ≤ (lnT tp z q).2.1 ∧ (lnT tp z q).2.1 ≤ 7) ∧ (0 ≤ (lnT tp z q).2.2.1 ∧ (lnT tp z q).2.2.1 ≤ 11) ∧ (0 ≤ (lnT tp z q).2.2.2.1 ∧ (lnT tp z q).2.2.2.1 ≤ 3) ∧ (0 ≤ (lnT tp z q).2.2.2.2.1 ∧ (lnT tp z q).2.2.2.2.1 ≤ 9) := by
  by_cases hex : ∃ t, LT tp z q t
  · have e1 : lnT tp z q = hex.choose := dif_pos hex
    have h2 : LT tp z q hex.choose := hex.choose_spec
    rw [← e1] at h2
    exact LT_v h2 h0
  · have e1 : lnT tp z q = (-1, 0, 0, 0, 0, 0) := dif_neg hex
    rw [e1] at h0
    exact absurd h0 (by decide)
end TPs
section CFs
variable {σ : St} {J J' : Nat} {F F' : Int}
theorem cO_u (h : cont σ J) (h2 : OKT σ J) : False := h.2.1 h2.2.2
theorem cF_u (h : cont σ J) (h2 : FLT σ J F) : False := by
  obtain ⟨a, b, c, d⟩ := h
  rcases h2 with ⟨x, _⟩ | ⟨_, x, _⟩ | ⟨_, _, _, x, _⟩
  · omega
  · omega
  · exact x c
theorem OF_u (h : OKT σ J) (h2 : FLT σ J F) : False := by
  obtain ⟨a, b, c⟩ := h
  rcases h2 with ⟨x, _⟩ | ⟨_, x, _⟩ | ⟨_, _, x, _⟩
  · omega
  · omega
  · exact x c
theorem FF_u (h : FLT σ J F) (h2 : FLT σ J F') : F = F' := by
  rcases h with ⟨x, e⟩ | ⟨x, x2, e⟩ | ⟨x, x2, x3, x4, e⟩ <;> rcases h2 with ⟨y, e'⟩ | ⟨y, y2, e'⟩ | ⟨y, y2, y3, y4, e'⟩ <;> omega
end CFs
/-! sums over more orders -/
theorem sm_more {f g : Int → Int} {n m : Int} (h0 : 0 ≤ n) (hn : n ≤ m) (h : ∀ k, 0 ≤ k → k < n → f k = g k) (hz : ∀ k, n ≤ k → k < m → f k = 0) : sm f m = sm g n := by
  have e : ∀ d : Nat, n + d ≤ m → sm f (n + d) = sm g n := by
    intro d
    induction d with
    | zero => intro _; rw [show n + ((0 : Nat) : Int) = n by omega]; exact sm_c h
    | succ d ih =>
      intro x
      rw [show n + ((d + 1 : Nat) : Int) = n + d + 1 by omega, sm_s (by omega), ih (by omega), hz (n + d) (by omega) (by omega)]
      omega
  have := e (m - n).toNat (by omega)
  rw [show n + ((m - n).toNat : Int) = m by omega] at this
  exact this
/-- rows over more orders, the new ones promised nothing -/
def MORE (ρ σ : St) : Prop := (0 ≤ σ 83 5 ∧ σ 83 5 ≤ ρ 83 5) ∧ ρ 109 = σ 109 ∧ (∀ (a : Nat) (b : Int), (84 ≤ a ∧ a ≤ 88) ∨ a = 111 ∨ a = 112 → 0 ≤ b → b < σ 83 5 → (a = 86 ∨ ρ a b = σ a b)) ∧ ∀ b, σ 83 5 ≤ b → b < ρ 83 5 → ρ 111 b = 0
theorem MEX_n {σ ρ : St} (h : MORE ρ σ) {P : Int → Bool} (hp : ∀ o, P o = true → o < σ 83 5) : MEX ρ P ↔ MEX σ P := by
  obtain ⟨h1, h2, h3, h4⟩ := h
  have e : ∀ k, LX ρ P k = LX σ P k := fun k => by
    unfold LX LFT
    rw [h2]
    have : dm (ρ 83 5) (ρ 84) (ρ 85) (ρ 112) P (k / 169) (k / 13 % 13) (k % 13) = dm (σ 83 5) (σ 84) (σ 85) (σ 112) P (k / 169) (k / 13 % 13) (k % 13) := by
      unfold dm
      refine sm_more h1.1 h1.2 (fun o x y => ?_) (fun o x y => ?_)
      · have r4 := (h3 84 o (by omega) x y).resolve_left (by decide)
        have r5 := (h3 85 o (by omega) x y).resolve_left (by decide)
        have r2 := (h3 112 o (by omega) x y).resolve_left (by decide)
        rw [r4, r5, r2]
      · have hf : P o = false := by
          cases hP : P o
          · rfl
          · have := hp o hP
            omega
        rw [hf, Bool.false_and, if_neg (by decide)]
    rw [this]
  unfold MEX
  exact ⟨fun a k x y => by rw [← e]; exact a k x y, fun a k x y => by rw [e]; exact a k x y⟩
theorem KKX_n {σ ρ : St} (h : MORE ρ σ) : ∀ t, KKX ρ t = KKX σ t := by
  intro t
  induction t with
  | zero => rfl
  | succ t ih =>
    have ih' : kf (ρ 83 5) (ρ 88) (kdX ρ 1) (fun K o => MEX ρ (ins K o)) t = kf (σ 83 5) (σ 88) (kdX σ 1) (fun K o => MEX σ (ins K o)) t := ih
    funext q
    show kf (ρ 83 5) (ρ 88) (kdX ρ 1) (fun K o => MEX ρ (ins K o)) (t + 1) q = kf (σ 83 5) (σ 88) (kdX σ 1) (fun K o => MEX σ (ins K o)) (t + 1) q
    have hm : ∀ o, o < σ 83 5 → (MEX ρ (ins (kf (σ 83 5) (σ 88) (kdX σ 1) (fun K o => MEX σ (ins K o)) t) o) ↔ MEX σ (ins (kf (σ 83 5) (σ 88) (kdX σ 1) (fun K o => MEX σ (ins K o)) t) o)) := fun o y => MEX_n h (fun p hp => by
      unfold ins at hp
      rw [Bool.or_eq_true, decide_eq_true_iff] at hp
      rcases hp with x | x
      · exact (kf_in x).2.1
      · omega)
    obtain ⟨h1, h2, h3, h4⟩ := h
    refine Bool.eq_iff_iff.mpr ?_
    rw [kf_s, kf_s, ih']
    constructor
    · rintro (x | ⟨a, b, c, d, e⟩)
      · exact Or.inl x
      · have hq : q < σ 83 5 := by
          rcases Int.lt_or_le q (σ 83 5) with y | y
          · exact y
          · have := h4 q y b
            unfold kdX at d
            rw [this] at d
            exact absurd d (by decide)
        have r8 := (h3 88 q (by omega) a hq).resolve_left (by decide)
        have r1 := (h3 111 q (by omega) a hq).resolve_left (by decide)
        refine Or.inr ⟨a, hq, ?_, ?_, (hm q hq).mp e⟩
        · unfold kap at c ⊢; rw [← r8]; exact c
        · unfold kdX at d ⊢; rw [← r1]; exact d
    · rintro (x | ⟨a, b, c, d, e⟩)
      · exact Or.inl x
      · have r8 := (h3 88 q (by omega) a b).resolve_left (by decide)
        have r1 := (h3 111 q (by omega) a b).resolve_left (by decide)
        refine Or.inr ⟨a, by omega, ?_, ?_, (hm q b).mpr e⟩
        · unfold kap at c ⊢; rw [r8]; exact c
        · unfold kdX at d ⊢; rw [r1]; exact d
theorem KS_n {σ ρ : St} (h : MORE ρ σ) : KS ρ = KS σ := by
  unfold KS
  rw [KKX_n h]
  unfold bsum
  refine sm_more h.1.1 h.1.2 (fun _ _ _ => rfl) (fun k x y => ?_)
  refine if_neg (fun z => ?_)
  have := (kf_in z).2.1
  omega
/-- the state with more orders, or as many -/
theorem INV_o {σ ρ : St} {m : Int} (h : INV σ) (hm : σ 0 5 ≤ m ∧ m ≤ 24) (e0 : ρ 0 5 = m ∧ ρ 0 10 = σ 0 10 ∧ ρ 0 11 = σ 0 11 ∧ ρ 0 13 = σ 0 13 ∧ ρ 0 18 = 0 ∧ ρ 83 5 = m ∧ ρ 89 1 = 0)
    (e1 : ∀ b, ¬ (40 + σ 0 5 ≤ b ∧ b < 64) → ¬ (64 + σ 0 5 ≤ b ∧ b < 88) → ρ 1 b = σ 1 b) (e2 : ∀ (a : Nat) (b : Int), 2 ≤ a ∧ a ≤ 5 → b < σ 0 5 → ρ a b = σ a b)
    (ef : ∀ a : Nat, a = 8 ∨ a = 10 ∨ (20 ≤ a ∧ a < 46) ∨ a = 82 ∨ a = 90 ∨ a = 101 ∨ a = 102 ∨ a = 106 ∨ a = 107 ∨ a = 109 ∨ a = 110 ∨ 113 ≤ a → ρ a = σ a)
    (e8 : ∀ (a : Nat) (b : Int), (84 ≤ a ∧ a ≤ 88) ∨ a = 111 ∨ a = 112 → b < σ 0 5 → ρ a b = σ a b)
    (hw : ∀ o, σ 0 5 ≤ o → o < 24 → (0 ≤ ρ 1 (40 + o) ∧ ρ 1 (40 + o) ≤ 2) ∧ (0 ≤ ρ 1 (64 + o) ∧ ρ 1 (64 + o) ≤ 11) ∧ (0 ≤ ρ 2 o ∧ ρ 2 o ≤ 60) ∧ (0 ≤ ρ 3 o ∧ ρ 3 o ≤ 7) ∧ (0 ≤ ρ 4 o ∧ ρ 4 o ≤ 3) ∧ (0 ≤ ρ 5 o ∧ ρ 5 o ≤ 9))
    (hnw : ∀ o, σ 0 5 ≤ o → o < m → ρ 111 o = 0 ∧ ρ 1 (40 + o) = 0 ∧ ρ 112 o = ρ 86 o ∧ ρ 1 (64 + o) = ρ 86 o ∧ ρ 84 o = ρ 2 o ∧ ρ 85 o = ρ 3 o ∧ ρ 87 o = ρ 4 o ∧ ρ 88 o = ρ 5 o ∧ 1 ≤ ρ 2 o) : INV ρ := by
  obtain ⟨⟨a1, a2, a3, a4⟩, hT, ⟨q1, q2⟩, ⟨⟨d1, d2, d3, d4, d5, d6⟩, ⟨f1, f2, f3, f4⟩⟩, g1, k1⟩ := h
  obtain ⟨m5, m10, m11, m13, m18, x5, x1⟩ := e0
  have hn := a1.1
  have hn24 := a2.1
  have hNW : NW ρ ρ := by
    refine ⟨by rw [x5, m5], fun j x y => ?_, fun g x y => ?_, fun o x y => ?_⟩
    · rw [ef 109 (by omega), e1 j (by omega) (by omega)]; exact a1.2.1 j x y
    · rw [ef 110 (by omega), e1 (36 + g) (by omega) (by omega)]; exact a1.2.2.1 g x y
    · rw [m5] at y
      by_cases z : o < σ 0 5
      · rw [e8 111 o (by omega) z, e8 112 o (by omega) z, e8 84 o (by omega) z, e8 85 o (by omega) z, e8 87 o (by omega) z, e8 88 o (by omega) z, e1 (40 + o) (by omega) (by omega), e1 (64 + o) (by omega) (by omega), e2 2 o (by omega) z, e2 3 o (by omega) z, e2 4 o (by omega) z, e2 5 o (by omega) z]
        exact a1.2.2.2 o x z
      · obtain ⟨n1, n2, n3, n4, n5, n6, n7, n8, _⟩ := hnw o (by omega) y
        exact ⟨by rw [n1, n2], by rw [n3, n4], n5, n6, n7, n8⟩
  have hRO : RO ρ := by
    obtain ⟨_, ⟨p1, p2, p3, p4⟩, r2, r3, r4, r5⟩ := a2
    refine ⟨by rw [m5]; omega, ⟨fun j x y => ?_, fun j x y => ?_, fun j x y => ?_, fun j x y => ?_⟩, fun o x y => ?_, fun o x y => ?_, fun o x y => ?_, fun o x y => ?_⟩
    · rw [e1 j (by omega) (by omega)]; exact p1 j x y
    · rw [e1 j (by omega) (by omega)]; exact p2 j x y
    · by_cases z : j - 40 < σ 0 5
      · rw [e1 j (by omega) (by omega)]; exact p3 j x y
      · have := (hw (j - 40) (by omega) (by omega)).1
        rw [show 40 + (j - 40) = j by omega] at this
        exact this
    · by_cases z : j - 64 < σ 0 5
      · rw [e1 j (by omega) (by omega)]; exact p4 j x y
      · have := (hw (j - 64) (by omega) (by omega)).2.1
        rw [show 64 + (j - 64) = j by omega] at this
        exact this
    · by_cases z : o < σ 0 5
      · rw [e2 2 o (by omega) z]; exact r2 o x y
      · exact (hw o (by omega) y).2.2.1
    · by_cases z : o < σ 0 5
      · rw [e2 3 o (by omega) z]; exact r3 o x y
      · exact (hw o (by omega) y).2.2.2.1
    · by_cases z : o < σ 0 5
      · rw [e2 4 o (by omega) z]; exact r4 o x y
      · exact (hw o (by omega) y).2.2.2.2.1
    · by_cases z : o < σ 0 5
      · rw [e2 5 o (by omega) z]; exact r5 o x y
      · exact (hw o (by omega) y).2.2.2.2.2
  have hXO : XO ρ := by
    obtain ⟨w0, ⟨w1, w2, w3, w4⟩, r2, r3, r4, r5⟩ := hRO
    obtain ⟨y1, y2, y3, y4⟩ := hNW
    refine ⟨by rw [x5]; omega, ⟨fun j x y => by rw [y2 j x y]; exact w1 j x y, fun j x y => by rw [y3 j x y]; exact w2 _ (by omega) (by omega)⟩, fun o x y => ?_⟩
    rw [x5] at y
    obtain ⟨n1, n2, n3, n4, n5, n6⟩ := y4 o x (by omega)
    rw [n1, n2, n3, n4, n5, n6]
    refine ⟨w3 _ (by omega) (by omega), w4 _ (by omega) (by omega), r2 o x (by omega), r3 o x (by omega), ?_, r4 o x (by omega), r5 o x (by omega)⟩
    by_cases z : o < σ 0 5
    · rw [e8 86 o (by omega) z]; exact (a3.2.2 o x (by omega)).2.2.2.2.1
    · rw [← (hnw o (by omega) y).2.2.2.1]; exact w4 _ (by omega) (by omega)
  have htS : ∀ j, tS ρ j = tS σ j := fun j => by unfold tS; rw [ef 107 (by omega)]
  have r7 : ∀ j, 0 ≤ j → j ≤ σ 0 10 → 2 ≤ tS σ j := fun j x y => by have := d4 j x (by omega); unfold tS; omega
  have hst : ∀ j, 0 ≤ j → j ≤ σ 0 10 → ∀ (a : Nat) (b : Int), 108 + 5 * tS σ j ≤ a ∧ a ≤ 112 + 5 * tS σ j → ρ a b = σ a b := fun j x y a b z => by
    have := r7 j x y
    rw [ef a (by omega)]
  have hkN : ∀ j, 0 ≤ j → j ≤ σ 0 10 → kN ρ j = kN σ j := fun j x y => by
    unfold kN
    rw [htS, hst j x y _ 4 (by omega)]
  have hkn : ∀ j, 0 ≤ j → j ≤ σ 0 10 → 0 ≤ kN σ j ∧ kN σ j ≤ σ 0 5 := fun j x y => by
    have := (f1 j x y).1
    rw [hn] at this
    exact this
  refine ⟨⟨hNW, hRO, hXO, fun o x y => ?_⟩, ?_, ?_, ⟨?_, ?_⟩, ?_, ?_⟩
  · rw [m5] at y
    by_cases z : o < σ 0 5
    · rw [e2 2 o (by omega) z]; exact a4 o x z
    · exact (hnw o (by omega) y).2.2.2.2.2.2.2.2
  · unfold JT
    rw [m18, x1, ef 90 (by omega)]
    exact ⟨rfl, by omega, fun j x y => by omega, hT.2.2.2⟩
  · unfold JS
    rw [ef 20 (by omega), ef 21 (by omega), ef 101 (by omega), ef 102 (by omega)]
    exact ⟨q1, q2⟩
  · unfold JH0
    rw [m10, m11, ef 106 (by omega), ef 107 (by omega), ef 8 (by omega)]
    exact ⟨d1, d2, d3, d4, d5, d6⟩
  · refine ⟨fun j x y => ?_, fun i x y => ?_, ?_, ?_⟩
    · rw [m10] at y
      rw [htS]
      exact SOK_s (f1 j x y) (hst j x y) (by rw [x5, hn]; exact hm.1)
    · rw [m10] at y
      obtain ⟨p1, p3, p4, p5⟩ := f2 i x y
      have hk2 := hkn (i + 1) (by omega) (by omega)
      have hk1 := hkn i x (by omega)
      unfold JHi
      rw [hkN (i + 1) (by omega) (by omega), hkN i x (by omega), htS, htS, ef 8 (by omega), ef (34 + i.toNat) (by omega), ef (22 + i.toNat) (by omega)]
      refine ⟨p1, SEQ_s p3 (hst (i + 1) (by omega) (by omega)), SEQ_s p4 (hst i x (by omega)), ?_⟩
      intro o u v
      have := p5 o u v
      rw [e8 86 o (by omega) (by omega)]
      exact this
    · have hk1 := hkn _ d1.1 d1.2.1
      rw [m11, htS, hkN _ d1.1 d1.2.1]
      obtain ⟨s1, s2, s3⟩ := SEQ_s f3 (hst _ d1.1 d1.2.1)
      refine ⟨fun j x y => by rw [e1 j (by omega) (by omega)]; exact s1 j x y, fun g x y => by rw [e1 (36 + g) (by omega) (by omega)]; exact s2 g x y, fun o x y => ?_⟩
      rw [e1 (40 + o) (by omega) (by omega), e1 (64 + o) (by omega) (by omega)]
      exact s3 o x y
    · have hk1 := hkn _ d1.1 d1.2.1
      rw [m11, hkN _ d1.1 d1.2.1, m5]
      intro o x y
      by_cases z : o < σ 0 5
      · rw [e1 (40 + o) (by omega) (by omega), e1 (64 + o) (by omega) (by omega), e8 86 o (by omega) z]
        exact f4 o x z
      · obtain ⟨n1, n2, n3, n4, _⟩ := hnw o (by omega) y
        exact ⟨n2, n4⟩
  · unfold JI
    rw [ef 82 (by omega), m13, m5, ef (108 + 5 * 1) (by omega), ef 10 (by omega)]
    rcases g1 with x | ⟨x, y, z, u, v⟩
    · exact Or.inl x
    · exact Or.inr ⟨x, by omega, z, SOK_s u (fun a b p => by rw [ef a (by omega)]) (by rw [x5, hn]; exact hm.1), SEQ_s v (fun a b p => by rw [ef a (by omega)])⟩
  · have hM : MORE ρ σ := ⟨by rw [x5, hn]; exact ⟨hn24.1, hm.1⟩, ef 109 (by omega), fun a b x _ y => Or.inr (e8 a b x (by omega)), fun b x y => (hnw b (by omega) (by omega)).1⟩
    unfold KOK
    rw [KS_n hM, ef 82 (by omega)]
    exact k1
