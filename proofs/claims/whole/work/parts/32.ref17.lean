def scr2 (a : Nat) (_ : Int) : Bool := a == 15 || a == 16 || a == 17 || a == 18 || (decide (46 ≤ a) && decide (a < 82))
def S2 (σ τ : St) : St := fun a b => if scr2 a b = true then τ a b else σ a b
theorem S2_self (σ : St) : S2 σ σ = σ := by
  funext a b
  unfold S2
  split <;> rfl
theorem S2_n {σ τ : St} {a : Nat} {b : Int} (h : scr2 a b = false) : S2 σ τ a b = σ a b := if_neg (by rw [h]; decide)
theorem S2_y {σ τ : St} {a : Nat} {b : Int} (h : scr2 a b = true) : S2 σ τ a b = τ a b := if_pos h
/-- what agrees elsewhere -/
theorem S2_of {σ τ ρ : St} (h : ∀ a b, scr2 a b = false → ρ a b = σ a b) : ρ = S2 σ ρ := by
  funext a b
  cases h2 : scr2 a b
  · rw [S2_n h2, h a b h2]
  · rw [S2_y h2]
theorem S2_put {σ τ : St} {i : Nat} {k v : Int} (h : scr2 i k = true) : put (S2 σ τ) i k v = S2 σ (put τ i k v) := by
  funext a b
  by_cases q : a = i ∧ b = k
  · obtain ⟨rfl, rfl⟩ := q
    rw [put_s, S2_y h, put_s]
  · rw [put_q q]
    cases h2 : scr2 a b
    · rw [S2_n h2, S2_n h2]
    · rw [S2_y h2, S2_y h2, put_q q]
theorem scr2_p {s o : Int} (h : 0 ≤ s ∧ s < 36) : scr2 (46 + s.toNat) o = true := by
  unfold scr2
  rw [decide_eq_true (show 46 ≤ 46 + s.toNat by omega), decide_eq_true (show 46 + s.toNat < 82 by omega)]
  simp
theorem S2_p {σ τ : St} {s o : Int} (h : 0 ≤ s ∧ s < 36) : S2 σ τ (46 + s.toNat) o = τ (46 + s.toNat) o := S2_y (scr2_p h)
theorem scr2_scr {a : Nat} {b : Int} (h : scr a b = false) : scr2 a b = false := by
  cases h1 : scr2 a b
  · rfl
  · unfold scr2 at h1
    simp only [Bool.or_eq_true, Bool.and_eq_true, beq_iff_eq, decide_eq_true_eq] at h1
    rcases h1 with (((rfl | rfl) | rfl) | rfl) | ⟨h2, h3⟩
    · cases h
    · cases h
    · cases h
    · cases h
    · unfold scr at h
      rw [if_neg (by omega), if_neg (by omega), if_pos h3] at h
      cases h
/-- the three cells that say which supply's way is narrow -/
def CF (σ : St) (o s c : Int) : St := put (put (put σ 0 27 o) 0 28 s) 0 29 c
theorem CF_SC {σ τ : St} {o s c : Int} : S2 (CF σ o s c) τ = SC σ (S2 (CF σ o s c) τ) := by
  funext a b
  cases h : scr a b
  · rw [SC_n h, S2_n (scr2_scr h)]
    have e : ∀ v, scr 0 v = true → ¬ (a = 0 ∧ b = v) := fun v q z => by rw [z.1, z.2, q] at h; cases h
    unfold CF
    rw [put_q (e 29 rfl), put_q (e 28 rfl), put_q (e 27 rfl)]
  · rw [SC_y h]
theorem sm_x {F : Int → Int → Int} {m n : Int} (hm : 0 ≤ m) (hn : 0 ≤ n) : sm (fun a => sm (fun b => F a b) m) n = sm (fun b => sm (fun a => F a b) n) m := by
  refine int_ind (P := fun n => sm (fun a => sm (fun b => F a b) m) n = sm (fun b => sm (fun a => F a b) n) m) ?_ (fun k h0 ih => ?_) n hn
  · rw [sm_0, show (fun b => sm (fun a => F a b) 0) = fun _ => (0 : Int) from rfl, sm_k hm, Int.mul_zero]
  · rw [sm_s h0, ih, ← sm_add]
    exact sm_c (fun b _ _ => (sm_s h0).symm)
theorem sm_lt {f g : Int → Int} {n k : Int} (hk : 0 ≤ k ∧ k < n) (h : ∀ j, 0 ≤ j → j < n → f j ≤ g j) (hl : f k < g k) : sm f n < sm g n := by
  have h1 : sm (fun j => if j = k then f j + (g k - f k) else f j) n = sm f n + (g k - f k) := sm_up hk (fun q _ _ => by
    by_cases e : q = k
    · rw [if_pos e]
    · rw [if_neg e])
  have h2 : sm (fun j => if j = k then f j + (g k - f k) else f j) n ≤ sm g n := sm_le (fun j a b => by
    have := h j a b
    split
    · rename_i e; rw [e]; omega
    · exact this)
  omega
theorem CLOS_CUT {σ : St} {f : Int → Int} {k : Int} (hn : 0 ≤ σ 0 5 ∧ σ 0 5 ≤ 24) (hc : CLOS σ (pt σ) f) (hk : 0 ≤ k ∧ k < σ 0 5) (hf : f (36 + k) < 0) (hpb : PB σ (pt σ)) (hr : ∀ s, 0 ≤ s → s < 36 → 0 ≤ σ 15 s ∧ rs (pt σ) (σ 0 5) s + σ 15 s = σ 1 s) (hl : ∀ o, 0 ≤ o → o < σ 0 5 → cs (pt σ) o ≤ dem σ o) (hlt : cs (pt σ) k < dem σ k) :
    CUTV σ (fun o => decide (f (36 + o) < 0)) (fun s => decide (0 ≤ f s)) := by
  have hp0 : ∀ s o, 0 ≤ s → s < 36 → 0 ≤ o → o < σ 0 5 → 0 ≤ pt σ s o := fun s o a b c d => (hpb s o a b c (by omega)).1
  have hno : ∀ s o, 0 ≤ s → s < 36 → 0 ≤ o → o < σ 0 5 → 0 ≤ f s → f (36 + o) < 0 → rmF σ (pt σ) s o ≤ 0 := fun s o a b c d e g => by
    refine Int.not_lt.mp (fun q => ?_)
    have := hc.2 s (36 + o) a (by omega) (by omega) (by omega) e (Or.inl ⟨b, by omega, by omega, by rw [show 36 + o - 36 = o by omega]; exact q⟩)
    omega
  refine ⟨fun s o a b c d e g i => ?_, ?_⟩
  · have e1 := of_decide_eq_true e
    have g1 := of_decide_eq_true g
    have := hno s o a b c d e1 g1
    unfold rmF at this
    have i : tb (σ 3 o) (s / 12) = true ∧ s % 12 ≤ σ 1 (64 + o) := i
    rw [if_pos i] at this
    by_cases z : s = σ 0 28 ∧ o = σ 0 27
    · exact z
    · rw [if_neg z] at this
      omega
  · have A : sm (fun o => if decide (f (36 + o) < 0) = true then cs (pt σ) o else 0) (σ 0 5) < sm (fun o => if decide (f (36 + o) < 0) = true then dem σ o else 0) (σ 0 5) := by
      refine sm_lt hk (fun j a b => ?_) ?_
      · have := hl j a b
        split
        · exact this
        · exact Int.le_refl _
      · rw [if_pos (decide_eq_true hf), if_pos (decide_eq_true hf)]
        exact hlt
    have B : sm (fun o => if decide (f (36 + o) < 0) = true then cs (pt σ) o else 0) (σ 0 5) = sm (fun s => sm (fun o => if decide (f (36 + o) < 0) = true then pt σ s o else 0) (σ 0 5)) 36 := by
      rw [← sm_x (by decide) hn.1]
      exact sm_c (fun o a b => by
        by_cases e : f (36 + o) < 0
        · rw [if_pos (decide_eq_true e)]
          exact sm_c (fun s _ _ => (if_pos (decide_eq_true e)).symm)
        · rw [if_neg (by rw [decide_eq_true_eq]; exact e)]
          have : sm (fun s => if decide (f (36 + o) < 0) = true then pt σ s o else 0) 36 = sm (fun _ => 0) 36 := sm_c (fun s _ _ => if_neg (by rw [decide_eq_true_eq]; exact e))
          rw [this, sm_k (by decide), Int.mul_zero])
    refine Int.lt_of_le_of_lt ?_ A
    rw [B]
    refine sm_le (fun s a b => ?_)
    by_cases e : 0 ≤ f s
    · rw [if_pos (decide_eq_true e)]
      have nn : ∀ o, 0 ≤ o → o < σ 0 5 → 0 ≤ if decide (f (36 + o) < 0) = true then pt σ s o else 0 := fun o c d => by
        have := hp0 s o a b c d
        split <;> omega
      by_cases z : s = σ 0 28 ∧ decide (f (36 + σ 0 27) < 0) = true ∧ (0 ≤ σ 0 27 ∧ σ 0 27 < σ 0 5) ∧ tb (σ 3 (σ 0 27)) (s / 12) = true ∧ s % 12 ≤ σ 1 (64 + σ 0 27)
      · rw [if_pos z]
        have h1 := sm_one (f := fun o => if decide (f (36 + o) < 0) = true then pt σ s o else 0) z.2.2.1.1 z.2.2.1.2 nn
        have h2 := hno s (σ 0 27) a b z.2.2.1.1 z.2.2.1.2 e (of_decide_eq_true z.2.1)
        unfold rmF at h2
        rw [if_pos z.2.2.2, if_pos ⟨z.1, rfl⟩] at h2
        have h3 : (if decide (f (36 + σ 0 27) < 0) = true then pt σ s (σ 0 27) else 0) = pt σ s (σ 0 27) := if_pos z.2.1
        rw [h3] at h1
        omega
      · rw [if_neg z]
        exact sm_nn nn
    · rw [if_neg (by rw [decide_eq_true_eq]; exact e)]
      have h1 := hr s a b
      have h2 : σ 15 s = 0 := by
        have := hc.1 s a b
        omega
      have h3 : rs (pt σ) (σ 0 5) s = sm (fun o => if decide (f (36 + o) < 0) = true then pt σ s o else 0) (σ 0 5) := sm_c (fun o c d => by
        by_cases z : f (36 + o) < 0
        · rw [if_pos (decide_eq_true z)]
        · rw [if_neg (by rw [decide_eq_true_eq]; exact z)]
          have h4 := hp0 s o a b c d
          have h5 : ¬ 0 < pt σ s o := fun q => e (hc.2 (36 + o) s (by omega) (by omega) a (by omega) (by omega) (Or.inr ⟨by omega, b, by rw [show 36 + o - 36 = o by omega]; exact q⟩))
          omega)
      omega
/-- a parting under way: before an order, and within it -/
def PI (ρ : St) (k : Int) : Prop := PB ρ (pt ρ) ∧ (∀ s, 0 ≤ s → s < 36 → 0 ≤ ρ 15 s ∧ rs (pt ρ) (ρ 0 5) s + ρ 15 s = ρ 1 s) ∧ (∀ o, 0 ≤ o → o < k → cs (pt ρ) o = dem ρ o) ∧ ∀ o, k ≤ o → o < ρ 0 5 → cs (pt ρ) o = 0
def PJ (ρ : St) (k : Int) : Prop := PB ρ (pt ρ) ∧ (∀ s, 0 ≤ s → s < 36 → 0 ≤ ρ 15 s ∧ rs (pt ρ) (ρ 0 5) s + ρ 15 s = ρ 1 s) ∧ (∀ o, 0 ≤ o → o < k → cs (pt ρ) o = dem ρ o) ∧ (∀ o, k < o → o < ρ 0 5 → cs (pt ρ) o = 0) ∧ 0 ≤ ρ 16 k ∧ cs (pt ρ) k + ρ 16 k = dem ρ k
theorem pt_put {ρ : St} {i : Nat} {k v : Int} (h : i < 46) : pt (put ρ i k v) = pt ρ := by
  funext s o
  exact put_q (by omega)
theorem dem_rng {σ : St} (h : RO σ) {o : Int} (ho : 0 ≤ o ∧ o < 24) : 0 ≤ dem σ o ∧ dem σ o ≤ 60 := by
  have := h.2.2.1 o ho.1 ho.2
  unfold dem
  split <;> omega
theorem PJ_in {ρ : St} {k v : Int} (hr : RO ρ) (hk : 0 ≤ k ∧ k < ρ 0 5) (h : PI ρ k) (hv : v = dem ρ k) : PJ (put ρ 16 k v) k := by
  have e : pt (put ρ 16 k v) = pt ρ := pt_put (by decide)
  have hn := hr.1
  refine ⟨?_, ?_, ?_, ?_, ?_, ?_⟩
  · rw [e]; exact h.1
  · rw [e]; exact h.2.1
  · rw [e]; exact h.2.2.1
  · rw [e]; exact fun o a b => h.2.2.2 o (by omega) b
  · rw [put_s, hv]; exact (dem_rng hr (by omega)).1
  · rw [e, put_s, h.2.2.2 k (Int.le_refl _) hk.2, hv, Int.zero_add]
    rfl
theorem PJ_out {ρ : St} {k : Int} (h : PJ ρ k) (h0 : ρ 16 k ≤ 0) : PI ρ (k + 1) := by
  obtain ⟨a, b, c, d, e, f⟩ := h
  refine ⟨a, b, fun o x y => ?_, fun o x y => d o (by omega) y⟩
  by_cases z : o = k
  · rw [z]; omega
  · exact c o x (by omega)
theorem PJ_step {ρ : St} {k r : Int} {f q : Int → Int} {P : Int → Int → Int} (hn : 0 ≤ ρ 0 5 ∧ ρ 0 5 ≤ 24) (h : PJ ρ k) (hk : 0 ≤ k ∧ k < ρ 0 5) (hw : 0 < ρ 16 k) (hr : 0 ≤ r ∧ r < 36) (hr2 : 0 < ρ 15 r) (hp : PB ρ P) (hc : ∀ y, 0 ≤ y → y < ρ 0 5 → cs P y = cs (pt ρ) y + if y = k then 1 else 0) (hs : ∀ s, 0 ≤ s → s < 36 → rs P (ρ 0 5) s = rs (pt ρ) (ρ 0 5) s + if r = s then 1 else 0) :
    PJ (put (put (GP (FQ ρ f q) P) 15 r (ρ 15 r - 1)) 16 k (ρ 16 k - 1)) k := by
  have e : ∀ s o, 0 ≤ s → s < 36 → pt (put (put (GP (FQ ρ f q) P) 15 r (ρ 15 r - 1)) 16 k (ρ 16 k - 1)) s o = P s o := fun s o a b => by
    rw [pt_put (by decide), pt_put (by decide)]
    exact GP_r ⟨a, b⟩
  have ec : ∀ o, cs (pt (put (put (GP (FQ ρ f q) P) 15 r (ρ 15 r - 1)) 16 k (ρ 16 k - 1))) o = cs P o := fun o => sm_c (fun s a b => e s o a b)
  have er : ∀ s n, 0 ≤ s → s < 36 → rs (pt (put (put (GP (FQ ρ f q) P) 15 r (ρ 15 r - 1)) 16 k (ρ 16 k - 1))) n s = rs P n s := fun s n a b => sm_c (fun o _ _ => e s o a b)
  obtain ⟨j1, j2, j3, j4, j5, j6⟩ := h
  refine ⟨fun s o a b c d => ?_, fun s a b => ?_, fun o a b => ?_, fun o a b => ?_, ?_, ?_⟩
  · rw [e s o a b]
    exact hp s o a b c d
  · rw [er s _ a b]
    have h1 := hs s a b
    have h2 := j2 s a b
    show 0 ≤ put (GP (FQ ρ f q) P) 15 r (ρ 15 r - 1) 15 s ∧ rs P (ρ 0 5) s + put (GP (FQ ρ f q) P) 15 r (ρ 15 r - 1) 15 s = ρ 1 s
    by_cases z : r = s
    · rw [if_pos z] at h1
      rw [← z, put_s, z]
      rw [z] at hr2
      omega
    · rw [if_neg z] at h1
      rw [put_q (by omega)]
      show 0 ≤ ρ 15 s ∧ rs P (ρ 0 5) s + ρ 15 s = ρ 1 s
      omega
  · rw [ec, hc o a (by omega), if_neg (by omega), j3 o a b]
    exact Int.add_zero _
  · have b : o < ρ 0 5 := b
    rw [ec, hc o (by omega) b, if_neg (by omega), j4 o a b]
    rfl
  · rw [put_s]; omega
  · rw [ec, hc k hk.1 hk.2, if_pos rfl, put_s]
    show _ = dem ρ k
    omega
theorem PI_0 {ρ : St} (h : RO ρ) (h1 : ∀ s, 0 ≤ s → s < 36 → ρ 15 s = ρ 1 s) (h2 : ∀ s o, 0 ≤ s → s < 36 → 0 ≤ o → o < 24 → pt ρ s o = 0) (h3 : 0 ≤ ρ 0 29) : PI ρ 0 := by
  have hn := h.1
  refine ⟨fun s o a b c d => ?_, fun s a b => ?_, fun o a b => by omega, fun o a b => ?_⟩
  · rw [h2 s o a b c d]
    exact ⟨by omega, by omega, fun z => by omega, fun _ _ => h3⟩
  · have e : rs (pt ρ) (ρ 0 5) s = sm (fun _ => 0) (ρ 0 5) := sm_c (fun o c d => h2 s o a b c (by omega))
    rw [e, sm_k hn.1, Int.mul_zero, h1 s a b]
    have := h.2.1.1 s a b
    omega
  · have e : cs (pt ρ) o = sm (fun _ => 0) 36 := sm_c (fun s c d => h2 s o c d a (by omega))
    rw [e, sm_k (by decide)]
    rfl
theorem FQ_ptf {σ : St} {f q : Int → Int} : pt (FQ σ f q) = pt σ := by
  funext s o
  exact FQ_pt
theorem S2_FQ {κ τ : St} {f q : Int → Int} : FQ (S2 κ τ) f q = S2 κ (FQ (S2 κ τ) f q) := S2_of (τ := τ) (fun a b h => by
  rw [FQ_o ⟨fun e => (by rw [e] at h; cases h), fun e => (by rw [e] at h; cases h)⟩, S2_n h])
theorem S2_step {κ τ : St} {f q : Int → Int} {P : Int → Int → Int} {r u k v : Int} : put (put (GP (FQ (S2 κ τ) f q) P) 15 r u) 16 k v = S2 κ (put (put (GP (FQ (S2 κ τ) f q) P) 15 r u) 16 k v) := S2_of (τ := τ) (fun a b h => by
  have e : ∀ i, scr2 i b = true → a ≠ i := fun i q z => by rw [z, q] at h; cases h
  rw [put_q (fun z => e 16 rfl z.1), put_q (fun z => e 15 rfl z.1), GP_o (fun z => ?_), FQ_o ⟨e 17 rfl, e 18 rfl⟩, S2_n h]
  have := scr2_p (s := (a : Int) - 46) (o := b) (by omega)
  exact e _ this (by omega))

theorem hyVX9_parts : yX9_parts.cls = RX9 ∧ yX9_parts.cls ≠ "java/lang/invoke/MethodHandle" ∧ yX9_parts.cls ≠ "java/lang/invoke/VarHandle" ∧ (parseMethodDescriptor yX9_parts.desc).map (fun d => d.parameters.length) = some 3 := by decide +kernel
theorem uX9_parts_X9 : ∀ w ∈ u_ws RX9 TX9 35, w ∈ wsX9_parts := by decide +kernel
theorem fX9_parts_61 : Cond.fieldLink RX9 61 (TX9 24).1 (TX9 24).2.1 (TX9 24).2.2.1 ∈ wsX9_parts := by decide +kernel
theorem fX9_parts_80 : Cond.fieldLink RX9 80 (TX9 5).1 (TX9 5).2.1 (TX9 5).2.2.1 ∈ wsX9_parts := by decide +kernel
theorem fX9_parts_13 : Cond.fieldLink RX9 13 (TX9 1).1 (TX9 1).2.1 (TX9 1).2.2.1 ∈ wsX9_parts := by decide +kernel
theorem fX9_parts_55 : Cond.fieldLink RX9 55 (TX9 22).1 (TX9 22).2.1 (TX9 22).2.2.1 ∈ wsX9_parts := by decide +kernel
theorem fX9_parts_58 : Cond.fieldLink RX9 58 (TX9 23).1 (TX9 23).2.1 (TX9 23).2.2.1 ∈ wsX9_parts := by decide +kernel
theorem fX9_parts_9 : Cond.fieldLink RX9 9 (TX9 0).1 (TX9 0).2.1 (TX9 0).2.2.1 ∈ wsX9_parts := by decide +kernel
theorem fX9_parts_238 : Cond.fieldLink RX9 238 (TX9 27).1 (TX9 27).2.1 (TX9 27).2.2.1 ∈ wsX9_parts := by decide +kernel
theorem fX9_parts_235 : Cond.fieldLink RX9 235 (TX9 28).1 (TX9 28).2.1 (TX9 28).2.2.1 ∈ wsX9_parts := by decide +kernel
theorem fX9_parts_241 : Cond.fieldLink RX9 241 (TX9 29).1 (TX9 29).2.1 (TX9 29).2.2.1 ∈ wsX9_parts := by decide +kernel
set_option maxHeartbeats 8000000 in
set_option maxRecDepth 100000 in
theorem c_X9_parts {l : Launch} {G : Gy} (hG : Inj G) (σ : St) {o1 s1 cp : Int} (h : RO σ) (ho : iR o1) (hs : iR s1) (hc : 0 ≤ cp ∧ cp ≤ 1000) : MI l yX9_parts wsX9_parts ({ frames := 2, cells := 0, slots := 0, locals := 49 } : Room) G [.ref (G.2.2 0), .int (zI (o1)), .int (zI (s1)), .int (zI (cp))] σ (fun x σ2 => (∃ τ, σ2 = SC σ τ) ∧ ((x = 1 ∧ ∃ P, FLOWX (CF σ o1 s1 cp) P) ∨ (x = 0 ∧ ∃ X R, CUTV (CF σ o1 s1 cp) X R))) := by
  refine MI.of hG (by decide +kernel) rfl rfl (Nat.le_of_ble_eq_true rfl) rfl ?_
  intro p e s m args below meth c H0 Q hC hret
  have hn := h.1
  have hk : RO (CF σ o1 s1 cp) := h
  have L77 : ∀ (n : Nat) (k : Int) (τ : St), ((24 - k).toNat) = n → (0 ≤ k ∧ k ≤ σ 0 5) → (PI (S2 (CF σ o1 s1 cp) τ) k) → wp p l e ({ frames := 2, cells := 0, slots := 0, locals := 49 } : Room) s m args below meth c (aA G (Array.size H0)) H0 6 Q G (S2 (CF σ o1 s1 cp) τ) 77 [(0, .ref (G.2.2 0)), (1, .int (zI (o1))), (2, .int (zI (s1))), (3, .int (zI (cp))), (4, .int (zI (k)))] [] := by
    intro n77
    induction n77 using Nat.strongRecOn with
    | ind n77 ih =>
      intro k τ hm77 h1 hp
      have hro : RO (S2 (CF σ o1 s1 cp) τ) := h
      have hwk : k < 24 → 0 ≤ σ 1 (40 + k) ∧ σ 1 (40 + k) ≤ 2 := fun z => h.2.1.2.2.1 (40 + k) (by omega) (by omega)
      have L114 : ∀ (n : Nat) (τ : St), ((τ 16 k).toNat) = n → (k < σ 0 5) → (PJ (S2 (CF σ o1 s1 cp) τ) k) → wp p l e ({ frames := 2, cells := 0, slots := 0, locals := 49 } : Room) s m args below meth c (aA G (Array.size H0)) H0 6 Q G (S2 (CF σ o1 s1 cp) τ) 114 [(0, .ref (G.2.2 0)), (1, .int (zI (o1))), (2, .int (zI (s1))), (3, .int (zI (cp))), (4, .int (zI (k)))] [] := by
        intro n114
        induction n114 using Nat.strongRecOn with
        | ind n114 ih114 =>
          intro τ hm114 hkn hj
          have hro : RO (S2 (CF σ o1 s1 cp) τ) := h
          have hdk := dem_rng hro (o := k) (by omega)
          have hcs : 0 ≤ cs (pt (S2 (CF σ o1 s1 cp) τ)) k := sm_nn (fun s a b => (hj.1 s k a b (by omega) (by omega)).1)
          have hj16 : 0 ≤ τ 16 k ∧ cs (pt (S2 (CF σ o1 s1 cp) τ)) k + τ 16 k = dem (S2 (CF σ o1 s1 cp) τ) k := hj.2.2.2.2
          have hfre : ∀ s, 0 ≤ s → s < 36 → 0 ≤ rs (pt (S2 (CF σ o1 s1 cp) τ)) (σ 0 5) s ∧ 0 ≤ τ 15 s ∧ rs (pt (S2 (CF σ o1 s1 cp) τ)) (σ 0 5) s + τ 15 s ≤ 99 := fun s a b => by
            have x1 : 0 ≤ τ 15 s ∧ rs (pt (S2 (CF σ o1 s1 cp) τ)) (σ 0 5) s + τ 15 s = σ 1 s := hj.2.1 s a b
            have x2 := h.2.1.1 s a b
            have x3 : 0 ≤ rs (pt (S2 (CF σ o1 s1 cp) τ)) (σ 0 5) s := sm_nn (fun o c d => (hj.1 s o a b c (by omega)).1)
            omega
          refine wp_aload_n hC dX9_parts_114 rfl ?_
          refine wp_geta (k := 24) hC (rfl) (by decide) (rfl) (rfl) (by decide) uX9_parts_X9 fX9_parts_61 (rfl) dX9_parts_115 ?_
          refine wp_iload hC dX9_parts_118 rfl ?_
          refine wp_iald (n := 24) hC (rfl) (Nat.le_of_ble_eq_true rfl) (rfl) (by decide) (by omega) dX9_parts_120 ?_
          refine wp_top (b := τ 16 k) rfl ?_
          refine wp_if_le (tgt := 144) hC dX9_parts_121 (by decide) (by omega) (fun c_121 => ?_) (fun c_121 => ?_)
          · refine wp_iinc (lv2 := [(0, _), (1, _), (2, _), (3, _), (4, _)]) hC dX9_parts_144 rfl rfl (by decide) ?_
            refine wp_goto (tgt := 77) hC dX9_parts_147 (by decide) ?_
            exact ih _ (by omega) _ _ rfl (by omega) (PJ_out hj c_121)
          · refine wp_aload_n hC dX9_parts_124 rfl ?_
            refine wp_iload hC dX9_parts_125 rfl ?_
            refine wp_callVi (As := [_]) hC (c_X9_finds hG (S2 (CF σ o1 s1 cp) τ) hro ⟨h1.1, hkn⟩ hc ⟨hs, ho⟩ hj.1 (fun s a b => by have := hfre s a b; exact (show 0 ≤ τ 15 s ∧ τ 15 s ≤ 99 by omega))) gX9_parts_X9_finds rfl ⟨rfl, rfl⟩ ⟨by decide, by decide⟩ hyVX9_finds (rfl) (by decide) (rfl) rfl (Nat.le_of_ble_eq_true rfl) dX9_parts_127 (fun x_127 s_127 hx_127 hp_127 => ?_)
            obtain ⟨f, q, ps, rfl, hq1, hq2, hq3⟩ := hp_127
            refine wp_if_ne (tgt := 135) hC dX9_parts_130 (by decide) (hx_127) (fun c_130 => ?_) (fun c_130 => ?_)
            · refine wp_aload_n hC dX9_parts_135 rfl ?_
              refine wp_iload hC dX9_parts_136 rfl ?_
              refine wp_callVv (As := [_]) hC (c_X9_goesOne hG (FQ (S2 (CF σ o1 s1 cp) τ) f q) (ps := ps) hro ⟨h1.1, hkn⟩ hc (by rw [FQ_ptf]; exact hj.1) (fun s a b => by rw [FQ_ptf]; have := hfre s a b; exact (show 0 ≤ τ 15 s ∧ rs (pt (S2 (CF σ o1 s1 cp) τ)) (σ 0 5) s + τ 15 s ≤ 99 by omega)) hq1 (by rw [FQ_ptf]; exact hq2) (hq3.resolve_right (fun z => c_130 z.1)).2 (show 0 ≤ τ 16 k ∧ τ 16 k ≤ 60 by omega)) gX9_parts_X9_goesOne rfl ⟨rfl, rfl⟩ ⟨by decide, by decide⟩ hyVX9_goesOne (rfl) (by decide) (rfl) rfl (Nat.le_of_ble_eq_true rfl) dX9_parts_138 (fun s_138 hp_138 => ?_)
              obtain ⟨P, r, hr1, hr2, hr3, hr4, hr5, hr6, rfl⟩ := hp_138
              rw [FQ_ptf] at hr5 hr6
              have hstep := PJ_step (f := f) (q := q) (ρ := S2 (CF σ o1 s1 cp) τ) hn hj ⟨h1.1, hkn⟩ c_121 ⟨hr1, hr2⟩ hr3 hr4 hr5 hr6
              rw [S2_step] at hstep
              refine wp_goto (tgt := 114) hC dX9_parts_141 (by decide) ?_
              refine wp_st S2_step ?_
              exact ih114 _ (by rw [put_s]; show (τ 16 k - 1 : Int).toNat < _; omega) _ rfl hkn hstep
            · refine wp_iconst hC dX9_parts_133 ?_
              exact hret _ _ _ _ (by omega) rfl (⟨⟨_, by rw [S2_FQ]; exact CF_SC⟩, Or.inr ⟨rfl, _, _, CLOS_CUT (σ := S2 (CF σ o1 s1 cp) τ) hn (hq3.resolve_left (fun z => by omega)).2.2 (k := k) ⟨h1.1, hkn⟩ (hq3.resolve_left (fun z => by omega)).2.1 hj.1 hj.2.1 (fun o a b => by
                rcases Int.lt_trichotomy o k with w | w | w
                · exact Int.le_of_eq (hj.2.2.1 o a w)
                · rw [w]; omega
                · rw [hj.2.2.2.1 o w b]; exact (dem_rng hro ⟨a, by have b : o < σ 0 5 := b; omega⟩).1) (by omega)⟩⟩) dX9_parts_134
      refine wp_iload hC dX9_parts_77 rfl ?_
      skip
      refine wp_aload_n hC dX9_parts_79 rfl ?_
      refine wp_geti (k := 5) (z := 5) hC rfl (rfl) (by decide) (rfl) (rfl) (by decide) uX9_parts_X9 fX9_parts_80 (rfl) dX9_parts_80 ?_
      refine wp_top (b := σ 0 5) rfl ?_
      refine wp_icmp_ge (tgt := 150) hC dX9_parts_83 (by decide) (by omega) (by omega) (fun c_83 => ?_) (fun c_83 => ?_)
      · refine wp_iconst hC dX9_parts_150 ?_
        exact hret _ _ _ _ (by omega) rfl (⟨⟨_, CF_SC⟩, Or.inl ⟨rfl, _, hp.1, fun s a b => by
          have x1 := hp.2.1 s a b
          exact (show rs (pt (S2 (CF σ o1 s1 cp) τ)) (S2 (CF σ o1 s1 cp) τ 0 5) s ≤ S2 (CF σ o1 s1 cp) τ 1 s by omega), fun o a b => hp.2.2.1 o a (by have b : o < σ 0 5 := b; omega)⟩⟩) dX9_parts_151
      · refine wp_aload_n hC dX9_parts_86 rfl ?_
        refine wp_geta (k := 24) hC (rfl) (by decide) (rfl) (rfl) (by decide) uX9_parts_X9 fX9_parts_61 (rfl) dX9_parts_87 ?_
        refine wp_iload hC dX9_parts_90 rfl ?_
        refine wp_aload_n hC dX9_parts_92 rfl ?_
        refine wp_iload hC dX9_parts_93 rfl ?_
        refine wp_iconst hC dX9_parts_95 ?_
        refine wp_callVb (As := [_, _]) hC (c_X9_isWhat hG _ (show 0 ≤ k ∧ k < 48 by omega) (by omega) (show iR (σ 1 (40 + k)) by have := hwk (by omega); omega)) gX9_parts_X9_isWhat rfl ⟨rfl, rfl⟩ ⟨by decide, by decide⟩ hyVX9_isWhat (rfl) (by decide) (rfl) rfl (Nat.le_of_ble_eq_true rfl) dX9_parts_96 (fun hx_96 => ?_)
        refine wp_ifb_eq (tgt := 112) hC dX9_parts_99 (by decide) (fun c_99 => ?_) (fun c_99 => ?_)
        · refine wp_iconst hC dX9_parts_112 ?_
          have hd0 : 0 = dem (S2 (CF σ o1 s1 cp) τ) k := by
            show _ = if σ 1 (40 + k) = 1 then σ 2 k else 0
            have c1 : ¬ σ 1 (40 + k) = 1 := c_99
            rw [if_neg c1]
          refine wp_iast (n := 24) hC (rfl) (Nat.le_of_ble_eq_true rfl) (rfl) (by decide) (by omega) dX9_parts_113 ?_
          refine wp_st (S2_put (τ := τ) (i := 16) (k := k) (v := 0) rfl) ?_
          exact L114 _ (put τ 16 k 0) rfl (by omega) (by rw [← S2_put rfl]; exact PJ_in hro ⟨h1.1, show k < σ 0 5 by omega⟩ hp hd0)
        · refine wp_aload_n hC dX9_parts_102 rfl ?_
          refine wp_geta (k := 1) hC (rfl) (by decide) (rfl) (rfl) (by decide) uX9_parts_X9 fX9_parts_13 (rfl) dX9_parts_103 ?_
          refine wp_iload hC dX9_parts_106 rfl ?_
          refine wp_iald (n := 24) hC (rfl) (Nat.le_of_ble_eq_true rfl) (rfl) (by decide) (by omega) dX9_parts_108 ?_
          refine wp_goto (tgt := 113) hC dX9_parts_109 (by decide) ?_
          have hd0 : σ 2 k = dem (S2 (CF σ o1 s1 cp) τ) k := by
            show _ = if σ 1 (40 + k) = 1 then σ 2 k else 0
            have c1 : σ 1 (40 + k) = 1 := c_99
            rw [if_pos c1]
          refine wp_iast (n := 24) hC (rfl) (Nat.le_of_ble_eq_true rfl) (rfl) (by decide) (by omega) dX9_parts_113 ?_
          refine wp_st (S2_put (τ := τ) (i := 16) (k := k) (v := (σ 2 k)) rfl) ?_
          exact L114 _ (put τ 16 k (σ 2 k)) rfl (by omega) (by rw [← S2_put rfl]; exact PJ_in hro ⟨h1.1, show k < σ 0 5 by omega⟩ hp hd0)
  have L18 : ∀ (n : Nat) (k : Int) (τ : St), ((36 - k).toNat) = n → (0 ≤ k ∧ k ≤ 36) → (∀ s, 0 ≤ s → s < k → τ 15 s = σ 1 s) → (∀ s o, 0 ≤ s → s < k → 0 ≤ o → o < 24 → τ (46 + s.toNat) o = 0) → wp p l e ({ frames := 2, cells := 0, slots := 0, locals := 49 } : Room) s m args below meth c (aA G (Array.size H0)) H0 6 Q G (S2 (CF σ o1 s1 cp) τ) 18 [(0, .ref (G.2.2 0)), (1, .int (zI (o1))), (2, .int (zI (s1))), (3, .int (zI (cp))), (4, .int (zI (k)))] [] := by
    intro n18
    induction n18 using Nat.strongRecOn with
    | ind n18 ih =>
      intro k τ hm18 h1 hf hz
      have hwk := fun z : k < 36 => h.2.1.1 k h1.1 z
      have L44 : ∀ (n : Nat) (t : Int) (τ : St), ((24 - t).toNat) = n → (0 ≤ t ∧ t ≤ 24) → (k < 36) → (∀ s, 0 ≤ s → s < k → τ 15 s = σ 1 s) → (∀ s o, 0 ≤ s → s < k → 0 ≤ o → o < 24 → τ (46 + s.toNat) o = 0) → (τ 15 k = σ 1 k) → (∀ o, 0 ≤ o → o < t → τ (46 + k.toNat) o = 0) → wp p l e ({ frames := 2, cells := 0, slots := 0, locals := 49 } : Room) s m args below meth c (aA G (Array.size H0)) H0 6 Q G (S2 (CF σ o1 s1 cp) τ) 44 [(0, .ref (G.2.2 0)), (1, .int (zI (o1))), (2, .int (zI (s1))), (3, .int (zI (cp))), (4, .int (zI (k))), (5, .int (zI (t)))] [] := by
        intro n44
        induction n44 using Nat.strongRecOn with
        | ind n44 ih44 =>
          intro t τ hm44 h2 hk6 hf hz hfk hzk
          refine wp_iload hC dX9_parts_44 rfl ?_
          refine wp_bipush hC dX9_parts_46 rfl ?_
          refine wp_icmp_ge (tgt := 68) hC dX9_parts_48 (by decide) (by omega) (by omega) (fun c_48 => ?_) (fun c_48 => ?_)
          · refine wp_iinc (lv2 := [(0, _), (1, _), (2, _), (3, _), (4, _), (5, _)]) hC dX9_parts_68 rfl rfl (by decide) ?_
            refine wp_goto (tgt := 18) hC dX9_parts_71 (by decide) ?_
            refine wp_lv hC [0, 1, 2, 3, 4] rfl ?_
            exact ih _ (by omega) _ _ rfl (by omega) (fun s a b => by
              rcases Int.lt_or_le s k with w | w
              · exact hf s a w
              · rw [show s = k by omega]; exact hfk) (fun s o a b c d => by
              rcases Int.lt_or_le s k with w | w
              · exact hz s o a w c d
              · rw [show s = k by omega]; exact hzk o c (by omega))
          · refine wp_aload_n hC dX9_parts_51 rfl ?_
            refine wp_geta (k := 22) hC (rfl) (by decide) (rfl) (rfl) (by decide) uX9_parts_X9 fX9_parts_55 (rfl) dX9_parts_52 ?_
            refine wp_iload hC dX9_parts_55 rfl ?_
            refine wp_aald4 (n := 36) hC rfl (Nat.le_of_ble_eq_true rfl) rfl (by decide) (by omega) dX9_parts_57 ?_
            refine wp_iload hC dX9_parts_58 rfl ?_
            refine wp_iconst hC dX9_parts_60 ?_
            refine wp_iast (n := 24) hC ((rowP k.toNat (by omega)).2) (Nat.le_of_ble_eq_true rfl) ((rowP k.toNat (by omega)).1) (show 46 + k.toNat < 183 by omega) (by omega) dX9_parts_61 ?_
            refine wp_iinc (lv2 := [(0, _), (1, _), (2, _), (3, _), (4, _), (5, _)]) hC dX9_parts_62 rfl rfl (by decide) ?_
            refine wp_goto (tgt := 44) hC dX9_parts_65 (by decide) ?_
            refine wp_st (S2_put (τ := τ) (i := 46 + k.toNat) (k := t) (v := 0) (scr2_p ⟨h1.1, hk6⟩)) ?_
            exact ih44 _ (by omega) _ _ rfl (by omega) hk6 (fun s a b => by rw [put_q (by omega)]; exact hf s a b) (fun s o a b c d => by rw [put_q (by omega)]; exact hz s o a b c d) (by rw [put_q (by omega)]; exact hfk) (fun o a b => by
              by_cases e : o = t
              · rw [e, put_s]
              · rw [put_q (by omega)]; exact hzk o a (by omega))
      refine wp_iload hC dX9_parts_18 rfl ?_
      refine wp_bipush hC dX9_parts_20 rfl ?_
      refine wp_icmp_ge (tgt := 74) hC dX9_parts_22 (by decide) (by omega) (by omega) (fun c_22 => ?_) (fun c_22 => ?_)
      · refine wp_iconst hC dX9_parts_74 ?_
        refine wp_istore (lv2 := [(0, _), (1, _), (2, _), (3, _), (4, _)]) hC dX9_parts_75 rfl (by decide) ?_
        exact L77 _ _ τ rfl (by omega) (PI_0 h (fun s a b => hf s a (by omega)) (fun s o a b c d => (S2_p ⟨a, b⟩).trans (hz s o a (by omega) c d)) hc.1)
      · refine wp_aload_n hC dX9_parts_25 rfl ?_
        refine wp_geta (k := 23) hC (rfl) (by decide) (rfl) (rfl) (by decide) uX9_parts_X9 fX9_parts_58 (rfl) dX9_parts_26 ?_
        refine wp_iload hC dX9_parts_29 rfl ?_
        refine wp_aload_n hC dX9_parts_31 rfl ?_
        refine wp_geta (k := 0) hC (rfl) (by decide) (rfl) (rfl) (by decide) uX9_parts_X9 fX9_parts_9 (rfl) dX9_parts_32 ?_
        refine wp_iconst hC dX9_parts_35 ?_
        refine wp_iload hC dX9_parts_36 rfl ?_
        refine wp_iadd hC dX9_parts_38 ?_
        refine wp_iald (n := 88) hC (rfl) (Nat.le_of_ble_eq_true rfl) (rfl) (by decide) (by omega) dX9_parts_39 ?_
        refine wp_top (b := σ 1 k) (by show σ 1 (0 + k) = _; rw [Int.zero_add]) ?_
        refine wp_iast (n := 36) hC (rfl) (Nat.le_of_ble_eq_true rfl) (rfl) (by decide) (by omega) dX9_parts_40 ?_
        refine wp_iconst hC dX9_parts_41 ?_
        refine wp_istore (lv2 := [(0, _), (1, _), (2, _), (3, _), (4, _), (5, _)]) hC dX9_parts_42 rfl (by decide) ?_
        refine wp_st (S2_put (τ := τ) (i := 15) (k := k) (v := σ 1 k) rfl) ?_
        exact L44 _ 0 _ rfl (by omega) c_22 (fun s a b => by rw [put_q (by omega)]; exact hf s a b) (fun s o a b c d => by rw [put_q (by omega)]; exact hz s o a b c d) put_s (fun o a b => by omega)
  refine wp_aload_n hC dX9_parts_0 rfl ?_
  refine wp_iload_n hC dX9_parts_1 rfl ?_
  refine wp_puti2 (k := 27) (z := 27) hC rfl (rfl) (by decide) (rfl) (rfl) (by decide) uX9_parts_X9 fX9_parts_238 tyX9 tyX9_ok nmX9 rfl rfl (rfl) dX9_parts_2 ?_
  refine wp_aload_n hC dX9_parts_5 rfl ?_
  refine wp_iload_n hC dX9_parts_6 rfl ?_
  refine wp_puti2 (k := 28) (z := 28) hC rfl (rfl) (by decide) (rfl) (rfl) (by decide) uX9_parts_X9 fX9_parts_235 tyX9 tyX9_ok nmX9 rfl rfl (rfl) dX9_parts_7 ?_
  refine wp_aload_n hC dX9_parts_10 rfl ?_
  refine wp_iload_n hC dX9_parts_11 rfl ?_
  refine wp_puti2 (k := 29) (z := 29) hC rfl (rfl) (by decide) (rfl) (rfl) (by decide) uX9_parts_X9 fX9_parts_241 tyX9 tyX9_ok nmX9 rfl rfl (rfl) dX9_parts_12 ?_
  refine wp_iconst hC dX9_parts_15 ?_
  refine wp_istore (lv2 := [(0, _), (1, _), (2, _), (3, _), (4, _)]) hC dX9_parts_16 rfl (by decide) ?_
  refine wp_st (S2_self _).symm ?_
  exact L18 _ _ (CF σ o1 s1 cp) rfl (by omega) (fun s a b => by omega) (fun s o a b => by omega)
