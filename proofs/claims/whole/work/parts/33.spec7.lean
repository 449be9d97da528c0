/-! SPEC 7: steps as three numbers; how much of a supply must go to an order, and can -/
def okc (c : Int → Int) : Prop := ∀ i, 0 ≤ i → i < 3 → 0 ≤ c i ∧ c i ≤ 12
def mxc (c d : Int → Int) : Int → Int := fun i => max (c i) (d i)
abbrev inS (c : Int → Int) (s : Int) : Prop := s % 12 < c (s / 12)
/-- where an order begins to be counted -/
def sts (σ : St) (o : Int) : Int → Int := fun i => if tb (σ 3 o) i = true then σ 1 (64 + o) + 1 else 0
def ctd (σ : St) (o : Int) (c : Int → Int) : Prop := sts σ o 0 ≤ c 0 ∧ sts σ o 1 ≤ c 1 ∧ sts σ o 2 ≤ c 2
def SKc (su c : Int → Int) : Int := sq su 0 (c 0) + sq su 1 (c 1) + sq su 2 (c 2)
/-- what the promised counted at a step want -/
def DM (σ : St) (c : Int → Int) : Int := dm (σ 0 5) (σ 2) (σ 3) (fun o => σ 1 (64 + o)) (kdB σ 1) (c 0) (c 1) (c 2)
def cel (k : Int) : Int → Int := fun i => if i = 0 then k / 169 else if i = 1 then k / 13 % 13 else k % 13
theorem cel_ok {k : Int} (h : 0 ≤ k ∧ k < 2197) : okc (cel k) := fun i a b => by
  unfold cel
  split
  · omega
  · split <;> omega
theorem okc_mx {c d : Int → Int} (h : okc c) (h2 : okc d) : okc (mxc c d) := fun i a b => by
  have := h i a b
  have := h2 i a b
  unfold mxc
  omega
theorem sts_ok {σ : St} (h : RO σ) {o : Int} (ho : 0 ≤ o ∧ o < 24) : okc (sts σ o) := fun i a b => by
  have := h.2.1.2.2.2 (64 + o) (by omega) (by omega)
  unfold sts
  split <;> omega
theorem inS_sts {σ : St} (h : RO σ) {s o : Int} (hs : 0 ≤ s) (ho : 0 ≤ o ∧ o < 24) : inS (sts σ o) s ↔ adj σ s o := by
  have := h.2.1.2.2.2 (64 + o) (by omega) (by omega)
  unfold inS sts adj
  by_cases q : tb (σ 3 o) (s / 12) = true
  · rw [if_pos q]
    constructor
    · intro z; exact ⟨q, by omega⟩
    · intro z; omega
  · rw [if_neg q]
    constructor
    · intro z; omega
    · intro z; exact absurd z.1 q
theorem inS_mx {c d : Int → Int} {s : Int} : inS (mxc c d) s ↔ inS c s ∨ inS d s := by
  unfold inS mxc
  omega
theorem hSb_ctd {σ : St} (h : RO σ) {o : Int} (ho : 0 ≤ o ∧ o < 24) {c : Int → Int} (hc : okc c) : hSb (σ 3 o) (σ 1 (64 + o)) (c 0) (c 1) (c 2) = true ↔ ctd σ o c := by
  rw [hSb_iff]
  have h0 := hc 0 (by decide) (by decide)
  have h1 := hc 1 (by decide) (by decide)
  have h2 := hc 2 (by decide) (by decide)
  have e : ∀ i, 0 ≤ c i → ((tb (σ 3 o) i = false ∨ σ 1 (64 + o) < c i) ↔ sts σ o i ≤ c i) := fun i hi => by
    unfold sts
    cases q : tb (σ 3 o) i
    · rw [if_neg (by decide)]
      exact ⟨fun _ => hi, fun _ => Or.inl rfl⟩
    · rw [if_pos rfl]
      constructor
      · rintro (z | z)
        · cases z
        · omega
      · intro z; exact Or.inr (by omega)
  unfold hS ctd
  rw [e 0 h0.1, e 1 h1.1, e 2 h2.1]
theorem DM_c {σ : St} (h : RO σ) {c : Int → Int} (hc : okc c) : ∀ o, 0 ≤ o → o < σ 0 5 → ((kdB σ 1 o && hSb (σ 3 o) (σ 1 (64 + o)) (c 0) (c 1) (c 2)) = true ↔ σ 1 (40 + o) = 1 ∧ ctd σ o c) := fun o a b => by
  rw [Bool.and_eq_true, hSb_ctd h ⟨a, by have := h.1; omega⟩ hc]
  unfold kdB
  rw [decide_eq_true_eq]
theorem ctd_adj {σ : St} {o s : Int} {c : Int → Int} (hs : 0 ≤ s ∧ s < 36) (h : ctd σ o c) (ha : inS (sts σ o) s) : inS c s := by
  unfold inS at *
  obtain ⟨h0, h1, h2⟩ := h
  rcases (show s / 12 = 0 ∨ s / 12 = 1 ∨ s / 12 = 2 by omega) with e | e | e <;> rw [e] at ha ⊢ <;> omega
theorem sm_split {f : Int → Int} {m : Int} (hm : 0 ≤ m) {n : Int} (hn : 0 ≤ n) : sm f (m + n) = sm f m + sm (fun k => f (m + k)) n :=
  int_ind (P := fun n => sm f (m + n) = sm f m + sm (fun k => f (m + k)) n) (by rw [Int.add_zero, sm_0, Int.add_zero]) (fun k h0 ih => by
    rw [← Int.add_assoc, sm_s (by omega), ih, sm_s h0]
    omega) n hn
theorem sm_cut {f : Int → Int} {q n : Int} (hq : 0 ≤ q ∧ q ≤ n) : sm (fun t => if t < q then f t else 0) n = sm f q := by
  have h1 := sm_split (f := fun t => if t < q then f t else 0) hq.1 (n := n - q) (by omega)
  rw [show q + (n - q) = n by omega] at h1
  rw [h1]
  have h2 : sm (fun k => if q + k < q then f (q + k) else 0) (n - q) = sm (fun _ => 0) (n - q) := sm_c (fun k a b => if_neg (by omega))
  rw [h2, sm_k (by omega), Int.mul_zero, Int.add_zero]
  exact sm_c (fun k a b => if_pos b)
theorem SK_sum {su c : Int → Int} (hc : okc c) : sm (fun s => if inS c s then su s else 0) 36 = SKc su c := by
  have e : ∀ i, 0 ≤ i → i < 3 → sm (fun k => if inS c (12 * i + k) then su (12 * i + k) else 0) 12 = sq su i (c i) := fun i a b => by
    have h1 : sm (fun k => if inS c (12 * i + k) then su (12 * i + k) else 0) 12 = sm (fun k => if k < c i then su (12 * i + k) else 0) 12 := sm_c (fun k x y => by
      unfold inS
      rw [show (12 * i + k) % 12 = k by omega, show (12 * i + k) / 12 = i by omega])
    rw [h1]
    exact sm_cut (f := fun t => su (12 * i + t)) (hc i a b)
  have s1 := sm_split (f := fun s => if inS c s then su s else 0) (m := 12) (by decide) (n := 24) (by decide)
  have s2 := sm_split (f := fun k => if inS c (12 + k) then su (12 + k) else 0) (m := 12) (by decide) (n := 12) (by decide)
  have e0 := e 0 (by decide) (by decide)
  have e1 := e 1 (by decide) (by decide)
  have e2 := e 2 (by decide) (by decide)
  have e0' : sm (fun s => if inS c s then su s else 0) 12 = sq su 0 (c 0) := by
    rw [← e0]
    exact sm_c (fun k _ _ => by rw [show 12 * 0 + k = k by omega])
  have e2' : sm (fun k => if inS c (12 + (12 + k)) then su (12 + (12 + k)) else 0) 12 = sq su 2 (c 2) := by
    rw [← e2]
    exact sm_c (fun k _ _ => by rw [show 12 * 2 + k = 12 + (12 + k) by omega])
  unfold SKc
  rw [← e0', ← e1, ← e2']
  have s1' : sm (fun s => if inS c s then su s else 0) 36 = _ := s1
  have s2' : sm (fun k => if inS c (12 + k) then su (12 + k) else 0) 24 = _ := s2
  rw [s1', s2']
  show _ + (_ + _) = _
  rw [show (12 : Int) * 1 = 12 from rfl]
  omega
theorem SK_mono {su c d : Int → Int} (hs : ∀ j, 0 ≤ j → j < 36 → 0 ≤ su j) (hc : okc c) (hd : okc d) (h : ∀ i, 0 ≤ i → i < 3 → c i ≤ d i) : SKc su c ≤ SKc su d := by
  have e : ∀ i, 0 ≤ i → i < 3 → sq su i (c i) ≤ sq su i (d i) := fun i a b => sm_mono (hc i a b).1 (h i a b) (fun k x y => hs _ (by have := hc i a b; omega) (by have := hd i a b; omega))
  have e0 := e 0 (by decide) (by decide)
  have e1 := e 1 (by decide) (by decide)
  have e2 := e 2 (by decide) (by decide)
  unfold SKc
  omega
theorem LK_cel {σ : St} {k : Int} : LK σ (kdB σ 1) k = SKc (σ 1) (cel k) - DM σ (cel k) := rfl
theorem cel_ex {c : Int → Int} (h : okc c) : ∃ k, 0 ≤ k ∧ k < 2197 ∧ cel k 0 = c 0 ∧ cel k 1 = c 1 ∧ cel k 2 = c 2 := by
  have h0 := h 0 (by decide) (by decide)
  have h1 := h 1 (by decide) (by decide)
  have h2 := h 2 (by decide) (by decide)
  refine ⟨169 * c 0 + 13 * c 1 + c 2, by omega, by omega, ?_, ?_, ?_⟩
  · show (169 * c 0 + 13 * c 1 + c 2) / 169 = c 0
    omega
  · show (169 * c 0 + 13 * c 1 + c 2) / 13 % 13 = c 1
    omega
  · show (169 * c 0 + 13 * c 1 + c 2) % 13 = c 2
    omega
theorem SD_c {σ : St} {c d : Int → Int} (h0 : c 0 = d 0) (h1 : c 1 = d 1) (h2 : c 2 = d 2) : SKc (σ 1) c - DM σ c = SKc (σ 1) d - DM σ d := by
  unfold SKc DM
  rw [h0, h1, h2]
theorem MET_okc {σ : St} : MET σ (kdB σ 1) ↔ ∀ c, okc c → DM σ c ≤ SKc (σ 1) c := by
  constructor
  · intro h c hc
    obtain ⟨k, a, b, e0, e1, e2⟩ := cel_ex hc
    have := h k a b
    rw [LK_cel, SD_c e0 e1 e2] at this
    omega
  · intro h k a b
    rw [LK_cel]
    have := h (cel k) (cel_ok ⟨a, b⟩)
    omega
noncomputable def wb (b : Prop) (v : Int) : Int := @ite _ b (Classical.propDecidable _) v 0
theorem wb_y {b : Prop} {v : Int} (h : b) : wb b v = v := if_pos h
theorem wb_n {b : Prop} {v : Int} (h : ¬ b) : wb b v = 0 := if_neg h
def FF (σ : St) (o s : Int) (c : Int → Int) : Int := σ 2 o + σ 1 s + DM σ c - SKc (σ 1) (mxc c (sts σ o))
/-- what a parting at a limit shows -/
theorem cutA {κ : St} {P : Int → Int → Int} (h : RO κ) (ho : 0 ≤ κ 0 27 ∧ κ 0 27 < κ 0 5) (hs : 0 ≤ κ 0 28 ∧ κ 0 28 < 36) (hp : κ 1 (40 + κ 0 27) = 1) (ha : adj κ (κ 0 28) (κ 0 27)) (hf : FLOWX κ P) : ∀ c, okc c → ¬ inS c (κ 0 28) → FF κ (κ 0 27) (κ 0 28) c ≤ κ 0 29 := by
  intro c hc hno
  obtain ⟨f1, f2, f3⟩ := hf
  have hn := h.1
  have hso := sts_ok h (o := κ 0 27) (by omega)
  have hnc : ¬ ctd κ (κ 0 27) c := fun z => hno (ctd_adj hs z ((inS_sts h hs.1 (by omega)).mpr ha))
  -- the counted and the order itself
  have A : DM κ c + κ 2 (κ 0 27) = sm (fun o => wb ((κ 1 (40 + o) = 1 ∧ ctd κ o c) ∨ o = κ 0 27) (cs P o)) (κ 0 5) := by
    refine (sm_up (f := fun o => if (kdB κ 1 o && hSb (κ 3 o) (κ 1 (64 + o)) (c 0) (c 1) (c 2)) = true then κ 2 o else 0) (o := κ 0 27) (d := κ 2 (κ 0 27)) ho (fun q a b => ?_)).symm
    have e1 := DM_c h hc q a b
    by_cases z : q = κ 0 27
    · subst z
      rw [if_pos rfl, wb_y (Or.inr rfl), if_neg (fun w => hnc (e1.mp w).2), f3 _ a b]
      unfold dem
      rw [if_pos hp, Int.zero_add]
    · rw [if_neg z]
      by_cases w : κ 1 (40 + q) = 1 ∧ ctd κ q c
      · rw [wb_y (Or.inl w), if_pos (e1.mpr w), f3 q a b]
        unfold dem
        rw [if_pos w.1]
      · rw [wb_n (fun x => x.elim w z), if_neg (fun x => w (e1.mp x))]
  have B : sm (fun o => wb ((κ 1 (40 + o) = 1 ∧ ctd κ o c) ∨ o = κ 0 27) (cs P o)) (κ 0 5) = sm (fun s => sm (fun o => wb ((κ 1 (40 + o) = 1 ∧ ctd κ o c) ∨ o = κ 0 27) (P s o)) (κ 0 5)) 36 := by
    rw [← sm_x (by decide) hn.1]
    exact sm_c (fun o a b => by
      by_cases e : (κ 1 (40 + o) = 1 ∧ ctd κ o c) ∨ o = κ 0 27
      · rw [wb_y e]
        exact sm_c (fun s _ _ => (wb_y e).symm)
      · rw [wb_n e]
        have : sm (fun s => wb ((κ 1 (40 + o) = 1 ∧ ctd κ o c) ∨ o = κ 0 27) (P s o)) 36 = sm (fun _ => 0) 36 := sm_c (fun s _ _ => wb_n e)
        rw [this, sm_k (by decide), Int.mul_zero])
  have C : sm (fun s => if s = κ 0 28 then (if inS (mxc c (sts κ (κ 0 27))) s then κ 1 s else 0) + (κ 0 29 - κ 1 (κ 0 28)) else (if inS (mxc c (sts κ (κ 0 27))) s then κ 1 s else 0)) 36 = SKc (κ 1) (mxc c (sts κ (κ 0 27))) + (κ 0 29 - κ 1 (κ 0 28)) := by
    rw [← SK_sum (okc_mx hc hso)]
    exact sm_up hs (fun q _ _ => rfl)
  have D : sm (fun s => sm (fun o => wb ((κ 1 (40 + o) = 1 ∧ ctd κ o c) ∨ o = κ 0 27) (P s o)) (κ 0 5)) 36 ≤ sm (fun s => if s = κ 0 28 then (if inS (mxc c (sts κ (κ 0 27))) s then κ 1 s else 0) + (κ 0 29 - κ 1 (κ 0 28)) else (if inS (mxc c (sts κ (κ 0 27))) s then κ 1 s else 0)) 36 := by
    refine sm_le (fun s a b => ?_)
    have pp : ∀ o, 0 ≤ o → o < κ 0 5 → 0 ≤ P s o := fun o x y => (f1 s o a b x (by omega)).1
    have pa : ∀ o, 0 ≤ o → o < κ 0 5 → P s o ≠ 0 → inS (sts κ o) s := fun o x y z => (inS_sts h a (by omega)).mpr ((f1 s o a b x (by omega)).2.2.1 (by have := pp o x y; omega)).2
    by_cases e : s = κ 0 28
    · rw [if_pos e, if_pos (inS_mx.mpr (Or.inr ((inS_sts h a (by omega)).mpr (by rw [e]; exact ha)))), e]
      have h1 : sm (fun o => wb ((κ 1 (40 + o) = 1 ∧ ctd κ o c) ∨ o = κ 0 27) (P (κ 0 28) o)) (κ 0 5) = sm (fun _ => 0) (κ 0 5) + P (κ 0 28) (κ 0 27) := sm_up ho (fun q x y => by
        by_cases z : q = κ 0 27
        · rw [if_pos z, wb_y (Or.inr z), z, Int.zero_add]
        · rw [if_neg z]
          by_cases w : κ 1 (40 + q) = 1 ∧ ctd κ q c
          · rw [wb_y (Or.inl w)]
            refine Decidable.byContradiction (fun u => hno ?_)
            exact ctd_adj hs w.2 (by have := pa q x y (by rw [e]; exact u); rw [e] at this; exact this)
          · exact wb_n (fun u => u.elim w z))
      rw [h1, sm_k hn.1, Int.mul_zero]
      have := (f1 (κ 0 28) (κ 0 27) hs.1 hs.2 ho.1 (by omega)).2.2.2 rfl rfl
      omega
    · rw [if_neg e]
      by_cases z : inS (mxc c (sts κ (κ 0 27))) s
      · rw [if_pos z]
        refine Int.le_trans (sm_le (g := fun o => P s o) (fun o x y => ?_)) (f2 s a b)
        by_cases w : (κ 1 (40 + o) = 1 ∧ ctd κ o c) ∨ o = κ 0 27
        · rw [wb_y w]; exact Int.le_refl _
        · rw [wb_n w]; exact pp o x y
      · rw [if_neg z]
        have h1 : sm (fun o => wb ((κ 1 (40 + o) = 1 ∧ ctd κ o c) ∨ o = κ 0 27) (P s o)) (κ 0 5) = sm (fun _ => 0) (κ 0 5) := sm_c (fun q x y => by
          by_cases w : (κ 1 (40 + q) = 1 ∧ ctd κ q c) ∨ q = κ 0 27
          · rw [wb_y w]
            refine Decidable.byContradiction (fun u => z (inS_mx.mpr ?_))
            have := pa q x y u
            rcases w with w | w
            · exact Or.inl (ctd_adj ⟨a, b⟩ w.2 this)
            · rw [w] at this
              exact Or.inr this
          · exact wb_n w)
        rw [h1, sm_k hn.1, Int.mul_zero]
        exact Int.le_refl _
  unfold FF
  omega
theorem maxE {Y : Int → Prop} {g : Int → Int} {n : Int} (hn : 0 ≤ n) (hg : ∀ o, 0 ≤ o → o < n → 0 ≤ g o ∧ g o ≤ 12) : ∃ m, 0 ≤ m ∧ m ≤ 12 ∧ (∀ o, 0 ≤ o → o < n → Y o → g o ≤ m) ∧ (m = 0 ∨ ∃ o, 0 ≤ o ∧ o < n ∧ Y o ∧ g o = m) := by
  refine int_ind (P := fun n => (∀ o, 0 ≤ o → o < n → 0 ≤ g o ∧ g o ≤ 12) → ∃ m, 0 ≤ m ∧ m ≤ 12 ∧ (∀ o, 0 ≤ o → o < n → Y o → g o ≤ m) ∧ (m = 0 ∨ ∃ o, 0 ≤ o ∧ o < n ∧ Y o ∧ g o = m)) (fun _ => ⟨0, by omega, by omega, fun o a b => by omega, Or.inl rfl⟩) (fun k h0 ih hk => ?_) n hn hg
  obtain ⟨m, m1, m2, m3, m4⟩ := ih (fun o a b => hk o a (by omega))
  have hgk := hk k h0 (by omega)
  by_cases z : Y k ∧ m < g k
  · refine ⟨g k, hgk.1, hgk.2, fun o a b y => ?_, Or.inr ⟨k, h0, by omega, z.1, rfl⟩⟩
    by_cases e : o = k
    · rw [e]; exact Int.le_refl _
    · have := m3 o a (by omega) y
      omega
  · refine ⟨m, m1, m2, fun o a b y => ?_, ?_⟩
    · by_cases e : o = k
      · rw [e] at y ⊢
        refine Int.not_lt.mp (fun w => z ⟨y, w⟩)
      · exact m3 o a (by omega) y
    · rcases m4 with m4 | ⟨o, o1, o2, o3⟩
      · exact Or.inl m4
      · exact Or.inr ⟨o, o1, by omega, o3⟩
/-- what a cut at a limit shows -/
theorem cutB {κ : St} {X R : Int → Bool} (h : RO κ) (ho : 0 ≤ κ 0 27 ∧ κ 0 27 < κ 0 5) (hs : 0 ≤ κ 0 28 ∧ κ 0 28 < 36) (h9 : 0 ≤ κ 0 29) (hm : MET κ (kdB κ 1)) (hx : CUTV κ X R) : adj κ (κ 0 28) (κ 0 27) ∧ ∃ c, okc c ∧ ¬ inS c (κ 0 28) ∧ κ 0 29 < FF κ (κ 0 27) (κ 0 28) c := by
  obtain ⟨x1, x2⟩ := hx
  have hn := h.1
  have hso : ∀ o, 0 ≤ o → o < κ 0 5 → okc (sts κ o) := fun o a b => sts_ok h (by omega)
  -- the wanted of the set, the order aside
  have mx : ∀ i, 0 ≤ i → i < 3 → ∃ m, 0 ≤ m ∧ m ≤ 12 ∧ (∀ o, 0 ≤ o → o < κ 0 5 → (X o = true ∧ κ 1 (40 + o) = 1 ∧ o ≠ κ 0 27) → sts κ o i ≤ m) ∧ (m = 0 ∨ ∃ o, 0 ≤ o ∧ o < κ 0 5 ∧ (X o = true ∧ κ 1 (40 + o) = 1 ∧ o ≠ κ 0 27) ∧ sts κ o i = m) := fun i a b => maxE hn.1 (fun o x y => hso o x y i a b)
  obtain ⟨m0, a1, a2, a3, a4⟩ := mx 0 (by decide) (by decide)
  obtain ⟨m1, b1, b2, b3, b4⟩ := mx 1 (by decide) (by decide)
  obtain ⟨m2, c1, c2, c3, c4⟩ := mx 2 (by decide) (by decide)
  clear mx
  have hc : ∃ c : Int → Int, c 0 = m0 ∧ c 1 = m1 ∧ c 2 = m2 := ⟨fun i => if i = 0 then m0 else if i = 1 then m1 else m2, rfl, rfl, rfl⟩
  obtain ⟨c, rfl, rfl, rfl⟩ := hc
  have i3 : ∀ {Q : Int → Prop}, Q 0 → Q 1 → Q 2 → ∀ i, 0 ≤ i → i < 3 → Q i := fun q0 q1 q2 i a b => by
    rcases (show i = 0 ∨ i = 1 ∨ i = 2 by omega) with e | e | e <;> rw [e] <;> assumption
  have hok : okc c := i3 (Q := fun i => 0 ≤ c i ∧ c i ≤ 12) ⟨a1, a2⟩ ⟨b1, b2⟩ ⟨c1, c2⟩
  have hct : ∀ o, 0 ≤ o → o < κ 0 5 → X o = true → κ 1 (40 + o) = 1 → o ≠ κ 0 27 → ctd κ o c := fun o x y z w v => ⟨a3 o x y ⟨z, w, v⟩, b3 o x y ⟨z, w, v⟩, c3 o x y ⟨z, w, v⟩⟩
  have hex : ∀ i, 0 ≤ i → i < 3 → (c i = 0 ∨ ∃ o, 0 ≤ o ∧ o < κ 0 5 ∧ (X o = true ∧ κ 1 (40 + o) = 1 ∧ o ≠ κ 0 27) ∧ sts κ o i = c i) := i3 (Q := fun i => c i = 0 ∨ ∃ o, 0 ≤ o ∧ o < κ 0 5 ∧ (X o = true ∧ κ 1 (40 + o) = 1 ∧ o ≠ κ 0 27) ∧ sts κ o i = c i) a4 b4 c4
  clear a1 a2 a3 a4 b1 b2 b3 b4 c1 c2 c3 c4
  have hnr : ∀ s, 0 ≤ s → s < 36 → inS c s → R s = false := fun s a b z => by
    rcases hex (s / 12) (by omega) (by omega) with q | ⟨o, o1, o2, ⟨o3, _, o5⟩, o6⟩
    · unfold inS at z
      rw [q] at z
      omega
    · cases e : R s
      · rfl
      · have : inS (sts κ o) s := by
          unfold inS at z ⊢
          rw [o6]
          exact z
        exact absurd (x1 s o a b o1 o2 e o3 ((inS_sts h a (by omega)).mp this)).2 o5
  have hw : ∀ s, 0 ≤ s → s < 36 → 0 ≤ κ 1 s := fun s a b => (h.2.1.1 s a b).1
  have hcost : ∀ s, 0 ≤ s → s < 36 → 0 ≤ (if R s = true then (if s = κ 0 28 ∧ X (κ 0 27) = true ∧ (0 ≤ κ 0 27 ∧ κ 0 27 < κ 0 5) ∧ tb (κ 3 (κ 0 27)) (s / 12) = true ∧ s % 12 ≤ κ 1 (64 + κ 0 27) then κ 0 29 else 0) else κ 1 s) := fun s a b => by
    have := hw s a b
    split
    · split
      · exact h9
      · exact Int.le_refl 0
    · exact this
  have hso1 := hso _ ho.1 ho.2
  by_cases cas : X (κ 0 27) = true ∧ κ 1 (40 + κ 0 27) = 1 ∧ adj κ (κ 0 28) (κ 0 27) ∧ ¬ inS c (κ 0 28) ∧ R (κ 0 28) = true
  · obtain ⟨k1, k2, k3, k4, k5⟩ := cas
    refine ⟨k3, c, hok, k4, ?_⟩
    have hnc : ¬ ctd κ (κ 0 27) c := fun z => k4 (ctd_adj hs z ((inS_sts h hs.1 (by omega)).mpr k3))
    have A : sm (fun o => if X o = true then dem κ o else 0) (κ 0 5) ≤ DM κ c + κ 2 (κ 0 27) := by
      have e : sm (fun o => if o = κ 0 27 then (if (kdB κ 1 o && hSb (κ 3 o) (κ 1 (64 + o)) (c 0) (c 1) (c 2)) = true then κ 2 o else 0) + κ 2 (κ 0 27) else (if (kdB κ 1 o && hSb (κ 3 o) (κ 1 (64 + o)) (c 0) (c 1) (c 2)) = true then κ 2 o else 0)) (κ 0 5) = DM κ c + κ 2 (κ 0 27) := sm_up ho (fun q _ _ => rfl)
      rw [← e]
      refine sm_le (fun o a b => ?_)
      have e1 := DM_c h hok o a b
      have e2 := h.2.2.1 o a (by omega)
      by_cases z : o = κ 0 27
      · subst z
        rw [if_pos rfl, if_pos k1, if_neg (fun w => hnc (e1.mp w).2)]
        unfold dem
        rw [if_pos k2, Int.zero_add]
        exact Int.le_refl _
      · rw [if_neg z]
        by_cases w : X o = true
        · rw [if_pos w]
          unfold dem
          by_cases v : κ 1 (40 + o) = 1
          · rw [if_pos v, if_pos (e1.mpr ⟨v, hct o a b w v z⟩)]
            exact Int.le_refl _
          · rw [if_neg v]
            split <;> omega
        · rw [if_neg w]
          split <;> omega
    have B : sm (fun s => if s = κ 0 28 then (if inS (mxc c (sts κ (κ 0 27))) s then κ 1 s else 0) + (κ 0 29 - κ 1 (κ 0 28)) else (if inS (mxc c (sts κ (κ 0 27))) s then κ 1 s else 0)) 36 = SKc (κ 1) (mxc c (sts κ (κ 0 27))) + (κ 0 29 - κ 1 (κ 0 28)) := by
      rw [← SK_sum (okc_mx hok hso1)]
      exact sm_up hs (fun q _ _ => rfl)
    have C := sm_le (n := 36) (f := fun s => if s = κ 0 28 then (if inS (mxc c (sts κ (κ 0 27))) s then κ 1 s else 0) + (κ 0 29 - κ 1 (κ 0 28)) else (if inS (mxc c (sts κ (κ 0 27))) s then κ 1 s else 0)) (g := fun s => if R s = true then (if s = κ 0 28 ∧ X (κ 0 27) = true ∧ (0 ≤ κ 0 27 ∧ κ 0 27 < κ 0 5) ∧ tb (κ 3 (κ 0 27)) (s / 12) = true ∧ s % 12 ≤ κ 1 (64 + κ 0 27) then κ 0 29 else 0) else κ 1 s) (fun s a b => by
      by_cases z : s = κ 0 28
      · rw [if_pos z, if_pos (inS_mx.mpr (Or.inr ((inS_sts h a (by omega)).mpr (by rw [z]; exact k3)))), z, if_pos k5, if_pos ⟨rfl, k1, ho, k3⟩]
        omega
      · rw [if_neg z]
        by_cases w : inS (mxc c (sts κ (κ 0 27))) s
        · rw [if_pos w]
          have : R s = false := by
            rcases inS_mx.mp w with w | w
            · exact hnr s a b w
            · cases e : R s
              · rfl
              · exact absurd (x1 s _ a b ho.1 ho.2 e k1 ((inS_sts h a (by omega)).mp w)).1 z
          rw [this, if_neg (by decide)]
          exact Int.le_refl _
        · rw [if_neg w]
          exact hcost s a b)
    unfold FF
    omega
  · exfalso
    have key : ∀ d : Int → Int, okc d → (∀ o, 0 ≤ o → o < κ 0 5 → X o = true → κ 1 (40 + o) = 1 → ctd κ o d) → (∀ s, 0 ≤ s → s < 36 → inS d s → R s = false) → False := fun d d1 d2 d3 => by
      have A : sm (fun o => if X o = true then dem κ o else 0) (κ 0 5) ≤ DM κ d := sm_le (fun o a b => by
        have e1 := DM_c h d1 o a b
        have e2 := h.2.2.1 o a (by omega)
        by_cases w : X o = true
        · rw [if_pos w]
          unfold dem
          by_cases v : κ 1 (40 + o) = 1
          · rw [if_pos v, if_pos (e1.mpr ⟨v, d2 o a b w v⟩)]
            exact Int.le_refl _
          · rw [if_neg v]
            split <;> omega
        · rw [if_neg w]
          split <;> omega)
      have B := sm_le (n := 36) (f := fun s => if inS d s then κ 1 s else 0) (g := fun s => if R s = true then (if s = κ 0 28 ∧ X (κ 0 27) = true ∧ (0 ≤ κ 0 27 ∧ κ 0 27 < κ 0 5) ∧ tb (κ 3 (κ 0 27)) (s / 12) = true ∧ s % 12 ≤ κ 1 (64 + κ 0 27) then κ 0 29 else 0) else κ 1 s) (fun s a b => by
        by_cases w : inS d s
        · rw [if_pos w, d3 s a b w, if_neg (by decide)]
          exact Int.le_refl _
        · rw [if_neg w]
          exact hcost s a b)
      rw [SK_sum d1] at B
      have := MET_okc.mp hm d d1
      omega
    by_cases z : X (κ 0 27) = true ∧ κ 1 (40 + κ 0 27) = 1
    · refine key (mxc c (sts κ (κ 0 27))) (okc_mx hok hso1) (fun o a b w v => ?_) (fun s a b w => ?_)
      · by_cases e : o = κ 0 27
        · rw [e]
          exact ⟨Int.le_max_right _ _, Int.le_max_right _ _, Int.le_max_right _ _⟩
        · obtain ⟨q0, q1, q2⟩ := hct o a b w v e
          exact ⟨Int.le_trans q0 (Int.le_max_left _ _), Int.le_trans q1 (Int.le_max_left _ _), Int.le_trans q2 (Int.le_max_left _ _)⟩
      · rcases inS_mx.mp w with w | w
        · exact hnr s a b w
        · cases e : R s
          · rfl
          · have ad := (inS_sts h a (by omega)).mp w
            have e2 := (x1 s _ a b ho.1 ho.2 e z.1 ad).1
            rw [e2] at e ad
            by_cases v : inS c (κ 0 28)
            · rw [hnr _ hs.1 hs.2 v] at e
              cases e
            · exact absurd ⟨z.1, z.2, ad, v, e⟩ cas
    · exact key c hok (fun o a b w v => hct o a b w v (fun e => z (by rw [e] at w v; exact ⟨w, v⟩))) hnr
