theorem MET_TH {σ : St} (hn : 0 ≤ σ 0 5) : MET σ (tb (TH σ 1)) ↔ MET σ (kdB σ 1) := MET_P (fun o a b => by rw [tb_TH hn a, decide_eq_true b, Bool.true_and])
theorem RO_low {σ : St} {s o v u : Int} (h : RO σ) (hs : 0 ≤ s ∧ s < 36) (hv : 0 ≤ v ∧ v ≤ 99) (hu : 0 ≤ u ∧ u ≤ 60) : RO (put (put σ 1 s v) 2 o u) := by
  refine ⟨h.1, ⟨fun j a b => ?_, fun j a b => ?_, fun j a b => ?_, fun j a b => ?_⟩, fun j a b => ?_, h.2.2.2⟩
  · show 0 ≤ put σ 1 s v 1 j ∧ put σ 1 s v 1 j ≤ 99
    by_cases e : j = s
    · rw [e, put_s]; exact hv
    · rw [put_q (by omega)]; exact h.2.1.1 j a b
  · show 0 ≤ put σ 1 s v 1 j ∧ put σ 1 s v 1 j ≤ 100
    rw [put_q (by omega)]; exact h.2.1.2.1 j a b
  · show 0 ≤ put σ 1 s v 1 j ∧ put σ 1 s v 1 j ≤ 2
    rw [put_q (by omega)]; exact h.2.1.2.2.1 j a b
  · show 0 ≤ put σ 1 s v 1 j ∧ put σ 1 s v 1 j ≤ 11
    rw [put_q (by omega)]; exact h.2.1.2.2.2 j a b
  · by_cases e : j = o
    · rw [e, put_s]; exact hu
    · rw [put_q (by omega)]; exact h.2.2.1 j a b
/-- a supply and an order's amount lowered -/
theorem LOWc {σ : St} {o s k : Int} (h : RO σ) (ho : 0 ≤ o ∧ o < σ 0 5) (hs : 0 ≤ s ∧ s < 36) (hp : σ 1 (40 + o) = 1) (hk : 0 ≤ k ∧ k ≤ σ 2 o ∧ k ≤ σ 1 s) {c : Int → Int} (hc : okc c) :
    SKc (put (put σ 1 s (σ 1 s - k)) 2 o (σ 2 o - k) 1) c = SKc (σ 1) c - (if inS c s then k else 0) ∧ DM (put (put σ 1 s (σ 1 s - k)) 2 o (σ 2 o - k)) c = DM σ c - wb (ctd σ o c) k := by
  have hn := h.1
  constructor
  · rw [← SK_sum hc, ← SK_sum hc]
    show sm (fun q => if inS c q then put σ 1 s (σ 1 s - k) 1 q else 0) 36 = _
    rw [show sm (fun q => if inS c q then put σ 1 s (σ 1 s - k) 1 q else 0) 36 = sm (fun q => if inS c q then σ 1 q else 0) 36 + -(if inS c s then k else 0) from sm_up hs (fun q _ _ => by
      by_cases e : q = s
      · rw [if_pos e, e, put_s]
        split <;> omega
      · rw [if_neg e, put_q (by omega)])]
    omega
  · have e : DM (put (put σ 1 s (σ 1 s - k)) 2 o (σ 2 o - k)) c = DM σ c + -wb (ctd σ o c) k := by
      refine sm_up ho (fun q a b => ?_)
      have e1 := DM_c h hc q a b
      have e0 : ((kdB (put (put σ 1 s (σ 1 s - k)) 2 o (σ 2 o - k)) 1 q && hSb (σ 3 q) (put (put σ 1 s (σ 1 s - k)) 2 o (σ 2 o - k) 1 (64 + q)) (c 0) (c 1) (c 2)) = true) = ((kdB σ 1 q && hSb (σ 3 q) (σ 1 (64 + q)) (c 0) (c 1) (c 2)) = true) := by
        have x1 : kdB (put (put σ 1 s (σ 1 s - k)) 2 o (σ 2 o - k)) 1 q = kdB σ 1 q := by
          show decide (put σ 1 s (σ 1 s - k) 1 (40 + q) = 1) = _
          rw [put_q (by omega)]
          rfl
        have x2 : put (put σ 1 s (σ 1 s - k)) 2 o (σ 2 o - k) 1 (64 + q) = σ 1 (64 + q) := by
          show put σ 1 s (σ 1 s - k) 1 (64 + q) = _
          rw [put_q (by omega)]
        rw [x1, x2]
      show (if (kdB (put (put σ 1 s (σ 1 s - k)) 2 o (σ 2 o - k)) 1 q && hSb (σ 3 q) (put (put σ 1 s (σ 1 s - k)) 2 o (σ 2 o - k) 1 (64 + q)) (c 0) (c 1) (c 2)) = true then put (put σ 1 s (σ 1 s - k)) 2 o (σ 2 o - k) 2 q else 0) = _
      simp only [e0]
      by_cases e : q = o
      · subst e
        rw [if_pos rfl, put_s]
        by_cases w : ctd σ q c
        · rw [wb_y w, if_pos (e1.mpr ⟨hp, w⟩), if_pos (e1.mpr ⟨hp, w⟩)]
          omega
        · rw [wb_n w, if_neg (fun x => w (e1.mp x).2), if_neg (fun x => w (e1.mp x).2)]
          rfl
      · rw [if_neg e, put_q (by omega), put_i (by decide)]
    omega
theorem LOWm {σ : St} {o s k : Int} (h : RO σ) (hm : MET σ (kdB σ 1)) (ho : 0 ≤ o ∧ o < σ 0 5) (hs : 0 ≤ s ∧ s < 36) (hp : σ 1 (40 + o) = 1) (ha : adj σ s o) (hk : 0 ≤ k ∧ k ≤ σ 2 o ∧ k ≤ σ 1 s) :
    MET (put (put σ 1 s (σ 1 s - k)) 2 o (σ 2 o - k)) (kdB (put (put σ 1 s (σ 1 s - k)) 2 o (σ 2 o - k)) 1) ↔ ∀ c, okc c → inS c s → ¬ ctd σ o c → k ≤ SKc (σ 1) c - DM σ c := by
  rw [MET_okc]
  have hin : ∀ c, ctd σ o c → inS c s := fun c z => ctd_adj hs z ((inS_sts h hs.1 (by have := h.1; omega)).mpr ha)
  constructor
  · intro q c hc hi hx
    have h1 := q c hc
    obtain ⟨e1, e2⟩ := LOWc h ho hs hp hk hc
    rw [e1, e2, if_pos hi, wb_n hx] at h1
    omega
  · intro q c hc
    have h1 := MET_okc.mp hm c hc
    obtain ⟨e1, e2⟩ := LOWc h ho hs hp hk hc
    rw [e1, e2]
    by_cases hi : inS c s
    · rw [if_pos hi]
      by_cases hx : ctd σ o c
      · rw [wb_y hx]; omega
      · rw [wb_n hx]
        have := q c hc hi hx
        omega
    · rw [if_neg hi, wb_n (fun z => hi (hin c z))]
      omega
theorem RESTO {σ τ τ1 : St} {o s u v : Int} : put (put (S1 (put (put (SC σ τ) 1 s u) 2 o v) τ1) 1 s (σ 1 s)) 2 o (σ 2 o) = SC σ (S1 (put (put (SC σ τ) 1 s u) 2 o v) τ1) := by
  funext a b
  cases h : scr a b
  · rw [SC_n h]
    by_cases q : a = 2 ∧ b = o
    · rw [q.1, q.2, put_s]
    · rw [put_q q]
      by_cases q1 : a = 1 ∧ b = s
      · rw [q1.1, q1.2, put_s]
      · rw [put_q q1, S1_n (scr1_scr h), put_q q, put_q q1, SC_n h]
  · have e : ∀ i, scr i b = false → a ≠ i := fun i q z => by rw [z, q] at h; cases h
    rw [SC_y h, put_q (fun z => e 2 rfl z.1), put_q (fun z => e 1 rfl z.1)]
/-- the most of a supply that can go to an order -/
def MO (σ : St) (o s x : Int) : Prop := 0 ≤ x ∧ (¬ adj σ s o → x = 0) ∧ (adj σ s o → x ≤ σ 2 o ∧ x ≤ σ 1 s ∧ (∀ c, okc c → inS c s → ¬ ctd σ o c → x ≤ SKc (σ 1) c - DM σ c) ∧ (x = σ 2 o ∨ x = σ 1 s ∨ ∃ c, okc c ∧ inS c s ∧ ¬ ctd σ o c ∧ SKc (σ 1) c - DM σ c ≤ x))
/-- what the search for it has so far -/
def MVs (σ : St) (o s x : Int) : Prop := (¬ adj σ s o → x = 0) ∧ (adj σ s o → x ≤ σ 2 o ∧ x ≤ σ 1 s ∧ (x = σ 2 o ∨ x = σ 1 s ∨ ∃ c, okc c ∧ inS c s ∧ ¬ ctd σ o c ∧ SKc (σ 1) c - DM σ c ≤ x))
/-- the least of a supply that must go to an order -/
def MUS (σ : St) (o s x : Int) : Prop := 0 ≤ x ∧ (¬ adj σ s o → x = 0) ∧ (adj σ s o → (∀ c, okc c → ¬ inS c s → FF σ o s c ≤ x) ∧ (x = 0 ∨ ∃ c, okc c ∧ ¬ inS c s ∧ x ≤ FF σ o s c))
theorem MV_yes {σ : St} {o s k : Int} (hv : MVs σ o s k) (hk : 0 < k) (hm : ∀ c, okc c → inS c s → ¬ ctd σ o c → k ≤ SKc (σ 1) c - DM σ c) : MO σ o s k :=
  ⟨by omega, hv.1, fun a => ⟨(hv.2 a).1, (hv.2 a).2.1, hm, (hv.2 a).2.2⟩⟩
theorem MV_no {σ : St} {o s k : Int} (hv : MVs σ o s k) (hk : 0 < k) (hm : ¬ ∀ c, okc c → inS c s → ¬ ctd σ o c → k ≤ SKc (σ 1) c - DM σ c) : MVs σ o s (k - 1) := by
  refine ⟨fun a => ?_, fun a => ?_⟩
  · have := hv.1 a
    omega
  · obtain ⟨h1, h2, _⟩ := hv.2 a
    refine ⟨by omega, by omega, Or.inr (Or.inr ?_)⟩
    refine Classical.byContradiction (fun z => hm (fun c c1 c2 c3 => ?_))
    refine Int.not_lt.mp (fun w => z ⟨c, c1, c2, c3, by omega⟩)
theorem MV_0 {σ : St} {o s : Int} (hm : MET σ (kdB σ 1)) (hv : MVs σ o s 0) : MO σ o s 0 :=
  ⟨Int.le_refl 0, hv.1, fun a => ⟨(hv.2 a).1, (hv.2 a).2.1, fun c c1 _ _ => by have := MET_okc.mp hm c c1; omega, (hv.2 a).2.2⟩⟩
theorem FF_le {σ : St} {o s : Int} {c : Int → Int} (h : RO σ) (hm : MET σ (kdB σ 1)) (ho : 0 ≤ o ∧ o < σ 0 5) (hc : okc c) : FF σ o s c ≤ σ 2 o + σ 1 s := by
  have h1 := MET_okc.mp hm c hc
  have h2 := SK_mono (su := σ 1) (c := c) (d := mxc c (sts σ o)) (fun j a b => (h.2.1.1 j a b).1) hc (okc_mx hc (sts_ok h (by have := h.1; omega))) (fun i _ _ => Int.le_max_left _ _)
  unfold FF
  omega

def RNG (σ : St) (o it p0 wh x : Int) : Prop := (¬ ((0 ≤ o ∧ o < σ 0 5) ∧ ((0 ≤ it ∧ it ≤ 2) ∧ (0 ≤ p0 ∧ p0 ≤ 11)) ∧ (0 ≤ wh ∧ wh ≤ 1)) ∧ x = -1) ∨ (((0 ≤ o ∧ o < σ 0 5) ∧ ((0 ≤ it ∧ it ≤ 2) ∧ (0 ≤ p0 ∧ p0 ≤ 11)) ∧ (0 ≤ wh ∧ wh ≤ 1)) ∧ ((σ 1 (40 + o) ≠ 1 ∧ x = -5) ∨ (σ 1 (40 + o) = 1 ∧ ((¬ MET σ (kdB σ 1) ∧ x = -2) ∨ (MET σ (kdB σ 1) ∧ ((wh = 1 ∧ MO σ o (12 * it + p0) x) ∨ (wh = 0 ∧ MUS σ o (12 * it + p0) x)))))))

def MU1 (σ : St) (o s k : Int) : Prop := k = 0 ∨ (adj σ s o ∧ ∃ c, okc c ∧ ¬ inS c s ∧ k ≤ FF σ o s c)
theorem MU1_yes {σ τ : St} {o s k : Int} {P : Int → Int → Int} (h : RO σ) (ho : 0 ≤ o ∧ o < σ 0 5) (hs : 0 ≤ s ∧ s < 36) (hp : σ 1 (40 + o) = 1) (h0 : 0 ≤ k) (hv : MU1 σ o s k) (hf : FLOWX (CF (SC σ τ) o s k) P) : MUS σ o s k :=
  ⟨h0, fun na => hv.resolve_right (fun z => na z.1), fun ya => ⟨cutA (κ := CF (SC σ τ) o s k) h ho hs hp ya hf, hv.imp id (fun z => z.2)⟩⟩
theorem MU1_no {σ τ : St} {o s k : Int} {X R : Int → Bool} (h : RO σ) (hm : MET σ (kdB σ 1)) (ho : 0 ≤ o ∧ o < σ 0 5) (hs : 0 ≤ s ∧ s < 36) (h0 : 0 ≤ k) (hf : CUTV (CF (SC σ τ) o s k) X R) : MU1 σ o s (k + 1) ∧ k + 1 ≤ 160 := by
  obtain ⟨ya, c, h1, h2, h3⟩ := cutB (κ := CF (SC σ τ) o s k) h ho hs h0 hm hf
  have h3 : k < FF σ o s c := h3
  have h4 := FF_le (s := s) h hm ho h1
  have h5 := h.2.1.1 s hs.1 hs.2
  have h6 := h.2.2.1 o ho.1 (by have := h.1; omega)
  exact ⟨Or.inr ⟨ya, c, h1, h2, by omega⟩, by omega⟩

theorem hyVX9_mostOf : yX9_mostOf.cls = RX9 ∧ yX9_mostOf.cls ≠ "java/lang/invoke/MethodHandle" ∧ yX9_mostOf.cls ≠ "java/lang/invoke/VarHandle" ∧ (parseMethodDescriptor yX9_mostOf.desc).map (fun d => d.parameters.length) = some 2 := by decide +kernel
theorem uX9_mostOf_X9 : ∀ w ∈ u_ws RX9 TX9 35, w ∈ wsX9_mostOf := by decide +kernel
theorem fX9_mostOf_9 : Cond.fieldLink RX9 9 (TX9 0).1 (TX9 0).2.1 (TX9 0).2.2.1 ∈ wsX9_mostOf := by decide +kernel
theorem fX9_mostOf_13 : Cond.fieldLink RX9 13 (TX9 1).1 (TX9 1).2.1 (TX9 1).2.2.1 ∈ wsX9_mostOf := by decide +kernel
theorem fX9_mostOf_16 : Cond.fieldLink RX9 16 (TX9 2).1 (TX9 2).2.1 (TX9 2).2.2.1 ∈ wsX9_mostOf := by decide +kernel
set_option maxHeartbeats 8000000 in
set_option maxRecDepth 100000 in
theorem c_X9_mostOf {l : Launch} {G : Gy} (hG : Inj G) (σ : St) {o u1 : Int} (h : RO σ) (hm : MET σ (kdB σ 1)) (ho : 0 ≤ o ∧ o < σ 0 5) (hs : 0 ≤ u1 ∧ u1 < 36) (hp : σ 1 (40 + o) = 1) : MI l yX9_mostOf wsX9_mostOf ({ frames := 5, cells := 0, slots := 0, locals := 113 } : Room) G [.ref (G.2.2 0), .int (zI (o)), .int (zI (u1))] σ (fun x σ2 => (∃ τ, σ2 = SC σ τ) ∧ MO σ o u1 x) := by
  refine MI.of hG (by decide +kernel) rfl rfl (Nat.le_of_ble_eq_true rfl) rfl ?_
  intro p e s m args below meth c H0 Q hC hret
  have hn := h.1
  have ham := h.2.2.1 o ho.1 (by omega)
  have hws := h.2.1.1 u1 hs.1 hs.2
  have hit := h.2.2.2.1 o ho.1 (by omega)
  have hla := h.2.1.2.2.2 (64 + o) (by omega) (by omega)
  have e1 : u1.tdiv 12 = u1 / 12 := Int.tdiv_eq_ediv_of_nonneg hs.1
  have e2 : u1.tmod 12 = u1 % 12 := Int.tmod_eq_emod_of_nonneg hs.1
  have L66 : ∀ (n : Nat) (k fl : Int) (τ : St), (k.toNat) = n → (0 ≤ k ∧ k ≤ 60) → (MVs σ o u1 k) → wp p l e ({ frames := 5, cells := 0, slots := 0, locals := 113 } : Room) s m args below meth c (aA G (Array.size H0)) H0 6 Q G (SC σ τ) 66 [(0, .ref (G.2.2 0)), (1, .int (zI (o))), (2, .int (zI (u1))), (3, .int (zI (fl))), (4, .int (zI (k)))] [] := by
    intro n66
    induction n66 using Nat.strongRecOn with
    | ind n66 ih =>
      intro k fl τ hm66 h1 hv
      refine wp_iload hC dX9_mostOf_66 rfl ?_
      refine wp_if_le (tgt := 144) hC dX9_mostOf_68 (by decide) (by omega) (fun c_68 => ?_) (fun c_68 => ?_)
      · refine wp_iconst hC dX9_mostOf_144 ?_
        exact hret _ _ _ _ (by omega) rfl (⟨⟨_, rfl⟩, by rw [show k = 0 by omega] at hv; exact MV_0 hm hv⟩) dX9_mostOf_145
      · refine wp_aload_n hC dX9_mostOf_71 rfl ?_
        refine wp_geta (k := 0) hC (rfl) (by decide) (rfl) (rfl) (by decide) uX9_mostOf_X9 fX9_mostOf_9 (rfl) dX9_mostOf_72 ?_
        refine wp_iconst hC dX9_mostOf_75 ?_
        refine wp_iload_n hC dX9_mostOf_76 rfl ?_
        refine wp_iadd hC dX9_mostOf_77 ?_
        refine wp_dup2 hC dX9_mostOf_78 rfl rfl ?_
        refine wp_iald (n := 88) hC (rfl) (Nat.le_of_ble_eq_true rfl) (rfl) (by decide) (by omega) dX9_mostOf_79 ?_
        refine wp_iload hC dX9_mostOf_80 rfl ?_
        refine wp_isub hC dX9_mostOf_82 ?_
        refine wp_iast (n := 88) hC (rfl) (Nat.le_of_ble_eq_true rfl) (rfl) (by decide) (by omega) dX9_mostOf_83 ?_
        refine wp_aload_n hC dX9_mostOf_84 rfl ?_
        refine wp_geta (k := 1) hC (rfl) (by decide) (rfl) (rfl) (by decide) uX9_mostOf_X9 fX9_mostOf_13 (rfl) dX9_mostOf_85 ?_
        refine wp_iload_n hC dX9_mostOf_88 rfl ?_
        refine wp_dup2 hC dX9_mostOf_89 rfl rfl ?_
        refine wp_iald (n := 24) hC (rfl) (Nat.le_of_ble_eq_true rfl) (rfl) (by decide) (by omega) dX9_mostOf_90 ?_
        refine wp_iload hC dX9_mostOf_91 rfl ?_
        refine wp_isub hC dX9_mostOf_93 ?_
        refine wp_iast (n := 24) hC (rfl) (Nat.le_of_ble_eq_true rfl) (rfl) (by decide) (by omega) dX9_mostOf_94 ?_
        have hya : adj σ u1 o := Classical.byContradiction (fun z => by have := hv.1 z; omega)
        have hk : 0 ≤ k ∧ k ≤ σ 2 o ∧ k ≤ σ 1 u1 := ⟨h1.1, (hv.2 hya).1, (hv.2 hya).2.1⟩
        refine wp_st (σ2 := (put (put (SC σ τ) 1 u1 (σ 1 u1 - k)) 2 o (σ 2 o - k))) (by rw [Int.zero_add]; rfl) ?_
        have hro : RO (put (put (SC σ τ) 1 u1 (σ 1 u1 - k)) 2 o (σ 2 o - k)) := RO_low (σ := SC σ τ) h hs (by omega) (by omega)
        have hmk := LOWm (σ := SC σ τ) h hm ho hs hp hya hk
        refine wp_aload_n hC dX9_mostOf_95 rfl ?_
        refine wp_aload_n hC dX9_mostOf_96 rfl ?_
        refine wp_iconst hC dX9_mostOf_97 ?_
        refine wp_callVe (As := [_]) hC (c_X9_those hG (put (put (SC σ τ) 1 u1 (σ 1 u1 - k)) 2 o (σ 2 o - k)) (by omega) (kI hro) hn) gX9_mostOf_X9_those rfl ⟨rfl, rfl⟩ ⟨by decide, by decide⟩ hyVX9_those (rfl) (by decide) (rfl) rfl (Nat.le_of_ble_eq_true rfl) dX9_mostOf_98 (fun hx_98 => ?_)
        refine wp_callVi (As := [_]) hC (c_X9_isMet hG (put (put (SC σ τ) 1 u1 (σ 1 u1 - k)) 2 o (σ 2 o - k)) hro (bsI hn)) gX9_mostOf_X9_isMet rfl ⟨rfl, rfl⟩ ⟨by decide, by decide⟩ hyVX9_isMet (rfl) (by decide) (rfl) rfl (Nat.le_of_ble_eq_true rfl) dX9_mostOf_101 (fun x_101 s_101 hx_101 hp_101 => ?_)
        obtain ⟨hmm, hf_101⟩ := hp_101
        obtain ⟨τ1, rfl⟩ := FLP_S1 hf_101
        clear hf_101
        have hmm := bP_c hmm (MET_TH (σ := (put (put (SC σ τ) 1 u1 (σ 1 u1 - k)) 2 o (σ 2 o - k))) hn.1)
        refine wp_istore (lv2 := [(0, _), (1, _), (2, _), (3, _), (4, _), (5, _)]) hC dX9_mostOf_104 rfl (by decide) ?_
        refine wp_aload_n hC dX9_mostOf_106 rfl ?_
        refine wp_geta (k := 0) hC (rfl) (by decide) (rfl) (rfl) (by decide) uX9_mostOf_X9 fX9_mostOf_9 (rfl) dX9_mostOf_107 ?_
        refine wp_iconst hC dX9_mostOf_110 ?_
        refine wp_iload_n hC dX9_mostOf_111 rfl ?_
        refine wp_iadd hC dX9_mostOf_112 ?_
        refine wp_dup2 hC dX9_mostOf_113 rfl rfl ?_
        refine wp_iald (n := 88) hC (rfl) (Nat.le_of_ble_eq_true rfl) (rfl) (by decide) (by omega) dX9_mostOf_114 ?_
        refine wp_top (b := σ 1 u1 - k) (by rw [Int.zero_add]; exact (show put (SC σ τ) 1 u1 (σ 1 u1 - k) 1 u1 = _ from put_s)) ?_
        refine wp_iload hC dX9_mostOf_115 rfl ?_
        refine wp_iadd hC dX9_mostOf_117 ?_
        refine wp_iast (n := 88) hC (rfl) (Nat.le_of_ble_eq_true rfl) (rfl) (by decide) (by omega) dX9_mostOf_118 ?_
        refine wp_aload_n hC dX9_mostOf_119 rfl ?_
        refine wp_geta (k := 1) hC (rfl) (by decide) (rfl) (rfl) (by decide) uX9_mostOf_X9 fX9_mostOf_13 (rfl) dX9_mostOf_120 ?_
        refine wp_iload_n hC dX9_mostOf_123 rfl ?_
        refine wp_dup2 hC dX9_mostOf_124 rfl rfl ?_
        refine wp_iald (n := 24) hC (rfl) (Nat.le_of_ble_eq_true rfl) (rfl) (by decide) (by omega) dX9_mostOf_125 ?_
        refine wp_top (b := σ 2 o - k) (show put (put (SC σ τ) 1 u1 (σ 1 u1 - k)) 2 o (σ 2 o - k) 2 o = _ from put_s) ?_
        refine wp_iload hC dX9_mostOf_126 rfl ?_
        refine wp_iadd hC dX9_mostOf_128 ?_
        refine wp_iast (n := 24) hC (rfl) (Nat.le_of_ble_eq_true rfl) (rfl) (by decide) (by omega) dX9_mostOf_129 ?_
        refine wp_st (σ2 := SC σ (S1 (put (put (SC σ τ) 1 u1 (σ 1 u1 - k)) 2 o (σ 2 o - k)) τ1)) (by rw [Int.zero_add, Int.sub_add_cancel, Int.sub_add_cancel]; exact RESTO) ?_
        refine wp_iload hC dX9_mostOf_130 rfl ?_
        refine wp_if_eq (tgt := 138) hC dX9_mostOf_132 (by decide) (bP_iR hmm) (fun c_132 => ?_) (fun c_132 => ?_)
        · refine wp_iinc (lv2 := [(0, _), (1, _), (2, _), (3, _), (4, _), (5, _)]) hC dX9_mostOf_138 rfl rfl (by decide) ?_
          refine wp_goto (tgt := 66) hC dX9_mostOf_141 (by decide) ?_
          refine wp_lv hC [0, 1, 2, 3, 4] rfl ?_
          exact ih _ (by omega) _ _ _ rfl (by omega) (MV_no hv c_68 (fun z => bP_0 hmm c_132 (hmk.mpr z)))
        · refine wp_iload hC dX9_mostOf_135 rfl ?_
          exact hret _ _ _ _ (by omega) rfl (⟨⟨_, rfl⟩, MV_yes hv c_68 (hmk.mp (bP_1 hmm c_132))⟩) dX9_mostOf_137
  refine wp_aload_n hC dX9_mostOf_0 rfl ?_
  refine wp_geta (k := 2) hC (rfl) (by decide) (rfl) (rfl) (by decide) uX9_mostOf_X9 fX9_mostOf_16 (rfl) dX9_mostOf_1 ?_
  refine wp_iload_n hC dX9_mostOf_4 rfl ?_
  refine wp_iald (n := 24) hC (rfl) (Nat.le_of_ble_eq_true rfl) (rfl) (by decide) (by omega) dX9_mostOf_5 ?_
  refine wp_iload_n hC dX9_mostOf_6 rfl ?_
  refine wp_bipush hC dX9_mostOf_7 rfl ?_
  refine wp_idiv hC dX9_mostOf_9 (by omega) (by omega) ?_
  refine wp_top (b := u1 / 12) e1 ?_
  refine wp_ishr hC dX9_mostOf_10 ?_
  refine wp_iconst hC dX9_mostOf_11 ?_
  refine wp_iand hC dX9_mostOf_12 ?_
  refine wp_top (b := bI (tb (σ 3 o) (u1 / 12) = true)) (bit_at (by omega) (by omega) (by omega) (by omega)) ?_
  refine wp_iconst hC dX9_mostOf_13 ?_
  refine wp_icmp_ne (tgt := 37) hC dX9_mostOf_14 (by decide) (iR_bI) (by omega) (fun c_14 => ?_) (fun c_14 => ?_)
  · have hna : ¬ adj σ u1 o := fun z => bI_n1.mp c_14 z.1
    refine wp_iconst hC dX9_mostOf_37 ?_
    refine wp_istore_n (lv2 := [(0, _), (1, _), (2, _), (3, _)]) hC dX9_mostOf_38 rfl (by decide) ?_
    refine wp_iload_n hC dX9_mostOf_39 rfl ?_
    refine wp_if_eq (tgt := 63) hC dX9_mostOf_40 (by decide) (by omega) (fun c_40 => ?_) (fun c_40 => ?_)
    · refine wp_iconst hC dX9_mostOf_63 ?_
      refine wp_istore (lv2 := [(0, _), (1, _), (2, _), (3, _), (4, _)]) hC dX9_mostOf_64 rfl (by decide) ?_
      refine wp_st (SC_self σ).symm ?_
      exact L66 _ 0 _ σ rfl (by omega) ⟨fun _ => rfl, fun a => absurd a hna⟩
    · exact absurd rfl c_40
  · have c14 : tb (σ 3 o) (u1 / 12) = true := bI_1.mp c_14
    refine wp_iload_n hC dX9_mostOf_17 rfl ?_
    refine wp_bipush hC dX9_mostOf_18 rfl ?_
    refine wp_irem hC dX9_mostOf_20 (by omega) (by omega) ?_
    refine wp_top (b := u1 % 12) e2 ?_
    refine wp_aload_n hC dX9_mostOf_21 rfl ?_
    refine wp_geta (k := 0) hC (rfl) (by decide) (rfl) (rfl) (by decide) uX9_mostOf_X9 fX9_mostOf_9 (rfl) dX9_mostOf_22 ?_
    refine wp_bipush hC dX9_mostOf_25 rfl ?_
    refine wp_iload_n hC dX9_mostOf_27 rfl ?_
    refine wp_iadd hC dX9_mostOf_28 ?_
    refine wp_iald (n := 88) hC (rfl) (Nat.le_of_ble_eq_true rfl) (rfl) (by decide) (by omega) dX9_mostOf_29 ?_
    refine wp_icmp_gt (tgt := 37) hC dX9_mostOf_30 (by decide) (by omega) (by omega) (fun c_30 => ?_) (fun c_30 => ?_)
    · have hna : ¬ adj σ u1 o := fun z => by have := z.2; omega
      refine wp_iconst hC dX9_mostOf_37 ?_
      refine wp_istore_n (lv2 := [(0, _), (1, _), (2, _), (3, _)]) hC dX9_mostOf_38 rfl (by decide) ?_
      refine wp_iload_n hC dX9_mostOf_39 rfl ?_
      refine wp_if_eq (tgt := 63) hC dX9_mostOf_40 (by decide) (by omega) (fun c_40 => ?_) (fun c_40 => ?_)
      · refine wp_iconst hC dX9_mostOf_63 ?_
        refine wp_istore (lv2 := [(0, _), (1, _), (2, _), (3, _), (4, _)]) hC dX9_mostOf_64 rfl (by decide) ?_
        refine wp_st (SC_self σ).symm ?_
        exact L66 _ 0 _ σ rfl (by omega) ⟨fun _ => rfl, fun a => absurd a hna⟩
      · exact absurd rfl c_40
    · refine wp_iconst hC dX9_mostOf_33 ?_
      refine wp_goto (tgt := 38) hC dX9_mostOf_34 (by decide) ?_
      refine wp_istore_n (lv2 := [(0, _), (1, _), (2, _), (3, _)]) hC dX9_mostOf_38 rfl (by decide) ?_
      refine wp_iload_n hC dX9_mostOf_39 rfl ?_
      refine wp_if_eq (tgt := 63) hC dX9_mostOf_40 (by decide) (by omega) (fun c_40 => ?_) (fun c_40 => ?_)
      · exact absurd c_40 (by decide)
      · have hya : adj σ u1 o := ⟨c14, by omega⟩
        refine wp_aload_n hC dX9_mostOf_43 rfl ?_
        refine wp_geta (k := 1) hC (rfl) (by decide) (rfl) (rfl) (by decide) uX9_mostOf_X9 fX9_mostOf_13 (rfl) dX9_mostOf_44 ?_
        refine wp_iload_n hC dX9_mostOf_47 rfl ?_
        refine wp_iald (n := 24) hC (rfl) (Nat.le_of_ble_eq_true rfl) (rfl) (by decide) (by omega) dX9_mostOf_48 ?_
        refine wp_aload_n hC dX9_mostOf_49 rfl ?_
        refine wp_geta (k := 0) hC (rfl) (by decide) (rfl) (rfl) (by decide) uX9_mostOf_X9 fX9_mostOf_9 (rfl) dX9_mostOf_50 ?_
        refine wp_iconst hC dX9_mostOf_53 ?_
        refine wp_iload_n hC dX9_mostOf_54 rfl ?_
        refine wp_iadd hC dX9_mostOf_55 ?_
        refine wp_iald (n := 88) hC (rfl) (Nat.le_of_ble_eq_true rfl) (rfl) (by decide) (by omega) dX9_mostOf_56 ?_
        refine wp_top (b := σ 1 u1) (by rw [Int.zero_add]) ?_
        refine wp_mmin hC (by decide +kernel) (by decide +kernel) (by decide +kernel) (by decide +kernel) (Nat.le_of_ble_eq_true rfl) (by decide) (by omega) (by omega) dX9_mostOf_57 ?_
        refine wp_goto (tgt := 64) hC dX9_mostOf_60 (by decide) ?_
        refine wp_istore (lv2 := [(0, _), (1, _), (2, _), (3, _), (4, _)]) hC dX9_mostOf_64 rfl (by decide) ?_
        refine wp_st (SC_self σ).symm ?_
        exact L66 _ (min (σ 2 o) (σ 1 u1)) _ σ rfl (by omega) ⟨fun a => absurd hya a, fun _ => ⟨by omega, by omega, by rcases (show min (σ 2 o) (σ 1 u1) = σ 2 o ∨ min (σ 2 o) (σ 1 u1) = σ 1 u1 by omega) with z | z <;> rw [z]; exact Or.inl rfl; exact Or.inr (Or.inl rfl)⟩⟩

theorem hyVX9_range : yX9_range.cls = RX9 ∧ yX9_range.cls ≠ "java/lang/invoke/MethodHandle" ∧ yX9_range.cls ≠ "java/lang/invoke/VarHandle" ∧ (parseMethodDescriptor yX9_range.desc).map (fun d => d.parameters.length) = some 4 := by decide +kernel
set_option maxHeartbeats 8000000 in
set_option maxRecDepth 100000 in
theorem c_X9_range {l : Launch} {G : Gy} (hG : Inj G) (σ : St) {o it p0 wh : Int} (h : RO σ) (ho : iR o) (hit : iR it) (hp0 : iR p0) (hwh : iR wh) : MI l yX9_range wsX9_range ({ frames := 6, cells := 0, slots := 0, locals := 138 } : Room) G [.ref (G.2.2 0), .int (zI (o)), .int (zI (it)), .int (zI (p0)), .int (zI (wh))] σ (fun x σ2 => (∃ τ, σ2 = SC σ τ) ∧ RNG σ o it p0 wh x) := by
  refine MI.of hG (by decide +kernel) rfl rfl (Nat.le_of_ble_eq_true rfl) rfl ?_
  intro p e s m args below meth c H0 Q hC hret
  have hn := h.1
  have L80 : ∀ (n : Nat) (k : Int) (τ : St), ((160 - k).toNat) = n → (0 ≤ o ∧ o < σ 0 5) → (0 ≤ it ∧ it ≤ 2 ∧ 0 ≤ p0 ∧ p0 ≤ 11) → (wh = 0) → (σ 1 (40 + o) = 1) → (MET σ (kdB σ 1)) → (0 ≤ k ∧ k ≤ 160) → (MU1 σ o (12 * it + p0) k) → wp p l e ({ frames := 6, cells := 0, slots := 0, locals := 138 } : Room) s m args below meth c (aA G (Array.size H0)) H0 7 Q G (SC σ τ) 80 [(0, .ref (G.2.2 0)), (1, .int (zI (o))), (2, .int (zI (it))), (3, .int (zI (p0))), (4, .int (zI (wh))), (5, .int (zI (12 * it + p0))), (6, .int (zI (k)))] [] := by
    intro n80
    induction n80 using Nat.strongRecOn with
    | ind n80 ih =>
      intro k τ hm80 h5 h8 h20 h31 hm h1 hv
      refine wp_aload_n hC dX9_range_80 rfl ?_
      refine wp_iload_n hC dX9_range_81 rfl ?_
      refine wp_iload hC dX9_range_82 rfl ?_
      refine wp_iload hC dX9_range_84 rfl ?_
      refine wp_callVi (As := [_, _, _]) hC (c_X9_parts hG (SC σ τ) h (by omega) (by omega) ⟨by omega, by omega⟩) gX9_range_X9_parts rfl ⟨rfl, rfl⟩ ⟨by decide, by decide⟩ hyVX9_parts (rfl) (by decide) (rfl) rfl (Nat.le_of_ble_eq_true rfl) dX9_range_86 (fun x_86 s_86 hx_86 hp_86 => ?_)
      obtain ⟨⟨τ2, rfl⟩, hres⟩ := hp_86
      refine wp_if_ne (tgt := 98) hC dX9_range_89 (by decide) (hx_86) (fun c_89 => ?_) (fun c_89 => ?_)
      · refine wp_iload hC dX9_range_98 rfl ?_
        exact hret _ _ _ _ (by omega) rfl (⟨⟨_, SC_SC σ τ τ2⟩, Or.inr ⟨⟨h5, ⟨⟨h8.1, h8.2.1⟩, h8.2.2⟩, by omega⟩, Or.inr ⟨h31, Or.inr ⟨hm, Or.inr ⟨h20, by
          obtain ⟨P, hP⟩ := (hres.resolve_right (fun z => c_89 z.1)).2
          exact MU1_yes h h5 (show 0 ≤ 12 * it + p0 ∧ 12 * it + p0 < 36 by omega) h31 h1.1 hv hP⟩⟩⟩⟩⟩) dX9_range_100
      · refine wp_iinc (lv2 := [(0, _), (1, _), (2, _), (3, _), (4, _), (5, _), (6, _)]) hC dX9_range_92 rfl rfl (by decide) ?_
        refine wp_goto (tgt := 80) hC dX9_range_95 (by decide) ?_
        have hX : ∃ X R, CUTV (CF (SC σ τ) o (12 * it + p0) k) X R := hres.resolve_left (fun z => by omega) |>.2
        obtain ⟨X, R, hX⟩ := hX
        obtain ⟨hv2, hk2⟩ := MU1_no h hm h5 (show 0 ≤ 12 * it + p0 ∧ 12 * it + p0 < 36 by omega) h1.1 hX
        refine wp_st (SC_SC σ τ τ2) ?_
        exact ih _ (by omega) _ _ rfl h5 h8 h20 h31 hm (by omega) hv2
  refine wp_aload_n hC dX9_range_0 rfl ?_
  refine wp_iload_n hC dX9_range_1 rfl ?_
  refine wp_callVb (As := [_]) hC (c_X9_isOrder hG _ (by omega) h.1) gX9_range_X9_isOrder rfl ⟨rfl, rfl⟩ ⟨by decide, by decide⟩ hyVX9_isOrder (rfl) (by decide) (rfl) rfl (Nat.le_of_ble_eq_true rfl) dX9_range_2 (fun hx_2 => ?_)
  refine wp_ifb_eq (tgt := 26) hC dX9_range_5 (by decide) (fun c_5 => ?_) (fun c_5 => ?_)
  · refine wp_iconst hC dX9_range_26 ?_
    exact hret _ _ _ _ (by omega) rfl (⟨⟨_, (SC_self σ).symm⟩, Or.inl ⟨fun z => c_5 z.1, rfl⟩⟩) dX9_range_27
  · refine wp_iload_n hC dX9_range_8 rfl ?_
    refine wp_iload_n hC dX9_range_9 rfl ?_
    refine wp_callSb (As := [_, _]) hC (c_X9_isSupply hG _ (by omega) (by omega)) gX9_range_X9_isSupply rfl ⟨rfl, rfl⟩ ⟨by decide, by decide⟩ hySX9_isSupply rfl (Nat.le_of_ble_eq_true rfl) dX9_range_10 (fun hx_10 => ?_)
    refine wp_ifb_eq (tgt := 26) hC dX9_range_13 (by decide) (fun c_13 => ?_) (fun c_13 => ?_)
    · refine wp_iconst hC dX9_range_26 ?_
      exact hret _ _ _ _ (by omega) rfl (⟨⟨_, (SC_self σ).symm⟩, Or.inl ⟨fun z => c_13 z.2.1, rfl⟩⟩) dX9_range_27
    · refine wp_iload hC dX9_range_16 rfl ?_
      refine wp_iconst hC dX9_range_18 ?_
      refine wp_iconst hC dX9_range_19 ?_
      refine wp_callSb (As := [_, _, _]) hC (c_X9_isIn hG _ hwh (by omega) (by omega)) gX9_range_X9_isIn rfl ⟨rfl, rfl⟩ ⟨by decide, by decide⟩ hySX9_isIn rfl (Nat.le_of_ble_eq_true rfl) dX9_range_20 (fun hx_20 => ?_)
      refine wp_ifb_ne (tgt := 28) hC dX9_range_23 (by decide) (fun c_23 => ?_) (fun c_23 => ?_)
      · refine wp_aload_n hC dX9_range_28 rfl ?_
        refine wp_iload_n hC dX9_range_29 rfl ?_
        refine wp_iconst hC dX9_range_30 ?_
        refine wp_callVb (As := [_, _]) hC (c_X9_isWhat hG _ (by omega) (by omega) (by have := h.2.1.2.2.1 (40 + o) (by omega) (by omega); omega)) gX9_range_X9_isWhat rfl ⟨rfl, rfl⟩ ⟨by decide, by decide⟩ hyVX9_isWhat (rfl) (by decide) (rfl) rfl (Nat.le_of_ble_eq_true rfl) dX9_range_31 (fun hx_31 => ?_)
        refine wp_ifb_ne (tgt := 40) hC dX9_range_34 (by decide) (fun c_34 => ?_) (fun c_34 => ?_)
        · refine wp_aload_n hC dX9_range_40 rfl ?_
          refine wp_aload_n hC dX9_range_41 rfl ?_
          refine wp_iconst hC dX9_range_42 ?_
          refine wp_callVe (As := [_]) hC (c_X9_those hG _ (by omega) (kI h) h.1) gX9_range_X9_those rfl ⟨rfl, rfl⟩ ⟨by decide, by decide⟩ hyVX9_those (rfl) (by decide) (rfl) rfl (Nat.le_of_ble_eq_true rfl) dX9_range_43 (fun hx_43 => ?_)
          refine wp_callVi (As := [_]) hC (c_X9_isMet hG σ h (bsI hn)) gX9_range_X9_isMet rfl ⟨rfl, rfl⟩ ⟨by decide, by decide⟩ hyVX9_isMet (rfl) (by decide) (rfl) rfl (Nat.le_of_ble_eq_true rfl) dX9_range_46 (fun x_46 s_46 hx_46 hp_46 => ?_)
          obtain ⟨hmm, hf_46⟩ := hp_46
          obtain ⟨τ1, rfl⟩ := FLP_S1 hf_46
          clear hf_46
          have hmm := bP_c hmm (MET_TH (σ := σ) hn.1)
          refine wp_if_ne (tgt := 55) hC dX9_range_49 (by decide) (bP_iR hmm) (fun c_49 => ?_) (fun c_49 => ?_)
          · refine wp_bipush hC dX9_range_55 rfl ?_
            refine wp_iload_n hC dX9_range_57 rfl ?_
            refine wp_imul hC dX9_range_58 ?_
            refine wp_iload_n hC dX9_range_59 rfl ?_
            refine wp_iadd hC dX9_range_60 ?_
            refine wp_istore (lv2 := [(0, _), (1, _), (2, _), (3, _), (4, _), (5, _)]) hC dX9_range_61 rfl (by decide) ?_
            refine wp_iload hC dX9_range_63 rfl ?_
            refine wp_iconst hC dX9_range_65 ?_
            refine wp_icmp_ne (tgt := 77) hC dX9_range_66 (by decide) (by omega) (by omega) (fun c_66 => ?_) (fun c_66 => ?_)
            · refine wp_iconst hC dX9_range_77 ?_
              refine wp_istore (lv2 := [(0, _), (1, _), (2, _), (3, _), (4, _), (5, _), (6, _)]) hC dX9_range_78 rfl (by decide) ?_
              refine wp_st (S1_SC σ τ1) ?_
              exact L80 _ 0 _ rfl c_5 (by omega) (by omega) c_34 (bP_1 hmm c_49) (by omega) (Or.inl rfl)
            · refine wp_aload_n hC dX9_range_69 rfl ?_
              refine wp_iload_n hC dX9_range_70 rfl ?_
              refine wp_iload hC dX9_range_71 rfl ?_
              refine wp_callVi (As := [_, _]) hC (c_X9_mostOf hG (S1 σ τ1) h (bP_1 hmm c_49) c_5 (show 0 ≤ 12 * it + p0 ∧ 12 * it + p0 < 36 by omega) c_34) gX9_range_X9_mostOf rfl ⟨rfl, rfl⟩ ⟨by decide, by decide⟩ hyVX9_mostOf (rfl) (by decide) (rfl) rfl (Nat.le_of_ble_eq_true rfl) dX9_range_73 (fun x_73 s_73 hx_73 hp_73 => ?_)
              obtain ⟨⟨τ2, rfl⟩, hmo⟩ := hp_73
              exact hret _ _ _ _ (hx_73) rfl (⟨⟨_, by rw [S1_SC]; exact SC_SC _ _ _⟩, Or.inr ⟨⟨c_5, c_13, c_23⟩, Or.inr ⟨c_34, Or.inr ⟨bP_1 hmm c_49, Or.inl ⟨by omega, hmo⟩⟩⟩⟩⟩) dX9_range_76
          · refine wp_bipush hC dX9_range_52 rfl ?_
            exact hret _ _ _ _ (by omega) rfl (⟨⟨_, S1_SC σ τ1⟩, Or.inr ⟨⟨c_5, c_13, c_23⟩, Or.inr ⟨c_34, Or.inl ⟨bP_0 hmm (by omega), rfl⟩⟩⟩⟩) dX9_range_54
        · refine wp_bipush hC dX9_range_37 rfl ?_
          exact hret _ _ _ _ (by omega) rfl (⟨⟨_, (SC_self σ).symm⟩, Or.inr ⟨⟨c_5, c_13, c_23⟩, Or.inl ⟨c_34, rfl⟩⟩⟩) dX9_range_39
      · refine wp_iconst hC dX9_range_26 ?_
        exact hret _ _ _ _ (by omega) rfl (⟨⟨_, (SC_self σ).symm⟩, Or.inl ⟨fun z => c_23 z.2.2, rfl⟩⟩) dX9_range_27
