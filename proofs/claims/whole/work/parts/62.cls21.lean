noncomputable def KOX (σ : St) (o : Int) : Int → Bool := ins (KKX σ (kap (σ 88) o).toNat) o
def LATX (σ : St) (o : Int) : Prop := σ 111 o = 1 ∧ ¬ MEX σ (KOX σ o)
theorem KKX_at {σ : St} (h : XO σ) {o : Int} (ho : 0 ≤ o ∧ o < σ 83 5) : KKX σ 240 o = true ↔ σ 111 o = 1 ∧ MEX σ (KOX σ o) := by
  have hr := kapX_rng h ho
  have e : KKX σ 240 o = KKX σ ((kap (σ 88) o).toNat + 1) o := by
    have := kf_mono (n := σ 83 5) (rk := σ 88) (cand := kdX σ 1) (ok := fun K o => MEX σ (ins K o)) (t := (kap (σ 88) o).toNat + 1) (q := o) (240 - ((kap (σ 88) o).toNat + 1)) (by omega)
    rw [show (kap (σ 88) o).toNat + 1 + (240 - ((kap (σ 88) o).toNat + 1)) = 240 by omega] at this
    exact this
  rw [e]
  unfold KKX
  rw [kf_s]
  constructor
  · rintro (z | ⟨_, _, _, z1, z2⟩)
    · have := kf_fut (n := σ 83 5) (rk := σ 88) (cand := kdX σ 1) (ok := fun K o => MEX σ (ins K o)) (t := (kap (σ 88) o).toNat) (o := o) (by omega)
      rw [this] at z
      cases z
    · exact ⟨decide_eq_true_eq.mp z1, z2⟩
  · rintro ⟨z1, z2⟩
    exact Or.inr ⟨ho.1, ho.2, by omega, decide_eq_true z1, z2⟩
theorem KKX_lo {σ : St} {t : Nat} (ht : t ≤ 240) {q : Int} (hq : kap (σ 88) q < t) : KKX σ 240 q = KKX σ t q := by
  have := kf_mono (n := σ 83 5) (rk := σ 88) (cand := kdX σ 1) (ok := fun K o => MEX σ (ins K o)) (t := t) (q := q) (240 - t) hq
  rw [show t + (240 - t) = 240 by omega] at this
  exact this
theorem KS_tb {σ : St} (hn : 0 ≤ σ 83 5) {q : Int} (h0 : 0 ≤ q) : tb (KS σ) q = KKX σ 240 q := by
  unfold KS
  rw [tb_bs hn h0]
  cases h : KKX σ 240 q
  · rw [Bool.and_false]
  · have := kf_in h
    rw [decide_eq_true this.2.1, Bool.true_and]
theorem KS_rg {σ : St} (hn : 0 ≤ σ 83 5 ∧ σ 83 5 ≤ 24) : 0 ≤ KS σ ∧ KS σ ≤ 2147483647 := bsI hn
theorem kap_E {σ ρ : St} (e : EQK ρ σ) : ρ 88 = σ 88 := EQK_h e (by omega)

theorem hyVX8_isLate : yX8_isLate.cls = RX8 ∧ yX8_isLate.cls ≠ "java/lang/invoke/MethodHandle" ∧ yX8_isLate.cls ≠ "java/lang/invoke/VarHandle" ∧ (parseMethodDescriptor yX8_isLate.desc).map (fun d => d.parameters.length) = some 1 := by decide +kernel
theorem uX8_isLate_X8 : ∀ w ∈ u_ws RX8 TX8 13, w ∈ wsX8_isLate := by decide +kernel
theorem fX8_isLate_19 : Cond.fieldLink RX8 19 (TX8 1).1 (TX8 1).2.1 (TX8 1).2.2.1 ∈ wsX8_isLate := by decide +kernel
theorem uX8_isLate_X5 : ∀ w ∈ u_ws RX5 TX5 5, w ∈ wsX8_isLate := by decide +kernel
set_option maxHeartbeats 4000000 in
set_option maxRecDepth 100000 in
theorem c_X8_isLate {l : Launch} {G : Gy} (hG : Inj G) (σ : St) {o : Int} (h : XO σ) (hk : KOK σ) (ho : 0 ≤ o ∧ o < σ 83 5) : MI l yX8_isLate wsX8_isLate ({ frames := 4, cells := 0, slots := 0, locals := 94 } : Room) G [.ref (G.2.2 82), .int (zI (o))] σ (fun x σ2 => bP x (LATX σ o) ∧ EQK σ2 σ ∧ KOK σ2) := by
  refine MI.of hG (by decide +kernel) rfl rfl (Nat.le_of_ble_eq_true rfl) rfl ?_
  intro p e s m args below meth c H0 Q hC hret
  have hn := h.1
  have hKr := KS_rg hn
  refine wp_aload_n hC dX8_isLate_0 rfl ?_
  refine wp_geta (k := 1) hC (rfl) (by decide) (rfl) (rfl) (by decide) uX8_isLate_X8 fX8_isLate_19 (rfl) dX8_isLate_1 ?_
  refine wp_getaN (k := 2) hC (rfl) (by decide) (rfl) (rfl) (by decide) uX8_isLate_X5 fnX8_124 (rfl) dX8_isLate_4 ?_
  refine wp_iload_n hC dX8_isLate_7 rfl ?_
  refine wp_iald (n := 24) hC (rfl) (Nat.le_of_ble_eq_true rfl) (rfl) (by decide) (by omega) dX8_isLate_8 ?_
  have hk1 := (h.2.2 o ho.1 ho.2).1
  refine wp_top (b := σ 111 o) rfl ?_
  refine wp_iconst hC dX8_isLate_9 ?_
  refine wp_icmp_ne (tgt := 29) hC dX8_isLate_10 (by decide) (by omega) (by omega) (fun c_10 => ?_) (fun c_10 => ?_)
  · refine wp_iconst hC dX8_isLate_29 ?_
    exact hret _ _ _ _ (by omega) rfl (⟨Or.inr ⟨rfl, fun z => c_10 z.1⟩, EQK_0, hk⟩) dX8_isLate_30
  · refine wp_aload_n hC dX8_isLate_13 rfl ?_
    refine wp_callVi (As := []) hC (c_X8_keptOnes hG σ h hk) gX8_isLate_X8_keptOnes rfl ⟨rfl, rfl⟩ ⟨by decide, by decide⟩ hyVX8_keptOnes (rfl) (by decide) (rfl) rfl (Nat.le_of_ble_eq_true rfl) dX8_isLate_14 (fun x_14 s_14 hx_14 hp_14 => ?_)
    obtain ⟨rfl, hE, hK⟩ := hp_14
    refine wp_iload_n hC dX8_isLate_17 rfl ?_
    refine wp_callSe (As := [_]) hC (c_X8_bit hG _ (by omega)) gX8_isLate_X8_bit rfl ⟨rfl, rfl⟩ ⟨by decide, by decide⟩ hySX8_bit rfl (Nat.le_of_ble_eq_true rfl) dX8_isLate_18 (fun hx_18 => ?_)
    refine wp_iand hC dX8_isLate_21 ?_
    refine wp_top (b := iand (KS σ) (pw o)) (rfl) ?_
    refine wp_if_ne (tgt := 29) hC dX8_isLate_22 (by decide) (by have := iand_nn (b := pw o) hKr; omega) (fun c_22 => ?_) (fun c_22 => ?_)
    · refine wp_iconst hC dX8_isLate_29 ?_
      exact hret _ _ _ _ (by omega) rfl (⟨Or.inr ⟨rfl, fun z => by
        have w := iand_bit1 hKr ho.1 (by omega) c_22
        rw [KS_tb hn.1 ho.1] at w
        exact z.2 ((KKX_at h ho).mp w).2⟩, hE, hK⟩) dX8_isLate_30
    · refine wp_iconst hC dX8_isLate_25 ?_
      refine wp_goto (tgt := 30) hC dX8_isLate_26 (by decide) ?_
      exact hret _ _ _ _ (by omega) rfl (⟨Or.inl ⟨rfl, by omega, fun z => by
        have w := (iand_bit hKr ho.1 (by omega)).mp c_22
        rw [KS_tb hn.1 ho.1] at w
        exact w ((KKX_at h ho).mpr ⟨by omega, z⟩)⟩, hE, hK⟩) dX8_isLate_30

theorem hyVX8_late : yX8_late.cls = RX8 ∧ yX8_late.cls ≠ "java/lang/invoke/MethodHandle" ∧ yX8_late.cls ≠ "java/lang/invoke/VarHandle" ∧ (parseMethodDescriptor yX8_late.desc).map (fun d => d.parameters.length) = some 0 := by decide +kernel
set_option maxHeartbeats 4000000 in
set_option maxRecDepth 100000 in
theorem c_X8_late {l : Launch} {G : Gy} (hG : Inj G) (σ : St) (h : XO σ) (hk : KOK σ) : MI l yX8_late wsX8_late ({ frames := 4, cells := 0, slots := 0, locals := 94 } : Room) G [.ref (G.2.2 82)] σ (fun x σ2 => x = pc (iand (TX σ 1) (ixor (KS σ) (-1))) ∧ EQK σ2 σ ∧ KOK σ2) := by
  refine MI.of hG (by decide +kernel) rfl rfl (Nat.le_of_ble_eq_true rfl) rfl ?_
  intro p e s m args below meth c H0 Q hC hret
  have hn := h.1
  have hKr := KS_rg hn
  refine wp_aload_n hC dX8_late_0 rfl ?_
  refine wp_iconst hC dX8_late_1 ?_
  refine wp_callVe (As := [_]) hC (c_X8_setOf hG σ (w := 1) (by omega) (fun o a b => (h.2.2 o a b).1) h.1) gX8_late_X8_setOf rfl ⟨rfl, rfl⟩ ⟨by decide, by decide⟩ hyVX8_setOf (rfl) (by decide) (rfl) rfl (Nat.le_of_ble_eq_true rfl) dX8_late_2 (fun hx_2 => ?_)
  refine wp_aload_n hC dX8_late_5 rfl ?_
  refine wp_callVi (As := []) hC (c_X8_keptOnes hG σ h hk) gX8_late_X8_keptOnes rfl ⟨rfl, rfl⟩ ⟨by decide, by decide⟩ hyVX8_keptOnes (rfl) (by decide) (rfl) rfl (Nat.le_of_ble_eq_true rfl) dX8_late_6 (fun x_6 s_6 hx_6 hp_6 => ?_)
  obtain ⟨rfl, hE, hK⟩ := hp_6
  refine wp_iconst hC dX8_late_9 ?_
  refine wp_ixor hC dX8_late_10 ?_
  refine wp_iand hC dX8_late_11 ?_
  refine wp_top (b := iand (TX σ 1) (ixor (KS σ) (-1))) rfl ?_
  refine wp_callSe (As := [_]) hC (c_J6_bitCount_0f7a4 hG s_6 (b := iand (TX σ 1) (ixor (KS σ) (-1))) (iand_nn (bsI (P := fun o => decide (σ 111 o = 1)) hn))) gX8_late_J6_bitCount_0f7a4 rfl ⟨rfl, rfl⟩ ⟨by decide, by decide⟩ hySJ6_bitCount_0f7a4 rfl (Nat.le_of_ble_eq_true rfl) dX8_late_12 (fun hx_12 => ?_)
  exact hret _ _ _ _ (hx_12) rfl (⟨rfl, hE, hK⟩) dX8_late_15

theorem cntk_s {n o : Int} {rk : Int → Int} {K : Int → Bool} {T : Int} (hn : n ≤ 24) (ho : 0 ≤ o ∧ o < n) (hK : K o = true) (hT : kap rk o = T) : cntk n rk K (T + 1) = cntk n rk K T + 1 :=
  sm_up ho (fun q a b => by
    by_cases z : q = o
    · subst z
      rw [if_pos rfl]
      have e1 : bI (K q = true ∧ kap rk q < T + 1) = 1 := if_pos ⟨hK, by omega⟩
      have e2 : bI (K q = true ∧ kap rk q < T) = 0 := if_neg (fun z => by have := z.2; omega)
      rw [e1, e2]
      rfl
    · rw [if_neg z]
      apply bI_c
      have hne : kap rk q ≠ T := fun y => z (kap_inj ⟨a, by omega⟩ ⟨ho.1, by omega⟩ (y.trans hT.symm))
      constructor
      · rintro ⟨w, y⟩; exact ⟨w, by omega⟩
      · rintro ⟨w, y⟩; exact ⟨w, by omega⟩)
theorem cntk_n {n : Int} {rk : Int → Int} {K : Int → Bool} {T U : Int} (hTU : T ≤ U) (h : ∀ q, 0 ≤ q → q < n → K q = true → ¬ (T ≤ kap rk q ∧ kap rk q < U)) : cntk n rk K U = cntk n rk K T :=
  sm_c (fun q a b => bI_c (by
    constructor
    · rintro ⟨w, y⟩
      have := h q a b w
      exact ⟨w, by omega⟩
    · rintro ⟨w, y⟩; exact ⟨w, by omega⟩))
theorem cntk_rg {n : Int} {rk : Int → Int} {K : Int → Bool} {v : Int} (hn : 0 ≤ n) : 0 ≤ cntk n rk K v ∧ cntk n rk K v ≤ n := by
  have h1 := sm_nn (f := fun q => bI (K q = true ∧ kap rk q < v)) (n := n) (fun k _ _ => by rcases bI_rng (b := K k = true ∧ kap rk k < v) with z | z <;> omega)
  have h2 := sm_ub (f := fun q => bI (K q = true ∧ kap rk q < v)) (n := n) (c := 1) hn (fun k _ _ => by rcases bI_rng (b := K k = true ∧ kap rk k < v) with z | z <;> omega)
  unfold cntk
  omega
/-- the i-th of a set in turn -/
def KEP (n : Int) (rk : Int → Int) (K : Int → Bool) (i x : Int) : Prop := ((0 ≤ i ∧ i < cnt n K) ∧ (0 ≤ x ∧ x < n) ∧ K x = true ∧ cntk n rk K (kap rk x) = i) ∨ (0 ≤ i ∧ cnt n K ≤ i ∧ x = -2)
theorem cntk_le {n o : Int} {rk : Int → Int} {K : Int → Bool} (ho : 0 ≤ o ∧ o < n) (hK : K o = true) : cntk n rk K (kap rk o) < cnt n K := by
  have h : cntk n rk K (kap rk o) + 1 ≤ cnt n K := by
    have h2 := sm_up (f := fun q => bI (K q = true ∧ kap rk q < kap rk o)) (g := fun q => bI (K q = true ∧ kap rk q < kap rk o) + (if q = o then 1 else 0)) (n := n) (o := o) (d := 1) ho (fun q _ _ => by
      by_cases z : q = o
      · rw [if_pos z, if_pos z]
      · rw [if_neg z, if_neg z, Int.add_zero])
    have h3 : sm (fun q => bI (K q = true ∧ kap rk q < kap rk o) + (if q = o then 1 else 0)) n ≤ sm (fun q => bI (K q = true)) n := sm_le (fun q _ _ => by
      by_cases z : q = o
      · subst z
        have e1 : bI (K q = true ∧ kap rk q < kap rk q) = 0 := if_neg (fun y => by have := y.2; omega)
        have e2 : bI (K q = true) = 1 := if_pos hK
        rw [e1, e2, if_pos rfl]
        decide
      · rw [if_neg z, Int.add_zero]
        unfold bI
        by_cases y : K q = true ∧ kap rk q < kap rk o
        · rw [if_pos y, if_pos y.1]; exact Int.le_refl _
        · rw [if_neg y]; split <;> omega)
    unfold cntk cnt
    omega
  omega

theorem hyVX8_kept : yX8_kept.cls = RX8 ∧ yX8_kept.cls ≠ "java/lang/invoke/MethodHandle" ∧ yX8_kept.cls ≠ "java/lang/invoke/VarHandle" ∧ (parseMethodDescriptor yX8_kept.desc).map (fun d => d.parameters.length) = some 1 := by decide +kernel
theorem uX8_kept_X8 : ∀ w ∈ u_ws RX8 TX8 13, w ∈ wsX8_kept := by decide +kernel
theorem fX8_kept_12 : Cond.fieldLink RX8 12 (TX8 0).1 (TX8 0).2.1 (TX8 0).2.2.1 ∈ wsX8_kept := by decide +kernel
theorem uX8_kept_X0 : ∀ w ∈ u_ws RX0 TX0 6, w ∈ wsX8_kept := by decide +kernel
set_option maxHeartbeats 8000000 in
set_option maxRecDepth 100000 in
theorem c_X8_kept {l : Launch} {G : Gy} (hG : Inj G) (σ : St) {i : Int} (h : XO σ) (hk : KOK σ) (hi : iR i) : MI l yX8_kept wsX8_kept ({ frames := 4, cells := 0, slots := 0, locals := 94 } : Room) G [.ref (G.2.2 82), .int (zI (i))] σ (fun x σ2 => (i < -1 ∧ x = -1 ∧ σ2 = σ) ∨ (((i = -1 ∧ x = pc (KS σ)) ∨ KEP (σ 83 5) (σ 88) (KKX σ 240) i x) ∧ EQK σ2 σ ∧ KOK σ2)) := by
  refine MI.of hG (by decide +kernel) rfl rfl (Nat.le_of_ble_eq_true rfl) rfl ?_
  intro p e s m args below meth c H0 Q hC hret
  have hn := h.1
  have hKr := KS_rg hn
  have L28 : ∀ (n : Nat) (ah r : Int) (ρ : St), ((r + 1).toNat) = n → (-1 ≤ r ∧ r ≤ 9) → (ah = cntk (σ 83 5) (σ 88) (KKX σ 240) (24 * (9 - r)) ∧ ah ≤ i) → (EQK ρ σ) → (KOK ρ) → (0 ≤ i) → wp p l e ({ frames := 4, cells := 0, slots := 0, locals := 94 } : Room) s m args below meth c (aA G (Array.size H0)) H0 6 Q G ρ 28 [(0, .ref (G.2.2 82)), (1, .int (zI (i))), (2, .int (zI (KS σ))), (3, .int (zI (ah))), (4, .int (zI (r)))] [] := by
    intro n28
    induction n28 using Nat.strongRecOn with
    | ind n28 ih =>
      intro ah r ρ hm28 h1 ha hE hK hi0
      have e83 := EQK_h hE (a := 83) (by omega)
      have e88 := kap_E hE
      have har := cntk_rg (rk := σ 88) (K := KKX σ 240) (v := 24 * (9 - r)) hn.1
      have L36 : ∀ (n : Nat) (ah k : Int), ((σ 83 5 - k).toNat) = n → (0 ≤ r) → (0 ≤ k ∧ k ≤ σ 83 5) → (ah = cntk (σ 83 5) (σ 88) (KKX σ 240) (24 * (9 - r) + k) ∧ ah ≤ i) → wp p l e ({ frames := 4, cells := 0, slots := 0, locals := 94 } : Room) s m args below meth c (aA G (Array.size H0)) H0 6 Q G ρ 36 [(0, .ref (G.2.2 82)), (1, .int (zI (i))), (2, .int (zI (KS σ))), (3, .int (zI (ah))), (4, .int (zI (r))), (5, .int (zI (k)))] [] := by
        intro n36
        induction n36 using Nat.strongRecOn with
        | ind n36 ih36 =>
          intro ah k hm36 h3 h2 ha2
          have hok := fun z : k < σ 83 5 => h.2.2 k h2.1 z
          have har2 := cntk_rg (rk := σ 88) (K := KKX σ 240) (v := 24 * (9 - r) + k) hn.1
          refine wp_iload hC dX8_kept_36 rfl ?_
          refine wp_aload_n hC dX8_kept_38 rfl ?_
          refine wp_geta (k := 0) hC (rfl) (by decide) (rfl) (rfl) (by decide) uX8_kept_X8 fX8_kept_12 (rfl) dX8_kept_39 ?_
          refine wp_getiN (k := 5) (z := 5) hC rfl (rfl) (by decide) (rfl) (rfl) (by decide) uX8_kept_X0 fnX8_116 (rfl) dX8_kept_42 ?_
          refine wp_top (b := σ 83 5) (by rw [e83]) ?_
          refine wp_icmp_ge (tgt := 93) hC dX8_kept_45 (by decide) (by omega) (by omega) (fun c_45 => ?_) (fun c_45 => ?_)
          · refine wp_iinc (lv2 := [(0, _), (1, _), (2, _), (3, _), (4, _), (5, _)]) hC dX8_kept_93 rfl rfl (by decide) ?_
            refine wp_goto (tgt := 28) hC dX8_kept_96 (by decide) ?_
            refine wp_lv hC [0, 1, 2, 3, 4] rfl ?_
            exact ih _ (by omega) _ _ _ rfl (by omega) ⟨by rw [ha2.1]; exact (cntk_n (by omega) (fun q a b w z => by
              have := (h.2.2 q a b).2.2.2.2.2.2
              have z1 := z.1
              have z2 := z.2
              unfold kap at z1 z2
              omega)).symm, ha2.2⟩ hE hK hi0
          · refine wp_aload_n hC dX8_kept_48 rfl ?_
            refine wp_geta (k := 0) hC (rfl) (by decide) (rfl) (rfl) (by decide) uX8_kept_X8 fX8_kept_12 (rfl) dX8_kept_49 ?_
            refine wp_getaN (k := 4) hC (rfl) (by decide) (rfl) (rfl) (by decide) uX8_kept_X0 fnX8_145 (rfl) dX8_kept_52 ?_
            refine wp_iload hC dX8_kept_55 rfl ?_
            refine wp_iald (n := 24) hC (rfl) (Nat.le_of_ble_eq_true rfl) (rfl) (by decide) (by omega) dX8_kept_57 ?_
            refine wp_top (b := σ 88 k) (by rw [e88]) ?_
            have hokk := hok (by omega)
            refine wp_iload hC dX8_kept_58 rfl ?_
            refine wp_icmp_ne (tgt := 87) hC dX8_kept_60 (by decide) (by omega) (by omega) (fun c_60 => ?_) (fun c_60 => ?_)
            · refine wp_iinc (lv2 := [(0, _), (1, _), (2, _), (3, _), (4, _), (5, _)]) hC dX8_kept_87 rfl rfl (by decide) ?_
              refine wp_goto (tgt := 36) hC dX8_kept_90 (by decide) ?_
              exact ih36 _ (by omega) _ _ rfl h3 (by omega) ⟨by rw [ha2.1]; exact (cntk_n (by omega) (fun q a b w z => by
                have z1 := z.1
                have z2 := z.2
                have hrq := (h.2.2 q a b).2.2.2.2.2.2
                unfold kap at z1 z2
                have e : q = k := by omega
                subst e
                omega)).symm, ha2.2⟩
            · have hkn : 0 ≤ k ∧ k < σ 83 5 := by omega
              have hkap : kap (σ 88) k = 24 * (9 - r) + k := by unfold kap; omega
              refine wp_iload_n hC dX8_kept_63 rfl ?_
              refine wp_iload hC dX8_kept_64 rfl ?_
              refine wp_callSe (As := [_]) hC (c_X8_bit hG _ (by omega)) gX8_kept_X8_bit rfl ⟨rfl, rfl⟩ ⟨by decide, by decide⟩ hySX8_bit rfl (Nat.le_of_ble_eq_true rfl) dX8_kept_66 (fun hx_66 => ?_)
              refine wp_iand hC dX8_kept_69 ?_
              refine wp_top (b := iand (KS σ) (pw k)) (rfl) ?_
              refine wp_if_ne (tgt := 76) hC dX8_kept_70 (by decide) (by have := iand_nn (b := pw k) hKr; omega) (fun c_70 => ?_) (fun c_70 => ?_)
              · have hpk : KKX σ 240 k = true := by
                  have w := iand_bit1 hKr h2.1 (by omega) c_70
                  rw [KS_tb hn.1 h2.1] at w
                  exact w
                have hcl := cntk_le (rk := σ 88) hkn hpk
                rw [hkap] at hcl
                refine wp_iload_n hC dX8_kept_76 rfl ?_
                refine wp_iload_n hC dX8_kept_77 rfl ?_
                refine wp_icmp_ne (tgt := 84) hC dX8_kept_78 (by decide) (by omega) (by omega) (fun c_78 => ?_) (fun c_78 => ?_)
                · refine wp_iinc (lv2 := [(0, _), (1, _), (2, _), (3, _), (4, _), (5, _)]) hC dX8_kept_84 rfl rfl (by decide) ?_
                  refine wp_iinc (lv2 := [(0, _), (1, _), (2, _), (3, _), (4, _), (5, _)]) hC dX8_kept_87 rfl rfl (by decide) ?_
                  refine wp_goto (tgt := 36) hC dX8_kept_90 (by decide) ?_
                  exact ih36 _ (by omega) _ _ rfl h3 (by omega) ⟨by rw [show 24 * (9 - r) + (k + 1) = 24 * (9 - r) + k + 1 by omega, cntk_s hn.2 hkn hpk hkap, ha2.1], by omega⟩
                · refine wp_iload hC dX8_kept_81 rfl ?_
                  exact hret _ _ _ _ (by omega) rfl (Or.inr ⟨Or.inr (Or.inl ⟨⟨by omega, by omega⟩, hkn, hpk, by rw [hkap]; omega⟩), hE, hK⟩) dX8_kept_83
              · have hnp : ¬ KKX σ 240 k = true := fun w => (iand_bit hKr h2.1 (by omega)).mp c_70 (by rw [KS_tb hn.1 h2.1]; exact w)
                refine wp_goto (tgt := 87) hC dX8_kept_73 (by decide) ?_
                refine wp_iinc (lv2 := [(0, _), (1, _), (2, _), (3, _), (4, _), (5, _)]) hC dX8_kept_87 rfl rfl (by decide) ?_
                refine wp_goto (tgt := 36) hC dX8_kept_90 (by decide) ?_
                exact ih36 _ (by omega) _ _ rfl h3 (by omega) ⟨by rw [ha2.1]; exact (cntk_n (by omega) (fun q a b w z => by
                  have z1 := z.1
                  have z2 := z.2
                  have hrq := (h.2.2 q a b).2.2.2.2.2.2
                  unfold kap at z1 z2
                  have e : q = k := by omega
                  subst e
                  exact hnp w)).symm, ha2.2⟩
      refine wp_iload hC dX8_kept_28 rfl ?_
      refine wp_if_lt (tgt := 99) hC dX8_kept_30 (by decide) (by omega) (fun c_30 => ?_) (fun c_30 => ?_)
      · refine wp_bipush hC dX8_kept_99 rfl ?_
        exact hret _ _ _ _ (by omega) rfl (Or.inr ⟨Or.inr (Or.inr ⟨by omega, by
          have e : cntk (σ 83 5) (σ 88) (KKX σ 240) (24 * (9 - r)) = cnt (σ 83 5) (KKX σ 240) := cntk_all (fun q a b _ => by have := kapX_rng h ⟨a, b⟩; omega)
          omega, rfl⟩), hE, hK⟩) dX8_kept_101
      · refine wp_iconst hC dX8_kept_33 ?_
        refine wp_istore (lv2 := [(0, _), (1, _), (2, _), (3, _), (4, _), (5, _)]) hC dX8_kept_34 rfl (by decide) ?_
        exact L36 _ _ 0 rfl (by omega) (by omega) ⟨by rw [Int.add_zero]; exact ha.1, ha.2⟩
  refine wp_iload_n hC dX8_kept_0 rfl ?_
  refine wp_iconst hC dX8_kept_1 ?_
  refine wp_icmp_ge (tgt := 7) hC dX8_kept_2 (by decide) (by omega) (by omega) (fun c_2 => ?_) (fun c_2 => ?_)
  · refine wp_aload_n hC dX8_kept_7 rfl ?_
    refine wp_callVi (As := []) hC (c_X8_keptOnes hG σ h hk) gX8_kept_X8_keptOnes rfl ⟨rfl, rfl⟩ ⟨by decide, by decide⟩ hyVX8_keptOnes (rfl) (by decide) (rfl) rfl (Nat.le_of_ble_eq_true rfl) dX8_kept_8 (fun x_8 s_8 hx_8 hp_8 => ?_)
    obtain ⟨rfl, hE, hK⟩ := hp_8
    have e83 := EQK_h hE (a := 83) (by omega)
    have e88 := kap_E hE
    refine wp_istore_n (lv2 := [(0, _), (1, _), (2, _)]) hC dX8_kept_11 rfl (by decide) ?_
    refine wp_iload_n hC dX8_kept_12 rfl ?_
    refine wp_iconst hC dX8_kept_13 ?_
    refine wp_icmp_ne (tgt := 22) hC dX8_kept_14 (by decide) (by omega) (by omega) (fun c_14 => ?_) (fun c_14 => ?_)
    · refine wp_iconst hC dX8_kept_22 ?_
      refine wp_istore_n (lv2 := [(0, _), (1, _), (2, _), (3, _)]) hC dX8_kept_23 rfl (by decide) ?_
      refine wp_bipush hC dX8_kept_24 rfl ?_
      refine wp_istore (lv2 := [(0, _), (1, _), (2, _), (3, _), (4, _)]) hC dX8_kept_26 rfl (by decide) ?_
      exact L28 _ 0 9 _ rfl (by omega) ⟨by rw [cntk_n (T := -1) (by omega) (fun q a b w z => by have := kapX_rng h ⟨a, b⟩; omega)]; have e := sm_c (f := fun q => bI (KKX σ 240 q = true ∧ kap (σ 88) q < -1)) (g := fun _ => 0) (n := σ 83 5) (fun q a b => if_neg (fun z => by have := kapX_rng h ⟨a, b⟩; have := z.2; omega)); unfold cntk; rw [e, sm_k hn.1, Int.mul_zero], by omega⟩ hE hK (by omega)
    · refine wp_iload_n hC dX8_kept_17 rfl ?_
      refine wp_callSe (As := [_]) hC (c_J6_bitCount_0f7a4 hG s_8 (b := KS σ) hKr) gX8_kept_J6_bitCount_0f7a4 rfl ⟨rfl, rfl⟩ ⟨by decide, by decide⟩ hySJ6_bitCount_0f7a4 rfl (Nat.le_of_ble_eq_true rfl) dX8_kept_18 (fun hx_18 => ?_)
      exact hret _ _ _ _ (hx_18) rfl (Or.inr ⟨Or.inl ⟨by omega, rfl⟩, hE, hK⟩) dX8_kept_21
  · refine wp_iconst hC dX8_kept_5 ?_
    exact hret _ _ _ _ (by omega) rfl (Or.inl ⟨by omega, rfl, rfl⟩) dX8_kept_6

theorem tb_iorp {B o q : Int} (hB : 0 ≤ B ∧ B ≤ 2147483647) (ho : 0 ≤ o ∧ o ≤ 24) (hq : 0 ≤ q) : tb (ior B (pw o)) q = true ↔ tb B q = true ∨ q = o := by
  rw [tb_ior hB (pw_b (by omega)), tb_pw ho.1 hq, Bool.or_eq_true, decide_eq_true_eq]

theorem hyVX8_why : yX8_why.cls = RX8 ∧ yX8_why.cls ≠ "java/lang/invoke/MethodHandle" ∧ yX8_why.cls ≠ "java/lang/invoke/VarHandle" ∧ (parseMethodDescriptor yX8_why.desc).map (fun d => d.parameters.length) = some 1 := by decide +kernel
theorem uX8_why_X8 : ∀ w ∈ u_ws RX8 TX8 13, w ∈ wsX8_why := by decide +kernel
theorem fX8_why_12 : Cond.fieldLink RX8 12 (TX8 0).1 (TX8 0).2.1 (TX8 0).2.2.1 ∈ wsX8_why := by decide +kernel
theorem uX8_why_X0 : ∀ w ∈ u_ws RX0 TX0 6, w ∈ wsX8_why := by decide +kernel
theorem fX8_why_43 : Cond.fieldLink RX8 43 (TX8 5).1 (TX8 5).2.1 (TX8 5).2.2.1 ∈ wsX8_why := by decide +kernel
theorem fX8_why_19 : Cond.fieldLink RX8 19 (TX8 1).1 (TX8 1).2.1 (TX8 1).2.2.1 ∈ wsX8_why := by decide +kernel
set_option maxHeartbeats 8000000 in
set_option maxRecDepth 100000 in
theorem c_X8_why {l : Launch} {G : Gy} (hG : Inj G) (σ : St) {o : Int} (h : XO σ) (hk : KOK σ) (ho : iR o) : MI l yX8_why wsX8_why ({ frames := 5, cells := 0, slots := 0, locals := 115 } : Room) G [.ref (G.2.2 82), .int (zI (o))] σ (fun x σ2 => (¬ (0 ≤ o ∧ o < σ 83 5) ∧ x = -1 ∧ σ2 = σ) ∨ ((0 ≤ o ∧ o < σ 83 5) ∧ ((¬ LATX σ o ∧ x = -5) ∨ (LATX σ o ∧ ∃ j, fst (LX σ (KOX σ o)) 2197 j ∧ x = stp j)) ∧ EQK σ2 σ ∧ KOK σ2)) := by
  refine MI.of hG (by decide +kernel) rfl rfl (Nat.le_of_ble_eq_true rfl) rfl ?_
  intro p e s m args below meth c H0 Q hC hret
  have hn := h.1
  have hKr := KS_rg hn
  have L34 : ∀ (n : Nat) (ct k : Int) (ρ : St), ((σ 83 5 - k).toNat) = n → (0 ≤ k ∧ k ≤ σ 83 5) → ((0 ≤ ct ∧ ct ≤ 2147483647) ∧ ∀ q, 0 ≤ q → (tb ct q = true ↔ q = o ∨ (q < k ∧ KKX σ 240 q = true ∧ kap (σ 88) q < kap (σ 88) o))) → (0 ≤ o ∧ o < σ 83 5) → (LATX σ o) → (EQK ρ σ) → (KOK ρ) → wp p l e ({ frames := 5, cells := 0, slots := 0, locals := 115 } : Room) s m args below meth c (aA G (Array.size H0)) H0 5 Q G ρ 34 [(0, .ref (G.2.2 82)), (1, .int (zI (o))), (2, .int (zI (ct))), (3, .int (zI (KS σ))), (4, .int (zI (k)))] [] := by
    intro n34
    induction n34 using Nat.strongRecOn with
    | ind n34 ih =>
      intro ct k ρ hm34 h1 hc9 ho9 hlt hE hK2
      have e83 := EQK_h hE (a := 83) (by omega)
      have hXs := XO_E h hE
      have e88 := kap_E hE
      refine wp_iload hC dX8_why_34 rfl ?_
      refine wp_aload_n hC dX8_why_36 rfl ?_
      refine wp_geta (k := 0) hC (rfl) (by decide) (rfl) (rfl) (by decide) uX8_why_X8 fX8_why_12 (rfl) dX8_why_37 ?_
      refine wp_getiN (k := 5) (z := 5) hC rfl (rfl) (by decide) (rfl) (rfl) (by decide) uX8_why_X0 fnX8_116 (rfl) dX8_why_40 ?_
      refine wp_top (b := σ 83 5) (by rw [e83]) ?_
      refine wp_icmp_ge (tgt := 80) hC dX8_why_43 (by decide) (by omega) (by omega) (fun c_43 => ?_) (fun c_43 => ?_)
      · refine wp_aload_n hC dX8_why_80 rfl ?_
        refine wp_geta (k := 5) hC (rfl) (by decide) (rfl) (rfl) (by decide) uX8_why_X8 fX8_why_43 (rfl) dX8_why_81 ?_
        refine wp_aload_n hC dX8_why_84 rfl ?_
        refine wp_geta (k := 0) hC (rfl) (by decide) (rfl) (rfl) (by decide) uX8_why_X8 fX8_why_12 (rfl) dX8_why_85 ?_
        refine wp_aload_n hC dX8_why_88 rfl ?_
        refine wp_geta (k := 1) hC (rfl) (by decide) (rfl) (rfl) (by decide) uX8_why_X8 fX8_why_19 (rfl) dX8_why_89 ?_
        refine wp_iload_n hC dX8_why_92 rfl ?_
        refine wp_callVu (As := [_, _, _]) hC (c_X6_lay hG ρ (B := ct) hXs hc9.1) gX8_why_X6_lay rfl ⟨rfl, rfl⟩ ⟨by decide, by decide⟩ hyVX6_lay (rfl) (by decide) (rfl) rfl (Nat.le_of_ble_eq_true rfl) dX8_why_93 ?_
        refine wp_aload_n hC dX8_why_96 rfl ?_
        refine wp_geta (k := 5) hC (rfl) (by decide) (rfl) (rfl) (by decide) uX8_why_X8 fX8_why_43 (rfl) dX8_why_97 ?_
        refine wp_callVp (As := []) hC (c_X6_tightest hG (LY ρ ct) (fun k a b => by have := LY_rng hXs ct a b; omega)) gX8_why_X6_tightest rfl ⟨rfl, rfl⟩ ⟨by decide, by decide⟩ hyVX6_tightest (rfl) (by decide) (rfl) rfl (Nat.le_of_ble_eq_true rfl) dX8_why_100 (fun x_100 hx_100 hp_100 => ?_)
        refine wp_callSe (As := [_]) hC (c_X8_stepOf hG (LY ρ ct) ⟨hp_100.1, hp_100.2.1⟩) gX8_why_X8_stepOf rfl ⟨rfl, rfl⟩ ⟨by decide, by decide⟩ hySX8_stepOf rfl (Nat.le_of_ble_eq_true rfl) dX8_why_103 (fun hx_103 => ?_)
        exact hret _ _ _ _ (hx_103) rfl (Or.inr ⟨ho9, Or.inr ⟨hlt, x_100, fst_c (fun i a b => by
          rw [show LY ρ ct 92 i = LX ρ (tb ct) i from RW_at ⟨a, b⟩, LX_E hE]
          refine LX_P (fun q x y => ?_) i
          rw [Bool.eq_iff_iff, hc9.2 q x]
          unfold KOX ins
          rw [Bool.or_eq_true, decide_eq_true_eq]
          have hko := kapX_rng h ho9
          constructor
          · rintro (z | ⟨_, z2, z3⟩)
            · exact Or.inr z
            · exact Or.inl (by rw [← KKX_lo (by omega) (by omega)]; exact z2)
          · rintro (z | z)
            · have hlt := (kf_in z).2.2.1
              exact Or.inr ⟨by omega, by rw [KKX_lo (t := (kap (σ 88) o).toNat) (by omega) hlt]; exact z, by omega⟩
            · exact Or.inl z) hp_100, rfl⟩, EQK_LY hE, by
          have hE9 : EQK (LY ρ ct) ρ := EQK_LY EQK_0
          have e11 : LY ρ ct 82 11 = ρ 82 11 := rfl
          have e12 : LY ρ ct 82 12 = ρ 82 12 := rfl
          unfold KOK
          rw [KS_E hE9, e11, e12]
          exact hK2⟩) dX8_why_106
      · refine wp_iload_n hC dX8_why_46 rfl ?_
        refine wp_iload hC dX8_why_47 rfl ?_
        refine wp_callSe (As := [_]) hC (c_X8_bit hG _ (by omega)) gX8_why_X8_bit rfl ⟨rfl, rfl⟩ ⟨by decide, by decide⟩ hySX8_bit rfl (Nat.le_of_ble_eq_true rfl) dX8_why_49 (fun hx_49 => ?_)
        refine wp_iand hC dX8_why_52 ?_
        refine wp_top (b := iand (KS σ) (pw k)) (rfl) ?_
        refine wp_if_eq (tgt := 74) hC dX8_why_53 (by decide) (by have := iand_nn (b := pw k) hKr; omega) (fun c_53 => ?_) (fun c_53 => ?_)
        · have hno : ¬ (KKX σ 240 k = true ∧ kap (σ 88) k < kap (σ 88) o) := fun w => (iand_bit hKr h1.1 (by omega)).mp c_53 (by rw [KS_tb hn.1 h1.1]; exact w.1)
          refine wp_iinc (lv2 := [(0, _), (1, _), (2, _), (3, _), (4, _)]) hC dX8_why_74 rfl rfl (by decide) ?_
          refine wp_goto (tgt := 34) hC dX8_why_77 (by decide) ?_
          exact ih _ (by omega) _ _ _ rfl (by omega) ⟨hc9.1, fun q a => by
            rw [hc9.2 q a]
            constructor
            · rintro (z | z)
              · exact Or.inl z
              · exact Or.inr ⟨by have := z.1; omega, z.2⟩
            · rintro (z | ⟨z1, z2⟩)
              · exact Or.inl z
              · refine Or.inr ⟨?_, z2⟩
                have e : q ≠ k := fun e => by subst e; exact hno z2
                omega⟩ ho9 hlt hE hK2
        · have hpk : KKX σ 240 k = true := by
            have w := iand_bit1 hKr h1.1 (by omega) c_53
            rw [KS_tb hn.1 h1.1] at w
            exact w
          refine wp_aload_n hC dX8_why_56 rfl ?_
          refine wp_iload hC dX8_why_57 rfl ?_
          refine wp_iload_n hC dX8_why_59 rfl ?_
          refine wp_callVb (As := [_, _]) hC (c_X8_isAhead hG ρ (a := k) (b := o) hXs (by rw [e83]; omega) (by rw [e83]; omega)) gX8_why_X8_isAhead rfl ⟨rfl, rfl⟩ ⟨by decide, by decide⟩ hyVX8_isAhead (rfl) (by decide) (rfl) rfl (Nat.le_of_ble_eq_true rfl) dX8_why_60 (fun hx_60 => ?_)
          refine wp_top (b := bI (kap (σ 88) k < kap (σ 88) o)) (by rw [e88]) ?_
          refine wp_ifb_eq (tgt := 74) hC dX8_why_63 (by decide) (fun c_63 => ?_) (fun c_63 => ?_)
          · have hno : ¬ (KKX σ 240 k = true ∧ kap (σ 88) k < kap (σ 88) o) := fun w => c_63 w.2
            refine wp_iinc (lv2 := [(0, _), (1, _), (2, _), (3, _), (4, _)]) hC dX8_why_74 rfl rfl (by decide) ?_
            refine wp_goto (tgt := 34) hC dX8_why_77 (by decide) ?_
            exact ih _ (by omega) _ _ _ rfl (by omega) ⟨hc9.1, fun q a => by
              rw [hc9.2 q a]
              constructor
              · rintro (z | z)
                · exact Or.inl z
                · exact Or.inr ⟨by have := z.1; omega, z.2⟩
              · rintro (z | ⟨z1, z2⟩)
                · exact Or.inl z
                · refine Or.inr ⟨?_, z2⟩
                  have e : q ≠ k := fun e => by subst e; exact hno z2
                  omega⟩ ho9 hlt hE hK2
          · refine wp_iload_n hC dX8_why_66 rfl ?_
            refine wp_iload hC dX8_why_67 rfl ?_
            refine wp_callSe (As := [_]) hC (c_X8_bit hG _ (by omega)) gX8_why_X8_bit rfl ⟨rfl, rfl⟩ ⟨by decide, by decide⟩ hySX8_bit rfl (Nat.le_of_ble_eq_true rfl) dX8_why_69 (fun hx_69 => ?_)
            refine wp_ior hC dX8_why_72 ?_
            refine wp_istore_n (lv2 := [(0, _), (1, _), (2, _), (3, _), (4, _)]) hC dX8_why_73 rfl (by decide) ?_
            refine wp_iinc (lv2 := [(0, _), (1, _), (2, _), (3, _), (4, _)]) hC dX8_why_74 rfl rfl (by decide) ?_
            refine wp_goto (tgt := 34) hC dX8_why_77 (by decide) ?_
            exact ih _ (by omega) _ _ _ rfl (by omega) ⟨ior_nn hc9.1 (pw_b (by omega)), fun q a => by
              rw [tb_iorp hc9.1 (by omega) a, hc9.2 q a]
              constructor
              · rintro ((z | z) | z)
                · exact Or.inl z
                · exact Or.inr ⟨by have := z.1; omega, z.2⟩
                · subst z; exact Or.inr ⟨by omega, hpk, c_63⟩
              · rintro (z | ⟨z1, z2⟩)
                · exact Or.inl (Or.inl z)
                · by_cases e : q = k
                  · exact Or.inr e
                  · exact Or.inl (Or.inr ⟨by omega, z2⟩)⟩ ho9 hlt hE hK2
  refine wp_aload_n hC dX8_why_0 rfl ?_
  refine wp_iload_n hC dX8_why_1 rfl ?_
  refine wp_callVb (As := [_]) hC (c_X8_isOrder hG _ (by omega) h.1) gX8_why_X8_isOrder rfl ⟨rfl, rfl⟩ ⟨by decide, by decide⟩ hyVX8_isOrder (rfl) (by decide) (rfl) rfl (Nat.le_of_ble_eq_true rfl) dX8_why_2 (fun hx_2 => ?_)
  refine wp_ifb_ne (tgt := 10) hC dX8_why_5 (by decide) (fun c_5 => ?_) (fun c_5 => ?_)
  · refine wp_aload_n hC dX8_why_10 rfl ?_
    refine wp_iload_n hC dX8_why_11 rfl ?_
    refine wp_callVi (As := [_]) hC (c_X8_isLate hG σ h hk c_5) gX8_why_X8_isLate rfl ⟨rfl, rfl⟩ ⟨by decide, by decide⟩ hyVX8_isLate (rfl) (by decide) (rfl) rfl (Nat.le_of_ble_eq_true rfl) dX8_why_12 (fun x_12 s_12 hx_12 hp_12 => ?_)
    obtain ⟨hb, hE1, hK1⟩ := hp_12
    refine wp_if_ne (tgt := 21) hC dX8_why_15 (by decide) (bP_iR hb) (fun c_15 => ?_) (fun c_15 => ?_)
    · refine wp_iload_n hC dX8_why_21 rfl ?_
      refine wp_callSe (As := [_]) hC (c_X8_bit hG s_12 (k := o) (by omega)) gX8_why_X8_bit rfl ⟨rfl, rfl⟩ ⟨by decide, by decide⟩ hySX8_bit rfl (Nat.le_of_ble_eq_true rfl) dX8_why_22 (fun hx_22 => ?_)
      refine wp_istore_n (lv2 := [(0, _), (1, _), (2, _)]) hC dX8_why_25 rfl (by decide) ?_
      refine wp_aload_n hC dX8_why_26 rfl ?_
      refine wp_callVi (As := []) hC (c_X8_keptOnes hG s_12 (XO_E h hE1) hK1) gX8_why_X8_keptOnes rfl ⟨rfl, rfl⟩ ⟨by decide, by decide⟩ hyVX8_keptOnes (rfl) (by decide) (rfl) rfl (Nat.le_of_ble_eq_true rfl) dX8_why_27 (fun x_27 s_27 hx_27 hp_27 => ?_)
      obtain ⟨rfl, hE2, hK2⟩ := hp_27
      refine wp_top (b := KS σ) (KS_E hE1) ?_
      have hE : EQK s_27 σ := EQK_t hE1 hE2
      have e83 := EQK_h hE (a := 83) (by omega)
      have hXs := XO_E h hE
      have e88 := kap_E hE
      refine wp_istore_n (lv2 := [(0, _), (1, _), (2, _), (3, _)]) hC dX8_why_30 rfl (by decide) ?_
      refine wp_iconst hC dX8_why_31 ?_
      refine wp_istore (lv2 := [(0, _), (1, _), (2, _), (3, _), (4, _)]) hC dX8_why_32 rfl (by decide) ?_
      exact L34 _ _ 0 _ rfl (by omega) ⟨pw_b (by omega), fun q a => by rw [tb_pw (by omega) a, decide_eq_true_eq]; exact ⟨Or.inl, fun z => z.elim id (fun y => by have := y.1; omega)⟩⟩ c_5 (bP_1 hb (by omega)) hE hK2
    · refine wp_bipush hC dX8_why_18 rfl ?_
      exact hret _ _ _ _ (by omega) rfl (Or.inr ⟨c_5, Or.inl ⟨bP_0 hb (by omega), rfl⟩, hE1, hK1⟩) dX8_why_20
  · refine wp_iconst hC dX8_why_8 ?_
    exact hret _ _ _ _ (by omega) rfl (Or.inl ⟨c_5, rfl, rfl⟩) dX8_why_9
