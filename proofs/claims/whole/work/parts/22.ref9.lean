theorem fst_c {L L' : Int → Int} {n k : Int} (e : ∀ i, 0 ≤ i → i < n → L i = L' i) (h : fst L n k) : fst L' n k := by
  obtain ⟨a1, a2, a3, a4⟩ := h
  refine ⟨a1, a2, fun i x y => ?_, fun i x y => ?_⟩
  · rw [← e k a1 a2, ← e i x y]; exact a3 i x y
  · rw [← e k a1 a2, ← e i x (by omega)]; exact a4 i x y
/-- the set by which a promised one is measured as to being late -/
noncomputable def KO (σ : St) (o : Int) : Int → Bool := ins (KK σ (kap (σ 5) o).toNat) o
def LATE (σ : St) (o : Int) : Prop := σ 1 (40 + o) = 1 ∧ ¬ MET σ (KO σ o)
theorem KF_ins {σ τ : St} {t : Nat} {o q : Int} (ho : 0 ≤ o ∧ o ≤ 24) (hf : KF σ t τ) (hq : 0 ≤ q) : tb (ior (τ 0 32) (pw o)) q = ins (KK σ t) o q := by
  rw [Bool.eq_iff_iff, tb_ior hf.1.1 (pw_b (by omega)), tb_pw ho.1 hq]
  unfold ins
  rw [Bool.or_eq_true, Bool.or_eq_true, hf.1.2 q hq]
theorem tT_o {σ : St} {o : Int} (ho : 0 ≤ o ∧ o < σ 0 5) (h1 : σ 1 (40 + o) = 1) : tT σ o = (kap (σ 5) o).toNat := if_pos ⟨ho.1, ho.2, h1⟩
theorem tT_n {σ : St} : tT σ (-1) = 240 := if_neg (by omega)

theorem hyVX9_isLate : yX9_isLate.cls = RX9 ∧ yX9_isLate.cls ≠ "java/lang/invoke/MethodHandle" ∧ yX9_isLate.cls ≠ "java/lang/invoke/VarHandle" ∧ (parseMethodDescriptor yX9_isLate.desc).map (fun d => d.parameters.length) = some 1 := by decide +kernel
theorem uX9_isLate_X9 : ∀ w ∈ u_ws RX9 TX9 35, w ∈ wsX9_isLate := by decide +kernel
theorem fX9_isLate_262 : Cond.fieldLink RX9 262 (TX9 32).1 (TX9 32).2.1 (TX9 32).2.2.1 ∈ wsX9_isLate := by decide +kernel
set_option maxHeartbeats 4000000 in
set_option maxRecDepth 100000 in
theorem c_X9_isLate {l : Launch} {G : Gy} (hG : Inj G) (σ : St) {o : Int} (h : RO σ) (ho : 0 ≤ o ∧ o < σ 0 5) : MI l yX9_isLate wsX9_isLate ({ frames := 6, cells := 0, slots := 0, locals := 136 } : Room) G [.ref (G.2.2 0), .int (zI (o))] σ (fun x σ2 => bP x (LATE σ o) ∧ ∃ τ, σ2 = SC σ τ ∧ (σ 1 (40 + o) = 1 → ∃ k0, fst (LK σ (KO σ o)) 2197 k0 ∧ τ 0 14 = stp k0)) := by
  refine MI.of hG (by decide +kernel) rfl rfl (Nat.le_of_ble_eq_true rfl) rfl ?_
  intro p e s m args below meth c H0 Q hC hret
  have hn := h.1
  refine wp_aload_n hC dX9_isLate_0 rfl ?_
  refine wp_iload_n hC dX9_isLate_1 rfl ?_
  refine wp_iconst hC dX9_isLate_2 ?_
  refine wp_callVb (As := [_, _]) hC (c_X9_isWhat hG _ (by omega) (by omega) (by have := h.2.1.2.2.1 (40 + o) (by omega) (by omega); omega)) gX9_isLate_X9_isWhat rfl ⟨rfl, rfl⟩ ⟨by decide, by decide⟩ hyVX9_isWhat (rfl) (by decide) (rfl) rfl (Nat.le_of_ble_eq_true rfl) dX9_isLate_3 (fun hx_3 => ?_)
  refine wp_ifb_ne (tgt := 11) hC dX9_isLate_6 (by decide) (fun c_6 => ?_) (fun c_6 => ?_)
  · refine wp_aload_n hC dX9_isLate_11 rfl ?_
    refine wp_iload_n hC dX9_isLate_12 rfl ?_
    refine wp_callVv (As := [_]) hC (c_X9_findKept hG _ h (by omega)) gX9_isLate_X9_findKept rfl ⟨rfl, rfl⟩ ⟨by decide, by decide⟩ hyVX9_findKept (rfl) (by decide) (rfl) rfl (Nat.le_of_ble_eq_true rfl) dX9_isLate_13 (fun s_13 hp_13 => ?_)
    obtain ⟨τ1, rfl, hf⟩ := hp_13
    rw [tT_o ho c_6] at hf
    refine wp_aload_n hC dX9_isLate_16 rfl ?_
    refine wp_aload_n hC dX9_isLate_17 rfl ?_
    refine wp_geti (k := 32) (z := 32) hC rfl (rfl) (by decide) (rfl) (rfl) (by decide) uX9_isLate_X9 fX9_isLate_262 (rfl) dX9_isLate_18 ?_
    refine wp_iconst hC dX9_isLate_21 ?_
    refine wp_iload_n hC dX9_isLate_22 rfl ?_
    refine wp_ishl hC dX9_isLate_23 ?_
    refine wp_top (b := pw o) (ishl_1 (by omega) (by omega)) ?_
    refine wp_ior hC dX9_isLate_24 ?_
    refine wp_top (b := ior (τ1 0 32) (pw o)) rfl ?_
    refine wp_callVi (As := [_]) hC (c_X9_isMet hG (SC σ τ1) h (ior_nn hf.1.1 (pw_b (by omega)))) gX9_isLate_X9_isMet rfl ⟨rfl, rfl⟩ ⟨by decide, by decide⟩ hyVX9_isMet (rfl) (by decide) (rfl) rfl (Nat.le_of_ble_eq_true rfl) dX9_isLate_25 (fun x_25 s_25 hx_25 hp_25 => ?_)
    obtain ⟨hb_25, k0, τ2, hf2, rfl, -, e14, -⟩ := hp_25
    refine wp_st S1_SC2 ?_
    have hb_25 : bP x_25 (MET σ (KO σ o)) := bP_c hb_25 (MET_c rfl (fun _ _ _ => rfl) (fun q a b => ⟨rfl, rfl, rfl, KF_ins (by omega) hf a⟩))
    have hfk : fst (LK σ (KO σ o)) 2197 k0 := fst_c (fun i a b => LK_c rfl (fun _ _ _ => rfl) (fun q a b => ⟨rfl, rfl, rfl, KF_ins (by omega) hf a⟩) a b) hf2
    refine wp_if_ne (tgt := 35) hC dX9_isLate_28 (by decide) (bP_iR hb_25) (fun c_28 => ?_) (fun c_28 => ?_)
    · refine wp_iconst hC dX9_isLate_35 ?_
      exact hret _ _ _ _ (by omega) rfl (⟨Or.inr ⟨rfl, fun z => z.2 (bP_1 hb_25 c_28)⟩, _, rfl, fun _ => ⟨k0, hfk, e14⟩⟩) dX9_isLate_36
    · refine wp_iconst hC dX9_isLate_31 ?_
      refine wp_goto (tgt := 36) hC dX9_isLate_32 (by decide) ?_
      exact hret _ _ _ _ (by omega) rfl (⟨Or.inl ⟨rfl, c_6, bP_0 hb_25 c_28⟩, _, rfl, fun _ => ⟨k0, hfk, e14⟩⟩) dX9_isLate_36
  · refine wp_iconst hC dX9_isLate_9 ?_
    exact hret _ _ _ _ (by omega) rfl (⟨Or.inr ⟨rfl, fun z => c_6 z.1⟩, σ, (SC_self σ).symm, fun z => absurd z c_6⟩) dX9_isLate_10

theorem hyVX9_late : yX9_late.cls = RX9 ∧ yX9_late.cls ≠ "java/lang/invoke/MethodHandle" ∧ yX9_late.cls ≠ "java/lang/invoke/VarHandle" ∧ (parseMethodDescriptor yX9_late.desc).map (fun d => d.parameters.length) = some 0 := by decide +kernel
theorem uX9_late_X9 : ∀ w ∈ u_ws RX9 TX9 35, w ∈ wsX9_late := by decide +kernel
theorem fX9_late_259 : Cond.fieldLink RX9 259 (TX9 31).1 (TX9 31).2.1 (TX9 31).2.2.1 ∈ wsX9_late := by decide +kernel
set_option maxHeartbeats 4000000 in
set_option maxRecDepth 100000 in
theorem c_X9_late {l : Launch} {G : Gy} (hG : Inj G) (σ : St) (h : RO σ) : MI l yX9_late wsX9_late ({ frames := 6, cells := 0, slots := 0, locals := 136 } : Room) G [.ref (G.2.2 0)] σ (fun x σ2 => x = pc (TH σ 1) - cnt (σ 0 5) (KK σ 240) ∧ ∃ τ, σ2 = SC σ τ) := by
  refine MI.of hG (by decide +kernel) rfl rfl (Nat.le_of_ble_eq_true rfl) rfl ?_
  intro p e s m args below meth c H0 Q hC hret
  have hn := h.1
  refine wp_aload_n hC dX9_late_0 rfl ?_
  refine wp_iconst hC dX9_late_1 ?_
  refine wp_callVv (As := [_]) hC (c_X9_findKept hG _ h (by decide)) gX9_late_X9_findKept rfl ⟨rfl, rfl⟩ ⟨by decide, by decide⟩ hyVX9_findKept (rfl) (by decide) (rfl) rfl (Nat.le_of_ble_eq_true rfl) dX9_late_2 (fun s_2 hp_2 => ?_)
  obtain ⟨τ1, rfl, hf⟩ := hp_2
  rw [tT_n] at hf
  have hcr := cnt_rng (K := KK σ 240) hn.1
  have hpr := pc_rng (TH σ 1)
  refine wp_aload_n hC dX9_late_5 rfl ?_
  refine wp_iconst hC dX9_late_6 ?_
  refine wp_callVe (As := [_]) hC (c_X9_those hG (SC σ τ1) (by omega) (kI h) h.1) gX9_late_X9_those rfl ⟨rfl, rfl⟩ ⟨by decide, by decide⟩ hyVX9_those (rfl) (by decide) (rfl) rfl (Nat.le_of_ble_eq_true rfl) dX9_late_7 (fun hx_7 => ?_)
  refine wp_top (b := TH σ 1) rfl ?_
  refine wp_callSe (As := [_]) hC (c_X9_size hG _ (bsI h.1)) gX9_late_X9_size rfl ⟨rfl, rfl⟩ ⟨by decide, by decide⟩ hySX9_size rfl (Nat.le_of_ble_eq_true rfl) dX9_late_10 (fun hx_10 => ?_)
  refine wp_aload_n hC dX9_late_13 rfl ?_
  refine wp_geti (k := 31) (z := 31) hC rfl (rfl) (by decide) (rfl) (rfl) (by decide) uX9_late_X9 fX9_late_259 (rfl) dX9_late_14 ?_
  refine wp_top (b := cnt (σ 0 5) (KK σ 240)) hf.2.1 ?_
  refine wp_isub hC dX9_late_17 ?_
  exact hret _ _ _ _ (by have := pc_rng (bsum (fun o => decide (σ 1 (40 + o) = 1)) (σ 0 5)); omega) rfl (⟨rfl, _, rfl⟩) dX9_late_18

theorem hyVX9_kept : yX9_kept.cls = RX9 ∧ yX9_kept.cls ≠ "java/lang/invoke/MethodHandle" ∧ yX9_kept.cls ≠ "java/lang/invoke/VarHandle" ∧ (parseMethodDescriptor yX9_kept.desc).map (fun d => d.parameters.length) = some 1 := by decide +kernel
theorem uX9_kept_X9 : ∀ w ∈ u_ws RX9 TX9 35, w ∈ wsX9_kept := by decide +kernel
theorem fX9_kept_259 : Cond.fieldLink RX9 259 (TX9 31).1 (TX9 31).2.1 (TX9 31).2.2.1 ∈ wsX9_kept := by decide +kernel
theorem fX9_kept_70 : Cond.fieldLink RX9 70 (TX9 30).1 (TX9 30).2.1 (TX9 30).2.2.1 ∈ wsX9_kept := by decide +kernel
set_option maxHeartbeats 4000000 in
set_option maxRecDepth 100000 in
theorem c_X9_kept {l : Launch} {G : Gy} (hG : Inj G) (σ : St) {i : Int} (h : RO σ) (hi : iR i) : MI l yX9_kept wsX9_kept ({ frames := 6, cells := 0, slots := 0, locals := 136 } : Room) G [.ref (G.2.2 0), .int (zI (i))] σ (fun x σ2 => (i < -1 ∧ x = -1 ∧ σ2 = σ) ∨ ((i = -1 ∧ x = cnt (σ 0 5) (KK σ 240)) ∨ ((0 ≤ i ∧ i < cnt (σ 0 5) (KK σ 240)) ∧ (0 ≤ x ∧ x < σ 0 5) ∧ KK σ 240 x = true ∧ cntk (σ 0 5) (σ 5) (KK σ 240) (kap (σ 5) x) = i) ∨ (0 ≤ i ∧ cnt (σ 0 5) (KK σ 240) ≤ i ∧ x = -2)) ∧ ∃ τ, σ2 = SC σ τ) := by
  refine MI.of hG (by decide +kernel) rfl rfl (Nat.le_of_ble_eq_true rfl) rfl ?_
  intro p e s m args below meth c H0 Q hC hret
  have hn := h.1
  refine wp_iload_n hC dX9_kept_0 rfl ?_
  refine wp_iconst hC dX9_kept_1 ?_
  refine wp_icmp_ge (tgt := 7) hC dX9_kept_2 (by decide) (by omega) (by omega) (fun c_2 => ?_) (fun c_2 => ?_)
  · refine wp_aload_n hC dX9_kept_7 rfl ?_
    refine wp_iconst hC dX9_kept_8 ?_
    refine wp_callVv (As := [_]) hC (c_X9_findKept hG _ h (by decide)) gX9_kept_X9_findKept rfl ⟨rfl, rfl⟩ ⟨by decide, by decide⟩ hyVX9_findKept (rfl) (by decide) (rfl) rfl (Nat.le_of_ble_eq_true rfl) dX9_kept_9 (fun s_9 hp_9 => ?_)
    obtain ⟨τ1, rfl, hf⟩ := hp_9
    rw [tT_n] at hf
    have hcr := cnt_rng (K := KK σ 240) hn.1
    refine wp_iload_n hC dX9_kept_12 rfl ?_
    refine wp_if_ge (tgt := 23) hC dX9_kept_13 (by decide) (by omega) (fun c_13 => ?_) (fun c_13 => ?_)
    · refine wp_iload_n hC dX9_kept_23 rfl ?_
      refine wp_aload_n hC dX9_kept_24 rfl ?_
      refine wp_geti (k := 31) (z := 31) hC rfl (rfl) (by decide) (rfl) (rfl) (by decide) uX9_kept_X9 fX9_kept_259 (rfl) dX9_kept_25 ?_
      refine wp_top (b := cnt (σ 0 5) (KK σ 240)) hf.2.1 ?_
      refine wp_icmp_ge (tgt := 40) hC dX9_kept_28 (by decide) (by omega) (by omega) (fun c_28 => ?_) (fun c_28 => ?_)
      · refine wp_bipush hC dX9_kept_40 rfl ?_
        exact hret _ _ _ _ (by omega) rfl (Or.inr ⟨Or.inr (Or.inr ⟨c_13, c_28, rfl⟩), _, rfl⟩) dX9_kept_42
      · have hf3 := hf.2.2 i c_13 (by rw [hf.2.1]; exact c_28)
        refine wp_aload_n hC dX9_kept_31 rfl ?_
        refine wp_geta (k := 30) hC (rfl) (by decide) (rfl) (rfl) (by decide) uX9_kept_X9 fX9_kept_70 (rfl) dX9_kept_32 ?_
        refine wp_iload_n hC dX9_kept_35 rfl ?_
        refine wp_iald (n := 24) hC (rfl) (Nat.le_of_ble_eq_true rfl) (rfl) (by decide) (by omega) dX9_kept_36 ?_
        refine wp_top (b := τ1 19 i) rfl ?_
        refine wp_goto (tgt := 42) hC dX9_kept_37 (by decide) ?_
        exact hret _ _ _ _ (by omega) rfl (Or.inr ⟨Or.inr (Or.inl ⟨⟨c_13, c_28⟩, hf3⟩), _, rfl⟩) dX9_kept_42
    · refine wp_aload_n hC dX9_kept_16 rfl ?_
      refine wp_geti (k := 31) (z := 31) hC rfl (rfl) (by decide) (rfl) (rfl) (by decide) uX9_kept_X9 fX9_kept_259 (rfl) dX9_kept_17 ?_
      refine wp_top (b := cnt (σ 0 5) (KK σ 240)) hf.2.1 ?_
      refine wp_goto (tgt := 42) hC dX9_kept_20 (by decide) ?_
      exact hret _ _ _ _ (by omega) rfl (Or.inr ⟨Or.inl ⟨by omega, rfl⟩, _, rfl⟩) dX9_kept_42
  · refine wp_iconst hC dX9_kept_5 ?_
    exact hret _ _ _ _ (by omega) rfl (Or.inl ⟨by omega, rfl, rfl⟩) dX9_kept_6

theorem hyVX9_why : yX9_why.cls = RX9 ∧ yX9_why.cls ≠ "java/lang/invoke/MethodHandle" ∧ yX9_why.cls ≠ "java/lang/invoke/VarHandle" ∧ (parseMethodDescriptor yX9_why.desc).map (fun d => d.parameters.length) = some 1 := by decide +kernel
theorem uX9_why_X9 : ∀ w ∈ u_ws RX9 TX9 35, w ∈ wsX9_why := by decide +kernel
theorem fX9_why_156 : Cond.fieldLink RX9 156 (TX9 14).1 (TX9 14).2.1 (TX9 14).2.2.1 ∈ wsX9_why := by decide +kernel
set_option maxHeartbeats 4000000 in
set_option maxRecDepth 100000 in
theorem c_X9_why {l : Launch} {G : Gy} (hG : Inj G) (σ : St) {o : Int} (h : RO σ) (ho : iR o) : MI l yX9_why wsX9_why ({ frames := 7, cells := 0, slots := 0, locals := 157 } : Room) G [.ref (G.2.2 0), .int (zI (o))] σ (fun x σ2 => (¬ (0 ≤ o ∧ o < σ 0 5) ∧ x = -1 ∧ σ2 = σ) ∨ ((0 ≤ o ∧ o < σ 0 5) ∧ ((¬ LATE σ o ∧ x = -5) ∨ (LATE σ o ∧ ∃ k0, fst (LK σ (KO σ o)) 2197 k0 ∧ x = stp k0)) ∧ ∃ τ, σ2 = SC σ τ)) := by
  refine MI.of hG (by decide +kernel) rfl rfl (Nat.le_of_ble_eq_true rfl) rfl ?_
  intro p e s m args below meth c H0 Q hC hret
  have hn := h.1
  refine wp_aload_n hC dX9_why_0 rfl ?_
  refine wp_iload_n hC dX9_why_1 rfl ?_
  refine wp_callVb (As := [_]) hC (c_X9_isOrder hG _ (by omega) h.1) gX9_why_X9_isOrder rfl ⟨rfl, rfl⟩ ⟨by decide, by decide⟩ hyVX9_isOrder (rfl) (by decide) (rfl) rfl (Nat.le_of_ble_eq_true rfl) dX9_why_2 (fun hx_2 => ?_)
  refine wp_ifb_ne (tgt := 10) hC dX9_why_5 (by decide) (fun c_5 => ?_) (fun c_5 => ?_)
  · refine wp_aload_n hC dX9_why_10 rfl ?_
    refine wp_iload_n hC dX9_why_11 rfl ?_
    refine wp_callVi (As := [_]) hC (c_X9_isLate hG _ h (by omega)) gX9_why_X9_isLate rfl ⟨rfl, rfl⟩ ⟨by decide, by decide⟩ hyVX9_isLate (rfl) (by decide) (rfl) rfl (Nat.le_of_ble_eq_true rfl) dX9_why_12 (fun x_12 s_12 hx_12 hp_12 => ?_)
    obtain ⟨hb, τ1, rfl, hk⟩ := hp_12
    refine wp_if_eq (tgt := 25) hC dX9_why_15 (by decide) (bP_iR hb) (fun c_15 => ?_) (fun c_15 => ?_)
    · refine wp_bipush hC dX9_why_25 rfl ?_
      exact hret _ _ _ _ (by omega) rfl (Or.inr ⟨c_5, Or.inl ⟨bP_0 hb c_15, rfl⟩, _, rfl⟩) dX9_why_27
    · have hlt := bP_1 hb c_15
      obtain ⟨k0, hf, e14⟩ := hk hlt.1
      have hsr : 0 ≤ stp k0 ∧ stp k0 ≤ 121212 := by have := hf.1; have := hf.2.1; unfold stp; omega
      refine wp_aload_n hC dX9_why_18 rfl ?_
      refine wp_geti (k := 14) (z := 14) hC rfl (rfl) (by decide) (rfl) (rfl) (by decide) uX9_why_X9 fX9_why_156 (rfl) dX9_why_19 ?_
      refine wp_top (b := stp k0) e14 ?_
      refine wp_goto (tgt := 27) hC dX9_why_22 (by decide) ?_
      exact hret _ _ _ _ (by omega) rfl (Or.inr ⟨c_5, Or.inr ⟨hlt, k0, hf, rfl⟩, _, rfl⟩) dX9_why_27
  · refine wp_iconst hC dX9_why_8 ?_
    exact hret _ _ _ _ (by omega) rfl (Or.inl ⟨c_5, rfl, rfl⟩) dX9_why_9

theorem hyVX9_of : yX9_of.cls = RX9 ∧ yX9_of.cls ≠ "java/lang/invoke/MethodHandle" ∧ yX9_of.cls ≠ "java/lang/invoke/VarHandle" ∧ (parseMethodDescriptor yX9_of.desc).map (fun d => d.parameters.length) = some 2 := by decide +kernel
theorem uX9_of_X9 : ∀ w ∈ u_ws RX9 TX9 35, w ∈ wsX9_of := by decide +kernel
theorem fX9_of_13 : Cond.fieldLink RX9 13 (TX9 1).1 (TX9 1).2.1 (TX9 1).2.2.1 ∈ wsX9_of := by decide +kernel
theorem fX9_of_16 : Cond.fieldLink RX9 16 (TX9 2).1 (TX9 2).2.1 (TX9 2).2.2.1 ∈ wsX9_of := by decide +kernel
theorem fX9_of_9 : Cond.fieldLink RX9 9 (TX9 0).1 (TX9 0).2.1 (TX9 0).2.2.1 ∈ wsX9_of := by decide +kernel
theorem fX9_of_19 : Cond.fieldLink RX9 19 (TX9 3).1 (TX9 3).2.1 (TX9 3).2.2.1 ∈ wsX9_of := by decide +kernel
theorem fX9_of_22 : Cond.fieldLink RX9 22 (TX9 4).1 (TX9 4).2.1 (TX9 4).2.2.1 ∈ wsX9_of := by decide +kernel
set_option maxHeartbeats 4000000 in
set_option maxRecDepth 100000 in
theorem c_X9_of {l : Launch} {G : Gy} (hG : Inj G) (σ : St) {o wh : Int} (h : RO σ) (ho : iR o) (hwh : iR wh) : MI l yX9_of wsX9_of ({ frames := 7, cells := 0, slots := 0, locals := 157 } : Room) G [.ref (G.2.2 0), .int (zI (o)), .int (zI (wh))] σ (fun x σ2 => ((¬ (0 ≤ o ∧ o < σ 0 5) ∧ x = -1) ∨ ((0 ≤ o ∧ o < σ 0 5) ∧ ((wh = 0 ∧ x = σ 2 o) ∨ (wh = 1 ∧ x = σ 3 o) ∨ (wh = 2 ∧ x = σ 1 (64 + o)) ∨ (wh = 3 ∧ x = σ 4 o) ∨ (wh = 4 ∧ x = σ 5 o) ∨ (wh = 5 ∧ x = σ 1 (40 + o)) ∨ (wh = 6 ∧ bP x (LATE σ o)) ∨ ((wh < 0 ∨ 6 < wh) ∧ x = -1)))) ∧ ∃ τ, σ2 = SC σ τ) := by
  refine MI.of hG (by decide +kernel) rfl rfl (Nat.le_of_ble_eq_true rfl) rfl ?_
  intro p e s m args below meth c H0 Q hC hret
  have hn := h.1
  refine wp_aload_n hC dX9_of_0 rfl ?_
  refine wp_iload_n hC dX9_of_1 rfl ?_
  refine wp_callVb (As := [_]) hC (c_X9_isOrder hG _ (by omega) h.1) gX9_of_X9_isOrder rfl ⟨rfl, rfl⟩ ⟨by decide, by decide⟩ hyVX9_isOrder (rfl) (by decide) (rfl) rfl (Nat.le_of_ble_eq_true rfl) dX9_of_2 (fun hx_2 => ?_)
  refine wp_ifb_ne (tgt := 10) hC dX9_of_5 (by decide) (fun c_5 => ?_) (fun c_5 => ?_)
  · refine wp_iload_n hC dX9_of_10 rfl ?_
    rcases (show (wh < 0 ∨ 6 < wh) ∨ wh = 0 ∨ wh = 1 ∨ wh = 2 ∨ wh = 3 ∨ wh = 4 ∨ wh = 5 ∨ wh = 6 from by omega) with c_11 | c_11 | c_11 | c_11 | c_11 | c_11 | c_11 | c_11
    · refine wp_tabOut (tgt := 114) hC dX9_of_11 (by omega) c_11 (by decide) ?_
      refine wp_iconst hC dX9_of_114 ?_
      exact hret _ _ _ _ (by omega) rfl (⟨Or.inr ⟨c_5, Or.inr (Or.inr (Or.inr (Or.inr (Or.inr (Or.inr (Or.inr (⟨c_11, rfl⟩)))))))⟩, σ, (SC_self σ).symm⟩) dX9_of_115
    · refine wp_tabIn (tgt := 52) (v := 0) hC dX9_of_11 c_11 (by decide) (by decide) (by decide) rfl (by decide) ?_
      refine wp_aload_n hC dX9_of_52 rfl ?_
      refine wp_geta (k := 1) hC (rfl) (by decide) (rfl) (rfl) (by decide) uX9_of_X9 fX9_of_13 (rfl) dX9_of_53 ?_
      refine wp_iload_n hC dX9_of_56 rfl ?_
      refine wp_iald (n := 24) hC (rfl) (Nat.le_of_ble_eq_true rfl) (rfl) (by decide) (by omega) dX9_of_57 ?_
      exact hret _ _ _ _ (by have := h.2.2.1 o c_5.1 (by omega); omega) rfl (⟨Or.inr ⟨c_5, Or.inl (⟨c_11, rfl⟩)⟩, σ, (SC_self σ).symm⟩) dX9_of_58
    · refine wp_tabIn (tgt := 59) (v := 1) hC dX9_of_11 c_11 (by decide) (by decide) (by decide) rfl (by decide) ?_
      refine wp_aload_n hC dX9_of_59 rfl ?_
      refine wp_geta (k := 2) hC (rfl) (by decide) (rfl) (rfl) (by decide) uX9_of_X9 fX9_of_16 (rfl) dX9_of_60 ?_
      refine wp_iload_n hC dX9_of_63 rfl ?_
      refine wp_iald (n := 24) hC (rfl) (Nat.le_of_ble_eq_true rfl) (rfl) (by decide) (by omega) dX9_of_64 ?_
      exact hret _ _ _ _ (by have := h.2.2.2.1 o c_5.1 (by omega); omega) rfl (⟨Or.inr ⟨c_5, Or.inr (Or.inl (⟨c_11, rfl⟩))⟩, σ, (SC_self σ).symm⟩) dX9_of_65
    · refine wp_tabIn (tgt := 66) (v := 2) hC dX9_of_11 c_11 (by decide) (by decide) (by decide) rfl (by decide) ?_
      refine wp_aload_n hC dX9_of_66 rfl ?_
      refine wp_geta (k := 0) hC (rfl) (by decide) (rfl) (rfl) (by decide) uX9_of_X9 fX9_of_9 (rfl) dX9_of_67 ?_
      refine wp_bipush hC dX9_of_70 rfl ?_
      refine wp_iload_n hC dX9_of_72 rfl ?_
      refine wp_iadd hC dX9_of_73 ?_
      refine wp_iald (n := 88) hC (rfl) (Nat.le_of_ble_eq_true rfl) (rfl) (by decide) (by omega) dX9_of_74 ?_
      exact hret _ _ _ _ (by have := h.2.1.2.2.2 (64 + o) (by omega) (by omega); omega) rfl (⟨Or.inr ⟨c_5, Or.inr (Or.inr (Or.inl (⟨c_11, rfl⟩)))⟩, σ, (SC_self σ).symm⟩) dX9_of_75
    · refine wp_tabIn (tgt := 76) (v := 3) hC dX9_of_11 c_11 (by decide) (by decide) (by decide) rfl (by decide) ?_
      refine wp_aload_n hC dX9_of_76 rfl ?_
      refine wp_geta (k := 3) hC (rfl) (by decide) (rfl) (rfl) (by decide) uX9_of_X9 fX9_of_19 (rfl) dX9_of_77 ?_
      refine wp_iload_n hC dX9_of_80 rfl ?_
      refine wp_iald (n := 24) hC (rfl) (Nat.le_of_ble_eq_true rfl) (rfl) (by decide) (by omega) dX9_of_81 ?_
      exact hret _ _ _ _ (by have := h.2.2.2.2.1 o c_5.1 (by omega); omega) rfl (⟨Or.inr ⟨c_5, Or.inr (Or.inr (Or.inr (Or.inl (⟨c_11, rfl⟩))))⟩, σ, (SC_self σ).symm⟩) dX9_of_82
    · refine wp_tabIn (tgt := 83) (v := 4) hC dX9_of_11 c_11 (by decide) (by decide) (by decide) rfl (by decide) ?_
      refine wp_aload_n hC dX9_of_83 rfl ?_
      refine wp_geta (k := 4) hC (rfl) (by decide) (rfl) (rfl) (by decide) uX9_of_X9 fX9_of_22 (rfl) dX9_of_84 ?_
      refine wp_iload_n hC dX9_of_87 rfl ?_
      refine wp_iald (n := 24) hC (rfl) (Nat.le_of_ble_eq_true rfl) (rfl) (by decide) (by omega) dX9_of_88 ?_
      exact hret _ _ _ _ (by have := h.2.2.2.2.2 o c_5.1 (by omega); omega) rfl (⟨Or.inr ⟨c_5, Or.inr (Or.inr (Or.inr (Or.inr (Or.inl (⟨c_11, rfl⟩)))))⟩, σ, (SC_self σ).symm⟩) dX9_of_89
    · refine wp_tabIn (tgt := 90) (v := 5) hC dX9_of_11 c_11 (by decide) (by decide) (by decide) rfl (by decide) ?_
      refine wp_aload_n hC dX9_of_90 rfl ?_
      refine wp_geta (k := 0) hC (rfl) (by decide) (rfl) (rfl) (by decide) uX9_of_X9 fX9_of_9 (rfl) dX9_of_91 ?_
      refine wp_bipush hC dX9_of_94 rfl ?_
      refine wp_iload_n hC dX9_of_96 rfl ?_
      refine wp_iadd hC dX9_of_97 ?_
      refine wp_iald (n := 88) hC (rfl) (Nat.le_of_ble_eq_true rfl) (rfl) (by decide) (by omega) dX9_of_98 ?_
      exact hret _ _ _ _ (by have := h.2.1.2.2.1 (40 + o) (by omega) (by omega); omega) rfl (⟨Or.inr ⟨c_5, Or.inr (Or.inr (Or.inr (Or.inr (Or.inr (Or.inl (⟨c_11, rfl⟩))))))⟩, σ, (SC_self σ).symm⟩) dX9_of_99
    · refine wp_tabIn (tgt := 100) (v := 6) hC dX9_of_11 c_11 (by decide) (by decide) (by decide) rfl (by decide) ?_
      refine wp_aload_n hC dX9_of_100 rfl ?_
      refine wp_iload_n hC dX9_of_101 rfl ?_
      refine wp_callVi (As := [_]) hC (c_X9_isLate hG _ h (by omega)) gX9_of_X9_isLate rfl ⟨rfl, rfl⟩ ⟨by decide, by decide⟩ hyVX9_isLate (rfl) (by decide) (rfl) rfl (Nat.le_of_ble_eq_true rfl) dX9_of_102 (fun x_102 s_102 hx_102 hp_102 => ?_)
      obtain ⟨hb, τ1, rfl, hk⟩ := hp_102
      refine wp_if_eq (tgt := 112) hC dX9_of_105 (by decide) (bP_iR hb) (fun c_105 => ?_) (fun c_105 => ?_)
      · refine wp_iconst hC dX9_of_112 ?_
        exact hret _ _ _ _ (by omega) rfl (⟨Or.inr ⟨c_5, Or.inr (Or.inr (Or.inr (Or.inr (Or.inr (Or.inr (Or.inl (⟨c_11, Or.inr ⟨rfl, bP_0 hb c_105⟩⟩)))))))⟩, _, rfl⟩) dX9_of_113
      · refine wp_iconst hC dX9_of_108 ?_
        refine wp_goto (tgt := 113) hC dX9_of_109 (by decide) ?_
        exact hret _ _ _ _ (by omega) rfl (⟨Or.inr ⟨c_5, Or.inr (Or.inr (Or.inr (Or.inr (Or.inr (Or.inr (Or.inl (⟨c_11, Or.inl ⟨rfl, bP_1 hb c_105⟩⟩)))))))⟩, _, rfl⟩) dX9_of_113
  · refine wp_iconst hC dX9_of_8 ?_
    exact hret _ _ _ _ (by omega) rfl (⟨Or.inl ⟨c_5, rfl⟩, σ, (SC_self σ).symm⟩) dX9_of_9

theorem hySX9_isShelf : yX9_isShelf.cls ≠ "java/lang/invoke/MethodHandle" ∧ yX9_isShelf.cls ≠ "java/lang/invoke/VarHandle" ∧ (parseMethodDescriptor yX9_isShelf.desc).map (fun d => d.parameters.length) = some 1 := by decide +kernel
set_option maxHeartbeats 4000000 in
set_option maxRecDepth 100000 in
theorem c_X9_isShelf {l : Launch} {G : Gy} (hG : Inj G) (σ : St) {v : Int} (hv : iR v) : MB l yX9_isShelf wsX9_isShelf ({ frames := 1, cells := 0, slots := 0, locals := 22 } : Room) G [.int (zI (v))] σ (0 ≤ v ∧ v ≤ 3) σ := by
  refine MI.of hG (by decide +kernel) rfl rfl (Nat.le_of_ble_eq_true rfl) rfl ?_
  intro p e s m args below meth c H0 Q hC hret
  refine wp_iload_n hC dX9_isShelf_0 rfl ?_
  refine wp_iconst hC dX9_isShelf_1 ?_
  refine wp_iconst hC dX9_isShelf_2 ?_
  refine wp_callSb (As := [_, _, _]) hC (c_X9_isIn hG _ (by omega) (by omega) (by omega)) gX9_isShelf_X9_isIn rfl ⟨rfl, rfl⟩ ⟨by decide, by decide⟩ hySX9_isIn rfl (Nat.le_of_ble_eq_true rfl) dX9_isShelf_3 (fun hx_3 => ?_)
  exact hret _ _ _ _ (iR_bI) bI_nar (⟨bI_c (by omega), rfl⟩) dX9_isShelf_6

/-- a shelf holds a row of n zeros, the first k of them laid -/
def RWk (σ : St) (w n k : Int) : St := fun a b => if a = 20 ∧ 24 * w ≤ b ∧ b < 24 * w + k then 0 else put σ 21 w n a b
theorem RWk_0 {σ : St} {w n : Int} : put σ 21 w n = RWk σ w n 0 := by
  funext a b
  unfold RWk
  rw [if_neg (by omega)]
theorem RWk_s {σ : St} {w n k : Int} (h : 0 ≤ k) : put (RWk σ w n k) 20 (24 * w + k) 0 = RWk σ w n (k + 1) := by
  funext a b
  by_cases q : a = 20 ∧ b = 24 * w + k
  · rw [q.1, q.2, put_s]
    unfold RWk
    rw [if_pos (by omega)]
  · rw [put_q q]
    unfold RWk
    by_cases r : a = 20 ∧ 24 * w ≤ b ∧ b < 24 * w + k
    · rw [if_pos r, if_pos (by omega)]
    · rw [if_neg r, if_neg (by omega)]

theorem hyVX9_row : yX9_row.cls = RX9 ∧ yX9_row.cls ≠ "java/lang/invoke/MethodHandle" ∧ yX9_row.cls ≠ "java/lang/invoke/VarHandle" ∧ (parseMethodDescriptor yX9_row.desc).map (fun d => d.parameters.length) = some 2 := by decide +kernel
theorem uX9_row_X9 : ∀ w ∈ u_ws RX9 TX9 35, w ∈ wsX9_row := by decide +kernel
theorem fX9_row_73 : Cond.fieldLink RX9 73 (TX9 33).1 (TX9 33).2.1 (TX9 33).2.2.1 ∈ wsX9_row := by decide +kernel
theorem fX9_row_77 : Cond.fieldLink RX9 77 (TX9 34).1 (TX9 34).2.1 (TX9 34).2.2.1 ∈ wsX9_row := by decide +kernel
set_option maxHeartbeats 4000000 in
set_option maxRecDepth 100000 in
theorem c_X9_row {l : Launch} {G : Gy} (hG : Inj G) (σ : St) {w n1 : Int} (hw : iR w) (hn1 : iR n1) : MI l yX9_row wsX9_row ({ frames := 2, cells := 0, slots := 0, locals := 42 } : Room) G [.ref (G.2.2 0), .int (zI (w)), .int (zI (n1))] σ (fun x σ2 => (¬ ((0 ≤ w ∧ w ≤ 3) ∧ n1 ≤ 24) ∧ x = -1 ∧ σ2 = σ) ∨ (((0 ≤ w ∧ w ≤ 3) ∧ n1 ≤ 24) ∧ n1 < 0 ∧ x = -14 ∧ σ2 = σ) ∨ (((0 ≤ w ∧ w ≤ 3) ∧ n1 ≤ 24) ∧ 0 ≤ n1 ∧ x = 1 ∧ σ2 = RWk σ w n1 24)) := by
  refine MI.of hG (by decide +kernel) rfl rfl (Nat.le_of_ble_eq_true rfl) rfl ?_
  intro p e s m args below meth c H0 Q hC hret
  have L31 : ∀ (n : Nat) (k : Int), ((24 - k).toNat) = n → (((0 ≤ w ∧ w ≤ 3) ∧ n1 ≤ 24) ∧ 0 ≤ n1) → (0 ≤ k ∧ k ≤ 24) → wp p l e ({ frames := 2, cells := 0, slots := 0, locals := 42 } : Room) s m args below meth c (aA G (Array.size H0)) H0 4 Q G (RWk σ w n1 k) 31 [(0, .ref (G.2.2 0)), (1, .int (zI (w))), (2, .int (zI (n1))), (3, .int (zI (k)))] [] := by
    intro n31
    induction n31 using Nat.strongRecOn with
    | ind n31 ih =>
      intro k hm31 g0 h1
      refine wp_iload_n hC dX9_row_31 rfl ?_
      refine wp_bipush hC dX9_row_32 rfl ?_
      refine wp_icmp_ge (tgt := 55) hC dX9_row_34 (by decide) (by omega) (by omega) (fun c_34 => ?_) (fun c_34 => ?_)
      · refine wp_iconst hC dX9_row_55 ?_
        exact hret _ _ _ _ (by omega) rfl (Or.inr (Or.inr ⟨g0.1, g0.2, rfl, by rw [show k = 24 by omega]⟩)) dX9_row_56
      · refine wp_aload_n hC dX9_row_37 rfl ?_
        refine wp_geta (k := 33) hC (rfl) (by decide) (rfl) (rfl) (by decide) uX9_row_X9 fX9_row_73 (rfl) dX9_row_38 ?_
        refine wp_bipush hC dX9_row_41 rfl ?_
        refine wp_iload_n hC dX9_row_43 rfl ?_
        refine wp_imul hC dX9_row_44 ?_
        refine wp_iload_n hC dX9_row_45 rfl ?_
        refine wp_iadd hC dX9_row_46 ?_
        refine wp_lconst hC dX9_row_47 ?_
        refine wp_last (n := 96) hC (rfl) (Nat.le_of_ble_eq_true rfl) (rfl) (by decide) (by omega) dX9_row_48 ?_
        refine wp_iinc (lv2 := [(0, _), (1, _), (2, _), (3, _)]) hC dX9_row_49 rfl rfl (by decide) ?_
        refine wp_goto (tgt := 31) hC dX9_row_52 (by decide) ?_
        refine wp_st (σ2 := RWk σ w n1 (k + 1)) (RWk_s h1.1) ?_
        exact ih _ (by omega) _ rfl g0 (by omega)
  refine wp_iload_n hC dX9_row_0 rfl ?_
  refine wp_callSb (As := [_]) hC (c_X9_isShelf hG _ (by omega)) gX9_row_X9_isShelf rfl ⟨rfl, rfl⟩ ⟨by decide, by decide⟩ hySX9_isShelf rfl (Nat.le_of_ble_eq_true rfl) dX9_row_1 (fun hx_1 => ?_)
  refine wp_ifb_eq (tgt := 13) hC dX9_row_4 (by decide) (fun c_4 => ?_) (fun c_4 => ?_)
  · refine wp_iconst hC dX9_row_13 ?_
    exact hret _ _ _ _ (by omega) rfl (Or.inl ⟨by omega, rfl, rfl⟩) dX9_row_14
  · refine wp_iload_n hC dX9_row_7 rfl ?_
    refine wp_bipush hC dX9_row_8 rfl ?_
    refine wp_icmp_le (tgt := 15) hC dX9_row_10 (by decide) (by omega) (by omega) (fun c_10 => ?_) (fun c_10 => ?_)
    · refine wp_iload_n hC dX9_row_15 rfl ?_
      refine wp_if_ge (tgt := 22) hC dX9_row_16 (by decide) (by omega) (fun c_16 => ?_) (fun c_16 => ?_)
      · refine wp_aload_n hC dX9_row_22 rfl ?_
        refine wp_geta (k := 34) hC (rfl) (by decide) (rfl) (rfl) (by decide) uX9_row_X9 fX9_row_77 (rfl) dX9_row_23 ?_
        refine wp_iload_n hC dX9_row_26 rfl ?_
        refine wp_iload_n hC dX9_row_27 rfl ?_
        refine wp_iast (n := 4) hC (rfl) (Nat.le_of_ble_eq_true rfl) (rfl) (by decide) (by omega) dX9_row_28 ?_
        refine wp_iconst hC dX9_row_29 ?_
        refine wp_istore_n (lv2 := [(0, _), (1, _), (2, _), (3, _)]) hC dX9_row_30 rfl (by decide) ?_
        refine wp_st (σ2 := RWk σ w n1 0) RWk_0 ?_
        exact L31 _ _ rfl ⟨⟨c_4, c_10⟩, c_16⟩ (by omega)
      · refine wp_bipush hC dX9_row_19 rfl ?_
        exact hret _ _ _ _ (by omega) rfl (Or.inr (Or.inl ⟨⟨c_4, c_10⟩, c_16, rfl, rfl⟩)) dX9_row_21
    · refine wp_iconst hC dX9_row_13 ?_
      exact hret _ _ _ _ (by omega) rfl (Or.inl ⟨by omega, rfl, rfl⟩) dX9_row_14

theorem hyVX9_put : yX9_put.cls = RX9 ∧ yX9_put.cls ≠ "java/lang/invoke/MethodHandle" ∧ yX9_put.cls ≠ "java/lang/invoke/VarHandle" ∧ (parseMethodDescriptor yX9_put.desc).map (fun d => d.parameters.length) = some 3 := by decide +kernel
theorem uX9_put_X9 : ∀ w ∈ u_ws RX9 TX9 35, w ∈ wsX9_put := by decide +kernel
theorem fX9_put_77 : Cond.fieldLink RX9 77 (TX9 34).1 (TX9 34).2.1 (TX9 34).2.2.1 ∈ wsX9_put := by decide +kernel
theorem fX9_put_73 : Cond.fieldLink RX9 73 (TX9 33).1 (TX9 33).2.1 (TX9 33).2.2.1 ∈ wsX9_put := by decide +kernel
set_option maxHeartbeats 4000000 in
set_option maxRecDepth 100000 in
theorem c_X9_put {l : Launch} {G : Gy} (hG : Inj G) (σ : St) {w i v : Int} (hs : ∀ j, 0 ≤ j → j < 4 → -1 ≤ σ 21 j ∧ σ 21 j ≤ 24) (hw : iR w) (hi : iR i) : MI l yX9_put wsX9_put ({ frames := 2, cells := 0, slots := 0, locals := 42 } : Room) G [.ref (G.2.2 0), .int (zI (w)), .int (zI (i)), .long (zL v)] σ (fun x σ2 => (¬ (0 ≤ w ∧ w ≤ 3) ∧ x = -1 ∧ σ2 = σ) ∨ ((0 ≤ w ∧ w ≤ 3) ∧ σ 21 w < 0 ∧ x = -11 ∧ σ2 = σ) ∨ ((0 ≤ w ∧ w ≤ 3) ∧ 0 ≤ σ 21 w ∧ ¬ (0 ≤ i ∧ i < σ 21 w) ∧ x = -13 ∧ σ2 = σ) ∨ ((0 ≤ w ∧ w ≤ 3) ∧ 0 ≤ σ 21 w ∧ (0 ≤ i ∧ i < σ 21 w) ∧ x = 1 ∧ σ2 = put σ 20 (24 * w + i) v)) := by
  refine MI.of hG (by decide +kernel) rfl rfl (Nat.le_of_ble_eq_true rfl) rfl ?_
  intro p e s m args below meth c H0 Q hC hret
  refine wp_iload_n hC dX9_put_0 rfl ?_
  refine wp_callSb (As := [_]) hC (c_X9_isShelf hG _ (by omega)) gX9_put_X9_isShelf rfl ⟨rfl, rfl⟩ ⟨by decide, by decide⟩ hySX9_isShelf rfl (Nat.le_of_ble_eq_true rfl) dX9_put_1 (fun hx_1 => ?_)
  refine wp_ifb_ne (tgt := 9) hC dX9_put_4 (by decide) (fun c_4 => ?_) (fun c_4 => ?_)
  · have hsw := hs w (by omega) (by omega)
    refine wp_aload_n hC dX9_put_9 rfl ?_
    refine wp_geta (k := 34) hC (rfl) (by decide) (rfl) (rfl) (by decide) uX9_put_X9 fX9_put_77 (rfl) dX9_put_10 ?_
    refine wp_iload_n hC dX9_put_13 rfl ?_
    refine wp_iald (n := 4) hC (rfl) (Nat.le_of_ble_eq_true rfl) (rfl) (by decide) (by omega) dX9_put_14 ?_
    refine wp_if_ge (tgt := 21) hC dX9_put_15 (by decide) (by omega) (fun c_15 => ?_) (fun c_15 => ?_)
    · refine wp_iload_n hC dX9_put_21 rfl ?_
      refine wp_iconst hC dX9_put_22 ?_
      refine wp_aload_n hC dX9_put_23 rfl ?_
      refine wp_geta (k := 34) hC (rfl) (by decide) (rfl) (rfl) (by decide) uX9_put_X9 fX9_put_77 (rfl) dX9_put_24 ?_
      refine wp_iload_n hC dX9_put_27 rfl ?_
      refine wp_iald (n := 4) hC (rfl) (Nat.le_of_ble_eq_true rfl) (rfl) (by decide) (by omega) dX9_put_28 ?_
      refine wp_iconst hC dX9_put_29 ?_
      refine wp_isub hC dX9_put_30 ?_
      refine wp_callSb (As := [_, _, _]) hC (c_X9_isIn hG _ (by omega) (by omega) (by omega)) gX9_put_X9_isIn rfl ⟨rfl, rfl⟩ ⟨by decide, by decide⟩ hySX9_isIn rfl (Nat.le_of_ble_eq_true rfl) dX9_put_31 (fun hx_31 => ?_)
      refine wp_ifb_ne (tgt := 40) hC dX9_put_34 (by decide) (fun c_34 => ?_) (fun c_34 => ?_)
      · refine wp_aload_n hC dX9_put_40 rfl ?_
        refine wp_geta (k := 33) hC (rfl) (by decide) (rfl) (rfl) (by decide) uX9_put_X9 fX9_put_73 (rfl) dX9_put_41 ?_
        refine wp_bipush hC dX9_put_44 rfl ?_
        refine wp_iload_n hC dX9_put_46 rfl ?_
        refine wp_imul hC dX9_put_47 ?_
        refine wp_iload_n hC dX9_put_48 rfl ?_
        refine wp_iadd hC dX9_put_49 ?_
        refine wp_lload_n hC dX9_put_50 rfl ?_
        refine wp_last (n := 96) hC (rfl) (Nat.le_of_ble_eq_true rfl) (rfl) (by decide) (by omega) dX9_put_51 ?_
        refine wp_iconst hC dX9_put_52 ?_
        exact hret _ _ _ _ (by omega) rfl (Or.inr (Or.inr (Or.inr ⟨c_4, c_15, by omega, rfl, rfl⟩))) dX9_put_53
      · refine wp_bipush hC dX9_put_37 rfl ?_
        exact hret _ _ _ _ (by omega) rfl (Or.inr (Or.inr (Or.inl ⟨c_4, c_15, by omega, rfl, rfl⟩))) dX9_put_39
    · refine wp_bipush hC dX9_put_18 rfl ?_
      exact hret _ _ _ _ (by omega) rfl (Or.inr (Or.inl ⟨c_4, c_15, rfl, rfl⟩)) dX9_put_20
  · refine wp_iconst hC dX9_put_7 ?_
    exact hret _ _ _ _ (by omega) rfl (Or.inl ⟨c_4, rfl, rfl⟩) dX9_put_8

theorem hyVX9_get : yX9_get.cls = RX9 ∧ yX9_get.cls ≠ "java/lang/invoke/MethodHandle" ∧ yX9_get.cls ≠ "java/lang/invoke/VarHandle" ∧ (parseMethodDescriptor yX9_get.desc).map (fun d => d.parameters.length) = some 2 := by decide +kernel
theorem uX9_get_X9 : ∀ w ∈ u_ws RX9 TX9 35, w ∈ wsX9_get := by decide +kernel
theorem fX9_get_77 : Cond.fieldLink RX9 77 (TX9 34).1 (TX9 34).2.1 (TX9 34).2.2.1 ∈ wsX9_get := by decide +kernel
theorem fX9_get_73 : Cond.fieldLink RX9 73 (TX9 33).1 (TX9 33).2.1 (TX9 33).2.2.1 ∈ wsX9_get := by decide +kernel
set_option maxHeartbeats 4000000 in
set_option maxRecDepth 100000 in
theorem c_X9_get {l : Launch} {G : Gy} (hG : Inj G) (σ : St) {w i : Int} (hs : ∀ j, 0 ≤ j → j < 4 → -1 ≤ σ 21 j ∧ σ 21 j ≤ 24) (hr : ∀ j, 0 ≤ j → j < 96 → lR (σ 20 j)) (hw : iR w) (hi : iR i) : ML l yX9_get wsX9_get ({ frames := 2, cells := 0, slots := 0, locals := 42 } : Room) G [.ref (G.2.2 0), .int (zI (w)), .int (zI (i))] σ (fun x σ2 => σ2 = σ ∧ ((¬ ((0 ≤ w ∧ w ≤ 3) ∧ (0 ≤ i ∧ i < σ 21 w)) ∧ x = -9223372036854775808) ∨ (((0 ≤ w ∧ w ≤ 3) ∧ (0 ≤ i ∧ i < σ 21 w)) ∧ x = σ 20 (24 * w + i)))) := by
  refine ML.of hG (by decide +kernel) rfl rfl (Nat.le_of_ble_eq_true rfl) rfl ?_
  intro p e s m args below meth c H0 Q hC hret
  refine wp_iload_n hC dX9_get_0 rfl ?_
  refine wp_callSb (As := [_]) hC (c_X9_isShelf hG _ (by omega)) gX9_get_X9_isShelf rfl ⟨rfl, rfl⟩ ⟨by decide, by decide⟩ hySX9_isShelf rfl (Nat.le_of_ble_eq_true rfl) dX9_get_1 (fun hx_1 => ?_)
  refine wp_ifb_eq (tgt := 37) hC dX9_get_4 (by decide) (fun c_4 => ?_) (fun c_4 => ?_)
  · refine wp_ldc2 (n := (-9223372036854775808)) hC dX9_get_37 (by decide +kernel) ?_
    exact hret _ _ _ _ (by omega) (⟨rfl, Or.inl ⟨by omega, rfl⟩⟩) dX9_get_40
  · have hsw := hs w (by omega) (by omega)
    refine wp_iload_n hC dX9_get_7 rfl ?_
    refine wp_iconst hC dX9_get_8 ?_
    refine wp_aload_n hC dX9_get_9 rfl ?_
    refine wp_geta (k := 34) hC (rfl) (by decide) (rfl) (rfl) (by decide) uX9_get_X9 fX9_get_77 (rfl) dX9_get_10 ?_
    refine wp_iload_n hC dX9_get_13 rfl ?_
    refine wp_iald (n := 4) hC (rfl) (Nat.le_of_ble_eq_true rfl) (rfl) (by decide) (by omega) dX9_get_14 ?_
    refine wp_iconst hC dX9_get_15 ?_
    refine wp_isub hC dX9_get_16 ?_
    refine wp_callSb (As := [_, _, _]) hC (c_X9_isIn hG _ (by omega) (by omega) (by omega)) gX9_get_X9_isIn rfl ⟨rfl, rfl⟩ ⟨by decide, by decide⟩ hySX9_isIn rfl (Nat.le_of_ble_eq_true rfl) dX9_get_17 (fun hx_17 => ?_)
    refine wp_ifb_eq (tgt := 37) hC dX9_get_20 (by decide) (fun c_20 => ?_) (fun c_20 => ?_)
    · refine wp_ldc2 (n := (-9223372036854775808)) hC dX9_get_37 (by decide +kernel) ?_
      exact hret _ _ _ _ (by omega) (⟨rfl, Or.inl ⟨by omega, rfl⟩⟩) dX9_get_40
    · refine wp_aload_n hC dX9_get_23 rfl ?_
      refine wp_geta (k := 33) hC (rfl) (by decide) (rfl) (rfl) (by decide) uX9_get_X9 fX9_get_73 (rfl) dX9_get_24 ?_
      refine wp_bipush hC dX9_get_27 rfl ?_
      refine wp_iload_n hC dX9_get_29 rfl ?_
      refine wp_imul hC dX9_get_30 ?_
      refine wp_iload_n hC dX9_get_31 rfl ?_
      refine wp_iadd hC dX9_get_32 ?_
      refine wp_lald (n := 96) hC (rfl) (Nat.le_of_ble_eq_true rfl) (rfl) (by decide) (by omega) dX9_get_33 ?_
      refine wp_goto (tgt := 40) hC dX9_get_34 (by decide) ?_
      exact hret _ _ _ _ (hr _ (by omega) (by omega)) (⟨rfl, Or.inr ⟨by omega, rfl⟩⟩) dX9_get_40

theorem hyVX9_feed : yX9_feed.cls = RX9 ∧ yX9_feed.cls ≠ "java/lang/invoke/MethodHandle" ∧ yX9_feed.cls ≠ "java/lang/invoke/VarHandle" ∧ (parseMethodDescriptor yX9_feed.desc).map (fun d => d.parameters.length) = some 1 := by decide +kernel
theorem uX9_feed_X9 : ∀ w ∈ u_ws RX9 TX9 35, w ∈ wsX9_feed := by decide +kernel
theorem fX9_feed_167 : Cond.fieldLink RX9 167 (TX9 18).1 (TX9 18).2.1 (TX9 18).2.2.1 ∈ wsX9_feed := by decide +kernel
theorem fX9_feed_49 : Cond.fieldLink RX9 49 (TX9 17).1 (TX9 17).2.1 (TX9 17).2.2.1 ∈ wsX9_feed := by decide +kernel
set_option maxHeartbeats 4000000 in
set_option maxRecDepth 100000 in
theorem c_X9_feed {l : Launch} {G : Gy} (hG : Inj G) (σ : St) {v : Int} (hv : iR v) (ht : 0 ≤ σ 0 18 ∧ σ 0 18 ≤ 100) : MI l yX9_feed wsX9_feed ({ frames := 1, cells := 0, slots := 0, locals := 22 } : Room) G [.ref (G.2.2 0), .int (zI (v))] σ (fun x σ2 => (¬ (32 ≤ v ∧ v ≤ 126) ∧ x = -1 ∧ σ2 = σ) ∨ ((32 ≤ v ∧ v ≤ 126) ∧ σ 0 18 = 100 ∧ x = -3 ∧ σ2 = σ) ∨ ((32 ≤ v ∧ v ≤ 126) ∧ σ 0 18 ≠ 100 ∧ x = σ 0 18 + 1 ∧ σ2 = put (put σ 12 (σ 0 18) v) 0 18 (σ 0 18 + 1))) := by
  refine MI.of hG (by decide +kernel) rfl rfl (Nat.le_of_ble_eq_true rfl) rfl ?_
  intro p e s m args below meth c H0 Q hC hret
  refine wp_iload_n hC dX9_feed_0 rfl ?_
  refine wp_bipush hC dX9_feed_1 rfl ?_
  refine wp_bipush hC dX9_feed_3 rfl ?_
  refine wp_callSb (As := [_, _, _]) hC (c_X9_isIn hG _ (by omega) (by omega) (by omega)) gX9_feed_X9_isIn rfl ⟨rfl, rfl⟩ ⟨by decide, by decide⟩ hySX9_isIn rfl (Nat.le_of_ble_eq_true rfl) dX9_feed_5 (fun hx_5 => ?_)
  refine wp_ifb_ne (tgt := 13) hC dX9_feed_8 (by decide) (fun c_8 => ?_) (fun c_8 => ?_)
  · refine wp_aload_n hC dX9_feed_13 rfl ?_
    refine wp_geti (k := 18) (z := 18) hC rfl (rfl) (by decide) (rfl) (rfl) (by decide) uX9_feed_X9 fX9_feed_167 (rfl) dX9_feed_14 ?_
    refine wp_bipush hC dX9_feed_17 rfl ?_
    refine wp_icmp_ne (tgt := 25) hC dX9_feed_19 (by decide) (by omega) (by omega) (fun c_19 => ?_) (fun c_19 => ?_)
    · refine wp_aload_n hC dX9_feed_25 rfl ?_
      refine wp_geta (k := 17) hC (rfl) (by decide) (rfl) (rfl) (by decide) uX9_feed_X9 fX9_feed_49 (rfl) dX9_feed_26 ?_
      refine wp_aload_n hC dX9_feed_29 rfl ?_
      refine wp_geti (k := 18) (z := 18) hC rfl (rfl) (by decide) (rfl) (rfl) (by decide) uX9_feed_X9 fX9_feed_167 (rfl) dX9_feed_30 ?_
      refine wp_iload_n hC dX9_feed_33 rfl ?_
      refine wp_iast (n := 100) hC (rfl) (Nat.le_of_ble_eq_true rfl) (rfl) (by decide) (by omega) dX9_feed_34 ?_
      refine wp_aload_n hC dX9_feed_35 rfl ?_
      refine wp_dup hC dX9_feed_36 rfl ?_
      refine wp_geti (k := 18) (z := 18) hC rfl (rfl) (by decide) (rfl) (rfl) (by decide) uX9_feed_X9 fX9_feed_167 (rfl) dX9_feed_37 ?_
      refine wp_top (b := σ 0 18) rfl ?_
      refine wp_iconst hC dX9_feed_40 ?_
      refine wp_iadd hC dX9_feed_41 ?_
      refine wp_puti2 (k := 18) (z := 18) hC rfl (rfl) (by decide) (rfl) (rfl) (by decide) uX9_feed_X9 fX9_feed_167 tyX9 tyX9_ok nmX9 rfl rfl (rfl) dX9_feed_42 ?_
      refine wp_aload_n hC dX9_feed_45 rfl ?_
      refine wp_geti (k := 18) (z := 18) hC rfl (rfl) (by decide) (rfl) (rfl) (by decide) uX9_feed_X9 fX9_feed_167 (rfl) dX9_feed_46 ?_
      refine wp_top (b := σ 0 18 + 1) put_s ?_
      exact hret _ _ _ _ (by omega) rfl (Or.inr (Or.inr ⟨c_8, by omega, rfl, rfl⟩)) dX9_feed_49
    · refine wp_bipush hC dX9_feed_22 rfl ?_
      exact hret _ _ _ _ (by omega) rfl (Or.inr (Or.inl ⟨c_8, by omega, rfl, rfl⟩)) dX9_feed_24
  · refine wp_iconst hC dX9_feed_11 ?_
    exact hret _ _ _ _ (by omega) rfl (Or.inl ⟨c_8, rfl, rfl⟩) dX9_feed_12

theorem hyVX9_count : yX9_count.cls = RX9 ∧ yX9_count.cls ≠ "java/lang/invoke/MethodHandle" ∧ yX9_count.cls ≠ "java/lang/invoke/VarHandle" ∧ (parseMethodDescriptor yX9_count.desc).map (fun d => d.parameters.length) = some 1 := by decide +kernel
theorem uX9_count_X9 : ∀ w ∈ u_ws RX9 TX9 35, w ∈ wsX9_count := by decide +kernel
theorem fX9_count_80 : Cond.fieldLink RX9 80 (TX9 5).1 (TX9 5).2.1 (TX9 5).2.2.1 ∈ wsX9_count := by decide +kernel
theorem fX9_count_167 : Cond.fieldLink RX9 167 (TX9 18).1 (TX9 18).2.1 (TX9 18).2.2.1 ∈ wsX9_count := by decide +kernel
theorem fX9_count_95 : Cond.fieldLink RX9 95 (TX9 11).1 (TX9 11).2.1 (TX9 11).2.2.1 ∈ wsX9_count := by decide +kernel
theorem fX9_count_98 : Cond.fieldLink RX9 98 (TX9 10).1 (TX9 10).2.1 (TX9 10).2.2.1 ∈ wsX9_count := by decide +kernel
set_option maxHeartbeats 4000000 in
set_option maxRecDepth 100000 in
theorem c_X9_count {l : Launch} {G : Gy} (hG : Inj G) (σ : St) {wh : Int} (h : RO σ) (hd : 0 ≤ σ 0 11 ∧ σ 0 11 ≤ σ 0 10 ∧ σ 0 10 ≤ 12) (ht : 0 ≤ σ 0 18 ∧ σ 0 18 ≤ 100) (hwh : iR wh) : MI l yX9_count wsX9_count ({ frames := 2, cells := 0, slots := 0, locals := 45 } : Room) G [.ref (G.2.2 0), .int (zI (wh))] σ (fun x σ2 => σ2 = σ ∧ ((wh = 0 ∧ x = σ 0 5) ∨ (wh = 1 ∧ x = pc (TH σ 0)) ∨ (wh = 2 ∧ x = pc (TH σ 1)) ∨ (wh = 3 ∧ x = pc (TH σ 2)) ∨ (wh = 4 ∧ x = σ 0 18) ∨ (wh = 5 ∧ x = σ 0 11) ∨ (wh = 6 ∧ x = σ 0 10 - σ 0 11) ∨ (wh = 7 ∧ x = sm (σ 1) 36) ∨ (wh = 8 ∧ x = amS (σ 0 5) (σ 2) (σ 4) (tb (TH σ 1)) (-1)) ∨ ((wh < 0 ∨ 8 < wh) ∧ x = -1))) := by
  refine MI.of hG (by decide +kernel) rfl rfl (Nat.le_of_ble_eq_true rfl) rfl ?_
  intro p e s m args below meth c H0 Q hC hret
  have hn := h.1
  refine wp_iload_n hC dX9_count_0 rfl ?_
  rcases (show (wh < 0 ∨ 8 < wh) ∨ wh = 0 ∨ wh = 1 ∨ wh = 2 ∨ wh = 3 ∨ wh = 4 ∨ wh = 5 ∨ wh = 6 ∨ wh = 7 ∨ wh = 8 from by omega) with c_1 | c_1 | c_1 | c_1 | c_1 | c_1 | c_1 | c_1 | c_1 | c_1
  · refine wp_tabOut (tgt := 120) hC dX9_count_1 (by omega) c_1 (by decide) ?_
    refine wp_iconst hC dX9_count_120 ?_
    exact hret _ _ _ _ (by omega) rfl (⟨rfl, Or.inr (Or.inr (Or.inr (Or.inr (Or.inr (Or.inr (Or.inr (Or.inr (Or.inr (⟨c_1, rfl⟩)))))))))⟩) dX9_count_121
  · refine wp_tabIn (tgt := 52) (v := 0) hC dX9_count_1 c_1 (by decide) (by decide) (by decide) rfl (by decide) ?_
    refine wp_aload_n hC dX9_count_52 rfl ?_
    refine wp_geti (k := 5) (z := 5) hC rfl (rfl) (by decide) (rfl) (rfl) (by decide) uX9_count_X9 fX9_count_80 (rfl) dX9_count_53 ?_
    exact hret _ _ _ _ (by omega) rfl (⟨rfl, Or.inl (⟨c_1, rfl⟩)⟩) dX9_count_56
  · refine wp_tabIn (tgt := 57) (v := 1) hC dX9_count_1 c_1 (by decide) (by decide) (by decide) rfl (by decide) ?_
    refine wp_aload_n hC dX9_count_57 rfl ?_
    refine wp_iconst hC dX9_count_58 ?_
    refine wp_callVe (As := [_]) hC (c_X9_those hG _ (by omega) (kI h) h.1) gX9_count_X9_those rfl ⟨rfl, rfl⟩ ⟨by decide, by decide⟩ hyVX9_those (rfl) (by decide) (rfl) rfl (Nat.le_of_ble_eq_true rfl) dX9_count_59 (fun hx_59 => ?_)
    refine wp_callSe (As := [_]) hC (c_X9_size hG _ (bsI h.1)) gX9_count_X9_size rfl ⟨rfl, rfl⟩ ⟨by decide, by decide⟩ hySX9_size rfl (Nat.le_of_ble_eq_true rfl) dX9_count_62 (fun hx_62 => ?_)
    exact hret _ _ _ _ (by assumption) rfl (⟨rfl, Or.inr (Or.inl (⟨c_1, rfl⟩))⟩) dX9_count_65
  · refine wp_tabIn (tgt := 66) (v := 2) hC dX9_count_1 c_1 (by decide) (by decide) (by decide) rfl (by decide) ?_
    refine wp_aload_n hC dX9_count_66 rfl ?_
    refine wp_iconst hC dX9_count_67 ?_
    refine wp_callVe (As := [_]) hC (c_X9_those hG _ (by omega) (kI h) h.1) gX9_count_X9_those rfl ⟨rfl, rfl⟩ ⟨by decide, by decide⟩ hyVX9_those (rfl) (by decide) (rfl) rfl (Nat.le_of_ble_eq_true rfl) dX9_count_68 (fun hx_68 => ?_)
    refine wp_callSe (As := [_]) hC (c_X9_size hG _ (bsI h.1)) gX9_count_X9_size rfl ⟨rfl, rfl⟩ ⟨by decide, by decide⟩ hySX9_size rfl (Nat.le_of_ble_eq_true rfl) dX9_count_71 (fun hx_71 => ?_)
    exact hret _ _ _ _ (by assumption) rfl (⟨rfl, Or.inr (Or.inr (Or.inl (⟨c_1, rfl⟩)))⟩) dX9_count_74
  · refine wp_tabIn (tgt := 75) (v := 3) hC dX9_count_1 c_1 (by decide) (by decide) (by decide) rfl (by decide) ?_
    refine wp_aload_n hC dX9_count_75 rfl ?_
    refine wp_iconst hC dX9_count_76 ?_
    refine wp_callVe (As := [_]) hC (c_X9_those hG _ (by omega) (kI h) h.1) gX9_count_X9_those rfl ⟨rfl, rfl⟩ ⟨by decide, by decide⟩ hyVX9_those (rfl) (by decide) (rfl) rfl (Nat.le_of_ble_eq_true rfl) dX9_count_77 (fun hx_77 => ?_)
    refine wp_callSe (As := [_]) hC (c_X9_size hG _ (bsI h.1)) gX9_count_X9_size rfl ⟨rfl, rfl⟩ ⟨by decide, by decide⟩ hySX9_size rfl (Nat.le_of_ble_eq_true rfl) dX9_count_80 (fun hx_80 => ?_)
    exact hret _ _ _ _ (by assumption) rfl (⟨rfl, Or.inr (Or.inr (Or.inr (Or.inl (⟨c_1, rfl⟩))))⟩) dX9_count_83
  · refine wp_tabIn (tgt := 84) (v := 4) hC dX9_count_1 c_1 (by decide) (by decide) (by decide) rfl (by decide) ?_
    refine wp_aload_n hC dX9_count_84 rfl ?_
    refine wp_geti (k := 18) (z := 18) hC rfl (rfl) (by decide) (rfl) (rfl) (by decide) uX9_count_X9 fX9_count_167 (rfl) dX9_count_85 ?_
    exact hret _ _ _ _ (by omega) rfl (⟨rfl, Or.inr (Or.inr (Or.inr (Or.inr (Or.inl (⟨c_1, rfl⟩)))))⟩) dX9_count_88
  · refine wp_tabIn (tgt := 89) (v := 5) hC dX9_count_1 c_1 (by decide) (by decide) (by decide) rfl (by decide) ?_
    refine wp_aload_n hC dX9_count_89 rfl ?_
    refine wp_geti (k := 11) (z := 11) hC rfl (rfl) (by decide) (rfl) (rfl) (by decide) uX9_count_X9 fX9_count_95 (rfl) dX9_count_90 ?_
    exact hret _ _ _ _ (by omega) rfl (⟨rfl, Or.inr (Or.inr (Or.inr (Or.inr (Or.inr (Or.inl (⟨c_1, rfl⟩))))))⟩) dX9_count_93
  · refine wp_tabIn (tgt := 94) (v := 6) hC dX9_count_1 c_1 (by decide) (by decide) (by decide) rfl (by decide) ?_
    refine wp_aload_n hC dX9_count_94 rfl ?_
    refine wp_geti (k := 10) (z := 10) hC rfl (rfl) (by decide) (rfl) (rfl) (by decide) uX9_count_X9 fX9_count_98 (rfl) dX9_count_95 ?_
    refine wp_aload_n hC dX9_count_98 rfl ?_
    refine wp_geti (k := 11) (z := 11) hC rfl (rfl) (by decide) (rfl) (rfl) (by decide) uX9_count_X9 fX9_count_95 (rfl) dX9_count_99 ?_
    refine wp_isub hC dX9_count_102 ?_
    exact hret _ _ _ _ (by omega) rfl (⟨rfl, Or.inr (Or.inr (Or.inr (Or.inr (Or.inr (Or.inr (Or.inl (⟨c_1, rfl⟩)))))))⟩) dX9_count_103
  · refine wp_tabIn (tgt := 104) (v := 7) hC dX9_count_1 c_1 (by decide) (by decide) (by decide) rfl (by decide) ?_
    refine wp_aload_n hC dX9_count_104 rfl ?_
    refine wp_callVe (As := []) hC (c_X9_allSupplies hG _ h.2.1.1) gX9_count_X9_allSupplies rfl ⟨rfl, rfl⟩ ⟨by decide, by decide⟩ hyVX9_allSupplies (rfl) (by decide) (rfl) rfl (Nat.le_of_ble_eq_true rfl) dX9_count_105 (fun hx_105 => ?_)
    exact hret _ _ _ _ (hx_105) rfl (⟨rfl, Or.inr (Or.inr (Or.inr (Or.inr (Or.inr (Or.inr (Or.inr (Or.inl (⟨c_1, rfl⟩))))))))⟩) dX9_count_108
  · refine wp_tabIn (tgt := 109) (v := 8) hC dX9_count_1 c_1 (by decide) (by decide) (by decide) rfl (by decide) ?_
    refine wp_aload_n hC dX9_count_109 rfl ?_
    refine wp_aload_n hC dX9_count_110 rfl ?_
    refine wp_iconst hC dX9_count_111 ?_
    refine wp_callVe (As := [_]) hC (c_X9_those hG _ (by omega) (kI h) h.1) gX9_count_X9_those rfl ⟨rfl, rfl⟩ ⟨by decide, by decide⟩ hyVX9_those (rfl) (by decide) (rfl) rfl (Nat.le_of_ble_eq_true rfl) dX9_count_112 (fun hx_112 => ?_)
    refine wp_iconst hC dX9_count_115 ?_
    refine wp_callVe (As := [_, _]) hC (c_X9_amountsOf hG _ (bsI h.1) (by decide) h.1 h.2.2.1 h.2.2.2.2.1) gX9_count_X9_amountsOf rfl ⟨rfl, rfl⟩ ⟨by decide, by decide⟩ hyVX9_amountsOf (rfl) (by decide) (rfl) rfl (Nat.le_of_ble_eq_true rfl) dX9_count_116 (fun hx_116 => ?_)
    exact hret _ _ _ _ (hx_116) rfl (⟨rfl, Or.inr (Or.inr (Or.inr (Or.inr (Or.inr (Or.inr (Or.inr (Or.inr (Or.inl (⟨c_1, rfl⟩)))))))))⟩) dX9_count_119
