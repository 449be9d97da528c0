/-- the shares of those taken suffice for a set -/
def SHP (σ : St) (P T : Int → Bool) : Prop := ∀ o, 0 ≤ o → o < σ 0 5 → T o = true → amS (σ 0 5) (σ 2) (σ 4) P (σ 4 o) ≤ σ 1 (36 + σ 4 o) * sm (σ 1) 36 / 100

theorem hyVX9_areShares : yX9_areShares.cls = RX9 ∧ yX9_areShares.cls ≠ "java/lang/invoke/MethodHandle" ∧ yX9_areShares.cls ≠ "java/lang/invoke/VarHandle" ∧ (parseMethodDescriptor yX9_areShares.desc).map (fun d => d.parameters.length) = some 2 := by decide +kernel
theorem uX9_areShares_X9 : ∀ w ∈ u_ws RX9 TX9 35, w ∈ wsX9_areShares := by decide +kernel
theorem fX9_areShares_80 : Cond.fieldLink RX9 80 (TX9 5).1 (TX9 5).2.1 (TX9 5).2.2.1 ∈ wsX9_areShares := by decide +kernel
theorem fX9_areShares_19 : Cond.fieldLink RX9 19 (TX9 3).1 (TX9 3).2.1 (TX9 3).2.2.1 ∈ wsX9_areShares := by decide +kernel
set_option maxHeartbeats 4000000 in
set_option maxRecDepth 100000 in
theorem c_X9_areShares {l : Launch} {G : Gy} (hG : Inj G) (σ : St) {B T : Int} (h : RO σ) (hB : 0 ≤ B ∧ B ≤ 2147483647) (hT : 0 ≤ T ∧ T ≤ 2147483647) : MP l yX9_areShares wsX9_areShares ({ frames := 2, cells := 0, slots := 0, locals := 43 } : Room) G [.ref (G.2.2 0), .int (zI (B)), .int (zI (T))] σ (fun x => bP x (SHP σ (tb B) (tb T))) := by
  refine MI.of hG (by decide +kernel) rfl rfl (Nat.le_of_ble_eq_true rfl) rfl ?_
  intro p e s m args below meth c H0 Q hC hret
  have hn := h.1
  have L2 : ∀ (n : Nat) (k : Int), ((σ 0 5 - k).toNat) = n → (0 ≤ k ∧ k ≤ σ 0 5) → (∀ o, 0 ≤ o → o < k → tb T o = true → amS (σ 0 5) (σ 2) (σ 4) (tb B) (σ 4 o) ≤ σ 1 (36 + σ 4 o) * sm (σ 1) 36 / 100) → wp p l e ({ frames := 2, cells := 0, slots := 0, locals := 43 } : Room) s m args below meth c (aA G (Array.size H0)) H0 4 Q G σ 2 [(0, .ref (G.2.2 0)), (1, .int (zI (B))), (2, .int (zI (T))), (3, .int (zI (k)))] [] := by
    intro n2
    induction n2 using Nat.strongRecOn with
    | ind n2 ih =>
      intro k hm2 h1 h2
      have hgk := fun z : k < 24 => h.2.2.2.2.1 k h1.1 z
      refine wp_iload_n hC dX9_areShares_2 rfl ?_
      refine wp_aload_n hC dX9_areShares_3 rfl ?_
      refine wp_geti (k := 5) (z := 5) hC rfl (rfl) (by decide) (rfl) (rfl) (by decide) uX9_areShares_X9 fX9_areShares_80 (rfl) dX9_areShares_4 ?_
      refine wp_icmp_ge (tgt := 51) hC dX9_areShares_7 (by decide) (by omega) (by omega) (fun c_7 => ?_) (fun c_7 => ?_)
      · refine wp_iconst hC dX9_areShares_51 ?_
        exact hret _ _ _ _ (by omega) rfl (⟨Or.inl ⟨rfl, fun o a b w => h2 o a (by omega) w⟩, rfl⟩) dX9_areShares_52
      · refine wp_iload_n hC dX9_areShares_10 rfl ?_
        refine wp_iload_n hC dX9_areShares_11 rfl ?_
        refine wp_ishr hC dX9_areShares_12 ?_
        refine wp_iconst hC dX9_areShares_13 ?_
        refine wp_iand hC dX9_areShares_14 ?_
        refine wp_top (b := bI (tb T k = true)) (bit_at (by omega) (by omega) (by omega) (by omega)) ?_
        refine wp_iconst hC dX9_areShares_15 ?_
        refine wp_icmp_ne (tgt := 45) hC dX9_areShares_16 (by decide) (iR_bI) (by omega) (fun c_16 => ?_) (fun c_16 => ?_)
        · have c16 : ¬ tb T k = true := bI_n1.mp c_16
          refine wp_iinc (lv2 := [(0, _), (1, _), (2, _), (3, _)]) hC dX9_areShares_45 rfl rfl (by decide) ?_
          refine wp_goto (tgt := 2) hC dX9_areShares_48 (by decide) ?_
          exact ih _ (by omega) _ rfl (by omega) (fun o a b w => by
            rcases Int.lt_or_le o k with z | z
            · exact h2 o a z w
            · have e : o = k := by omega
              subst e
              exact absurd w c16)
        · have c16 : tb T k = true := bI_1.mp c_16
          refine wp_aload_n hC dX9_areShares_19 rfl ?_
          refine wp_iload_n hC dX9_areShares_20 rfl ?_
          refine wp_aload_n hC dX9_areShares_21 rfl ?_
          refine wp_geta (k := 3) hC (rfl) (by decide) (rfl) (rfl) (by decide) uX9_areShares_X9 fX9_areShares_19 (rfl) dX9_areShares_22 ?_
          refine wp_iload_n hC dX9_areShares_25 rfl ?_
          refine wp_iald (n := 24) hC (rfl) (Nat.le_of_ble_eq_true rfl) (rfl) (by decide) (by omega) dX9_areShares_26 ?_
          refine wp_callVe (As := [_, _]) hC (c_X9_amountsOf hG _ (by omega) (by omega) h.1 h.2.2.1 h.2.2.2.2.1) gX9_areShares_X9_amountsOf rfl ⟨rfl, rfl⟩ ⟨by decide, by decide⟩ hyVX9_amountsOf (rfl) (by decide) (rfl) rfl (Nat.le_of_ble_eq_true rfl) dX9_areShares_27 (fun hx_27 => ?_)
          refine wp_aload_n hC dX9_areShares_30 rfl ?_
          refine wp_aload_n hC dX9_areShares_31 rfl ?_
          refine wp_geta (k := 3) hC (rfl) (by decide) (rfl) (rfl) (by decide) uX9_areShares_X9 fX9_areShares_19 (rfl) dX9_areShares_32 ?_
          refine wp_iload_n hC dX9_areShares_35 rfl ?_
          refine wp_iald (n := 24) hC (rfl) (Nat.le_of_ble_eq_true rfl) (rfl) (by decide) (by omega) dX9_areShares_36 ?_
          refine wp_callVe (As := [_]) hC (c_X9_shareOf hG _ (by omega) h.2.1) gX9_areShares_X9_shareOf rfl ⟨rfl, rfl⟩ ⟨by decide, by decide⟩ hyVX9_shareOf (rfl) (by decide) (rfl) rfl (Nat.le_of_ble_eq_true rfl) dX9_areShares_37 (fun hx_37 => ?_)
          refine wp_icmp_le (tgt := 45) hC dX9_areShares_40 (by decide) (hx_27) (hx_37) (fun c_40 => ?_) (fun c_40 => ?_)
          · refine wp_iinc (lv2 := [(0, _), (1, _), (2, _), (3, _)]) hC dX9_areShares_45 rfl rfl (by decide) ?_
            refine wp_goto (tgt := 2) hC dX9_areShares_48 (by decide) ?_
            exact ih _ (by omega) _ rfl (by omega) (fun o a b w => by
              rcases Int.lt_or_le o k with z | z
              · exact h2 o a z w
              · have e : o = k := by omega
                subst e
                exact c_40)
          · refine wp_iconst hC dX9_areShares_43 ?_
            exact hret _ _ _ _ (by omega) rfl (⟨Or.inr ⟨rfl, fun z => absurd (z k h1.1 (by omega) c16) (Int.not_le.mpr c_40)⟩, rfl⟩) dX9_areShares_44
  refine wp_iconst hC dX9_areShares_0 ?_
  refine wp_istore_n (lv2 := [(0, _), (1, _), (2, _), (3, _)]) hC dX9_areShares_1 rfl (by decide) ?_
  exact L2 _ _ rfl (by omega) (fun o a b => by omega)

/-- of those asked the ones of a set of places among them -/
def TKf (σ : St) (w : Int) : Int → Bool := fun o => kdB σ 0 o && tb w (cnt o (kdB σ 0))
def TK (σ : St) (w : Int) : Int := bsum (TKf σ w) (σ 0 5)
theorem cnt_s {n : Int} {K : Int → Bool} (h : 0 ≤ n) : cnt (n + 1) K = cnt n K + bI (K n = true) := sm_s h

theorem bI_t : bI (true = true) = 1 := rfl
theorem bI_f : bI (false = true) = 0 := rfl
theorem hyVX9_askedBy : yX9_askedBy.cls = RX9 ∧ yX9_askedBy.cls ≠ "java/lang/invoke/MethodHandle" ∧ yX9_askedBy.cls ≠ "java/lang/invoke/VarHandle" ∧ (parseMethodDescriptor yX9_askedBy.desc).map (fun d => d.parameters.length) = some 1 := by decide +kernel
theorem uX9_askedBy_X9 : ∀ w ∈ u_ws RX9 TX9 35, w ∈ wsX9_askedBy := by decide +kernel
theorem fX9_askedBy_80 : Cond.fieldLink RX9 80 (TX9 5).1 (TX9 5).2.1 (TX9 5).2.2.1 ∈ wsX9_askedBy := by decide +kernel
set_option maxHeartbeats 4000000 in
set_option maxRecDepth 100000 in
theorem c_X9_askedBy {l : Launch} {G : Gy} (hG : Inj G) (σ : St) {w : Int} (h : RO σ) (hw : 0 ≤ w ∧ w ≤ 2147483647) : ME l yX9_askedBy wsX9_askedBy ({ frames := 1, cells := 0, slots := 0, locals := 22 } : Room) G [.ref (G.2.2 0), .int (zI (w))] σ (TK σ w) σ := by
  refine MI.of hG (by decide +kernel) rfl rfl (Nat.le_of_ble_eq_true rfl) rfl ?_
  intro p e s m args below meth c H0 Q hC hret
  have hn := h.1
  have L7 : ∀ (n : Nat) (o b k : Int), ((σ 0 5 - o).toNat) = n → (0 ≤ o ∧ o ≤ σ 0 5) → (b = bsum (TKf σ w) o) → (k = cnt o (kdB σ 0)) → wp p l e ({ frames := 1, cells := 0, slots := 0, locals := 22 } : Room) s m args below meth c (aA G (Array.size H0)) H0 5 Q G σ 7 [(0, .ref (G.2.2 0)), (1, .int (zI (w))), (2, .int (zI (b))), (3, .int (zI (k))), (4, .int (zI (o)))] [] := by
    intro n7
    induction n7 using Nat.strongRecOn with
    | ind n7 ih =>
      intro o b k hm7 h1 h2 h3
      have hb := bs_rng (P := TKf σ w) h1.1
      rw [← h2] at hb
      have hp : pw o ≤ pw 24 := pw_le (by omega)
      have h24 : pw 24 = 16777216 := by decide
      have hk := cnt_rng (K := kdB σ 0) h1.1
      rw [← h3] at hk
      have hcs := cnt_s (K := kdB σ 0) h1.1
      rw [← h3] at hcs
      have hbs := bs_s (P := TKf σ w) h1.1
      rw [← h2] at hbs
      refine wp_iload hC dX9_askedBy_7 rfl ?_
      refine wp_aload_n hC dX9_askedBy_9 rfl ?_
      refine wp_geti (k := 5) (z := 5) hC rfl (rfl) (by decide) (rfl) (rfl) (by decide) uX9_askedBy_X9 fX9_askedBy_80 (rfl) dX9_askedBy_10 ?_
      refine wp_icmp_ge (tgt := 58) hC dX9_askedBy_13 (by decide) (by omega) (by omega) (fun c_13 => ?_) (fun c_13 => ?_)
      · refine wp_iload_n hC dX9_askedBy_58 rfl ?_
        exact hret _ _ _ _ (by omega) rfl (⟨by rw [h2, show o = σ 0 5 by omega]; rfl, rfl⟩) dX9_askedBy_59
      · refine wp_aload_n hC dX9_askedBy_16 rfl ?_
        refine wp_iload hC dX9_askedBy_17 rfl ?_
        refine wp_iconst hC dX9_askedBy_19 ?_
        refine wp_callVb (As := [_, _]) hC (c_X9_isWhat hG _ (by omega) (by omega) (by have := h.2.1.2.2.1 (40 + o) (by omega) (by omega); omega)) gX9_askedBy_X9_isWhat rfl ⟨rfl, rfl⟩ ⟨by decide, by decide⟩ hyVX9_isWhat (rfl) (by decide) (rfl) rfl (Nat.le_of_ble_eq_true rfl) dX9_askedBy_20 (fun hx_20 => ?_)
        refine wp_ifb_ne (tgt := 29) hC dX9_askedBy_23 (by decide) (fun c_23 => ?_) (fun c_23 => ?_)
        · refine wp_iload_n hC dX9_askedBy_29 rfl ?_
          refine wp_iload_n hC dX9_askedBy_30 rfl ?_
          refine wp_iload_n hC dX9_askedBy_31 rfl ?_
          refine wp_ishr hC dX9_askedBy_32 ?_
          refine wp_iconst hC dX9_askedBy_33 ?_
          refine wp_iand hC dX9_askedBy_34 ?_
          refine wp_top (b := bI (tb w k = true)) (bit_at (by omega) (by omega) (by omega) (by omega)) ?_
          refine wp_iconst hC dX9_askedBy_35 ?_
          refine wp_icmp_ne (tgt := 46) hC dX9_askedBy_36 (by decide) (iR_bI) (by omega) (fun c_36 => ?_) (fun c_36 => ?_)
          · have c36 : ¬ tb w k = true := bI_n1.mp c_36
            refine wp_iconst hC dX9_askedBy_46 ?_
            refine wp_ior hC dX9_askedBy_47 ?_
            refine wp_istore_n (lv2 := [(0, _), (1, _), (2, _), (3, _), (4, _)]) hC dX9_askedBy_48 rfl (by decide) ?_
            refine wp_iinc (lv2 := [(0, _), (1, _), (2, _), (3, _), (4, _)]) hC dX9_askedBy_49 rfl rfl (by decide) ?_
            refine wp_iinc (lv2 := [(0, _), (1, _), (2, _), (3, _), (4, _)]) hC dX9_askedBy_52 rfl rfl (by decide) ?_
            refine wp_goto (tgt := 7) hC dX9_askedBy_55 (by decide) ?_
            have e : kdB σ 0 o = true := decide_eq_true c_23
            rw [e, bI_t] at hcs
            have eT : TKf σ w o = false := by unfold TKf; rw [← h3, e, Bool.eq_false_iff.mpr c36]; rfl
            rw [eT, if_neg (by decide)] at hbs
            exact ih _ (by omega) _ _ _ rfl (by omega) (by rw [ior_0 (by omega)]; omega) (by omega)
          · have c36 : tb w k = true := bI_1.mp c_36
            refine wp_iconst hC dX9_askedBy_39 ?_
            refine wp_iload hC dX9_askedBy_40 rfl ?_
            refine wp_ishl hC dX9_askedBy_42 ?_
            refine wp_goto (tgt := 47) hC dX9_askedBy_43 (by decide) ?_
            refine wp_top (b := pw o) (ishl_1 (by omega) (by omega)) ?_
            refine wp_ior hC dX9_askedBy_47 ?_
            refine wp_istore_n (lv2 := [(0, _), (1, _), (2, _), (3, _), (4, _)]) hC dX9_askedBy_48 rfl (by decide) ?_
            refine wp_iinc (lv2 := [(0, _), (1, _), (2, _), (3, _), (4, _)]) hC dX9_askedBy_49 rfl rfl (by decide) ?_
            refine wp_iinc (lv2 := [(0, _), (1, _), (2, _), (3, _), (4, _)]) hC dX9_askedBy_52 rfl rfl (by decide) ?_
            refine wp_goto (tgt := 7) hC dX9_askedBy_55 (by decide) ?_
            have e : kdB σ 0 o = true := decide_eq_true c_23
            rw [e, bI_t] at hcs
            have eT : TKf σ w o = true := by unfold TKf; rw [← h3, e, c36]; rfl
            rw [eT, if_pos rfl] at hbs
            exact ih _ (by omega) _ _ _ rfl (by omega) (by rw [ior_pw hb.1 hb.2 h1.1 (by omega)]; omega) (by omega)
        · refine wp_goto (tgt := 52) hC dX9_askedBy_26 (by decide) ?_
          refine wp_iinc (lv2 := [(0, _), (1, _), (2, _), (3, _), (4, _)]) hC dX9_askedBy_52 rfl rfl (by decide) ?_
          refine wp_goto (tgt := 7) hC dX9_askedBy_55 (by decide) ?_
          have e : kdB σ 0 o = false := decide_eq_false c_23
          have eT : TKf σ w o = false := by unfold TKf; rw [e]; rfl
          rw [eT, if_neg (by decide)] at hbs
          rw [e, bI_f] at hcs
          exact ih _ (by omega) _ _ _ rfl (by omega) (by omega) (by omega)
  refine wp_iconst hC dX9_askedBy_0 ?_
  refine wp_istore_n (lv2 := [(0, _), (1, _), (2, _)]) hC dX9_askedBy_1 rfl (by decide) ?_
  refine wp_iconst hC dX9_askedBy_2 ?_
  refine wp_istore_n (lv2 := [(0, _), (1, _), (2, _), (3, _)]) hC dX9_askedBy_3 rfl (by decide) ?_
  refine wp_iconst hC dX9_askedBy_4 ?_
  refine wp_istore (lv2 := [(0, _), (1, _), (2, _), (3, _), (4, _)]) hC dX9_askedBy_5 rfl (by decide) ?_
  exact L7 _ _ _ _ rfl (by omega) rfl rfl

/-- the first best of the sets 1 .. N-1 that may be -/
def FB (C : Int → Prop) (V : Int → Int) (N i m : Int) : Prop := ((i = 0 ∧ m = 0) ∨ (1 ≤ i ∧ i < N ∧ C i ∧ m = V i ∧ 0 < m)) ∧ (∀ k, 1 ≤ k → k < N → C k → V k ≤ m) ∧ ∀ k, 1 ≤ k → k < i → C k → V k < m
theorem FB_u {C C' : Int → Prop} {V V' : Int → Int} {N i m i' m' : Int} (e : ∀ k, 1 ≤ k → k < N → (C k ↔ C' k) ∧ V k = V' k) (h : FB C V N i m) (h' : FB C' V' N i' m') : i = i' ∧ m = m' := by
  obtain ⟨a1, a2, a3⟩ := h
  obtain ⟨b1, b2, b3⟩ := h'
  rcases a1 with ⟨rfl, rfl⟩ | ⟨x1, x2, x3, x4, x5⟩ <;> rcases b1 with ⟨rfl, rfl⟩ | ⟨y1, y2, y3, y4, y5⟩
  · exact ⟨rfl, rfl⟩
  · have := a2 i' y1 y2 ((e i' y1 y2).1.mpr y3)
    have := (e i' y1 y2).2
    omega
  · have := b2 i x1 x2 ((e i x1 x2).1.mp x3)
    have := (e i x1 x2).2
    omega
  · have q1 := a2 i' y1 y2 ((e i' y1 y2).1.mpr y3)
    have q2 := b2 i x1 x2 ((e i x1 x2).1.mp x3)
    have q3 := (e i' y1 y2).2
    have q4 := (e i x1 x2).2
    rcases Int.lt_trichotomy i i' with z | z | z
    · have := b3 i x1 z ((e i x1 x2).1.mp x3)
      omega
    · omega
    · have := a3 i' y1 z ((e i' y1 y2).1.mpr y3)
      omega
/-- one set may be filled; how much it has -/
def FC (σ : St) (k : Int) : Prop := SHP σ (tb (ior (TK σ k) (TH σ 1))) (tb (TK σ k)) ∧ MET σ (tb (ior (TK σ k) (TH σ 1)))
def FV (σ : St) (k : Int) : Int := amS (σ 0 5) (σ 2) (σ 4) (tb (TK σ k)) (-1)
theorem FB_no {C : Int → Prop} {V : Int → Int} {N i m : Int} (h : FB C V N i m) (hN : 1 ≤ N) (hk : ¬ (C N ∧ m < V N)) : FB C V (N + 1) i m := by
  obtain ⟨a1, a2, a3⟩ := h
  refine ⟨?_, fun k x y z => ?_, a3⟩
  · rcases a1 with q | ⟨x1, x2, x3⟩
    · exact Or.inl q
    · exact Or.inr ⟨x1, by omega, x3⟩
  · rcases Int.lt_or_le k N with w | w
    · exact a2 k x w z
    · have e : k = N := by omega
      rw [e] at z ⊢
      exact Int.not_lt.mp (fun q => hk ⟨z, q⟩)
theorem FB_yes {C : Int → Prop} {V : Int → Int} {N i m : Int} (h : FB C V N i m) (hN : 1 ≤ N) (hc : C N) (hv : m < V N) : FB C V (N + 1) N (V N) := by
  obtain ⟨a1, a2, a3⟩ := h
  have hm : 0 ≤ m := by rcases a1 with ⟨_, q⟩ | ⟨_, _, _, _, q⟩ <;> omega
  refine ⟨Or.inr ⟨hN, by omega, hc, rfl, by omega⟩, fun k x y z => ?_, fun k x y z => ?_⟩
  · rcases Int.lt_or_le k N with w | w
    · have := a2 k x w z; omega
    · rw [show k = N by omega]; exact Int.le_refl _
  · have := a2 k x y z; omega

theorem hyVX9_filled : yX9_filled.cls = RX9 ∧ yX9_filled.cls ≠ "java/lang/invoke/MethodHandle" ∧ yX9_filled.cls ≠ "java/lang/invoke/VarHandle" ∧ (parseMethodDescriptor yX9_filled.desc).map (fun d => d.parameters.length) = some 1 := by decide +kernel
set_option maxHeartbeats 4000000 in
set_option maxRecDepth 100000 in
theorem c_X9_filled {l : Launch} {G : Gy} (hG : Inj G) (σ : St) {wh : Int} (h : RO σ) (hwh : iR wh) : MI l yX9_filled wsX9_filled ({ frames := 5, cells := 0, slots := 0, locals := 113 } : Room) G [.ref (G.2.2 0), .int (zI (wh))] σ (fun x σ2 => (¬ (0 ≤ wh ∧ wh ≤ 1) ∧ x = -1 ∧ σ2 = σ) ∨ ((0 ≤ wh ∧ wh ≤ 1) ∧ 8 < pc (TH σ 0) ∧ x = -7 ∧ σ2 = σ) ∨ ((0 ≤ wh ∧ wh ≤ 1) ∧ pc (TH σ 0) ≤ 8 ∧ (∃ i m, FB (FC σ) (FV σ) (pw (pc (TH σ 0))) i m ∧ x = if wh = 0 then i else m) ∧ ∃ τ, σ2 = SC σ τ)) := by
  refine MI.of hG (by decide +kernel) rfl rfl (Nat.le_of_ble_eq_true rfl) rfl ?_
  intro p e s m args below meth c H0 Q hC hret
  have hn := h.1
  have hpr := pc_rng (TH σ 0)
  have L37 : ∀ (n : Nat) (k i m9 : Int) (τ : St), ((pw (pc (TH σ 0)) - k).toNat) = n → ((0 ≤ wh ∧ wh ≤ 1) ∧ pc (TH σ 0) ≤ 8) → (1 ≤ k ∧ k ≤ pw (pc (TH σ 0))) → (FB (FC σ) (FV σ) k i m9) → ((0 ≤ i ∧ i ≤ 256) ∧ 0 ≤ m9 ∧ m9 ≤ 2000) → wp p l e ({ frames := 5, cells := 0, slots := 0, locals := 113 } : Room) s m args below meth c (aA G (Array.size H0)) H0 9 Q G (S1 σ τ) 37 [(0, .ref (G.2.2 0)), (1, .int (zI (wh))), (2, .int (zI (pc (TH σ 0)))), (3, .int (zI (i))), (4, .int (zI (m9))), (5, .int (zI (k)))] [] := by
    intro n37
    induction n37 using Nat.strongRecOn with
    | ind n37 ih =>
      intro k i m9 τ hm37 g0 h1 hfb hm9
      have hp8 : pw (pc (TH σ 0)) ≤ pw 8 := pw_le g0.2
      have h8 : pw 8 = 256 := by decide
      have hv := amS_rng (n := σ 0 5) (am := σ 2) (gr := σ 4) (P := tb (TK σ k)) (g := -1) hn.1 (fun o a b => h.2.2.1 o a (by omega))
      have hv2 : 0 ≤ FV σ k ∧ FV σ k ≤ 1440 := ⟨hv.1, Int.le_trans hv.2 (by omega)⟩
      clear hv
      refine wp_iload hC dX9_filled_37 rfl ?_
      refine wp_iconst hC dX9_filled_39 ?_
      refine wp_iload_n hC dX9_filled_40 rfl ?_
      refine wp_ishl hC dX9_filled_41 ?_
      refine wp_top (b := pw (pc (TH σ 0))) (ishl_1 (by clear hfb; omega) (by clear hfb; omega)) ?_
      refine wp_icmp_ge (tgt := 115) hC dX9_filled_42 (by decide) (by clear hfb; omega) (by clear hfb; omega) (fun c_42 => ?_) (fun c_42 => ?_)
      · refine wp_iload_n hC dX9_filled_115 rfl ?_
        refine wp_if_ne (tgt := 123) hC dX9_filled_116 (by decide) (by clear hfb; omega) (fun c_116 => ?_) (fun c_116 => ?_)
        · refine wp_iload hC dX9_filled_123 rfl ?_
          exact hret _ _ _ _ (by clear hfb; omega) rfl (Or.inr (Or.inr ⟨g0.1, g0.2, ⟨i, m9, by rw [show pw (pc (TH σ 0)) = k by clear hfb; omega]; exact hfb, (if_neg c_116).symm⟩, _, S1_SC _ _⟩)) dX9_filled_125
        · refine wp_iload_n hC dX9_filled_119 rfl ?_
          refine wp_goto (tgt := 125) hC dX9_filled_120 (by decide) ?_
          exact hret _ _ _ _ (by clear hfb; omega) rfl (Or.inr (Or.inr ⟨g0.1, g0.2, ⟨i, m9, by rw [show pw (pc (TH σ 0)) = k by clear hfb; omega]; exact hfb, (if_pos c_116).symm⟩, _, S1_SC _ _⟩)) dX9_filled_125
      · refine wp_aload_n hC dX9_filled_45 rfl ?_
        refine wp_iload hC dX9_filled_46 rfl ?_
        refine wp_callVe (As := [_]) hC (c_X9_askedBy hG (S1 σ τ) h (by clear hfb; omega)) gX9_filled_X9_askedBy rfl ⟨rfl, rfl⟩ ⟨by decide, by decide⟩ hyVX9_askedBy (rfl) (by decide) (rfl) rfl (Nat.le_of_ble_eq_true rfl) dX9_filled_48 (fun hx_48 => ?_)
        refine wp_top (b := TK σ k) rfl ?_
        refine wp_istore (lv2 := [(0, _), (1, _), (2, _), (3, _), (4, _), (5, _), (6, _)]) hC dX9_filled_51 rfl (by decide) ?_
        refine wp_aload_n hC dX9_filled_53 rfl ?_
        refine wp_iload hC dX9_filled_54 rfl ?_
        refine wp_iconst hC dX9_filled_56 ?_
        refine wp_callVe (As := [_, _]) hC (c_X9_amountsOf hG (S1 σ τ) (bsI h.1) (by decide) h.1 h.2.2.1 h.2.2.2.2.1) gX9_filled_X9_amountsOf rfl ⟨rfl, rfl⟩ ⟨by decide, by decide⟩ hyVX9_amountsOf (rfl) (by decide) (rfl) rfl (Nat.le_of_ble_eq_true rfl) dX9_filled_57 (fun hx_57 => ?_)
        refine wp_top (b := FV σ k) rfl ?_
        refine wp_istore (lv2 := [(0, _), (1, _), (2, _), (3, _), (4, _), (5, _), (6, _), (7, _)]) hC dX9_filled_60 rfl (by decide) ?_
        refine wp_iload hC dX9_filled_62 rfl ?_
        refine wp_aload_n hC dX9_filled_64 rfl ?_
        refine wp_iconst hC dX9_filled_65 ?_
        refine wp_callVe (As := [_]) hC (c_X9_those hG (S1 σ τ) (by decide) (kI h) h.1) gX9_filled_X9_those rfl ⟨rfl, rfl⟩ ⟨by decide, by decide⟩ hyVX9_those (rfl) (by decide) (rfl) rfl (Nat.le_of_ble_eq_true rfl) dX9_filled_66 (fun hx_66 => ?_)
        refine wp_top (b := TH σ 1) rfl ?_
        refine wp_ior hC dX9_filled_69 ?_
        refine wp_istore (lv2 := [(0, _), (1, _), (2, _), (3, _), (4, _), (5, _), (6, _), (7, _), (8, _)]) hC dX9_filled_70 rfl (by decide) ?_
        refine wp_iload hC dX9_filled_72 rfl ?_
        refine wp_iload hC dX9_filled_74 rfl ?_
        refine wp_icmp_le (tgt := 109) hC dX9_filled_76 (by decide) (by clear hfb; omega) (by clear hfb; omega) (fun c_76 => ?_) (fun c_76 => ?_)
        · refine wp_iinc (lv2 := [(0, _), (1, _), (2, _), (3, _), (4, _), (5, _), (6, _), (7, _), (8, _)]) hC dX9_filled_109 rfl rfl (by decide) ?_
          refine wp_goto (tgt := 37) hC dX9_filled_112 (by decide) ?_
          refine wp_lv hC [0, 1, 2, 3, 4, 5] rfl ?_
          exact ih _ (by clear hfb; omega) _ _ _ _ rfl g0 (by clear hfb; omega) (FB_no hfb h1.1 (fun z => absurd z.2 (Int.not_lt.mpr c_76))) hm9
        · refine wp_aload_n hC dX9_filled_79 rfl ?_
          refine wp_iload hC dX9_filled_80 rfl ?_
          refine wp_iload hC dX9_filled_82 rfl ?_
          refine wp_callVp (As := [_, _]) hC (c_X9_areShares hG (S1 σ τ) h (ior_nn (bsI h.1) (bsI h.1)) (bsI h.1)) gX9_filled_X9_areShares rfl ⟨rfl, rfl⟩ ⟨by decide, by decide⟩ hyVX9_areShares (rfl) (by decide) (rfl) rfl (Nat.le_of_ble_eq_true rfl) dX9_filled_84 (fun x_84 hx_84 hp_84 => ?_)
          have hp_84 : bP x_84 (SHP σ (tb (ior (TK σ k) (TH σ 1))) (tb (TK σ k))) := hp_84
          refine wp_if_eq (tgt := 109) hC dX9_filled_87 (by decide) (bP_iR hp_84) (fun c_87 => ?_) (fun c_87 => ?_)
          · refine wp_iinc (lv2 := [(0, _), (1, _), (2, _), (3, _), (4, _), (5, _), (6, _), (7, _), (8, _)]) hC dX9_filled_109 rfl rfl (by decide) ?_
            refine wp_goto (tgt := 37) hC dX9_filled_112 (by decide) ?_
            refine wp_lv hC [0, 1, 2, 3, 4, 5] rfl ?_
            exact ih _ (by clear hfb; omega) _ _ _ _ rfl g0 (by clear hfb; omega) (FB_no hfb h1.1 (fun z => bP_0 hp_84 c_87 z.1.1)) hm9
          · refine wp_aload_n hC dX9_filled_90 rfl ?_
            refine wp_iload hC dX9_filled_91 rfl ?_
            refine wp_callVi (As := [_]) hC (c_X9_isMet hG (S1 σ τ) h (ior_nn (bsI h.1) (bsI h.1))) gX9_filled_X9_isMet rfl ⟨rfl, rfl⟩ ⟨by decide, by decide⟩ hyVX9_isMet (rfl) (by decide) (rfl) rfl (Nat.le_of_ble_eq_true rfl) dX9_filled_93 (fun x_93 s_93 hx_93 hp_93 => ?_)
            obtain ⟨hb_93, hf_93⟩ := hp_93
            obtain ⟨τ1, rfl⟩ := FLP_S1 hf_93
            have hb_93 : bP x_93 (MET σ (tb (ior (TK σ k) (TH σ 1)))) := hb_93
            refine wp_if_ne (tgt := 102) hC dX9_filled_96 (by decide) (bP_iR hb_93) (fun c_96 => ?_) (fun c_96 => ?_)
            · refine wp_iload hC dX9_filled_102 rfl ?_
              refine wp_istore (lv2 := [(0, _), (1, _), (2, _), (3, _), (4, _), (5, _), (6, _), (7, _), (8, _)]) hC dX9_filled_104 rfl (by decide) ?_
              refine wp_iload hC dX9_filled_106 rfl ?_
              refine wp_istore_n (lv2 := [(0, _), (1, _), (2, _), (3, _), (4, _), (5, _), (6, _), (7, _), (8, _)]) hC dX9_filled_108 rfl (by decide) ?_
              refine wp_iinc (lv2 := [(0, _), (1, _), (2, _), (3, _), (4, _), (5, _), (6, _), (7, _), (8, _)]) hC dX9_filled_109 rfl rfl (by decide) ?_
              refine wp_goto (tgt := 37) hC dX9_filled_112 (by decide) ?_
              refine wp_lv hC [0, 1, 2, 3, 4, 5] rfl ?_
              refine wp_st (S1_S1 _ _ _) ?_
              exact ih _ (by clear hfb; omega) _ _ _ _ rfl g0 (by clear hfb; omega) (FB_yes hfb h1.1 ⟨bP_1 hp_84 c_87, bP_1 hb_93 c_96⟩ c_76) (by clear hfb; omega)
            · refine wp_goto (tgt := 109) hC dX9_filled_99 (by decide) ?_
              refine wp_iinc (lv2 := [(0, _), (1, _), (2, _), (3, _), (4, _), (5, _), (6, _), (7, _), (8, _)]) hC dX9_filled_109 rfl rfl (by decide) ?_
              refine wp_goto (tgt := 37) hC dX9_filled_112 (by decide) ?_
              refine wp_lv hC [0, 1, 2, 3, 4, 5] rfl ?_
              refine wp_st (S1_S1 _ _ _) ?_
              exact ih _ (by clear hfb; omega) _ _ _ _ rfl g0 (by clear hfb; omega) (FB_no hfb h1.1 (fun z => bP_0 hb_93 c_96 z.1.2)) hm9
  refine wp_iload_n hC dX9_filled_0 rfl ?_
  refine wp_iconst hC dX9_filled_1 ?_
  refine wp_iconst hC dX9_filled_2 ?_
  refine wp_callSb (As := [_, _, _]) hC (c_X9_isIn hG _ (by omega) (by omega) (by omega)) gX9_filled_X9_isIn rfl ⟨rfl, rfl⟩ ⟨by decide, by decide⟩ hySX9_isIn rfl (Nat.le_of_ble_eq_true rfl) dX9_filled_3 (fun hx_3 => ?_)
  refine wp_ifb_ne (tgt := 11) hC dX9_filled_6 (by decide) (fun c_6 => ?_) (fun c_6 => ?_)
  · refine wp_aload_n hC dX9_filled_11 rfl ?_
    refine wp_iconst hC dX9_filled_12 ?_
    refine wp_callVe (As := [_]) hC (c_X9_those hG _ (by omega) (kI h) h.1) gX9_filled_X9_those rfl ⟨rfl, rfl⟩ ⟨by decide, by decide⟩ hyVX9_those (rfl) (by decide) (rfl) rfl (Nat.le_of_ble_eq_true rfl) dX9_filled_13 (fun hx_13 => ?_)
    refine wp_top (b := TH σ 0) rfl ?_
    refine wp_callSe (As := [_]) hC (c_X9_size hG _ (bsI h.1)) gX9_filled_X9_size rfl ⟨rfl, rfl⟩ ⟨by decide, by decide⟩ hySX9_size rfl (Nat.le_of_ble_eq_true rfl) dX9_filled_16 (fun hx_16 => ?_)
    refine wp_top (b := pc (TH σ 0)) rfl ?_
    refine wp_istore_n (lv2 := [(0, _), (1, _), (2, _)]) hC dX9_filled_19 rfl (by decide) ?_
    refine wp_iload_n hC dX9_filled_20 rfl ?_
    refine wp_bipush hC dX9_filled_21 rfl ?_
    refine wp_icmp_le (tgt := 29) hC dX9_filled_23 (by decide) (by omega) (by omega) (fun c_23 => ?_) (fun c_23 => ?_)
    · refine wp_iconst hC dX9_filled_29 ?_
      refine wp_istore_n (lv2 := [(0, _), (1, _), (2, _), (3, _)]) hC dX9_filled_30 rfl (by decide) ?_
      refine wp_iconst hC dX9_filled_31 ?_
      refine wp_istore (lv2 := [(0, _), (1, _), (2, _), (3, _), (4, _)]) hC dX9_filled_32 rfl (by decide) ?_
      refine wp_iconst hC dX9_filled_34 ?_
      refine wp_istore (lv2 := [(0, _), (1, _), (2, _), (3, _), (4, _), (5, _)]) hC dX9_filled_35 rfl (by decide) ?_
      refine wp_st (S1_self σ).symm ?_
      exact L37 _ _ _ _ _ rfl (by omega) ⟨Int.le_refl _, by have := pw_pos (pc (TH σ 0)); omega⟩ ⟨Or.inl ⟨rfl, rfl⟩, fun k x y => by omega, fun k x y => by omega⟩ (by omega)
    · refine wp_bipush hC dX9_filled_26 rfl ?_
      exact hret _ _ _ _ (by omega) rfl (Or.inr (Or.inl ⟨c_6, c_23, rfl, rfl⟩)) dX9_filled_28
  · refine wp_iconst hC dX9_filled_9 ?_
    exact hret _ _ _ _ (by omega) rfl (Or.inl ⟨c_6, rfl, rfl⟩) dX9_filled_10
