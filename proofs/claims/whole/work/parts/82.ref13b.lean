theorem hyVX9_readsAll' : yX9_readsAll.cls = RX9 ∧ yX9_readsAll.cls ≠ "java/lang/invoke/MethodHandle" ∧ yX9_readsAll.cls ≠ "java/lang/invoke/VarHandle" ∧ (parseMethodDescriptor yX9_readsAll.desc).map (fun d => d.parameters.length) = some 0 := by decide +kernel
theorem uX9_readsAll_X9' : ∀ w ∈ u_ws RX9 TX9 35, w ∈ wsX9_readsAll := by decide +kernel
theorem fX9_readsAll_80' : Cond.fieldLink RX9 80 (TX9 5).1 (TX9 5).2.1 (TX9 5).2.2.1 ∈ wsX9_readsAll := by decide +kernel
theorem fX9_readsAll_170' : Cond.fieldLink RX9 170 (TX9 19).1 (TX9 19).2.1 (TX9 19).2.2.1 ∈ wsX9_readsAll := by decide +kernel
theorem fX9_readsAll_167' : Cond.fieldLink RX9 167 (TX9 18).1 (TX9 18).2.1 (TX9 18).2.2.1 ∈ wsX9_readsAll := by decide +kernel
set_option maxHeartbeats 4000000 in
set_option maxRecDepth 100000 in
theorem c_X9_readsAll' {l : Launch} {G : Gy} (hG : Inj G) (σ : St) (hn : 0 ≤ σ 0 5 ∧ σ 0 5 ≤ 24) (hz : 0 ≤ σ 0 18 ∧ σ 0 18 ≤ 100) (ht : ∀ j, 0 ≤ j → j < σ 0 18 → 0 ≤ σ 12 j ∧ σ 12 j ≤ 126) : MI l yX9_readsAll wsX9_readsAll ({ frames := 4, cells := 0, slots := 0, locals := 89 } : Room) G [.ref (G.2.2 0)] σ (fun x σ2 => ∃ J τ, (∀ i, i < J → cont σ i) ∧ ((OKT σ J ∧ x = 1 ∧ σ2 = SC (AL σ (J + 1)) τ) ∨ (∃ F J9, FLT σ J F ∧ x = 0 ∧ σ2 = SC (AL σ J9) τ ∧ σ 0 5 + J9 ≤ 24 ∧ τ 0 20 = F ∧ 0 ≤ F ∧ F ≤ 100 ∧ (J9 = J ∨ (J9 = J + 1 ∧ 0 ≤ lnA σ J))))) := by
  refine MI.of hG (by decide +kernel) rfl rfl (Nat.le_of_ble_eq_true rfl) rfl ?_
  intro p e s m args below meth c H0 Q hC hret
  have L5 : ∀ (n : Nat) (j : Nat) (τ : St), (24 - j) = n → (σ 0 5 + j ≤ 24) → (∀ i, i < j → cont σ i) → (τ 0 19 = pos (σ 12) (σ 0 18) j ∧ 0 ≤ pos (σ 12) (σ 0 18) j ∧ pos (σ 12) (σ 0 18) j ≤ σ 0 18) → wp p l e ({ frames := 4, cells := 0, slots := 0, locals := 89 } : Room) s m args below meth c (aA G (Array.size H0)) H0 1 Q G (SC (AL σ j) τ) 5 [(0, .ref (G.2.2 0))] [] := by
    intro n5
    induction n5 using Nat.strongRecOn with
    | ind n5 ih =>
      intro j τ hm5 h1 hc hp
      refine wp_aload_n hC dX9_readsAll_5 rfl ?_
      refine wp_geti (k := 5) (z := 5) hC rfl (rfl) (by decide) (rfl) (rfl) (by decide) uX9_readsAll_X9' fX9_readsAll_80' (rfl) dX9_readsAll_6 ?_
      refine wp_top (b := σ 0 5 + j) rfl ?_
      refine wp_bipush hC dX9_readsAll_9 rfl ?_
      refine wp_icmp_ne (tgt := 31) hC dX9_readsAll_11 (by decide) (by omega) (by omega) (fun c_11 => ?_) (fun c_11 => ?_)
      · refine wp_aload_n hC dX9_readsAll_31 rfl ?_
        refine wp_callVi (As := []) hC (c_X9_readsLine hG (SC (AL σ j) τ) hz ht (by show 0 ≤ τ 0 19 ∧ τ 0 19 ≤ σ 0 18; omega)) gX9_readsAll_X9_readsLine rfl ⟨rfl, rfl⟩ ⟨by decide, by decide⟩ hyVX9_readsLine (rfl) (by decide) (rfl) rfl (Nat.le_of_ble_eq_true rfl) dX9_readsAll_32 (fun x_32 s_32 hx_32 hp_32 => ?_)
        obtain ⟨am, it, la, gr, rk, e9, hln, hsc, hpl, hres⟩ := hp_32
        have hln : LNF (σ 12) (σ 0 18) (τ 0 19) am it la gr rk e9 := hln
        rw [hp.1] at hln
        obtain ⟨kA, kE, kR⟩ := lnT_of hln
        have kA : lnA σ j = am := kA
        have kE : lnE σ j = e9 := kE
        have hpl : 0 ≤ s_32 0 19 ∧ s_32 0 19 ≤ σ 0 18 := hpl
        have hst : s_32 = SC (AL σ j) s_32 := by rw [SC_SC] at hsc; exact hsc
        generalize s_32 = τ1 at *
        have hres2 : iR x_32 := hx_32
        refine wp_if_ne (tgt := 40) hC dX9_readsAll_35 (by decide) (by omega) (fun c_35 => ?_) (fun c_35 => ?_)
        · have kk : 0 ≤ am ∧ τ1 0 19 = e9 ∧ τ1 13 0 = am ∧ τ1 13 1 = it ∧ τ1 13 2 = la ∧ τ1 13 3 = gr ∧ τ1 13 4 = rk := by
            rcases hres with q | q
            · exact ⟨q.1, q.2.2⟩
            · omega
          have kok := kk.1
          have he : τ1 0 19 = lnE σ j := by rw [kE]; exact kk.2.1
          refine wp_st hst ?_
          refine wp_aload_n hC dX9_readsAll_40 rfl ?_
          refine wp_callVu (As := []) hC (c_X9_comes hG (SC (AL σ j) τ1) (show 0 ≤ σ 0 5 + (j : Int) ∧ σ 0 5 + (j : Int) < 24 by omega)) gX9_readsAll_X9_comes rfl ⟨rfl, rfl⟩ ⟨by decide, by decide⟩ hyVX9_comes (rfl) (by decide) (rfl) rfl (Nat.le_of_ble_eq_true rfl) dX9_readsAll_41 ?_
          refine wp_st (σ2 := SC (AL σ (j + 1)) τ1) (AL_s ⟨hn.1, by omega⟩ ?_) ?_
          · have ee : lnX σ j = lnT (σ 12) (σ 0 18) (pos (σ 12) (σ 0 18) j) := by unfold lnX; rw [Int.toNat_natCast]
            rw [ee]
            obtain ⟨r1, r2, r3, r4⟩ := kR kok
            exact ⟨by rw [show (lnT (σ 12) (σ 0 18) (pos (σ 12) (σ 0 18) j)).1 = am from kA]; exact kk.2.2.1, by rw [r1]; exact kk.2.2.2.1, by rw [r2]; exact kk.2.2.2.2.1, by rw [r3]; exact kk.2.2.2.2.2.1, by rw [r4]; exact kk.2.2.2.2.2.2⟩
          refine wp_aload_n hC dX9_readsAll_44 rfl ?_
          refine wp_geti (k := 19) (z := 19) hC rfl (rfl) (by decide) (rfl) (rfl) (by decide) uX9_readsAll_X9' fX9_readsAll_170' (rfl) dX9_readsAll_45 ?_
          refine wp_top (b := τ1 0 19) rfl ?_
          refine wp_aload_n hC dX9_readsAll_48 rfl ?_
          refine wp_geti (k := 18) (z := 18) hC rfl (rfl) (by decide) (rfl) (rfl) (by decide) uX9_readsAll_X9' fX9_readsAll_167' (rfl) dX9_readsAll_49 ?_
          refine wp_top (b := σ 0 18) rfl ?_
          refine wp_icmp_ne (tgt := 57) hC dX9_readsAll_52 (by decide) (by omega) (by omega) (fun c_52 => ?_) (fun c_52 => ?_)
          · refine wp_aload_n hC dX9_readsAll_57 rfl ?_
            refine wp_bipush hC dX9_readsAll_58 rfl ?_
            refine wp_callVi (As := [_]) hC (c_X9_goesOn hG (SC (AL σ (j + 1)) τ1) hz ht hpl (by decide)) gX9_readsAll_X9_goesOn rfl ⟨rfl, rfl⟩ ⟨by decide, by decide⟩ hyVX9_goesOn (rfl) (by decide) (rfl) rfl (Nat.le_of_ble_eq_true rfl) dX9_readsAll_60 (fun x_60 s_60 hx_60 hp_60 => ?_)
            have hp60 : (ch (σ 12) (σ 0 18) (τ1 0 19) = 59 ∧ x_60 = 1 ∧ s_60 = put (SC (AL σ (j + 1)) τ1) 0 19 (SC (AL σ (j + 1)) τ1 0 19 + 1) ∧ τ1 0 19 < σ 0 18) ∨ (ch (σ 12) (σ 0 18) (τ1 0 19) ≠ 59 ∧ x_60 = 0 ∧ s_60 = SC (AL σ (j + 1)) τ1) := hp_60
            refine wp_if_ne (tgt := 5) hC dX9_readsAll_63 (by decide) (by omega) (fun c_63 => ?_) (fun c_63 => ?_)
            · have k60 : ch (σ 12) (σ 0 18) (τ1 0 19) = 59 ∧ s_60 = put (SC (AL σ (j + 1)) τ1) 0 19 (SC (AL σ (j + 1)) τ1 0 19 + 1) ∧ τ1 0 19 < σ 0 18 := by
                rcases hp60 with q | q
                · exact ⟨q.1, q.2.2⟩
                · omega
              obtain ⟨k60a, rfl, k60b⟩ := k60
              refine wp_st (σ2 := SC (AL σ (j + 1)) (put τ1 0 19 (τ1 0 19 + 1))) (by rw [SC_put rfl]; rfl) ?_
              exact ih _ (by omega) (j + 1) _ rfl (by omega) (fun i a => by
                rcases Nat.lt_or_ge i j with y | y
                · exact hc i y
                · rw [show i = j by omega]; exact ⟨by rw [kA]; exact kok, fun y => c_52 (by rw [he]; exact y), by rw [← he]; exact k60a, by omega⟩) (by
                have e1 : pos (σ 12) (σ 0 18) (j + 1) = lnE σ j + 1 := rfl
                rw [e1, ← he]
                exact ⟨rfl, by omega, by omega⟩)
            · have k60 : ch (σ 12) (σ 0 18) (τ1 0 19) ≠ 59 ∧ s_60 = SC (AL σ (j + 1)) τ1 := by
                rcases hp60 with q | q
                · omega
                · exact ⟨q.1, q.2.2⟩
              obtain ⟨k60, rfl⟩ := k60
              refine wp_aload_n hC dX9_readsAll_66 rfl ?_
              refine wp_aload_n hC dX9_readsAll_67 rfl ?_
              refine wp_geti (k := 19) (z := 19) hC rfl (rfl) (by decide) (rfl) (rfl) (by decide) uX9_readsAll_X9' fX9_readsAll_170' (rfl) dX9_readsAll_68 ?_
              refine wp_top (b := τ1 0 19) rfl ?_
              refine wp_callVe (As := [_]) hC (c_X9_faults hG _) gX9_readsAll_X9_faults rfl ⟨rfl, rfl⟩ ⟨by decide, by decide⟩ hyVX9_faults (rfl) (by decide) (rfl) rfl (Nat.le_of_ble_eq_true rfl) dX9_readsAll_71 (fun hx_71 => ?_)
              refine wp_if_le (tgt := 81) hC dX9_readsAll_74 (by decide) (by omega) (fun c_74 => ?_) (fun c_74 => ?_)
              · refine wp_iconst hC dX9_readsAll_81 ?_
                exact hret _ _ _ _ (by omega) rfl (⟨j, put τ1 0 20 (τ1 0 19), hc, Or.inr ⟨τ1 0 19, j + 1, Or.inr (Or.inr ⟨by omega, by rw [kA]; exact kok, by rw [← he]; exact c_52, by rw [← he]; exact k60, he⟩), rfl, SC_put rfl, by omega, put_s, hpl.1, by omega, Or.inr ⟨rfl, by rw [kA]; exact kok⟩⟩⟩) dX9_readsAll_82
              · refine wp_iconst hC dX9_readsAll_77 ?_
                refine wp_goto (tgt := 82) hC dX9_readsAll_78 (by decide) ?_
                exact hret _ _ _ _ (by omega) rfl (absurd c_74 (by decide)) dX9_readsAll_82
          · refine wp_iconst hC dX9_readsAll_55 ?_
            exact hret _ _ _ _ (by omega) rfl (⟨j, τ1, hc, Or.inl ⟨⟨by omega, by rw [kA]; exact kok, by rw [← he]; exact c_52⟩, rfl, rfl⟩⟩) dX9_readsAll_56
        · have HE := LNF_e hp.2 hln
          refine wp_iconst hC dX9_readsAll_38 ?_
          exact hret _ _ _ _ (by omega) rfl (by
            rcases hres with q | q
            · omega
            · exact ⟨j, τ1, hc, Or.inr ⟨e9, j, Or.inr (Or.inl ⟨by omega, by omega, kE.symm⟩), rfl, hst, h1, q.2.2, HE.1, by omega, Or.inl rfl⟩⟩) dX9_readsAll_39
      · refine wp_aload_n hC dX9_readsAll_14 rfl ?_
        refine wp_aload_n hC dX9_readsAll_15 rfl ?_
        refine wp_geti (k := 19) (z := 19) hC rfl (rfl) (by decide) (rfl) (rfl) (by decide) uX9_readsAll_X9' fX9_readsAll_170' (rfl) dX9_readsAll_16 ?_
        refine wp_top (b := pos (σ 12) (σ 0 18) j) hp.1 ?_
        refine wp_callVe (As := [_]) hC (c_X9_faults hG (SC (AL σ j) τ)) gX9_readsAll_X9_faults rfl ⟨rfl, rfl⟩ ⟨by decide, by decide⟩ hyVX9_faults (rfl) (by decide) (rfl) rfl (Nat.le_of_ble_eq_true rfl) dX9_readsAll_19 (fun hx_19 => ?_)
        refine wp_if_le (tgt := 29) hC dX9_readsAll_22 (by decide) (by omega) (fun c_22 => ?_) (fun c_22 => ?_)
        · refine wp_iconst hC dX9_readsAll_29 ?_
          exact hret _ _ _ _ (by omega) rfl (⟨j, put τ 0 20 (pos (σ 12) (σ 0 18) j), hc, Or.inr ⟨pos (σ 12) (σ 0 18) j, j, Or.inl ⟨c_11, rfl⟩, rfl, SC_put rfl, h1, put_s, by omega, by omega, Or.inl rfl⟩⟩) dX9_readsAll_30
        · refine wp_iconst hC dX9_readsAll_25 ?_
          refine wp_goto (tgt := 30) hC dX9_readsAll_26 (by decide) ?_
          exact hret _ _ _ _ (by omega) rfl (absurd c_22 (by decide)) dX9_readsAll_30
  refine wp_aload_n hC dX9_readsAll_0 rfl ?_
  refine wp_iconst hC dX9_readsAll_1 ?_
  refine wp_puti2 (k := 19) (z := 19) hC rfl (rfl) (by decide) (rfl) (rfl) (by decide) uX9_readsAll_X9' fX9_readsAll_170' tyX9 tyX9_ok nmX9 rfl rfl (rfl) dX9_readsAll_2 ?_
  refine wp_st (σ2 := SC (AL σ 0) (put σ 0 19 0)) (by rw [AL_0]; exact SC_put0 rfl) ?_
  exact L5 _ 0 _ rfl (by omega) (fun i a => absurd a (Nat.not_lt_zero i)) ⟨rfl, Int.le_refl _, hz.1⟩

theorem hyVX9_orders' : yX9_orders.cls = RX9 ∧ yX9_orders.cls ≠ "java/lang/invoke/MethodHandle" ∧ yX9_orders.cls ≠ "java/lang/invoke/VarHandle" ∧ (parseMethodDescriptor yX9_orders.desc).map (fun d => d.parameters.length) = some 0 := by decide +kernel
theorem uX9_orders_X9' : ∀ w ∈ u_ws RX9 TX9 35, w ∈ wsX9_orders := by decide +kernel
theorem fX9_orders_80' : Cond.fieldLink RX9 80 (TX9 5).1 (TX9 5).2.1 (TX9 5).2.2.1 ∈ wsX9_orders := by decide +kernel
theorem fX9_orders_167' : Cond.fieldLink RX9 167 (TX9 18).1 (TX9 18).2.1 (TX9 18).2.2.1 ∈ wsX9_orders := by decide +kernel
theorem fX9_orders_179' : Cond.fieldLink RX9 179 (TX9 20).1 (TX9 20).2.1 (TX9 20).2.2.1 ∈ wsX9_orders := by decide +kernel
set_option maxHeartbeats 4000000 in
set_option maxRecDepth 100000 in
theorem c_X9_orders' {l : Launch} {G : Gy} (hG : Inj G) (σ : St) (hn : 0 ≤ σ 0 5 ∧ σ 0 5 ≤ 24) (hz : 0 ≤ σ 0 18 ∧ σ 0 18 ≤ 100) (ht : ∀ j, 0 ≤ j → j < σ 0 18 → 0 ≤ σ 12 j ∧ σ 12 j ≤ 126) : MI l yX9_orders wsX9_orders ({ frames := 5, cells := 0, slots := 0, locals := 109 } : Room) G [.ref (G.2.2 0)] σ (fun x σ2 => ∃ J τ, (∀ i, i < J → cont σ i) ∧ ((OKT σ J ∧ x = σ 0 5 + J + 1 ∧ σ2 = SC (put (AL σ (J + 1)) 0 18 0) τ) ∨ (∃ (F : Int) (J9 : Nat), FLT σ J F ∧ σ 0 5 + J9 ≤ 24 ∧ (J9 = J ∨ (J9 = J + 1 ∧ 0 ≤ lnA σ J)) ∧ x = -100 - F ∧ σ2 = SC (put (put (AL σ J9) 0 18 0) 0 5 (σ 0 5)) τ))) := by
  refine MI.of hG (by decide +kernel) rfl rfl (Nat.le_of_ble_eq_true rfl) rfl ?_
  intro p e s m args below meth c H0 Q hC hret
  refine wp_aload_n hC dX9_orders_0 rfl ?_
  refine wp_geti (k := 5) (z := 5) hC rfl (rfl) (by decide) (rfl) (rfl) (by decide) uX9_orders_X9' fX9_orders_80' (rfl) dX9_orders_1 ?_
  refine wp_istore_n (lv2 := [(0, _), (1, _)]) hC dX9_orders_4 rfl (by decide) ?_
  refine wp_aload_n hC dX9_orders_5 rfl ?_
  refine wp_callVi (As := []) hC (c_X9_readsAll' hG σ hn hz ht) gX9_orders_X9_readsAll rfl ⟨rfl, rfl⟩ ⟨by decide, by decide⟩ hyVX9_readsAll' (rfl) (by decide) (rfl) rfl (Nat.le_of_ble_eq_true rfl) dX9_orders_6 (fun x_6 s_6 hx_6 hp_6 => ?_)
  obtain ⟨J, τ1, hc, hres⟩ := hp_6
  refine wp_istore_n (lv2 := [(0, _), (1, _), (2, _)]) hC dX9_orders_9 rfl (by decide) ?_
  refine wp_aload_n hC dX9_orders_10 rfl ?_
  refine wp_iconst hC dX9_orders_11 ?_
  refine wp_puti2 (k := 18) (z := 18) hC rfl (rfl) (by decide) (rfl) (rfl) (by decide) uX9_orders_X9' fX9_orders_167' tyX9 tyX9_ok nmX9 rfl rfl (rfl) dX9_orders_12 ?_
  refine wp_iload_n hC dX9_orders_15 rfl ?_
  refine wp_if_eq (tgt := 24) hC dX9_orders_16 (by decide) (by clear hres; omega) (fun c_16 => ?_) (fun c_16 => ?_)
  · have kk : ∃ F J9, FLT σ J F ∧ s_6 = SC (AL σ J9) τ1 ∧ σ 0 5 + J9 ≤ 24 ∧ τ1 0 20 = F ∧ 0 ≤ F ∧ F ≤ 100 ∧ (J9 = J ∨ (J9 = J + 1 ∧ 0 ≤ lnA σ J)) := by
      rcases hres with ⟨_, q, _⟩ | ⟨F, J9, q1, _, q3⟩
      · rw [q] at c_16; exact absurd c_16 (by decide)
      · exact ⟨F, J9, q1, q3⟩
    obtain ⟨F, J9, k1, rfl, k2, k3, k4⟩ := kk
    refine wp_aload_n hC dX9_orders_24 rfl ?_
    refine wp_iload_n hC dX9_orders_25 rfl ?_
    refine wp_puti2 (k := 5) (z := 5) hC rfl (rfl) (by decide) (rfl) (rfl) (by decide) uX9_orders_X9' fX9_orders_80' tyX9 tyX9_ok nmX9 rfl rfl (rfl) dX9_orders_26 ?_
    refine wp_bipush hC dX9_orders_29 rfl ?_
    refine wp_aload_n hC dX9_orders_31 rfl ?_
    refine wp_geti (k := 20) (z := 20) hC rfl (rfl) (by decide) (rfl) (rfl) (by decide) uX9_orders_X9' fX9_orders_179' (rfl) dX9_orders_32 ?_
    refine wp_top (b := F) k3 ?_
    refine wp_isub hC dX9_orders_35 ?_
    exact hret _ _ _ _ (by omega) rfl (⟨J, τ1, hc, Or.inr ⟨F, J9, k1, k2, k4.2.2, rfl, by rw [SC_putc rfl, SC_putc rfl]⟩⟩) dX9_orders_36
  · have kk : OKT σ J ∧ s_6 = SC (AL σ (J + 1)) τ1 := by
      rcases hres with q | ⟨F, J9, q1, q2, _⟩
      · exact ⟨q.1, q.2.2⟩
      · exact absurd q2 c_16
    obtain ⟨k1, rfl⟩ := kk
    have k1a := k1.1
    refine wp_aload_n hC dX9_orders_19 rfl ?_
    refine wp_geti (k := 5) (z := 5) hC rfl (rfl) (by decide) (rfl) (rfl) (by decide) uX9_orders_X9' fX9_orders_80' (rfl) dX9_orders_20 ?_
    refine wp_top (b := σ 0 5 + J + 1) (show σ 0 5 + ((J + 1 : Nat) : Int) = σ 0 5 + J + 1 by omega) ?_
    exact hret _ _ _ _ (by omega) rfl (⟨J, τ1, hc, Or.inl ⟨k1, rfl, SC_putc rfl⟩⟩) dX9_orders_23
