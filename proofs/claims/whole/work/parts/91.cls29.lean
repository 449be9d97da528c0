theorem getD_in {L : List Int} {P : Int → Prop} (h : ∀ c ∈ L, P c) {k : Nat} (hk : k < L.length) : P (L.getD k 0) := by
  rw [List.getD_eq_getElem?_getD, List.getElem?_eq_getElem hk]
  exact h _ (List.getElem_mem hk)
theorem nmL_rng {v : Int} (hv : 0 ≤ v ∧ v ≤ 99) : ∀ c ∈ nmL v, 0 ≤ c ∧ c < 65536 := by
  intro c hc
  unfold nmL at hc
  split at hc
  · rcases List.mem_cons.mp hc with e | hc
    · omega
    · rcases List.mem_cons.mp hc with e | hc
      · omega
      · cases hc
  · rcases List.mem_cons.mp hc with e | hc
    · omega
    · cases hc
theorem itP_rng {it : Int} : ∀ j : Nat, j ≤ 3 → ∀ c ∈ itP it j, 0 ≤ c ∧ c < 65536
  | 0, _, c, hc => by cases hc
  | j + 1, hj, c, hc => by
    rcases List.mem_append.mp hc with q | q
    · exact itP_rng j (by omega) c q
    · split at q
      · cases q
      · rcases List.mem_cons.mp q with e | q
        · omega
        · cases q
theorem itP_len {it : Int} : ∀ j : Nat, (itP it j).length ≤ j
  | 0 => Nat.le_refl 0
  | j + 1 => by
    show List.length (itP it j ++ _) ≤ j + 1
    rw [List.length_append]
    have := itP_len (it := it) j
    split
    · show _ + 0 ≤ _; omega
    · show _ + 1 ≤ _; omega
theorem wdL_rng : ∀ w, w < 4 → (wdL w).length ≤ 8 ∧ ∀ c ∈ wdL w, 0 ≤ c ∧ c < 65536 := by decide +kernel
theorem sg_rng {x : Int} (hx : 0 ≤ x ∧ x < 65536) : ∀ c ∈ [x], 0 ≤ c ∧ c < 65536 := by
  intro c hc
  rcases List.mem_cons.mp hc with e | hc
  · rw [e]; exact hx
  · cases hc
theorem ap_rng {L M : List Int} (h : ∀ c ∈ L, 0 ≤ c ∧ c < 65536) (h2 : ∀ c ∈ M, 0 ≤ c ∧ c < 65536) : ∀ c ∈ L ++ M, 0 ≤ c ∧ c < 65536 := fun c hc => (List.mem_append.mp hc).elim (h c) (h2 c)
theorem LED_rng {o am it la gr rk : Int} {w : Nat} (h1 : 0 ≤ o ∧ o ≤ 99) (h2 : 0 ≤ am ∧ am ≤ 99) (h3 : 0 ≤ la ∧ la ≤ 99) (h4 : 0 ≤ gr ∧ gr ≤ 99) (h5 : 0 ≤ rk ∧ rk ≤ 99) (hw : w < 4) : (LED o am it la gr rk w).length ≤ 28 ∧ ∀ c ∈ LED o am it la gr rk w, 0 ≤ c ∧ c < 65536 := by
  refine ⟨?_, ap_rng (ap_rng (ap_rng (ap_rng (ap_rng (ap_rng (ap_rng (ap_rng (ap_rng (ap_rng (ap_rng (nmL_rng h1) (sg_rng (by decide))) (nmL_rng h2)) (itP_rng 3 (by decide))) (sg_rng (by decide))) (nmL_rng h3)) (sg_rng (by decide))) (nmL_rng h4)) (sg_rng (by decide))) (nmL_rng h5)) (sg_rng (by decide))) (wdL_rng w hw).2⟩
  have n1 := nmL_len (v := o)
  have n2 := nmL_len (v := am)
  have n3 := nmL_len (v := la)
  have n4 := nmL_len (v := gr)
  have n5 := nmL_len (v := rk)
  have n6 := itP_len (it := it) 3
  have n7 := (wdL_rng w hw).1
  unfold LED
  simp only [List.length_append, List.length_cons, List.length_nil]
  omega
theorem wdI_lt {k lt : Int} : wdI k lt < 4 := by
  unfold wdI
  split
  · decide
  · split
    · decide
    · split <;> decide

theorem hyVX3_signAt' : yX3_signAt.cls = RX3 ∧ yX3_signAt.cls ≠ "java/lang/invoke/MethodHandle" ∧ yX3_signAt.cls ≠ "java/lang/invoke/VarHandle" ∧ (parseMethodDescriptor yX3_signAt.desc).map (fun d => d.parameters.length) = some 1 := by decide +kernel
theorem uX3_signAt_X3' : ∀ w ∈ u_ws RX3 TX3 2, w ∈ wsX3_signAt := by decide +kernel
theorem fX3_signAt_15' : Cond.fieldLink RX3 15 (TX3 1).1 (TX3 1).2.1 (TX3 1).2.2.1 ∈ wsX3_signAt := by decide +kernel
theorem fX3_signAt_9' : Cond.fieldLink RX3 9 (TX3 0).1 (TX3 0).2.1 (TX3 0).2.2.1 ∈ wsX3_signAt := by decide +kernel
set_option maxHeartbeats 4000000 in
set_option maxRecDepth 100000 in
theorem c_X3_signAt' {l : Launch} {G : Gy} (hG : Inj G) (σ : St) {i : Int} (hi : iR i) (hz : 0 ≤ σ 103 1 ∧ σ 103 1 ≤ 32) (hs : ∀ k, 0 ≤ k → k < σ 103 1 → 0 ≤ σ 104 k ∧ σ 104 k < 65536) : ME l yX3_signAt wsX3_signAt ({ frames := 0, cells := 0, slots := 0, locals := 0 } : Room) G [.ref (G.2.2 103), .int (zI (i))] σ (if 0 ≤ i ∧ i < σ 103 1 then σ 104 i else 0) σ := by
  refine MI.of hG (by decide +kernel) rfl rfl (Nat.le_of_ble_eq_true rfl) rfl ?_
  intro p e s m args below meth c H0 Q hC hret
  refine wp_iload_n hC dX3_signAt_0 rfl ?_
  refine wp_if_lt (tgt := 27) hC dX3_signAt_1 (by decide) (by omega) (fun c_1 => ?_) (fun c_1 => ?_)
  · refine wp_iconst hC dX3_signAt_27 ?_
    exact hret _ _ _ _ (by omega) rfl (⟨(if_neg (by omega)).symm, rfl⟩) dX3_signAt_28
  · refine wp_iload_n hC dX3_signAt_4 rfl ?_
    refine wp_aload_n hC dX3_signAt_5 rfl ?_
    refine wp_geti (k := 1) (z := 1) hC rfl (rfl) (by decide) (rfl) (rfl) (by decide) uX3_signAt_X3' fX3_signAt_15' (rfl) dX3_signAt_6 ?_
    refine wp_icmp_ge (tgt := 27) hC dX3_signAt_9 (by decide) (by omega) (by omega) (fun c_9 => ?_) (fun c_9 => ?_)
    · refine wp_iconst hC dX3_signAt_27 ?_
      exact hret _ _ _ _ (by omega) rfl (⟨(if_neg (by omega)).symm, rfl⟩) dX3_signAt_28
    · refine wp_iload_n hC dX3_signAt_12 rfl ?_
      refine wp_bipush hC dX3_signAt_13 rfl ?_
      refine wp_icmp_ge (tgt := 27) hC dX3_signAt_15 (by decide) (by omega) (by omega) (fun c_15 => ?_) (fun c_15 => ?_)
      · refine wp_iconst hC dX3_signAt_27 ?_
        exact hret _ _ _ _ (by omega) rfl (⟨(if_neg (by omega)).symm, rfl⟩) dX3_signAt_28
      · refine wp_aload_n hC dX3_signAt_18 rfl ?_
        refine wp_geta (k := 0) hC (rfl) (by decide) (rfl) (rfl) (by decide) uX3_signAt_X3' fX3_signAt_9' (rfl) dX3_signAt_19 ?_
        refine wp_iload_n hC dX3_signAt_22 rfl ?_
        refine wp_cald (n := 32) hC (rfl) (Nat.le_of_ble_eq_true rfl) (rfl) (by decide) (by omega) dX3_signAt_23 ?_
        refine wp_goto (tgt := 28) hC dX3_signAt_24 (by decide) ?_
        have hsi := hs i (by omega) (by omega)
        exact hret _ _ _ _ (by omega) rfl (⟨(if_pos (by omega)).symm, rfl⟩) dX3_signAt_28

theorem hyVX8_ledger : yX8_ledger.cls = RX8 ∧ yX8_ledger.cls ≠ "java/lang/invoke/MethodHandle" ∧ yX8_ledger.cls ≠ "java/lang/invoke/VarHandle" ∧ (parseMethodDescriptor yX8_ledger.desc).map (fun d => d.parameters.length) = some 2 := by decide +kernel
theorem uX8_ledger_X8 : ∀ w ∈ u_ws RX8 TX8 13, w ∈ wsX8_ledger := by decide +kernel
theorem fX8_ledger_64 : Cond.fieldLink RX8 64 (TX8 8).1 (TX8 8).2.1 (TX8 8).2.2.1 ∈ wsX8_ledger := by decide +kernel
theorem uX8_ledger_X3 : ∀ w ∈ u_ws RX3 TX3 2, w ∈ wsX8_ledger := by decide +kernel
theorem fnX8_252 : Cond.fieldLinkNest RX8 252 (TX3 1).1 (TX3 1).2.1 (TX3 1).2.2.1 "PromiseMind" ∈ tables_1 := List.mem_of_getElem? (i := 217) (by decide +kernel)
set_option maxHeartbeats 16000000 in
set_option maxRecDepth 100000 in
theorem c_X8_ledger {l : Launch} {G : Gy} {Z : Ky} (hG : Inj G) (σ : St) {o at1 : Int} (h : XO σ) (hk : KOK σ) (hio : iR o) (hia : iR at1) : MIk l yX8_ledger wsX8_ledger ({ frames := 6, cells := 0, slots := 0, locals := 130 } : Room) G Z [.ref (G.2.2 82), .int (zI (o)), .int (zI (at1))] σ (fun x σ2 => (¬ ((0 ≤ o ∧ o < σ 83 5) ∧ -1 ≤ at1) ∧ x = -1 ∧ σ2 = σ) ∨ (((0 ≤ o ∧ o < σ 83 5) ∧ -1 ≤ at1) ∧ ∃ (lt : Int) (L : List Int), bP lt (LATX σ o) ∧ L = LED o (σ 84 o) (σ 85 o) (σ 112 o) (σ 87 o) (σ 88 o) (wdI (σ 111 o) lt) ∧ (EQK σ2 σ ∧ KOK σ2) ∧ x = if at1 = -1 then (L.length : Int) else if at1 < L.length then L.getD at1.toNat 0 else -2)) := by
  refine MIk.of hG (by decide +kernel) rfl rfl (Nat.le_of_ble_eq_true rfl) rfl ?_
  intro p e s m args below meth c Q hC hK hret
  have hmn := h.1
  refine wp_aload_n hC dX8_ledger_0 rfl ?_
  refine wp_iload_n hC dX8_ledger_1 rfl ?_
  refine wp_callVb (As := [_]) hC (c_X8_isOrder hG σ hio hmn) gX8_ledger_X8_isOrder rfl ⟨rfl, rfl⟩ ⟨by decide, by decide⟩ hyVX8_isOrder (rfl) (by decide) (rfl) rfl (Nat.le_of_ble_eq_true rfl) dX8_ledger_2 (fun hx_2 => ?_)
  refine wp_ifb_eq (tgt := 13) hC dX8_ledger_5 (by decide) (fun c_5 => ?_) (fun c_5 => ?_)
  · refine wp_iconst hC dX8_ledger_13 ?_
    exact hret _ _ _ _ (by omega) rfl (Or.inl ⟨by omega, rfl, rfl⟩) dX8_ledger_14
  · refine wp_iload_n hC dX8_ledger_8 rfl ?_
    refine wp_iconst hC dX8_ledger_9 ?_
    refine wp_icmp_ge (tgt := 15) hC dX8_ledger_10 (by decide) (by omega) (by omega) (fun c_10 => ?_) (fun c_10 => ?_)
    · refine wp_aload_n hC dX8_ledger_15 rfl ?_
      refine wp_iload_n hC dX8_ledger_16 rfl ?_
      refine wp_aload_n hC dX8_ledger_17 rfl ?_
      refine wp_iload_n hC dX8_ledger_18 rfl ?_
      refine wp_callVi (As := [_]) hC (c_X8_isLate hG σ h hk c_5) gX8_ledger_X8_isLate rfl ⟨rfl, rfl⟩ ⟨by decide, by decide⟩ hyVX8_isLate (rfl) (by decide) (rfl) rfl (Nat.le_of_ble_eq_true rfl) dX8_ledger_19 (fun x_19 s_19 hx_19 hp_19 => ?_)
      obtain ⟨hb, hE, hKO⟩ := hp_19
      have hl : x_19 = 0 ∨ x_19 = 1 := by
        rcases hb with ⟨q, _⟩ | ⟨q, _⟩ <;> omega
      have e83 := EQK_h hE (a := 83) (by omega)
      have e84 := EQK_h hE (a := 84) (by omega)
      have e85 := EQK_h hE (a := 85) (by omega)
      have e87 := EQK_h hE (a := 87) (by omega)
      have e88 := EQK_h hE (a := 88) (by omega)
      have e111 := EQK_h hE (a := 111) (by omega)
      have e112 := EQK_h hE (a := 112) (by omega)
      refine wp_callVvk (As := [_, _]) hC hK (c_X8_printLedger hG s_19 (XO_E h hE) (by rw [e83]; exact c_5) hl) gX8_ledger_X8_printLedger rfl ⟨rfl, rfl⟩ ⟨by decide, by decide⟩ hyVX8_printLedger (rfl) (by decide) (rfl) rfl (Nat.le_of_ble_eq_true rfl) dX8_ledger_22 (fun s_22 hp_22 => ?_)
      rw [e84, e85, e87, e88, e111, e112] at hp_22
      subst hp_22
      obtain ⟨y111, y112, y84, y85, y86, y87, y88⟩ := h.2.2 o c_5.1 c_5.2
      obtain ⟨hln, hrg⟩ := LED_rng (o := o) (am := σ 84 o) (it := σ 85 o) (la := σ 112 o) (gr := σ 87 o) (rk := σ 88 o) (w := wdI (σ 111 o) x_19) (by omega) (by omega) (by omega) (by omega) (by omega) wdI_lt
      have z1 : (PL (put s_19 103 1 0) (LED o (σ 84 o) (σ 85 o) (σ 112 o) (σ 87 o) (σ 88 o) (wdI (σ 111 o) x_19))) 103 1 = ((LED o (σ 84 o) (σ 85 o) (σ 112 o) (σ 87 o) (σ 88 o) (wdI (σ 111 o) x_19)).length : Int) := by
        rw [PL_1]
        show (0 : Int) + _ = _
        omega
      have z4 : ∀ k, 0 ≤ k → k < ((LED o (σ 84 o) (σ 85 o) (σ 112 o) (σ 87 o) (σ 88 o) (wdI (σ 111 o) x_19)).length : Int) → (PL (put s_19 103 1 0) (LED o (σ 84 o) (σ 85 o) (σ 112 o) (σ 87 o) (σ 88 o) (wdI (σ 111 o) x_19))) 104 k = (LED o (σ 84 o) (σ 85 o) (σ 112 o) (σ 87 o) (σ 88 o) (wdI (σ 111 o) x_19)).getD k.toNat 0 := fun k u v => by
        have z0 : put s_19 103 1 0 103 1 = 0 := put_s
        rw [PL_at, z0, if_pos (by omega), show (k - 0).toNat = k.toNat by omega]
      have KE : EQK (PL (put s_19 103 1 0) (LED o (σ 84 o) (σ 85 o) (σ 112 o) (σ 87 o) (σ 88 o) (wdI (σ 111 o) x_19))) σ ∧ KOK (PL (put s_19 103 1 0) (LED o (σ 84 o) (σ 85 o) (σ 112 o) (σ 87 o) (σ 88 o) (wdI (σ 111 o) x_19))) := by
        have e1 : EQ (PL (put s_19 103 1 0) (LED o (σ 84 o) (σ 85 o) (σ 112 o) (σ 87 o) (σ 88 o) (wdI (σ 111 o) x_19))) s_19 := fun a b x => by
          have h104 : a ≠ 104 := fun z => by rw [z] at x; cases x
          have h103 : ¬ (a = 103 ∧ b = 1) := fun z => by rw [z.1, z.2] at x; cases x
          rw [PL_o h104 h103, put_q h103]
        exact ⟨EQK_t hE (fun a b x _ => e1 a b x), KOK_EQ hKO e1⟩
      generalize hLL : (LED o (σ 84 o) (σ 85 o) (σ 112 o) (σ 87 o) (σ 88 o) (wdI (σ 111 o) x_19)) = LL at *
      generalize hSS : PL (put s_19 103 1 0) LL = SS at *
      refine wp_iload_n hC dX8_ledger_25 rfl ?_
      refine wp_iconst hC dX8_ledger_26 ?_
      refine wp_icmp_ne (tgt := 38) hC dX8_ledger_27 (by decide) (by omega) (by omega) (fun c_27 => ?_) (fun c_27 => ?_)
      · refine wp_iload_n hC dX8_ledger_38 rfl ?_
        refine wp_aload_n hC dX8_ledger_39 rfl ?_
        refine wp_geta (k := 8) hC (rfl) (by decide) (rfl) (rfl) (by decide) uX8_ledger_X8 fX8_ledger_64 (rfl) dX8_ledger_40 ?_
        refine wp_getiN (k := 1) (z := 1) hC rfl (rfl) (by decide) (rfl) (rfl) (by decide) uX8_ledger_X3 fnX8_252 (rfl) dX8_ledger_43 ?_
        refine wp_top (b := (LL.length : Int)) z1 ?_
        refine wp_icmp_ge (tgt := 60) hC dX8_ledger_46 (by decide) (by omega) (by omega) (fun c_46 => ?_) (fun c_46 => ?_)
        · refine wp_bipush hC dX8_ledger_60 rfl ?_
          exact hret _ _ _ _ (by decide) rfl (Or.inr ⟨by omega, x_19, LL, hb, hLL.symm, KE, by rw [if_neg (c := at1 = -1) (by omega), if_neg (c := at1 < (LL.length : Int)) (by omega)]⟩) dX8_ledger_62
        · refine wp_aload_n hC dX8_ledger_49 rfl ?_
          refine wp_geta (k := 8) hC (rfl) (by decide) (rfl) (rfl) (by decide) uX8_ledger_X8 fX8_ledger_64 (rfl) dX8_ledger_50 ?_
          refine wp_iload_n hC dX8_ledger_53 rfl ?_
          refine wp_callVe (As := [_]) hC (c_X3_signAt' hG SS hia (by rw [z1]; omega) (fun k u v => by rw [z1] at v; rw [z4 k u v]; exact getD_in hrg (by omega))) gX8_ledger_X3_signAt rfl ⟨rfl, rfl⟩ ⟨by decide, by decide⟩ hyVX3_signAt' (rfl) (by decide) (rfl) rfl (Nat.le_of_ble_eq_true rfl) dX8_ledger_54 (fun hx_54 => ?_)
          refine wp_goto (tgt := 62) hC dX8_ledger_57 (by decide) ?_
          exact hret _ _ _ _ (hx_54) rfl (Or.inr ⟨by omega, x_19, LL, hb, hLL.symm, KE, by rw [if_neg (c := at1 = -1) (by omega), if_pos (c := at1 < (LL.length : Int)) c_46, z1, if_pos ⟨by omega, c_46⟩, z4 _ (by omega) c_46]⟩) dX8_ledger_62
      · refine wp_aload_n hC dX8_ledger_30 rfl ?_
        refine wp_geta (k := 8) hC (rfl) (by decide) (rfl) (rfl) (by decide) uX8_ledger_X8 fX8_ledger_64 (rfl) dX8_ledger_31 ?_
        refine wp_getiN (k := 1) (z := 1) hC rfl (rfl) (by decide) (rfl) (rfl) (by decide) uX8_ledger_X3 fnX8_252 (rfl) dX8_ledger_34 ?_
        refine wp_top (b := (LL.length : Int)) z1 ?_
        exact hret _ _ _ _ (by omega) rfl (Or.inr ⟨by omega, x_19, LL, hb, hLL.symm, KE, (if_pos c_27).symm⟩) dX8_ledger_37
    · refine wp_iconst hC dX8_ledger_13 ?_
      exact hret _ _ _ _ (by omega) rfl (Or.inl ⟨by omega, rfl, rfl⟩) dX8_ledger_14
