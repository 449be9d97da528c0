theorem AG_w {σ ρ : St} {k : Int} (h : AG σ ρ (-1)) (h2 : AG σ ρ k) : AG σ ρ k := h2
theorem AG_v {ρ τ : St} {k : Int} {i : Nat} (h : AG ρ τ (-1)) (hk : 0 ≤ k) (hi : 84 ≤ i ∧ i ≤ 88) : τ i k = ρ i k := h i k (by omega) (by omega)
theorem numF_v {tp : Int → Int} {z fg lo hi q : Int} (h : 0 ≤ (numF tp z fg lo hi q).1) : lo ≤ (numF tp z fg lo hi q).1 ∧ (numF tp z fg lo hi q).1 ≤ hi := by
  unfold numF at h ⊢
  split
  · rename_i y; exact y.2
  · rename_i y
    rw [if_neg y] at h
    exact absurd (show (0 : Int) ≤ -1 from h) (by decide)
/-- what a line leaves -/
def RLN (σ : St) (k : Int) (ρ : St) : Prop := AG σ ρ k ∧ ∃ am it la gr rk e, LNF (σ 90) (σ 89 1) (σ 89 2) am it la gr rk e ∧ ((am < 0 ∧ ρ 89 3 = e) ∨ (0 ≤ am ∧ ρ 89 3 = -1 ∧ ρ 89 2 = e ∧ ρ 84 k = am ∧ ρ 85 k = it ∧ ρ 86 k = la ∧ ρ 87 k = gr ∧ ρ 88 k = rk))

theorem hyVX7_readLine : yX7_readLine.cls = RX7 ∧ yX7_readLine.cls ≠ "java/lang/invoke/MethodHandle" ∧ yX7_readLine.cls ≠ "java/lang/invoke/VarHandle" ∧ (parseMethodDescriptor yX7_readLine.desc).map (fun d => d.parameters.length) = some 2 := by decide +kernel
theorem uX7_readLine_X0 : ∀ w ∈ u_ws RX0 TX0 6, w ∈ wsX7_readLine := by decide +kernel
theorem fnX7_40 : Cond.fieldLinkNest RX7 40 (TX0 0).1 (TX0 0).2.1 (TX0 0).2.2.1 "PromiseMind" ∈ tables_1 := List.mem_of_getElem? (i := 40) (by decide +kernel)
theorem uX7_readLine_X7 : ∀ w ∈ u_ws RX7 TX7 4, w ∈ wsX7_readLine := by decide +kernel
theorem fX7_readLine_26 : Cond.fieldLink RX7 26 (TX7 3).1 (TX7 3).2.1 (TX7 3).2.2.1 ∈ wsX7_readLine := by decide +kernel
theorem fnX7_48 : Cond.fieldLinkNest RX7 48 (TX0 1).1 (TX0 1).2.1 (TX0 1).2.2.1 "PromiseMind" ∈ tables_1 := List.mem_of_getElem? (i := 45) (by decide +kernel)
theorem fnX7_55 : Cond.fieldLinkNest RX7 55 (TX0 2).1 (TX0 2).2.1 (TX0 2).2.2.1 "PromiseMind" ∈ tables_1 := List.mem_of_getElem? (i := 48) (by decide +kernel)
theorem fnX7_58 : Cond.fieldLinkNest RX7 58 (TX0 3).1 (TX0 3).2.1 (TX0 3).2.2.1 "PromiseMind" ∈ tables_1 := List.mem_of_getElem? (i := 52) (by decide +kernel)
theorem fnX7_65 : Cond.fieldLinkNest RX7 65 (TX0 4).1 (TX0 4).2.1 (TX0 4).2.2.1 "PromiseMind" ∈ tables_1 := List.mem_of_getElem? (i := 55) (by decide +kernel)
theorem fX7_readLine_23 : Cond.fieldLink RX7 23 (TX7 2).1 (TX7 2).2.1 (TX7 2).2.2.1 ∈ wsX7_readLine := by decide +kernel
set_option maxHeartbeats 16000000 in
set_option maxRecDepth 100000 in
theorem c_X7_readLine {l : Launch} {G : Gy} (hG : Inj G) (σ : St) {k : Int} (hk : 0 ≤ k ∧ k < 24) (hf : σ 89 3 = -1) (hz : 0 ≤ σ 89 1 ∧ σ 89 1 ≤ 100) (ha : 0 ≤ σ 89 2 ∧ σ 89 2 ≤ σ 89 1) (hs : ∀ k, 0 ≤ k → k < 100 → 0 ≤ σ 90 k ∧ σ 90 k ≤ 126) : MV l yX7_readLine wsX7_readLine ({ frames := 3, cells := 0, slots := 0, locals := 64 } : Room) G [.ref (G.2.2 89), .ref (G.2.2 83), .int (zI (k))] σ (RLN σ k) := by
  refine MV.of hG (by decide +kernel) rfl rfl (Nat.le_of_ble_eq_true rfl) rfl ?_
  intro p e s m args below meth c H0 Q hC hret
  refine wp_aload_n hC dX7_readLine_0 rfl ?_
  refine wp_getaN (k := 0) hC (rfl) (by decide) (rfl) (rfl) (by decide) uX7_readLine_X0 fnX7_40 (rfl) dX7_readLine_1 ?_
  refine wp_iload_n hC dX7_readLine_4 rfl ?_
  refine wp_aload_n hC dX7_readLine_5 rfl ?_
  refine wp_iconst hC dX7_readLine_6 ?_
  refine wp_bipush hC dX7_readLine_7 rfl ?_
  refine wp_callVi (As := [_, _]) hC (c_X7_readNumber hG σ (lo := 1) (hi := 60) (by omega) (by omega) hz (by omega) hs) gX7_readLine_X7_readNumber rfl ⟨rfl, rfl⟩ ⟨by decide, by decide⟩ hyVX7_readNumber (rfl) (by decide) (rfl) rfl (Nat.le_of_ble_eq_true rfl) dX7_readLine_9 (fun x_9 s_9 hx_9 hp_9 => ?_)
  obtain ⟨A1, r1⟩ := RN_f (k0 := k) hp_9 hf ha.1
  clear hp_9
  have b1 := numF_rng (tp := σ 90) (fg := 2) (lo := 1) (hi := 60) ha
  have L1 := @LNF_1 (σ 90) (σ 89 1) (σ 89 2)
  have L2 := @LNF_2 (σ 90) (σ 89 1) (σ 89 2)
  have L3 := @LNF_3 (σ 90) (σ 89 1) (σ 89 2)
  have L4 := @LNF_4 (σ 90) (σ 89 1) (σ 89 2)
  have L5 := @LNF_5 (σ 90) (σ 89 1) (σ 89 2)
  have L6 := @LNF_6 (σ 90) (σ 89 1) (σ 89 2)
  have L7 := @LNF_7 (σ 90) (σ 89 1) (σ 89 2)
  generalize numF (σ 90) (σ 89 1) 2 1 60 (σ 89 2) = N1 at *
  refine wp_iast (n := 24) hC (rfl) (Nat.le_of_ble_eq_true rfl) (rfl) (by decide) (by omega) dX7_readLine_12 ?_
  have A1' : AG σ (put s_9 84 k x_9) k := AG_p A1 (by omega)
  have e1a : (put s_9 84 k x_9) 89 3 = s_9 89 3 := rfl
  have e1b : (put s_9 84 k x_9) 89 2 = s_9 89 2 := rfl
  have e1c : (put s_9 84 k x_9) 84 k = x_9 := put_s
  generalize put s_9 84 k x_9 = ρ1 at *
  obtain ⟨t1, z1⟩ := AG_r A1'
  have hi1 : iR (ρ1 89 3) := by omega
  refine wp_aload_n hC dX7_readLine_13 rfl ?_
  refine wp_geti (k := 3) (z := 3) hC rfl (rfl) (by decide) (rfl) (rfl) (by decide) uX7_readLine_X7 fX7_readLine_26 (rfl) dX7_readLine_14 ?_
  refine wp_if_ge (tgt := 30) hC dX7_readLine_17 (by decide) (by omega) (fun c_17 => ?_) (fun c_17 => ?_)
  · refine wp_aload_n hC dX7_readLine_30 rfl ?_
    refine wp_geti (k := 3) (z := 3) hC rfl (rfl) (by decide) (rfl) (rfl) (by decide) uX7_readLine_X7 fX7_readLine_26 (rfl) dX7_readLine_31 ?_
    refine wp_if_ge (tgt := 54) hC dX7_readLine_34 (by decide) (by omega) (fun c_34 => ?_) (fun c_34 => ?_)
    · refine wp_aload_n hC dX7_readLine_54 rfl ?_
      refine wp_geti (k := 3) (z := 3) hC rfl (rfl) (by decide) (rfl) (rfl) (by decide) uX7_readLine_X7 fX7_readLine_26 (rfl) dX7_readLine_55 ?_
      refine wp_if_ge (tgt := 74) hC dX7_readLine_58 (by decide) (by omega) (fun c_58 => ?_) (fun c_58 => ?_)
      · refine wp_aload_n hC dX7_readLine_74 rfl ?_
        refine wp_geti (k := 3) (z := 3) hC rfl (rfl) (by decide) (rfl) (rfl) (by decide) uX7_readLine_X7 fX7_readLine_26 (rfl) dX7_readLine_75 ?_
        refine wp_if_ge (tgt := 94) hC dX7_readLine_78 (by decide) (by omega) (fun c_78 => ?_) (fun c_78 => ?_)
        · refine wp_aload_n hC dX7_readLine_94 rfl ?_
          refine wp_geti (k := 3) (z := 3) hC rfl (rfl) (by decide) (rfl) (rfl) (by decide) uX7_readLine_X7 fX7_readLine_26 (rfl) dX7_readLine_95 ?_
          refine wp_if_ge (tgt := 115) hC dX7_readLine_98 (by decide) (by omega) (fun c_98 => ?_) (fun c_98 => ?_)
          · exact hret _ _ _ (⟨A1', -1, 0, 0, 0, 0, _, L1 (by omega), Or.inl ⟨by decide, by omega⟩⟩) dX7_readLine_115
          · exfalso; omega
        · exfalso; omega
      · exfalso; omega
    · exfalso; omega
  · have g1 : 0 ≤ N1.1 ∧ x_9 = N1.1 ∧ ρ1 89 2 = N1.2 ∧ ρ1 89 3 = -1 := by omega
    refine wp_aload_n hC dX7_readLine_20 rfl ?_
    refine wp_getaN (k := 1) hC (rfl) (by decide) (rfl) (rfl) (by decide) uX7_readLine_X0 fnX7_48 (rfl) dX7_readLine_21 ?_
    refine wp_iload_n hC dX7_readLine_24 rfl ?_
    refine wp_aload_n hC dX7_readLine_25 rfl ?_
    refine wp_callVi (As := []) hC (c_X7_readItems hG ρ1 (by rw [z1]; exact hz) (by omega) (by rw [t1]; exact hs)) gX7_readLine_X7_readItems rfl ⟨rfl, rfl⟩ ⟨by decide, by decide⟩ hyVX7_readItems (rfl) (by decide) (rfl) rfl (Nat.le_of_ble_eq_true rfl) dX7_readLine_26 (fun x_26 s_26 hx_26 hp_26 => ?_)
    obtain ⟨l, hl, hd⟩ := hp_26
    rw [t1, z1, g1.2.2.1] at hl
    have b2 := letF_rng b1 hl
    obtain ⟨B2, r2⟩ := RD_f (k0 := -1) hd g1.2.2.2 b2.1
    have A2 : AG σ s_26 k := AG_t A1' (RD_f (k0 := k) hd g1.2.2.2 b2.1).1
    clear hd
    refine wp_iast (n := 24) hC (rfl) (Nat.le_of_ble_eq_true rfl) (rfl) (by decide) (by omega) dX7_readLine_29 ?_
    have A2' : AG σ (put s_26 85 k x_26) k := AG_p A2 (by omega)
    have e2a : (put s_26 85 k x_26) 89 3 = s_26 89 3 := rfl
    have e2b : (put s_26 85 k x_26) 89 2 = s_26 89 2 := rfl
    have e2c : (put s_26 85 k x_26) 85 k = x_26 := put_s
    have v2_84 : (put s_26 85 k x_26) 84 k = ρ1 84 k := by rw [put_i (by decide)]; exact AG_v B2 (by omega) (by omega)
    generalize put s_26 85 k x_26 = ρ2 at *
    obtain ⟨t2, z2⟩ := AG_r A2'
    have hi2 : iR (ρ2 89 3) := by omega
    refine wp_aload_n hC dX7_readLine_30 rfl ?_
    refine wp_geti (k := 3) (z := 3) hC rfl (rfl) (by decide) (rfl) (rfl) (by decide) uX7_readLine_X7 fX7_readLine_26 (rfl) dX7_readLine_31 ?_
    refine wp_if_ge (tgt := 54) hC dX7_readLine_34 (by decide) (by omega) (fun c_34 => ?_) (fun c_34 => ?_)
    · refine wp_aload_n hC dX7_readLine_54 rfl ?_
      refine wp_geti (k := 3) (z := 3) hC rfl (rfl) (by decide) (rfl) (rfl) (by decide) uX7_readLine_X7 fX7_readLine_26 (rfl) dX7_readLine_55 ?_
      refine wp_if_ge (tgt := 74) hC dX7_readLine_58 (by decide) (by omega) (fun c_58 => ?_) (fun c_58 => ?_)
      · refine wp_aload_n hC dX7_readLine_74 rfl ?_
        refine wp_geti (k := 3) (z := 3) hC rfl (rfl) (by decide) (rfl) (rfl) (by decide) uX7_readLine_X7 fX7_readLine_26 (rfl) dX7_readLine_75 ?_
        refine wp_if_ge (tgt := 94) hC dX7_readLine_78 (by decide) (by omega) (fun c_78 => ?_) (fun c_78 => ?_)
        · refine wp_aload_n hC dX7_readLine_94 rfl ?_
          refine wp_geti (k := 3) (z := 3) hC rfl (rfl) (by decide) (rfl) (rfl) (by decide) uX7_readLine_X7 fX7_readLine_26 (rfl) dX7_readLine_95 ?_
          refine wp_if_ge (tgt := 115) hC dX7_readLine_98 (by decide) (by omega) (fun c_98 => ?_) (fun c_98 => ?_)
          · exact hret _ _ _ (⟨A2', -1, 0, 0, 0, 0, _, L2 g1.1 hl (by omega), Or.inl ⟨by decide, by omega⟩⟩) dX7_readLine_115
          · exfalso; omega
        · exfalso; omega
      · exfalso; omega
    · have g2 : 0 ≤ l.1 ∧ x_26 = l.1 ∧ ρ2 89 2 = l.2 ∧ ρ2 89 3 = -1 := by omega
      refine wp_aload_n hC dX7_readLine_37 rfl ?_
      refine wp_bipush hC dX7_readLine_38 rfl ?_
      refine wp_callVi (As := [_]) hC (c_X7_skip hG ρ2 (c1 := 64) (by omega) (by rw [z2]; exact hz) (by omega) (by rw [t2]; exact hs)) gX7_readLine_X7_skip rfl ⟨rfl, rfl⟩ ⟨by decide, by decide⟩ hyVX7_skip (rfl) (by decide) (rfl) rfl (Nat.le_of_ble_eq_true rfl) dX7_readLine_40 (fun x_40 s_40 hx_40 hp_40 => ?_)
      have ec : cx ρ2 (ρ2 89 2) = ch (σ 90) (σ 89 1) l.2 := by unfold cx; rw [t2, z2, g2.2.2.1]
      rw [ec] at hp_40
      refine wp_if_ne (tgt := 54) hC dX7_readLine_43 (by decide) (by clear L1 L2 L3 L4 L5 L6 L7; rcases hp_40 with q | q <;> omega) (fun c_43 => ?_) (fun c_43 => ?_)
      · have k3 : ch (σ 90) (σ 89 1) l.2 = 64 ∧ s_40 = put ρ2 89 2 (ρ2 89 2 + 1) := by
          rcases hp_40 with q | q
          · exact ⟨q.1, q.2.2⟩
          · exact absurd q.2.1 (by omega)
        obtain ⟨k3, rfl⟩ := k3
        have hci := ch_in (tp := σ 90) (z := σ 89 1) (q := l.2) (by omega)
        have A3' : AG σ (put ρ2 89 2 (ρ2 89 2 + 1)) k := AG_2 A2'
        have e3a : (put ρ2 89 2 (ρ2 89 2 + 1)) 89 3 = -1 := (put_k (by decide)).trans g2.2.2.2
        have e3b : (put ρ2 89 2 (ρ2 89 2 + 1)) 89 2 = l.2 + 1 := by rw [put_s, g2.2.2.1]
        have e3c : (put ρ2 89 2 (ρ2 89 2 + 1)) 84 k = x_9 := v2_84.trans e1c
        have e3d : (put ρ2 89 2 (ρ2 89 2 + 1)) 85 k = x_26 := e2c
        generalize put ρ2 89 2 (ρ2 89 2 + 1) = ρ3 at *
        obtain ⟨t3, z3⟩ := AG_r A3'
        refine wp_aload_n hC dX7_readLine_54 rfl ?_
        refine wp_geti (k := 3) (z := 3) hC rfl (rfl) (by decide) (rfl) (rfl) (by decide) uX7_readLine_X7 fX7_readLine_26 (rfl) dX7_readLine_55 ?_
        refine wp_if_ge (tgt := 74) hC dX7_readLine_58 (by decide) (by omega) (fun c_58 => ?_) (fun c_58 => ?_)
        · exfalso; omega
        · refine wp_aload_n hC dX7_readLine_61 rfl ?_
          refine wp_getaN (k := 2) hC (rfl) (by decide) (rfl) (rfl) (by decide) uX7_readLine_X0 fnX7_55 (rfl) dX7_readLine_62 ?_
          refine wp_iload_n hC dX7_readLine_65 rfl ?_
          refine wp_aload_n hC dX7_readLine_66 rfl ?_
          refine wp_iconst hC dX7_readLine_67 ?_
          refine wp_bipush hC dX7_readLine_68 rfl ?_
          refine wp_callVi (As := [_, _]) hC (c_X7_readNumber hG ρ3 (lo := 0) (hi := 11) (by omega) (by omega) (by rw [z3]; exact hz) (by omega) (by rw [t3]; exact hs)) gX7_readLine_X7_readNumber rfl ⟨rfl, rfl⟩ ⟨by decide, by decide⟩ hyVX7_readNumber (rfl) (by decide) (rfl) rfl (Nat.le_of_ble_eq_true rfl) dX7_readLine_70 (fun x_70 s_70 hx_70 hp_70 => ?_)
          obtain ⟨B4, r4⟩ := RN_f (k0 := -1) hp_70 e3a (by omega)
          have A4 : AG σ s_70 k := AG_t A3' (RN_f (k0 := k) hp_70 e3a (by omega)).1
          clear hp_70
          rw [t3, z3, e3b] at r4
          have b4 := numF_rng (tp := σ 90) (z := σ 89 1) (fg := 2) (lo := 0) (hi := 11) (q := l.2 + 1) (by omega)
          have L4 := @L4 l
          have L5 := @L5 l
          have L6 := @L6 l
          have L7 := @L7 l
          generalize numF (σ 90) (σ 89 1) 2 0 11 (l.2 + 1) = N2 at *
          refine wp_iast (n := 24) hC (rfl) (Nat.le_of_ble_eq_true rfl) (rfl) (by decide) (by omega) dX7_readLine_73 ?_
          have A4' : AG σ (put s_70 86 k x_70) k := AG_p A4 (by omega)
          have e4a : (put s_70 86 k x_70) 89 3 = s_70 89 3 := rfl
          have e4b : (put s_70 86 k x_70) 89 2 = s_70 89 2 := rfl
          have e4c : (put s_70 86 k x_70) 86 k = x_70 := put_s
          have v4_84 : (put s_70 86 k x_70) 84 k = ρ3 84 k := by rw [put_i (by decide)]; exact AG_v B4 (by omega) (by omega)
          have v4_85 : (put s_70 86 k x_70) 85 k = ρ3 85 k := by rw [put_i (by decide)]; exact AG_v B4 (by omega) (by omega)
          generalize put s_70 86 k x_70 = ρ4 at *
          obtain ⟨t4, z4⟩ := AG_r A4'
          have hi4 : iR (ρ4 89 3) := by omega
          refine wp_aload_n hC dX7_readLine_74 rfl ?_
          refine wp_geti (k := 3) (z := 3) hC rfl (rfl) (by decide) (rfl) (rfl) (by decide) uX7_readLine_X7 fX7_readLine_26 (rfl) dX7_readLine_75 ?_
          refine wp_if_ge (tgt := 94) hC dX7_readLine_78 (by decide) (by omega) (fun c_78 => ?_) (fun c_78 => ?_)
          · refine wp_aload_n hC dX7_readLine_94 rfl ?_
            refine wp_geti (k := 3) (z := 3) hC rfl (rfl) (by decide) (rfl) (rfl) (by decide) uX7_readLine_X7 fX7_readLine_26 (rfl) dX7_readLine_95 ?_
            refine wp_if_ge (tgt := 115) hC dX7_readLine_98 (by decide) (by omega) (fun c_98 => ?_) (fun c_98 => ?_)
            · exact hret _ _ _ (⟨A4', -1, 0, 0, 0, 0, _, L4 g1.1 hl g2.1 k3 (by omega), Or.inl ⟨by decide, by omega⟩⟩) dX7_readLine_115
            · exfalso; omega
          · have g4 : 0 ≤ N2.1 ∧ x_70 = N2.1 ∧ ρ4 89 2 = N2.2 ∧ ρ4 89 3 = -1 := by omega
            refine wp_aload_n hC dX7_readLine_81 rfl ?_
            refine wp_getaN (k := 3) hC (rfl) (by decide) (rfl) (rfl) (by decide) uX7_readLine_X0 fnX7_58 (rfl) dX7_readLine_82 ?_
            refine wp_iload_n hC dX7_readLine_85 rfl ?_
            refine wp_aload_n hC dX7_readLine_86 rfl ?_
            refine wp_bipush hC dX7_readLine_87 rfl ?_
            refine wp_iconst hC dX7_readLine_89 ?_
            refine wp_callVi (As := [_, _]) hC (c_X7_readMarked hG ρ4 (c1 := 103) (hi := 3) (by omega) (by omega) (by rw [z4]; exact hz) (by omega) (by rw [t4]; exact hs)) gX7_readLine_X7_readMarked rfl ⟨rfl, rfl⟩ ⟨by decide, by decide⟩ hyVX7_readMarked (rfl) (by decide) (rfl) rfl (Nat.le_of_ble_eq_true rfl) dX7_readLine_90 (fun x_90 s_90 hx_90 hp_90 => ?_)
            have hd : RDB ρ4 (optF (ρ4 90) (ρ4 89 1) 103 3 (ρ4 89 2)) x_90 s_90 := hp_90
            clear hp_90
            rw [t4, z4, g4.2.2.1] at hd
            have b5 := optF_rng (tp := σ 90) (c := 103) (hi := 3) (by decide) b4
            obtain ⟨G1, hG1⟩ : ∃ G1, optF (σ 90) (σ 89 1) 103 3 N2.2 = G1 := ⟨_, rfl⟩
            rw [hG1] at hd b5
            obtain ⟨B5, r5⟩ := RD_f (k0 := -1) hd g4.2.2.2 b5.1
            have A5 : AG σ s_90 k := AG_t A4' (RD_f (k0 := k) hd g4.2.2.2 b5.1).1
            clear hd
            refine wp_iast (n := 24) hC (rfl) (Nat.le_of_ble_eq_true rfl) (rfl) (by decide) (by omega) dX7_readLine_93 ?_
            have A5' : AG σ (put s_90 87 k x_90) k := AG_p A5 (by omega)
            have e5a : (put s_90 87 k x_90) 89 3 = s_90 89 3 := rfl
            have e5b : (put s_90 87 k x_90) 89 2 = s_90 89 2 := rfl
            have e5c : (put s_90 87 k x_90) 87 k = x_90 := put_s
            have v5_84 : (put s_90 87 k x_90) 84 k = ρ4 84 k := by rw [put_i (by decide)]; exact AG_v B5 (by omega) (by omega)
            have v5_85 : (put s_90 87 k x_90) 85 k = ρ4 85 k := by rw [put_i (by decide)]; exact AG_v B5 (by omega) (by omega)
            have v5_86 : (put s_90 87 k x_90) 86 k = ρ4 86 k := by rw [put_i (by decide)]; exact AG_v B5 (by omega) (by omega)
            generalize put s_90 87 k x_90 = ρ5 at *
            obtain ⟨t5, z5⟩ := AG_r A5'
            have hi5 : iR (ρ5 89 3) := by omega
            refine wp_aload_n hC dX7_readLine_94 rfl ?_
            refine wp_geti (k := 3) (z := 3) hC rfl (rfl) (by decide) (rfl) (rfl) (by decide) uX7_readLine_X7 fX7_readLine_26 (rfl) dX7_readLine_95 ?_
            refine wp_if_ge (tgt := 115) hC dX7_readLine_98 (by decide) (by omega) (fun c_98 => ?_) (fun c_98 => ?_)
            · exact hret _ _ _ (⟨A5', -1, 0, 0, 0, 0, _, L5 g1.1 hl g2.1 k3 g4.1 hG1 (by omega), Or.inl ⟨by decide, by omega⟩⟩) dX7_readLine_115
            · have g5 : 0 ≤ G1.1 ∧ x_90 = G1.1 ∧ ρ5 89 2 = G1.2 ∧ ρ5 89 3 = -1 := by omega
              refine wp_aload_n hC dX7_readLine_101 rfl ?_
              refine wp_getaN (k := 4) hC (rfl) (by decide) (rfl) (rfl) (by decide) uX7_readLine_X0 fnX7_65 (rfl) dX7_readLine_102 ?_
              refine wp_iload_n hC dX7_readLine_105 rfl ?_
              refine wp_aload_n hC dX7_readLine_106 rfl ?_
              refine wp_bipush hC dX7_readLine_107 rfl ?_
              refine wp_bipush hC dX7_readLine_109 rfl ?_
              refine wp_callVi (As := [_, _]) hC (c_X7_readMarked hG ρ5 (c1 := 114) (hi := 9) (by omega) (by omega) (by rw [z5]; exact hz) (by omega) (by rw [t5]; exact hs)) gX7_readLine_X7_readMarked rfl ⟨rfl, rfl⟩ ⟨by decide, by decide⟩ hyVX7_readMarked (rfl) (by decide) (rfl) rfl (Nat.le_of_ble_eq_true rfl) dX7_readLine_111 (fun x_111 s_111 hx_111 hp_111 => ?_)
              have hd : RDB ρ5 (optF (ρ5 90) (ρ5 89 1) 114 9 (ρ5 89 2)) x_111 s_111 := hp_111
              clear hp_111
              rw [t5, z5, g5.2.2.1] at hd
              have b6 := optF_rng (tp := σ 90) (c := 114) (hi := 9) (by decide) b5
              obtain ⟨R1, hR1⟩ : ∃ R1, optF (σ 90) (σ 89 1) 114 9 G1.2 = R1 := ⟨_, rfl⟩
              rw [hR1] at hd b6
              obtain ⟨B6, r6⟩ := RD_f (k0 := -1) hd g5.2.2.2 b6.1
              have A6 : AG σ s_111 k := AG_t A5' (RD_f (k0 := k) hd g5.2.2.2 b6.1).1
              clear hd
              refine wp_iast (n := 24) hC (rfl) (Nat.le_of_ble_eq_true rfl) (rfl) (by decide) (by omega) dX7_readLine_114 ?_
              have A6' : AG σ (put s_111 88 k x_111) k := AG_p A6 (by omega)
              have e6a : (put s_111 88 k x_111) 89 3 = s_111 89 3 := rfl
              have e6b : (put s_111 88 k x_111) 89 2 = s_111 89 2 := rfl
              have e6c : (put s_111 88 k x_111) 88 k = x_111 := put_s
              have v6_84 : (put s_111 88 k x_111) 84 k = ρ5 84 k := by rw [put_i (by decide)]; exact AG_v B6 (by omega) (by omega)
              have v6_85 : (put s_111 88 k x_111) 85 k = ρ5 85 k := by rw [put_i (by decide)]; exact AG_v B6 (by omega) (by omega)
              have v6_86 : (put s_111 88 k x_111) 86 k = ρ5 86 k := by rw [put_i (by decide)]; exact AG_v B6 (by omega) (by omega)
              have v6_87 : (put s_111 88 k x_111) 87 k = ρ5 87 k := by rw [put_i (by decide)]; exact AG_v B6 (by omega) (by omega)
              generalize put s_111 88 k x_111 = ρ6 at *
              obtain ⟨t6, z6⟩ := AG_r A6'
              exact hret _ _ _ (by
                rcases r6 with ⟨q1, q2, q3, q4⟩ | ⟨q1, q2, q3⟩
                · exact ⟨A6', _, _, _, _, _, _, L7 g1.1 hl g2.1 k3 g4.1 hG1 g5.1 hR1 q2, Or.inr ⟨g1.1, by omega, by omega, by omega, by omega, by omega, by omega, by omega⟩⟩
                · exact ⟨A6', -1, 0, 0, 0, 0, _, L6 g1.1 hl g2.1 k3 g4.1 hG1 g5.1 hR1 q2, Or.inl ⟨by decide, by omega⟩⟩) dX7_readLine_115
      · have k3 : ch (σ 90) (σ 89 1) l.2 ≠ 64 ∧ s_40 = ρ2 := by
          rcases hp_40 with q | q
          · exact absurd q.2.1 (by omega)
          · exact ⟨q.1, q.2.2⟩
        obtain ⟨k3, rfl⟩ := k3
        refine wp_aload_n hC dX7_readLine_46 rfl ?_
        refine wp_aload_n hC dX7_readLine_47 rfl ?_
        refine wp_geti (k := 2) (z := 2) hC rfl (rfl) (by decide) (rfl) (rfl) (by decide) uX7_readLine_X7 fX7_readLine_23 (rfl) dX7_readLine_48 ?_
        refine wp_puti2 (k := 3) (z := 3) hC rfl (rfl) (by decide) (rfl) (rfl) (by decide) uX7_readLine_X7 fX7_readLine_26 tyX7 tyX7_ok nmX7 rfl rfl (rfl) dX7_readLine_51 ?_
        have A3' : AG σ (put s_40 89 3 (s_40 89 2)) k := AG_3 A2'
        have e3a : (put s_40 89 3 (s_40 89 2)) 89 3 = s_40 89 2 := put_s
        generalize put s_40 89 3 (s_40 89 2) = ρ3 at *
        have hi3 : iR (ρ3 89 3) := by omega
        refine wp_aload_n hC dX7_readLine_54 rfl ?_
        refine wp_geti (k := 3) (z := 3) hC rfl (rfl) (by decide) (rfl) (rfl) (by decide) uX7_readLine_X7 fX7_readLine_26 (rfl) dX7_readLine_55 ?_
        refine wp_if_ge (tgt := 74) hC dX7_readLine_58 (by decide) (by omega) (fun c_58 => ?_) (fun c_58 => ?_)
        · refine wp_aload_n hC dX7_readLine_74 rfl ?_
          refine wp_geti (k := 3) (z := 3) hC rfl (rfl) (by decide) (rfl) (rfl) (by decide) uX7_readLine_X7 fX7_readLine_26 (rfl) dX7_readLine_75 ?_
          refine wp_if_ge (tgt := 94) hC dX7_readLine_78 (by decide) (by omega) (fun c_78 => ?_) (fun c_78 => ?_)
          · refine wp_aload_n hC dX7_readLine_94 rfl ?_
            refine wp_geti (k := 3) (z := 3) hC rfl (rfl) (by decide) (rfl) (rfl) (by decide) uX7_readLine_X7 fX7_readLine_26 (rfl) dX7_readLine_95 ?_
            refine wp_if_ge (tgt := 115) hC dX7_readLine_98 (by decide) (by omega) (fun c_98 => ?_) (fun c_98 => ?_)
            · exact hret _ _ _ (⟨A3', -1, 0, 0, 0, 0, _, L3 g1.1 hl g2.1 k3, Or.inl ⟨by decide, by omega⟩⟩) dX7_readLine_115
            · exfalso; omega
          · exfalso; omega
        · exfalso; omega
