/-- between a change's beginning and its noting -/
def BG (σ ρ : St) : Prop := (∀ b, 0 ≤ b → b < 88 → ρ 9 b = σ 1 b) ∧ (∀ b, ¬ (0 ≤ b ∧ b < 88) → ρ 1 b = σ 1 b) ∧ ∀ a b, a ≠ 1 → scr a b = false → ρ a b = σ a b
theorem BG_0 {σ : St} : BG σ (cpy σ 1 9 88) := ⟨fun b x y => cpy19 x y, fun b _ => cpy19o (by decide), fun a b _ y => cpy19o (scr_a y)⟩
theorem BG_put {σ ρ : St} {k v : Int} (h : BG σ ρ) (hk : 0 ≤ k ∧ k < 88) : BG σ (put ρ 1 k v) :=
  ⟨fun b x y => by rw [put_i (by decide)]; exact h.1 b x y, fun b x => by rw [put_k (by omega)]; exact h.2.1 b x, fun a b x y => by rw [put_i x]; exact h.2.2 a b x y⟩
theorem BG_S1 {σ ρ τ : St} (h : BG σ ρ) : BG σ (S1 ρ τ) := ⟨h.1, h.2.1, fun a b x y => by rw [S1_n (scr1_scr y)]; exact h.2.2 a b x y⟩
theorem BG_CG {σ ρ : St} (hd : 0 ≤ σ 0 11 ∧ σ 0 11 ≤ 12) (h : BG σ ρ) : CHG ρ = SC (CG σ (ρ 1)) (CHG ρ) := CHG_CG hd h.1 rfl h.2.2
theorem BG_9 {σ ρ : St} {j : Int} (hd : 0 ≤ σ 0 11 ∧ σ 0 11 ≤ 12) (h : BG σ ρ) (h0 : 0 ≤ j) (h1 : j < 88) : CHG ρ 9 j = σ 1 j := by
  rw [CHG_o (σ := ρ) (by omega) (by rw [h.2.2 0 11 (by decide) rfl]; exact hd), h.1 j h0 h1]
theorem BG_R {σ ρ : St} (h : BG σ ρ) : cpy ρ 9 1 88 = SC σ (cpy ρ 9 1 88) := by
  funext a b
  cases hs : scr a b
  · rw [SC_n hs]
    unfold cpy
    by_cases q : a = 1 ∧ 0 ≤ b ∧ b < 88
    · rw [if_pos q, q.1, h.1 b q.2.1 q.2.2]
    · rw [if_neg q]
      by_cases q1 : a = 1
      · rw [q1, h.2.1 b (by omega)]
      · exact h.2.2 a b q1 hs
  · rw [SC_y hs]
theorem wOK_up {f : Int → Int} {k v : Int} (h : wOK f) (h2 : (0 ≤ k ∧ k < 36 → 0 ≤ v ∧ v ≤ 99) ∧ (36 ≤ k ∧ k < 40 → 0 ≤ v ∧ v ≤ 100) ∧ (40 ≤ k ∧ k < 64 → 0 ≤ v ∧ v ≤ 2) ∧ (64 ≤ k ∧ k < 88 → 0 ≤ v ∧ v ≤ 11)) : wOK (up1 f k v) := by
  refine ⟨fun j a b => ?_, fun j a b => ?_, fun j a b => ?_, fun j a b => ?_⟩ <;> unfold up1
  · have := h.1 j a b; split <;> omega
  · have := h.2.1 j a b; split <;> omega
  · have := h.2.2.1 j a b; split <;> omega
  · have := h.2.2.2 j a b; split <;> omega
theorem RO_w {σ : St} {k v : Int} (h : RO σ) (h2 : (0 ≤ k ∧ k < 36 → 0 ≤ v ∧ v ≤ 99) ∧ (36 ≤ k ∧ k < 40 → 0 ≤ v ∧ v ≤ 100) ∧ (40 ≤ k ∧ k < 64 → 0 ≤ v ∧ v ≤ 2) ∧ (64 ≤ k ∧ k < 88 → 0 ≤ v ∧ v ≤ 11)) : RO (put σ 1 k v) :=
  ⟨h.1, by rw [up1_put]; exact wOK_up h.2.1 h2, h.2.2⟩
theorem RO_cpy {σ : St} (h : RO σ) : RO (cpy σ 1 9 88) := h

theorem hyVX9_move : yX9_move.cls = RX9 ∧ yX9_move.cls ≠ "java/lang/invoke/MethodHandle" ∧ yX9_move.cls ≠ "java/lang/invoke/VarHandle" ∧ (parseMethodDescriptor yX9_move.desc).map (fun d => d.parameters.length) = some 2 := by decide +kernel
theorem uX9_move_X9 : ∀ w ∈ u_ws RX9 TX9 35, w ∈ wsX9_move := by decide +kernel
theorem fX9_move_9 : Cond.fieldLink RX9 9 (TX9 0).1 (TX9 0).2.1 (TX9 0).2.2.1 ∈ wsX9_move := by decide +kernel
theorem fX9_move_36 : Cond.fieldLink RX9 36 (TX9 9).1 (TX9 9).2.1 (TX9 9).2.2.1 ∈ wsX9_move := by decide +kernel
set_option maxHeartbeats 4000000 in
set_option maxRecDepth 100000 in
theorem c_X9_move {l : Launch} {G : Gy} (hG : Inj G) (σ : St) {o q : Int} (h : RO σ) (hd : 0 ≤ σ 0 11 ∧ σ 0 11 ≤ 12) (ho : iR o) (hq : iR q) : MI l yX9_move wsX9_move ({ frames := 5, cells := 0, slots := 0, locals := 113 } : Room) G [.ref (G.2.2 0), .int (zI (o)), .int (zI (q))] σ (fun x σ2 => (¬ ((0 ≤ o ∧ o < σ 0 5) ∧ (0 ≤ q ∧ q ≤ 11)) ∧ x = -1 ∧ σ2 = σ) ∨ (((0 ≤ o ∧ o < σ 0 5) ∧ (0 ≤ q ∧ q ≤ 11)) ∧ σ 1 (40 + o) = 2 ∧ x = -5 ∧ σ2 = σ) ∨ (((0 ≤ o ∧ o < σ 0 5) ∧ (0 ≤ q ∧ q ≤ 11)) ∧ (σ 1 (40 + o) = 1 ∧ ¬ MET (put σ 1 (64 + o) q) (tb (TH (put σ 1 (64 + o) q) 1))) ∧ x = -2 ∧ ∃ τ, σ2 = SC σ τ) ∨ (((0 ≤ o ∧ o < σ 0 5) ∧ (0 ≤ q ∧ q ≤ 11)) ∧ σ 1 (40 + o) ≠ 2 ∧ ¬ (σ 1 (40 + o) = 1 ∧ ¬ MET (put σ 1 (64 + o) q) (tb (TH (put σ 1 (64 + o) q) 1))) ∧ x = σ 1 (64 + o) ∧ ∃ τ, σ2 = SC (CG σ (up1 (σ 1) (64 + o) q)) τ)) := by
  refine MI.of hG (by decide +kernel) rfl rfl (Nat.le_of_ble_eq_true rfl) rfl ?_
  intro p e s m args below meth c H0 Q hC hret
  have hn := h.1
  refine wp_aload_n hC dX9_move_0 rfl ?_
  refine wp_iload_n hC dX9_move_1 rfl ?_
  refine wp_callVb (As := [_]) hC (c_X9_isOrder hG _ (by omega) h.1) gX9_move_X9_isOrder rfl ⟨rfl, rfl⟩ ⟨by decide, by decide⟩ hyVX9_isOrder (rfl) (by decide) (rfl) rfl (Nat.le_of_ble_eq_true rfl) dX9_move_2 (fun hx_2 => ?_)
  refine wp_ifb_eq (tgt := 18) hC dX9_move_5 (by decide) (fun c_5 => ?_) (fun c_5 => ?_)
  · refine wp_iconst hC dX9_move_18 ?_
    exact hret _ _ _ _ (by omega) rfl (Or.inl ⟨by omega, rfl, rfl⟩) dX9_move_19
  · refine wp_iload_n hC dX9_move_8 rfl ?_
    refine wp_iconst hC dX9_move_9 ?_
    refine wp_bipush hC dX9_move_10 rfl ?_
    refine wp_callSb (As := [_, _, _]) hC (c_X9_isIn hG _ (by omega) (by omega) (by omega)) gX9_move_X9_isIn rfl ⟨rfl, rfl⟩ ⟨by decide, by decide⟩ hySX9_isIn rfl (Nat.le_of_ble_eq_true rfl) dX9_move_12 (fun hx_12 => ?_)
    refine wp_ifb_ne (tgt := 20) hC dX9_move_15 (by decide) (fun c_15 => ?_) (fun c_15 => ?_)
    · refine wp_aload_n hC dX9_move_20 rfl ?_
      refine wp_iload_n hC dX9_move_21 rfl ?_
      refine wp_iconst hC dX9_move_22 ?_
      refine wp_callVb (As := [_, _]) hC (c_X9_isWhat hG _ (by omega) (by omega) (by have := h.2.1.2.2.1 (40 + o) (by omega) (by omega); omega)) gX9_move_X9_isWhat rfl ⟨rfl, rfl⟩ ⟨by decide, by decide⟩ hyVX9_isWhat (rfl) (by decide) (rfl) rfl (Nat.le_of_ble_eq_true rfl) dX9_move_23 (fun hx_23 => ?_)
      refine wp_ifb_eq (tgt := 32) hC dX9_move_26 (by decide) (fun c_26 => ?_) (fun c_26 => ?_)
      · refine wp_aload_n hC dX9_move_32 rfl ?_
        refine wp_callVu (As := []) hC (c_X9_begins hG _) gX9_move_X9_begins rfl ⟨rfl, rfl⟩ ⟨by decide, by decide⟩ hyVX9_begins (rfl) (by decide) (rfl) rfl (Nat.le_of_ble_eq_true rfl) dX9_move_33 ?_
        refine wp_aload_n hC dX9_move_36 rfl ?_
        refine wp_geta (k := 0) hC (rfl) (by decide) (rfl) (rfl) (by decide) uX9_move_X9 fX9_move_9 (rfl) dX9_move_37 ?_
        refine wp_bipush hC dX9_move_40 rfl ?_
        refine wp_iload_n hC dX9_move_42 rfl ?_
        refine wp_iadd hC dX9_move_43 ?_
        refine wp_iload_n hC dX9_move_44 rfl ?_
        refine wp_iast (n := 88) hC (rfl) (Nat.le_of_ble_eq_true rfl) (rfl) (by decide) (by omega) dX9_move_45 ?_
        have hρ : RO (put (cpy σ 1 9 88) 1 (64 + o) q) := RO_w (RO_cpy h) (k := 64 + o) (v := q) (by omega)
        have hbg : BG σ (put (cpy σ 1 9 88) 1 (64 + o) q) := BG_put BG_0 (by omega)
        have e40 : (put (cpy σ 1 9 88) 1 (64 + o) q) 1 (40 + o) = σ 1 (40 + o) := by rw [put_k (by omega)]; rfl
        have hl := h.2.1.2.2.2 (64 + o) (by omega) (by omega)
        have hk := h.2.1.2.2.1 (40 + o) (by omega) (by omega)
        refine wp_aload_n hC dX9_move_46 rfl ?_
        refine wp_iload_n hC dX9_move_47 rfl ?_
        refine wp_iconst hC dX9_move_48 ?_
        refine wp_callVb (As := [_, _]) hC (c_X9_isWhat hG (put (cpy σ 1 9 88) 1 (64 + o) q) (by omega) (by omega) (by rw [e40]; omega)) gX9_move_X9_isWhat rfl ⟨rfl, rfl⟩ ⟨by decide, by decide⟩ hyVX9_isWhat (rfl) (by decide) (rfl) rfl (Nat.le_of_ble_eq_true rfl) dX9_move_49 (fun hx_49 => ?_)
        refine wp_ifb_eq (tgt := 81) hC dX9_move_52 (by decide) (fun c_52 => ?_) (fun c_52 => ?_)
        · refine wp_aload_n hC dX9_move_81 rfl ?_
          refine wp_callVu (As := []) hC (c_X9_changed hG (put (cpy σ 1 9 88) 1 (64 + o) q) hd (show iR (σ 0 5) by omega)) gX9_move_X9_changed rfl ⟨rfl, rfl⟩ ⟨by decide, by decide⟩ hyVX9_changed (rfl) (by decide) (rfl) rfl (Nat.le_of_ble_eq_true rfl) dX9_move_82 ?_
          refine wp_aload_n hC dX9_move_85 rfl ?_
          refine wp_geta (k := 9) hC (rfl) (by decide) (rfl) (rfl) (by decide) uX9_move_X9 fX9_move_36 (rfl) dX9_move_86 ?_
          refine wp_bipush hC dX9_move_89 rfl ?_
          refine wp_iload_n hC dX9_move_91 rfl ?_
          refine wp_iadd hC dX9_move_92 ?_
          refine wp_iald (n := 88) hC (rfl) (Nat.le_of_ble_eq_true rfl) (rfl) (by decide) (by omega) dX9_move_93 ?_
          refine wp_top (b := σ 1 (64 + o)) (BG_9 hd hbg (by omega) (by omega)) ?_
          exact hret _ _ _ _ (by omega) rfl (Or.inr (Or.inr (Or.inr ⟨⟨c_5, c_15⟩, c_26, fun z => c_52 (by rw [e40]; exact z.1), rfl, _, (BG_CG hd hbg).trans (by rw [show (put (cpy σ 1 9 88) 1 (64 + o) q) 1 = up1 (σ 1) (64 + o) q from up1_put])⟩))) dX9_move_94
        · refine wp_aload_n hC dX9_move_55 rfl ?_
          refine wp_aload_n hC dX9_move_56 rfl ?_
          refine wp_iconst hC dX9_move_57 ?_
          refine wp_callVe (As := [_]) hC (c_X9_those hG (put (cpy σ 1 9 88) 1 (64 + o) q) (by omega) (kI hρ) hρ.1) gX9_move_X9_those rfl ⟨rfl, rfl⟩ ⟨by decide, by decide⟩ hyVX9_those (rfl) (by decide) (rfl) rfl (Nat.le_of_ble_eq_true rfl) dX9_move_58 (fun hx_58 => ?_)
          refine wp_top (b := TH (put σ 1 (64 + o) q) 1) rfl ?_
          refine wp_callVi (As := [_]) hC (c_X9_isMet hG (put (cpy σ 1 9 88) 1 (64 + o) q) hρ (bsI hρ.1)) gX9_move_X9_isMet rfl ⟨rfl, rfl⟩ ⟨by decide, by decide⟩ hyVX9_isMet (rfl) (by decide) (rfl) rfl (Nat.le_of_ble_eq_true rfl) dX9_move_61 (fun x_61 s_61 hx_61 hp_61 => ?_)
          obtain ⟨hb_61, hf_61⟩ := hp_61
          obtain ⟨τ1, rfl⟩ := FLP_S1 hf_61
          refine wp_if_ne (tgt := 81) hC dX9_move_64 (by decide) (bP_iR hb_61) (fun c_64 => ?_) (fun c_64 => ?_)
          · refine wp_aload_n hC dX9_move_81 rfl ?_
            refine wp_callVu (As := []) hC (c_X9_changed hG (S1 (put (cpy σ 1 9 88) 1 (64 + o) q) τ1) hd (show iR (σ 0 5) by omega)) gX9_move_X9_changed rfl ⟨rfl, rfl⟩ ⟨by decide, by decide⟩ hyVX9_changed (rfl) (by decide) (rfl) rfl (Nat.le_of_ble_eq_true rfl) dX9_move_82 ?_
            refine wp_aload_n hC dX9_move_85 rfl ?_
            refine wp_geta (k := 9) hC (rfl) (by decide) (rfl) (rfl) (by decide) uX9_move_X9 fX9_move_36 (rfl) dX9_move_86 ?_
            refine wp_bipush hC dX9_move_89 rfl ?_
            refine wp_iload_n hC dX9_move_91 rfl ?_
            refine wp_iadd hC dX9_move_92 ?_
            refine wp_iald (n := 88) hC (rfl) (Nat.le_of_ble_eq_true rfl) (rfl) (by decide) (by omega) dX9_move_93 ?_
            refine wp_top (b := σ 1 (64 + o)) (BG_9 hd (BG_S1 hbg) (by omega) (by omega)) ?_
            exact hret _ _ _ _ (by omega) rfl (Or.inr (Or.inr (Or.inr ⟨⟨c_5, c_15⟩, c_26, fun z => z.2 (bP_1 hb_61 c_64), rfl, _, (BG_CG hd (BG_S1 hbg)).trans (by rw [show S1 (put (cpy σ 1 9 88) 1 (64 + o) q) τ1 1 = up1 (σ 1) (64 + o) q from up1_put])⟩))) dX9_move_94
          · refine wp_aload_n hC dX9_move_67 rfl ?_
            refine wp_geta (k := 9) hC (rfl) (by decide) (rfl) (rfl) (by decide) uX9_move_X9 fX9_move_36 (rfl) dX9_move_68 ?_
            refine wp_aload_n hC dX9_move_71 rfl ?_
            refine wp_geta (k := 0) hC (rfl) (by decide) (rfl) (rfl) (by decide) uX9_move_X9 fX9_move_9 (rfl) dX9_move_72 ?_
            refine wp_callSu (As := [_, _]) hC (c_X9_copies hG (S1 (put (cpy σ 1 9 88) 1 (64 + o) q) τ1) _ _ (by decide) (by decide) rfl rfl rfl rfl) gX9_move_X9_copies rfl ⟨rfl, rfl⟩ ⟨by decide, by decide⟩ hySX9_copies rfl (Nat.le_of_ble_eq_true rfl) dX9_move_75 ?_
            refine wp_bipush hC dX9_move_78 rfl ?_
            exact hret _ _ _ _ (by omega) rfl (Or.inr (Or.inr (Or.inl ⟨⟨c_5, c_15⟩, ⟨by rw [← e40]; exact c_52, bP_0 hb_61 c_64⟩, rfl, _, BG_R (BG_S1 hbg)⟩))) dX9_move_80
      · refine wp_bipush hC dX9_move_29 rfl ?_
        exact hret _ _ _ _ (by omega) rfl (Or.inr (Or.inl ⟨⟨c_5, c_15⟩, c_26, rfl, rfl⟩)) dX9_move_31
    · refine wp_iconst hC dX9_move_18 ?_
      exact hret _ _ _ _ (by omega) rfl (Or.inl ⟨by omega, rfl, rfl⟩) dX9_move_19

theorem hyVX9_swap : yX9_swap.cls = RX9 ∧ yX9_swap.cls ≠ "java/lang/invoke/MethodHandle" ∧ yX9_swap.cls ≠ "java/lang/invoke/VarHandle" ∧ (parseMethodDescriptor yX9_swap.desc).map (fun d => d.parameters.length) = some 2 := by decide +kernel
theorem uX9_swap_X9 : ∀ w ∈ u_ws RX9 TX9 35, w ∈ wsX9_swap := by decide +kernel
theorem fX9_swap_9 : Cond.fieldLink RX9 9 (TX9 0).1 (TX9 0).2.1 (TX9 0).2.2.1 ∈ wsX9_swap := by decide +kernel
theorem fX9_swap_36 : Cond.fieldLink RX9 36 (TX9 9).1 (TX9 9).2.1 (TX9 9).2.2.1 ∈ wsX9_swap := by decide +kernel
set_option maxHeartbeats 4000000 in
set_option maxRecDepth 100000 in
theorem c_X9_swap {l : Launch} {G : Gy} (hG : Inj G) (σ : St) {o r : Int} (h : RO σ) (hd : 0 ≤ σ 0 11 ∧ σ 0 11 ≤ 12) (ho : iR o) (hr : iR r) : MI l yX9_swap wsX9_swap ({ frames := 5, cells := 0, slots := 0, locals := 113 } : Room) G [.ref (G.2.2 0), .int (zI (o)), .int (zI (r))] σ (fun x σ2 => (¬ ((0 ≤ o ∧ o < σ 0 5) ∧ (0 ≤ r ∧ r < σ 0 5) ∧ o ≠ r) ∧ x = -1 ∧ σ2 = σ) ∨ (((0 ≤ o ∧ o < σ 0 5) ∧ (0 ≤ r ∧ r < σ 0 5) ∧ o ≠ r) ∧ ¬ (σ 1 (40 + o) = 1 ∧ σ 1 (40 + r) = 1) ∧ x = -5 ∧ σ2 = σ) ∨ (((0 ≤ o ∧ o < σ 0 5) ∧ (0 ≤ r ∧ r < σ 0 5) ∧ o ≠ r) ∧ (σ 1 (40 + o) = 1 ∧ σ 1 (40 + r) = 1) ∧ ¬ MET (put (put σ 1 (64 + o) (σ 1 (64 + r))) 1 (64 + r) (σ 1 (64 + o))) (tb (TH (put (put σ 1 (64 + o) (σ 1 (64 + r))) 1 (64 + r) (σ 1 (64 + o))) 1)) ∧ x = -2 ∧ ∃ τ, σ2 = SC σ τ) ∨ (((0 ≤ o ∧ o < σ 0 5) ∧ (0 ≤ r ∧ r < σ 0 5) ∧ o ≠ r) ∧ (σ 1 (40 + o) = 1 ∧ σ 1 (40 + r) = 1) ∧ MET (put (put σ 1 (64 + o) (σ 1 (64 + r))) 1 (64 + r) (σ 1 (64 + o))) (tb (TH (put (put σ 1 (64 + o) (σ 1 (64 + r))) 1 (64 + r) (σ 1 (64 + o))) 1)) ∧ x = 1 ∧ ∃ τ, σ2 = SC (CG σ (up1 (up1 (σ 1) (64 + o) (σ 1 (64 + r))) (64 + r) (σ 1 (64 + o)))) τ)) := by
  refine MI.of hG (by decide +kernel) rfl rfl (Nat.le_of_ble_eq_true rfl) rfl ?_
  intro p e s m args below meth c H0 Q hC hret
  have hn := h.1
  refine wp_aload_n hC dX9_swap_0 rfl ?_
  refine wp_iload_n hC dX9_swap_1 rfl ?_
  refine wp_callVb (As := [_]) hC (c_X9_isOrder hG _ (by omega) h.1) gX9_swap_X9_isOrder rfl ⟨rfl, rfl⟩ ⟨by decide, by decide⟩ hyVX9_isOrder (rfl) (by decide) (rfl) rfl (Nat.le_of_ble_eq_true rfl) dX9_swap_2 (fun hx_2 => ?_)
  refine wp_ifb_eq (tgt := 21) hC dX9_swap_5 (by decide) (fun c_5 => ?_) (fun c_5 => ?_)
  · refine wp_iconst hC dX9_swap_21 ?_
    exact hret _ _ _ _ (by omega) rfl (Or.inl ⟨by omega, rfl, rfl⟩) dX9_swap_22
  · refine wp_aload_n hC dX9_swap_8 rfl ?_
    refine wp_iload_n hC dX9_swap_9 rfl ?_
    refine wp_callVb (As := [_]) hC (c_X9_isOrder hG _ (by omega) h.1) gX9_swap_X9_isOrder rfl ⟨rfl, rfl⟩ ⟨by decide, by decide⟩ hyVX9_isOrder (rfl) (by decide) (rfl) rfl (Nat.le_of_ble_eq_true rfl) dX9_swap_10 (fun hx_10 => ?_)
    refine wp_ifb_eq (tgt := 21) hC dX9_swap_13 (by decide) (fun c_13 => ?_) (fun c_13 => ?_)
    · refine wp_iconst hC dX9_swap_21 ?_
      exact hret _ _ _ _ (by omega) rfl (Or.inl ⟨by omega, rfl, rfl⟩) dX9_swap_22
    · refine wp_iload_n hC dX9_swap_16 rfl ?_
      refine wp_iload_n hC dX9_swap_17 rfl ?_
      refine wp_icmp_ne (tgt := 23) hC dX9_swap_18 (by decide) (by omega) (by omega) (fun c_18 => ?_) (fun c_18 => ?_)
      · refine wp_aload_n hC dX9_swap_23 rfl ?_
        refine wp_iload_n hC dX9_swap_24 rfl ?_
        refine wp_iconst hC dX9_swap_25 ?_
        refine wp_callVb (As := [_, _]) hC (c_X9_isWhat hG _ (by omega) (by omega) (by have := h.2.1.2.2.1 (40 + o) (by omega) (by omega); omega)) gX9_swap_X9_isWhat rfl ⟨rfl, rfl⟩ ⟨by decide, by decide⟩ hyVX9_isWhat (rfl) (by decide) (rfl) rfl (Nat.le_of_ble_eq_true rfl) dX9_swap_26 (fun hx_26 => ?_)
        refine wp_ifb_eq (tgt := 41) hC dX9_swap_29 (by decide) (fun c_29 => ?_) (fun c_29 => ?_)
        · refine wp_bipush hC dX9_swap_41 rfl ?_
          exact hret _ _ _ _ (by omega) rfl (Or.inr (Or.inl ⟨⟨by omega, by omega, by omega⟩, by omega, rfl, rfl⟩)) dX9_swap_43
        · refine wp_aload_n hC dX9_swap_32 rfl ?_
          refine wp_iload_n hC dX9_swap_33 rfl ?_
          refine wp_iconst hC dX9_swap_34 ?_
          refine wp_callVb (As := [_, _]) hC (c_X9_isWhat hG _ (by omega) (by omega) (by have := h.2.1.2.2.1 (40 + r) (by omega) (by omega); omega)) gX9_swap_X9_isWhat rfl ⟨rfl, rfl⟩ ⟨by decide, by decide⟩ hyVX9_isWhat (rfl) (by decide) (rfl) rfl (Nat.le_of_ble_eq_true rfl) dX9_swap_35 (fun hx_35 => ?_)
          refine wp_ifb_ne (tgt := 44) hC dX9_swap_38 (by decide) (fun c_38 => ?_) (fun c_38 => ?_)
          · have hlo := h.2.1.2.2.2 (64 + o) (by omega) (by omega)
            have hlr := h.2.1.2.2.2 (64 + r) (by omega) (by omega)
            refine wp_aload_n hC dX9_swap_44 rfl ?_
            refine wp_callVu (As := []) hC (c_X9_begins hG _) gX9_swap_X9_begins rfl ⟨rfl, rfl⟩ ⟨by decide, by decide⟩ hyVX9_begins (rfl) (by decide) (rfl) rfl (Nat.le_of_ble_eq_true rfl) dX9_swap_45 ?_
            refine wp_aload_n hC dX9_swap_48 rfl ?_
            refine wp_geta (k := 0) hC (rfl) (by decide) (rfl) (rfl) (by decide) uX9_swap_X9 fX9_swap_9 (rfl) dX9_swap_49 ?_
            refine wp_bipush hC dX9_swap_52 rfl ?_
            refine wp_iload_n hC dX9_swap_54 rfl ?_
            refine wp_iadd hC dX9_swap_55 ?_
            refine wp_aload_n hC dX9_swap_56 rfl ?_
            refine wp_geta (k := 9) hC (rfl) (by decide) (rfl) (rfl) (by decide) uX9_swap_X9 fX9_swap_36 (rfl) dX9_swap_57 ?_
            refine wp_bipush hC dX9_swap_60 rfl ?_
            refine wp_iload_n hC dX9_swap_62 rfl ?_
            refine wp_iadd hC dX9_swap_63 ?_
            refine wp_iald (n := 88) hC (rfl) (Nat.le_of_ble_eq_true rfl) (rfl) (by decide) (by omega) dX9_swap_64 ?_
            refine wp_top (b := σ 1 (64 + r)) (cpy19 (by omega) (by omega)) ?_
            refine wp_iast (n := 88) hC (rfl) (Nat.le_of_ble_eq_true rfl) (rfl) (by decide) (by omega) dX9_swap_65 ?_
            refine wp_aload_n hC dX9_swap_66 rfl ?_
            refine wp_geta (k := 0) hC (rfl) (by decide) (rfl) (rfl) (by decide) uX9_swap_X9 fX9_swap_9 (rfl) dX9_swap_67 ?_
            refine wp_bipush hC dX9_swap_70 rfl ?_
            refine wp_iload_n hC dX9_swap_72 rfl ?_
            refine wp_iadd hC dX9_swap_73 ?_
            refine wp_aload_n hC dX9_swap_74 rfl ?_
            refine wp_geta (k := 9) hC (rfl) (by decide) (rfl) (rfl) (by decide) uX9_swap_X9 fX9_swap_36 (rfl) dX9_swap_75 ?_
            refine wp_bipush hC dX9_swap_78 rfl ?_
            refine wp_iload_n hC dX9_swap_80 rfl ?_
            refine wp_iadd hC dX9_swap_81 ?_
            refine wp_iald (n := 88) hC (rfl) (Nat.le_of_ble_eq_true rfl) (rfl) (by decide) (by omega) dX9_swap_82 ?_
            refine wp_top (b := σ 1 (64 + o)) (by rw [put_i (by decide)]; exact cpy19 (by omega) (by omega)) ?_
            refine wp_iast (n := 88) hC (rfl) (Nat.le_of_ble_eq_true rfl) (rfl) (by decide) (by omega) dX9_swap_83 ?_
            have hρ : RO (put (put (cpy σ 1 9 88) 1 (64 + o) (σ 1 (64 + r))) 1 (64 + r) (σ 1 (64 + o))) := RO_w (RO_w (RO_cpy h) (k := 64 + o) (v := σ 1 (64 + r)) (by omega)) (k := 64 + r) (v := σ 1 (64 + o)) (by omega)
            have hbg : BG σ (put (put (cpy σ 1 9 88) 1 (64 + o) (σ 1 (64 + r))) 1 (64 + r) (σ 1 (64 + o))) := BG_put (BG_put BG_0 (by omega)) (by omega)
            have ew : (put (put (cpy σ 1 9 88) 1 (64 + o) (σ 1 (64 + r))) 1 (64 + r) (σ 1 (64 + o))) 1 = up1 (up1 (σ 1) (64 + o) (σ 1 (64 + r))) (64 + r) (σ 1 (64 + o)) := by rw [up1_put, up1_put]; rfl
            refine wp_aload_n hC dX9_swap_84 rfl ?_
            refine wp_aload_n hC dX9_swap_85 rfl ?_
            refine wp_iconst hC dX9_swap_86 ?_
            refine wp_callVe (As := [_]) hC (c_X9_those hG (put (put (cpy σ 1 9 88) 1 (64 + o) (σ 1 (64 + r))) 1 (64 + r) (σ 1 (64 + o))) (by omega) (kI hρ) hρ.1) gX9_swap_X9_those rfl ⟨rfl, rfl⟩ ⟨by decide, by decide⟩ hyVX9_those (rfl) (by decide) (rfl) rfl (Nat.le_of_ble_eq_true rfl) dX9_swap_87 (fun hx_87 => ?_)
            refine wp_top (b := TH (put (put σ 1 (64 + o) (σ 1 (64 + r))) 1 (64 + r) (σ 1 (64 + o))) 1) rfl ?_
            refine wp_callVi (As := [_]) hC (c_X9_isMet hG (put (put (cpy σ 1 9 88) 1 (64 + o) (σ 1 (64 + r))) 1 (64 + r) (σ 1 (64 + o))) hρ (bsI hρ.1)) gX9_swap_X9_isMet rfl ⟨rfl, rfl⟩ ⟨by decide, by decide⟩ hyVX9_isMet (rfl) (by decide) (rfl) rfl (Nat.le_of_ble_eq_true rfl) dX9_swap_90 (fun x_90 s_90 hx_90 hp_90 => ?_)
            obtain ⟨hb_90, hf_90⟩ := hp_90
            obtain ⟨τ1, rfl⟩ := FLP_S1 hf_90
            refine wp_if_ne (tgt := 110) hC dX9_swap_93 (by decide) (bP_iR hb_90) (fun c_93 => ?_) (fun c_93 => ?_)
            · refine wp_aload_n hC dX9_swap_110 rfl ?_
              refine wp_callVu (As := []) hC (c_X9_changed hG (S1 (put (put (cpy σ 1 9 88) 1 (64 + o) (σ 1 (64 + r))) 1 (64 + r) (σ 1 (64 + o))) τ1) hd (show iR (σ 0 5) by omega)) gX9_swap_X9_changed rfl ⟨rfl, rfl⟩ ⟨by decide, by decide⟩ hyVX9_changed (rfl) (by decide) (rfl) rfl (Nat.le_of_ble_eq_true rfl) dX9_swap_111 ?_
              refine wp_iconst hC dX9_swap_114 ?_
              exact hret _ _ _ _ (by omega) rfl (Or.inr (Or.inr (Or.inr ⟨⟨by omega, by omega, by omega⟩, ⟨c_29, c_38⟩, bP_1 hb_90 c_93, rfl, _, (BG_CG hd (BG_S1 hbg)).trans (by rw [show S1 (put (put (cpy σ 1 9 88) 1 (64 + o) (σ 1 (64 + r))) 1 (64 + r) (σ 1 (64 + o))) τ1 1 = up1 (up1 (σ 1) (64 + o) (σ 1 (64 + r))) (64 + r) (σ 1 (64 + o)) from ew])⟩))) dX9_swap_115
            · refine wp_aload_n hC dX9_swap_96 rfl ?_
              refine wp_geta (k := 9) hC (rfl) (by decide) (rfl) (rfl) (by decide) uX9_swap_X9 fX9_swap_36 (rfl) dX9_swap_97 ?_
              refine wp_aload_n hC dX9_swap_100 rfl ?_
              refine wp_geta (k := 0) hC (rfl) (by decide) (rfl) (rfl) (by decide) uX9_swap_X9 fX9_swap_9 (rfl) dX9_swap_101 ?_
              refine wp_callSu (As := [_, _]) hC (c_X9_copies hG (S1 (put (put (cpy σ 1 9 88) 1 (64 + o) (σ 1 (64 + r))) 1 (64 + r) (σ 1 (64 + o))) τ1) _ _ (by decide) (by decide) rfl rfl rfl rfl) gX9_swap_X9_copies rfl ⟨rfl, rfl⟩ ⟨by decide, by decide⟩ hySX9_copies rfl (Nat.le_of_ble_eq_true rfl) dX9_swap_104 ?_
              refine wp_bipush hC dX9_swap_107 rfl ?_
              exact hret _ _ _ _ (by omega) rfl (Or.inr (Or.inr (Or.inl ⟨⟨by omega, by omega, by omega⟩, ⟨c_29, c_38⟩, bP_0 hb_90 c_93, rfl, _, BG_R (BG_S1 hbg)⟩))) dX9_swap_109
          · refine wp_bipush hC dX9_swap_41 rfl ?_
            exact hret _ _ _ _ (by omega) rfl (Or.inr (Or.inl ⟨⟨by omega, by omega, by omega⟩, by omega, rfl, rfl⟩)) dX9_swap_43
      · refine wp_iconst hC dX9_swap_21 ?_
        exact hret _ _ _ _ (by omega) rfl (Or.inl ⟨by omega, rfl, rfl⟩) dX9_swap_22

theorem hyVX9_hinders : yX9_hinders.cls = RX9 ∧ yX9_hinders.cls ≠ "java/lang/invoke/MethodHandle" ∧ yX9_hinders.cls ≠ "java/lang/invoke/VarHandle" ∧ (parseMethodDescriptor yX9_hinders.desc).map (fun d => d.parameters.length) = some 2 := by decide +kernel
theorem uX9_hinders_X9 : ∀ w ∈ u_ws RX9 TX9 35, w ∈ wsX9_hinders := by decide +kernel
theorem fX9_hinders_147 : Cond.fieldLink RX9 147 (TX9 15).1 (TX9 15).2.1 (TX9 15).2.2.1 ∈ wsX9_hinders := by decide +kernel
theorem fX9_hinders_156 : Cond.fieldLink RX9 156 (TX9 14).1 (TX9 14).2.1 (TX9 14).2.2.1 ∈ wsX9_hinders := by decide +kernel
set_option maxHeartbeats 4000000 in
set_option maxRecDepth 100000 in
theorem c_X9_hinders {l : Launch} {G : Gy} (hG : Inj G) (σ : St) {o q : Int} (h : RO σ) (ho : iR o) (hq : iR q) : MI l yX9_hinders wsX9_hinders ({ frames := 4, cells := 0, slots := 0, locals := 92 } : Room) G [.ref (G.2.2 0), .int (zI (o)), .int (zI (q))] σ (fun x σ2 => (¬ ((0 ≤ o ∧ o < σ 0 5) ∧ (-1 ≤ q ∧ q ≤ 0)) ∧ x = -1 ∧ σ2 = σ) ∨ (((0 ≤ o ∧ o < σ 0 5) ∧ (-1 ≤ q ∧ q ≤ 0)) ∧ σ 1 (40 + o) ≠ 0 ∧ x = -5 ∧ σ2 = σ) ∨ (((0 ≤ o ∧ o < σ 0 5) ∧ (-1 ≤ q ∧ q ≤ 0)) ∧ σ 1 (40 + o) = 0 ∧ ∃ k0 τ, σ2 = SC σ τ ∧ fst (LK σ (tb (ior (TH σ 1) (pw o)))) 2197 k0 ∧ ((0 ≤ LK σ (tb (ior (TH σ 1) (pw o))) k0 ∧ x = -2) ∨ (LK σ (tb (ior (TH σ 1) (pw o))) k0 < 0 ∧ q = -1 ∧ x = stp k0) ∨ (LK σ (tb (ior (TH σ 1) (pw o))) k0 < 0 ∧ q = 0 ∧ x = 100000 + LK σ (tb (ior (TH σ 1) (pw o))) k0)))) := by
  refine MI.of hG (by decide +kernel) rfl rfl (Nat.le_of_ble_eq_true rfl) rfl ?_
  intro p e s m args below meth c H0 Q hC hret
  have hn := h.1
  refine wp_aload_n hC dX9_hinders_0 rfl ?_
  refine wp_iload_n hC dX9_hinders_1 rfl ?_
  refine wp_callVb (As := [_]) hC (c_X9_isOrder hG _ (by omega) h.1) gX9_hinders_X9_isOrder rfl ⟨rfl, rfl⟩ ⟨by decide, by decide⟩ hyVX9_isOrder (rfl) (by decide) (rfl) rfl (Nat.le_of_ble_eq_true rfl) dX9_hinders_2 (fun hx_2 => ?_)
  refine wp_ifb_eq (tgt := 17) hC dX9_hinders_5 (by decide) (fun c_5 => ?_) (fun c_5 => ?_)
  · refine wp_iconst hC dX9_hinders_17 ?_
    exact hret _ _ _ _ (by omega) rfl (Or.inl ⟨by omega, rfl, rfl⟩) dX9_hinders_18
  · refine wp_iload_n hC dX9_hinders_8 rfl ?_
    refine wp_iconst hC dX9_hinders_9 ?_
    refine wp_iconst hC dX9_hinders_10 ?_
    refine wp_callSb (As := [_, _, _]) hC (c_X9_isIn hG _ (by omega) (by omega) (by omega)) gX9_hinders_X9_isIn rfl ⟨rfl, rfl⟩ ⟨by decide, by decide⟩ hySX9_isIn rfl (Nat.le_of_ble_eq_true rfl) dX9_hinders_11 (fun hx_11 => ?_)
    refine wp_ifb_ne (tgt := 19) hC dX9_hinders_14 (by decide) (fun c_14 => ?_) (fun c_14 => ?_)
    · refine wp_aload_n hC dX9_hinders_19 rfl ?_
      refine wp_iload_n hC dX9_hinders_20 rfl ?_
      refine wp_iconst hC dX9_hinders_21 ?_
      refine wp_callVb (As := [_, _]) hC (c_X9_isWhat hG _ (by omega) (by omega) (by have := h.2.1.2.2.1 (40 + o) (by omega) (by omega); omega)) gX9_hinders_X9_isWhat rfl ⟨rfl, rfl⟩ ⟨by decide, by decide⟩ hyVX9_isWhat (rfl) (by decide) (rfl) rfl (Nat.le_of_ble_eq_true rfl) dX9_hinders_22 (fun hx_22 => ?_)
      refine wp_ifb_ne (tgt := 31) hC dX9_hinders_25 (by decide) (fun c_25 => ?_) (fun c_25 => ?_)
      · refine wp_aload_n hC dX9_hinders_31 rfl ?_
        refine wp_aload_n hC dX9_hinders_32 rfl ?_
        refine wp_iconst hC dX9_hinders_33 ?_
        refine wp_callVe (As := [_]) hC (c_X9_those hG _ (by omega) (kI h) h.1) gX9_hinders_X9_those rfl ⟨rfl, rfl⟩ ⟨by decide, by decide⟩ hyVX9_those (rfl) (by decide) (rfl) rfl (Nat.le_of_ble_eq_true rfl) dX9_hinders_34 (fun hx_34 => ?_)
        refine wp_iconst hC dX9_hinders_37 ?_
        refine wp_iload_n hC dX9_hinders_38 rfl ?_
        refine wp_ishl hC dX9_hinders_39 ?_
        refine wp_top (b := pw o) (ishl_1 (by omega) (by omega)) ?_
        have hp0 := pw_pos o
        have hp1 : pw o ≤ pw 24 := pw_le (by omega)
        have h24 : pw 24 = 16777216 := by decide
        refine wp_ior hC dX9_hinders_40 ?_
        refine wp_top (b := (ior (TH σ 1) (pw o))) rfl ?_
        refine wp_callVv (As := [_]) hC (c_X9_findLeast hG _ h (ior_nn (bsI h.1) (by omega))) gX9_hinders_X9_findLeast rfl ⟨rfl, rfl⟩ ⟨by decide, by decide⟩ hyVX9_findLeast (rfl) (by decide) (rfl) rfl (Nat.le_of_ble_eq_true rfl) dX9_hinders_41 (fun s_41 hp_41 => ?_)
        obtain ⟨k0, τ, hf, rfl, e15, e14, -⟩ := hp_41
        have hL := LK_rng h (tb (ior (TH σ 1) (pw o))) hf.1 hf.2.1
        have hsr : 0 ≤ stp k0 ∧ stp k0 ≤ 121212 := by have := hf.1; have := hf.2.1; unfold stp; omega
        refine wp_aload_n hC dX9_hinders_44 rfl ?_
        refine wp_geti (k := 15) (z := 15) hC rfl (rfl) (by decide) (rfl) (rfl) (by decide) uX9_hinders_X9 fX9_hinders_147 (rfl) dX9_hinders_45 ?_
        refine wp_top (b := LK σ (tb (ior (TH σ 1) (pw o))) k0) e15 ?_
        refine wp_if_lt (tgt := 54) hC dX9_hinders_48 (by decide) (by omega) (fun c_48 => ?_) (fun c_48 => ?_)
        · refine wp_iload_n hC dX9_hinders_54 rfl ?_
          refine wp_if_ge (tgt := 65) hC dX9_hinders_55 (by decide) (by omega) (fun c_55 => ?_) (fun c_55 => ?_)
          · refine wp_ldc (n := 100000) hC dX9_hinders_65 (by decide +kernel) ?_
            refine wp_aload_n hC dX9_hinders_67 rfl ?_
            refine wp_geti (k := 15) (z := 15) hC rfl (rfl) (by decide) (rfl) (rfl) (by decide) uX9_hinders_X9 fX9_hinders_147 (rfl) dX9_hinders_68 ?_
            refine wp_top (b := LK σ (tb (ior (TH σ 1) (pw o))) k0) e15 ?_
            refine wp_iadd hC dX9_hinders_71 ?_
            exact hret _ _ _ _ (by omega) rfl (Or.inr (Or.inr ⟨⟨c_5, c_14⟩, c_25, k0, _, S1_SC _ _, hf, Or.inr (Or.inr ⟨c_48, by omega, rfl⟩)⟩)) dX9_hinders_72
          · refine wp_aload_n hC dX9_hinders_58 rfl ?_
            refine wp_geti (k := 14) (z := 14) hC rfl (rfl) (by decide) (rfl) (rfl) (by decide) uX9_hinders_X9 fX9_hinders_156 (rfl) dX9_hinders_59 ?_
            refine wp_top (b := stp k0) e14 ?_
            refine wp_goto (tgt := 72) hC dX9_hinders_62 (by decide) ?_
            exact hret _ _ _ _ (by omega) rfl (Or.inr (Or.inr ⟨⟨c_5, c_14⟩, c_25, k0, _, S1_SC _ _, hf, Or.inr (Or.inl ⟨c_48, by omega, rfl⟩)⟩)) dX9_hinders_72
        · refine wp_bipush hC dX9_hinders_51 rfl ?_
          exact hret _ _ _ _ (by omega) rfl (Or.inr (Or.inr ⟨⟨c_5, c_14⟩, c_25, k0, _, S1_SC _ _, hf, Or.inl ⟨c_48, rfl⟩⟩)) dX9_hinders_53
      · refine wp_bipush hC dX9_hinders_28 rfl ?_
        exact hret _ _ _ _ (by omega) rfl (Or.inr (Or.inl ⟨⟨c_5, c_14⟩, c_25, rfl, rfl⟩)) dX9_hinders_30
    · refine wp_iconst hC dX9_hinders_17 ?_
      exact hret _ _ _ _ (by omega) rfl (Or.inl ⟨by omega, rfl, rfl⟩) dX9_hinders_18

theorem hyVX9_left : yX9_left.cls = RX9 ∧ yX9_left.cls ≠ "java/lang/invoke/MethodHandle" ∧ yX9_left.cls ≠ "java/lang/invoke/VarHandle" ∧ (parseMethodDescriptor yX9_left.desc).map (fun d => d.parameters.length) = some 1 := by decide +kernel
set_option maxHeartbeats 4000000 in
set_option maxRecDepth 100000 in
theorem c_X9_left {l : Launch} {G : Gy} (hG : Inj G) (σ : St) {q : Int} (h : RO σ) (hq : iR q) : MI l yX9_left wsX9_left ({ frames := 3, cells := 0, slots := 0, locals := 69 } : Room) G [.ref (G.2.2 0), .int (zI (q))] σ (fun x σ2 => (¬ (0 ≤ q ∧ prt q 0 ≤ 12 ∧ prt q 1 ≤ 12 ∧ prt q 2 ≤ 12) ∧ x = -10000 ∧ σ2 = σ) ∨ ((0 ≤ q ∧ prt q 0 ≤ 12 ∧ prt q 1 ≤ 12 ∧ prt q 2 ≤ 12) ∧ x = LFT (σ 1) (σ 0 5) (σ 2) (σ 3) (fun o => σ 1 (64 + o)) (tb (TH σ 1)) (prt q 0) (prt q 1) (prt q 2) ∧ ∃ τ, σ2 = SC σ τ)) := by
  refine MI.of hG (by decide +kernel) rfl rfl (Nat.le_of_ble_eq_true rfl) rfl ?_
  intro p e s m args below meth c H0 Q hC hret
  have hp0 : 0 ≤ q → 0 ≤ prt q 0 ∧ 0 ≤ prt q 1 ∧ 0 ≤ prt q 2 := fun z => by unfold prt; refine ⟨?_, ?_, ?_⟩ <;> (try split) <;> (try split) <;> omega
  refine wp_iload_n hC dX9_left_0 rfl ?_
  refine wp_if_lt (tgt := 34) hC dX9_left_1 (by decide) (by omega) (fun c_1 => ?_) (fun c_1 => ?_)
  · refine wp_sipush hC dX9_left_34 rfl ?_
    exact hret _ _ _ _ (by omega) rfl (Or.inl ⟨by omega, rfl, rfl⟩) dX9_left_37
  · refine wp_iload_n hC dX9_left_4 rfl ?_
    refine wp_iconst hC dX9_left_5 ?_
    refine wp_callSe (As := [_, _]) hC (c_X9_partOf hG _ (by omega) (by omega)) gX9_left_X9_partOf rfl ⟨rfl, rfl⟩ ⟨by decide, by decide⟩ hySX9_partOf rfl (Nat.le_of_ble_eq_true rfl) dX9_left_6 (fun hx_6 => ?_)
    refine wp_bipush hC dX9_left_9 rfl ?_
    refine wp_icmp_gt (tgt := 34) hC dX9_left_11 (by decide) (by omega) (by omega) (fun c_11 => ?_) (fun c_11 => ?_)
    · refine wp_sipush hC dX9_left_34 rfl ?_
      exact hret _ _ _ _ (by omega) rfl (Or.inl ⟨by omega, rfl, rfl⟩) dX9_left_37
    · refine wp_iload_n hC dX9_left_14 rfl ?_
      refine wp_iconst hC dX9_left_15 ?_
      refine wp_callSe (As := [_, _]) hC (c_X9_partOf hG _ (by omega) (by omega)) gX9_left_X9_partOf rfl ⟨rfl, rfl⟩ ⟨by decide, by decide⟩ hySX9_partOf rfl (Nat.le_of_ble_eq_true rfl) dX9_left_16 (fun hx_16 => ?_)
      refine wp_bipush hC dX9_left_19 rfl ?_
      refine wp_icmp_gt (tgt := 34) hC dX9_left_21 (by decide) (by omega) (by omega) (fun c_21 => ?_) (fun c_21 => ?_)
      · refine wp_sipush hC dX9_left_34 rfl ?_
        exact hret _ _ _ _ (by omega) rfl (Or.inl ⟨by omega, rfl, rfl⟩) dX9_left_37
      · refine wp_iload_n hC dX9_left_24 rfl ?_
        refine wp_iconst hC dX9_left_25 ?_
        refine wp_callSe (As := [_, _]) hC (c_X9_partOf hG _ (by omega) (by omega)) gX9_left_X9_partOf rfl ⟨rfl, rfl⟩ ⟨by decide, by decide⟩ hySX9_partOf rfl (Nat.le_of_ble_eq_true rfl) dX9_left_26 (fun hx_26 => ?_)
        refine wp_bipush hC dX9_left_29 rfl ?_
        refine wp_icmp_le (tgt := 38) hC dX9_left_31 (by decide) (by omega) (by omega) (fun c_31 => ?_) (fun c_31 => ?_)
        · refine wp_aload_n hC dX9_left_38 rfl ?_
          refine wp_callVu (As := []) hC (c_X9_findSums hG _ h.2.1.1) gX9_left_X9_findSums rfl ⟨rfl, rfl⟩ ⟨by decide, by decide⟩ hyVX9_findSums (rfl) (by decide) (rfl) rfl (Nat.le_of_ble_eq_true rfl) dX9_left_39 ?_
          refine wp_aload_n hC dX9_left_42 rfl ?_
          refine wp_iload_n hC dX9_left_43 rfl ?_
          refine wp_aload_n hC dX9_left_44 rfl ?_
          refine wp_iconst hC dX9_left_45 ?_
          refine wp_callVe (As := [_]) hC (c_X9_those hG (FSk σ 39) (by omega) (kI h) h.1) gX9_left_X9_those rfl ⟨rfl, rfl⟩ ⟨by decide, by decide⟩ hyVX9_those (rfl) (by decide) (rfl) rfl (Nat.le_of_ble_eq_true rfl) dX9_left_46 (fun hx_46 => ?_)
          refine wp_top (b := TH σ 1) rfl ?_
          refine wp_callVe (As := [_, _]) hC (c_X9_leftAt hG (FSk σ 39) h FSk_SUMS (bsI h.1) (by omega) (fun i a b => by
              have := hp0 c_1
              rcases (show i = 0 ∨ i = 1 ∨ i = 2 by omega) with rfl | rfl | rfl <;> omega)) gX9_left_X9_leftAt rfl ⟨rfl, rfl⟩ ⟨by decide, by decide⟩ hyVX9_leftAt (rfl) (by decide) (rfl) rfl (Nat.le_of_ble_eq_true rfl) dX9_left_49 (fun hx_49 => ?_)
          exact hret _ _ _ _ (hx_49) rfl (Or.inr ⟨by omega, rfl, _, FSk_S1.trans (S1_SC _ _)⟩) dX9_left_52
        · refine wp_sipush hC dX9_left_34 rfl ?_
          exact hret _ _ _ _ (by omega) rfl (Or.inl ⟨by omega, rfl, rfl⟩) dX9_left_37
