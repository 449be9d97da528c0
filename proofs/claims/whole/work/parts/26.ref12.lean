section LNs
variable {tp : Int → Int} {z q : Int} {l : Int × Int}
theorem LNF_1 (h1 : (numF tp z 2 1 60 q).1 < 0) : LNF tp z q (-1) 0 0 0 0 (numF tp z 2 1 60 q).2 := ⟨(0, 0), Or.inl ⟨h1, rfl, rfl⟩⟩
theorem LNF_2 (h1 : 0 ≤ (numF tp z 2 1 60 q).1) (h2 : letF tp z (numF tp z 2 1 60 q).2 l) (h3 : l.1 < 0) : LNF tp z q (-1) 0 0 0 0 l.2 := ⟨l, Or.inr ⟨h1, h2, Or.inl ⟨h3, rfl, rfl⟩⟩⟩
theorem LNF_3 (h1 : 0 ≤ (numF tp z 2 1 60 q).1) (h2 : letF tp z (numF tp z 2 1 60 q).2 l) (h3 : 0 ≤ l.1) (h4 : ch tp z l.2 ≠ 64) : LNF tp z q (-1) 0 0 0 0 l.2 := ⟨l, Or.inr ⟨h1, h2, Or.inr (Or.inl ⟨h3, h4, rfl, rfl⟩)⟩⟩
theorem LNF_4 (h1 : 0 ≤ (numF tp z 2 1 60 q).1) (h2 : letF tp z (numF tp z 2 1 60 q).2 l) (h3 : 0 ≤ l.1) (h4 : ch tp z l.2 = 64) (h5 : (numF tp z 2 0 11 (l.2 + 1)).1 < 0) : LNF tp z q (-1) 0 0 0 0 (numF tp z 2 0 11 (l.2 + 1)).2 := ⟨l, Or.inr ⟨h1, h2, Or.inr (Or.inr ⟨h3, h4, Or.inl ⟨h5, rfl, rfl⟩⟩)⟩⟩
theorem LNF_5 (h1 : 0 ≤ (numF tp z 2 1 60 q).1) (h2 : letF tp z (numF tp z 2 1 60 q).2 l) (h3 : 0 ≤ l.1) (h4 : ch tp z l.2 = 64) (h5 : 0 ≤ (numF tp z 2 0 11 (l.2 + 1)).1) {g : Int × Int} (hg : optF tp z 103 3 (numF tp z 2 0 11 (l.2 + 1)).2 = g) (h6 : g.1 < 0) : LNF tp z q (-1) 0 0 0 0 g.2 := by
  subst hg
  exact ⟨l, Or.inr ⟨h1, h2, Or.inr (Or.inr ⟨h3, h4, Or.inr ⟨h5, Or.inl ⟨h6, rfl, rfl⟩⟩⟩)⟩⟩
theorem LNF_6 (h1 : 0 ≤ (numF tp z 2 1 60 q).1) (h2 : letF tp z (numF tp z 2 1 60 q).2 l) (h3 : 0 ≤ l.1) (h4 : ch tp z l.2 = 64) (h5 : 0 ≤ (numF tp z 2 0 11 (l.2 + 1)).1) {g r : Int × Int} (hg : optF tp z 103 3 (numF tp z 2 0 11 (l.2 + 1)).2 = g) (h6 : 0 ≤ g.1) (hr : optF tp z 114 9 g.2 = r) (h7 : r.1 < 0) : LNF tp z q (-1) 0 0 0 0 r.2 := by
  subst hr
  subst hg
  exact ⟨l, Or.inr ⟨h1, h2, Or.inr (Or.inr ⟨h3, h4, Or.inr ⟨h5, Or.inr ⟨h6, Or.inl ⟨h7, rfl, rfl⟩⟩⟩⟩)⟩⟩
theorem LNF_7 (h1 : 0 ≤ (numF tp z 2 1 60 q).1) (h2 : letF tp z (numF tp z 2 1 60 q).2 l) (h3 : 0 ≤ l.1) (h4 : ch tp z l.2 = 64) (h5 : 0 ≤ (numF tp z 2 0 11 (l.2 + 1)).1) {g r : Int × Int} (hg : optF tp z 103 3 (numF tp z 2 0 11 (l.2 + 1)).2 = g) (h6 : 0 ≤ g.1) (hr : optF tp z 114 9 g.2 = r) (h7 : 0 ≤ r.1) : LNF tp z q (numF tp z 2 1 60 q).1 l.1 (numF tp z 2 0 11 (l.2 + 1)).1 g.1 r.1 r.2 := by
  subst hr
  subst hg
  exact ⟨l, Or.inr ⟨h1, h2, Or.inr (Or.inr ⟨h3, h4, Or.inr ⟨h5, Or.inr ⟨h6, Or.inr ⟨h7, rfl, rfl, rfl, rfl, rfl, rfl⟩⟩⟩⟩)⟩⟩
theorem optF_y {c hi : Int} (h : ch tp z q = c) : optF tp z c hi q = numF tp z 1 0 hi (q + 1) := if_pos h
theorem optF_n {c hi : Int} (h : ch tp z q ≠ c) : optF tp z c hi q = (0, q) := if_neg h
end LNs
theorem PF_SC {σ ρ : St} {a b : Int} (h : ρ = SC σ ρ) : PF ρ a b = SC σ (PF ρ a b) := SC_putS (SC_putS h rfl) rfl

theorem hyVX9_readsLine : yX9_readsLine.cls = RX9 ∧ yX9_readsLine.cls ≠ "java/lang/invoke/MethodHandle" ∧ yX9_readsLine.cls ≠ "java/lang/invoke/VarHandle" ∧ (parseMethodDescriptor yX9_readsLine.desc).map (fun d => d.parameters.length) = some 0 := by decide +kernel
theorem uX9_readsLine_X9 : ∀ w ∈ u_ws RX9 TX9 35, w ∈ wsX9_readsLine := by decide +kernel
theorem fX9_readsLine_52 : Cond.fieldLink RX9 52 (TX9 21).1 (TX9 21).2.1 (TX9 21).2.2.1 ∈ wsX9_readsLine := by decide +kernel
theorem fX9_readsLine_170 : Cond.fieldLink RX9 170 (TX9 19).1 (TX9 19).2.1 (TX9 19).2.2.1 ∈ wsX9_readsLine := by decide +kernel
set_option maxHeartbeats 8000000 in
set_option maxRecDepth 100000 in
theorem c_X9_readsLine {l : Launch} {G : Gy} (hG : Inj G) (σ : St) (hz : 0 ≤ σ 0 18 ∧ σ 0 18 ≤ 100) (ht : ∀ j, 0 ≤ j → j < σ 0 18 → 0 ≤ σ 12 j ∧ σ 12 j ≤ 126) (hp : 0 ≤ σ 0 19 ∧ σ 0 19 ≤ σ 0 18) : MI l yX9_readsLine wsX9_readsLine ({ frames := 3, cells := 0, slots := 0, locals := 69 } : Room) G [.ref (G.2.2 0)] σ (fun x σ2 => ∃ am it la gr rk e, LNF (σ 12) (σ 0 18) (σ 0 19) am it la gr rk e ∧ σ2 = SC σ σ2 ∧ (0 ≤ σ2 0 19 ∧ σ2 0 19 ≤ σ 0 18) ∧ ((0 ≤ am ∧ x = 1 ∧ σ2 0 19 = e ∧ σ2 13 0 = am ∧ σ2 13 1 = it ∧ σ2 13 2 = la ∧ σ2 13 3 = gr ∧ σ2 13 4 = rk) ∨ (am < 0 ∧ x = 0 ∧ σ2 0 20 = e))) := by
  refine MI.of hG (by decide +kernel) rfl rfl (Nat.le_of_ble_eq_true rfl) rfl ?_
  intro p e s m args below meth c H0 Q hC hret
  refine wp_aload_n hC dX9_readsLine_0 rfl ?_
  refine wp_geta (k := 21) hC (rfl) (by decide) (rfl) (rfl) (by decide) uX9_readsLine_X9 fX9_readsLine_52 (rfl) dX9_readsLine_1 ?_
  refine wp_iconst hC dX9_readsLine_4 ?_
  refine wp_aload_n hC dX9_readsLine_5 rfl ?_
  refine wp_iconst hC dX9_readsLine_6 ?_
  refine wp_iconst hC dX9_readsLine_7 ?_
  refine wp_bipush hC dX9_readsLine_8 rfl ?_
  refine wp_callVi (As := [_, _, _]) hC (c_X9_number hG σ hz ht hp (Or.inr rfl) (by decide) (by decide)) gX9_readsLine_X9_number rfl ⟨rfl, rfl⟩ ⟨by decide, by decide⟩ hyVX9_number (rfl) (by decide) (rfl) rfl (Nat.le_of_ble_eq_true rfl) dX9_readsLine_10 (fun x_10 s_10 hx_10 hp_10 => ?_)
  obtain ⟨a1, b1, rfl, ha1, h1⟩ := hp_10
  have ha1 : 0 ≤ a1 ∧ a1 ≤ σ 0 18 := ha1
  refine wp_iast (n := 5) hC (rfl) (Nat.le_of_ble_eq_true rfl) (rfl) (by decide) (by omega) dX9_readsLine_13 ?_
  refine wp_aload_n hC dX9_readsLine_14 rfl ?_
  refine wp_geta (k := 21) hC (rfl) (by decide) (rfl) (rfl) (by decide) uX9_readsLine_X9 fX9_readsLine_52 (rfl) dX9_readsLine_15 ?_
  refine wp_iconst hC dX9_readsLine_18 ?_
  refine wp_iald (n := 5) hC (rfl) (Nat.le_of_ble_eq_true rfl) (rfl) (by decide) (by omega) dX9_readsLine_19 ?_
  refine wp_top (b := x_10) rfl ?_
  refine wp_if_ge (tgt := 25) hC dX9_readsLine_20 (by decide) (by omega) (fun c_20 => ?_) (fun c_20 => ?_)
  · have k1 : 0 ≤ (numF (σ 12) (σ 0 18) 2 1 60 (σ 0 19)).1 ∧ x_10 = (numF (σ 12) (σ 0 18) 2 1 60 (σ 0 19)).1 ∧ a1 = (numF (σ 12) (σ 0 18) 2 1 60 (σ 0 19)).2 := by
      rcases h1 with q | q
      · exact q
      · omega
    refine wp_aload_n hC dX9_readsLine_25 rfl ?_
    refine wp_geta (k := 21) hC (rfl) (by decide) (rfl) (rfl) (by decide) uX9_readsLine_X9 fX9_readsLine_52 (rfl) dX9_readsLine_26 ?_
    refine wp_iconst hC dX9_readsLine_29 ?_
    refine wp_aload_n hC dX9_readsLine_30 rfl ?_
    refine wp_callVi (As := []) hC (c_X9_letters hG (put (PF σ a1 b1) 13 0 x_10) hz ht (show 0 ≤ a1 ∧ a1 ≤ σ 0 18 by omega)) gX9_readsLine_X9_letters rfl ⟨rfl, rfl⟩ ⟨by decide, by decide⟩ hyVX9_letters (rfl) (by decide) (rfl) rfl (Nat.le_of_ble_eq_true rfl) dX9_readsLine_31 (fun x_31 s_31 hx_31 hp_31 => ?_)
    obtain ⟨a2, b2, l, rfl, ha2, h2⟩ := hp_31
    have ha2 : 0 ≤ a2 ∧ a2 ≤ σ 0 18 := ha2
    have hl : letF (σ 12) (σ 0 18) (numF (σ 12) (σ 0 18) 2 1 60 (σ 0 19)).2 l := by rw [← k1.2.2]; exact h2.1
    have h2 := h2.2
    refine wp_iast (n := 5) hC (rfl) (Nat.le_of_ble_eq_true rfl) (rfl) (by decide) (by omega) dX9_readsLine_34 ?_
    refine wp_aload_n hC dX9_readsLine_35 rfl ?_
    refine wp_geta (k := 21) hC (rfl) (by decide) (rfl) (rfl) (by decide) uX9_readsLine_X9 fX9_readsLine_52 (rfl) dX9_readsLine_36 ?_
    refine wp_iconst hC dX9_readsLine_39 ?_
    refine wp_iald (n := 5) hC (rfl) (Nat.le_of_ble_eq_true rfl) (rfl) (by decide) (by omega) dX9_readsLine_40 ?_
    refine wp_top (b := x_31) rfl ?_
    refine wp_if_ge (tgt := 46) hC dX9_readsLine_41 (by decide) (by omega) (fun c_41 => ?_) (fun c_41 => ?_)
    · have k2 : 0 ≤ l.1 ∧ x_31 = l.1 ∧ a2 = l.2 := by
        rcases h2 with q | q
        · exact q
        · omega
      refine wp_aload_n hC dX9_readsLine_46 rfl ?_
      refine wp_bipush hC dX9_readsLine_47 rfl ?_
      refine wp_callVi (As := [_]) hC (c_X9_goesOn hG (put (PF (put (PF σ a1 b1) 13 0 x_10) a2 b2) 13 1 x_31) hz ht (show 0 ≤ a2 ∧ a2 ≤ σ 0 18 by omega) (by decide)) gX9_readsLine_X9_goesOn rfl ⟨rfl, rfl⟩ ⟨by decide, by decide⟩ hyVX9_goesOn (rfl) (by decide) (rfl) rfl (Nat.le_of_ble_eq_true rfl) dX9_readsLine_49 (fun x_49 s_49 hx_49 hp_49 => ?_)
      have hp49 : (ch (σ 12) (σ 0 18) a2 = 64 ∧ x_49 = 1 ∧ s_49 = (put (put (PF (put (PF σ a1 b1) 13 0 x_10) a2 b2) 13 1 x_31) 0 19 (a2 + 1)) ∧ a2 < σ 0 18) ∨ (ch (σ 12) (σ 0 18) a2 ≠ 64 ∧ x_49 = 0 ∧ s_49 = (put (PF (put (PF σ a1 b1) 13 0 x_10) a2 b2) 13 1 x_31)) := hp_49
      refine wp_if_ne (tgt := 72) hC dX9_readsLine_52 (by decide) (by omega) (fun c_52 => ?_) (fun c_52 => ?_)
      · have k3 : ch (σ 12) (σ 0 18) a2 = 64 ∧ s_49 = (put (put (PF (put (PF σ a1 b1) 13 0 x_10) a2 b2) 13 1 x_31) 0 19 (a2 + 1)) ∧ a2 < σ 0 18 := by
          rcases hp49 with q | q
          · exact ⟨q.1, q.2.2⟩
          · omega
        obtain ⟨k3, rfl, k3b⟩ := k3
        have k3 : ch (σ 12) (σ 0 18) l.2 = 64 := by rw [← k2.2.2]; exact k3
        refine wp_aload_n hC dX9_readsLine_72 rfl ?_
        refine wp_geta (k := 21) hC (rfl) (by decide) (rfl) (rfl) (by decide) uX9_readsLine_X9 fX9_readsLine_52 (rfl) dX9_readsLine_73 ?_
        refine wp_iconst hC dX9_readsLine_76 ?_
        refine wp_aload_n hC dX9_readsLine_77 rfl ?_
        refine wp_iconst hC dX9_readsLine_78 ?_
        refine wp_iconst hC dX9_readsLine_79 ?_
        refine wp_bipush hC dX9_readsLine_80 rfl ?_
        refine wp_callVi (As := [_, _, _]) hC (c_X9_number hG (put (put (PF (put (PF σ a1 b1) 13 0 x_10) a2 b2) 13 1 x_31) 0 19 (a2 + 1)) hz ht (show 0 ≤ a2 + 1 ∧ a2 + 1 ≤ σ 0 18 by omega) (Or.inr rfl) (by decide) (by decide)) gX9_readsLine_X9_number rfl ⟨rfl, rfl⟩ ⟨by decide, by decide⟩ hyVX9_number (rfl) (by decide) (rfl) rfl (Nat.le_of_ble_eq_true rfl) dX9_readsLine_82 (fun x_82 s_82 hx_82 hp_82 => ?_)
        obtain ⟨a3, b3, rfl, ha3, h3⟩ := hp_82
        have ha3 : 0 ≤ a3 ∧ a3 ≤ σ 0 18 := ha3
        have h3 : (0 ≤ (numF (σ 12) (σ 0 18) 2 0 11 (l.2 + 1)).1 ∧ x_82 = (numF (σ 12) (σ 0 18) 2 0 11 (l.2 + 1)).1 ∧ a3 = (numF (σ 12) (σ 0 18) 2 0 11 (l.2 + 1)).2) ∨ ((numF (σ 12) (σ 0 18) 2 0 11 (l.2 + 1)).1 < 0 ∧ x_82 = -1 ∧ b3 = (numF (σ 12) (σ 0 18) 2 0 11 (l.2 + 1)).2) := by rw [← k2.2.2]; exact h3
        refine wp_iast (n := 5) hC (rfl) (Nat.le_of_ble_eq_true rfl) (rfl) (by decide) (by omega) dX9_readsLine_85 ?_
        refine wp_aload_n hC dX9_readsLine_86 rfl ?_
        refine wp_geta (k := 21) hC (rfl) (by decide) (rfl) (rfl) (by decide) uX9_readsLine_X9 fX9_readsLine_52 (rfl) dX9_readsLine_87 ?_
        refine wp_iconst hC dX9_readsLine_90 ?_
        refine wp_iald (n := 5) hC (rfl) (Nat.le_of_ble_eq_true rfl) (rfl) (by decide) (by omega) dX9_readsLine_91 ?_
        refine wp_top (b := x_82) rfl ?_
        refine wp_if_ge (tgt := 97) hC dX9_readsLine_92 (by decide) (by omega) (fun c_92 => ?_) (fun c_92 => ?_)
        · have k4 : 0 ≤ (numF (σ 12) (σ 0 18) 2 0 11 (l.2 + 1)).1 ∧ x_82 = (numF (σ 12) (σ 0 18) 2 0 11 (l.2 + 1)).1 ∧ a3 = (numF (σ 12) (σ 0 18) 2 0 11 (l.2 + 1)).2 := by
            rcases h3 with q | q
            · exact q
            · omega
          refine wp_aload_n hC dX9_readsLine_97 rfl ?_
          refine wp_geta (k := 21) hC (rfl) (by decide) (rfl) (rfl) (by decide) uX9_readsLine_X9 fX9_readsLine_52 (rfl) dX9_readsLine_98 ?_
          refine wp_iconst hC dX9_readsLine_101 ?_
          refine wp_aload_n hC dX9_readsLine_102 rfl ?_
          refine wp_bipush hC dX9_readsLine_103 rfl ?_
          refine wp_callVi (As := [_]) hC (c_X9_goesOn hG (put (PF (put (put (PF (put (PF σ a1 b1) 13 0 x_10) a2 b2) 13 1 x_31) 0 19 (a2 + 1)) a3 b3) 13 2 x_82) hz ht (show 0 ≤ a3 ∧ a3 ≤ σ 0 18 by omega) (by decide)) gX9_readsLine_X9_goesOn rfl ⟨rfl, rfl⟩ ⟨by decide, by decide⟩ hyVX9_goesOn (rfl) (by decide) (rfl) rfl (Nat.le_of_ble_eq_true rfl) dX9_readsLine_105 (fun x_105 s_105 hx_105 hp_105 => ?_)
          have hp105 : (ch (σ 12) (σ 0 18) a3 = 103 ∧ x_105 = 1 ∧ s_105 = (put (put (PF (put (put (PF (put (PF σ a1 b1) 13 0 x_10) a2 b2) 13 1 x_31) 0 19 (a2 + 1)) a3 b3) 13 2 x_82) 0 19 (a3 + 1)) ∧ a3 < σ 0 18) ∨ (ch (σ 12) (σ 0 18) a3 ≠ 103 ∧ x_105 = 0 ∧ s_105 = (put (PF (put (put (PF (put (PF σ a1 b1) 13 0 x_10) a2 b2) 13 1 x_31) 0 19 (a2 + 1)) a3 b3) 13 2 x_82)) := hp_105
          refine wp_if_eq (tgt := 121) hC dX9_readsLine_108 (by decide) (by omega) (fun c_108 => ?_) (fun c_108 => ?_)
          · have k5 : ch (σ 12) (σ 0 18) a3 ≠ 103 ∧ s_105 = (put (PF (put (put (PF (put (PF σ a1 b1) 13 0 x_10) a2 b2) 13 1 x_31) 0 19 (a2 + 1)) a3 b3) 13 2 x_82) := by
              rcases hp105 with q | q
              · omega
              · exact ⟨q.1, q.2.2⟩
            obtain ⟨k5, rfl⟩ := k5
            have hg : optF (σ 12) (σ 0 18) 103 3 (numF (σ 12) (σ 0 18) 2 0 11 (l.2 + 1)).2 = (0, a3) := by rw [← k4.2.2]; exact optF_n k5
            refine wp_iconst hC dX9_readsLine_121 ?_
            refine wp_iast (n := 5) hC (rfl) (Nat.le_of_ble_eq_true rfl) (rfl) (by decide) (by omega) dX9_readsLine_122 ?_
            refine wp_aload_n hC dX9_readsLine_123 rfl ?_
            refine wp_geta (k := 21) hC (rfl) (by decide) (rfl) (rfl) (by decide) uX9_readsLine_X9 fX9_readsLine_52 (rfl) dX9_readsLine_124 ?_
            refine wp_iconst hC dX9_readsLine_127 ?_
            refine wp_iald (n := 5) hC (rfl) (Nat.le_of_ble_eq_true rfl) (rfl) (by decide) (by omega) dX9_readsLine_128 ?_
            refine wp_top (b := 0) rfl ?_
            refine wp_if_ge (tgt := 134) hC dX9_readsLine_129 (by decide) (by omega) (fun c_129 => ?_) (fun c_129 => ?_)
            · refine wp_aload_n hC dX9_readsLine_134 rfl ?_
              refine wp_geta (k := 21) hC (rfl) (by decide) (rfl) (rfl) (by decide) uX9_readsLine_X9 fX9_readsLine_52 (rfl) dX9_readsLine_135 ?_
              refine wp_iconst hC dX9_readsLine_138 ?_
              refine wp_aload_n hC dX9_readsLine_139 rfl ?_
              refine wp_bipush hC dX9_readsLine_140 rfl ?_
              refine wp_callVi (As := [_]) hC (c_X9_goesOn hG (put (put (PF (put (put (PF (put (PF σ a1 b1) 13 0 x_10) a2 b2) 13 1 x_31) 0 19 (a2 + 1)) a3 b3) 13 2 x_82) 13 3 0) hz ht (show 0 ≤ a3 ∧ a3 ≤ σ 0 18 by omega) (by decide)) gX9_readsLine_X9_goesOn rfl ⟨rfl, rfl⟩ ⟨by decide, by decide⟩ hyVX9_goesOn (rfl) (by decide) (rfl) rfl (Nat.le_of_ble_eq_true rfl) dX9_readsLine_142 (fun x_142 s_142 hx_142 hp_142 => ?_)
              have hp142 : (ch (σ 12) (σ 0 18) a3 = 114 ∧ x_142 = 1 ∧ s_142 = (put (put (put (PF (put (put (PF (put (PF σ a1 b1) 13 0 x_10) a2 b2) 13 1 x_31) 0 19 (a2 + 1)) a3 b3) 13 2 x_82) 13 3 0) 0 19 (a3 + 1)) ∧ a3 < σ 0 18) ∨ (ch (σ 12) (σ 0 18) a3 ≠ 114 ∧ x_142 = 0 ∧ s_142 = (put (put (PF (put (put (PF (put (PF σ a1 b1) 13 0 x_10) a2 b2) 13 1 x_31) 0 19 (a2 + 1)) a3 b3) 13 2 x_82) 13 3 0)) := hp_142
              refine wp_if_eq (tgt := 159) hC dX9_readsLine_145 (by decide) (by omega) (fun c_145 => ?_) (fun c_145 => ?_)
              · have k7 : ch (σ 12) (σ 0 18) a3 ≠ 114 ∧ s_142 = (put (put (PF (put (put (PF (put (PF σ a1 b1) 13 0 x_10) a2 b2) 13 1 x_31) 0 19 (a2 + 1)) a3 b3) 13 2 x_82) 13 3 0) := by
                  rcases hp142 with q | q
                  · omega
                  · exact ⟨q.1, q.2.2⟩
                obtain ⟨k7, rfl⟩ := k7
                have hr : optF (σ 12) (σ 0 18) 114 9 ((0, a3) : Int × Int).2 = (0, a3) := by exact optF_n k7
                refine wp_iconst hC dX9_readsLine_159 ?_
                refine wp_iast (n := 5) hC (rfl) (Nat.le_of_ble_eq_true rfl) (rfl) (by decide) (by omega) dX9_readsLine_160 ?_
                refine wp_aload_n hC dX9_readsLine_161 rfl ?_
                refine wp_geta (k := 21) hC (rfl) (by decide) (rfl) (rfl) (by decide) uX9_readsLine_X9 fX9_readsLine_52 (rfl) dX9_readsLine_162 ?_
                refine wp_iconst hC dX9_readsLine_165 ?_
                refine wp_iald (n := 5) hC (rfl) (Nat.le_of_ble_eq_true rfl) (rfl) (by decide) (by omega) dX9_readsLine_166 ?_
                refine wp_top (b := 0) rfl ?_
                refine wp_if_lt (tgt := 174) hC dX9_readsLine_167 (by decide) (by omega) (fun c_167 => ?_) (fun c_167 => ?_)
                · refine wp_iconst hC dX9_readsLine_174 ?_
                  exact hret _ _ _ _ (by omega) rfl (absurd c_167 (by decide)) dX9_readsLine_175
                · refine wp_iconst hC dX9_readsLine_170 ?_
                  refine wp_goto (tgt := 175) hC dX9_readsLine_171 (by decide) ?_
                  exact hret _ _ _ _ (by omega) rfl (by
                    exact ⟨_, _, _, _, _, _, LNF_7 k1.1 hl k2.1 k3 k4.1 hg (show (0:Int) ≤ 0 by decide) hr (show (0:Int) ≤ 0 by decide), SC_putS (SC_putS (SC_putS (PF_SC (SC_putS (SC_putS (PF_SC (SC_putS (PF_SC (SC_self σ).symm) rfl)) rfl) rfl)) rfl) rfl) rfl, (show 0 ≤ a3 ∧ a3 ≤ σ 0 18 by omega), Or.inl ⟨k1.1, rfl, rfl, k1.2.1, k2.2.1, k4.2.1, rfl, rfl⟩⟩) dX9_readsLine_175
              · have k7 : ch (σ 12) (σ 0 18) a3 = 114 ∧ s_142 = (put (put (put (PF (put (put (PF (put (PF σ a1 b1) 13 0 x_10) a2 b2) 13 1 x_31) 0 19 (a2 + 1)) a3 b3) 13 2 x_82) 13 3 0) 0 19 (a3 + 1)) ∧ a3 < σ 0 18 := by
                  rcases hp142 with q | q
                  · exact ⟨q.1, q.2.2⟩
                  · omega
                obtain ⟨k7, rfl, k7b⟩ := k7
                refine wp_aload_n hC dX9_readsLine_148 rfl ?_
                refine wp_iconst hC dX9_readsLine_149 ?_
                refine wp_iconst hC dX9_readsLine_150 ?_
                refine wp_bipush hC dX9_readsLine_151 rfl ?_
                refine wp_callVi (As := [_, _, _]) hC (c_X9_number hG (put (put (put (PF (put (put (PF (put (PF σ a1 b1) 13 0 x_10) a2 b2) 13 1 x_31) 0 19 (a2 + 1)) a3 b3) 13 2 x_82) 13 3 0) 0 19 (a3 + 1)) hz ht (show 0 ≤ a3 + 1 ∧ a3 + 1 ≤ σ 0 18 by omega) (Or.inl rfl) (by decide) (by decide)) gX9_readsLine_X9_number rfl ⟨rfl, rfl⟩ ⟨by decide, by decide⟩ hyVX9_number (rfl) (by decide) (rfl) rfl (Nat.le_of_ble_eq_true rfl) dX9_readsLine_153 (fun x_153 s_153 hx_153 hp_153 => ?_)
                obtain ⟨a5, b5, rfl, ha5, h5⟩ := hp_153
                have ha5 : 0 ≤ a5 ∧ a5 ≤ σ 0 18 := ha5
                have hr : optF (σ 12) (σ 0 18) 114 9 ((0, a3) : Int × Int).2 = numF (σ 12) (σ 0 18) 1 0 9 (a3 + 1) := by exact optF_y k7
                have h5 : (0 ≤ (numF (σ 12) (σ 0 18) 1 0 9 (a3 + 1)).1 ∧ x_153 = (numF (σ 12) (σ 0 18) 1 0 9 (a3 + 1)).1 ∧ a5 = (numF (σ 12) (σ 0 18) 1 0 9 (a3 + 1)).2) ∨ ((numF (σ 12) (σ 0 18) 1 0 9 (a3 + 1)).1 < 0 ∧ x_153 = -1 ∧ b5 = (numF (σ 12) (σ 0 18) 1 0 9 (a3 + 1)).2) := h5
                refine wp_goto (tgt := 160) hC dX9_readsLine_156 (by decide) ?_
                refine wp_iast (n := 5) hC (rfl) (Nat.le_of_ble_eq_true rfl) (rfl) (by decide) (by omega) dX9_readsLine_160 ?_
                refine wp_aload_n hC dX9_readsLine_161 rfl ?_
                refine wp_geta (k := 21) hC (rfl) (by decide) (rfl) (rfl) (by decide) uX9_readsLine_X9 fX9_readsLine_52 (rfl) dX9_readsLine_162 ?_
                refine wp_iconst hC dX9_readsLine_165 ?_
                refine wp_iald (n := 5) hC (rfl) (Nat.le_of_ble_eq_true rfl) (rfl) (by decide) (by omega) dX9_readsLine_166 ?_
                refine wp_top (b := x_153) rfl ?_
                refine wp_if_lt (tgt := 174) hC dX9_readsLine_167 (by decide) (by omega) (fun c_167 => ?_) (fun c_167 => ?_)
                · refine wp_iconst hC dX9_readsLine_174 ?_
                  exact hret _ _ _ _ (by omega) rfl (by
                    rcases h5 with q | q
                    · omega
                    · exact ⟨-1, 0, 0, 0, 0, _, LNF_6 k1.1 hl k2.1 k3 k4.1 hg (show (0:Int) ≤ 0 by decide) hr q.1, SC_putS (PF_SC (SC_putS (SC_putS (SC_putS (PF_SC (SC_putS (SC_putS (PF_SC (SC_putS (PF_SC (SC_self σ).symm) rfl)) rfl) rfl)) rfl) rfl) rfl)) rfl, ha5, Or.inr ⟨by decide, rfl, q.2.2⟩⟩) dX9_readsLine_175
                · refine wp_iconst hC dX9_readsLine_170 ?_
                  refine wp_goto (tgt := 175) hC dX9_readsLine_171 (by decide) ?_
                  exact hret _ _ _ _ (by omega) rfl (by
                    have k8 : 0 ≤ (numF (σ 12) (σ 0 18) 1 0 9 (a3 + 1)).1 ∧ x_153 = (numF (σ 12) (σ 0 18) 1 0 9 (a3 + 1)).1 ∧ a5 = (numF (σ 12) (σ 0 18) 1 0 9 (a3 + 1)).2 := by
                      rcases h5 with q | q
                      · exact q
                      · omega
                    exact ⟨_, _, _, _, _, _, LNF_7 k1.1 hl k2.1 k3 k4.1 hg (show (0:Int) ≤ 0 by decide) hr k8.1, SC_putS (PF_SC (SC_putS (SC_putS (SC_putS (PF_SC (SC_putS (SC_putS (PF_SC (SC_putS (PF_SC (SC_self σ).symm) rfl)) rfl) rfl)) rfl) rfl) rfl)) rfl, (show 0 ≤ a5 ∧ a5 ≤ σ 0 18 by omega), Or.inl ⟨k1.1, rfl, k8.2.2, k1.2.1, k2.2.1, k4.2.1, rfl, k8.2.1⟩⟩) dX9_readsLine_175
            · refine wp_iconst hC dX9_readsLine_132 ?_
              exact hret _ _ _ _ (by omega) rfl (absurd c_129 (by decide)) dX9_readsLine_133
          · have k5 : ch (σ 12) (σ 0 18) a3 = 103 ∧ s_105 = (put (put (PF (put (put (PF (put (PF σ a1 b1) 13 0 x_10) a2 b2) 13 1 x_31) 0 19 (a2 + 1)) a3 b3) 13 2 x_82) 0 19 (a3 + 1)) ∧ a3 < σ 0 18 := by
              rcases hp105 with q | q
              · exact ⟨q.1, q.2.2⟩
              · omega
            obtain ⟨k5, rfl, k5b⟩ := k5
            refine wp_aload_n hC dX9_readsLine_111 rfl ?_
            refine wp_iconst hC dX9_readsLine_112 ?_
            refine wp_iconst hC dX9_readsLine_113 ?_
            refine wp_iconst hC dX9_readsLine_114 ?_
            refine wp_callVi (As := [_, _, _]) hC (c_X9_number hG (put (put (PF (put (put (PF (put (PF σ a1 b1) 13 0 x_10) a2 b2) 13 1 x_31) 0 19 (a2 + 1)) a3 b3) 13 2 x_82) 0 19 (a3 + 1)) hz ht (show 0 ≤ a3 + 1 ∧ a3 + 1 ≤ σ 0 18 by omega) (Or.inl rfl) (by decide) (by decide)) gX9_readsLine_X9_number rfl ⟨rfl, rfl⟩ ⟨by decide, by decide⟩ hyVX9_number (rfl) (by decide) (rfl) rfl (Nat.le_of_ble_eq_true rfl) dX9_readsLine_115 (fun x_115 s_115 hx_115 hp_115 => ?_)
            obtain ⟨a4, b4, rfl, ha4, h4⟩ := hp_115
            have ha4 : 0 ≤ a4 ∧ a4 ≤ σ 0 18 := ha4
            have hg : optF (σ 12) (σ 0 18) 103 3 (numF (σ 12) (σ 0 18) 2 0 11 (l.2 + 1)).2 = numF (σ 12) (σ 0 18) 1 0 3 (a3 + 1) := by rw [← k4.2.2]; exact optF_y k5
            have h4 : (0 ≤ (numF (σ 12) (σ 0 18) 1 0 3 (a3 + 1)).1 ∧ x_115 = (numF (σ 12) (σ 0 18) 1 0 3 (a3 + 1)).1 ∧ a4 = (numF (σ 12) (σ 0 18) 1 0 3 (a3 + 1)).2) ∨ ((numF (σ 12) (σ 0 18) 1 0 3 (a3 + 1)).1 < 0 ∧ x_115 = -1 ∧ b4 = (numF (σ 12) (σ 0 18) 1 0 3 (a3 + 1)).2) := h4
            refine wp_goto (tgt := 122) hC dX9_readsLine_118 (by decide) ?_
            refine wp_iast (n := 5) hC (rfl) (Nat.le_of_ble_eq_true rfl) (rfl) (by decide) (by omega) dX9_readsLine_122 ?_
            refine wp_aload_n hC dX9_readsLine_123 rfl ?_
            refine wp_geta (k := 21) hC (rfl) (by decide) (rfl) (rfl) (by decide) uX9_readsLine_X9 fX9_readsLine_52 (rfl) dX9_readsLine_124 ?_
            refine wp_iconst hC dX9_readsLine_127 ?_
            refine wp_iald (n := 5) hC (rfl) (Nat.le_of_ble_eq_true rfl) (rfl) (by decide) (by omega) dX9_readsLine_128 ?_
            refine wp_top (b := x_115) rfl ?_
            refine wp_if_ge (tgt := 134) hC dX9_readsLine_129 (by decide) (by omega) (fun c_129 => ?_) (fun c_129 => ?_)
            · have k6 : 0 ≤ (numF (σ 12) (σ 0 18) 1 0 3 (a3 + 1)).1 ∧ x_115 = (numF (σ 12) (σ 0 18) 1 0 3 (a3 + 1)).1 ∧ a4 = (numF (σ 12) (σ 0 18) 1 0 3 (a3 + 1)).2 := by
                rcases h4 with q | q
                · exact q
                · omega
              refine wp_aload_n hC dX9_readsLine_134 rfl ?_
              refine wp_geta (k := 21) hC (rfl) (by decide) (rfl) (rfl) (by decide) uX9_readsLine_X9 fX9_readsLine_52 (rfl) dX9_readsLine_135 ?_
              refine wp_iconst hC dX9_readsLine_138 ?_
              refine wp_aload_n hC dX9_readsLine_139 rfl ?_
              refine wp_bipush hC dX9_readsLine_140 rfl ?_
              refine wp_callVi (As := [_]) hC (c_X9_goesOn hG (put (PF (put (put (PF (put (put (PF (put (PF σ a1 b1) 13 0 x_10) a2 b2) 13 1 x_31) 0 19 (a2 + 1)) a3 b3) 13 2 x_82) 0 19 (a3 + 1)) a4 b4) 13 3 x_115) hz ht (show 0 ≤ a4 ∧ a4 ≤ σ 0 18 by omega) (by decide)) gX9_readsLine_X9_goesOn rfl ⟨rfl, rfl⟩ ⟨by decide, by decide⟩ hyVX9_goesOn (rfl) (by decide) (rfl) rfl (Nat.le_of_ble_eq_true rfl) dX9_readsLine_142 (fun x_142 s_142 hx_142 hp_142 => ?_)
              have hp142 : (ch (σ 12) (σ 0 18) a4 = 114 ∧ x_142 = 1 ∧ s_142 = (put (put (PF (put (put (PF (put (put (PF (put (PF σ a1 b1) 13 0 x_10) a2 b2) 13 1 x_31) 0 19 (a2 + 1)) a3 b3) 13 2 x_82) 0 19 (a3 + 1)) a4 b4) 13 3 x_115) 0 19 (a4 + 1)) ∧ a4 < σ 0 18) ∨ (ch (σ 12) (σ 0 18) a4 ≠ 114 ∧ x_142 = 0 ∧ s_142 = (put (PF (put (put (PF (put (put (PF (put (PF σ a1 b1) 13 0 x_10) a2 b2) 13 1 x_31) 0 19 (a2 + 1)) a3 b3) 13 2 x_82) 0 19 (a3 + 1)) a4 b4) 13 3 x_115)) := hp_142
              refine wp_if_eq (tgt := 159) hC dX9_readsLine_145 (by decide) (by omega) (fun c_145 => ?_) (fun c_145 => ?_)
              · have k7 : ch (σ 12) (σ 0 18) a4 ≠ 114 ∧ s_142 = (put (PF (put (put (PF (put (put (PF (put (PF σ a1 b1) 13 0 x_10) a2 b2) 13 1 x_31) 0 19 (a2 + 1)) a3 b3) 13 2 x_82) 0 19 (a3 + 1)) a4 b4) 13 3 x_115) := by
                  rcases hp142 with q | q
                  · omega
                  · exact ⟨q.1, q.2.2⟩
                obtain ⟨k7, rfl⟩ := k7
                have hr : optF (σ 12) (σ 0 18) 114 9 (numF (σ 12) (σ 0 18) 1 0 3 (a3 + 1)).2 = (0, a4) := by rw [← k6.2.2]; exact optF_n k7
                refine wp_iconst hC dX9_readsLine_159 ?_
                refine wp_iast (n := 5) hC (rfl) (Nat.le_of_ble_eq_true rfl) (rfl) (by decide) (by omega) dX9_readsLine_160 ?_
                refine wp_aload_n hC dX9_readsLine_161 rfl ?_
                refine wp_geta (k := 21) hC (rfl) (by decide) (rfl) (rfl) (by decide) uX9_readsLine_X9 fX9_readsLine_52 (rfl) dX9_readsLine_162 ?_
                refine wp_iconst hC dX9_readsLine_165 ?_
                refine wp_iald (n := 5) hC (rfl) (Nat.le_of_ble_eq_true rfl) (rfl) (by decide) (by omega) dX9_readsLine_166 ?_
                refine wp_top (b := 0) rfl ?_
                refine wp_if_lt (tgt := 174) hC dX9_readsLine_167 (by decide) (by omega) (fun c_167 => ?_) (fun c_167 => ?_)
                · refine wp_iconst hC dX9_readsLine_174 ?_
                  exact hret _ _ _ _ (by omega) rfl (absurd c_167 (by decide)) dX9_readsLine_175
                · refine wp_iconst hC dX9_readsLine_170 ?_
                  refine wp_goto (tgt := 175) hC dX9_readsLine_171 (by decide) ?_
                  exact hret _ _ _ _ (by omega) rfl (by
                    exact ⟨_, _, _, _, _, _, LNF_7 k1.1 hl k2.1 k3 k4.1 hg k6.1 hr (show (0:Int) ≤ 0 by decide), SC_putS (SC_putS (PF_SC (SC_putS (SC_putS (PF_SC (SC_putS (SC_putS (PF_SC (SC_putS (PF_SC (SC_self σ).symm) rfl)) rfl) rfl)) rfl) rfl)) rfl) rfl, (show 0 ≤ a4 ∧ a4 ≤ σ 0 18 by omega), Or.inl ⟨k1.1, rfl, rfl, k1.2.1, k2.2.1, k4.2.1, k6.2.1, rfl⟩⟩) dX9_readsLine_175
              · have k7 : ch (σ 12) (σ 0 18) a4 = 114 ∧ s_142 = (put (put (PF (put (put (PF (put (put (PF (put (PF σ a1 b1) 13 0 x_10) a2 b2) 13 1 x_31) 0 19 (a2 + 1)) a3 b3) 13 2 x_82) 0 19 (a3 + 1)) a4 b4) 13 3 x_115) 0 19 (a4 + 1)) ∧ a4 < σ 0 18 := by
                  rcases hp142 with q | q
                  · exact ⟨q.1, q.2.2⟩
                  · omega
                obtain ⟨k7, rfl, k7b⟩ := k7
                refine wp_aload_n hC dX9_readsLine_148 rfl ?_
                refine wp_iconst hC dX9_readsLine_149 ?_
                refine wp_iconst hC dX9_readsLine_150 ?_
                refine wp_bipush hC dX9_readsLine_151 rfl ?_
                refine wp_callVi (As := [_, _, _]) hC (c_X9_number hG (put (put (PF (put (put (PF (put (put (PF (put (PF σ a1 b1) 13 0 x_10) a2 b2) 13 1 x_31) 0 19 (a2 + 1)) a3 b3) 13 2 x_82) 0 19 (a3 + 1)) a4 b4) 13 3 x_115) 0 19 (a4 + 1)) hz ht (show 0 ≤ a4 + 1 ∧ a4 + 1 ≤ σ 0 18 by omega) (Or.inl rfl) (by decide) (by decide)) gX9_readsLine_X9_number rfl ⟨rfl, rfl⟩ ⟨by decide, by decide⟩ hyVX9_number (rfl) (by decide) (rfl) rfl (Nat.le_of_ble_eq_true rfl) dX9_readsLine_153 (fun x_153 s_153 hx_153 hp_153 => ?_)
                obtain ⟨a5, b5, rfl, ha5, h5⟩ := hp_153
                have ha5 : 0 ≤ a5 ∧ a5 ≤ σ 0 18 := ha5
                have hr : optF (σ 12) (σ 0 18) 114 9 (numF (σ 12) (σ 0 18) 1 0 3 (a3 + 1)).2 = numF (σ 12) (σ 0 18) 1 0 9 (a4 + 1) := by rw [← k6.2.2]; exact optF_y k7
                have h5 : (0 ≤ (numF (σ 12) (σ 0 18) 1 0 9 (a4 + 1)).1 ∧ x_153 = (numF (σ 12) (σ 0 18) 1 0 9 (a4 + 1)).1 ∧ a5 = (numF (σ 12) (σ 0 18) 1 0 9 (a4 + 1)).2) ∨ ((numF (σ 12) (σ 0 18) 1 0 9 (a4 + 1)).1 < 0 ∧ x_153 = -1 ∧ b5 = (numF (σ 12) (σ 0 18) 1 0 9 (a4 + 1)).2) := h5
                refine wp_goto (tgt := 160) hC dX9_readsLine_156 (by decide) ?_
                refine wp_iast (n := 5) hC (rfl) (Nat.le_of_ble_eq_true rfl) (rfl) (by decide) (by omega) dX9_readsLine_160 ?_
                refine wp_aload_n hC dX9_readsLine_161 rfl ?_
                refine wp_geta (k := 21) hC (rfl) (by decide) (rfl) (rfl) (by decide) uX9_readsLine_X9 fX9_readsLine_52 (rfl) dX9_readsLine_162 ?_
                refine wp_iconst hC dX9_readsLine_165 ?_
                refine wp_iald (n := 5) hC (rfl) (Nat.le_of_ble_eq_true rfl) (rfl) (by decide) (by omega) dX9_readsLine_166 ?_
                refine wp_top (b := x_153) rfl ?_
                refine wp_if_lt (tgt := 174) hC dX9_readsLine_167 (by decide) (by omega) (fun c_167 => ?_) (fun c_167 => ?_)
                · refine wp_iconst hC dX9_readsLine_174 ?_
                  exact hret _ _ _ _ (by omega) rfl (by
                    rcases h5 with q | q
                    · omega
                    · exact ⟨-1, 0, 0, 0, 0, _, LNF_6 k1.1 hl k2.1 k3 k4.1 hg k6.1 hr q.1, SC_putS (PF_SC (SC_putS (SC_putS (PF_SC (SC_putS (SC_putS (PF_SC (SC_putS (SC_putS (PF_SC (SC_putS (PF_SC (SC_self σ).symm) rfl)) rfl) rfl)) rfl) rfl)) rfl) rfl)) rfl, ha5, Or.inr ⟨by decide, rfl, q.2.2⟩⟩) dX9_readsLine_175
                · refine wp_iconst hC dX9_readsLine_170 ?_
                  refine wp_goto (tgt := 175) hC dX9_readsLine_171 (by decide) ?_
                  exact hret _ _ _ _ (by omega) rfl (by
                    have k8 : 0 ≤ (numF (σ 12) (σ 0 18) 1 0 9 (a4 + 1)).1 ∧ x_153 = (numF (σ 12) (σ 0 18) 1 0 9 (a4 + 1)).1 ∧ a5 = (numF (σ 12) (σ 0 18) 1 0 9 (a4 + 1)).2 := by
                      rcases h5 with q | q
                      · exact q
                      · omega
                    exact ⟨_, _, _, _, _, _, LNF_7 k1.1 hl k2.1 k3 k4.1 hg k6.1 hr k8.1, SC_putS (PF_SC (SC_putS (SC_putS (PF_SC (SC_putS (SC_putS (PF_SC (SC_putS (SC_putS (PF_SC (SC_putS (PF_SC (SC_self σ).symm) rfl)) rfl) rfl)) rfl) rfl)) rfl) rfl)) rfl, (show 0 ≤ a5 ∧ a5 ≤ σ 0 18 by omega), Or.inl ⟨k1.1, rfl, k8.2.2, k1.2.1, k2.2.1, k4.2.1, k6.2.1, k8.2.1⟩⟩) dX9_readsLine_175
            · refine wp_iconst hC dX9_readsLine_132 ?_
              exact hret _ _ _ _ (by omega) rfl (by
                rcases h4 with q | q
                · omega
                · exact ⟨-1, 0, 0, 0, 0, _, LNF_5 k1.1 hl k2.1 k3 k4.1 hg q.1, SC_putS (PF_SC (SC_putS (SC_putS (PF_SC (SC_putS (SC_putS (PF_SC (SC_putS (PF_SC (SC_self σ).symm) rfl)) rfl) rfl)) rfl) rfl)) rfl, ha4, Or.inr ⟨by decide, rfl, q.2.2⟩⟩) dX9_readsLine_133
        · refine wp_iconst hC dX9_readsLine_95 ?_
          exact hret _ _ _ _ (by omega) rfl (by
            rcases h3 with q | q
            · omega
            · exact ⟨-1, 0, 0, 0, 0, _, LNF_4 k1.1 hl k2.1 k3 q.1, SC_putS (PF_SC (SC_putS (SC_putS (PF_SC (SC_putS (PF_SC (SC_self σ).symm) rfl)) rfl) rfl)) rfl, ha3, Or.inr ⟨by decide, rfl, q.2.2⟩⟩) dX9_readsLine_96
      · have k3 : ch (σ 12) (σ 0 18) a2 ≠ 64 ∧ s_49 = (put (PF (put (PF σ a1 b1) 13 0 x_10) a2 b2) 13 1 x_31) := by
          rcases hp49 with q | q
          · omega
          · exact ⟨q.1, q.2.2⟩
        obtain ⟨k3, rfl⟩ := k3
        refine wp_aload_n hC dX9_readsLine_55 rfl ?_
        refine wp_aload_n hC dX9_readsLine_56 rfl ?_
        refine wp_geti (k := 19) (z := 19) hC rfl (rfl) (by decide) (rfl) (rfl) (by decide) uX9_readsLine_X9 fX9_readsLine_170 (rfl) dX9_readsLine_57 ?_
        refine wp_top (b := a2) rfl ?_
        refine wp_callVe (As := [_]) hC (c_X9_faults hG _) gX9_readsLine_X9_faults rfl ⟨rfl, rfl⟩ ⟨by decide, by decide⟩ hyVX9_faults (rfl) (by decide) (rfl) rfl (Nat.le_of_ble_eq_true rfl) dX9_readsLine_60 (fun hx_60 => ?_)
        refine wp_if_le (tgt := 70) hC dX9_readsLine_63 (by decide) (by omega) (fun c_63 => ?_) (fun c_63 => ?_)
        · refine wp_iconst hC dX9_readsLine_70 ?_
          exact hret _ _ _ _ (by omega) rfl (⟨-1, 0, 0, 0, 0, _, LNF_3 k1.1 hl k2.1 (by rw [← k2.2.2]; exact k3), SC_putS (SC_putS (PF_SC (SC_putS (PF_SC (SC_self σ).symm) rfl)) rfl) rfl, ha2, Or.inr ⟨by decide, rfl, k2.2.2⟩⟩) dX9_readsLine_71
        · refine wp_iconst hC dX9_readsLine_66 ?_
          refine wp_goto (tgt := 71) hC dX9_readsLine_67 (by decide) ?_
          exact hret _ _ _ _ (by omega) rfl (absurd c_63 (by decide)) dX9_readsLine_71
    · refine wp_iconst hC dX9_readsLine_44 ?_
      exact hret _ _ _ _ (by omega) rfl (by
        rcases h2 with q | q
        · omega
        · exact ⟨-1, 0, 0, 0, 0, _, LNF_2 k1.1 hl q.1, SC_putS (PF_SC (SC_putS (PF_SC (SC_self σ).symm) rfl)) rfl, ha2, Or.inr ⟨by decide, rfl, q.2.2⟩⟩) dX9_readsLine_45
  · refine wp_iconst hC dX9_readsLine_23 ?_
    exact hret _ _ _ _ (by omega) rfl (by
      rcases h1 with q | q
      · omega
      · exact ⟨-1, 0, 0, 0, 0, _, LNF_1 q.1, SC_putS (PF_SC (SC_self σ).symm) rfl, ha1, Or.inr ⟨by decide, rfl, q.2.2⟩⟩) dX9_readsLine_24
