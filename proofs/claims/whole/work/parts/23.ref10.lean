/-- whether the j-th number of a row comes as a supply -/
def goF (σ : St) (w i q j : Int) : Prop := q + j < 12 ∧ i + j < σ 21 w ∧ 0 ≤ σ 20 (24 * w + i + j) ∧ σ 20 (24 * w + i + j) ≤ 99
/-- the numbers with n supplies out of a row -/
def wFR (σ : St) (w i it q n : Int) : Int → Int := fun b => if 12 * it + q ≤ b ∧ b < 12 * it + q + n then σ 20 (24 * w + i + (b - (12 * it + q))) else σ 1 b
def FR (σ : St) (w i it q n : Int) : St := fun a b => if a = 1 ∧ 12 * it + q ≤ b ∧ b < 12 * it + q + n then σ 20 (24 * w + i + (b - (12 * it + q))) else cpy σ 1 9 88 a b
theorem FR_0 {σ : St} {w i it q : Int} : cpy σ 1 9 88 = FR σ w i it q 0 := by
  funext a b
  unfold FR
  rw [if_neg (by omega)]
theorem FR_1 {σ : St} {w i it q n : Int} : FR σ w i it q n 1 = wFR σ w i it q n := by
  funext b
  unfold FR wFR
  by_cases z : 12 * it + q ≤ b ∧ b < 12 * it + q + n
  · rw [if_pos ⟨rfl, z⟩, if_pos z]
  · rw [if_neg (fun y => z y.2), if_neg z]
    rfl
theorem FR_o {σ : St} {w i it q n : Int} {a : Nat} {b : Int} (h : a ≠ 1) : FR σ w i it q n a b = cpy σ 1 9 88 a b := if_neg (fun z => h z.1)
theorem FR_s {σ : St} {w i it q n : Int} (h : 0 ≤ n) : put (FR σ w i it q n) 1 (12 * it + (q + n)) (σ 20 (24 * w + i + n)) = FR σ w i it q (n + 1) := by
  funext a b
  by_cases z : a = 1 ∧ b = 12 * it + (q + n)
  · rw [z.1, z.2, put_s]
    unfold FR
    rw [if_pos (by omega)]
    congr 1
    omega
  · rw [put_q z]
    unfold FR
    by_cases y : a = 1 ∧ 12 * it + q ≤ b ∧ b < 12 * it + q + n
    · rw [if_pos y, if_pos (by omega)]
    · rw [if_neg y, if_neg (by omega)]
theorem BG_FR {σ : St} {w i it q n : Int} (h : 0 ≤ 12 * it + q ∧ 12 * it + q + n ≤ 88) : BG σ (FR σ w i it q n) :=
  ⟨fun b x y => by rw [FR_o (by decide)]; exact cpy19 x y, fun b x => by unfold FR; rw [if_neg (by omega)]; exact cpy19o (by decide), fun a b x y => by rw [FR_o x]; exact cpy19o (scr_a y)⟩

theorem hyVX9_from : yX9_from.cls = RX9 ∧ yX9_from.cls ≠ "java/lang/invoke/MethodHandle" ∧ yX9_from.cls ≠ "java/lang/invoke/VarHandle" ∧ (parseMethodDescriptor yX9_from.desc).map (fun d => d.parameters.length) = some 4 := by decide +kernel
theorem uX9_from_X9 : ∀ w ∈ u_ws RX9 TX9 35, w ∈ wsX9_from := by decide +kernel
theorem fX9_from_77 : Cond.fieldLink RX9 77 (TX9 34).1 (TX9 34).2.1 (TX9 34).2.2.1 ∈ wsX9_from := by decide +kernel
theorem fX9_from_73 : Cond.fieldLink RX9 73 (TX9 33).1 (TX9 33).2.1 (TX9 33).2.2.1 ∈ wsX9_from := by decide +kernel
theorem fX9_from_9 : Cond.fieldLink RX9 9 (TX9 0).1 (TX9 0).2.1 (TX9 0).2.2.1 ∈ wsX9_from := by decide +kernel
set_option maxHeartbeats 4000000 in
set_option maxRecDepth 100000 in
theorem c_X9_from {l : Launch} {G : Gy} (hG : Inj G) (σ : St) {w i it q : Int} (h : RO σ) (hd : 0 ≤ σ 0 11 ∧ σ 0 11 ≤ 12) (hs : ∀ j, 0 ≤ j → j < 4 → -1 ≤ σ 21 j ∧ σ 21 j ≤ 24) (hr : ∀ j, 0 ≤ j → j < 96 → lR (σ 20 j)) (hw : iR w) (hi : iR i) (hit : iR it) (hq : iR q) : MI l yX9_from wsX9_from ({ frames := 2, cells := 0, slots := 0, locals := 43 } : Room) G [.ref (G.2.2 0), .int (zI (w)), .int (zI (i)), .int (zI (it)), .int (zI (q))] σ (fun x σ2 => (¬ ((0 ≤ w ∧ w ≤ 3) ∧ ((0 ≤ it ∧ it ≤ 2) ∧ (0 ≤ q ∧ q ≤ 11))) ∧ x = -1 ∧ σ2 = σ) ∨ (((0 ≤ w ∧ w ≤ 3) ∧ ((0 ≤ it ∧ it ≤ 2) ∧ (0 ≤ q ∧ q ≤ 11))) ∧ σ 21 w < 0 ∧ x = -11 ∧ σ2 = σ) ∨ (((0 ≤ w ∧ w ≤ 3) ∧ ((0 ≤ it ∧ it ≤ 2) ∧ (0 ≤ q ∧ q ≤ 11))) ∧ 0 ≤ σ 21 w ∧ i < 0 ∧ x = -13 ∧ σ2 = σ) ∨ (((0 ≤ w ∧ w ≤ 3) ∧ ((0 ≤ it ∧ it ≤ 2) ∧ (0 ≤ q ∧ q ≤ 11))) ∧ 0 ≤ σ 21 w ∧ 0 ≤ i ∧ 0 ≤ x ∧ (∀ j, 0 ≤ j → j < x → goF σ w i q j) ∧ ¬ goF σ w i q x ∧ ∃ τ, σ2 = SC (CG σ (wFR σ w i it q x)) τ)) := by
  refine MI.of hG (by decide +kernel) rfl rfl (Nat.le_of_ble_eq_true rfl) rfl ?_
  intro p e s m args below meth c H0 Q hC hret
  have hn := h.1
  have L125 : ∀ (k : Int), (((0 ≤ w ∧ w ≤ 3) ∧ ((0 ≤ it ∧ it ≤ 2) ∧ (0 ≤ q ∧ q ≤ 11))) ∧ 0 ≤ σ 21 w ∧ 0 ≤ i) → (0 ≤ k ∧ q + k ≤ 12) → (∀ j, 0 ≤ j → j < k → goF σ w i q j) → (¬ goF σ w i q k) → wp p l e ({ frames := 2, cells := 0, slots := 0, locals := 43 } : Room) s m args below meth c (aA G (Array.size H0)) H0 8 Q G (FR σ w i it q k) 125 [(0, .ref (G.2.2 0)), (1, .int (zI (w))), (2, .int (zI (i))), (3, .int (zI (it))), (4, .int (zI (q))), (5, .int (zI (k)))] [] := by
    intro k g0 h1 h2 h3
    refine wp_aload_n hC dX9_from_125 rfl ?_
    refine wp_callVu (As := []) hC (c_X9_changed hG (FR σ w i it q k) hd (show iR (σ 0 5) by omega)) gX9_from_X9_changed rfl ⟨rfl, rfl⟩ ⟨by decide, by decide⟩ hyVX9_changed (rfl) (by decide) (rfl) rfl (Nat.le_of_ble_eq_true rfl) dX9_from_126 ?_
    refine wp_iload hC dX9_from_129 rfl ?_
    exact hret _ _ _ _ (by omega) rfl (Or.inr (Or.inr (Or.inr ⟨g0.1, g0.2.1, g0.2.2, h1.1, h2, h3, _, (BG_CG hd (BG_FR (by omega))).trans (by rw [FR_1])⟩))) dX9_from_131
  have L44 : ∀ (n : Nat) (k : Int), ((12 - k).toNat) = n → (((0 ≤ w ∧ w ≤ 3) ∧ ((0 ≤ it ∧ it ≤ 2) ∧ (0 ≤ q ∧ q ≤ 11))) ∧ 0 ≤ σ 21 w ∧ 0 ≤ i) → (0 ≤ k ∧ q + k ≤ 12) → (∀ j, 0 ≤ j → j < k → goF σ w i q j) → wp p l e ({ frames := 2, cells := 0, slots := 0, locals := 43 } : Room) s m args below meth c (aA G (Array.size H0)) H0 8 Q G (FR σ w i it q k) 44 [(0, .ref (G.2.2 0)), (1, .int (zI (w))), (2, .int (zI (i))), (3, .int (zI (it))), (4, .int (zI (q))), (5, .int (zI (k)))] [] := by
    intro n44
    induction n44 using Nat.strongRecOn with
    | ind n44 ih =>
      intro k hm44 g0 h1 h2
      have hsw := hs w (by omega) (by omega)
      refine wp_iload hC dX9_from_44 rfl ?_
      refine wp_iload hC dX9_from_46 rfl ?_
      refine wp_iadd hC dX9_from_48 ?_
      refine wp_bipush hC dX9_from_49 rfl ?_
      refine wp_icmp_ge (tgt := 125) hC dX9_from_51 (by decide) (by omega) (by omega) (fun c_51 => ?_) (fun c_51 => ?_)
      · exact L125 _ g0 h1 h2 (fun z => by have z1 := z.1; have z2 := z.2.1; omega)
      · refine wp_iload_n hC dX9_from_54 rfl ?_
        refine wp_aload_n hC dX9_from_55 rfl ?_
        refine wp_geta (k := 34) hC (rfl) (by decide) (rfl) (rfl) (by decide) uX9_from_X9 fX9_from_77 (rfl) dX9_from_56 ?_
        refine wp_iload_n hC dX9_from_59 rfl ?_
        refine wp_iald (n := 4) hC (rfl) (Nat.le_of_ble_eq_true rfl) (rfl) (by decide) (by omega) dX9_from_60 ?_
        refine wp_top (b := σ 21 w) rfl ?_
        refine wp_iload hC dX9_from_61 rfl ?_
        refine wp_isub hC dX9_from_63 ?_
        refine wp_icmp_ge (tgt := 125) hC dX9_from_64 (by decide) (by omega) (by omega) (fun c_64 => ?_) (fun c_64 => ?_)
        · exact L125 _ g0 h1 h2 (fun z => by have z1 := z.1; have z2 := z.2.1; omega)
        · refine wp_aload_n hC dX9_from_67 rfl ?_
          refine wp_geta (k := 33) hC (rfl) (by decide) (rfl) (rfl) (by decide) uX9_from_X9 fX9_from_73 (rfl) dX9_from_68 ?_
          refine wp_bipush hC dX9_from_71 rfl ?_
          refine wp_iload_n hC dX9_from_73 rfl ?_
          refine wp_imul hC dX9_from_74 ?_
          refine wp_iload_n hC dX9_from_75 rfl ?_
          refine wp_iadd hC dX9_from_76 ?_
          refine wp_iload hC dX9_from_77 rfl ?_
          refine wp_iadd hC dX9_from_79 ?_
          refine wp_lald (n := 96) hC (rfl) (Nat.le_of_ble_eq_true rfl) (rfl) (by decide) (by omega) dX9_from_80 ?_
          have hlr := hr (24 * w + i + k) (by omega) (by omega)
          have e20 : FR σ w i it q k 20 (24 * w + i + k) = σ 20 (24 * w + i + k) := rfl
          rw [e20]
          refine wp_lstore (lv2 := [(6, _), (0, _), (1, _), (2, _), (3, _), (4, _), (5, _)]) hC dX9_from_81 rfl (by decide) ?_
          refine wp_lv hC [1, 2, 3, 4, 5, 6, 0] rfl ?_
          refine wp_lload hC dX9_from_83 rfl ?_
          refine wp_lconst hC dX9_from_85 ?_
          refine wp_lcmp hC dX9_from_86 (hlr) (by decide) ?_
          refine wp_if_lt (tgt := 125) hC dX9_from_87 (by decide) (iR_lcI) (fun c_87 => ?_) (fun c_87 => ?_)
          · refine wp_lv hC [0, 1, 2, 3, 4, 5] rfl ?_
            exact L125 _ g0 h1 h2 (fun z => absurd (lcI_ge.mpr z.2.2.1) (Int.not_le.mpr c_87))
          · have c_87 := lcI_ge.mp c_87
            refine wp_lload hC dX9_from_90 rfl ?_
            refine wp_ldc2 (n := 99) hC dX9_from_92 (by decide +kernel) ?_
            refine wp_lcmp hC dX9_from_95 (hlr) (by decide) ?_
            refine wp_if_le (tgt := 102) hC dX9_from_96 (by decide) (iR_lcI) (fun c_96 => ?_) (fun c_96 => ?_)
            · have c_96 := lcI_le.mp c_96
              refine wp_aload_n hC dX9_from_102 rfl ?_
              refine wp_geta (k := 0) hC (rfl) (by decide) (rfl) (rfl) (by decide) uX9_from_X9 fX9_from_9 (rfl) dX9_from_103 ?_
              refine wp_iload_n hC dX9_from_106 rfl ?_
              refine wp_iload hC dX9_from_107 rfl ?_
              refine wp_iload hC dX9_from_109 rfl ?_
              refine wp_iadd hC dX9_from_111 ?_
              refine wp_callSe (As := [_, _]) hC (c_X9_at hG _ (by omega) (by omega)) gX9_from_X9_at rfl ⟨rfl, rfl⟩ ⟨by decide, by decide⟩ hySX9_at rfl (Nat.le_of_ble_eq_true rfl) dX9_from_112 (fun hx_112 => ?_)
              refine wp_lload hC dX9_from_115 rfl ?_
              refine wp_l2i hC dX9_from_117 (by omega) ?_
              refine wp_iast (n := 88) hC (rfl) (Nat.le_of_ble_eq_true rfl) (rfl) (by decide) (by omega) dX9_from_118 ?_
              refine wp_iinc (lv2 := [(0, _), (1, _), (2, _), (3, _), (4, _), (5, _), (6, _)]) hC dX9_from_119 rfl rfl (by decide) ?_
              refine wp_goto (tgt := 44) hC dX9_from_122 (by decide) ?_
              refine wp_lv hC [0, 1, 2, 3, 4, 5] rfl ?_
              refine wp_st (σ2 := FR σ w i it q (k + 1)) (FR_s h1.1) ?_
              exact ih _ (by omega) _ rfl g0 (by omega) (fun j a b => by
                rcases Int.lt_or_le j k with z | z
                · exact h2 j a z
                · rw [show j = k by omega]; exact ⟨by omega, by omega, by omega, by omega⟩)
            · have c_96 := Int.not_le.mp (fun z => (Int.not_le.mpr c_96) (lcI_le.mpr z))
              refine wp_goto (tgt := 125) hC dX9_from_99 (by decide) ?_
              refine wp_lv hC [0, 1, 2, 3, 4, 5] rfl ?_
              exact L125 _ g0 h1 h2 (fun z => by have z2 := z.2.2.2; omega)
  refine wp_iload_n hC dX9_from_0 rfl ?_
  refine wp_callSb (As := [_]) hC (c_X9_isShelf hG _ (by omega)) gX9_from_X9_isShelf rfl ⟨rfl, rfl⟩ ⟨by decide, by decide⟩ hySX9_isShelf rfl (Nat.le_of_ble_eq_true rfl) dX9_from_1 (fun hx_1 => ?_)
  refine wp_ifb_eq (tgt := 16) hC dX9_from_4 (by decide) (fun c_4 => ?_) (fun c_4 => ?_)
  · refine wp_iconst hC dX9_from_16 ?_
    exact hret _ _ _ _ (by omega) rfl (Or.inl ⟨by omega, rfl, rfl⟩) dX9_from_17
  · refine wp_iload_n hC dX9_from_7 rfl ?_
    refine wp_iload hC dX9_from_8 rfl ?_
    refine wp_callSb (As := [_, _]) hC (c_X9_isSupply hG _ (by omega) (by omega)) gX9_from_X9_isSupply rfl ⟨rfl, rfl⟩ ⟨by decide, by decide⟩ hySX9_isSupply rfl (Nat.le_of_ble_eq_true rfl) dX9_from_10 (fun hx_10 => ?_)
    refine wp_ifb_ne (tgt := 18) hC dX9_from_13 (by decide) (fun c_13 => ?_) (fun c_13 => ?_)
    · have hsw := hs w (by omega) (by omega)
      refine wp_aload_n hC dX9_from_18 rfl ?_
      refine wp_geta (k := 34) hC (rfl) (by decide) (rfl) (rfl) (by decide) uX9_from_X9 fX9_from_77 (rfl) dX9_from_19 ?_
      refine wp_iload_n hC dX9_from_22 rfl ?_
      refine wp_iald (n := 4) hC (rfl) (Nat.le_of_ble_eq_true rfl) (rfl) (by decide) (by omega) dX9_from_23 ?_
      refine wp_if_ge (tgt := 30) hC dX9_from_24 (by decide) (by omega) (fun c_24 => ?_) (fun c_24 => ?_)
      · refine wp_iload_n hC dX9_from_30 rfl ?_
        refine wp_if_ge (tgt := 37) hC dX9_from_31 (by decide) (by omega) (fun c_31 => ?_) (fun c_31 => ?_)
        · refine wp_aload_n hC dX9_from_37 rfl ?_
          refine wp_callVu (As := []) hC (c_X9_begins hG _) gX9_from_X9_begins rfl ⟨rfl, rfl⟩ ⟨by decide, by decide⟩ hyVX9_begins (rfl) (by decide) (rfl) rfl (Nat.le_of_ble_eq_true rfl) dX9_from_38 ?_
          refine wp_iconst hC dX9_from_41 ?_
          refine wp_istore (lv2 := [(0, _), (1, _), (2, _), (3, _), (4, _), (5, _)]) hC dX9_from_42 rfl (by decide) ?_
          refine wp_st (σ2 := FR σ w i it q 0) FR_0 ?_
          exact L44 _ _ rfl ⟨⟨c_4, c_13⟩, c_24, c_31⟩ (by omega) (fun j a b => by omega)
        · refine wp_bipush hC dX9_from_34 rfl ?_
          exact hret _ _ _ _ (by omega) rfl (Or.inr (Or.inr (Or.inl ⟨⟨c_4, c_13⟩, c_24, c_31, rfl, rfl⟩))) dX9_from_36
      · refine wp_bipush hC dX9_from_27 rfl ?_
        exact hret _ _ _ _ (by omega) rfl (Or.inr (Or.inl ⟨⟨c_4, c_13⟩, c_24, rfl, rfl⟩)) dX9_from_29
    · refine wp_iconst hC dX9_from_16 ?_
      exact hret _ _ _ _ (by omega) rfl (Or.inl ⟨by omega, rfl, rfl⟩) dX9_from_17

/-- what is left at (j, j, j), j one more than the period -/
def LJ (σ : St) (j : Int) : Int := LFT (σ 1) (σ 0 5) (σ 2) (σ 3) (fun o => σ 1 (64 + o)) (tb (TH σ 1)) j j j
/-- what is left, put into a row -/
def LTk (σ : St) (w i n : Int) : St := fun a b => if a = 20 ∧ 24 * w + i ≤ b ∧ b < 24 * w + i + n then LJ σ (b - (24 * w + i) + 1) else σ a b
theorem LTk_0 {σ τ : St} {w i : Int} : SC σ τ = SC (LTk σ w i 0) τ := by
  have : LTk σ w i 0 = σ := by
    funext a b
    unfold LTk
    rw [if_neg (by omega)]
  rw [this]
theorem LTk_s {σ τ : St} {w i n : Int} (h : 0 ≤ n) : put (SC (LTk σ w i n) τ) 20 (24 * w + i + n) (LJ σ (n + 1)) = SC (LTk σ w i (n + 1)) τ := by
  rw [SC_putc rfl]
  congr 1
  funext a b
  by_cases z : a = 20 ∧ b = 24 * w + i + n
  · rw [z.1, z.2, put_s]
    unfold LTk
    rw [if_pos (by omega)]
    congr 1
    omega
  · rw [put_q z]
    unfold LTk
    by_cases y : a = 20 ∧ 24 * w + i ≤ b ∧ b < 24 * w + i + n
    · rw [if_pos y, if_pos (by omega)]
    · rw [if_neg y, if_neg (by omega)]
theorem LJ_rng {σ : St} (h : RO σ) {j : Int} (h0 : 0 ≤ j) (h1 : j ≤ 12) : -1440 ≤ LJ σ j ∧ LJ σ j ≤ 3564 := by
  have a := sq_rng (su := σ 1) h.2.1.1 (i := 0) (q := j) (by omega) (by omega)
  have b := sq_rng (su := σ 1) h.2.1.1 (i := 1) (q := j) (by omega) (by omega)
  have c := sq_rng (su := σ 1) h.2.1.1 (i := 2) (q := j) (by omega) (by omega)
  have d := dm_rng (n := σ 0 5) (am := σ 2) (it := σ 3) (la := fun o => σ 1 (64 + o)) (P := tb (TH σ 1)) (a := j) (b := j) (c := j) h.1.1 (fun o x y => h.2.2.1 o x (by have := h.1; omega))
  have := h.1
  unfold LJ LFT
  omega
theorem prt_j {j : Int} (h0 : 0 ≤ j) (h1 : j ≤ 12) : prt (10101 * j) 0 = j ∧ prt (10101 * j) 1 = j ∧ prt (10101 * j) 2 = j := by
  unfold prt
  refine ⟨?_, ?_, ?_⟩
  · rw [if_pos rfl]; omega
  · rw [if_neg (by decide), if_pos rfl, show 10101 * j / 100 = 101 * j by omega]; omega
  · rw [if_neg (by decide), if_neg (by decide)]; omega

theorem FSk_SCx {σ : St} : FSk σ 39 = SC σ (FSk σ 39) := by
  have h : FSk σ 39 = S1 σ (FSk σ 39) := FSk_S1
  funext a b
  cases hs : scr a b
  · rw [SC_n hs, h, S1_n (scr1_scr hs)]
  · rw [SC_y hs]
theorem hyVX9_lefts : yX9_lefts.cls = RX9 ∧ yX9_lefts.cls ≠ "java/lang/invoke/MethodHandle" ∧ yX9_lefts.cls ≠ "java/lang/invoke/VarHandle" ∧ (parseMethodDescriptor yX9_lefts.desc).map (fun d => d.parameters.length) = some 2 := by decide +kernel
theorem uX9_lefts_X9 : ∀ w ∈ u_ws RX9 TX9 35, w ∈ wsX9_lefts := by decide +kernel
theorem fX9_lefts_77 : Cond.fieldLink RX9 77 (TX9 34).1 (TX9 34).2.1 (TX9 34).2.2.1 ∈ wsX9_lefts := by decide +kernel
theorem fX9_lefts_73 : Cond.fieldLink RX9 73 (TX9 33).1 (TX9 33).2.1 (TX9 33).2.2.1 ∈ wsX9_lefts := by decide +kernel
set_option maxHeartbeats 4000000 in
set_option maxRecDepth 100000 in
theorem c_X9_lefts {l : Launch} {G : Gy} (hG : Inj G) (σ : St) {w i : Int} (h : RO σ) (hs : ∀ j, 0 ≤ j → j < 4 → -1 ≤ σ 21 j ∧ σ 21 j ≤ 24) (hw : iR w) (hi : iR i) : MI l yX9_lefts wsX9_lefts ({ frames := 3, cells := 0, slots := 0, locals := 69 } : Room) G [.ref (G.2.2 0), .int (zI (w)), .int (zI (i))] σ (fun x σ2 => (¬ (0 ≤ w ∧ w ≤ 3) ∧ x = -1 ∧ σ2 = σ) ∨ ((0 ≤ w ∧ w ≤ 3) ∧ σ 21 w < 0 ∧ x = -11 ∧ σ2 = σ) ∨ ((0 ≤ w ∧ w ≤ 3) ∧ 0 ≤ σ 21 w ∧ i < 0 ∧ x = -13 ∧ σ2 = σ) ∨ ((0 ≤ w ∧ w ≤ 3) ∧ 0 ≤ σ 21 w ∧ 0 ≤ i ∧ x = max 0 (min 12 (σ 21 w - i)) ∧ ∃ τ, σ2 = SC (LTk σ w i x) τ)) := by
  refine MI.of hG (by decide +kernel) rfl rfl (Nat.le_of_ble_eq_true rfl) rfl ?_
  intro p e s m args below meth c H0 Q hC hret
  have hn := h.1
  have L34 : ∀ (n : Nat) (k : Int), ((12 - k).toNat) = n → ((0 ≤ w ∧ w ≤ 3) ∧ 0 ≤ σ 21 w ∧ 0 ≤ i) → (0 ≤ k ∧ k ≤ max 0 (min 12 (σ 21 w - i))) → wp p l e ({ frames := 3, cells := 0, slots := 0, locals := 69 } : Room) s m args below meth c (aA G (Array.size H0)) H0 4 Q G (SC (LTk σ w i k) (FSk σ 39)) 34 [(0, .ref (G.2.2 0)), (1, .int (zI (w))), (2, .int (zI (i))), (3, .int (zI (k)))] [] := by
    intro n34
    induction n34 using Nat.strongRecOn with
    | ind n34 ih =>
      intro k hm34 g0 h1
      have hsw := hs w (by omega) (by omega)
      have hlj := fun z : k < 12 => LJ_rng h (j := k + 1) (by omega) (by omega)
      have hpj := fun z : k < 12 => prt_j (j := k + 1) (by omega) (by omega)
      refine wp_iload_n hC dX9_lefts_34 rfl ?_
      refine wp_bipush hC dX9_lefts_35 rfl ?_
      refine wp_icmp_ge (tgt := 88) hC dX9_lefts_37 (by decide) (by omega) (by omega) (fun c_37 => ?_) (fun c_37 => ?_)
      · refine wp_iload_n hC dX9_lefts_88 rfl ?_
        exact hret _ _ _ _ (by omega) rfl (Or.inr (Or.inr (Or.inr ⟨g0.1, g0.2.1, g0.2.2, by omega, _, rfl⟩))) dX9_lefts_89
      · refine wp_iload_n hC dX9_lefts_40 rfl ?_
        refine wp_aload_n hC dX9_lefts_41 rfl ?_
        refine wp_geta (k := 34) hC (rfl) (by decide) (rfl) (rfl) (by decide) uX9_lefts_X9 fX9_lefts_77 (rfl) dX9_lefts_42 ?_
        refine wp_iload_n hC dX9_lefts_45 rfl ?_
        refine wp_iald (n := 4) hC (rfl) (Nat.le_of_ble_eq_true rfl) (rfl) (by decide) (by omega) dX9_lefts_46 ?_
        refine wp_top (b := σ 21 w) rfl ?_
        refine wp_iload_n hC dX9_lefts_47 rfl ?_
        refine wp_isub hC dX9_lefts_48 ?_
        refine wp_icmp_ge (tgt := 88) hC dX9_lefts_49 (by decide) (by omega) (by omega) (fun c_49 => ?_) (fun c_49 => ?_)
        · refine wp_iload_n hC dX9_lefts_88 rfl ?_
          exact hret _ _ _ _ (by omega) rfl (Or.inr (Or.inr (Or.inr ⟨g0.1, g0.2.1, g0.2.2, by omega, _, rfl⟩))) dX9_lefts_89
        · refine wp_aload_n hC dX9_lefts_52 rfl ?_
          refine wp_geta (k := 33) hC (rfl) (by decide) (rfl) (rfl) (by decide) uX9_lefts_X9 fX9_lefts_73 (rfl) dX9_lefts_53 ?_
          refine wp_bipush hC dX9_lefts_56 rfl ?_
          refine wp_iload_n hC dX9_lefts_58 rfl ?_
          refine wp_imul hC dX9_lefts_59 ?_
          refine wp_iload_n hC dX9_lefts_60 rfl ?_
          refine wp_iadd hC dX9_lefts_61 ?_
          refine wp_iload_n hC dX9_lefts_62 rfl ?_
          refine wp_iadd hC dX9_lefts_63 ?_
          refine wp_aload_n hC dX9_lefts_64 rfl ?_
          refine wp_sipush hC dX9_lefts_65 rfl ?_
          refine wp_iload_n hC dX9_lefts_68 rfl ?_
          refine wp_iconst hC dX9_lefts_69 ?_
          refine wp_iadd hC dX9_lefts_70 ?_
          refine wp_imul hC dX9_lefts_71 ?_
          refine wp_aload_n hC dX9_lefts_72 rfl ?_
          refine wp_iconst hC dX9_lefts_73 ?_
          refine wp_callVe (As := [_]) hC (c_X9_those hG (SC (LTk σ w i k) (FSk σ 39)) (by omega) (kI h) h.1) gX9_lefts_X9_those rfl ⟨rfl, rfl⟩ ⟨by decide, by decide⟩ hyVX9_those (rfl) (by decide) (rfl) rfl (Nat.le_of_ble_eq_true rfl) dX9_lefts_74 (fun hx_74 => ?_)
          refine wp_top (b := TH σ 1) rfl ?_
          refine wp_callVe (As := [_, _]) hC (c_X9_leftAt hG (SC (LTk σ w i k) (FSk σ 39)) h (fun i q a b c d => FSk_SUMS i q a b c d) (bsI h.1) (by omega) (fun i a b => by
              have e := hpj c_37
              rcases (show i = 0 ∨ i = 1 ∨ i = 2 by omega) with rfl | rfl | rfl
              · rw [e.1]; omega
              · rw [e.2.1]; omega
              · rw [e.2.2]; omega)) gX9_lefts_X9_leftAt rfl ⟨rfl, rfl⟩ ⟨by decide, by decide⟩ hyVX9_leftAt (rfl) (by decide) (rfl) rfl (Nat.le_of_ble_eq_true rfl) dX9_lefts_77 (fun hx_77 => ?_)
          refine wp_top (b := LJ σ (k + 1)) (by rw [(hpj c_37).1, (hpj c_37).2.1, (hpj c_37).2.2]; rfl) ?_
          have hl1 := hlj c_37
          refine wp_i2l hC dX9_lefts_80 (by omega) ?_
          refine wp_last (n := 96) hC (rfl) (Nat.le_of_ble_eq_true rfl) (rfl) (by decide) (by omega) dX9_lefts_81 ?_
          refine wp_iinc (lv2 := [(0, _), (1, _), (2, _), (3, _)]) hC dX9_lefts_82 rfl rfl (by decide) ?_
          refine wp_goto (tgt := 34) hC dX9_lefts_85 (by decide) ?_
          refine wp_st (σ2 := SC (LTk σ w i (k + 1)) (FSk σ 39)) (LTk_s h1.1) ?_
          exact ih _ (by omega) _ rfl g0 (by omega)
  refine wp_iload_n hC dX9_lefts_0 rfl ?_
  refine wp_callSb (As := [_]) hC (c_X9_isShelf hG _ (by omega)) gX9_lefts_X9_isShelf rfl ⟨rfl, rfl⟩ ⟨by decide, by decide⟩ hySX9_isShelf rfl (Nat.le_of_ble_eq_true rfl) dX9_lefts_1 (fun hx_1 => ?_)
  refine wp_ifb_ne (tgt := 9) hC dX9_lefts_4 (by decide) (fun c_4 => ?_) (fun c_4 => ?_)
  · have hsw := hs w (by omega) (by omega)
    refine wp_aload_n hC dX9_lefts_9 rfl ?_
    refine wp_geta (k := 34) hC (rfl) (by decide) (rfl) (rfl) (by decide) uX9_lefts_X9 fX9_lefts_77 (rfl) dX9_lefts_10 ?_
    refine wp_iload_n hC dX9_lefts_13 rfl ?_
    refine wp_iald (n := 4) hC (rfl) (Nat.le_of_ble_eq_true rfl) (rfl) (by decide) (by omega) dX9_lefts_14 ?_
    refine wp_if_ge (tgt := 21) hC dX9_lefts_15 (by decide) (by omega) (fun c_15 => ?_) (fun c_15 => ?_)
    · refine wp_iload_n hC dX9_lefts_21 rfl ?_
      refine wp_if_ge (tgt := 28) hC dX9_lefts_22 (by decide) (by omega) (fun c_22 => ?_) (fun c_22 => ?_)
      · refine wp_aload_n hC dX9_lefts_28 rfl ?_
        refine wp_callVu (As := []) hC (c_X9_findSums hG _ h.2.1.1) gX9_lefts_X9_findSums rfl ⟨rfl, rfl⟩ ⟨by decide, by decide⟩ hyVX9_findSums (rfl) (by decide) (rfl) rfl (Nat.le_of_ble_eq_true rfl) dX9_lefts_29 ?_
        refine wp_iconst hC dX9_lefts_32 ?_
        refine wp_istore_n (lv2 := [(0, _), (1, _), (2, _), (3, _)]) hC dX9_lefts_33 rfl (by decide) ?_
        refine wp_st (σ2 := SC (LTk σ w i 0) (FSk σ 39)) (by rw [← LTk_0]; exact FSk_SCx) ?_
        exact L34 _ _ rfl ⟨c_4, c_15, c_22⟩ (by omega)
      · refine wp_bipush hC dX9_lefts_25 rfl ?_
        exact hret _ _ _ _ (by omega) rfl (Or.inr (Or.inr (Or.inl ⟨c_4, c_15, c_22, rfl, rfl⟩))) dX9_lefts_27
    · refine wp_bipush hC dX9_lefts_18 rfl ?_
      exact hret _ _ _ _ (by omega) rfl (Or.inr (Or.inl ⟨c_4, c_15, rfl, rfl⟩)) dX9_lefts_20
  · refine wp_iconst hC dX9_lefts_7 ?_
    exact hret _ _ _ _ (by omega) rfl (Or.inl ⟨c_4, rfl, rfl⟩) dX9_lefts_8
