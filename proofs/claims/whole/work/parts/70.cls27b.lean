theorem hyVX8_filled : yX8_filled.cls = RX8 ∧ yX8_filled.cls ≠ "java/lang/invoke/MethodHandle" ∧ yX8_filled.cls ≠ "java/lang/invoke/VarHandle" ∧ (parseMethodDescriptor yX8_filled.desc).map (fun d => d.parameters.length) = some 1 := by decide +kernel
theorem uX8_filled_X8 : ∀ w ∈ u_ws RX8 TX8 13, w ∈ wsX8_filled := by decide +kernel
theorem fX8_filled_43 : Cond.fieldLink RX8 43 (TX8 5).1 (TX8 5).2.1 (TX8 5).2.2.1 ∈ wsX8_filled := by decide +kernel
theorem fX8_filled_12 : Cond.fieldLink RX8 12 (TX8 0).1 (TX8 0).2.1 (TX8 0).2.2.1 ∈ wsX8_filled := by decide +kernel
theorem fX8_filled_19 : Cond.fieldLink RX8 19 (TX8 1).1 (TX8 1).2.1 (TX8 1).2.2.1 ∈ wsX8_filled := by decide +kernel
theorem fX8_filled_50 : Cond.fieldLink RX8 50 (TX8 6).1 (TX8 6).2.1 (TX8 6).2.2.1 ∈ wsX8_filled := by decide +kernel
theorem fX8_filled_68 : Cond.fieldLink RX8 68 (TX8 9).1 (TX8 9).2.1 (TX8 9).2.2.1 ∈ wsX8_filled := by decide +kernel
theorem uX8_filled_X1 : ∀ w ∈ u_ws RX1 TX1 7, w ∈ wsX8_filled := by decide +kernel
theorem fnX8_229 : Cond.fieldLinkNest RX8 229 (TX1 1).1 (TX1 1).2.1 (TX1 1).2.2.1 "PromiseMind" ∈ tables_1 := List.mem_of_getElem? (i := 172) (by decide +kernel)
theorem fnX8_226 : Cond.fieldLinkNest RX8 226 (TX1 6).1 (TX1 6).2.1 (TX1 6).2.2.1 "PromiseMind" ∈ tables_1 := List.mem_of_getElem? (i := 178) (by decide +kernel)
set_option maxHeartbeats 16000000 in
set_option maxRecDepth 100000 in
theorem c_X8_filled {l : Launch} {G : Gy} (hG : Inj G) (σ : St) {wh : Int} (h : XO σ) (h1 : ∀ o, 0 ≤ o → o < σ 83 5 → 1 ≤ σ 84 o) (hwh : iR wh) : MI l yX8_filled wsX8_filled ({ frames := 3, cells := 0, slots := 0, locals := 71 } : Room) G [.ref (G.2.2 82), .int (zI (wh))] σ (fun x σ2 => (¬ (0 ≤ wh ∧ wh ≤ 1) ∧ x = -1 ∧ σ2 = σ) ∨ ((0 ≤ wh ∧ wh ≤ 1) ∧ 8 < pc (TX σ 0) ∧ x = -7 ∧ σ2 = σ) ∨ ((0 ≤ wh ∧ wh ≤ 1) ∧ pc (TX σ 0) ≤ 8 ∧ (∃ i m, FB (FCX σ) (FVX σ) (pw (pc (TX σ 0))) i m ∧ x = if wh = 0 then i else m) ∧ EQ σ2 σ)) := by
  refine MI.of hG (by decide +kernel) rfl rfl (Nat.le_of_ble_eq_true rfl) rfl ?_
  intro p e s m args below meth c H0 Q hC hret
  have hn := h.1
  have hTr : 0 ≤ TX σ 1 ∧ TX σ 1 ≤ 2147483647 := bsI (P := fun o => decide (σ 111 o = 1)) hn
  have hTr0 : 0 ≤ TX σ 0 ∧ TX σ 0 ≤ 2147483647 := bsI (P := fun o => decide (σ 111 o = 0)) hn
  have hpc : pc (TX σ 0) = cnt (σ 83 5) (kdX σ 0) := pc_bs (P := kdX σ 0) ⟨hn.1, by omega⟩
  have hTQ : ∀ q, 0 ≤ q → q < σ 83 5 → tb (TX σ 1) q = kdX σ 1 q := fun q a b => by show tb (bsum (kdX σ 1) (σ 83 5)) q = _; rw [tb_bs hn.1 a, decide_eq_true b, Bool.true_and]
  have hpr0 := pc_rng (TX σ 0)
  have L38 : ∀ (n : Nat) (k : Int), ((4 - k).toNat) = n → (0 ≤ wh ∧ wh ≤ 1) → (pc (TX σ 0) ≤ 8) → (0 ≤ k ∧ k ≤ 4) → wp p l e ({ frames := 3, cells := 0, slots := 0, locals := 71 } : Room) s m args below meth c (aA G (Array.size H0)) H0 5 Q G (RMk σ k) 38 [(0, .ref (G.2.2 82)), (1, .int (zI (wh))), (2, .int (zI (TX σ 0))), (3, .int (zI (TX σ 1))), (4, .int (zI (k)))] [] := by
    intro n38
    induction n38 using Nat.strongRecOn with
    | ind n38 ih =>
      intro k hm38 g0 g1 h2
      refine wp_iload hC dX8_filled_38 rfl ?_
      refine wp_iconst hC dX8_filled_40 ?_
      refine wp_icmp_ge (tgt := 64) hC dX8_filled_41 (by decide) (by omega) (by omega) (fun c_41 => ?_) (fun c_41 => ?_)
      · refine wp_st (σ2 := RMk σ 4) (by rw [show k = 4 by omega]) ?_
        refine wp_aload_n hC dX8_filled_64 rfl ?_
        refine wp_geta (k := 5) hC (rfl) (by decide) (rfl) (rfl) (by decide) uX8_filled_X8 fX8_filled_43 (rfl) dX8_filled_65 ?_
        refine wp_aload_n hC dX8_filled_68 rfl ?_
        refine wp_geta (k := 0) hC (rfl) (by decide) (rfl) (rfl) (by decide) uX8_filled_X8 fX8_filled_12 (rfl) dX8_filled_69 ?_
        refine wp_aload_n hC dX8_filled_72 rfl ?_
        refine wp_geta (k := 1) hC (rfl) (by decide) (rfl) (rfl) (by decide) uX8_filled_X8 fX8_filled_19 (rfl) dX8_filled_73 ?_
        refine wp_iload_n hC dX8_filled_76 rfl ?_
        refine wp_callVu (As := [_, _, _]) hC (c_X6_lay hG (RMk σ 4) (B := TX σ 1) h hTr) gX8_filled_X6_lay rfl ⟨rfl, rfl⟩ ⟨by decide, by decide⟩ hyVX6_lay (rfl) (by decide) (rfl) rfl (Nat.le_of_ble_eq_true rfl) dX8_filled_77 ?_
        refine wp_aload_n hC dX8_filled_80 rfl ?_
        refine wp_geta (k := 6) hC (rfl) (by decide) (rfl) (rfl) (by decide) uX8_filled_X8 fX8_filled_50 (rfl) dX8_filled_81 ?_
        refine wp_aload_n hC dX8_filled_84 rfl ?_
        refine wp_geta (k := 0) hC (rfl) (by decide) (rfl) (rfl) (by decide) uX8_filled_X8 fX8_filled_12 (rfl) dX8_filled_85 ?_
        refine wp_aload_n hC dX8_filled_88 rfl ?_
        refine wp_geta (k := 1) hC (rfl) (by decide) (rfl) (rfl) (by decide) uX8_filled_X8 fX8_filled_19 (rfl) dX8_filled_89 ?_
        refine wp_iload_n hC dX8_filled_92 rfl ?_
        refine wp_callVv (As := [_, _, _]) hC (c_X1_pick hG (LY (RMk σ 4) (TX σ 1)) h (by show cnt (σ 83 5) (kdX σ 0) ≤ 8; omega)) gX8_filled_X1_pick rfl ⟨rfl, rfl⟩ ⟨by decide, by decide⟩ hyVX1_pick (rfl) (by decide) (rfl) rfl (Nat.le_of_ble_eq_true rfl) dX8_filled_93 (fun s_93 hp_93 => ?_)
        have hRE : EQ (LY (RMk σ 4) (TX σ 1)) σ := EQ_LY EQ_RM
        have hpe : PKE σ s_93 (σ 83 5) := hp_93.1.2
        have hsw : ∀ w, 0 ≤ w → w < 256 → s_93 96 w = SWj σ s_93 w (cnt (σ 83 5) (kdX σ 0)) := hp_93.2
        have hF : F9 s_93 (LY (RMk σ 4) (TX σ 1)) := hp_93.1.1
        have hp8 : pw (cnt (σ 83 5) (kdX σ 0)) ≤ pw 8 := pw_le (by omega)
        have e8 : pw 8 = 256 := by decide
        have hs9 := cnt_rng (K := kdX σ 0) hn.1
        have hl : ∀ k, 0 ≤ k → k < 2197 → s_93 92 k = LX σ (kdX σ 1) k := fun k a b => by
          rw [hF 92 k (by omega) (by omega), show (LY (RMk σ 4) (TX σ 1)) 92 k = LX (RMk σ 4) (tb (TX σ 1)) k from RW_at ⟨a, b⟩]
          exact LX_P (σ := σ) (fun q x y => hTQ q x y) k
        have h98 : ∀ b, 0 ≤ b → b < 39 → 0 ≤ s_93 98 b ∧ s_93 98 b < 256 := fun b x y => by
          have := (hpe.2.2 (b / 13) (b % 13) (by omega) (by omega) (by omega) (by omega)).1
          rw [show 13 * (b / 13) + b % 13 = b by omega] at this
          omega
        have hx : ∀ k, 0 ≤ k → k < 2197 → -1440 ≤ s_93 92 k ∧ s_93 92 k ≤ 3564 := fun k a b => by rw [hl k a b]; exact LX_rng h _ a b
        refine wp_aload_n hC dX8_filled_96 rfl ?_
        refine wp_geta (k := 6) hC (rfl) (by decide) (rfl) (rfl) (by decide) uX8_filled_X8 fX8_filled_50 (rfl) dX8_filled_97 ?_
        refine wp_aload_n hC dX8_filled_100 rfl ?_
        refine wp_geta (k := 5) hC (rfl) (by decide) (rfl) (rfl) (by decide) uX8_filled_X8 fX8_filled_43 (rfl) dX8_filled_101 ?_
        refine wp_callVv (As := [_]) hC (c_X1_tighten hG s_93 h98 hx) gX8_filled_X1_tighten rfl ⟨rfl, rfl⟩ ⟨by decide, by decide⟩ hyVX1_tighten (rfl) (by decide) (rfl) rfl (Nat.le_of_ble_eq_true rfl) dX8_filled_104 (fun s_104 hp_104 => ?_)
        have hRM : ∀ g, 0 ≤ g → g < 4 → s_104 105 g = ROOM σ g (kdX σ 1) := fun g a b => by
          rw [hp_104.1 105 g (by decide), hF 105 g (by omega) (by omega)]
          exact if_pos ⟨rfl, a, b⟩
        have e95 : s_104 95 = s_93 95 := funext fun b => hp_104.1 95 b (by decide)
        have hpk : ∀ t, 0 ≤ t → t < cnt (σ 83 5) (kdX σ 0) → (0 ≤ s_104 95 t ∧ s_104 95 t < 24) ∧ (0 ≤ σ 84 (s_104 95 t) ∧ σ 84 (s_104 95 t) ≤ 60) ∧ (0 ≤ σ 87 (s_104 95 t) ∧ σ 87 (s_104 95 t) ≤ 3) := fun t a b => by
          rw [e95]
          have hq := (hpe.2.1 t a b).1
          have ho := h.2.2 _ hq.1 hq.2
          exact ⟨⟨hq.1, by omega⟩, ho.2.2.1, ho.2.2.2.2.2.1⟩
        have e96 : ∀ v, 0 ≤ v → v < 256 → s_104 96 v = FVX σ v := fun v a b => by rw [hp_104.1 96 v (by decide), hsw v a b]; exact SW_FV hpe hn.1 v
        have r96 : ∀ v, 0 ≤ v → v < 256 → 0 ≤ s_104 96 v ∧ s_104 96 v ≤ 480 := fun v a b => by
          rw [hp_104.1 96 v (by decide), hsw v a b]
          have := SWj_rg (σ := σ) (τ := s_93) (w := v) hs9.1 (fun t x y => by have := (hpk t x y).2.1; rw [e95] at this; exact this)
          omega
        have z96 : s_104 96 0 = 0 := by
          rw [hp_104.1 96 0 (by decide), hsw 0 (by decide) (by decide)]
          have e : SWj σ s_93 0 (cnt (σ 83 5) (kdX σ 0)) = sm (fun _ => 0) (cnt (σ 83 5) (kdX σ 0)) := sm_c (fun t _ _ => if_neg (by rw [tb_0]; exact Bool.false_ne_true))
          rw [e, sm_k hs9.1, Int.mul_zero]
        have hPU : PKU σ s_104 (cnt (σ 83 5) (kdX σ 0)) := ⟨⟨hs9.1, by omega⟩, (hp_104.1 94 5 (by decide)).trans hpe.1, funext fun b => (hp_104.1 84 b (by decide)).trans (hF 84 b (by omega) (by omega)), funext fun b => (hp_104.1 87 b (by decide)).trans (hF 87 b (by omega) (by omega)), hpk⟩
        refine wp_aload_n hC dX8_filled_107 rfl ?_
        refine wp_geta (k := 6) hC (rfl) (by decide) (rfl) (rfl) (by decide) uX8_filled_X8 fX8_filled_50 (rfl) dX8_filled_108 ?_
        refine wp_aload_n hC dX8_filled_111 rfl ?_
        refine wp_geta (k := 0) hC (rfl) (by decide) (rfl) (rfl) (by decide) uX8_filled_X8 fX8_filled_12 (rfl) dX8_filled_112 ?_
        refine wp_aload_n hC dX8_filled_115 rfl ?_
        refine wp_geta (k := 9) hC (rfl) (by decide) (rfl) (rfl) (by decide) uX8_filled_X8 fX8_filled_68 (rfl) dX8_filled_116 ?_
        refine wp_callVv (As := [_, _]) hC (c_X1_seek hG σ s_104 (s9 := cnt (σ 83 5) (kdX σ 0)) hPU z96 (fun g a b => by rw [hRM g a b]; have := ROOM_rng h (g := g) (by omega) (kdX σ 1); omega) (fun k a b => by have := r96 k a b; omega) (fun k a b => by have := TGI_rg hp_104 hx (Int.le_refl _) a b; omega)) gX8_filled_X1_seek rfl ⟨rfl, rfl⟩ ⟨by decide, by decide⟩ hyVX1_seek (rfl) (by decide) (rfl) rfl (Nat.le_of_ble_eq_true rfl) dX8_filled_119 (fun s_119 hp_119 => ?_)
        obtain ⟨hE, hbr, hfb⟩ := hp_119
        have hfb2 : FB (FCX σ) (FVX σ) (pw (pc (TX σ 0))) (s_119 94 6) (s_104 96 (s_119 94 6)) := by
          rw [hpc]
          refine FB_c (fun k a b => ⟨?_, e96 k (by omega) (by omega)⟩) hfb
          unfold CSK FCX
          rw [RM_all h h1 hpe e95 hRM, MT_all h hpe hsw (by omega) hl hp_104 ⟨by omega, by omega⟩]
        have hEQ : EQ s_119 σ := fun a b x => by
          have h2 : EQ s_93 σ := EQ_F9 hRE hF
          rw [← h2 a b x, hE a b (fun z => by rw [z] at x; cases x) (fun z => by rw [z.1, z.2] at x; cases x), hp_104.1 a b (fun z => by rw [z] at x; cases x)]
        have hbv := r96 (s_119 94 6) hbr.1 hbr.2
        refine wp_iload_n hC dX8_filled_122 rfl ?_
        refine wp_if_ne (tgt := 136) hC dX8_filled_123 (by decide) (by omega) (fun c_123 => ?_) (fun c_123 => ?_)
        · refine wp_aload_n hC dX8_filled_136 rfl ?_
          refine wp_geta (k := 6) hC (rfl) (by decide) (rfl) (rfl) (by decide) uX8_filled_X8 fX8_filled_50 (rfl) dX8_filled_137 ?_
          refine wp_getaN (k := 1) hC (rfl) (by decide) (rfl) (rfl) (by decide) uX8_filled_X1 fnX8_229 (rfl) dX8_filled_140 ?_
          refine wp_aload_n hC dX8_filled_143 rfl ?_
          refine wp_geta (k := 6) hC (rfl) (by decide) (rfl) (rfl) (by decide) uX8_filled_X8 fX8_filled_50 (rfl) dX8_filled_144 ?_
          refine wp_getiN (k := 6) (z := 6) hC rfl (rfl) (by decide) (rfl) (rfl) (by decide) uX8_filled_X1 fnX8_226 (rfl) dX8_filled_147 ?_
          refine wp_top (b := s_119 94 6) rfl ?_
          refine wp_iald (n := 256) hC (rfl) (Nat.le_of_ble_eq_true rfl) (rfl) (by decide) (by omega) dX8_filled_150 ?_
          refine wp_top (b := s_104 96 (s_119 94 6)) (hE 96 _ (by decide) (by omega)) ?_
          exact hret _ _ _ _ (by omega) rfl (Or.inr (Or.inr ⟨g0, g1, ⟨_, _, hfb2, (if_neg (by omega)).symm⟩, hEQ⟩)) dX8_filled_151
        · refine wp_aload_n hC dX8_filled_126 rfl ?_
          refine wp_geta (k := 6) hC (rfl) (by decide) (rfl) (rfl) (by decide) uX8_filled_X8 fX8_filled_50 (rfl) dX8_filled_127 ?_
          refine wp_getiN (k := 6) (z := 6) hC rfl (rfl) (by decide) (rfl) (rfl) (by decide) uX8_filled_X1 fnX8_226 (rfl) dX8_filled_130 ?_
          refine wp_top (b := s_119 94 6) rfl ?_
          refine wp_goto (tgt := 151) hC dX8_filled_133 (by decide) ?_
          exact hret _ _ _ _ (by omega) rfl (Or.inr (Or.inr ⟨g0, g1, ⟨_, _, hfb2, (if_pos (by omega)).symm⟩, hEQ⟩)) dX8_filled_151
      · refine wp_aload_n hC dX8_filled_44 rfl ?_
        refine wp_geta (k := 9) hC (rfl) (by decide) (rfl) (rfl) (by decide) uX8_filled_X8 fX8_filled_68 (rfl) dX8_filled_45 ?_
        refine wp_iload hC dX8_filled_48 rfl ?_
        refine wp_aload_n hC dX8_filled_50 rfl ?_
        refine wp_iload hC dX8_filled_51 rfl ?_
        refine wp_iload_n hC dX8_filled_53 rfl ?_
        refine wp_callVe (As := [_, _]) hC (c_X8_roomOf hG (RMk σ k) (g := k) (B := TX σ 1) h (by omega) hTr) gX8_filled_X8_roomOf rfl ⟨rfl, rfl⟩ ⟨by decide, by decide⟩ hyVX8_roomOf (rfl) (by decide) (rfl) rfl (Nat.le_of_ble_eq_true rfl) dX8_filled_54 (fun hx_54 => ?_)
        refine wp_top (b := ROOM σ k (kdX σ 1)) (by unfold ROOM; exact congrArg (fun z => σ 110 k * sm (σ 109) 36 / 100 - z) (amS_P (n := σ 83 5) (am := σ 84) (gr := σ 87) (fun q a b => hTQ q a b))) ?_
        refine wp_iast (n := 4) hC (rfl) (Nat.le_of_ble_eq_true rfl) (rfl) (by decide) (by omega) dX8_filled_57 ?_
        refine wp_iinc (lv2 := [(0, _), (1, _), (2, _), (3, _), (4, _)]) hC dX8_filled_58 rfl rfl (by decide) ?_
        refine wp_goto (tgt := 38) hC dX8_filled_61 (by decide) ?_
        refine wp_st (RM_s h2.1) ?_
        exact ih _ (by omega) _ rfl g0 g1 (by omega)
  refine wp_iload_n hC dX8_filled_0 rfl ?_
  refine wp_iconst hC dX8_filled_1 ?_
  refine wp_iconst hC dX8_filled_2 ?_
  refine wp_callSb (As := [_, _, _]) hC (c_X8_within hG σ hwh (by omega) (by omega)) gX8_filled_X8_within rfl ⟨rfl, rfl⟩ ⟨by decide, by decide⟩ hySX8_within rfl (Nat.le_of_ble_eq_true rfl) dX8_filled_3 (fun hx_3 => ?_)
  refine wp_ifb_ne (tgt := 11) hC dX8_filled_6 (by decide) (fun c_6 => ?_) (fun c_6 => ?_)
  · refine wp_aload_n hC dX8_filled_11 rfl ?_
    refine wp_iconst hC dX8_filled_12 ?_
    refine wp_callVe (As := [_]) hC (c_X8_setOf hG σ (w := 0) (by omega) (fun o a b => (h.2.2 o a b).1) h.1) gX8_filled_X8_setOf rfl ⟨rfl, rfl⟩ ⟨by decide, by decide⟩ hyVX8_setOf (rfl) (by decide) (rfl) rfl (Nat.le_of_ble_eq_true rfl) dX8_filled_13 (fun hx_13 => ?_)
    refine wp_istore_n (lv2 := [(0, _), (1, _), (2, _)]) hC dX8_filled_16 rfl (by decide) ?_
    refine wp_iload_n hC dX8_filled_17 rfl ?_
    refine wp_callSe (As := [_]) hC (c_J6_bitCount_0f7a4 hG σ (b := TX σ 0) hTr0) gX8_filled_J6_bitCount_0f7a4 rfl ⟨rfl, rfl⟩ ⟨by decide, by decide⟩ hySJ6_bitCount_0f7a4 rfl (Nat.le_of_ble_eq_true rfl) dX8_filled_18 (fun hx_18 => ?_)
    refine wp_bipush hC dX8_filled_21 rfl ?_
    refine wp_icmp_le (tgt := 29) hC dX8_filled_23 (by decide) (by omega) (by omega) (fun c_23 => ?_) (fun c_23 => ?_)
    · refine wp_aload_n hC dX8_filled_29 rfl ?_
      refine wp_iconst hC dX8_filled_30 ?_
      refine wp_callVe (As := [_]) hC (c_X8_setOf hG σ (w := 1) (by omega) (fun o a b => (h.2.2 o a b).1) h.1) gX8_filled_X8_setOf rfl ⟨rfl, rfl⟩ ⟨by decide, by decide⟩ hyVX8_setOf (rfl) (by decide) (rfl) rfl (Nat.le_of_ble_eq_true rfl) dX8_filled_31 (fun hx_31 => ?_)
      refine wp_istore_n (lv2 := [(0, _), (1, _), (2, _), (3, _)]) hC dX8_filled_34 rfl (by decide) ?_
      refine wp_iconst hC dX8_filled_35 ?_
      refine wp_istore (lv2 := [(0, _), (1, _), (2, _), (3, _), (4, _)]) hC dX8_filled_36 rfl (by decide) ?_
      refine wp_st RM_0 ?_
      exact L38 _ 0 rfl (by omega) (by omega) (by omega)
    · refine wp_bipush hC dX8_filled_26 rfl ?_
      exact hret _ _ _ _ (by omega) rfl (Or.inr (Or.inl ⟨c_6, by omega, rfl, rfl⟩)) dX8_filled_28
  · refine wp_iconst hC dX8_filled_9 ?_
    exact hret _ _ _ _ (by omega) rfl (Or.inl ⟨c_6, rfl, rfl⟩) dX8_filled_10
