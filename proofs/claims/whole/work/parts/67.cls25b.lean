theorem hyVX1_pick : yX1_pick.cls = RX1 ∧ yX1_pick.cls ≠ "java/lang/invoke/MethodHandle" ∧ yX1_pick.cls ≠ "java/lang/invoke/VarHandle" ∧ (parseMethodDescriptor yX1_pick.desc).map (fun d => d.parameters.length) = some 3 := by decide +kernel
theorem uX1_pick_X1 : ∀ w ∈ u_ws RX1 TX1 7, w ∈ wsX1_pick := by decide +kernel
theorem fX1_pick_27 : Cond.fieldLink RX1 27 (TX1 5).1 (TX1 5).2.1 (TX1 5).2.2.1 ∈ wsX1_pick := by decide +kernel
theorem fX1_pick_15 : Cond.fieldLink RX1 15 (TX1 1).1 (TX1 1).2.1 (TX1 1).2.2.1 ∈ wsX1_pick := by decide +kernel
theorem uX1_pick_X0 : ∀ w ∈ u_ws RX0 TX0 6, w ∈ wsX1_pick := by decide +kernel
theorem fnX1_56 : Cond.fieldLinkNest RX1 56 (TX0 0).1 (TX0 0).2.1 (TX0 0).2.2.1 "PromiseMind" ∈ tables_1 := List.mem_of_getElem? (i := 39) (by decide +kernel)
theorem fX1_pick_9 : Cond.fieldLink RX1 9 (TX1 0).1 (TX1 0).2.1 (TX1 0).2.2.1 ∈ wsX1_pick := by decide +kernel
theorem fX1_pick_21 : Cond.fieldLink RX1 21 (TX1 3).1 (TX1 3).2.1 (TX1 3).2.2.1 ∈ wsX1_pick := by decide +kernel
theorem fnX1_44 : Cond.fieldLinkNest RX1 44 (TX0 1).1 (TX0 1).2.1 (TX0 1).2.2.1 "PromiseMind" ∈ tables_1 := List.mem_of_getElem? (i := 44) (by decide +kernel)
theorem uX1_pick_X5 : ∀ w ∈ u_ws RX5 TX5 5, w ∈ wsX1_pick := by decide +kernel
theorem fnX1_47 : Cond.fieldLinkNest RX1 47 (TX5 3).1 (TX5 3).2.1 (TX5 3).2.2.1 "PromiseMind" ∈ tables_1 := List.mem_of_getElem? (i := 93) (by decide +kernel)
theorem mnX1_52 : Cond.methodLinkNest RX1 52 yX8_startOf "PromiseMind" ∈ tables_1 := List.mem_of_getElem? (i := 539) (by decide +kernel)
theorem fnX1_37 : Cond.fieldLinkNest RX1 37 (TX0 5).1 (TX0 5).2.1 (TX0 5).2.2.1 "PromiseMind" ∈ tables_1 := List.mem_of_getElem? (i := 57) (by decide +kernel)
theorem mnX1_40 : Cond.methodLinkNest RX1 40 yX8_bit "PromiseMind" ∈ tables_1 := List.mem_of_getElem? (i := 538) (by decide +kernel)
set_option maxHeartbeats 8000000 in
set_option maxRecDepth 100000 in
theorem c_X1_pick {l : Launch} {G : Gy} (hG : Inj G) (σ : St) (h : XO σ) (hc8 : cnt (σ 83 5) (kdX σ 0) ≤ 8) : MV l yX1_pick wsX1_pick ({ frames := 1, cells := 0, slots := 0, locals := 23 } : Room) G [.ref (G.2.2 94), .ref (G.2.2 83), .ref (G.2.2 108), .int (zI (TX σ 0))] σ (PKD σ) := by
  refine MV.of hG (by decide +kernel) rfl rfl (Nat.le_of_ble_eq_true rfl) rfl ?_
  intro p e s m args below meth c H0 Q hC hret
  have hn := h.1
  have hTr : 0 ≤ TX σ 0 ∧ TX σ 0 ≤ 2147483647 := bsI (P := fun o => decide (σ 111 o = 0)) hn
  have hTb : ∀ q, 0 ≤ q → q < σ 83 5 → tb (TX σ 0) q = kdX σ 0 q := fun q a b => by show tb (bsum (kdX σ 0) (σ 83 5)) q = _; rw [tb_bs hn.1 a, decide_eq_true b, Bool.true_and]
  have hcr8 := cnt_rng (K := kdX σ 0) hn.1
  have L152 : ∀ (n : Nat) (w : Int) (ρ : St), ((256 - w).toNat) = n → (PKI σ ρ (σ 83 5)) → (0 ≤ w ∧ w ≤ 256) → wp p l e ({ frames := 1, cells := 0, slots := 0, locals := 23 } : Room) s m args below meth c (aA G (Array.size H0)) H0 8 Q G (SUk σ ρ (cnt (σ 83 5) (kdX σ 0)) w) 152 [(0, .ref (G.2.2 94)), (1, .ref (G.2.2 83)), (2, .ref (G.2.2 108)), (3, .int (zI (TX σ 0))), (4, .int (zI (w)))] [] := by
    intro n152
    induction n152 using Nat.strongRecOn with
    | ind n152 ih =>
      intro w ρ hm152 hp h6
      have f83 := F9_h hp.1 (a := 83) (by decide)
      have f84 := F9_h hp.1 (a := 84) (by decide)
      have hp2 := hp.2.1
      have L171 : ∀ (n : Nat) (j : Int), (((cnt (σ 83 5) (kdX σ 0)) - j).toNat) = n → (w < 256) → (0 ≤ j ∧ j ≤ (cnt (σ 83 5) (kdX σ 0))) → wp p l e ({ frames := 1, cells := 0, slots := 0, locals := 23 } : Room) s m args below meth c (aA G (Array.size H0)) H0 8 Q G (put (SUk σ ρ (cnt (σ 83 5) (kdX σ 0)) w) 96 w (SWj σ ρ w j)) 171 [(0, .ref (G.2.2 94)), (1, .ref (G.2.2 83)), (2, .ref (G.2.2 108)), (3, .int (zI (TX σ 0))), (4, .int (zI (w))), (5, .int (zI (j)))] [] := by
        intro n171
        induction n171 using Nat.strongRecOn with
        | ind n171 ih171 =>
          intro j hm171 h7 h8
          have hpj := fun z : j < (cnt (σ 83 5) (kdX σ 0)) => hp.2.2.1 j h8.1 z
          refine wp_iload hC dX1_pick_171 rfl ?_
          refine wp_aload_n hC dX1_pick_173 rfl ?_
          refine wp_geti (k := 5) (z := 5) hC rfl (rfl) (by decide) (rfl) (rfl) (by decide) uX1_pick_X1 fX1_pick_27 (rfl) dX1_pick_174 ?_
          refine wp_top (b := (cnt (σ 83 5) (kdX σ 0))) (by rw [put_i (by decide), SU_o (by decide), hp2]) ?_
          refine wp_icmp_ge (tgt := 218) hC dX1_pick_177 (by decide) (by omega) (by omega) (fun c_177 => ?_) (fun c_177 => ?_)
          · refine wp_iinc (lv2 := [(0, _), (1, _), (2, _), (3, _), (4, _), (5, _)]) hC dX1_pick_218 rfl rfl (by decide) ?_
            refine wp_goto (tgt := 152) hC dX1_pick_221 (by decide) ?_
            refine wp_lv hC [0, 1, 2, 3, 4] rfl ?_
            refine wp_st (σ2 := SUk σ ρ (cnt (σ 83 5) (kdX σ 0)) (w + 1)) (by rw [show j = cnt (σ 83 5) (kdX σ 0) by omega]; exact SU_s h6.1) ?_
            exact ih _ (by omega) _ _ rfl hp (by omega)
          · refine wp_iload hC dX1_pick_180 rfl ?_
            refine wp_iload hC dX1_pick_182 rfl ?_
            refine wp_ishr hC dX1_pick_184 ?_
            refine wp_iconst hC dX1_pick_185 ?_
            refine wp_iand hC dX1_pick_186 ?_
            refine wp_top (b := bI (tb w j = true)) (bit_at (by omega) (by omega) (by omega) (by omega)) ?_
            refine wp_ifb_eq (tgt := 212) hC dX1_pick_187 (by decide) (fun c_187 => ?_) (fun c_187 => ?_)
            · refine wp_iinc (lv2 := [(0, _), (1, _), (2, _), (3, _), (4, _), (5, _)]) hC dX1_pick_212 rfl rfl (by decide) ?_
              refine wp_goto (tgt := 171) hC dX1_pick_215 (by decide) ?_
              refine wp_st (σ2 := put (SUk σ ρ (cnt (σ 83 5) (kdX σ 0)) w) 96 w (SWj σ ρ w (j + 1))) (by unfold SWj; rw [sm_s h8.1, if_neg c_187, Int.add_zero]) ?_
              exact ih171 _ (by omega) _ rfl h7 (by omega)
            · have hpj2 := (hpj (by omega)).1
              refine wp_aload_n hC dX1_pick_190 rfl ?_
              refine wp_geta (k := 1) hC (rfl) (by decide) (rfl) (rfl) (by decide) uX1_pick_X1 fX1_pick_15 (rfl) dX1_pick_191 ?_
              refine wp_iload hC dX1_pick_194 rfl ?_
              refine wp_dup2 hC dX1_pick_196 rfl rfl ?_
              refine wp_iald (n := 256) hC (rfl) (Nat.le_of_ble_eq_true rfl) (rfl) (by decide) (by omega) dX1_pick_197 ?_
              refine wp_top (b := SWj σ ρ w j) put_s ?_
              refine wp_aload_n hC dX1_pick_198 rfl ?_
              refine wp_getaN (k := 0) hC (rfl) (by decide) (rfl) (rfl) (by decide) uX1_pick_X0 fnX1_56 (rfl) dX1_pick_199 ?_
              refine wp_aload_n hC dX1_pick_202 rfl ?_
              refine wp_geta (k := 0) hC (rfl) (by decide) (rfl) (rfl) (by decide) uX1_pick_X1 fX1_pick_9 (rfl) dX1_pick_203 ?_
              refine wp_iload hC dX1_pick_206 rfl ?_
              refine wp_iald (n := 8) hC (rfl) (Nat.le_of_ble_eq_true rfl) (rfl) (by decide) (by omega) dX1_pick_208 ?_
              refine wp_top (b := ρ 95 j) (by rw [put_i (by decide), SU_o (by decide)]) ?_
              refine wp_iald (n := 24) hC (rfl) (Nat.le_of_ble_eq_true rfl) (rfl) (by decide) (by omega) dX1_pick_209 ?_
              refine wp_top (b := σ 84 (ρ 95 j)) (by rw [put_i (by decide), SU_o (by decide), f84]) ?_
              refine wp_iadd hC dX1_pick_210 ?_
              refine wp_iast (n := 256) hC (rfl) (Nat.le_of_ble_eq_true rfl) (rfl) (by decide) (by omega) dX1_pick_211 ?_
              refine wp_iinc (lv2 := [(0, _), (1, _), (2, _), (3, _), (4, _), (5, _)]) hC dX1_pick_212 rfl rfl (by decide) ?_
              refine wp_goto (tgt := 171) hC dX1_pick_215 (by decide) ?_
              refine wp_st (σ2 := put (SUk σ ρ (cnt (σ 83 5) (kdX σ 0)) w) 96 w (SWj σ ρ w (j + 1))) (by rw [put_put]; unfold SWj; rw [sm_s h8.1, if_pos c_187]) ?_
              exact ih171 _ (by omega) _ rfl h7 (by omega)
      refine wp_iload hC dX1_pick_152 rfl ?_
      refine wp_sipush hC dX1_pick_154 rfl ?_
      refine wp_icmp_ge (tgt := 224) hC dX1_pick_157 (by decide) (by omega) (by omega) (fun c_157 => ?_) (fun c_157 => ?_)
      · exact hret _ _ _ (by rw [show w = 256 by omega]; exact PKD_of hp rfl) dX1_pick_224
      · refine wp_aload_n hC dX1_pick_160 rfl ?_
        refine wp_geta (k := 1) hC (rfl) (by decide) (rfl) (rfl) (by decide) uX1_pick_X1 fX1_pick_15 (rfl) dX1_pick_161 ?_
        refine wp_iload hC dX1_pick_164 rfl ?_
        refine wp_iconst hC dX1_pick_166 ?_
        refine wp_iast (n := 256) hC (rfl) (Nat.le_of_ble_eq_true rfl) (rfl) (by decide) (by omega) dX1_pick_167 ?_
        refine wp_iconst hC dX1_pick_168 ?_
        refine wp_istore (lv2 := [(0, _), (1, _), (2, _), (3, _), (4, _), (5, _)]) hC dX1_pick_169 rfl (by decide) ?_
        exact L171 _ 0 rfl (by omega) (by omega)
  have L16 : ∀ (n : Nat) (k : Int) (ρ : St), ((σ 83 5 - k).toNat) = n → (0 ≤ k ∧ k ≤ σ 83 5) → (PKI σ ρ k) → wp p l e ({ frames := 1, cells := 0, slots := 0, locals := 23 } : Room) s m args below meth c (aA G (Array.size H0)) H0 8 Q G ρ 16 [(0, .ref (G.2.2 94)), (1, .ref (G.2.2 83)), (2, .ref (G.2.2 108)), (3, .int (zI (TX σ 0))), (4, .int (zI (k)))] [] := by
    intro n16
    induction n16 using Nat.strongRecOn with
    | ind n16 ih =>
      intro k ρ hm16 h1 hi
      have f83 := F9_h hi.1 (a := 83) (by decide)
      have f85 := F9_h hi.1 (a := 85) (by decide)
      have f112 := F9_h hi.1 (a := 112) (by decide)
      have hs2 := hi.2.1
      have hcr := cnt_rng (K := kdX σ 0) h1.1
      have hcm := cnt_mono (K := kdX σ 0) h1.1 h1.2
      have hok := fun z : k < σ 83 5 => h.2.2 k h1.1 z
      have hfi := fun z : k < σ 83 5 => FI_rng h (o := k) ⟨h1.1, z⟩
      have L50 : ∀ (n : Nat) (i : Int), ((3 - i).toNat) = n → (k < σ 83 5) → (kdX σ 0 k = true) → (cnt k (kdX σ 0) ≤ 7) → (0 ≤ i ∧ i ≤ 3) → wp p l e ({ frames := 1, cells := 0, slots := 0, locals := 23 } : Room) s m args below meth c (aA G (Array.size H0)) H0 8 Q G (CTk ρ (FI (σ 85 k) (σ 112 k)) (cnt k (kdX σ 0)) (i) (0)) 50 [(0, .ref (G.2.2 94)), (1, .ref (G.2.2 83)), (2, .ref (G.2.2 108)), (3, .int (zI (TX σ 0))), (4, .int (zI (k))), (5, .int (zI (i)))] [] := by
        intro n50
        induction n50 using Nat.strongRecOn with
        | ind n50 ih50 =>
          intro i hm50 h2 hA hs8 h3
          have hfik := hfi h2 i
          have hokk := hok h2
          have L81 : ∀ (n : Nat) (q : Int), ((13 - q).toNat) = n → (i < 3) → (FI (σ 85 k) (σ 112 k) i ≤ q ∧ q ≤ 13) → wp p l e ({ frames := 1, cells := 0, slots := 0, locals := 23 } : Room) s m args below meth c (aA G (Array.size H0)) H0 8 Q G (CTk ρ (FI (σ 85 k) (σ 112 k)) (cnt k (kdX σ 0)) (i) (q)) 81 [(0, .ref (G.2.2 94)), (1, .ref (G.2.2 83)), (2, .ref (G.2.2 108)), (3, .int (zI (TX σ 0))), (4, .int (zI (k))), (5, .int (zI (i))), (6, .int (zI (FI (σ 85 k) (σ 112 k) i))), (7, .int (zI (q)))] [] := by
            intro n81
            induction n81 using Nat.strongRecOn with
            | ind n81 ih81 =>
              intro q hm81 h4 h5
              have hr8 := fun z : q < 13 => (hi.2.2.2 i q h3.1 h4 (by omega) z).1
              have hpw8 : pw (cnt k (kdX σ 0)) ≤ pw 24 := pw_le (by omega)
              have h24 : pw 24 = 16777216 := by decide
              refine wp_iload hC dX1_pick_81 rfl ?_
              refine wp_bipush hC dX1_pick_83 rfl ?_
              refine wp_icmp_ge (tgt := 116) hC dX1_pick_85 (by decide) (by omega) (by omega) (fun c_85 => ?_) (fun c_85 => ?_)
              · refine wp_iinc (lv2 := [(0, _), (1, _), (2, _), (3, _), (4, _), (5, _), (6, _), (7, _)]) hC dX1_pick_116 rfl rfl (by decide) ?_
                refine wp_goto (tgt := 50) hC dX1_pick_119 (by decide) ?_
                refine wp_lv hC [0, 1, 2, 3, 4, 5] rfl ?_
                refine wp_st (σ2 := CTk ρ (FI (σ 85 k) (σ 112 k)) (cnt k (kdX σ 0)) (i + 1) 0) (by rw [show q = 13 by omega]; exact CT_end) ?_
                exact ih50 _ (by omega) _ rfl h2 hA hs8 (by omega)
              · refine wp_aload_n hC dX1_pick_88 rfl ?_
                refine wp_geta (k := 3) hC (rfl) (by decide) (rfl) (rfl) (by decide) uX1_pick_X1 fX1_pick_21 (rfl) dX1_pick_89 ?_
                refine wp_iload hC dX1_pick_92 rfl ?_
                refine wp_bipush hC dX1_pick_94 rfl ?_
                refine wp_imul hC dX1_pick_96 ?_
                refine wp_iload hC dX1_pick_97 rfl ?_
                refine wp_iadd hC dX1_pick_99 ?_
                refine wp_top (b := 13 * i + q) (by omega) ?_
                refine wp_dup2 hC dX1_pick_100 rfl rfl ?_
                refine wp_iald (n := 39) hC (rfl) (Nat.le_of_ble_eq_true rfl) (rfl) (by decide) (by omega) dX1_pick_101 ?_
                refine wp_iconst hC dX1_pick_102 ?_
                refine wp_aload_n hC dX1_pick_103 rfl ?_
                refine wp_geti (k := 5) (z := 5) hC rfl (rfl) (by decide) (rfl) (rfl) (by decide) uX1_pick_X1 fX1_pick_27 (rfl) dX1_pick_104 ?_
                refine wp_top (b := cnt k (kdX σ 0)) ((CT_o (by decide)).trans hs2) ?_
                refine wp_ishl hC dX1_pick_107 ?_
                refine wp_top (b := pw (cnt k (kdX σ 0))) (ishl_1 (by omega) (by omega)) ?_
                refine wp_ior hC dX1_pick_108 ?_
                refine wp_iast (n := 39) hC (rfl) (Nat.le_of_ble_eq_true rfl) (rfl) (by decide) (by omega) dX1_pick_109 ?_
                refine wp_iinc (lv2 := [(0, _), (1, _), (2, _), (3, _), (4, _), (5, _), (6, _), (7, _)]) hC dX1_pick_110 rfl rfl (by decide) ?_
                refine wp_goto (tgt := 81) hC dX1_pick_113 (by decide) ?_
                refine wp_st (CT_s ⟨h3.1, h4⟩ ⟨by omega, by omega⟩ h5.1 (hr8 (by omega)) (by omega)) ?_
                exact ih81 _ (by omega) _ rfl h4 (by omega)
          refine wp_iload hC dX1_pick_50 rfl ?_
          refine wp_iconst hC dX1_pick_52 ?_
          refine wp_icmp_ge (tgt := 122) hC dX1_pick_53 (by decide) (by omega) (by omega) (fun c_53 => ?_) (fun c_53 => ?_)
          · refine wp_aload_n hC dX1_pick_122 rfl ?_
            refine wp_geta (k := 0) hC (rfl) (by decide) (rfl) (rfl) (by decide) uX1_pick_X1 fX1_pick_9 (rfl) dX1_pick_123 ?_
            refine wp_aload_n hC dX1_pick_126 rfl ?_
            refine wp_geti (k := 5) (z := 5) hC rfl (rfl) (by decide) (rfl) (rfl) (by decide) uX1_pick_X1 fX1_pick_27 (rfl) dX1_pick_127 ?_
            refine wp_top (b := cnt k (kdX σ 0)) ((CT_o (by decide)).trans hs2) ?_
            refine wp_iload hC dX1_pick_130 rfl ?_
            refine wp_iast (n := 8) hC (rfl) (Nat.le_of_ble_eq_true rfl) (rfl) (by decide) (by omega) dX1_pick_132 ?_
            refine wp_aload_n hC dX1_pick_133 rfl ?_
            refine wp_dup hC dX1_pick_134 rfl ?_
            refine wp_geti (k := 5) (z := 5) hC rfl (rfl) (by decide) (rfl) (rfl) (by decide) uX1_pick_X1 fX1_pick_27 (rfl) dX1_pick_135 ?_
            refine wp_top (b := cnt k (kdX σ 0)) (by rw [put_i (by decide), CT_o (by decide), hs2]) ?_
            refine wp_iconst hC dX1_pick_138 ?_
            refine wp_iadd hC dX1_pick_139 ?_
            refine wp_puti2 (k := 5) (z := 5) hC rfl (rfl) (by decide) (rfl) (rfl) (by decide) uX1_pick_X1 fX1_pick_27 tyX1 tyX1_ok nmX1 rfl rfl (rfl) dX1_pick_140 ?_
            refine wp_iinc (lv2 := [(0, _), (1, _), (2, _), (3, _), (4, _), (5, _)]) hC dX1_pick_143 rfl rfl (by decide) ?_
            refine wp_goto (tgt := 16) hC dX1_pick_146 (by decide) ?_
            refine wp_lv hC [0, 1, 2, 3, 4] rfl ?_
            refine wp_st (σ2 := put (put (CTk ρ (FI (σ 85 k) (σ 112 k)) (cnt k (kdX σ 0)) 3 0) 95 (cnt k (kdX σ 0)) k) 94 5 (cnt k (kdX σ 0) + 1)) (by rw [show i = 3 by omega]) ?_
            exact ih _ (by omega) _ _ rfl (by omega) (PKI_s hi h1.1 hA (by omega))
          · refine wp_aload_n hC dX1_pick_56 rfl ?_
            refine wp_getaN (k := 1) hC (rfl) (by decide) (rfl) (rfl) (by decide) uX1_pick_X0 fnX1_44 (rfl) dX1_pick_57 ?_
            refine wp_iload hC dX1_pick_60 rfl ?_
            refine wp_iald (n := 24) hC (rfl) (Nat.le_of_ble_eq_true rfl) (rfl) (by decide) (by omega) dX1_pick_62 ?_
            refine wp_top (b := σ 85 k) (by rw [CT_o (by decide), f85]) ?_
            refine wp_iload hC dX1_pick_63 rfl ?_
            refine wp_aload_n hC dX1_pick_65 rfl ?_
            refine wp_getaN (k := 3) hC (rfl) (by decide) (rfl) (rfl) (by decide) uX1_pick_X5 fnX1_47 (rfl) dX1_pick_66 ?_
            refine wp_iload hC dX1_pick_69 rfl ?_
            refine wp_iald (n := 24) hC (rfl) (Nat.le_of_ble_eq_true rfl) (rfl) (by decide) (by omega) dX1_pick_71 ?_
            refine wp_top (b := σ 112 k) (by rw [CT_o (by decide), f112]) ?_
            refine wp_callNe (As := [_, _, _]) hC (c_X8_startOf hG (CTk ρ (FI (σ 85 k) (σ 112 k)) (cnt k (kdX σ 0)) (i) (0)) (it := σ 85 k) (i := i) (la := σ 112 k) (by omega) (by omega) (by omega)) gX1_pick_X8_startOf_n52 rfl ⟨rfl, rfl⟩ ⟨by decide, by decide⟩ hySX8_startOf mnX1_52 (by decide +kernel) (by decide +kernel) rfl (Nat.le_of_ble_eq_true rfl) dX1_pick_72 (fun hx_72 => ?_)
            refine wp_top (b := FI (σ 85 k) (σ 112 k) i) rfl ?_
            refine wp_istore (lv2 := [(0, _), (1, _), (2, _), (3, _), (4, _), (5, _), (6, _)]) hC dX1_pick_75 rfl (by decide) ?_
            refine wp_iload hC dX1_pick_77 rfl ?_
            refine wp_istore (lv2 := [(0, _), (1, _), (2, _), (3, _), (4, _), (5, _), (6, _), (7, _)]) hC dX1_pick_79 rfl (by decide) ?_
            refine wp_st CT_beg ?_
            exact L81 _ _ rfl (by omega) (by omega)
      refine wp_iload hC dX1_pick_16 rfl ?_
      refine wp_aload_n hC dX1_pick_18 rfl ?_
      refine wp_getiN (k := 5) (z := 5) hC rfl (rfl) (by decide) (rfl) (rfl) (by decide) uX1_pick_X0 fnX1_37 (rfl) dX1_pick_19 ?_
      refine wp_top (b := σ 83 5) (by rw [f83]) ?_
      refine wp_icmp_ge (tgt := 149) hC dX1_pick_22 (by decide) (by omega) (by omega) (fun c_22 => ?_) (fun c_22 => ?_)
      · have hp9 : PKI σ ρ (σ 83 5) := PKI_c hi h1.2 (by rw [show k = σ 83 5 by omega])
        refine wp_iconst hC dX1_pick_149 ?_
        refine wp_istore (lv2 := [(0, _), (1, _), (2, _), (3, _), (4, _)]) hC dX1_pick_150 rfl (by decide) ?_
        refine wp_st (SU_0 (σ := σ) (s := cnt (σ 83 5) (kdX σ 0))) ?_
        exact L152 _ 0 _ rfl hp9 (by omega)
      · refine wp_aload_n hC dX1_pick_25 rfl ?_
        refine wp_geti (k := 5) (z := 5) hC rfl (rfl) (by decide) (rfl) (rfl) (by decide) uX1_pick_X1 fX1_pick_27 (rfl) dX1_pick_26 ?_
        refine wp_top (b := cnt k (kdX σ 0)) hs2 ?_
        refine wp_bipush hC dX1_pick_29 rfl ?_
        refine wp_icmp_ge (tgt := 149) hC dX1_pick_31 (by decide) (by omega) (by omega) (fun c_31 => ?_) (fun c_31 => ?_)
        · have hp9 : PKI σ ρ (σ 83 5) := PKI_c hi h1.2 (by omega)
          refine wp_iconst hC dX1_pick_149 ?_
          refine wp_istore (lv2 := [(0, _), (1, _), (2, _), (3, _), (4, _)]) hC dX1_pick_150 rfl (by decide) ?_
          refine wp_st (SU_0 (σ := σ) (s := cnt (σ 83 5) (kdX σ 0))) ?_
          exact L152 _ 0 _ rfl hp9 (by omega)
        · refine wp_iload_n hC dX1_pick_34 rfl ?_
          refine wp_iload hC dX1_pick_35 rfl ?_
          refine wp_callNe (As := [_]) hC (c_X8_bit hG _ (by omega)) gX1_pick_X8_bit_n40 rfl ⟨rfl, rfl⟩ ⟨by decide, by decide⟩ hySX8_bit mnX1_40 (by decide +kernel) (by decide +kernel) rfl (Nat.le_of_ble_eq_true rfl) dX1_pick_37 (fun hx_37 => ?_)
          refine wp_iand hC dX1_pick_40 ?_
          refine wp_top (b := iand (TX σ 0) (pw k)) (rfl) ?_
          refine wp_if_ne (tgt := 47) hC dX1_pick_41 (by decide) (by have := iand_nn (b := pw k) hTr; omega) (fun c_41 => ?_) (fun c_41 => ?_)
          · have hA : kdX σ 0 k = true := (hTb k h1.1 (by omega)).symm.trans (iand_bit1 hTr h1.1 (by omega) c_41)
            refine wp_iconst hC dX1_pick_47 ?_
            refine wp_istore (lv2 := [(0, _), (1, _), (2, _), (3, _), (4, _), (5, _)]) hC dX1_pick_48 rfl (by decide) ?_
            refine wp_st (CT_0 (f := FI (σ 85 k) (σ 112 k)) (s := cnt k (kdX σ 0))) ?_
            exact L50 _ 0 rfl (by omega) hA (by omega) (by omega)
          · have hA : kdX σ 0 k = false := by
              cases e : kdX σ 0 k
              · rfl
              · exact absurd ((hTb k h1.1 (by omega)).trans e) ((iand_bit hTr h1.1 (by omega)).mp c_41)
            refine wp_goto (tgt := 143) hC dX1_pick_44 (by decide) ?_
            refine wp_iinc (lv2 := [(0, _), (1, _), (2, _), (3, _), (4, _)]) hC dX1_pick_143 rfl rfl (by decide) ?_
            refine wp_goto (tgt := 16) hC dX1_pick_146 (by decide) ?_
            exact ih _ (by omega) _ _ rfl (by omega) (PKI_c hi (by omega) (by rw [cnt_s h1.1, hA, bI_f, Int.add_zero]))
  refine wp_aload_n hC dX1_pick_0 rfl ?_
  refine wp_iconst hC dX1_pick_1 ?_
  refine wp_puti2 (k := 5) (z := 5) hC rfl (rfl) (by decide) (rfl) (rfl) (by decide) uX1_pick_X1 fX1_pick_27 tyX1 tyX1_ok nmX1 rfl rfl (rfl) dX1_pick_2 ?_
  refine wp_aload_n hC dX1_pick_5 rfl ?_
  refine wp_geta (k := 3) hC (rfl) (by decide) (rfl) (rfl) (by decide) uX1_pick_X1 fX1_pick_21 (rfl) dX1_pick_6 ?_
  refine wp_iconst hC dX1_pick_9 ?_
  refine wp_callSu (As := [_, _]) hC (c_J7_fill_53178 hG (put σ 94 5 0) 98 (v := 0) (by decide) rfl (by decide)) gX1_pick_J7_fill_53178 rfl ⟨rfl, rfl⟩ ⟨by decide, by decide⟩ hySJ7_fill_53178 rfl (Nat.le_of_ble_eq_true rfl) dX1_pick_10 ?_
  refine wp_iconst hC dX1_pick_13 ?_
  refine wp_istore (lv2 := [(0, _), (1, _), (2, _), (3, _), (4, _)]) hC dX1_pick_14 rfl (by decide) ?_
  exact L16 _ 0 _ rfl (by omega) ⟨fun a b x y => by
    unfold FIL
    rw [if_neg (by omega), put_q (by omega)], rfl, fun j a b => by rw [show cnt 0 (kdX σ 0) = 0 from rfl] at b; omega, fun i q a b c d => ⟨by
    rw [show FIL (put σ 94 5 0) 98 ((ln 98 : Nat) : Int) 0 98 (13 * i + q) = 0 from if_pos ⟨rfl, by omega, by show 13 * i + q < 39; omega⟩]
    exact ⟨Int.le_refl _, pw_pos _⟩, fun j x y => by rw [show cnt 0 (kdX σ 0) = 0 from rfl] at y; omega⟩⟩
