theorem hyVX9_ledger : yX9_ledger.cls = RX9 ∧ yX9_ledger.cls ≠ "java/lang/invoke/MethodHandle" ∧ yX9_ledger.cls ≠ "java/lang/invoke/VarHandle" ∧ (parseMethodDescriptor yX9_ledger.desc).map (fun d => d.parameters.length) = some 2 := by decide +kernel
theorem uX9_ledger_X9 : ∀ w ∈ u_ws RX9 TX9 35, w ∈ wsX9_ledger := by decide +kernel
theorem uX9_ledger_J4 : ∀ w ∈ u_ws RJ4 TJ4 4, w ∈ wsX9_ledger := by decide +kernel
theorem fX9_ledger_13 : Cond.fieldLink RX9 13 (TX9 1).1 (TX9 1).2.1 (TX9 1).2.2.1 ∈ wsX9_ledger := by decide +kernel
theorem fX9_ledger_16 : Cond.fieldLink RX9 16 (TX9 2).1 (TX9 2).2.1 (TX9 2).2.2.1 ∈ wsX9_ledger := by decide +kernel
theorem fX9_ledger_9 : Cond.fieldLink RX9 9 (TX9 0).1 (TX9 0).2.1 (TX9 0).2.2.1 ∈ wsX9_ledger := by decide +kernel
theorem fX9_ledger_19 : Cond.fieldLink RX9 19 (TX9 3).1 (TX9 3).2.1 (TX9 3).2.2.1 ∈ wsX9_ledger := by decide +kernel
theorem fX9_ledger_22 : Cond.fieldLink RX9 22 (TX9 4).1 (TX9 4).2.1 (TX9 4).2.2.1 ∈ wsX9_ledger := by decide +kernel
theorem bI_iR {b : Prop} [Decidable b] : iR (bI b) := by
  unfold bI
  split
  · exact ⟨by decide, by decide⟩
  · exact ⟨by decide, by decide⟩
theorem bI_no {b : Prop} [Decidable b] (h : bI b = 0) : ¬ b := fun q => by
  unfold bI at h
  rw [if_pos q] at h
  exact absurd h (by decide)
theorem bI_yes {b : Prop} [Decidable b] (h : ¬ bI b = 0) : b := by
  by_cases q : b
  · exact q
  · exact absurd (by unfold bI; rw [if_neg q]) h
set_option maxHeartbeats 16000000 in
set_option maxRecDepth 100000 in
theorem c_X9_ledger {l : Launch} {G : Gy} {Z : Ky} {cB : ClassId} (hG : Inj G) (σ : St) {o at1 : Int} (h : RO σ) (ho : iR o) (ha : iR at1) : MIg l yX9_ledger wsX9_ledger ({ frames := 7, cells := 16, slots := 3004, locals := 210 } : Room) G Z cB [.ref (G.2.2 0), .int (zI o), .int (zI at1)] σ (LGP σ o at1) := by
  refine MIg.of hG (by decide +kernel) rfl rfl (Nat.le_of_ble_eq_true rfl) rfl ?_
  intro p e s m args below meth c Q hC hX hret
  have hn0 := h.1
  obtain ⟨w1, w2, w3, w4⟩ := h.2.1
  have n1 : (nmL o).length ≤ 2 := nmL_len
  have n2 : (nmL (σ 2 o)).length ≤ 2 := nmL_len
  have n3 : (nmL (σ 1 (64 + o))).length ≤ 2 := nmL_len
  have n4 : (nmL (σ 4 o)).length ≤ 2 := nmL_len
  have n5 : (nmL (σ 5 o)).length ≤ 2 := nmL_len
  have i0 : (itP (σ 3 o) 0).length ≤ 0 := itP_len 0
  have i1 : (itP (σ 3 o) 1).length ≤ 1 := itP_len 1
  have i2 : (itP (σ 3 o) 2).length ≤ 2 := itP_len 2
  have i3 : (itP (σ 3 o) 3).length ≤ 3 := itP_len 3
  refine wpx_aload_n hC dX9_ledger_0 rfl ?_
  refine wpx_iload_n hC dX9_ledger_1 rfl ?_
  refine wpx_callVi (As := [_]) hC (c_X9_isOrder hG σ ho hn0) gX9_ledger_X9_isOrder rfl ⟨rfl, rfl⟩ ⟨by decide, by decide⟩ hyVX9_isOrder rfl (by decide) rfl rfl (Nat.le_of_ble_eq_true rfl) ⟨by decide, by decide⟩ dX9_ledger_2 (fun x_2 s_2 hx_2 hp_2 => ?_)
  obtain ⟨e_2, q_2⟩ := hp_2
  have q_3 := q_2.symm
  clear q_2
  subst q_3
  refine wpx_if_eq (tgt := 13) hC dX9_ledger_5 (by decide) (by rw [e_2]; exact bI_iR) (fun c_5 => ?_) (fun c_5 => ?_)
  · refine wpx_iconst hC dX9_ledger_13 ?_
    refine wpx_more (cells2 := 16) (slots2 := 3004) (by decide) (by decide) ?_
    exact hret _ _ _ _ _ ⟨by decide, by decide⟩ rfl (Or.inl ⟨fun q9 => absurd q9.1 (bI_no (e_2.symm.trans c_5)), rfl, rfl⟩) dX9_ledger_14
  have hb : 0 ≤ o ∧ o < σ 0 5 := bI_yes (fun q9 => c_5 (e_2.trans q9))
  refine wpx_iload_n hC dX9_ledger_8 rfl ?_
  refine wpx_iconst hC dX9_ledger_9 ?_
  refine wpx_icmp_ge (tgt := 15) hC dX9_ledger_10 (by decide) ha ⟨by decide, by decide⟩ (fun c_10 => ?_) (fun c_10 => ?_)
  rotate_left
  · refine wpx_iconst hC dX9_ledger_13 ?_
    refine wpx_more (cells2 := 16) (slots2 := 3004) (by decide) (by decide) ?_
    exact hret _ _ _ _ _ ⟨by decide, by decide⟩ rfl (Or.inl ⟨fun q9 => absurd q9.2 (by omega), rfl, rfl⟩) dX9_ledger_14
  refine wpx_newSB hC uX9_ledger_J4 (by decide +kernel) (by decide +kernel) (by decide +kernel) (by decide) (by decide) dX9_ledger_15 (fun q => ?_)
  refine wpx_dup hC dX9_ledger_18 rfl ?_
  refine wpx_callMIv (As := []) hC hX (x_J4_init (q := q) rfl rfl) gX9_ledger_J4_init_da8c8 (by decide +kernel) (by decide +kernel) (by decide +kernel) rfl ⟨by decide, by decide⟩ ⟨by decide, by decide⟩ hzIJ4_init_da8c8 rfl (Nat.le_of_ble_eq_true rfl) dX9_ledger_19 (fun X_19 h_19 => ?_)
  refine wpx_astore_n (lv2 := [(0, _), (1, _), (2, _), (3, _)]) hC dX9_ledger_22 rfl (by decide) ?_
  refine wpx_aload_n hC dX9_ledger_23 rfl ?_
  refine wpx_iload_n hC dX9_ledger_24 rfl ?_
  refine wpx_apI (v := o) ⟨by omega, by omega⟩ hC hX h_19 (by decide) gX9_ledger_J4_append_bf812 ⟨by decide, by decide⟩ ⟨by decide, by decide⟩ (Nat.le_of_ble_eq_true rfl) dX9_ledger_25 (fun X_25 cap_25 h_25 => ?_)
  refine wpx_bipush hC dX9_ledger_28 rfl ?_
  rw [List.nil_append] at h_25
  refine wpx_apC (v := 58) ⟨by decide, by decide⟩ hC hX h_25 (by omega) gX9_ledger_J4_append_cf468 ⟨by decide, by decide⟩ ⟨by decide, by decide⟩ (Nat.le_of_ble_eq_true rfl) dX9_ledger_30 (fun X_30 cap_30 h_30 => ?_)
  refine wpx_aload_n hC dX9_ledger_33 rfl ?_
  refine wpx_geta (k := 1) hC rfl (by decide) rfl rfl (by decide) uX9_ledger_X9 fX9_ledger_13 rfl dX9_ledger_34 ?_
  refine wpx_iload_n hC dX9_ledger_37 rfl ?_
  refine wpx_iald (n := 24) hC rfl (Nat.le_of_ble_eq_true rfl) rfl (by decide) (by omega) dX9_ledger_38 ?_
  refine wpx_apI (v := σ 2 o) ⟨(h.2.2.1 o (by omega) (by omega)).1, by have := (h.2.2.1 o (by omega) (by omega)).2; omega⟩ hC hX h_30 (by simp only [List.length_append, List.length_cons, List.length_nil]; omega) gX9_ledger_J4_append_bf812 ⟨by decide, by decide⟩ ⟨by decide, by decide⟩ (Nat.le_of_ble_eq_true rfl) dX9_ledger_39 (fun X_39 cap_39 h_39 => ?_)
  refine wpx_pop hC dX9_ledger_42 rfl ?_
  refine wpx_iconst hC dX9_ledger_43 ?_
  refine wpx_istore (lv2 := [(0, _), (1, _), (2, _), (3, _), (4, _)]) hC dX9_ledger_44 rfl (by decide) ?_
  have L188 : ∀ (w : Nat) (lt : Int) (τ : St) (X9 : va_W) (c9 s9 cap9 : Nat), w < 4 → w = wdI (σ 1 (40 + o)) lt → bP lt (LATE σ o) → c9 ≤ 16 → s9 ≤ 3004 → SBd cB X9 q (LED o (σ 2 o) (σ 3 o) (σ 1 (64 + o)) (σ 4 o) (σ 5 o) w) cap9 → wpx p l e ({ frames := 7, cells := 16, slots := 3004, locals := 210 } : Room) s m args below meth c (aA G s.heap.size) s.heap 5 Q G X9 c9 s9 (SC σ τ) 188 [(0, .ref (G.2.2 0)), (1, .int (zI o)), (2, .int (zI at1)), (3, .ref q), (4, .int (zI 3))] [] := by
    intro w lt τ X9 c9 s9 cap9 hw4 hw hlt hc9 hs9 h9
    obtain ⟨n6, n7, n8⟩ := bytS_wd w hw4
    have g9 : (LED o (σ 2 o) (σ 3 o) (σ 1 (64 + o)) (σ 4 o) (σ 5 o) w).length ≤ 40 := by
      unfold LED
      simp only [List.length_append, List.length_cons, List.length_nil]
      omega
    have hr16 : c9 + 0 ≤ 16 ∧ s9 + 0 ≤ 3004 := ⟨hc9, hs9⟩
    refine wpx_iload_n hC dX9_ledger_188 rfl ?_
    refine wpx_if_ge (tgt := 199) hC dX9_ledger_189 (by decide) ha (fun c_189 => ?_) (fun c_189 => ?_)
    rotate_left
    · skip
      refine wpx_aload_n hC dX9_ledger_192 rfl ?_
      refine wpx_sbN hC hX h9 gX9_ledger_J4_length_8abf5 ⟨by decide, by decide⟩ hr16 (Nat.le_of_ble_eq_true rfl) dX9_ledger_193 ?_
      refine wpx_goto (tgt := 217) hC dX9_ledger_196 (by decide) ?_
      refine wpx_more (cells2 := 16) (slots2 := 3004) hc9 hs9 ?_
      exact hret _ _ _ _ _ ⟨by omega, by omega⟩ rfl (Or.inr ⟨⟨hb, c_10⟩, lt, LED o (σ 2 o) (σ 3 o) (σ 1 (64 + o)) (σ 4 o) (σ 5 o) w, hlt, by rw [hw], ⟨τ, rfl⟩, by rw [if_pos (by omega)]⟩) dX9_ledger_217
    · skip
      refine wpx_iload_n hC dX9_ledger_199 rfl ?_
      refine wpx_aload_n hC dX9_ledger_200 rfl ?_
      refine wpx_sbN hC hX h9 gX9_ledger_J4_length_8abf5 ⟨by decide, by decide⟩ hr16 (Nat.le_of_ble_eq_true rfl) dX9_ledger_201 ?_
      refine wpx_icmp_ge (tgt := 215) hC dX9_ledger_204 (by decide) ha ⟨by omega, by omega⟩ (fun c_204 => ?_) (fun c_204 => ?_)
      rotate_left
      · skip
        refine wpx_aload_n hC dX9_ledger_207 rfl ?_
        refine wpx_iload_n hC dX9_ledger_208 rfl ?_
        refine wpx_sbA hC hX h9 (by omega) (by omega) gX9_ledger_J4_charAt_5068e ⟨by decide, by decide⟩ hr16 (Nat.le_of_ble_eq_true rfl) dX9_ledger_209 (fun g8 => ?_)
        refine wpx_goto (tgt := 217) hC dX9_ledger_212 (by decide) ?_
        refine wpx_more (cells2 := 16) (slots2 := 3004) hc9 hs9 ?_
        exact hret _ _ _ _ _ ⟨by omega, by omega⟩ rfl (Or.inr ⟨⟨hb, c_10⟩, lt, LED o (σ 2 o) (σ 3 o) (σ 1 (64 + o)) (σ 4 o) (σ 5 o) w, hlt, by rw [hw], ⟨τ, rfl⟩, by rw [if_neg (by omega), if_pos c_204]⟩) dX9_ledger_217
      · skip
        refine wpx_bipush hC dX9_ledger_215 rfl ?_
        refine wpx_more (cells2 := 16) (slots2 := 3004) hc9 hs9 ?_
        exact hret _ _ _ _ _ ⟨by decide, by decide⟩ rfl (Or.inr ⟨⟨hb, c_10⟩, lt, LED o (σ 2 o) (σ 3 o) (σ 1 (64 + o)) (σ 4 o) (σ 5 o) w, hlt, by rw [hw], ⟨τ, rfl⟩, by rw [if_neg (by omega), if_neg (by omega)]⟩) dX9_ledger_217
  have L184 : ∀ (w : Nat) (lt : Int) (τ : St) (X9 : va_W) (c9 s9 cap9 : Nat), w < 4 → w = wdI (σ 1 (40 + o)) lt → bP lt (LATE σ o) → c9 ≤ 15 → s9 ≤ 2804 → SBd cB X9 q (nmL o ++ [58] ++ nmL (σ 2 o) ++ itP (σ 3 o) 3 ++ [64] ++ nmL (σ 1 (64 + o)) ++ [103] ++ nmL (σ 4 o) ++ [114] ++ nmL (σ 5 o) ++ [32]) cap9 → wpx p l e ({ frames := 7, cells := 16, slots := 3004, locals := 210 } : Room) s m args below meth c (aA G s.heap.size) s.heap 5 Q G X9 c9 s9 (SC σ τ) 184 [(0, .ref (G.2.2 0)), (1, .int (zI o)), (2, .int (zI at1)), (3, .ref q), (4, .int (zI 3))] [.ref (Z.1 w), .ref q] := by
    intro w lt τ X9 c9 s9 cap9 hw4 hw hlt hc9 hs9 h9
    refine wpx_apS hw4 hC hX h9 (by simp only [List.length_append, List.length_cons, List.length_nil]; omega) gX9_ledger_J4_append_15ec4 ⟨by decide, by decide⟩ ⟨by show c9 + 1 ≤ 16; omega, by show s9 + 200 ≤ 3004; omega⟩ (Nat.le_of_ble_eq_true rfl) dX9_ledger_184 (fun X_184 cap_184 h_184 => ?_)
    refine wpx_pop hC dX9_ledger_187 rfl ?_
    exact L188 w lt τ _ _ _ _ hw4 hw hlt (by omega) (by omega) h_184
  have L84 : ∀ (X9 : va_W) (c9 s9 cap9 : Nat), c9 ≤ 8 → s9 ≤ 1404 → SBd cB X9 q (nmL o ++ [58] ++ nmL (σ 2 o) ++ itP (σ 3 o) 3) cap9 → wpx p l e ({ frames := 7, cells := 16, slots := 3004, locals := 210 } : Room) s m args below meth c (aA G s.heap.size) s.heap 5 Q G X9 c9 s9 σ 84 [(0, .ref (G.2.2 0)), (1, .int (zI o)), (2, .int (zI at1)), (3, .ref q), (4, .int (zI 3))] [] := by
    intro X9 c9 s9 cap9 hc9 hs9 h9
    refine wpx_aload_n hC dX9_ledger_84 rfl ?_
    refine wpx_bipush hC dX9_ledger_85 rfl ?_
    refine wpx_apC (v := 64) ⟨by decide, by decide⟩ hC hX h9 (by simp only [List.length_append, List.length_cons, List.length_nil]; omega) gX9_ledger_J4_append_cf468 ⟨by decide, by decide⟩ ⟨by show c9 + 1 ≤ 16; omega, by show s9 + 200 ≤ 3004; omega⟩ (Nat.le_of_ble_eq_true rfl) dX9_ledger_87 (fun X_87 cap_87 h_87 => ?_)
    refine wpx_aload_n hC dX9_ledger_90 rfl ?_
    refine wpx_geta (k := 0) hC rfl (by decide) rfl rfl (by decide) uX9_ledger_X9 fX9_ledger_9 rfl dX9_ledger_91 ?_
    refine wpx_bipush hC dX9_ledger_94 rfl ?_
    refine wpx_iload_n hC dX9_ledger_96 rfl ?_
    refine wpx_iadd hC dX9_ledger_97 ?_
    refine wpx_iald (n := 88) hC rfl (Nat.le_of_ble_eq_true rfl) rfl (by decide) (by omega) dX9_ledger_98 ?_
    refine wpx_apI (v := σ 1 (64 + o)) ⟨(w4 (64 + o) (by omega) (by omega)).1, by have := (w4 (64 + o) (by omega) (by omega)).2; omega⟩ hC hX h_87 (by simp only [List.length_append, List.length_cons, List.length_nil]; omega) gX9_ledger_J4_append_bf812 ⟨by decide, by decide⟩ ⟨by show c9 + 1 + 1 ≤ 16; omega, by show s9 + 200 + 200 ≤ 3004; omega⟩ (Nat.le_of_ble_eq_true rfl) dX9_ledger_99 (fun X_99 cap_99 h_99 => ?_)
    refine wpx_bipush hC dX9_ledger_102 rfl ?_
    refine wpx_apC (v := 103) ⟨by decide, by decide⟩ hC hX h_99 (by simp only [List.length_append, List.length_cons, List.length_nil]; omega) gX9_ledger_J4_append_cf468 ⟨by decide, by decide⟩ ⟨by show c9 + 1 + 1 + 1 ≤ 16; omega, by show s9 + 200 + 200 + 200 ≤ 3004; omega⟩ (Nat.le_of_ble_eq_true rfl) dX9_ledger_104 (fun X_104 cap_104 h_104 => ?_)
    refine wpx_aload_n hC dX9_ledger_107 rfl ?_
    refine wpx_geta (k := 3) hC rfl (by decide) rfl rfl (by decide) uX9_ledger_X9 fX9_ledger_19 rfl dX9_ledger_108 ?_
    refine wpx_iload_n hC dX9_ledger_111 rfl ?_
    refine wpx_iald (n := 24) hC rfl (Nat.le_of_ble_eq_true rfl) rfl (by decide) (by omega) dX9_ledger_112 ?_
    refine wpx_apI (v := σ 4 o) ⟨(h.2.2.2.2.1 o (by omega) (by omega)).1, by have := (h.2.2.2.2.1 o (by omega) (by omega)).2; omega⟩ hC hX h_104 (by simp only [List.length_append, List.length_cons, List.length_nil]; omega) gX9_ledger_J4_append_bf812 ⟨by decide, by decide⟩ ⟨by show c9 + 1 + 1 + 1 + 1 ≤ 16; omega, by show s9 + 200 + 200 + 200 + 200 ≤ 3004; omega⟩ (Nat.le_of_ble_eq_true rfl) dX9_ledger_113 (fun X_113 cap_113 h_113 => ?_)
    refine wpx_bipush hC dX9_ledger_116 rfl ?_
    refine wpx_apC (v := 114) ⟨by decide, by decide⟩ hC hX h_113 (by simp only [List.length_append, List.length_cons, List.length_nil]; omega) gX9_ledger_J4_append_cf468 ⟨by decide, by decide⟩ ⟨by show c9 + 1 + 1 + 1 + 1 + 1 ≤ 16; omega, by show s9 + 200 + 200 + 200 + 200 + 200 ≤ 3004; omega⟩ (Nat.le_of_ble_eq_true rfl) dX9_ledger_118 (fun X_118 cap_118 h_118 => ?_)
    refine wpx_aload_n hC dX9_ledger_121 rfl ?_
    refine wpx_geta (k := 4) hC rfl (by decide) rfl rfl (by decide) uX9_ledger_X9 fX9_ledger_22 rfl dX9_ledger_122 ?_
    refine wpx_iload_n hC dX9_ledger_125 rfl ?_
    refine wpx_iald (n := 24) hC rfl (Nat.le_of_ble_eq_true rfl) rfl (by decide) (by omega) dX9_ledger_126 ?_
    refine wpx_apI (v := σ 5 o) ⟨(h.2.2.2.2.2 o (by omega) (by omega)).1, by have := (h.2.2.2.2.2 o (by omega) (by omega)).2; omega⟩ hC hX h_118 (by simp only [List.length_append, List.length_cons, List.length_nil]; omega) gX9_ledger_J4_append_bf812 ⟨by decide, by decide⟩ ⟨by show c9 + 1 + 1 + 1 + 1 + 1 + 1 ≤ 16; omega, by show s9 + 200 + 200 + 200 + 200 + 200 + 200 ≤ 3004; omega⟩ (Nat.le_of_ble_eq_true rfl) dX9_ledger_127 (fun X_127 cap_127 h_127 => ?_)
    refine wpx_bipush hC dX9_ledger_130 rfl ?_
    refine wpx_apC (v := 32) ⟨by decide, by decide⟩ hC hX h_127 (by simp only [List.length_append, List.length_cons, List.length_nil]; omega) gX9_ledger_J4_append_cf468 ⟨by decide, by decide⟩ ⟨by show c9 + 1 + 1 + 1 + 1 + 1 + 1 + 1 ≤ 16; omega, by show s9 + 200 + 200 + 200 + 200 + 200 + 200 + 200 ≤ 3004; omega⟩ (Nat.le_of_ble_eq_true rfl) dX9_ledger_132 (fun X_132 cap_132 h_132 => ?_)
    refine wpx_pop hC dX9_ledger_135 rfl ?_
    have hk0 := w3 (40 + o) (by omega) (by omega)
    have hk9 : iR (σ 1 (40 + o)) := ⟨by omega, by omega⟩
    have hLT : ∃ lt, bP lt (LATE σ o) := by
      by_cases z9 : LATE σ o
      · exact ⟨1, Or.inl ⟨rfl, z9⟩⟩
      · exact ⟨0, Or.inr ⟨rfl, z9⟩⟩
    refine wpx_aload_n hC dX9_ledger_136 rfl ?_
    refine wpx_aload_n hC dX9_ledger_137 rfl ?_
    refine wpx_iload_n hC dX9_ledger_138 rfl ?_
    refine wpx_iconst hC dX9_ledger_139 ?_
    refine wpx_callVi (As := [_, _]) hC (c_X9_isWhat hG σ (o := o) (w := 0) ⟨by omega, by omega⟩ ⟨by decide, by decide⟩ hk9) gX9_ledger_X9_isWhat rfl ⟨rfl, rfl⟩ ⟨by decide, by decide⟩ hyVX9_isWhat rfl (by decide) rfl rfl (Nat.le_of_ble_eq_true rfl) ⟨by show c9 + 1 + 1 + 1 + 1 + 1 + 1 + 1 + 0 ≤ 16; omega, by show s9 + 200 + 200 + 200 + 200 + 200 + 200 + 200 + 0 ≤ 3004; omega⟩ dX9_ledger_140 (fun x_140 s_140 hx_140 hp_140 => ?_)
    obtain ⟨e_140, q_140⟩ := hp_140
    have r_140 := q_140.symm
    clear q_140
    subst r_140
    refine wpx_if_eq (tgt := 152) hC dX9_ledger_143 (by decide) (by rw [e_140]; exact bI_iR) (fun c_143 => ?_) (fun c_143 => ?_)
    rotate_left
    · have z0 : σ 1 (40 + o) = 0 := bI_yes (fun q9 => c_143 (e_140.trans q9))
      obtain ⟨lt, hlt⟩ := hLT
      refine wpx_ldcS hC hX.2.2.1.2.1.2.1 dX9_ledger_146 ?_
      refine wpx_goto (tgt := 184) hC dX9_ledger_149 (by decide) ?_
      refine wpx_st (SC_self σ).symm ?_
      exact L184 0 lt σ _ _ _ _ (by decide) (by unfold wdI; rw [if_pos z0]) hlt (by omega) (by omega) h_132
    · have z0 : ¬ σ 1 (40 + o) = 0 := bI_no (e_140.symm.trans c_143)
      refine wpx_aload_n hC dX9_ledger_152 rfl ?_
      refine wpx_iload_n hC dX9_ledger_153 rfl ?_
      refine wpx_iconst hC dX9_ledger_154 ?_
      refine wpx_callVi (As := [_, _]) hC (c_X9_isWhat hG σ (o := o) (w := 2) ⟨by omega, by omega⟩ ⟨by decide, by decide⟩ hk9) gX9_ledger_X9_isWhat rfl ⟨rfl, rfl⟩ ⟨by decide, by decide⟩ hyVX9_isWhat rfl (by decide) rfl rfl (Nat.le_of_ble_eq_true rfl) ⟨by show c9 + 1 + 1 + 1 + 1 + 1 + 1 + 1 + 0 ≤ 16; omega, by show s9 + 200 + 200 + 200 + 200 + 200 + 200 + 200 + 0 ≤ 3004; omega⟩ dX9_ledger_155 (fun x_155 s_155 hx_155 hp_155 => ?_)
      obtain ⟨e_155, q_155⟩ := hp_155
      have r_155 := q_155.symm
      clear q_155
      subst r_155
      refine wpx_if_eq (tgt := 167) hC dX9_ledger_158 (by decide) (by rw [e_155]; exact bI_iR) (fun c_158 => ?_) (fun c_158 => ?_)
      rotate_left
      · have z2 : σ 1 (40 + o) = 2 := bI_yes (fun q9 => c_158 (e_155.trans q9))
        obtain ⟨lt, hlt⟩ := hLT
        refine wpx_ldcS hC hX.2.2.1.2.1.2.2.1 dX9_ledger_161 ?_
        refine wpx_goto (tgt := 184) hC dX9_ledger_164 (by decide) ?_
        refine wpx_st (SC_self σ).symm ?_
        exact L184 1 lt σ _ _ _ _ (by decide) (by unfold wdI; rw [if_neg z0, if_pos z2]) hlt (by omega) (by omega) h_132
      · have z2 : ¬ σ 1 (40 + o) = 2 := bI_no (e_155.symm.trans c_158)
        refine wpx_aload_n hC dX9_ledger_167 rfl ?_
        refine wpx_iload_n hC dX9_ledger_168 rfl ?_
        refine wpx_callVi (As := [_]) hC (c_X9_isLate hG σ h hb) gX9_ledger_X9_isLate rfl ⟨rfl, rfl⟩ ⟨by decide, by decide⟩ hyVX9_isLate rfl (by decide) rfl rfl (Nat.le_of_ble_eq_true rfl) ⟨by show c9 + 1 + 1 + 1 + 1 + 1 + 1 + 1 + 0 ≤ 16; omega, by show s9 + 200 + 200 + 200 + 200 + 200 + 200 + 200 + 0 ≤ 3004; omega⟩ dX9_ledger_169 (fun x_169 s_169 hx_169 hp_169 => ?_)
        obtain ⟨hlt, τ, q_169, -⟩ := hp_169
        subst q_169
        refine wpx_if_eq (tgt := 181) hC dX9_ledger_172 (by decide) hx_169 (fun c_172 => ?_) (fun c_172 => ?_)
        rotate_left
        · skip
          refine wpx_ldcS hC hX.2.2.1.2.1.2.2.2.1 dX9_ledger_175 ?_
          refine wpx_goto (tgt := 184) hC dX9_ledger_178 (by decide) ?_
          exact L184 2 x_169 τ _ _ _ _ (by decide) (by unfold wdI; rw [if_neg z0, if_neg z2, if_neg c_172]) hlt (by omega) (by omega) h_132
        · skip
          refine wpx_ldcS hC hX.2.2.1.2.1.2.2.2.2 dX9_ledger_181 ?_
          exact L184 3 x_169 τ _ _ _ _ (by decide) (by unfold wdI; rw [if_neg z0, if_neg z2, if_pos c_172]) hlt (by omega) (by omega) h_132
  have P3 : ∀ (X9 : va_W) (c9 s9 cap9 : Nat), c9 ≤ 5 + 3 → s9 ≤ 804 + 200 * 3 → SBd cB X9 q (nmL o ++ [58] ++ nmL (σ 2 o) ++ itP (σ 3 o) 3) cap9 → wpx p l e ({ frames := 7, cells := 16, slots := 3004, locals := 210 } : Room) s m args below meth c (aA G s.heap.size) s.heap 5 Q G X9 c9 s9 σ 46 [(0, .ref (G.2.2 0)), (1, .int (zI o)), (2, .int (zI at1)), (3, .ref q), (4, .int (zI ((3 : Nat) : Int)))] [] := by
    intro X9 c9 s9 cap9 hc9 hs9 h9
    refine wpx_iload hC dX9_ledger_46 rfl ?_
    refine wpx_iconst hC dX9_ledger_48 ?_
    refine wpx_icmp_ge (tgt := 84) hC dX9_ledger_49 (by decide) ⟨by decide, by decide⟩ ⟨by decide, by decide⟩ (fun c_49 => ?_) (fun c_49 => absurd c_49 (by decide))
    exact L84 X9 c9 s9 cap9 (by omega) (by omega) h9
  have PS : ∀ j : Nat, j < 3 → (itP (σ 3 o) j).length ≤ j → (∀ (X9 : va_W) (c9 s9 cap9 : Nat), c9 ≤ 5 + (j + 1) → s9 ≤ 804 + 200 * (j + 1) → SBd cB X9 q (nmL o ++ [58] ++ nmL (σ 2 o) ++ itP (σ 3 o) (j + 1)) cap9 → wpx p l e ({ frames := 7, cells := 16, slots := 3004, locals := 210 } : Room) s m args below meth c (aA G s.heap.size) s.heap 5 Q G X9 c9 s9 σ 46 [(0, .ref (G.2.2 0)), (1, .int (zI o)), (2, .int (zI at1)), (3, .ref q), (4, .int (zI (((j + 1) : Nat) : Int)))] []) → ∀ (X9 : va_W) (c9 s9 cap9 : Nat), c9 ≤ 5 + j → s9 ≤ 804 + 200 * j → SBd cB X9 q (nmL o ++ [58] ++ nmL (σ 2 o) ++ itP (σ 3 o) j) cap9 → wpx p l e ({ frames := 7, cells := 16, slots := 3004, locals := 210 } : Room) s m args below meth c (aA G s.heap.size) s.heap 5 Q G X9 c9 s9 σ 46 [(0, .ref (G.2.2 0)), (1, .int (zI o)), (2, .int (zI at1)), (3, .ref q), (4, .int (zI ((j : Nat) : Int)))] [] := by
    intro j hj hlj hnext X9 c9 s9 cap9 hc9 hs9 h9
    refine wpx_iload hC dX9_ledger_46 rfl ?_
    refine wpx_iconst hC dX9_ledger_48 ?_
    refine wpx_icmp_ge (tgt := 84) hC dX9_ledger_49 (by decide) ⟨by omega, by omega⟩ ⟨by decide, by decide⟩ (fun c_49 => absurd c_49 (by omega)) (fun c_49 => ?_)
    have hit := h.2.2.2.1 o (by omega) (by omega)
    have hbit : iand (ishr (σ 3 o) (j : Int)) 1 = 0 ∨ iand (ishr (σ 3 o) (j : Int)) 1 = 1 := by
      rw [bit_at (by omega) (by omega) (by omega) (by omega)]
      unfold bI
      split
      · exact Or.inr rfl
      · exact Or.inl rfl
    refine wpx_aload_n hC dX9_ledger_52 rfl ?_
    refine wpx_geta (k := 2) hC rfl (by decide) rfl rfl (by decide) uX9_ledger_X9 fX9_ledger_16 rfl dX9_ledger_53 ?_
    refine wpx_iload_n hC dX9_ledger_56 rfl ?_
    refine wpx_iald (n := 24) hC rfl (Nat.le_of_ble_eq_true rfl) rfl (by decide) (by omega) dX9_ledger_57 ?_
    refine wpx_iload hC dX9_ledger_58 rfl ?_
    refine wpx_ishr hC dX9_ledger_60 ?_
    refine wpx_iconst hC dX9_ledger_61 ?_
    refine wpx_iand hC dX9_ledger_62 ?_
    refine wpx_iconst hC dX9_ledger_63 ?_
    refine wpx_icmp_ne (tgt := 78) hC dX9_ledger_64 (by decide) (by rcases hbit with z | z <;> (rw [z]; exact ⟨by decide, by decide⟩)) ⟨by decide, by decide⟩ (fun c_64 => ?_) (fun c_64 => ?_)
    · have z9 : iand (ishr (σ 3 o) (j : Int)) 1 = 0 := hbit.resolve_right c_64
      refine wpx_iinc (lv2 := [(0, _), (1, _), (2, _), (3, _), (4, .int (zI ((j : Int) + 1)))]) hC dX9_ledger_78 rfl rfl (by decide) ?_
      refine wpx_goto (tgt := 46) hC dX9_ledger_81 (by decide) ?_
      exact hnext X9 _ _ cap9 (by omega) (by omega) (by show SBd cB X9 q (_ ++ (itP (σ 3 o) j ++ _)) cap9; rw [if_pos z9, List.append_nil]; exact h9)
    · have z9 : ¬ iand (ishr (σ 3 o) (j : Int)) 1 = 0 := by omega
      refine wpx_aload_n hC dX9_ledger_67 rfl ?_
      refine wpx_bipush hC dX9_ledger_68 rfl ?_
      refine wpx_iload hC dX9_ledger_70 rfl ?_
      refine wpx_iadd hC dX9_ledger_72 ?_
      refine wpx_i2c hC dX9_ledger_73 ⟨by omega, by omega⟩ ?_
      refine wpx_apC (v := 97 + (j : Int)) ⟨by omega, by omega⟩ hC hX h9 (by simp only [List.length_append, List.length_cons, List.length_nil]; omega) gX9_ledger_J4_append_cf468 ⟨by decide, by decide⟩ ⟨by show c9 + 1 ≤ 16; omega, by show s9 + 200 ≤ 3004; omega⟩ (Nat.le_of_ble_eq_true rfl) dX9_ledger_74 (fun X_74 cap_74 h_74 => ?_)
      refine wpx_pop hC dX9_ledger_77 rfl ?_
      refine wpx_iinc (lv2 := [(0, _), (1, _), (2, _), (3, _), (4, .int (zI ((j : Int) + 1)))]) hC dX9_ledger_78 rfl rfl (by decide) ?_
      refine wpx_goto (tgt := 46) hC dX9_ledger_81 (by decide) ?_
      exact hnext X_74 _ _ cap_74 (by omega) (by omega) (by show SBd cB X_74 q (_ ++ (itP (σ 3 o) j ++ _)) cap_74; rw [if_neg z9, ← List.append_assoc]; exact h_74)
  exact PS 0 (by decide) i0 (PS 1 (by decide) i1 (PS 2 (by decide) i2 P3)) X_39 _ _ cap_39 (by decide) (by decide) (by show SBd cB X_39 q (_ ++ []) cap_39; rw [List.append_nil]; exact h_39)
