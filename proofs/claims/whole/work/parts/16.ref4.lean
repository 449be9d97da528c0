theorem kI {σ : St} (h : RO σ) : ∀ o, 0 ≤ o → o < 24 → iR (σ 1 (40 + o)) := fun o a b => by
  have := h.2.1.2.2.1 (40 + o) (by omega) (by omega)
  omega
theorem NWC {σ : St} {k v : Int} (hd : 0 ≤ σ 0 11 ∧ σ 0 11 ≤ 12) : CHG (put (cpy σ 1 9 88) 1 k v) = SC (CG σ (up1 (σ 1) k v)) (CHG (put (cpy σ 1 9 88) 1 k v)) :=
  CHG_CG hd (fun b x y => by rw [put_i (by decide), cpy19 x y]) up1_put (fun a b x y => by rw [put_i x, cpy19o (scr_a y)])
theorem THC {σ τ : St} {w : Int → Int} {v : Int} (hd : 0 ≤ σ 0 11 ∧ σ 0 11 ≤ 12) : TH (SC (CG σ w) τ) v = bsum (fun q => decide (w (40 + q) = v)) (σ 0 5) := by
  show bsum (fun o => decide (CG σ w 1 (40 + o) = v)) (CG σ w 0 5) = _
  rw [CG_1, CG_o (by omega) hd]
theorem old9 {σ : St} {k v j : Int} (hd : 0 ≤ σ 0 11 ∧ σ 0 11 ≤ 12) (h0 : 0 ≤ j) (h1 : j < 88) : CHG (put (cpy σ 1 9 88) 1 k v) 9 j = σ 1 j := by
  rw [CHG_o (σ := put (cpy σ 1 9 88) 1 k v) (by omega) hd, put_i (by decide), cpy19 h0 h1]

theorem hyVX9_undo : yX9_undo.cls = RX9 ∧ yX9_undo.cls ≠ "java/lang/invoke/MethodHandle" ∧ yX9_undo.cls ≠ "java/lang/invoke/VarHandle" ∧ (parseMethodDescriptor yX9_undo.desc).map (fun d => d.parameters.length) = some 0 := by decide +kernel
theorem uX9_undo_X9 : ∀ w ∈ u_ws RX9 TX9 35, w ∈ wsX9_undo := by decide +kernel
theorem fX9_undo_95 : Cond.fieldLink RX9 95 (TX9 11).1 (TX9 11).2.1 (TX9 11).2.2.1 ∈ wsX9_undo := by decide +kernel
theorem fX9_undo_27 : Cond.fieldLink RX9 27 (TX9 6).1 (TX9 6).2.1 (TX9 6).2.2.1 ∈ wsX9_undo := by decide +kernel
theorem fX9_undo_33 : Cond.fieldLink RX9 33 (TX9 8).1 (TX9 8).2.1 (TX9 8).2.2.1 ∈ wsX9_undo := by decide +kernel
set_option maxHeartbeats 4000000 in
set_option maxRecDepth 100000 in
theorem c_X9_undo {l : Launch} {G : Gy} (hG : Inj G) (σ : St) (hd : 0 ≤ σ 0 11 ∧ σ 0 11 ≤ 12) (h8 : ∀ k, 0 ≤ k → k < 12 → 0 ≤ σ 8 k ∧ σ 8 k ≤ 24) : MI l yX9_undo wsX9_undo ({ frames := 1, cells := 0, slots := 0, locals := 23 } : Room) G [.ref (G.2.2 0)] σ (fun x σ2 => (σ 0 11 = 0 ∧ x = -5 ∧ σ2 = σ) ∨ (σ 0 11 ≠ 0 ∧ x = σ 0 11 - 1 ∧ σ2 = LB (put σ 0 11 (σ 0 11 - 1)) (22 + (σ 0 11 - 1).toNat) (max 0 (σ 8 (σ 0 11 - 1))))) := by
  refine MI.of hG (by decide +kernel) rfl rfl (Nat.le_of_ble_eq_true rfl) rfl ?_
  intro p e s m args below meth c H0 Q hC hret
  refine wp_aload_n hC dX9_undo_0 rfl ?_
  refine wp_geti (k := 11) (z := 11) hC rfl (rfl) (by decide) (rfl) (rfl) (by decide) uX9_undo_X9 fX9_undo_95 (rfl) dX9_undo_1 ?_
  refine wp_if_ne (tgt := 10) hC dX9_undo_4 (by decide) (by omega) (fun c_4 => ?_) (fun c_4 => ?_)
  · have hr := rowB (σ 0 11 - 1).toNat (by omega)
    have h9 := h8 (σ 0 11 - 1) (by omega) (by omega)
    refine wp_aload_n hC dX9_undo_10 rfl ?_
    refine wp_dup hC dX9_undo_11 rfl ?_
    refine wp_geti (k := 11) (z := 11) hC rfl (rfl) (by decide) (rfl) (rfl) (by decide) uX9_undo_X9 fX9_undo_95 (rfl) dX9_undo_12 ?_
    refine wp_iconst hC dX9_undo_15 ?_
    refine wp_isub hC dX9_undo_16 ?_
    refine wp_puti2 (k := 11) (z := 11) hC rfl (rfl) (by decide) (rfl) (rfl) (by decide) uX9_undo_X9 fX9_undo_95 tyX9 tyX9_ok nmX9 rfl rfl (rfl) dX9_undo_17 ?_
    refine wp_aload_n hC dX9_undo_20 rfl ?_
    refine wp_aload_n hC dX9_undo_21 rfl ?_
    refine wp_geta (k := 6) hC (rfl) (by decide) (rfl) (rfl) (by decide) uX9_undo_X9 fX9_undo_27 (rfl) dX9_undo_22 ?_
    refine wp_aload_n hC dX9_undo_25 rfl ?_
    refine wp_geti (k := 11) (z := 11) hC rfl (rfl) (by decide) (rfl) (rfl) (by decide) uX9_undo_X9 fX9_undo_95 (rfl) dX9_undo_26 ?_
    refine wp_top (b := σ 0 11 - 1) put_s ?_
    refine wp_aald4 (n := 12) hC rfl (Nat.le_of_ble_eq_true rfl) rfl (by decide) (by omega) dX9_undo_29 ?_
    refine wp_aload_n hC dX9_undo_30 rfl ?_
    refine wp_geta (k := 8) hC (rfl) (by decide) (rfl) (rfl) (by decide) uX9_undo_X9 fX9_undo_33 (rfl) dX9_undo_31 ?_
    refine wp_aload_n hC dX9_undo_34 rfl ?_
    refine wp_geti (k := 11) (z := 11) hC rfl (rfl) (by decide) (rfl) (rfl) (by decide) uX9_undo_X9 fX9_undo_95 (rfl) dX9_undo_35 ?_
    refine wp_top (b := σ 0 11 - 1) put_s ?_
    refine wp_iald (n := 12) hC (rfl) (Nat.le_of_ble_eq_true rfl) (rfl) (by decide) (by omega) dX9_undo_38 ?_
    refine wp_callVu (As := [_, _]) hC (c_X9_laysBack hG (put σ 0 11 (σ 0 11 - 1)) (i := 22 + (σ 0 11 - 1).toNat) (n1 := σ 8 (σ 0 11 - 1)) (by show _ < 183; omega) hr.1 hr.2.1 (by omega) (by omega)) gX9_undo_X9_laysBack rfl ⟨rfl, rfl⟩ ⟨by decide, by decide⟩ hyVX9_laysBack (rfl) (by decide) (rfl) rfl (Nat.le_of_ble_eq_true rfl) dX9_undo_39 ?_
    refine wp_aload_n hC dX9_undo_42 rfl ?_
    refine wp_geti (k := 11) (z := 11) hC rfl (rfl) (by decide) (rfl) (rfl) (by decide) uX9_undo_X9 fX9_undo_95 (rfl) dX9_undo_43 ?_
    refine wp_top (b := σ 0 11 - 1) rfl ?_
    exact hret _ _ _ _ (by omega) rfl (Or.inr ⟨c_4, rfl, rfl⟩) dX9_undo_46
  · refine wp_bipush hC dX9_undo_7 rfl ?_
    exact hret _ _ _ _ (by omega) rfl (Or.inl ⟨c_4, rfl, rfl⟩) dX9_undo_9

theorem hyVX9_redo : yX9_redo.cls = RX9 ∧ yX9_redo.cls ≠ "java/lang/invoke/MethodHandle" ∧ yX9_redo.cls ≠ "java/lang/invoke/VarHandle" ∧ (parseMethodDescriptor yX9_redo.desc).map (fun d => d.parameters.length) = some 0 := by decide +kernel
theorem uX9_redo_X9 : ∀ w ∈ u_ws RX9 TX9 35, w ∈ wsX9_redo := by decide +kernel
theorem fX9_redo_95 : Cond.fieldLink RX9 95 (TX9 11).1 (TX9 11).2.1 (TX9 11).2.2.1 ∈ wsX9_redo := by decide +kernel
theorem fX9_redo_98 : Cond.fieldLink RX9 98 (TX9 10).1 (TX9 10).2.1 (TX9 10).2.2.1 ∈ wsX9_redo := by decide +kernel
theorem fX9_redo_30 : Cond.fieldLink RX9 30 (TX9 7).1 (TX9 7).2.1 (TX9 7).2.2.1 ∈ wsX9_redo := by decide +kernel
theorem fX9_redo_33 : Cond.fieldLink RX9 33 (TX9 8).1 (TX9 8).2.1 (TX9 8).2.2.1 ∈ wsX9_redo := by decide +kernel
set_option maxHeartbeats 4000000 in
set_option maxRecDepth 100000 in
theorem c_X9_redo {l : Launch} {G : Gy} (hG : Inj G) (σ : St) (hd : 0 ≤ σ 0 11 ∧ σ 0 11 ≤ σ 0 10 ∧ σ 0 10 ≤ 12) (h8 : ∀ k, 0 ≤ k → k < 12 → 0 ≤ σ 8 k ∧ σ 8 k ≤ 24) : MI l yX9_redo wsX9_redo ({ frames := 1, cells := 0, slots := 0, locals := 23 } : Room) G [.ref (G.2.2 0)] σ (fun x σ2 => (σ 0 11 = σ 0 10 ∧ x = -5 ∧ σ2 = σ) ∨ (σ 0 11 ≠ σ 0 10 ∧ x = σ 0 10 - (σ 0 11 + 1) ∧ σ2 = put (LB σ (34 + (σ 0 11).toNat) (max 0 (σ 8 (σ 0 11)))) 0 11 (σ 0 11 + 1))) := by
  refine MI.of hG (by decide +kernel) rfl rfl (Nat.le_of_ble_eq_true rfl) rfl ?_
  intro p e s m args below meth c H0 Q hC hret
  refine wp_aload_n hC dX9_redo_0 rfl ?_
  refine wp_geti (k := 11) (z := 11) hC rfl (rfl) (by decide) (rfl) (rfl) (by decide) uX9_redo_X9 fX9_redo_95 (rfl) dX9_redo_1 ?_
  refine wp_aload_n hC dX9_redo_4 rfl ?_
  refine wp_geti (k := 10) (z := 10) hC rfl (rfl) (by decide) (rfl) (rfl) (by decide) uX9_redo_X9 fX9_redo_98 (rfl) dX9_redo_5 ?_
  refine wp_icmp_ne (tgt := 14) hC dX9_redo_8 (by decide) (by omega) (by omega) (fun c_8 => ?_) (fun c_8 => ?_)
  · have hr := rowB (σ 0 11).toNat (by omega)
    have h9 := h8 (σ 0 11) (by omega) (by omega)
    refine wp_aload_n hC dX9_redo_14 rfl ?_
    refine wp_aload_n hC dX9_redo_15 rfl ?_
    refine wp_geta (k := 7) hC (rfl) (by decide) (rfl) (rfl) (by decide) uX9_redo_X9 fX9_redo_30 (rfl) dX9_redo_16 ?_
    refine wp_aload_n hC dX9_redo_19 rfl ?_
    refine wp_geti (k := 11) (z := 11) hC rfl (rfl) (by decide) (rfl) (rfl) (by decide) uX9_redo_X9 fX9_redo_95 (rfl) dX9_redo_20 ?_
    refine wp_aald4 (n := 12) hC rfl (Nat.le_of_ble_eq_true rfl) rfl (by decide) (by omega) dX9_redo_23 ?_
    refine wp_aload_n hC dX9_redo_24 rfl ?_
    refine wp_geta (k := 8) hC (rfl) (by decide) (rfl) (rfl) (by decide) uX9_redo_X9 fX9_redo_33 (rfl) dX9_redo_25 ?_
    refine wp_aload_n hC dX9_redo_28 rfl ?_
    refine wp_geti (k := 11) (z := 11) hC rfl (rfl) (by decide) (rfl) (rfl) (by decide) uX9_redo_X9 fX9_redo_95 (rfl) dX9_redo_29 ?_
    refine wp_iald (n := 12) hC (rfl) (Nat.le_of_ble_eq_true rfl) (rfl) (by decide) (by omega) dX9_redo_32 ?_
    refine wp_callVu (As := [_, _]) hC (c_X9_laysBack hG σ (i := 34 + (σ 0 11).toNat) (n1 := σ 8 (σ 0 11)) (by show _ < 183; omega) hr.2.2.1 hr.2.2.2 (by omega) (by omega)) gX9_redo_X9_laysBack rfl ⟨rfl, rfl⟩ ⟨by decide, by decide⟩ hyVX9_laysBack (rfl) (by decide) (rfl) rfl (Nat.le_of_ble_eq_true rfl) dX9_redo_33 ?_
    refine wp_aload_n hC dX9_redo_36 rfl ?_
    refine wp_dup hC dX9_redo_37 rfl ?_
    refine wp_geti (k := 11) (z := 11) hC rfl (rfl) (by decide) (rfl) (rfl) (by decide) uX9_redo_X9 fX9_redo_95 (rfl) dX9_redo_38 ?_
    refine wp_top (b := σ 0 11) rfl ?_
    refine wp_iconst hC dX9_redo_41 ?_
    refine wp_iadd hC dX9_redo_42 ?_
    refine wp_puti2 (k := 11) (z := 11) hC rfl (rfl) (by decide) (rfl) (rfl) (by decide) uX9_redo_X9 fX9_redo_95 tyX9 tyX9_ok nmX9 rfl rfl (rfl) dX9_redo_43 ?_
    refine wp_aload_n hC dX9_redo_46 rfl ?_
    refine wp_geti (k := 10) (z := 10) hC rfl (rfl) (by decide) (rfl) (rfl) (by decide) uX9_redo_X9 fX9_redo_98 (rfl) dX9_redo_47 ?_
    refine wp_top (b := σ 0 10) rfl ?_
    refine wp_aload_n hC dX9_redo_50 rfl ?_
    refine wp_geti (k := 11) (z := 11) hC rfl (rfl) (by decide) (rfl) (rfl) (by decide) uX9_redo_X9 fX9_redo_95 (rfl) dX9_redo_51 ?_
    refine wp_top (b := σ 0 11 + 1) put_s ?_
    refine wp_isub hC dX9_redo_54 ?_
    exact hret _ _ _ _ (by omega) rfl (Or.inr ⟨c_8, rfl, rfl⟩) dX9_redo_55
  · refine wp_bipush hC dX9_redo_11 rfl ?_
    exact hret _ _ _ _ (by omega) rfl (Or.inl ⟨c_8, rfl, rfl⟩) dX9_redo_13

theorem hyVX9_image : yX9_image.cls = RX9 ∧ yX9_image.cls ≠ "java/lang/invoke/MethodHandle" ∧ yX9_image.cls ≠ "java/lang/invoke/VarHandle" ∧ (parseMethodDescriptor yX9_image.desc).map (fun d => d.parameters.length) = some 0 := by decide +kernel
theorem uX9_image_X9 : ∀ w ∈ u_ws RX9 TX9 35, w ∈ wsX9_image := by decide +kernel
theorem fX9_image_9 : Cond.fieldLink RX9 9 (TX9 0).1 (TX9 0).2.1 (TX9 0).2.2.1 ∈ wsX9_image := by decide +kernel
theorem fX9_image_39 : Cond.fieldLink RX9 39 (TX9 12).1 (TX9 12).2.1 (TX9 12).2.2.1 ∈ wsX9_image := by decide +kernel
theorem fX9_image_80 : Cond.fieldLink RX9 80 (TX9 5).1 (TX9 5).2.1 (TX9 5).2.2.1 ∈ wsX9_image := by decide +kernel
theorem fX9_image_42 : Cond.fieldLink RX9 42 (TX9 13).1 (TX9 13).2.1 (TX9 13).2.2.1 ∈ wsX9_image := by decide +kernel
set_option maxHeartbeats 4000000 in
set_option maxRecDepth 100000 in
theorem c_X9_image {l : Launch} {G : Gy} (hG : Inj G) (σ : St) (h : RO σ) : ME l yX9_image wsX9_image ({ frames := 2, cells := 0, slots := 0, locals := 45 } : Room) G [.ref (G.2.2 0)] σ (pc (TH σ 1)) (put (cpy σ 1 10 88) 0 13 (σ 0 5)) := by
  refine MI.of hG (by decide +kernel) rfl rfl (Nat.le_of_ble_eq_true rfl) rfl ?_
  intro p e s m args below meth c H0 Q hC hret
  refine wp_aload_n hC dX9_image_0 rfl ?_
  refine wp_geta (k := 0) hC (rfl) (by decide) (rfl) (rfl) (by decide) uX9_image_X9 fX9_image_9 (rfl) dX9_image_1 ?_
  refine wp_aload_n hC dX9_image_4 rfl ?_
  refine wp_geta (k := 12) hC (rfl) (by decide) (rfl) (rfl) (by decide) uX9_image_X9 fX9_image_39 (rfl) dX9_image_5 ?_
  refine wp_callSu (As := [_, _]) hC (c_X9_copies hG _ _ _ (by decide) (by decide) rfl rfl rfl rfl) gX9_image_X9_copies rfl ⟨rfl, rfl⟩ ⟨by decide, by decide⟩ hySX9_copies rfl (Nat.le_of_ble_eq_true rfl) dX9_image_8 ?_
  refine wp_aload_n hC dX9_image_11 rfl ?_
  refine wp_aload_n hC dX9_image_12 rfl ?_
  refine wp_geti (k := 5) (z := 5) hC rfl (rfl) (by decide) (rfl) (rfl) (by decide) uX9_image_X9 fX9_image_80 (rfl) dX9_image_13 ?_
  refine wp_top (b := σ 0 5) rfl ?_
  refine wp_puti2 (k := 13) (z := 13) hC rfl (rfl) (by decide) (rfl) (rfl) (by decide) uX9_image_X9 fX9_image_42 tyX9 tyX9_ok nmX9 rfl rfl (rfl) dX9_image_16 ?_
  refine wp_aload_n hC dX9_image_19 rfl ?_
  refine wp_iconst hC dX9_image_20 ?_
  refine wp_callVe (As := [_]) hC (c_X9_those hG (put (cpy σ 1 10 88) 0 13 (σ 0 5)) (by omega) (kI h) h.1) gX9_image_X9_those rfl ⟨rfl, rfl⟩ ⟨by decide, by decide⟩ hyVX9_those (rfl) (by decide) (rfl) rfl (Nat.le_of_ble_eq_true rfl) dX9_image_21 (fun hx_21 => ?_)
  refine wp_top (b := TH σ 1) rfl ?_
  refine wp_callSe (As := [_]) hC (c_X9_size hG _ (bsI h.1)) gX9_image_X9_size rfl ⟨rfl, rfl⟩ ⟨by decide, by decide⟩ hySX9_size rfl (Nat.le_of_ble_eq_true rfl) dX9_image_24 (fun hx_24 => ?_)
  exact hret _ _ _ _ (by have := pc_rng (TH σ 1); omega) rfl (⟨rfl, rfl⟩) dX9_image_27

/-- the image laid back, the first k orders behind it asked -/
def BKk (σ : St) (k : Int) : St := fun a b => if a = 1 ∧ 40 + σ 0 13 ≤ b ∧ b < 40 + k then 0 else LB σ 10 (max 0 (σ 0 13)) a b
theorem BKk_0 {σ : St} : LB σ 10 (max 0 (σ 0 13)) = BKk σ (σ 0 13) := by
  funext a b
  unfold BKk
  rw [if_neg (by omega)]
theorem BKk_s {σ : St} {k : Int} (h : σ 0 13 ≤ k) : put (BKk σ k) 1 (40 + k) 0 = BKk σ (k + 1) := by
  funext a b
  unfold put BKk
  by_cases q : a = 1 ∧ b = 40 + k
  · rw [if_pos q, if_pos (by omega)]
  · rw [if_neg q]
    have e : (a = 1 ∧ 40 + σ 0 13 ≤ b ∧ b < 40 + k) = (a = 1 ∧ 40 + σ 0 13 ≤ b ∧ b < 40 + (k + 1)) := propext (by omega)
    simp only [e]
def BK (σ : St) : St := put (put (BKk σ (σ 0 5)) 0 10 0) 0 11 0

theorem hyVX9_back : yX9_back.cls = RX9 ∧ yX9_back.cls ≠ "java/lang/invoke/MethodHandle" ∧ yX9_back.cls ≠ "java/lang/invoke/VarHandle" ∧ (parseMethodDescriptor yX9_back.desc).map (fun d => d.parameters.length) = some 0 := by decide +kernel
theorem uX9_back_X9 : ∀ w ∈ u_ws RX9 TX9 35, w ∈ wsX9_back := by decide +kernel
theorem fX9_back_80 : Cond.fieldLink RX9 80 (TX9 5).1 (TX9 5).2.1 (TX9 5).2.2.1 ∈ wsX9_back := by decide +kernel
theorem fX9_back_98 : Cond.fieldLink RX9 98 (TX9 10).1 (TX9 10).2.1 (TX9 10).2.2.1 ∈ wsX9_back := by decide +kernel
theorem fX9_back_95 : Cond.fieldLink RX9 95 (TX9 11).1 (TX9 11).2.1 (TX9 11).2.2.1 ∈ wsX9_back := by decide +kernel
theorem fX9_back_9 : Cond.fieldLink RX9 9 (TX9 0).1 (TX9 0).2.1 (TX9 0).2.2.1 ∈ wsX9_back := by decide +kernel
theorem fX9_back_42 : Cond.fieldLink RX9 42 (TX9 13).1 (TX9 13).2.1 (TX9 13).2.2.1 ∈ wsX9_back := by decide +kernel
theorem fX9_back_39 : Cond.fieldLink RX9 39 (TX9 12).1 (TX9 12).2.1 (TX9 12).2.2.1 ∈ wsX9_back := by decide +kernel
set_option maxHeartbeats 4000000 in
set_option maxRecDepth 100000 in
theorem c_X9_back {l : Launch} {G : Gy} (hG : Inj G) (σ : St) (h : RO σ) (hi : -1 ≤ σ 0 13 ∧ σ 0 13 ≤ σ 0 5) (hk : ∀ o, 0 ≤ o → o < 24 → iR (BK σ 1 (40 + o))) : MI l yX9_back wsX9_back ({ frames := 2, cells := 0, slots := 0, locals := 45 } : Room) G [.ref (G.2.2 0)] σ (fun x σ2 => (σ 0 13 < 0 ∧ x = -5 ∧ σ2 = σ) ∨ (0 ≤ σ 0 13 ∧ x = pc (TH (BK σ) 1) ∧ σ2 = BK σ)) := by
  refine MI.of hG (by decide +kernel) rfl rfl (Nat.le_of_ble_eq_true rfl) rfl ?_
  intro p e s m args below meth c H0 Q hC hret
  have hn := h.1
  have L27 : ∀ (n : Nat) (k : Int), ((σ 0 5 - k).toNat) = n → (0 ≤ σ 0 13) → (σ 0 13 ≤ k ∧ k ≤ σ 0 5) → wp p l e ({ frames := 2, cells := 0, slots := 0, locals := 45 } : Room) s m args below meth c (aA G (Array.size H0)) H0 2 Q G (BKk σ k) 27 [(0, .ref (G.2.2 0)), (1, .int (zI (k)))] [] := by
    intro n27
    induction n27 using Nat.strongRecOn with
    | ind n27 ih =>
      intro k hm27 g0 h1
      refine wp_iload_n hC dX9_back_27 rfl ?_
      refine wp_aload_n hC dX9_back_28 rfl ?_
      refine wp_geti (k := 5) (z := 5) hC rfl (rfl) (by decide) (rfl) (rfl) (by decide) uX9_back_X9 fX9_back_80 (rfl) dX9_back_29 ?_
      refine wp_top (b := σ 0 5) rfl ?_
      refine wp_icmp_ge (tgt := 51) hC dX9_back_32 (by decide) (by omega) (by omega) (fun c_32 => ?_) (fun c_32 => ?_)
      · refine wp_st (σ2 := BKk σ (σ 0 5)) (by rw [show k = σ 0 5 by omega]) ?_
        refine wp_aload_n hC dX9_back_51 rfl ?_
        refine wp_iconst hC dX9_back_52 ?_
        refine wp_puti2 (k := 10) (z := 10) hC rfl (rfl) (by decide) (rfl) (rfl) (by decide) uX9_back_X9 fX9_back_98 tyX9 tyX9_ok nmX9 rfl rfl (rfl) dX9_back_53 ?_
        refine wp_aload_n hC dX9_back_56 rfl ?_
        refine wp_iconst hC dX9_back_57 ?_
        refine wp_puti2 (k := 11) (z := 11) hC rfl (rfl) (by decide) (rfl) (rfl) (by decide) uX9_back_X9 fX9_back_95 tyX9 tyX9_ok nmX9 rfl rfl (rfl) dX9_back_58 ?_
        refine wp_st (σ2 := BK σ) rfl ?_
        refine wp_aload_n hC dX9_back_61 rfl ?_
        refine wp_iconst hC dX9_back_62 ?_
        refine wp_callVe (As := [_]) hC (c_X9_those hG (BK σ) (by omega) hk (show 0 ≤ σ 0 5 ∧ σ 0 5 ≤ 24 from hn)) gX9_back_X9_those rfl ⟨rfl, rfl⟩ ⟨by decide, by decide⟩ hyVX9_those (rfl) (by decide) (rfl) rfl (Nat.le_of_ble_eq_true rfl) dX9_back_63 (fun hx_63 => ?_)
        refine wp_top (b := TH (BK σ) 1) rfl ?_
        refine wp_callSe (As := [_]) hC (c_X9_size hG _ (bsI (show 0 ≤ σ 0 5 ∧ σ 0 5 ≤ 24 from hn))) gX9_back_X9_size rfl ⟨rfl, rfl⟩ ⟨by decide, by decide⟩ hySX9_size rfl (Nat.le_of_ble_eq_true rfl) dX9_back_66 (fun hx_66 => ?_)
        exact hret _ _ _ _ (by have := pc_rng (TH (BK σ) 1); omega) rfl (Or.inr ⟨g0, rfl, rfl⟩) dX9_back_69
      · refine wp_aload_n hC dX9_back_35 rfl ?_
        refine wp_geta (k := 0) hC (rfl) (by decide) (rfl) (rfl) (by decide) uX9_back_X9 fX9_back_9 (rfl) dX9_back_36 ?_
        refine wp_bipush hC dX9_back_39 rfl ?_
        refine wp_iload_n hC dX9_back_41 rfl ?_
        refine wp_iadd hC dX9_back_42 ?_
        refine wp_iconst hC dX9_back_43 ?_
        refine wp_iast (n := 88) hC (rfl) (Nat.le_of_ble_eq_true rfl) (rfl) (by decide) (by omega) dX9_back_44 ?_
        refine wp_iinc (lv2 := [(0, _), (1, _)]) hC dX9_back_45 rfl rfl (by decide) ?_
        refine wp_goto (tgt := 27) hC dX9_back_48 (by decide) ?_
        refine wp_st (BKk_s h1.1) ?_
        exact ih _ (by omega) _ rfl g0 (by omega)
  refine wp_aload_n hC dX9_back_0 rfl ?_
  refine wp_geti (k := 13) (z := 13) hC rfl (rfl) (by decide) (rfl) (rfl) (by decide) uX9_back_X9 fX9_back_42 (rfl) dX9_back_1 ?_
  refine wp_if_ge (tgt := 10) hC dX9_back_4 (by decide) (by omega) (fun c_4 => ?_) (fun c_4 => ?_)
  · refine wp_aload_n hC dX9_back_10 rfl ?_
    refine wp_aload_n hC dX9_back_11 rfl ?_
    refine wp_geta (k := 12) hC (rfl) (by decide) (rfl) (rfl) (by decide) uX9_back_X9 fX9_back_39 (rfl) dX9_back_12 ?_
    refine wp_aload_n hC dX9_back_15 rfl ?_
    refine wp_geti (k := 13) (z := 13) hC rfl (rfl) (by decide) (rfl) (rfl) (by decide) uX9_back_X9 fX9_back_42 (rfl) dX9_back_16 ?_
    refine wp_callVu (As := [_, _]) hC (c_X9_laysBack hG σ (i := 10) (n1 := σ 0 13) (by decide) rfl rfl (by decide) (by omega)) gX9_back_X9_laysBack rfl ⟨rfl, rfl⟩ ⟨by decide, by decide⟩ hyVX9_laysBack (rfl) (by decide) (rfl) rfl (Nat.le_of_ble_eq_true rfl) dX9_back_19 ?_
    refine wp_aload_n hC dX9_back_22 rfl ?_
    refine wp_geti (k := 13) (z := 13) hC rfl (rfl) (by decide) (rfl) (rfl) (by decide) uX9_back_X9 fX9_back_42 (rfl) dX9_back_23 ?_
    refine wp_top (b := σ 0 13) rfl ?_
    refine wp_istore_n (lv2 := [(0, _), (1, _)]) hC dX9_back_26 rfl (by decide) ?_
    refine wp_st (σ2 := BKk σ (σ 0 13)) BKk_0 ?_
    exact L27 _ _ rfl c_4 (by omega)
  · refine wp_bipush hC dX9_back_7 rfl ?_
    exact hret _ _ _ _ (by omega) rfl (Or.inl ⟨c_4, rfl, rfl⟩) dX9_back_9

theorem hyVX9_supply : yX9_supply.cls = RX9 ∧ yX9_supply.cls ≠ "java/lang/invoke/MethodHandle" ∧ yX9_supply.cls ≠ "java/lang/invoke/VarHandle" ∧ (parseMethodDescriptor yX9_supply.desc).map (fun d => d.parameters.length) = some 3 := by decide +kernel
theorem uX9_supply_X9 : ∀ w ∈ u_ws RX9 TX9 35, w ∈ wsX9_supply := by decide +kernel
theorem fX9_supply_9 : Cond.fieldLink RX9 9 (TX9 0).1 (TX9 0).2.1 (TX9 0).2.2.1 ∈ wsX9_supply := by decide +kernel
theorem fX9_supply_36 : Cond.fieldLink RX9 36 (TX9 9).1 (TX9 9).2.1 (TX9 9).2.2.1 ∈ wsX9_supply := by decide +kernel
set_option maxHeartbeats 4000000 in
set_option maxRecDepth 100000 in
theorem c_X9_supply {l : Launch} {G : Gy} (hG : Inj G) (σ : St) {i q n1 : Int} (h : RO σ) (hd : 0 ≤ σ 0 11 ∧ σ 0 11 ≤ 12) (hi : iR i) (hq : iR q) (hn1 : iR n1) : MI l yX9_supply wsX9_supply ({ frames := 2, cells := 0, slots := 0, locals := 43 } : Room) G [.ref (G.2.2 0), .int (zI (i)), .int (zI (q)), .int (zI (n1))] σ (fun x σ2 => (¬ (((0 ≤ i ∧ i ≤ 2) ∧ (0 ≤ q ∧ q ≤ 11)) ∧ (0 ≤ n1 ∧ n1 ≤ 99)) ∧ x = -1 ∧ σ2 = σ) ∨ ((((0 ≤ i ∧ i ≤ 2) ∧ (0 ≤ q ∧ q ≤ 11)) ∧ (0 ≤ n1 ∧ n1 ≤ 99)) ∧ x = σ 1 (12 * i + q) ∧ ∃ τ, σ2 = SC (CG σ (up1 (σ 1) (12 * i + q) n1)) τ)) := by
  refine MI.of hG (by decide +kernel) rfl rfl (Nat.le_of_ble_eq_true rfl) rfl ?_
  intro p e s m args below meth c H0 Q hC hret
  have hmn := h.1
  refine wp_iload_n hC dX9_supply_0 rfl ?_
  refine wp_iload_n hC dX9_supply_1 rfl ?_
  refine wp_callSb (As := [_, _]) hC (c_X9_isSupply hG _ (by omega) (by omega)) gX9_supply_X9_isSupply rfl ⟨rfl, rfl⟩ ⟨by decide, by decide⟩ hySX9_isSupply rfl (Nat.le_of_ble_eq_true rfl) dX9_supply_2 (fun hx_2 => ?_)
  refine wp_ifb_eq (tgt := 18) hC dX9_supply_5 (by decide) (fun c_5 => ?_) (fun c_5 => ?_)
  · refine wp_iconst hC dX9_supply_18 ?_
    exact hret _ _ _ _ (by omega) rfl (Or.inl ⟨by omega, rfl, rfl⟩) dX9_supply_19
  · refine wp_iload_n hC dX9_supply_8 rfl ?_
    refine wp_iconst hC dX9_supply_9 ?_
    refine wp_bipush hC dX9_supply_10 rfl ?_
    refine wp_callSb (As := [_, _, _]) hC (c_X9_isIn hG _ (by omega) (by omega) (by omega)) gX9_supply_X9_isIn rfl ⟨rfl, rfl⟩ ⟨by decide, by decide⟩ hySX9_isIn rfl (Nat.le_of_ble_eq_true rfl) dX9_supply_12 (fun hx_12 => ?_)
    refine wp_ifb_ne (tgt := 20) hC dX9_supply_15 (by decide) (fun c_15 => ?_) (fun c_15 => ?_)
    · have hw := h.2.1.1 (12 * i + q) (by omega) (by omega)
      refine wp_aload_n hC dX9_supply_20 rfl ?_
      refine wp_callVu (As := []) hC (c_X9_begins hG _) gX9_supply_X9_begins rfl ⟨rfl, rfl⟩ ⟨by decide, by decide⟩ hyVX9_begins (rfl) (by decide) (rfl) rfl (Nat.le_of_ble_eq_true rfl) dX9_supply_21 ?_
      refine wp_aload_n hC dX9_supply_24 rfl ?_
      refine wp_geta (k := 0) hC (rfl) (by decide) (rfl) (rfl) (by decide) uX9_supply_X9 fX9_supply_9 (rfl) dX9_supply_25 ?_
      refine wp_iload_n hC dX9_supply_28 rfl ?_
      refine wp_iload_n hC dX9_supply_29 rfl ?_
      refine wp_callSe (As := [_, _]) hC (c_X9_at hG _ (by omega) (by omega)) gX9_supply_X9_at rfl ⟨rfl, rfl⟩ ⟨by decide, by decide⟩ hySX9_at rfl (Nat.le_of_ble_eq_true rfl) dX9_supply_30 (fun hx_30 => ?_)
      refine wp_iload_n hC dX9_supply_33 rfl ?_
      refine wp_iast (n := 88) hC (rfl) (Nat.le_of_ble_eq_true rfl) (rfl) (by decide) (by omega) dX9_supply_34 ?_
      refine wp_aload_n hC dX9_supply_35 rfl ?_
      refine wp_callVu (As := []) hC (c_X9_changed hG (put (cpy σ 1 9 88) 1 (12 * i + q) n1) hd (show iR (σ 0 5) by omega)) gX9_supply_X9_changed rfl ⟨rfl, rfl⟩ ⟨by decide, by decide⟩ hyVX9_changed (rfl) (by decide) (rfl) rfl (Nat.le_of_ble_eq_true rfl) dX9_supply_36 ?_
      refine wp_aload_n hC dX9_supply_39 rfl ?_
      refine wp_geta (k := 9) hC (rfl) (by decide) (rfl) (rfl) (by decide) uX9_supply_X9 fX9_supply_36 (rfl) dX9_supply_40 ?_
      refine wp_iload_n hC dX9_supply_43 rfl ?_
      refine wp_iload_n hC dX9_supply_44 rfl ?_
      refine wp_callSe (As := [_, _]) hC (c_X9_at hG _ (by omega) (by omega)) gX9_supply_X9_at rfl ⟨rfl, rfl⟩ ⟨by decide, by decide⟩ hySX9_at rfl (Nat.le_of_ble_eq_true rfl) dX9_supply_45 (fun hx_45 => ?_)
      refine wp_iald (n := 88) hC (rfl) (Nat.le_of_ble_eq_true rfl) (rfl) (by decide) (by omega) dX9_supply_48 ?_
      refine wp_top (b := σ 1 (12 * i + q)) (old9 hd (by omega) (by omega)) ?_
      exact hret _ _ _ _ (by omega) rfl (Or.inr ⟨⟨c_5, c_15⟩, rfl, _, NWC hd⟩) dX9_supply_49
    · refine wp_iconst hC dX9_supply_18 ?_
      exact hret _ _ _ _ (by omega) rfl (Or.inl ⟨by omega, rfl, rfl⟩) dX9_supply_19

theorem hyVX9_supplied : yX9_supplied.cls = RX9 ∧ yX9_supplied.cls ≠ "java/lang/invoke/MethodHandle" ∧ yX9_supplied.cls ≠ "java/lang/invoke/VarHandle" ∧ (parseMethodDescriptor yX9_supplied.desc).map (fun d => d.parameters.length) = some 2 := by decide +kernel
theorem uX9_supplied_X9 : ∀ w ∈ u_ws RX9 TX9 35, w ∈ wsX9_supplied := by decide +kernel
theorem fX9_supplied_9 : Cond.fieldLink RX9 9 (TX9 0).1 (TX9 0).2.1 (TX9 0).2.2.1 ∈ wsX9_supplied := by decide +kernel
set_option maxHeartbeats 4000000 in
set_option maxRecDepth 100000 in
theorem c_X9_supplied {l : Launch} {G : Gy} (hG : Inj G) (σ : St) {i q : Int} (h : RO σ) (hi : iR i) (hq : iR q) : MI l yX9_supplied wsX9_supplied ({ frames := 2, cells := 0, slots := 0, locals := 43 } : Room) G [.ref (G.2.2 0), .int (zI (i)), .int (zI (q))] σ (fun x σ2 => ((¬ ((0 ≤ i ∧ i ≤ 2) ∧ (0 ≤ q ∧ q ≤ 11)) ∧ x = -1) ∨ (((0 ≤ i ∧ i ≤ 2) ∧ (0 ≤ q ∧ q ≤ 11)) ∧ x = σ 1 (12 * i + q))) ∧ σ2 = σ) := by
  refine MI.of hG (by decide +kernel) rfl rfl (Nat.le_of_ble_eq_true rfl) rfl ?_
  intro p e s m args below meth c H0 Q hC hret
  refine wp_iload_n hC dX9_supplied_0 rfl ?_
  refine wp_iload_n hC dX9_supplied_1 rfl ?_
  refine wp_callSb (As := [_, _]) hC (c_X9_isSupply hG _ (by omega) (by omega)) gX9_supplied_X9_isSupply rfl ⟨rfl, rfl⟩ ⟨by decide, by decide⟩ hySX9_isSupply rfl (Nat.le_of_ble_eq_true rfl) dX9_supplied_2 (fun hx_2 => ?_)
  refine wp_ifb_eq (tgt := 21) hC dX9_supplied_5 (by decide) (fun c_5 => ?_) (fun c_5 => ?_)
  · refine wp_iconst hC dX9_supplied_21 ?_
    exact hret _ _ _ _ (by omega) rfl (⟨Or.inl ⟨c_5, rfl⟩, rfl⟩) dX9_supplied_22
  · refine wp_aload_n hC dX9_supplied_8 rfl ?_
    refine wp_geta (k := 0) hC (rfl) (by decide) (rfl) (rfl) (by decide) uX9_supplied_X9 fX9_supplied_9 (rfl) dX9_supplied_9 ?_
    refine wp_iload_n hC dX9_supplied_12 rfl ?_
    refine wp_iload_n hC dX9_supplied_13 rfl ?_
    refine wp_callSe (As := [_, _]) hC (c_X9_at hG _ (by omega) (by omega)) gX9_supplied_X9_at rfl ⟨rfl, rfl⟩ ⟨by decide, by decide⟩ hySX9_at rfl (Nat.le_of_ble_eq_true rfl) dX9_supplied_14 (fun hx_14 => ?_)
    refine wp_iald (n := 88) hC (rfl) (Nat.le_of_ble_eq_true rfl) (rfl) (by decide) (by omega) dX9_supplied_17 ?_
    refine wp_goto (tgt := 22) hC dX9_supplied_18 (by decide) ?_
    exact hret _ _ _ _ (by have := h.2.1.1 (12 * i + q) (by omega) (by omega); omega) rfl (⟨Or.inr ⟨c_5, rfl⟩, rfl⟩) dX9_supplied_22

theorem hyVX9_share : yX9_share.cls = RX9 ∧ yX9_share.cls ≠ "java/lang/invoke/MethodHandle" ∧ yX9_share.cls ≠ "java/lang/invoke/VarHandle" ∧ (parseMethodDescriptor yX9_share.desc).map (fun d => d.parameters.length) = some 2 := by decide +kernel
theorem uX9_share_X9 : ∀ w ∈ u_ws RX9 TX9 35, w ∈ wsX9_share := by decide +kernel
theorem fX9_share_9 : Cond.fieldLink RX9 9 (TX9 0).1 (TX9 0).2.1 (TX9 0).2.2.1 ∈ wsX9_share := by decide +kernel
theorem fX9_share_36 : Cond.fieldLink RX9 36 (TX9 9).1 (TX9 9).2.1 (TX9 9).2.2.1 ∈ wsX9_share := by decide +kernel
set_option maxHeartbeats 4000000 in
set_option maxRecDepth 100000 in
theorem c_X9_share {l : Launch} {G : Gy} (hG : Inj G) (σ : St) {g n1 : Int} (h : RO σ) (hd : 0 ≤ σ 0 11 ∧ σ 0 11 ≤ 12) (hg : iR g) (hn1 : iR n1) : MI l yX9_share wsX9_share ({ frames := 2, cells := 0, slots := 0, locals := 43 } : Room) G [.ref (G.2.2 0), .int (zI (g)), .int (zI (n1))] σ (fun x σ2 => (¬ ((0 ≤ g ∧ g ≤ 3) ∧ (0 ≤ n1 ∧ n1 ≤ 100)) ∧ x = -1 ∧ σ2 = σ) ∨ (((0 ≤ g ∧ g ≤ 3) ∧ (0 ≤ n1 ∧ n1 ≤ 100)) ∧ x = σ 1 (36 + g) ∧ ∃ τ, σ2 = SC (CG σ (up1 (σ 1) (36 + g) n1)) τ)) := by
  refine MI.of hG (by decide +kernel) rfl rfl (Nat.le_of_ble_eq_true rfl) rfl ?_
  intro p e s m args below meth c H0 Q hC hret
  have hmn := h.1
  refine wp_iload_n hC dX9_share_0 rfl ?_
  refine wp_iconst hC dX9_share_1 ?_
  refine wp_iconst hC dX9_share_2 ?_
  refine wp_callSb (As := [_, _, _]) hC (c_X9_isIn hG _ (by omega) (by omega) (by omega)) gX9_share_X9_isIn rfl ⟨rfl, rfl⟩ ⟨by decide, by decide⟩ hySX9_isIn rfl (Nat.le_of_ble_eq_true rfl) dX9_share_3 (fun hx_3 => ?_)
  refine wp_ifb_eq (tgt := 19) hC dX9_share_6 (by decide) (fun c_6 => ?_) (fun c_6 => ?_)
  · refine wp_iconst hC dX9_share_19 ?_
    exact hret _ _ _ _ (by omega) rfl (Or.inl ⟨by omega, rfl, rfl⟩) dX9_share_20
  · refine wp_iload_n hC dX9_share_9 rfl ?_
    refine wp_iconst hC dX9_share_10 ?_
    refine wp_bipush hC dX9_share_11 rfl ?_
    refine wp_callSb (As := [_, _, _]) hC (c_X9_isIn hG _ (by omega) (by omega) (by omega)) gX9_share_X9_isIn rfl ⟨rfl, rfl⟩ ⟨by decide, by decide⟩ hySX9_isIn rfl (Nat.le_of_ble_eq_true rfl) dX9_share_13 (fun hx_13 => ?_)
    refine wp_ifb_ne (tgt := 21) hC dX9_share_16 (by decide) (fun c_16 => ?_) (fun c_16 => ?_)
    · have hw := h.2.1.2.1 (36 + g) (by omega) (by omega)
      refine wp_aload_n hC dX9_share_21 rfl ?_
      refine wp_callVu (As := []) hC (c_X9_begins hG _) gX9_share_X9_begins rfl ⟨rfl, rfl⟩ ⟨by decide, by decide⟩ hyVX9_begins (rfl) (by decide) (rfl) rfl (Nat.le_of_ble_eq_true rfl) dX9_share_22 ?_
      refine wp_aload_n hC dX9_share_25 rfl ?_
      refine wp_geta (k := 0) hC (rfl) (by decide) (rfl) (rfl) (by decide) uX9_share_X9 fX9_share_9 (rfl) dX9_share_26 ?_
      refine wp_bipush hC dX9_share_29 rfl ?_
      refine wp_iload_n hC dX9_share_31 rfl ?_
      refine wp_iadd hC dX9_share_32 ?_
      refine wp_iload_n hC dX9_share_33 rfl ?_
      refine wp_iast (n := 88) hC (rfl) (Nat.le_of_ble_eq_true rfl) (rfl) (by decide) (by omega) dX9_share_34 ?_
      refine wp_aload_n hC dX9_share_35 rfl ?_
      refine wp_callVu (As := []) hC (c_X9_changed hG (put (cpy σ 1 9 88) 1 (36 + g) n1) hd (show iR (σ 0 5) by omega)) gX9_share_X9_changed rfl ⟨rfl, rfl⟩ ⟨by decide, by decide⟩ hyVX9_changed (rfl) (by decide) (rfl) rfl (Nat.le_of_ble_eq_true rfl) dX9_share_36 ?_
      refine wp_aload_n hC dX9_share_39 rfl ?_
      refine wp_geta (k := 9) hC (rfl) (by decide) (rfl) (rfl) (by decide) uX9_share_X9 fX9_share_36 (rfl) dX9_share_40 ?_
      refine wp_bipush hC dX9_share_43 rfl ?_
      refine wp_iload_n hC dX9_share_45 rfl ?_
      refine wp_iadd hC dX9_share_46 ?_
      refine wp_iald (n := 88) hC (rfl) (Nat.le_of_ble_eq_true rfl) (rfl) (by decide) (by omega) dX9_share_47 ?_
      refine wp_top (b := σ 1 (36 + g)) (old9 hd (by omega) (by omega)) ?_
      exact hret _ _ _ _ (by omega) rfl (Or.inr ⟨⟨c_6, c_16⟩, rfl, _, NWC hd⟩) dX9_share_48
    · refine wp_iconst hC dX9_share_19 ?_
      exact hret _ _ _ _ (by omega) rfl (Or.inl ⟨by omega, rfl, rfl⟩) dX9_share_20

theorem hyVX9_group : yX9_group.cls = RX9 ∧ yX9_group.cls ≠ "java/lang/invoke/MethodHandle" ∧ yX9_group.cls ≠ "java/lang/invoke/VarHandle" ∧ (parseMethodDescriptor yX9_group.desc).map (fun d => d.parameters.length) = some 2 := by decide +kernel
theorem uX9_group_X9 : ∀ w ∈ u_ws RX9 TX9 35, w ∈ wsX9_group := by decide +kernel
theorem fX9_group_9 : Cond.fieldLink RX9 9 (TX9 0).1 (TX9 0).2.1 (TX9 0).2.2.1 ∈ wsX9_group := by decide +kernel
set_option maxHeartbeats 4000000 in
set_option maxRecDepth 100000 in
theorem c_X9_group {l : Launch} {G : Gy} (hG : Inj G) (σ : St) {g wh : Int} (h : RO σ) (hg : iR g) (hwh : iR wh) : MI l yX9_group wsX9_group ({ frames := 2, cells := 0, slots := 0, locals := 45 } : Room) G [.ref (G.2.2 0), .int (zI (g)), .int (zI (wh))] σ (fun x σ2 => σ2 = σ ∧ ((¬ ((0 ≤ g ∧ g ≤ 3) ∧ (0 ≤ wh ∧ wh ≤ 2)) ∧ x = -1) ∨ (((0 ≤ g ∧ g ≤ 3) ∧ wh = 0) ∧ x = σ 1 (36 + g)) ∨ (((0 ≤ g ∧ g ≤ 3) ∧ wh = 1) ∧ x = σ 1 (36 + g) * sm (σ 1) 36 / 100) ∨ (((0 ≤ g ∧ g ≤ 3) ∧ wh = 2) ∧ x = amS (σ 0 5) (σ 2) (σ 4) (tb (TH σ 1)) g))) := by
  refine MI.of hG (by decide +kernel) rfl rfl (Nat.le_of_ble_eq_true rfl) rfl ?_
  intro p e s m args below meth c H0 Q hC hret
  have hn := h.1
  refine wp_iload_n hC dX9_group_0 rfl ?_
  refine wp_iconst hC dX9_group_1 ?_
  refine wp_iconst hC dX9_group_2 ?_
  refine wp_callSb (As := [_, _, _]) hC (c_X9_isIn hG _ (by omega) (by omega) (by omega)) gX9_group_X9_isIn rfl ⟨rfl, rfl⟩ ⟨by decide, by decide⟩ hySX9_isIn rfl (Nat.le_of_ble_eq_true rfl) dX9_group_3 (fun hx_3 => ?_)
  refine wp_ifb_eq (tgt := 18) hC dX9_group_6 (by decide) (fun c_6 => ?_) (fun c_6 => ?_)
  · refine wp_iconst hC dX9_group_18 ?_
    exact hret _ _ _ _ (by omega) rfl (⟨rfl, Or.inl ⟨by omega, rfl⟩⟩) dX9_group_19
  · refine wp_iload_n hC dX9_group_9 rfl ?_
    refine wp_iconst hC dX9_group_10 ?_
    refine wp_iconst hC dX9_group_11 ?_
    refine wp_callSb (As := [_, _, _]) hC (c_X9_isIn hG _ (by omega) (by omega) (by omega)) gX9_group_X9_isIn rfl ⟨rfl, rfl⟩ ⟨by decide, by decide⟩ hySX9_isIn rfl (Nat.le_of_ble_eq_true rfl) dX9_group_12 (fun hx_12 => ?_)
    refine wp_ifb_ne (tgt := 20) hC dX9_group_15 (by decide) (fun c_15 => ?_) (fun c_15 => ?_)
    · refine wp_iload_n hC dX9_group_20 rfl ?_
      refine wp_if_ne (tgt := 36) hC dX9_group_21 (by decide) (by omega) (fun c_21 => ?_) (fun c_21 => ?_)
      · refine wp_iload_n hC dX9_group_36 rfl ?_
        refine wp_iconst hC dX9_group_37 ?_
        refine wp_icmp_ne (tgt := 49) hC dX9_group_38 (by decide) (by omega) (by omega) (fun c_38 => ?_) (fun c_38 => ?_)
        · refine wp_aload_n hC dX9_group_49 rfl ?_
          refine wp_aload_n hC dX9_group_50 rfl ?_
          refine wp_iconst hC dX9_group_51 ?_
          refine wp_callVe (As := [_]) hC (c_X9_those hG _ (by omega) (kI h) h.1) gX9_group_X9_those rfl ⟨rfl, rfl⟩ ⟨by decide, by decide⟩ hyVX9_those (rfl) (by decide) (rfl) rfl (Nat.le_of_ble_eq_true rfl) dX9_group_52 (fun hx_52 => ?_)
          refine wp_iload_n hC dX9_group_55 rfl ?_
          refine wp_callVe (As := [_, _]) hC (c_X9_amountsOf hG _ (bsI h.1) (by omega) h.1 h.2.2.1 h.2.2.2.2.1) gX9_group_X9_amountsOf rfl ⟨rfl, rfl⟩ ⟨by decide, by decide⟩ hyVX9_amountsOf (rfl) (by decide) (rfl) rfl (Nat.le_of_ble_eq_true rfl) dX9_group_56 (fun hx_56 => ?_)
          exact hret _ _ _ _ (hx_56) rfl (⟨rfl, Or.inr (Or.inr (Or.inr ⟨by omega, rfl⟩))⟩) dX9_group_59
        · refine wp_aload_n hC dX9_group_41 rfl ?_
          refine wp_iload_n hC dX9_group_42 rfl ?_
          refine wp_callVe (As := [_]) hC (c_X9_shareOf hG _ (by omega) h.2.1) gX9_group_X9_shareOf rfl ⟨rfl, rfl⟩ ⟨by decide, by decide⟩ hyVX9_shareOf (rfl) (by decide) (rfl) rfl (Nat.le_of_ble_eq_true rfl) dX9_group_43 (fun hx_43 => ?_)
          refine wp_goto (tgt := 59) hC dX9_group_46 (by decide) ?_
          exact hret _ _ _ _ (hx_43) rfl (⟨rfl, Or.inr (Or.inr (Or.inl ⟨by omega, rfl⟩))⟩) dX9_group_59
      · refine wp_aload_n hC dX9_group_24 rfl ?_
        refine wp_geta (k := 0) hC (rfl) (by decide) (rfl) (rfl) (by decide) uX9_group_X9 fX9_group_9 (rfl) dX9_group_25 ?_
        refine wp_bipush hC dX9_group_28 rfl ?_
        refine wp_iload_n hC dX9_group_30 rfl ?_
        refine wp_iadd hC dX9_group_31 ?_
        refine wp_iald (n := 88) hC (rfl) (Nat.le_of_ble_eq_true rfl) (rfl) (by decide) (by omega) dX9_group_32 ?_
        refine wp_goto (tgt := 59) hC dX9_group_33 (by decide) ?_
        exact hret _ _ _ _ (by have := h.2.1.2.1 (36 + g) (by omega) (by omega); omega) rfl (⟨rfl, Or.inr (Or.inl ⟨by omega, rfl⟩)⟩) dX9_group_59
    · refine wp_iconst hC dX9_group_18 ?_
      exact hret _ _ _ _ (by omega) rfl (⟨rfl, Or.inl ⟨by omega, rfl⟩⟩) dX9_group_19

theorem hyVX9_becomes : yX9_becomes.cls = RX9 ∧ yX9_becomes.cls ≠ "java/lang/invoke/MethodHandle" ∧ yX9_becomes.cls ≠ "java/lang/invoke/VarHandle" ∧ (parseMethodDescriptor yX9_becomes.desc).map (fun d => d.parameters.length) = some 2 := by decide +kernel
theorem uX9_becomes_X9 : ∀ w ∈ u_ws RX9 TX9 35, w ∈ wsX9_becomes := by decide +kernel
theorem fX9_becomes_9 : Cond.fieldLink RX9 9 (TX9 0).1 (TX9 0).2.1 (TX9 0).2.2.1 ∈ wsX9_becomes := by decide +kernel
set_option maxHeartbeats 4000000 in
set_option maxRecDepth 100000 in
theorem c_X9_becomes {l : Launch} {G : Gy} (hG : Inj G) (σ : St) {o v : Int} (h : RO σ) (hd : 0 ≤ σ 0 11 ∧ σ 0 11 ≤ 12) (ho : 0 ≤ o ∧ o < 24) (hv : 0 ≤ v ∧ v ≤ 2) : MI l yX9_becomes wsX9_becomes ({ frames := 2, cells := 0, slots := 0, locals := 45 } : Room) G [.ref (G.2.2 0), .int (zI (o)), .int (zI (v))] σ (fun x σ2 => x = pc (bsum (fun q => decide (up1 (σ 1) (40 + o) v (40 + q) = 1)) (σ 0 5)) ∧ ∃ τ, σ2 = SC (CG σ (up1 (σ 1) (40 + o) v)) τ) := by
  refine MI.of hG (by decide +kernel) rfl rfl (Nat.le_of_ble_eq_true rfl) rfl ?_
  intro p e s m args below meth c H0 Q hC hret
  have hn := h.1
  refine wp_aload_n hC dX9_becomes_0 rfl ?_
  refine wp_callVu (As := []) hC (c_X9_begins hG _) gX9_becomes_X9_begins rfl ⟨rfl, rfl⟩ ⟨by decide, by decide⟩ hyVX9_begins (rfl) (by decide) (rfl) rfl (Nat.le_of_ble_eq_true rfl) dX9_becomes_1 ?_
  refine wp_aload_n hC dX9_becomes_4 rfl ?_
  refine wp_geta (k := 0) hC (rfl) (by decide) (rfl) (rfl) (by decide) uX9_becomes_X9 fX9_becomes_9 (rfl) dX9_becomes_5 ?_
  refine wp_bipush hC dX9_becomes_8 rfl ?_
  refine wp_iload_n hC dX9_becomes_10 rfl ?_
  refine wp_iadd hC dX9_becomes_11 ?_
  refine wp_iload_n hC dX9_becomes_12 rfl ?_
  refine wp_iast (n := 88) hC (rfl) (Nat.le_of_ble_eq_true rfl) (rfl) (by decide) (by omega) dX9_becomes_13 ?_
  refine wp_aload_n hC dX9_becomes_14 rfl ?_
  refine wp_callVu (As := []) hC (c_X9_changed hG (put (cpy σ 1 9 88) 1 (40 + o) v) hd (show iR (σ 0 5) by omega)) gX9_becomes_X9_changed rfl ⟨rfl, rfl⟩ ⟨by decide, by decide⟩ hyVX9_changed (rfl) (by decide) (rfl) rfl (Nat.le_of_ble_eq_true rfl) dX9_becomes_15 ?_
  refine wp_st (NWC hd) ?_
  generalize CHG (put (cpy σ 1 9 88) 1 (40 + o) v) = τ0
  refine wp_aload_n hC dX9_becomes_18 rfl ?_
  refine wp_iconst hC dX9_becomes_19 ?_
  refine wp_callVe (As := [_]) hC (c_X9_those hG (SC (CG σ (up1 (σ 1) (40 + o) v)) τ0) (by omega) (fun q a b => by
      show iR (CG σ (up1 (σ 1) (40 + o) v) 1 (40 + q))
      rw [CG_1]
      unfold up1
      have := kI h q a b
      split <;> omega) (by show 0 ≤ CG σ (up1 (σ 1) (40 + o) v) 0 5 ∧ CG σ (up1 (σ 1) (40 + o) v) 0 5 ≤ 24; rw [CG_o (by omega) hd]; exact hn)) gX9_becomes_X9_those rfl ⟨rfl, rfl⟩ ⟨by decide, by decide⟩ hyVX9_those (rfl) (by decide) (rfl) rfl (Nat.le_of_ble_eq_true rfl) dX9_becomes_20 (fun hx_20 => ?_)
  refine wp_top (b := bsum (fun q => decide (up1 (σ 1) (40 + o) v (40 + q) = 1)) (σ 0 5)) (THC hd) ?_
  refine wp_callSe (As := [_]) hC (c_X9_size hG _ (bsI hn)) gX9_becomes_X9_size rfl ⟨rfl, rfl⟩ ⟨by decide, by decide⟩ hySX9_size rfl (Nat.le_of_ble_eq_true rfl) dX9_becomes_23 (fun hx_23 => ?_)
  exact hret _ _ _ _ (by have := pc_rng (bsum (fun q => decide (up1 (σ 1) (40 + o) v (40 + q) = 1)) (σ 0 5)); omega) rfl (⟨rfl, _, rfl⟩) dX9_becomes_26

theorem hyVX9_promise : yX9_promise.cls = RX9 ∧ yX9_promise.cls ≠ "java/lang/invoke/MethodHandle" ∧ yX9_promise.cls ≠ "java/lang/invoke/VarHandle" ∧ (parseMethodDescriptor yX9_promise.desc).map (fun d => d.parameters.length) = some 1 := by decide +kernel
set_option maxHeartbeats 4000000 in
set_option maxRecDepth 100000 in
theorem c_X9_promise {l : Launch} {G : Gy} (hG : Inj G) (σ : St) {o : Int} (h : RO σ) (hd : 0 ≤ σ 0 11 ∧ σ 0 11 ≤ 12) (ho : iR o) : MI l yX9_promise wsX9_promise ({ frames := 6, cells := 0, slots := 0, locals := 136 } : Room) G [.ref (G.2.2 0), .int (zI (o))] σ (fun x σ2 => (¬ (0 ≤ o ∧ o < σ 0 5) ∧ x = -1 ∧ σ2 = σ) ∨ ((0 ≤ o ∧ o < σ 0 5) ∧ σ 1 (40 + o) ≠ 0 ∧ x = -5 ∧ σ2 = σ) ∨ ((0 ≤ o ∧ o < σ 0 5) ∧ σ 1 (40 + o) = 0 ∧ ¬ CAN σ o (ior (TH σ 1) (pw o)) ∧ x = -2 ∧ ∃ τ, σ2 = SC σ τ) ∨ ((0 ≤ o ∧ o < σ 0 5) ∧ σ 1 (40 + o) = 0 ∧ CAN σ o (ior (TH σ 1) (pw o)) ∧ x = pc (bsum (fun q => decide (up1 (σ 1) (40 + o) 1 (40 + q) = 1)) (σ 0 5)) ∧ ∃ τ, σ2 = SC (CG σ (up1 (σ 1) (40 + o) 1)) τ)) := by
  refine MI.of hG (by decide +kernel) rfl rfl (Nat.le_of_ble_eq_true rfl) rfl ?_
  intro p e s m args below meth c H0 Q hC hret
  have hn := h.1
  refine wp_aload_n hC dX9_promise_0 rfl ?_
  refine wp_iload_n hC dX9_promise_1 rfl ?_
  refine wp_callVb (As := [_]) hC (c_X9_isOrder hG _ (by omega) h.1) gX9_promise_X9_isOrder rfl ⟨rfl, rfl⟩ ⟨by decide, by decide⟩ hyVX9_isOrder (rfl) (by decide) (rfl) rfl (Nat.le_of_ble_eq_true rfl) dX9_promise_2 (fun hx_2 => ?_)
  refine wp_ifb_ne (tgt := 10) hC dX9_promise_5 (by decide) (fun c_5 => ?_) (fun c_5 => ?_)
  · refine wp_aload_n hC dX9_promise_10 rfl ?_
    refine wp_iload_n hC dX9_promise_11 rfl ?_
    refine wp_iconst hC dX9_promise_12 ?_
    refine wp_callVb (As := [_, _]) hC (c_X9_isWhat hG _ (by omega) (by omega) (by have := h.2.1.2.2.1 (40 + o) (by omega) (by omega); omega)) gX9_promise_X9_isWhat rfl ⟨rfl, rfl⟩ ⟨by decide, by decide⟩ hyVX9_isWhat (rfl) (by decide) (rfl) rfl (Nat.le_of_ble_eq_true rfl) dX9_promise_13 (fun hx_13 => ?_)
    refine wp_ifb_ne (tgt := 22) hC dX9_promise_16 (by decide) (fun c_16 => ?_) (fun c_16 => ?_)
    · refine wp_aload_n hC dX9_promise_22 rfl ?_
      refine wp_iload_n hC dX9_promise_23 rfl ?_
      refine wp_aload_n hC dX9_promise_24 rfl ?_
      refine wp_iconst hC dX9_promise_25 ?_
      refine wp_callVe (As := [_]) hC (c_X9_those hG _ (by omega) (kI h) h.1) gX9_promise_X9_those rfl ⟨rfl, rfl⟩ ⟨by decide, by decide⟩ hyVX9_those (rfl) (by decide) (rfl) rfl (Nat.le_of_ble_eq_true rfl) dX9_promise_26 (fun hx_26 => ?_)
      refine wp_top (b := TH σ 1) rfl ?_
      refine wp_callVi (As := [_, _]) hC (c_X9_canBe hG _ h (by omega) (bsI h.1)) gX9_promise_X9_canBe rfl ⟨rfl, rfl⟩ ⟨by decide, by decide⟩ hyVX9_canBe (rfl) (by decide) (rfl) rfl (Nat.le_of_ble_eq_true rfl) dX9_promise_29 (fun x_29 s_29 hx_29 hp_29 => ?_)
      obtain ⟨hb_29, τ1, rfl⟩ := hp_29
      refine wp_if_eq (tgt := 44) hC dX9_promise_32 (by decide) (bP_iR hb_29) (fun c_32 => ?_) (fun c_32 => ?_)
      · refine wp_bipush hC dX9_promise_44 rfl ?_
        exact hret _ _ _ _ (by omega) rfl (Or.inr (Or.inr (Or.inl ⟨c_5, c_16, bP_0 hb_29 c_32, rfl, _, S1_SC σ τ1⟩))) dX9_promise_46
      · refine wp_aload_n hC dX9_promise_35 rfl ?_
        refine wp_iload_n hC dX9_promise_36 rfl ?_
        refine wp_iconst hC dX9_promise_37 ?_
        refine wp_callVi (As := [_, _]) hC (c_X9_becomes hG (S1 σ τ1) h hd (by omega) (by omega)) gX9_promise_X9_becomes rfl ⟨rfl, rfl⟩ ⟨by decide, by decide⟩ hyVX9_becomes (rfl) (by decide) (rfl) rfl (Nat.le_of_ble_eq_true rfl) dX9_promise_38 (fun x_38 s_38 hx_38 hp_38 => ?_)
        obtain ⟨hx2, τ2, rfl⟩ := hp_38
        refine wp_goto (tgt := 46) hC dX9_promise_41 (by decide) ?_
        exact hret _ _ _ _ (hx_38) rfl (Or.inr (Or.inr (Or.inr ⟨c_5, c_16, bP_1 hb_29 c_32, hx2, τ2, by rw [S1_SC]; exact CG_SC⟩))) dX9_promise_46
    · refine wp_bipush hC dX9_promise_19 rfl ?_
      exact hret _ _ _ _ (by omega) rfl (Or.inr (Or.inl ⟨c_5, c_16, rfl, rfl⟩)) dX9_promise_21
  · refine wp_iconst hC dX9_promise_8 ?_
    exact hret _ _ _ _ (by omega) rfl (Or.inl ⟨c_5, rfl, rfl⟩) dX9_promise_9

theorem hyVX9_giveUp : yX9_giveUp.cls = RX9 ∧ yX9_giveUp.cls ≠ "java/lang/invoke/MethodHandle" ∧ yX9_giveUp.cls ≠ "java/lang/invoke/VarHandle" ∧ (parseMethodDescriptor yX9_giveUp.desc).map (fun d => d.parameters.length) = some 1 := by decide +kernel
set_option maxHeartbeats 4000000 in
set_option maxRecDepth 100000 in
theorem c_X9_giveUp {l : Launch} {G : Gy} (hG : Inj G) (σ : St) {o : Int} (h : RO σ) (hd : 0 ≤ σ 0 11 ∧ σ 0 11 ≤ 12) (ho : iR o) : MI l yX9_giveUp wsX9_giveUp ({ frames := 3, cells := 0, slots := 0, locals := 67 } : Room) G [.ref (G.2.2 0), .int (zI (o))] σ (fun x σ2 => (¬ (0 ≤ o ∧ o < σ 0 5) ∧ x = -1 ∧ σ2 = σ) ∨ ((0 ≤ o ∧ o < σ 0 5) ∧ σ 1 (40 + o) ≠ 1 ∧ x = -5 ∧ σ2 = σ) ∨ ((0 ≤ o ∧ o < σ 0 5) ∧ σ 1 (40 + o) = 1 ∧ x = pc (bsum (fun q => decide (up1 (σ 1) (40 + o) 0 (40 + q) = 1)) (σ 0 5)) ∧ ∃ τ, σ2 = SC (CG σ (up1 (σ 1) (40 + o) 0)) τ)) := by
  refine MI.of hG (by decide +kernel) rfl rfl (Nat.le_of_ble_eq_true rfl) rfl ?_
  intro p e s m args below meth c H0 Q hC hret
  have hn := h.1
  refine wp_aload_n hC dX9_giveUp_0 rfl ?_
  refine wp_iload_n hC dX9_giveUp_1 rfl ?_
  refine wp_callVb (As := [_]) hC (c_X9_isOrder hG _ (by omega) h.1) gX9_giveUp_X9_isOrder rfl ⟨rfl, rfl⟩ ⟨by decide, by decide⟩ hyVX9_isOrder (rfl) (by decide) (rfl) rfl (Nat.le_of_ble_eq_true rfl) dX9_giveUp_2 (fun hx_2 => ?_)
  refine wp_ifb_ne (tgt := 10) hC dX9_giveUp_5 (by decide) (fun c_5 => ?_) (fun c_5 => ?_)
  · refine wp_aload_n hC dX9_giveUp_10 rfl ?_
    refine wp_iload_n hC dX9_giveUp_11 rfl ?_
    refine wp_iconst hC dX9_giveUp_12 ?_
    refine wp_callVb (As := [_, _]) hC (c_X9_isWhat hG _ (by omega) (by omega) (by have := h.2.1.2.2.1 (40 + o) (by omega) (by omega); omega)) gX9_giveUp_X9_isWhat rfl ⟨rfl, rfl⟩ ⟨by decide, by decide⟩ hyVX9_isWhat (rfl) (by decide) (rfl) rfl (Nat.le_of_ble_eq_true rfl) dX9_giveUp_13 (fun hx_13 => ?_)
    refine wp_ifb_eq (tgt := 28) hC dX9_giveUp_16 (by decide) (fun c_16 => ?_) (fun c_16 => ?_)
    · refine wp_bipush hC dX9_giveUp_28 rfl ?_
      exact hret _ _ _ _ (by omega) rfl (Or.inr (Or.inl ⟨c_5, c_16, rfl, rfl⟩)) dX9_giveUp_30
    · refine wp_aload_n hC dX9_giveUp_19 rfl ?_
      refine wp_iload_n hC dX9_giveUp_20 rfl ?_
      refine wp_iconst hC dX9_giveUp_21 ?_
      refine wp_callVi (As := [_, _]) hC (c_X9_becomes hG _ h hd (by omega) (by omega)) gX9_giveUp_X9_becomes rfl ⟨rfl, rfl⟩ ⟨by decide, by decide⟩ hyVX9_becomes (rfl) (by decide) (rfl) rfl (Nat.le_of_ble_eq_true rfl) dX9_giveUp_22 (fun x_22 s_22 hx_22 hp_22 => ?_)
      refine wp_goto (tgt := 30) hC dX9_giveUp_25 (by decide) ?_
      exact hret _ _ _ _ (hx_22) rfl (Or.inr (Or.inr ⟨c_5, c_16, hp_22.1, hp_22.2⟩)) dX9_giveUp_30
  · refine wp_iconst hC dX9_giveUp_8 ?_
    exact hret _ _ _ _ (by omega) rfl (Or.inl ⟨c_5, rfl, rfl⟩) dX9_giveUp_9

theorem hyVX9_gone : yX9_gone.cls = RX9 ∧ yX9_gone.cls ≠ "java/lang/invoke/MethodHandle" ∧ yX9_gone.cls ≠ "java/lang/invoke/VarHandle" ∧ (parseMethodDescriptor yX9_gone.desc).map (fun d => d.parameters.length) = some 1 := by decide +kernel
set_option maxHeartbeats 4000000 in
set_option maxRecDepth 100000 in
theorem c_X9_gone {l : Launch} {G : Gy} (hG : Inj G) (σ : St) {o : Int} (h : RO σ) (hd : 0 ≤ σ 0 11 ∧ σ 0 11 ≤ 12) (ho : iR o) : MI l yX9_gone wsX9_gone ({ frames := 3, cells := 0, slots := 0, locals := 67 } : Room) G [.ref (G.2.2 0), .int (zI (o))] σ (fun x σ2 => (¬ (0 ≤ o ∧ o < σ 0 5) ∧ x = -1 ∧ σ2 = σ) ∨ ((0 ≤ o ∧ o < σ 0 5) ∧ σ 1 (40 + o) = 2 ∧ x = -5 ∧ σ2 = σ) ∨ ((0 ≤ o ∧ o < σ 0 5) ∧ σ 1 (40 + o) ≠ 2 ∧ x = pc (bsum (fun q => decide (up1 (σ 1) (40 + o) 2 (40 + q) = 1)) (σ 0 5)) ∧ ∃ τ, σ2 = SC (CG σ (up1 (σ 1) (40 + o) 2)) τ)) := by
  refine MI.of hG (by decide +kernel) rfl rfl (Nat.le_of_ble_eq_true rfl) rfl ?_
  intro p e s m args below meth c H0 Q hC hret
  have hn := h.1
  refine wp_aload_n hC dX9_gone_0 rfl ?_
  refine wp_iload_n hC dX9_gone_1 rfl ?_
  refine wp_callVb (As := [_]) hC (c_X9_isOrder hG _ (by omega) h.1) gX9_gone_X9_isOrder rfl ⟨rfl, rfl⟩ ⟨by decide, by decide⟩ hyVX9_isOrder (rfl) (by decide) (rfl) rfl (Nat.le_of_ble_eq_true rfl) dX9_gone_2 (fun hx_2 => ?_)
  refine wp_ifb_ne (tgt := 10) hC dX9_gone_5 (by decide) (fun c_5 => ?_) (fun c_5 => ?_)
  · refine wp_aload_n hC dX9_gone_10 rfl ?_
    refine wp_iload_n hC dX9_gone_11 rfl ?_
    refine wp_iconst hC dX9_gone_12 ?_
    refine wp_callVb (As := [_, _]) hC (c_X9_isWhat hG _ (by omega) (by omega) (by have := h.2.1.2.2.1 (40 + o) (by omega) (by omega); omega)) gX9_gone_X9_isWhat rfl ⟨rfl, rfl⟩ ⟨by decide, by decide⟩ hyVX9_isWhat (rfl) (by decide) (rfl) rfl (Nat.le_of_ble_eq_true rfl) dX9_gone_13 (fun hx_13 => ?_)
    refine wp_ifb_eq (tgt := 24) hC dX9_gone_16 (by decide) (fun c_16 => ?_) (fun c_16 => ?_)
    · refine wp_aload_n hC dX9_gone_24 rfl ?_
      refine wp_iload_n hC dX9_gone_25 rfl ?_
      refine wp_iconst hC dX9_gone_26 ?_
      refine wp_callVi (As := [_, _]) hC (c_X9_becomes hG _ h hd (by omega) (by omega)) gX9_gone_X9_becomes rfl ⟨rfl, rfl⟩ ⟨by decide, by decide⟩ hyVX9_becomes (rfl) (by decide) (rfl) rfl (Nat.le_of_ble_eq_true rfl) dX9_gone_27 (fun x_27 s_27 hx_27 hp_27 => ?_)
      exact hret _ _ _ _ (hx_27) rfl (Or.inr (Or.inr ⟨c_5, c_16, hp_27.1, hp_27.2⟩)) dX9_gone_30
    · refine wp_bipush hC dX9_gone_19 rfl ?_
      refine wp_goto (tgt := 30) hC dX9_gone_21 (by decide) ?_
      exact hret _ _ _ _ (by omega) rfl (Or.inr (Or.inl ⟨c_5, c_16, rfl, rfl⟩)) dX9_gone_30
  · refine wp_iconst hC dX9_gone_8 ?_
    exact hret _ _ _ _ (by omega) rfl (Or.inl ⟨c_5, rfl, rfl⟩) dX9_gone_9
