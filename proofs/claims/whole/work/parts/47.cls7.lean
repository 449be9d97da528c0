def MEX (σ : St) (P : Int → Bool) : Prop := ∀ k, 0 ≤ k → k < 2197 → 0 ≤ LX σ P k
theorem XO_LY {σ : St} (h : XO σ) (B : Int) : XO (LY σ B) := h
theorem LY_rng {σ : St} (h : XO σ) (B : Int) {k : Int} (h0 : 0 ≤ k) (h1 : k < 2197) : -1440 ≤ LY σ B 92 k ∧ LY σ B 92 k ≤ 3564 := LAID_rng (σ := LY σ B) h LY_LAID h0 h1
theorem fst_MEX {σ : St} {B j : Int} (hf : fst (LY σ B 92) 2197 j) : 0 ≤ LY σ B 92 j ↔ MEX σ (tb B) := by
  have e : ∀ k, 0 ≤ k → k < 2197 → LY σ B 92 k = LX σ (tb B) k := fun k a b => RW_at ⟨a, b⟩
  constructor
  · intro z k a b
    rw [← e k a b]
    have := hf.2.2.1 k a b
    omega
  · intro z
    rw [e j hf.1 hf.2.1]
    exact z j hf.1 hf.2.1
/-- room at all steps that would count an order with such a latest -/
def FIT (σ : St) (o p : Int) : Prop := ∀ j, 0 ≤ j → j < 2197 → gef (FI (σ 85 o) p 0) (FI (σ 85 o) p 1) (FI (σ 85 o) p 2) j → σ 84 o ≤ σ 92 j
theorem LEA_FIT {σ : St} {o p x : Int} (h : LEA σ (σ 85 o) p x) : σ 84 o ≤ x ↔ FIT σ o p := by
  obtain ⟨h1, j, a, b, g, e⟩ := h
  constructor
  · intro z k c d f
    have := h1 k c d f
    omega
  · intro z
    have := z j a b g
    omega
def ROOM (σ : St) (g : Int) (P : Int → Bool) : Int := σ 110 g * sm (σ 109) 36 / 100 - amS (σ 83 5) (σ 84) (σ 87) P g
theorem LEA_iR {σ : St} {it la x : Int} (h : LEA σ it la x) (hx : ∀ k, 0 ≤ k → k < 2197 → -1440 ≤ σ 92 k ∧ σ 92 k ≤ 3564) : -1440 ≤ x ∧ x ≤ 3564 := by
  obtain ⟨_, j, a, b, _, e⟩ := h
  rw [← e]
  exact hx j a b

theorem hyVX8_areMet : yX8_areMet.cls = RX8 ∧ yX8_areMet.cls ≠ "java/lang/invoke/MethodHandle" ∧ yX8_areMet.cls ≠ "java/lang/invoke/VarHandle" ∧ (parseMethodDescriptor yX8_areMet.desc).map (fun d => d.parameters.length) = some 1 := by decide +kernel
theorem uX8_areMet_X8 : ∀ w ∈ u_ws RX8 TX8 13, w ∈ wsX8_areMet := by decide +kernel
theorem fX8_areMet_43 : Cond.fieldLink RX8 43 (TX8 5).1 (TX8 5).2.1 (TX8 5).2.2.1 ∈ wsX8_areMet := by decide +kernel
theorem fX8_areMet_12 : Cond.fieldLink RX8 12 (TX8 0).1 (TX8 0).2.1 (TX8 0).2.2.1 ∈ wsX8_areMet := by decide +kernel
theorem fX8_areMet_19 : Cond.fieldLink RX8 19 (TX8 1).1 (TX8 1).2.1 (TX8 1).2.2.1 ∈ wsX8_areMet := by decide +kernel
set_option maxHeartbeats 4000000 in
set_option maxRecDepth 100000 in
theorem c_X8_areMet {l : Launch} {G : Gy} (hG : Inj G) (σ : St) {B : Int} (h : XO σ) (hB : 0 ≤ B ∧ B ≤ 2147483647) : MI l yX8_areMet wsX8_areMet ({ frames := 3, cells := 0, slots := 0, locals := 71 } : Room) G [.ref (G.2.2 82), .int (zI (B))] σ (fun x σ2 => bP x (MEX σ (tb B)) ∧ σ2 = LY σ B) := by
  refine MI.of hG (by decide +kernel) rfl rfl (Nat.le_of_ble_eq_true rfl) rfl ?_
  intro p e s m args below meth c H0 Q hC hret
  refine wp_aload_n hC dX8_areMet_0 rfl ?_
  refine wp_geta (k := 5) hC (rfl) (by decide) (rfl) (rfl) (by decide) uX8_areMet_X8 fX8_areMet_43 (rfl) dX8_areMet_1 ?_
  refine wp_aload_n hC dX8_areMet_4 rfl ?_
  refine wp_geta (k := 0) hC (rfl) (by decide) (rfl) (rfl) (by decide) uX8_areMet_X8 fX8_areMet_12 (rfl) dX8_areMet_5 ?_
  refine wp_aload_n hC dX8_areMet_8 rfl ?_
  refine wp_geta (k := 1) hC (rfl) (by decide) (rfl) (rfl) (by decide) uX8_areMet_X8 fX8_areMet_19 (rfl) dX8_areMet_9 ?_
  refine wp_iload_n hC dX8_areMet_12 rfl ?_
  refine wp_callVu (As := [_, _, _]) hC (c_X6_lay hG _ h (by omega)) gX8_areMet_X6_lay rfl ⟨rfl, rfl⟩ ⟨by decide, by decide⟩ hyVX6_lay (rfl) (by decide) (rfl) rfl (Nat.le_of_ble_eq_true rfl) dX8_areMet_13 ?_
  refine wp_aload_n hC dX8_areMet_16 rfl ?_
  refine wp_geta (k := 5) hC (rfl) (by decide) (rfl) (rfl) (by decide) uX8_areMet_X8 fX8_areMet_43 (rfl) dX8_areMet_17 ?_
  refine wp_aload_n hC dX8_areMet_20 rfl ?_
  refine wp_geta (k := 5) hC (rfl) (by decide) (rfl) (rfl) (by decide) uX8_areMet_X8 fX8_areMet_43 (rfl) dX8_areMet_21 ?_
  refine wp_callVp (As := []) hC (c_X6_tightest hG (LY σ B) (fun k a b => by have := LY_rng h B a b; omega)) gX8_areMet_X6_tightest rfl ⟨rfl, rfl⟩ ⟨by decide, by decide⟩ hyVX6_tightest (rfl) (by decide) (rfl) rfl (Nat.le_of_ble_eq_true rfl) dX8_areMet_24 (fun x_24 hx_24 hp_24 => ?_)
  have hr_24 := LY_rng h B hp_24.1 hp_24.2.1
  have hm_24 := fst_MEX hp_24
  refine wp_callVe (As := [_]) hC (c_X6_leftIn hG (LY σ B) ⟨hp_24.1, hp_24.2.1⟩ (by omega)) gX8_areMet_X6_leftIn rfl ⟨rfl, rfl⟩ ⟨by decide, by decide⟩ hyVX6_leftIn (rfl) (by decide) (rfl) rfl (Nat.le_of_ble_eq_true rfl) dX8_areMet_27 (fun hx_27 => ?_)
  refine wp_if_lt (tgt := 37) hC dX8_areMet_30 (by decide) (by omega) (fun c_30 => ?_) (fun c_30 => ?_)
  · refine wp_iconst hC dX8_areMet_37 ?_
    exact hret _ _ _ _ (by omega) rfl (⟨Or.inr ⟨rfl, fun z => by have := hm_24.mpr z; omega⟩, rfl⟩) dX8_areMet_38
  · refine wp_iconst hC dX8_areMet_33 ?_
    refine wp_goto (tgt := 38) hC dX8_areMet_34 (by decide) ?_
    exact hret _ _ _ _ (by omega) rfl (⟨Or.inl ⟨rfl, hm_24.mp (by omega)⟩, rfl⟩) dX8_areMet_38

theorem hyVX8_fitsBeside : yX8_fitsBeside.cls = RX8 ∧ yX8_fitsBeside.cls ≠ "java/lang/invoke/MethodHandle" ∧ yX8_fitsBeside.cls ≠ "java/lang/invoke/VarHandle" ∧ (parseMethodDescriptor yX8_fitsBeside.desc).map (fun d => d.parameters.length) = some 2 := by decide +kernel
theorem uX8_fitsBeside_X8 : ∀ w ∈ u_ws RX8 TX8 13, w ∈ wsX8_fitsBeside := by decide +kernel
theorem fX8_fitsBeside_43 : Cond.fieldLink RX8 43 (TX8 5).1 (TX8 5).2.1 (TX8 5).2.2.1 ∈ wsX8_fitsBeside := by decide +kernel
theorem fX8_fitsBeside_12 : Cond.fieldLink RX8 12 (TX8 0).1 (TX8 0).2.1 (TX8 0).2.2.1 ∈ wsX8_fitsBeside := by decide +kernel
theorem uX8_fitsBeside_X0 : ∀ w ∈ u_ws RX0 TX0 6, w ∈ wsX8_fitsBeside := by decide +kernel
theorem fnX8_139 : Cond.fieldLinkNest RX8 139 (TX0 1).1 (TX0 1).2.1 (TX0 1).2.2.1 "PromiseMind" ∈ tables_1 := List.mem_of_getElem? (i := 46) (by decide +kernel)
theorem fX8_fitsBeside_19 : Cond.fieldLink RX8 19 (TX8 1).1 (TX8 1).2.1 (TX8 1).2.2.1 ∈ wsX8_fitsBeside := by decide +kernel
theorem uX8_fitsBeside_X5 : ∀ w ∈ u_ws RX5 TX5 5, w ∈ wsX8_fitsBeside := by decide +kernel
set_option maxHeartbeats 4000000 in
set_option maxRecDepth 100000 in
theorem c_X8_fitsBeside {l : Launch} {G : Gy} (hG : Inj G) (σ : St) {o B : Int} (h : XO σ) (ho : 0 ≤ o ∧ o < σ 83 5) (hB : 0 ≤ B ∧ B ≤ 2147483647) (hx : ∀ k, 0 ≤ k → k < 2197 → -1440 ≤ σ 92 k ∧ σ 92 k ≤ 3564) : MP l yX8_fitsBeside wsX8_fitsBeside ({ frames := 3, cells := 0, slots := 0, locals := 68 } : Room) G [.ref (G.2.2 82), .int (zI (o)), .int (zI (B))] σ (fun x => bP x (FIT σ o (σ 112 o) ∧ σ 84 o ≤ ROOM σ (σ 87 o) (tb B))) := by
  refine MI.of hG (by decide +kernel) rfl rfl (Nat.le_of_ble_eq_true rfl) rfl ?_
  intro p e s m args below meth c H0 Q hC hret
  have hn := h.1
  have hok := h.2.2 o ho.1 ho.2
  have hv := sm_ub (f := σ 109) (n := 36) (c := 99) (by decide) (fun j a b => (h.2.1.1 j a (by omega)).2)
  have hv0 := sm_nn (f := σ 109) (n := 36) (fun j a b => (h.2.1.1 j a (by omega)).1)
  have hs := h.2.1.2 (σ 87 o) (by omega) (by omega)
  have hm0 : 0 ≤ σ 110 (σ 87 o) * sm (σ 109) 36 := Int.mul_nonneg hs.1 hv0
  have hm1 : σ 110 (σ 87 o) * sm (σ 109) 36 ≤ 100 * 3564 := Int.mul_le_mul hs.2 (by omega) hv0 (by decide)
  have hn := h.1
  have ha := amS_rng (n := σ 83 5) (am := σ 84) (gr := σ 87) (P := tb B) (g := σ 87 o) hn.1 (fun o a b => (h.2.2 o a (by omega)).2.2.1)
  have hrm : -2000 ≤ ROOM σ (σ 87 o) (tb B) ∧ ROOM σ (σ 87 o) (tb B) ≤ 4000 := by unfold ROOM; omega
  refine wp_aload_n hC dX8_fitsBeside_0 rfl ?_
  refine wp_geta (k := 5) hC (rfl) (by decide) (rfl) (rfl) (by decide) uX8_fitsBeside_X8 fX8_fitsBeside_43 (rfl) dX8_fitsBeside_1 ?_
  refine wp_aload_n hC dX8_fitsBeside_4 rfl ?_
  refine wp_geta (k := 0) hC (rfl) (by decide) (rfl) (rfl) (by decide) uX8_fitsBeside_X8 fX8_fitsBeside_12 (rfl) dX8_fitsBeside_5 ?_
  refine wp_getaN (k := 1) hC (rfl) (by decide) (rfl) (rfl) (by decide) uX8_fitsBeside_X0 fnX8_139 (rfl) dX8_fitsBeside_8 ?_
  refine wp_iload_n hC dX8_fitsBeside_11 rfl ?_
  refine wp_iald (n := 24) hC (rfl) (Nat.le_of_ble_eq_true rfl) (rfl) (by decide) (by omega) dX8_fitsBeside_12 ?_
  refine wp_aload_n hC dX8_fitsBeside_13 rfl ?_
  refine wp_geta (k := 1) hC (rfl) (by decide) (rfl) (rfl) (by decide) uX8_fitsBeside_X8 fX8_fitsBeside_19 (rfl) dX8_fitsBeside_14 ?_
  refine wp_getaN (k := 3) hC (rfl) (by decide) (rfl) (rfl) (by decide) uX8_fitsBeside_X5 fnX8_127 (rfl) dX8_fitsBeside_17 ?_
  refine wp_iload_n hC dX8_fitsBeside_20 rfl ?_
  refine wp_iald (n := 24) hC (rfl) (Nat.le_of_ble_eq_true rfl) (rfl) (by decide) (by omega) dX8_fitsBeside_21 ?_
  refine wp_callVp (As := [_, _]) hC (c_X6_least hG σ (it := σ 85 o) (la := σ 112 o) hok.2.2.2.1 hok.2.1 (fun k a b => by have := hx k a b; omega)) gX8_fitsBeside_X6_least rfl ⟨rfl, rfl⟩ ⟨by decide, by decide⟩ hyVX6_least (rfl) (by decide) (rfl) rfl (Nat.le_of_ble_eq_true rfl) dX8_fitsBeside_22 (fun x_22 hx_22 hp_22 => ?_)
  have hl_22 := LEA_iR hp_22 hx
  have hf_22 := LEA_FIT hp_22
  refine wp_aload_n hC dX8_fitsBeside_25 rfl ?_
  refine wp_geta (k := 0) hC (rfl) (by decide) (rfl) (rfl) (by decide) uX8_fitsBeside_X8 fX8_fitsBeside_12 (rfl) dX8_fitsBeside_26 ?_
  refine wp_getaN (k := 0) hC (rfl) (by decide) (rfl) (rfl) (by decide) uX8_fitsBeside_X0 fnX8_136 (rfl) dX8_fitsBeside_29 ?_
  refine wp_iload_n hC dX8_fitsBeside_32 rfl ?_
  refine wp_iald (n := 24) hC (rfl) (Nat.le_of_ble_eq_true rfl) (rfl) (by decide) (by omega) dX8_fitsBeside_33 ?_
  refine wp_top (b := σ 84 o) rfl ?_
  refine wp_icmp_lt (tgt := 67) hC dX8_fitsBeside_34 (by decide) (by omega) (by omega) (fun c_34 => ?_) (fun c_34 => ?_)
  · refine wp_iconst hC dX8_fitsBeside_67 ?_
    exact hret _ _ _ _ (by omega) rfl (⟨Or.inr ⟨rfl, fun z => by have := hf_22.mpr z.1; omega⟩, rfl⟩) dX8_fitsBeside_68
  · refine wp_aload_n hC dX8_fitsBeside_37 rfl ?_
    refine wp_geta (k := 0) hC (rfl) (by decide) (rfl) (rfl) (by decide) uX8_fitsBeside_X8 fX8_fitsBeside_12 (rfl) dX8_fitsBeside_38 ?_
    refine wp_getaN (k := 0) hC (rfl) (by decide) (rfl) (rfl) (by decide) uX8_fitsBeside_X0 fnX8_136 (rfl) dX8_fitsBeside_41 ?_
    refine wp_iload_n hC dX8_fitsBeside_44 rfl ?_
    refine wp_iald (n := 24) hC (rfl) (Nat.le_of_ble_eq_true rfl) (rfl) (by decide) (by omega) dX8_fitsBeside_45 ?_
    refine wp_top (b := σ 84 o) rfl ?_
    refine wp_aload_n hC dX8_fitsBeside_46 rfl ?_
    refine wp_aload_n hC dX8_fitsBeside_47 rfl ?_
    refine wp_geta (k := 0) hC (rfl) (by decide) (rfl) (rfl) (by decide) uX8_fitsBeside_X8 fX8_fitsBeside_12 (rfl) dX8_fitsBeside_48 ?_
    refine wp_getaN (k := 3) hC (rfl) (by decide) (rfl) (rfl) (by decide) uX8_fitsBeside_X0 fnX8_142 (rfl) dX8_fitsBeside_51 ?_
    refine wp_iload_n hC dX8_fitsBeside_54 rfl ?_
    refine wp_iald (n := 24) hC (rfl) (Nat.le_of_ble_eq_true rfl) (rfl) (by decide) (by omega) dX8_fitsBeside_55 ?_
    refine wp_iload_n hC dX8_fitsBeside_56 rfl ?_
    refine wp_callVe (As := [_, _]) hC (c_X8_roomOf hG σ (g := σ 87 o) h (by omega) hB) gX8_fitsBeside_X8_roomOf rfl ⟨rfl, rfl⟩ ⟨by decide, by decide⟩ hyVX8_roomOf (rfl) (by decide) (rfl) rfl (Nat.le_of_ble_eq_true rfl) dX8_fitsBeside_57 (fun hx_57 => ?_)
    refine wp_top (b := ROOM σ (σ 87 o) (tb B)) rfl ?_
    refine wp_icmp_gt (tgt := 67) hC dX8_fitsBeside_60 (by decide) (by omega) (by omega) (fun c_60 => ?_) (fun c_60 => ?_)
    · refine wp_iconst hC dX8_fitsBeside_67 ?_
      exact hret _ _ _ _ (by omega) rfl (⟨Or.inr ⟨rfl, fun z => by have := z.2; omega⟩, rfl⟩) dX8_fitsBeside_68
    · refine wp_iconst hC dX8_fitsBeside_63 ?_
      refine wp_goto (tgt := 68) hC dX8_fitsBeside_64 (by decide) ?_
      exact hret _ _ _ _ (by omega) rfl (⟨Or.inl ⟨rfl, hf_22.mp (by omega), by omega⟩, rfl⟩) dX8_fitsBeside_68

theorem hyVX8_earliest : yX8_earliest.cls = RX8 ∧ yX8_earliest.cls ≠ "java/lang/invoke/MethodHandle" ∧ yX8_earliest.cls ≠ "java/lang/invoke/VarHandle" ∧ (parseMethodDescriptor yX8_earliest.desc).map (fun d => d.parameters.length) = some 2 := by decide +kernel
theorem uX8_earliest_X8 : ∀ w ∈ u_ws RX8 TX8 13, w ∈ wsX8_earliest := by decide +kernel
theorem fX8_earliest_43 : Cond.fieldLink RX8 43 (TX8 5).1 (TX8 5).2.1 (TX8 5).2.2.1 ∈ wsX8_earliest := by decide +kernel
theorem fX8_earliest_12 : Cond.fieldLink RX8 12 (TX8 0).1 (TX8 0).2.1 (TX8 0).2.2.1 ∈ wsX8_earliest := by decide +kernel
theorem uX8_earliest_X0 : ∀ w ∈ u_ws RX0 TX0 6, w ∈ wsX8_earliest := by decide +kernel
set_option maxHeartbeats 4000000 in
set_option maxRecDepth 100000 in
theorem c_X8_earliest {l : Launch} {G : Gy} (hG : Inj G) (σ : St) {o r : Int} (h : XO σ) (ho : 0 ≤ o ∧ o < σ 83 5) (hr : iR r) (hx : ∀ k, 0 ≤ k → k < 2197 → -1440 ≤ σ 92 k ∧ σ 92 k ≤ 3564) : MP l yX8_earliest wsX8_earliest ({ frames := 2, cells := 0, slots := 0, locals := 49 } : Room) G [.ref (G.2.2 82), .int (zI (o)), .int (zI (r))] σ (fun x => (r < σ 84 o ∧ x = -2) ∨ (σ 84 o ≤ r ∧ ((x = -2 ∧ ∀ p, 0 ≤ p → p < 12 → ¬ FIT σ o p) ∨ (0 ≤ x ∧ x < 12 ∧ FIT σ o x ∧ ∀ p, 0 ≤ p → p < x → ¬ FIT σ o p)))) := by
  refine MI.of hG (by decide +kernel) rfl rfl (Nat.le_of_ble_eq_true rfl) rfl ?_
  intro p e s m args below meth c H0 Q hC hret
  have hn := h.1
  have hok := h.2.2 o ho.1 ho.2
  have L18 : ∀ (n : Nat) (k : Int), ((12 - k).toNat) = n → (σ 84 o ≤ r) → (0 ≤ k ∧ k ≤ 12) → (∀ p, 0 ≤ p → p < k → ¬ FIT σ o p) → wp p l e ({ frames := 2, cells := 0, slots := 0, locals := 49 } : Room) s m args below meth c (aA G (Array.size H0)) H0 4 Q G σ 18 [(0, .ref (G.2.2 82)), (1, .int (zI (o))), (2, .int (zI (r))), (3, .int (zI (k)))] [] := by
    intro n18
    induction n18 using Nat.strongRecOn with
    | ind n18 ih =>
      intro k hm18 h0 h1 hno
      refine wp_iload_n hC dX8_earliest_18 rfl ?_
      refine wp_bipush hC dX8_earliest_19 rfl ?_
      refine wp_icmp_ge (tgt := 61) hC dX8_earliest_21 (by decide) (by omega) (by omega) (fun c_21 => ?_) (fun c_21 => ?_)
      · refine wp_bipush hC dX8_earliest_61 rfl ?_
        exact hret _ _ _ _ (by omega) rfl (⟨Or.inr ⟨h0, Or.inl ⟨rfl, fun p a b => hno p a (by omega)⟩⟩, rfl⟩) dX8_earliest_63
      · refine wp_aload_n hC dX8_earliest_24 rfl ?_
        refine wp_geta (k := 5) hC (rfl) (by decide) (rfl) (rfl) (by decide) uX8_earliest_X8 fX8_earliest_43 (rfl) dX8_earliest_25 ?_
        refine wp_aload_n hC dX8_earliest_28 rfl ?_
        refine wp_geta (k := 0) hC (rfl) (by decide) (rfl) (rfl) (by decide) uX8_earliest_X8 fX8_earliest_12 (rfl) dX8_earliest_29 ?_
        refine wp_getaN (k := 1) hC (rfl) (by decide) (rfl) (rfl) (by decide) uX8_earliest_X0 fnX8_139 (rfl) dX8_earliest_32 ?_
        refine wp_iload_n hC dX8_earliest_35 rfl ?_
        refine wp_iald (n := 24) hC (rfl) (Nat.le_of_ble_eq_true rfl) (rfl) (by decide) (by omega) dX8_earliest_36 ?_
        refine wp_iload_n hC dX8_earliest_37 rfl ?_
        refine wp_callVp (As := [_, _]) hC (c_X6_least hG σ (it := σ 85 o) (la := k) hok.2.2.2.1 (by omega) (fun k a b => by have := hx k a b; omega)) gX8_earliest_X6_least rfl ⟨rfl, rfl⟩ ⟨by decide, by decide⟩ hyVX6_least (rfl) (by decide) (rfl) rfl (Nat.le_of_ble_eq_true rfl) dX8_earliest_38 (fun x_38 hx_38 hp_38 => ?_)
        have hl_38 := LEA_iR hp_38 hx
        have hf_38 := LEA_FIT hp_38
        refine wp_aload_n hC dX8_earliest_41 rfl ?_
        refine wp_geta (k := 0) hC (rfl) (by decide) (rfl) (rfl) (by decide) uX8_earliest_X8 fX8_earliest_12 (rfl) dX8_earliest_42 ?_
        refine wp_getaN (k := 0) hC (rfl) (by decide) (rfl) (rfl) (by decide) uX8_earliest_X0 fnX8_136 (rfl) dX8_earliest_45 ?_
        refine wp_iload_n hC dX8_earliest_48 rfl ?_
        refine wp_iald (n := 24) hC (rfl) (Nat.le_of_ble_eq_true rfl) (rfl) (by decide) (by omega) dX8_earliest_49 ?_
        refine wp_top (b := σ 84 o) rfl ?_
        refine wp_icmp_lt (tgt := 55) hC dX8_earliest_50 (by decide) (by omega) (by omega) (fun c_50 => ?_) (fun c_50 => ?_)
        · refine wp_iinc (lv2 := [(0, _), (1, _), (2, _), (3, _)]) hC dX8_earliest_55 rfl rfl (by decide) ?_
          refine wp_goto (tgt := 18) hC dX8_earliest_58 (by decide) ?_
          exact ih _ (by omega) _ rfl h0 (by omega) (fun p a b => by
            rcases Int.lt_or_le p k with w | w
            · exact hno p a w
            · rw [show p = k by omega]; exact fun z => by have := hf_38.mpr z; omega)
        · refine wp_iload_n hC dX8_earliest_53 rfl ?_
          exact hret _ _ _ _ (by omega) rfl (⟨Or.inr ⟨h0, Or.inr ⟨h1.1, by omega, hf_38.mp (by omega), hno⟩⟩, rfl⟩) dX8_earliest_54
  refine wp_aload_n hC dX8_earliest_0 rfl ?_
  refine wp_geta (k := 0) hC (rfl) (by decide) (rfl) (rfl) (by decide) uX8_earliest_X8 fX8_earliest_12 (rfl) dX8_earliest_1 ?_
  refine wp_getaN (k := 0) hC (rfl) (by decide) (rfl) (rfl) (by decide) uX8_earliest_X0 fnX8_136 (rfl) dX8_earliest_4 ?_
  refine wp_iload_n hC dX8_earliest_7 rfl ?_
  refine wp_iald (n := 24) hC (rfl) (Nat.le_of_ble_eq_true rfl) (rfl) (by decide) (by omega) dX8_earliest_8 ?_
  refine wp_top (b := σ 84 o) rfl ?_
  refine wp_iload_n hC dX8_earliest_9 rfl ?_
  refine wp_icmp_le (tgt := 16) hC dX8_earliest_10 (by decide) (by omega) (by omega) (fun c_10 => ?_) (fun c_10 => ?_)
  · refine wp_iconst hC dX8_earliest_16 ?_
    refine wp_istore_n (lv2 := [(0, _), (1, _), (2, _), (3, _)]) hC dX8_earliest_17 rfl (by decide) ?_
    exact L18 _ 0 rfl (by omega) (by omega) (fun p a b => by omega)
  · refine wp_bipush hC dX8_earliest_13 rfl ?_
    exact hret _ _ _ _ (by omega) rfl (⟨Or.inl ⟨by omega, rfl⟩, rfl⟩) dX8_earliest_15

theorem hyVX8_asMuch : yX8_asMuch.cls = RX8 ∧ yX8_asMuch.cls ≠ "java/lang/invoke/MethodHandle" ∧ yX8_asMuch.cls ≠ "java/lang/invoke/VarHandle" ∧ (parseMethodDescriptor yX8_asMuch.desc).map (fun d => d.parameters.length) = some 2 := by decide +kernel
theorem uX8_asMuch_X8 : ∀ w ∈ u_ws RX8 TX8 13, w ∈ wsX8_asMuch := by decide +kernel
theorem fX8_asMuch_43 : Cond.fieldLink RX8 43 (TX8 5).1 (TX8 5).2.1 (TX8 5).2.2.1 ∈ wsX8_asMuch := by decide +kernel
theorem fX8_asMuch_12 : Cond.fieldLink RX8 12 (TX8 0).1 (TX8 0).2.1 (TX8 0).2.2.1 ∈ wsX8_asMuch := by decide +kernel
theorem uX8_asMuch_X0 : ∀ w ∈ u_ws RX0 TX0 6, w ∈ wsX8_asMuch := by decide +kernel
theorem fX8_asMuch_19 : Cond.fieldLink RX8 19 (TX8 1).1 (TX8 1).2.1 (TX8 1).2.2.1 ∈ wsX8_asMuch := by decide +kernel
theorem uX8_asMuch_X5 : ∀ w ∈ u_ws RX5 TX5 5, w ∈ wsX8_asMuch := by decide +kernel
set_option maxHeartbeats 4000000 in
set_option maxRecDepth 100000 in
theorem c_X8_asMuch {l : Launch} {G : Gy} (hG : Inj G) (σ : St) {o r : Int} (h : XO σ) (ho : 0 ≤ o ∧ o < σ 83 5) (hr : iR r) (hx : ∀ k, 0 ≤ k → k < 2197 → -1440 ≤ σ 92 k ∧ σ 92 k ≤ 3564) : MP l yX8_asMuch wsX8_asMuch ({ frames := 2, cells := 0, slots := 0, locals := 49 } : Room) G [.ref (G.2.2 82), .int (zI (o)), .int (zI (r))] σ (fun x => ∃ y, LEA σ (σ 85 o) (σ 112 o) y ∧ x = if 0 < min (min 60 r) y then min (min 60 r) y else -2) := by
  refine MI.of hG (by decide +kernel) rfl rfl (Nat.le_of_ble_eq_true rfl) rfl ?_
  intro p e s m args below meth c H0 Q hC hret
  have hn := h.1
  have hok := h.2.2 o ho.1 ho.2
  refine wp_bipush hC dX8_asMuch_0 rfl ?_
  refine wp_iload_n hC dX8_asMuch_2 rfl ?_
  refine wp_mmin hC (by decide +kernel) (by decide +kernel) (by decide +kernel) (by decide +kernel) (Nat.le_of_ble_eq_true rfl) (Nat.le_of_ble_eq_true rfl) (by omega) (by omega) dX8_asMuch_3 ?_
  refine wp_aload_n hC dX8_asMuch_6 rfl ?_
  refine wp_geta (k := 5) hC (rfl) (by decide) (rfl) (rfl) (by decide) uX8_asMuch_X8 fX8_asMuch_43 (rfl) dX8_asMuch_7 ?_
  refine wp_aload_n hC dX8_asMuch_10 rfl ?_
  refine wp_geta (k := 0) hC (rfl) (by decide) (rfl) (rfl) (by decide) uX8_asMuch_X8 fX8_asMuch_12 (rfl) dX8_asMuch_11 ?_
  refine wp_getaN (k := 1) hC (rfl) (by decide) (rfl) (rfl) (by decide) uX8_asMuch_X0 fnX8_139 (rfl) dX8_asMuch_14 ?_
  refine wp_iload_n hC dX8_asMuch_17 rfl ?_
  refine wp_iald (n := 24) hC (rfl) (Nat.le_of_ble_eq_true rfl) (rfl) (by decide) (by omega) dX8_asMuch_18 ?_
  refine wp_aload_n hC dX8_asMuch_19 rfl ?_
  refine wp_geta (k := 1) hC (rfl) (by decide) (rfl) (rfl) (by decide) uX8_asMuch_X8 fX8_asMuch_19 (rfl) dX8_asMuch_20 ?_
  refine wp_getaN (k := 3) hC (rfl) (by decide) (rfl) (rfl) (by decide) uX8_asMuch_X5 fnX8_127 (rfl) dX8_asMuch_23 ?_
  refine wp_iload_n hC dX8_asMuch_26 rfl ?_
  refine wp_iald (n := 24) hC (rfl) (Nat.le_of_ble_eq_true rfl) (rfl) (by decide) (by omega) dX8_asMuch_27 ?_
  refine wp_callVp (As := [_, _]) hC (c_X6_least hG σ (it := σ 85 o) (la := σ 112 o) hok.2.2.2.1 hok.2.1 (fun k a b => by have := hx k a b; omega)) gX8_asMuch_X6_least rfl ⟨rfl, rfl⟩ ⟨by decide, by decide⟩ hyVX6_least (rfl) (by decide) (rfl) rfl (Nat.le_of_ble_eq_true rfl) dX8_asMuch_28 (fun x_28 hx_28 hp_28 => ?_)
  have hl_28 := LEA_iR hp_28 hx
  refine wp_mmin hC (by decide +kernel) (by decide +kernel) (by decide +kernel) (by decide +kernel) (Nat.le_of_ble_eq_true rfl) (Nat.le_of_ble_eq_true rfl) (by omega) (by omega) dX8_asMuch_31 ?_
  refine wp_istore_n (lv2 := [(0, _), (1, _), (2, _), (3, _)]) hC dX8_asMuch_34 rfl (by decide) ?_
  refine wp_iload_n hC dX8_asMuch_35 rfl ?_
  refine wp_if_le (tgt := 43) hC dX8_asMuch_36 (by decide) (by omega) (fun c_36 => ?_) (fun c_36 => ?_)
  · refine wp_bipush hC dX8_asMuch_43 rfl ?_
    exact hret _ _ _ _ (by omega) rfl (⟨⟨_, hp_28, (if_neg (by omega)).symm⟩, rfl⟩) dX8_asMuch_45
  · refine wp_iload_n hC dX8_asMuch_39 rfl ?_
    refine wp_goto (tgt := 45) hC dX8_asMuch_40 (by decide) ?_
    exact hret _ _ _ _ (by omega) rfl (⟨⟨_, hp_28, (if_pos (by omega)).symm⟩, rfl⟩) dX8_asMuch_45
