/-- the place's three numbers are not below three others -/
abbrev gef (f0 f1 f2 j : Int) : Prop := f0 ≤ j / 169 ∧ f1 ≤ j / 13 % 13 ∧ f2 ≤ j % 13
/-- an amount taken where an order is counted, up to a place -/
def TKk (σ : St) (f0 f1 f2 am K : Int) : St := fun a b => if a = 92 ∧ 0 ≤ b ∧ b < K ∧ gef f0 f1 f2 b then σ 92 b - am else σ a b
theorem TK_skip {σ : St} {f0 f1 f2 am K K' : Int} (h : K ≤ K') (hs : ∀ j, 0 ≤ j → K ≤ j → j < K' → ¬ gef f0 f1 f2 j) : TKk σ f0 f1 f2 am K = TKk σ f0 f1 f2 am K' := by
  funext a b
  unfold TKk
  by_cases q : a = 92 ∧ 0 ≤ b ∧ b < K ∧ gef f0 f1 f2 b
  · rw [if_pos q, if_pos ⟨q.1, q.2.1, by omega, q.2.2.2⟩]
  · rw [if_neg q, if_neg (fun z => ?_)]
    by_cases w : b < K
    · exact q ⟨z.1, z.2.1, w, z.2.2.2⟩
    · exact hs b z.2.1 (by omega) z.2.2.1 z.2.2.2
theorem TK_step {σ : St} {f0 f1 f2 am K : Int} (h : 0 ≤ K) (hg : gef f0 f1 f2 K) : put (TKk σ f0 f1 f2 am K) 92 K (σ 92 K - am) = TKk σ f0 f1 f2 am (K + 1) := by
  funext a b
  by_cases q : a = 92 ∧ b = K
  · rw [q.1, q.2, put_s]
    unfold TKk
    rw [if_pos ⟨rfl, h, by omega, hg⟩]
  · rw [put_q q]
    unfold TKk
    by_cases w : a = 92 ∧ 0 ≤ b ∧ b < K ∧ gef f0 f1 f2 b
    · rw [if_pos w, if_pos ⟨w.1, w.2.1, by omega, w.2.2.2⟩]
    · rw [if_neg w, if_neg (fun z => w ⟨z.1, z.2.1, by have := z.2.2.1; have : b ≠ K := fun e => q ⟨z.1, e⟩; omega, z.2.2.2⟩)]
theorem TK_at {σ : St} {f0 f1 f2 am K : Int} : TKk σ f0 f1 f2 am K 92 K = σ 92 K := if_neg (fun z => by have := z.2.2.1; omega)
theorem TK_0 {σ : St} {f0 f1 f2 am K : Int} (h : K ≤ 0) : σ = TKk σ f0 f1 f2 am K := by
  funext a b
  unfold TKk
  rw [if_neg (fun z => by have := z.2.1; have := z.2.2.1; omega)]
/-- an order's amount taken at all places that count it -/
def TAK (σ : St) (it la am : Int) : St := TKk σ (if tb it 0 = true then la + 1 else 0) (if tb it 1 = true then la + 1 else 0) (if tb it 2 = true then la + 1 else 0) am 2197
/-- the least of all places that count an order -/
def LEA (σ : St) (it la x : Int) : Prop := (∀ j, 0 ≤ j → j < 2197 → gef (if tb it 0 = true then la + 1 else 0) (if tb it 1 = true then la + 1 else 0) (if tb it 2 = true then la + 1 else 0) j → x ≤ σ 92 j) ∧ ∃ j, 0 ≤ j ∧ j < 2197 ∧ gef (if tb it 0 = true then la + 1 else 0) (if tb it 1 = true then la + 1 else 0) (if tb it 2 = true then la + 1 else 0) j ∧ σ 92 j = x
def LEk (σ : St) (f0 f1 f2 K x : Int) : Prop := (∀ j, 0 ≤ j → j < K → gef f0 f1 f2 j → x ≤ σ 92 j) ∧ ∃ j, 0 ≤ j ∧ j < 2197 ∧ gef f0 f1 f2 j ∧ σ 92 j = x
theorem LE_iR {σ : St} {f0 f1 f2 K x : Int} (h : LEk σ f0 f1 f2 K x) (hx : ∀ k, 0 ≤ k → k < 2197 → iR (σ 92 k)) : iR x := by
  obtain ⟨_, j, a, b, _, e⟩ := h
  rw [← e]
  exact hx j a b
theorem LE_skip {σ : St} {f0 f1 f2 K K' x : Int} (h : LEk σ f0 f1 f2 K x) (hs : ∀ j, 0 ≤ j → K ≤ j → j < K' → ¬ gef f0 f1 f2 j) : LEk σ f0 f1 f2 K' x :=
  ⟨fun j a b g => by
    rcases Int.lt_or_le j K with w | w
    · exact h.1 j a w g
    · exact absurd g (hs j a w b), h.2⟩
theorem LE_step {σ : St} {f0 f1 f2 K x : Int} (h : LEk σ f0 f1 f2 K x) (h0 : 0 ≤ K ∧ K < 2197) (hg : gef f0 f1 f2 K) : LEk σ f0 f1 f2 (K + 1) (min x (σ 92 K)) := by
  refine ⟨fun j a b g => ?_, ?_⟩
  · rcases Int.lt_or_le j K with w | w
    · have := h.1 j a w g
      omega
    · rw [show j = K by omega]
      omega
  · rcases Int.le_total x (σ 92 K) with w | w
    · rw [Int.min_eq_left w]; exact h.2
    · rw [Int.min_eq_right w]; exact ⟨K, h0.1, h0.2, hg, rfl⟩

theorem hyVX6_take : yX6_take.cls = RX6 ∧ yX6_take.cls ≠ "java/lang/invoke/MethodHandle" ∧ yX6_take.cls ≠ "java/lang/invoke/VarHandle" ∧ (parseMethodDescriptor yX6_take.desc).map (fun d => d.parameters.length) = some 3 := by decide +kernel
theorem uX6_take_X6 : ∀ w ∈ u_ws RX6 TX6 2, w ∈ wsX6_take := by decide +kernel
theorem fX6_take_9 : Cond.fieldLink RX6 9 (TX6 0).1 (TX6 0).2.1 (TX6 0).2.2.1 ∈ wsX6_take := by decide +kernel
set_option maxHeartbeats 4000000 in
set_option maxRecDepth 100000 in
theorem c_X6_take {l : Launch} {G : Gy} (hG : Inj G) (σ : St) {it la am : Int} (hit : 0 ≤ it ∧ it ≤ 7) (hla : 0 ≤ la ∧ la ≤ 11) : MU l yX6_take wsX6_take ({ frames := 1, cells := 0, slots := 0, locals := 22 } : Room) G [.ref (G.2.2 91), .int (zI (it)), .int (zI (la)), .int (zI (am))] σ (TAK σ it la am) := by
  refine MV.of hG (by decide +kernel) rfl rfl (Nat.le_of_ble_eq_true rfl) rfl ?_
  intro p e s m args below meth c H0 Q hC hret
  obtain ⟨f0, hf0⟩ : ∃ f, f = (if tb it 0 = true then la + 1 else 0) := ⟨_, rfl⟩
  obtain ⟨f1, hf1⟩ : ∃ f, f = (if tb it 1 = true then la + 1 else 0) := ⟨_, rfl⟩
  obtain ⟨f2, hf2⟩ : ∃ f, f = (if tb it 2 = true then la + 1 else 0) := ⟨_, rfl⟩
  have r0 : 0 ≤ f0 ∧ f0 ≤ 12 := by rw [hf0]; split <;> omega
  have r1 : 0 ≤ f1 ∧ f1 ≤ 12 := by rw [hf1]; split <;> omega
  have r2 : 0 ≤ f2 ∧ f2 ≤ 12 := by rw [hf2]; split <;> omega
  have L8 : ∀ (n : Nat) (a : Int), ((13 - a).toNat) = n → (f0 ≤ a ∧ a ≤ 13) → wp p l e ({ frames := 1, cells := 0, slots := 0, locals := 22 } : Room) s m args below meth c (aA G (Array.size H0)) H0 8 Q G (TKk σ f0 f1 f2 am (169 * a)) 8 [(0, .ref (G.2.2 91)), (1, .int (zI (it))), (2, .int (zI (la))), (3, .int (zI (am))), (4, .int (zI (a)))] [] := by
    intro n8
    induction n8 using Nat.strongRecOn with
    | ind n8 ih =>
      intro a hm8 h1
      have L23 : ∀ (n : Nat) (b : Int), ((13 - b).toNat) = n → (f0 ≤ a ∧ a < 13) → (f1 ≤ b ∧ b ≤ 13) → wp p l e ({ frames := 1, cells := 0, slots := 0, locals := 22 } : Room) s m args below meth c (aA G (Array.size H0)) H0 8 Q G (TKk σ f0 f1 f2 am (169 * a + 13 * b)) 23 [(0, .ref (G.2.2 91)), (1, .int (zI (it))), (2, .int (zI (la))), (3, .int (zI (am))), (4, .int (zI (a))), (5, .int (zI (b)))] [] := by
        intro n23
        induction n23 using Nat.strongRecOn with
        | ind n23 ih23 =>
          intro b hm23 h3 h2
          have L52 : ∀ (n : Nat) (c1 : Int), ((13 - c1).toNat) = n → (f1 ≤ b ∧ b < 13) → (f2 ≤ c1 ∧ c1 ≤ 13) → wp p l e ({ frames := 1, cells := 0, slots := 0, locals := 22 } : Room) s m args below meth c (aA G (Array.size H0)) H0 8 Q G (TKk σ f0 f1 f2 am (169 * a + 13 * b + c1)) 52 [(0, .ref (G.2.2 91)), (1, .int (zI (it))), (2, .int (zI (la))), (3, .int (zI (am))), (4, .int (zI (a))), (5, .int (zI (b))), (6, .int (zI (a * 169 + b * 13))), (7, .int (zI (c1)))] [] := by
            intro n52
            induction n52 using Nat.strongRecOn with
            | ind n52 ih52 =>
              intro c1 hm52 h5 h4
              refine wp_iload hC dX6_take_52 rfl ?_
              refine wp_bipush hC dX6_take_54 rfl ?_
              refine wp_icmp_ge (tgt := 79) hC dX6_take_56 (by decide) (by omega) (by omega) (fun c_56 => ?_) (fun c_56 => ?_)
              · refine wp_iinc (lv2 := [(0, _), (1, _), (2, _), (3, _), (4, _), (5, _), (6, _), (7, _)]) hC dX6_take_79 rfl rfl (by decide) ?_
                refine wp_goto (tgt := 23) hC dX6_take_82 (by decide) ?_
                refine wp_lv hC [0, 1, 2, 3, 4, 5] rfl ?_
                refine wp_st (congrArg (TKk σ f0 f1 f2 am) (show 169 * a + 13 * b + c1 = 169 * a + 13 * (b + 1) by omega)) ?_
                exact ih23 _ (by omega) _ rfl h3 (by omega)
              · refine wp_aload_n hC dX6_take_59 rfl ?_
                refine wp_geta (k := 0) hC (rfl) (by decide) (rfl) (rfl) (by decide) uX6_take_X6 fX6_take_9 (rfl) dX6_take_60 ?_
                refine wp_iload hC dX6_take_63 rfl ?_
                refine wp_iload hC dX6_take_65 rfl ?_
                refine wp_iadd hC dX6_take_67 ?_
                refine wp_dup2 hC dX6_take_68 rfl rfl ?_
                refine wp_iald (n := 2197) hC (rfl) (Nat.le_of_ble_eq_true rfl) (rfl) (by decide) (by omega) dX6_take_69 ?_
                refine wp_iload_n hC dX6_take_70 rfl ?_
                refine wp_isub hC dX6_take_71 ?_
                refine wp_iast (n := 2197) hC (rfl) (Nat.le_of_ble_eq_true rfl) (rfl) (by decide) (by omega) dX6_take_72 ?_
                refine wp_iinc (lv2 := [(0, _), (1, _), (2, _), (3, _), (4, _), (5, _), (6, _), (7, _)]) hC dX6_take_73 rfl rfl (by decide) ?_
                refine wp_goto (tgt := 52) hC dX6_take_76 (by decide) ?_
                refine wp_st ((by rw [show a * 169 + b * 13 + c1 = 169 * a + 13 * b + c1 by omega, TK_at]; exact TK_step (by omega) (by omega)) : _ = TKk σ f0 f1 f2 am (169 * a + 13 * b + c1 + 1)) ?_
                rw [show 169 * a + 13 * b + c1 + 1 = 169 * a + 13 * b + (c1 + 1) by omega]
                exact ih52 _ (by omega) _ rfl h5 (by omega)
          refine wp_iload hC dX6_take_23 rfl ?_
          refine wp_bipush hC dX6_take_25 rfl ?_
          refine wp_icmp_ge (tgt := 85) hC dX6_take_27 (by decide) (by omega) (by omega) (fun c_27 => ?_) (fun c_27 => ?_)
          · refine wp_iinc (lv2 := [(0, _), (1, _), (2, _), (3, _), (4, _), (5, _)]) hC dX6_take_85 rfl rfl (by decide) ?_
            refine wp_goto (tgt := 8) hC dX6_take_88 (by decide) ?_
            refine wp_lv hC [0, 1, 2, 3, 4] rfl ?_
            refine wp_st (congrArg (TKk σ f0 f1 f2 am) (show 169 * a + 13 * b = 169 * (a + 1) by omega)) ?_
            exact ih _ (by omega) _ rfl (by omega)
          · refine wp_iload hC dX6_take_30 rfl ?_
            refine wp_sipush hC dX6_take_32 rfl ?_
            refine wp_imul hC dX6_take_35 ?_
            refine wp_iload hC dX6_take_36 rfl ?_
            refine wp_bipush hC dX6_take_38 rfl ?_
            refine wp_imul hC dX6_take_40 ?_
            refine wp_iadd hC dX6_take_41 ?_
            refine wp_istore (lv2 := [(0, _), (1, _), (2, _), (3, _), (4, _), (5, _), (6, _)]) hC dX6_take_42 rfl (by decide) ?_
            refine wp_iload_n hC dX6_take_44 rfl ?_
            refine wp_iconst hC dX6_take_45 ?_
            refine wp_iload_n hC dX6_take_46 rfl ?_
            refine wp_callNe (As := [_, _, _]) hC (c_X8_startOf hG _ (by omega) (by omega) (by omega)) gX6_take_X8_startOf_n56 rfl ⟨rfl, rfl⟩ ⟨by decide, by decide⟩ hySX8_startOf mnX6_56 (by decide +kernel) (by decide +kernel) rfl (Nat.le_of_ble_eq_true rfl) dX6_take_47 (fun hx_47 => ?_)
            refine wp_top (b := f2) hf2.symm ?_
            refine wp_istore (lv2 := [(0, _), (1, _), (2, _), (3, _), (4, _), (5, _), (6, _), (7, _)]) hC dX6_take_50 rfl (by decide) ?_
            refine wp_st (TK_skip (K' := 169 * a + 13 * b + f2) (by omega) (fun j _ _ _ g => by have := g.2.2; omega)) ?_
            exact L52 _ _ rfl (by omega) (by omega)
      refine wp_iload hC dX6_take_8 rfl ?_
      refine wp_bipush hC dX6_take_10 rfl ?_
      refine wp_icmp_ge (tgt := 91) hC dX6_take_12 (by decide) (by omega) (by omega) (fun c_12 => ?_) (fun c_12 => ?_)
      · exact hret _ _ _ (by unfold TAK; rw [← hf0, ← hf1, ← hf2]; exact TK_skip (K' := 2197) (by omega) (fun j _ _ _ _ => by omega)) dX6_take_91
      · refine wp_iload_n hC dX6_take_15 rfl ?_
        refine wp_iconst hC dX6_take_16 ?_
        refine wp_iload_n hC dX6_take_17 rfl ?_
        refine wp_callNe (As := [_, _, _]) hC (c_X8_startOf hG _ (by omega) (by omega) (by omega)) gX6_take_X8_startOf_n56 rfl ⟨rfl, rfl⟩ ⟨by decide, by decide⟩ hySX8_startOf mnX6_56 (by decide +kernel) (by decide +kernel) rfl (Nat.le_of_ble_eq_true rfl) dX6_take_18 (fun hx_18 => ?_)
        refine wp_top (b := f1) hf1.symm ?_
        refine wp_istore (lv2 := [(0, _), (1, _), (2, _), (3, _), (4, _), (5, _)]) hC dX6_take_21 rfl (by decide) ?_
        refine wp_st (TK_skip (K' := 169 * a + 13 * f1) (by omega) (fun j _ _ _ g => by have := g.2.1; omega)) ?_
        exact L23 _ _ rfl (by omega) (by omega)
  refine wp_iload_n hC dX6_take_0 rfl ?_
  refine wp_iconst hC dX6_take_1 ?_
  refine wp_iload_n hC dX6_take_2 rfl ?_
  refine wp_callNe (As := [_, _, _]) hC (c_X8_startOf hG _ (by omega) (by omega) (by omega)) gX6_take_X8_startOf_n56 rfl ⟨rfl, rfl⟩ ⟨by decide, by decide⟩ hySX8_startOf mnX6_56 (by decide +kernel) (by decide +kernel) rfl (Nat.le_of_ble_eq_true rfl) dX6_take_3 (fun hx_3 => ?_)
  refine wp_top (b := f0) hf0.symm ?_
  refine wp_istore (lv2 := [(0, _), (1, _), (2, _), (3, _), (4, _)]) hC dX6_take_6 rfl (by decide) ?_
  refine wp_st ((TK_0 (f0 := f0) (f1 := f1) (f2 := f2) (am := am) (Int.le_refl 0)).trans (TK_skip (K' := 169 * f0) (by omega) (fun j _ _ _ g => by have := g.1; omega))) ?_
  exact L8 _ _ rfl (by omega)

theorem hyVX6_least : yX6_least.cls = RX6 ∧ yX6_least.cls ≠ "java/lang/invoke/MethodHandle" ∧ yX6_least.cls ≠ "java/lang/invoke/VarHandle" ∧ (parseMethodDescriptor yX6_least.desc).map (fun d => d.parameters.length) = some 2 := by decide +kernel
theorem uX6_least_X6 : ∀ w ∈ u_ws RX6 TX6 2, w ∈ wsX6_least := by decide +kernel
theorem fX6_least_9 : Cond.fieldLink RX6 9 (TX6 0).1 (TX6 0).2.1 (TX6 0).2.2.1 ∈ wsX6_least := by decide +kernel
set_option maxHeartbeats 4000000 in
set_option maxRecDepth 100000 in
theorem c_X6_least {l : Launch} {G : Gy} (hG : Inj G) (σ : St) {it la : Int} (hit : 0 ≤ it ∧ it ≤ 7) (hla : 0 ≤ la ∧ la ≤ 11) (hx : ∀ k, 0 ≤ k → k < 2197 → iR (σ 92 k)) : MP l yX6_least wsX6_least ({ frames := 1, cells := 0, slots := 0, locals := 22 } : Room) G [.ref (G.2.2 91), .int (zI (it)), .int (zI (la))] σ (LEA σ it la) := by
  refine MI.of hG (by decide +kernel) rfl rfl (Nat.le_of_ble_eq_true rfl) rfl ?_
  intro p e s m args below meth c H0 Q hC hret
  obtain ⟨f0, hf0⟩ : ∃ f, f = (if tb it 0 = true then la + 1 else 0) := ⟨_, rfl⟩
  obtain ⟨f1, hf1⟩ : ∃ f, f = (if tb it 1 = true then la + 1 else 0) := ⟨_, rfl⟩
  obtain ⟨f2, hf2⟩ : ∃ f, f = (if tb it 2 = true then la + 1 else 0) := ⟨_, rfl⟩
  have r0 : 0 ≤ f0 ∧ f0 ≤ 12 := by rw [hf0]; split <;> omega
  have r1 : 0 ≤ f1 ∧ f1 ≤ 12 := by rw [hf1]; split <;> omega
  have r2 : 0 ≤ f2 ∧ f2 ≤ 12 := by rw [hf2]; split <;> omega
  have hxl := hx 2196 (by decide) (by decide)
  have L17 : ∀ (n : Nat) (v a : Int), ((13 - a).toNat) = n → (f0 ≤ a ∧ a ≤ 13) → (LEk σ f0 f1 f2 (169 * a) v) → wp p l e ({ frames := 1, cells := 0, slots := 0, locals := 22 } : Room) s m args below meth c (aA G (Array.size H0)) H0 8 Q G σ 17 [(0, .ref (G.2.2 91)), (1, .int (zI (it))), (2, .int (zI (la))), (3, .int (zI (v))), (4, .int (zI (a)))] [] := by
    intro n17
    induction n17 using Nat.strongRecOn with
    | ind n17 ih =>
      intro v a hm17 h1 hl
      have hv := LE_iR hl hx
      have L32 : ∀ (n : Nat) (v b : Int), ((13 - b).toNat) = n → (f0 ≤ a ∧ a < 13) → (f1 ≤ b ∧ b ≤ 13) → (LEk σ f0 f1 f2 (169 * a + 13 * b) v) → wp p l e ({ frames := 1, cells := 0, slots := 0, locals := 22 } : Room) s m args below meth c (aA G (Array.size H0)) H0 8 Q G σ 32 [(0, .ref (G.2.2 91)), (1, .int (zI (it))), (2, .int (zI (la))), (3, .int (zI (v))), (4, .int (zI (a))), (5, .int (zI (b)))] [] := by
        intro n32
        induction n32 using Nat.strongRecOn with
        | ind n32 ih32 =>
          intro v b hm32 h3 h2 hl
          have hv := LE_iR hl hx
          have L61 : ∀ (n : Nat) (v c1 : Int), ((13 - c1).toNat) = n → (f1 ≤ b ∧ b < 13) → (f2 ≤ c1 ∧ c1 ≤ 13) → (LEk σ f0 f1 f2 (169 * a + 13 * b + c1) v) → wp p l e ({ frames := 1, cells := 0, slots := 0, locals := 22 } : Room) s m args below meth c (aA G (Array.size H0)) H0 8 Q G σ 61 [(0, .ref (G.2.2 91)), (1, .int (zI (it))), (2, .int (zI (la))), (3, .int (zI (v))), (4, .int (zI (a))), (5, .int (zI (b))), (6, .int (zI (a * 169 + b * 13))), (7, .int (zI (c1)))] [] := by
            intro n61
            induction n61 using Nat.strongRecOn with
            | ind n61 ih61 =>
              intro v c1 hm61 h5 h4 hl
              have hv := LE_iR hl hx
              have hxc := fun z : c1 < 13 => hx (169 * a + 13 * b + c1) (by omega) (by omega)
              refine wp_iload hC dX6_least_61 rfl ?_
              refine wp_bipush hC dX6_least_63 rfl ?_
              refine wp_icmp_ge (tgt := 89) hC dX6_least_65 (by decide) (by omega) (by omega) (fun c_65 => ?_) (fun c_65 => ?_)
              · refine wp_iinc (lv2 := [(0, _), (1, _), (2, _), (3, _), (4, _), (5, _), (6, _), (7, _)]) hC dX6_least_89 rfl rfl (by decide) ?_
                refine wp_goto (tgt := 32) hC dX6_least_92 (by decide) ?_
                refine wp_lv hC [0, 1, 2, 3, 4, 5] rfl ?_
                exact ih32 _ (by omega) _ _ rfl h3 (by omega) (by rw [show 169 * a + 13 * (b + 1) = 169 * a + 13 * b + c1 by omega]; exact hl)
              · refine wp_iload_n hC dX6_least_68 rfl ?_
                refine wp_aload_n hC dX6_least_69 rfl ?_
                refine wp_geta (k := 0) hC (rfl) (by decide) (rfl) (rfl) (by decide) uX6_least_X6 fX6_least_9 (rfl) dX6_least_70 ?_
                refine wp_iload hC dX6_least_73 rfl ?_
                refine wp_iload hC dX6_least_75 rfl ?_
                refine wp_iadd hC dX6_least_77 ?_
                refine wp_iald (n := 2197) hC (rfl) (Nat.le_of_ble_eq_true rfl) (rfl) (by decide) (by omega) dX6_least_78 ?_
                refine wp_top (b := σ 92 (169 * a + 13 * b + c1)) (by rw [show 169 * a + 13 * b + c1 = a * 169 + b * 13 + c1 by omega]) ?_
                refine wp_mmin hC (by decide +kernel) (by decide +kernel) (by decide +kernel) (by decide +kernel) (Nat.le_of_ble_eq_true rfl) (Nat.le_of_ble_eq_true rfl) (by omega) (by omega) dX6_least_79 ?_
                refine wp_istore_n (lv2 := [(0, _), (1, _), (2, _), (3, _), (4, _), (5, _), (6, _), (7, _)]) hC dX6_least_82 rfl (by decide) ?_
                refine wp_iinc (lv2 := [(0, _), (1, _), (2, _), (3, _), (4, _), (5, _), (6, _), (7, _)]) hC dX6_least_83 rfl rfl (by decide) ?_
                refine wp_goto (tgt := 61) hC dX6_least_86 (by decide) ?_
                exact ih61 _ (by omega) _ _ rfl h5 (by omega) (by rw [show 169 * a + 13 * b + (c1 + 1) = 169 * a + 13 * b + c1 + 1 by omega]; exact LE_step hl (by omega) (by omega))
          refine wp_iload hC dX6_least_32 rfl ?_
          refine wp_bipush hC dX6_least_34 rfl ?_
          refine wp_icmp_ge (tgt := 95) hC dX6_least_36 (by decide) (by omega) (by omega) (fun c_36 => ?_) (fun c_36 => ?_)
          · refine wp_iinc (lv2 := [(0, _), (1, _), (2, _), (3, _), (4, _), (5, _)]) hC dX6_least_95 rfl rfl (by decide) ?_
            refine wp_goto (tgt := 17) hC dX6_least_98 (by decide) ?_
            refine wp_lv hC [0, 1, 2, 3, 4] rfl ?_
            exact ih _ (by omega) _ _ rfl (by omega) (by rw [show 169 * (a + 1) = 169 * a + 13 * b by omega]; exact hl)
          · refine wp_iload hC dX6_least_39 rfl ?_
            refine wp_sipush hC dX6_least_41 rfl ?_
            refine wp_imul hC dX6_least_44 ?_
            refine wp_iload hC dX6_least_45 rfl ?_
            refine wp_bipush hC dX6_least_47 rfl ?_
            refine wp_imul hC dX6_least_49 ?_
            refine wp_iadd hC dX6_least_50 ?_
            refine wp_istore (lv2 := [(0, _), (1, _), (2, _), (3, _), (4, _), (5, _), (6, _)]) hC dX6_least_51 rfl (by decide) ?_
            refine wp_iload_n hC dX6_least_53 rfl ?_
            refine wp_iconst hC dX6_least_54 ?_
            refine wp_iload_n hC dX6_least_55 rfl ?_
            refine wp_callNe (As := [_, _, _]) hC (c_X8_startOf hG _ (by omega) (by omega) (by omega)) gX6_least_X8_startOf_n56 rfl ⟨rfl, rfl⟩ ⟨by decide, by decide⟩ hySX8_startOf mnX6_56 (by decide +kernel) (by decide +kernel) rfl (Nat.le_of_ble_eq_true rfl) dX6_least_56 (fun hx_56 => ?_)
            refine wp_top (b := f2) hf2.symm ?_
            refine wp_istore (lv2 := [(0, _), (1, _), (2, _), (3, _), (4, _), (5, _), (6, _), (7, _)]) hC dX6_least_59 rfl (by decide) ?_
            exact L61 _ _ _ rfl (by omega) (by omega) (LE_skip hl (fun j _ _ _ g => by have := g.2.2; omega))
      refine wp_iload hC dX6_least_17 rfl ?_
      refine wp_bipush hC dX6_least_19 rfl ?_
      refine wp_icmp_ge (tgt := 101) hC dX6_least_21 (by decide) (by omega) (by omega) (fun c_21 => ?_) (fun c_21 => ?_)
      · refine wp_iload_n hC dX6_least_101 rfl ?_
        exact hret _ _ _ _ (by omega) rfl (⟨by unfold LEA; rw [← hf0, ← hf1, ← hf2]; exact LE_skip hl (fun j _ _ _ _ => by omega), rfl⟩) dX6_least_102
      · refine wp_iload_n hC dX6_least_24 rfl ?_
        refine wp_iconst hC dX6_least_25 ?_
        refine wp_iload_n hC dX6_least_26 rfl ?_
        refine wp_callNe (As := [_, _, _]) hC (c_X8_startOf hG _ (by omega) (by omega) (by omega)) gX6_least_X8_startOf_n56 rfl ⟨rfl, rfl⟩ ⟨by decide, by decide⟩ hySX8_startOf mnX6_56 (by decide +kernel) (by decide +kernel) rfl (Nat.le_of_ble_eq_true rfl) dX6_least_27 (fun hx_27 => ?_)
        refine wp_top (b := f1) hf1.symm ?_
        refine wp_istore (lv2 := [(0, _), (1, _), (2, _), (3, _), (4, _), (5, _)]) hC dX6_least_30 rfl (by decide) ?_
        exact L32 _ _ _ rfl (by omega) (by omega) (LE_skip hl (fun j _ _ _ g => by have := g.2.1; omega))
  refine wp_aload_n hC dX6_least_0 rfl ?_
  refine wp_geta (k := 0) hC (rfl) (by decide) (rfl) (rfl) (by decide) uX6_least_X6 fX6_least_9 (rfl) dX6_least_1 ?_
  refine wp_sipush hC dX6_least_4 rfl ?_
  refine wp_iald (n := 2197) hC (rfl) (Nat.le_of_ble_eq_true rfl) (rfl) (by decide) (by omega) dX6_least_7 ?_
  refine wp_top (b := σ 92 2196) rfl ?_
  refine wp_istore_n (lv2 := [(0, _), (1, _), (2, _), (3, _)]) hC dX6_least_8 rfl (by decide) ?_
  refine wp_iload_n hC dX6_least_9 rfl ?_
  refine wp_iconst hC dX6_least_10 ?_
  refine wp_iload_n hC dX6_least_11 rfl ?_
  refine wp_callNe (As := [_, _, _]) hC (c_X8_startOf hG _ (by omega) (by omega) (by omega)) gX6_least_X8_startOf_n56 rfl ⟨rfl, rfl⟩ ⟨by decide, by decide⟩ hySX8_startOf mnX6_56 (by decide +kernel) (by decide +kernel) rfl (Nat.le_of_ble_eq_true rfl) dX6_least_12 (fun hx_12 => ?_)
  refine wp_top (b := f0) hf0.symm ?_
  refine wp_istore (lv2 := [(0, _), (1, _), (2, _), (3, _), (4, _)]) hC dX6_least_15 rfl (by decide) ?_
  exact L17 _ (σ 92 2196) _ rfl (by omega) ⟨fun j _ _ g => by have := g.1; omega, 2196, by decide, by decide, by omega, rfl⟩
