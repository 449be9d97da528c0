def PF (σ : St) (a b : Int) : St := put (put σ 0 19 a) 0 20 b
theorem PF_0 {σ : St} {a : Int} : put σ 0 19 a = PF σ a (σ 0 20) := by
  unfold PF
  rw [put_same (σ := put σ 0 19 a) (put_k (by decide))]
theorem PF_1 {σ : St} : σ = put σ 0 19 (σ 0 19) := (put_same rfl).symm
theorem PF_2 {σ : St} {b : Int} : put σ 0 20 b = PF σ (σ 0 19) b := by
  unfold PF
  rw [put_same rfl]
theorem PF_PF {σ : St} {a b c d : Int} : PF (PF σ a b) c d = PF σ c d := by
  funext x y
  unfold PF
  by_cases h1 : x = 0 ∧ y = 20
  · obtain ⟨rfl, rfl⟩ := h1
    rw [put_s, put_s]
  · rw [put_q h1, put_q h1]
    by_cases h2 : x = 0 ∧ y = 19
    · obtain ⟨rfl, rfl⟩ := h2
      rw [put_s, put_s]
    · rw [put_q h2, put_q h2, put_q h1, put_q h2]

theorem hyVX9_isSign : yX9_isSign.cls = RX9 ∧ yX9_isSign.cls ≠ "java/lang/invoke/MethodHandle" ∧ yX9_isSign.cls ≠ "java/lang/invoke/VarHandle" ∧ (parseMethodDescriptor yX9_isSign.desc).map (fun d => d.parameters.length) = some 2 := by decide +kernel
theorem uX9_isSign_X9 : ∀ w ∈ u_ws RX9 TX9 35, w ∈ wsX9_isSign := by decide +kernel
theorem fX9_isSign_170 : Cond.fieldLink RX9 170 (TX9 19).1 (TX9 19).2.1 (TX9 19).2.2.1 ∈ wsX9_isSign := by decide +kernel
theorem fX9_isSign_167 : Cond.fieldLink RX9 167 (TX9 18).1 (TX9 18).2.1 (TX9 18).2.2.1 ∈ wsX9_isSign := by decide +kernel
theorem fX9_isSign_49 : Cond.fieldLink RX9 49 (TX9 17).1 (TX9 17).2.1 (TX9 17).2.2.1 ∈ wsX9_isSign := by decide +kernel
set_option maxHeartbeats 4000000 in
set_option maxRecDepth 100000 in
theorem c_X9_isSign {l : Launch} {G : Gy} (hG : Inj G) (σ : St) {a b : Int} (hz : 0 ≤ σ 0 18 ∧ σ 0 18 ≤ 100) (ht : ∀ j, 0 ≤ j → j < σ 0 18 → 0 ≤ σ 12 j ∧ σ 12 j ≤ 126) (hp : 0 ≤ σ 0 19 ∧ σ 0 19 ≤ σ 0 18) (ha : 1 ≤ a ∧ a ≤ 200) (hb : 0 ≤ b ∧ b ≤ 200) : MB l yX9_isSign wsX9_isSign ({ frames := 1, cells := 0, slots := 0, locals := 22 } : Room) G [.ref (G.2.2 0), .int (zI (a)), .int (zI (b))] σ (a ≤ ch (σ 12) (σ 0 18) (σ 0 19) ∧ ch (σ 12) (σ 0 18) (σ 0 19) ≤ b) σ := by
  refine MI.of hG (by decide +kernel) rfl rfl (Nat.le_of_ble_eq_true rfl) rfl ?_
  intro p e s m args below meth c H0 Q hC hret
  refine wp_aload_n hC dX9_isSign_0 rfl ?_
  refine wp_geti (k := 19) (z := 19) hC rfl (rfl) (by decide) (rfl) (rfl) (by decide) uX9_isSign_X9 fX9_isSign_170 (rfl) dX9_isSign_1 ?_
  refine wp_aload_n hC dX9_isSign_4 rfl ?_
  refine wp_geti (k := 18) (z := 18) hC rfl (rfl) (by decide) (rfl) (rfl) (by decide) uX9_isSign_X9 fX9_isSign_167 (rfl) dX9_isSign_5 ?_
  refine wp_icmp_ge (tgt := 32) hC dX9_isSign_8 (by decide) (by omega) (by omega) (fun c_8 => ?_) (fun c_8 => ?_)
  · refine wp_iconst hC dX9_isSign_32 ?_
    exact hret _ _ _ _ (by omega) rfl (⟨bI0 (by rw [ch_end c_8]; omega), rfl⟩) dX9_isSign_33
  · have e : ch (σ 12) (σ 0 18) (σ 0 19) = σ 12 (σ 0 19) := ch_eq hp.1 c_8
    have hc := ht (σ 0 19) hp.1 c_8
    refine wp_aload_n hC dX9_isSign_11 rfl ?_
    refine wp_geta (k := 17) hC (rfl) (by decide) (rfl) (rfl) (by decide) uX9_isSign_X9 fX9_isSign_49 (rfl) dX9_isSign_12 ?_
    refine wp_aload_n hC dX9_isSign_15 rfl ?_
    refine wp_geti (k := 19) (z := 19) hC rfl (rfl) (by decide) (rfl) (rfl) (by decide) uX9_isSign_X9 fX9_isSign_170 (rfl) dX9_isSign_16 ?_
    refine wp_iald (n := 100) hC (rfl) (Nat.le_of_ble_eq_true rfl) (rfl) (by decide) (by omega) dX9_isSign_19 ?_
    refine wp_iload_n hC dX9_isSign_20 rfl ?_
    refine wp_iload_n hC dX9_isSign_21 rfl ?_
    refine wp_callSb (As := [_, _, _]) hC (c_X9_isIn hG _ (by omega) (by omega) (by omega)) gX9_isSign_X9_isIn rfl ⟨rfl, rfl⟩ ⟨by decide, by decide⟩ hySX9_isIn rfl (Nat.le_of_ble_eq_true rfl) dX9_isSign_22 (fun hx_22 => ?_)
    refine wp_ifb_eq (tgt := 32) hC dX9_isSign_25 (by decide) (fun c_25 => ?_) (fun c_25 => ?_)
    · refine wp_iconst hC dX9_isSign_32 ?_
      exact hret _ _ _ _ (by omega) rfl (⟨bI0 (by rw [e]; exact c_25), rfl⟩) dX9_isSign_33
    · refine wp_iconst hC dX9_isSign_28 ?_
      refine wp_goto (tgt := 33) hC dX9_isSign_29 (by decide) ?_
      exact hret _ _ _ _ (by omega) rfl (⟨bI1 (by rw [e]; exact c_25), rfl⟩) dX9_isSign_33

theorem hyVX9_goesOn : yX9_goesOn.cls = RX9 ∧ yX9_goesOn.cls ≠ "java/lang/invoke/MethodHandle" ∧ yX9_goesOn.cls ≠ "java/lang/invoke/VarHandle" ∧ (parseMethodDescriptor yX9_goesOn.desc).map (fun d => d.parameters.length) = some 1 := by decide +kernel
theorem uX9_goesOn_X9 : ∀ w ∈ u_ws RX9 TX9 35, w ∈ wsX9_goesOn := by decide +kernel
theorem fX9_goesOn_170 : Cond.fieldLink RX9 170 (TX9 19).1 (TX9 19).2.1 (TX9 19).2.2.1 ∈ wsX9_goesOn := by decide +kernel
set_option maxHeartbeats 4000000 in
set_option maxRecDepth 100000 in
theorem c_X9_goesOn {l : Launch} {G : Gy} (hG : Inj G) (σ : St) {a : Int} (hz : 0 ≤ σ 0 18 ∧ σ 0 18 ≤ 100) (ht : ∀ j, 0 ≤ j → j < σ 0 18 → 0 ≤ σ 12 j ∧ σ 12 j ≤ 126) (hp : 0 ≤ σ 0 19 ∧ σ 0 19 ≤ σ 0 18) (ha : 1 ≤ a ∧ a ≤ 200) : MI l yX9_goesOn wsX9_goesOn ({ frames := 2, cells := 0, slots := 0, locals := 44 } : Room) G [.ref (G.2.2 0), .int (zI (a))] σ (fun x σ2 => (ch (σ 12) (σ 0 18) (σ 0 19) = a ∧ x = 1 ∧ σ2 = put σ 0 19 (σ 0 19 + 1) ∧ σ 0 19 < σ 0 18) ∨ (ch (σ 12) (σ 0 18) (σ 0 19) ≠ a ∧ x = 0 ∧ σ2 = σ)) := by
  refine MI.of hG (by decide +kernel) rfl rfl (Nat.le_of_ble_eq_true rfl) rfl ?_
  intro p e s m args below meth c H0 Q hC hret
  refine wp_aload_n hC dX9_goesOn_0 rfl ?_
  refine wp_iload_n hC dX9_goesOn_1 rfl ?_
  refine wp_iload_n hC dX9_goesOn_2 rfl ?_
  refine wp_callVb (As := [_, _]) hC (c_X9_isSign hG _ hz ht hp (by omega) (by omega)) gX9_goesOn_X9_isSign rfl ⟨rfl, rfl⟩ ⟨by decide, by decide⟩ hyVX9_isSign (rfl) (by decide) (rfl) rfl (Nat.le_of_ble_eq_true rfl) dX9_goesOn_3 (fun hx_3 => ?_)
  refine wp_ifb_ne (tgt := 11) hC dX9_goesOn_6 (by decide) (fun c_6 => ?_) (fun c_6 => ?_)
  · refine wp_aload_n hC dX9_goesOn_11 rfl ?_
    refine wp_dup hC dX9_goesOn_12 rfl ?_
    refine wp_geti (k := 19) (z := 19) hC rfl (rfl) (by decide) (rfl) (rfl) (by decide) uX9_goesOn_X9 fX9_goesOn_170 (rfl) dX9_goesOn_13 ?_
    refine wp_iconst hC dX9_goesOn_16 ?_
    refine wp_iadd hC dX9_goesOn_17 ?_
    refine wp_puti2 (k := 19) (z := 19) hC rfl (rfl) (by decide) (rfl) (rfl) (by decide) uX9_goesOn_X9 fX9_goesOn_170 tyX9 tyX9_ok nmX9 rfl rfl (rfl) dX9_goesOn_18 ?_
    refine wp_iconst hC dX9_goesOn_21 ?_
    exact hret _ _ _ _ (by omega) rfl (Or.inl ⟨by omega, rfl, rfl, (ch_in (tp := σ 12) (z := σ 0 18) (q := σ 0 19) (by omega)).2⟩) dX9_goesOn_22
  · refine wp_iconst hC dX9_goesOn_9 ?_
    exact hret _ _ _ _ (by omega) rfl (Or.inr ⟨by omega, rfl, rfl⟩) dX9_goesOn_10

theorem hyVX9_faults : yX9_faults.cls = RX9 ∧ yX9_faults.cls ≠ "java/lang/invoke/MethodHandle" ∧ yX9_faults.cls ≠ "java/lang/invoke/VarHandle" ∧ (parseMethodDescriptor yX9_faults.desc).map (fun d => d.parameters.length) = some 1 := by decide +kernel
theorem uX9_faults_X9 : ∀ w ∈ u_ws RX9 TX9 35, w ∈ wsX9_faults := by decide +kernel
theorem fX9_faults_179 : Cond.fieldLink RX9 179 (TX9 20).1 (TX9 20).2.1 (TX9 20).2.2.1 ∈ wsX9_faults := by decide +kernel
set_option maxHeartbeats 4000000 in
set_option maxRecDepth 100000 in
theorem c_X9_faults {l : Launch} {G : Gy} (hG : Inj G) (σ : St) {a : Int} : ME l yX9_faults wsX9_faults ({ frames := 0, cells := 0, slots := 0, locals := 0 } : Room) G [.ref (G.2.2 0), .int (zI (a))] σ (-1) (put σ 0 20 a) := by
  refine MI.of hG (by decide +kernel) rfl rfl (Nat.le_of_ble_eq_true rfl) rfl ?_
  intro p e s m args below meth c H0 Q hC hret
  refine wp_aload_n hC dX9_faults_0 rfl ?_
  refine wp_iload_n hC dX9_faults_1 rfl ?_
  refine wp_puti2 (k := 20) (z := 20) hC rfl (rfl) (by decide) (rfl) (rfl) (by decide) uX9_faults_X9 fX9_faults_179 tyX9 tyX9_ok nmX9 rfl rfl (rfl) dX9_faults_2 ?_
  refine wp_iconst hC dX9_faults_5 ?_
  exact hret _ _ _ _ (by omega) rfl (⟨rfl, rfl⟩) dX9_faults_6

theorem hyVX9_number : yX9_number.cls = RX9 ∧ yX9_number.cls ≠ "java/lang/invoke/MethodHandle" ∧ yX9_number.cls ≠ "java/lang/invoke/VarHandle" ∧ (parseMethodDescriptor yX9_number.desc).map (fun d => d.parameters.length) = some 3 := by decide +kernel
theorem uX9_number_X9 : ∀ w ∈ u_ws RX9 TX9 35, w ∈ wsX9_number := by decide +kernel
theorem fX9_number_170 : Cond.fieldLink RX9 170 (TX9 19).1 (TX9 19).2.1 (TX9 19).2.2.1 ∈ wsX9_number := by decide +kernel
theorem fX9_number_49 : Cond.fieldLink RX9 49 (TX9 17).1 (TX9 17).2.1 (TX9 17).2.2.1 ∈ wsX9_number := by decide +kernel
set_option maxHeartbeats 4000000 in
set_option maxRecDepth 100000 in
theorem c_X9_number {l : Launch} {G : Gy} (hG : Inj G) (σ : St) {fg lo hi : Int} (hz : 0 ≤ σ 0 18 ∧ σ 0 18 ≤ 100) (ht : ∀ j, 0 ≤ j → j < σ 0 18 → 0 ≤ σ 12 j ∧ σ 12 j ≤ 126) (hp : 0 ≤ σ 0 19 ∧ σ 0 19 ≤ σ 0 18) (hf : fg = 1 ∨ fg = 2) (hlo : 0 ≤ lo ∧ lo ≤ 100) (hhi : 0 ≤ hi ∧ hi ≤ 100) : MI l yX9_number wsX9_number ({ frames := 2, cells := 0, slots := 0, locals := 44 } : Room) G [.ref (G.2.2 0), .int (zI (fg)), .int (zI (lo)), .int (zI (hi))] σ (fun x σ2 => ∃ a b, σ2 = PF σ a b ∧ (0 ≤ a ∧ a ≤ σ 0 18) ∧ ((0 ≤ (numF (σ 12) (σ 0 18) fg lo hi (σ 0 19)).1 ∧ x = (numF (σ 12) (σ 0 18) fg lo hi (σ 0 19)).1 ∧ a = (numF (σ 12) (σ 0 18) fg lo hi (σ 0 19)).2) ∨ ((numF (σ 12) (σ 0 18) fg lo hi (σ 0 19)).1 < 0 ∧ x = -1 ∧ b = (numF (σ 12) (σ 0 18) fg lo hi (σ 0 19)).2))) := by
  refine MI.of hG (by decide +kernel) rfl rfl (Nat.le_of_ble_eq_true rfl) rfl ?_
  intro p e s m args below meth c H0 Q hC hret
  have L9 : ∀ (n : Nat) (k v : Int), ((fg - k).toNat) = n → (0 ≤ k ∧ k ≤ fg) → (σ 0 19 + k ≤ σ 0 18) → ((k = 0 ∧ v = 0) ∨ (k = 1 ∧ (48 ≤ ch (σ 12) (σ 0 18) (σ 0 19) ∧ ch (σ 12) (σ 0 18) (σ 0 19) ≤ 57) ∧ v = ch (σ 12) (σ 0 18) (σ 0 19) - 48) ∨ (k = 2 ∧ (48 ≤ ch (σ 12) (σ 0 18) (σ 0 19) ∧ ch (σ 12) (σ 0 18) (σ 0 19) ≤ 57) ∧ (48 ≤ ch (σ 12) (σ 0 18) (σ 0 19 + 1) ∧ ch (σ 12) (σ 0 18) (σ 0 19 + 1) ≤ 57) ∧ v = 10 * (ch (σ 12) (σ 0 18) (σ 0 19) - 48) + ch (σ 12) (σ 0 18) (σ 0 19 + 1) - 48)) → wp p l e ({ frames := 2, cells := 0, slots := 0, locals := 44 } : Room) s m args below meth c (aA G (Array.size H0)) H0 6 Q G (put σ 0 19 (σ 0 19 + k)) 9 [(0, .ref (G.2.2 0)), (1, .int (zI (fg))), (2, .int (zI (lo))), (3, .int (zI (hi))), (4, .int (zI (σ 0 19))), (5, .int (zI (v)))] [] := by
    intro n9
    induction n9 using Nat.strongRecOn with
    | ind n9 ih =>
      intro k v hm9 h1 hp2 h2
      have hvr : 0 ≤ v ∧ v ≤ 99 := by omega
      refine wp_aload_n hC dX9_number_9 rfl ?_
      refine wp_geti (k := 19) (z := 19) hC rfl (rfl) (by decide) (rfl) (rfl) (by decide) uX9_number_X9 fX9_number_170 (rfl) dX9_number_10 ?_
      refine wp_top (b := σ 0 19 + k) put_s ?_
      refine wp_iload hC dX9_number_13 rfl ?_
      refine wp_iload_n hC dX9_number_15 rfl ?_
      refine wp_iadd hC dX9_number_16 ?_
      refine wp_icmp_ge (tgt := 64) hC dX9_number_17 (by decide) (by omega) (by omega) (fun c_17 => ?_) (fun c_17 => ?_)
      · have hnk : nk (σ 12) (σ 0 18) fg (σ 0 19) = k ∧ (k ≠ 0 → nv (σ 12) (σ 0 18) fg (σ 0 19) = v) := by
          unfold nv nk
          rcases h2 with ⟨q, q2⟩ | ⟨q, q2, q3⟩ | ⟨q, q2, q3, q4⟩
          · omega
          · rw [if_pos q2, if_neg (by omega)]
            exact ⟨q.symm, fun _ => by rw [if_neg (by decide)]; omega⟩
          · rw [if_pos q2, if_pos ⟨by omega, q3⟩]
            exact ⟨q.symm, fun _ => by rw [if_pos rfl]; omega⟩
        refine wp_aload_n hC dX9_number_64 rfl ?_
        refine wp_geti (k := 19) (z := 19) hC rfl (rfl) (by decide) (rfl) (rfl) (by decide) uX9_number_X9 fX9_number_170 (rfl) dX9_number_65 ?_
        refine wp_top (b := σ 0 19 + k) put_s ?_
        refine wp_iload hC dX9_number_68 rfl ?_
        refine wp_icmp_ne (tgt := 82) hC dX9_number_70 (by decide) (by omega) (by omega) (fun c_70 => ?_) (fun c_70 => ?_)
        · refine wp_iload hC dX9_number_82 rfl ?_
          refine wp_iload_n hC dX9_number_84 rfl ?_
          refine wp_iload_n hC dX9_number_85 rfl ?_
          refine wp_callSb (As := [_, _, _]) hC (c_X9_isIn hG _ (by omega) (by omega) (by omega)) gX9_number_X9_isIn rfl ⟨rfl, rfl⟩ ⟨by decide, by decide⟩ hySX9_isIn rfl (Nat.le_of_ble_eq_true rfl) dX9_number_86 (fun hx_86 => ?_)
          refine wp_ifb_eq (tgt := 97) hC dX9_number_89 (by decide) (fun c_89 => ?_) (fun c_89 => ?_)
          · have hN : numF (σ 12) (σ 0 18) fg lo hi (σ 0 19) = (-1, σ 0 19) := by
              unfold numF
              rw [hnk.1, hnk.2 (by omega), if_neg (fun y => c_89 y.2)]
            refine wp_aload_n hC dX9_number_97 rfl ?_
            refine wp_iload hC dX9_number_98 rfl ?_
            refine wp_callVe (As := [_]) hC (c_X9_faults hG _) gX9_number_X9_faults rfl ⟨rfl, rfl⟩ ⟨by decide, by decide⟩ hyVX9_faults (rfl) (by decide) (rfl) rfl (Nat.le_of_ble_eq_true rfl) dX9_number_100 (fun hx_100 => ?_)
            exact hret _ _ _ _ (by omega) rfl (⟨σ 0 19 + k, σ 0 19, rfl, by omega, Or.inr ⟨by rw [hN]; show (-1 : Int) < 0; decide, rfl, by rw [hN]⟩⟩) dX9_number_103
          · have hN : numF (σ 12) (σ 0 18) fg lo hi (σ 0 19) = (v, σ 0 19 + k) := by
              unfold numF
              rw [hnk.1, hnk.2 (by omega), if_pos ⟨by omega, c_89⟩]
            refine wp_iload hC dX9_number_92 rfl ?_
            refine wp_goto (tgt := 103) hC dX9_number_94 (by decide) ?_
            exact hret _ _ _ _ (by omega) rfl (⟨σ 0 19 + k, σ 0 20, PF_0, by omega, Or.inl ⟨by rw [hN]; exact hvr.1, by rw [hN], by rw [hN]⟩⟩) dX9_number_103
        · have hN : numF (σ 12) (σ 0 18) fg lo hi (σ 0 19) = (-1, σ 0 19) := by
            unfold numF
            rw [if_neg (by omega)]
          refine wp_aload_n hC dX9_number_73 rfl ?_
          refine wp_aload_n hC dX9_number_74 rfl ?_
          refine wp_geti (k := 19) (z := 19) hC rfl (rfl) (by decide) (rfl) (rfl) (by decide) uX9_number_X9 fX9_number_170 (rfl) dX9_number_75 ?_
          refine wp_top (b := σ 0 19 + k) put_s ?_
          refine wp_callVe (As := [_]) hC (c_X9_faults hG _) gX9_number_X9_faults rfl ⟨rfl, rfl⟩ ⟨by decide, by decide⟩ hyVX9_faults (rfl) (by decide) (rfl) rfl (Nat.le_of_ble_eq_true rfl) dX9_number_78 (fun hx_78 => ?_)
          exact hret _ _ _ _ (by omega) rfl (⟨σ 0 19 + k, σ 0 19 + k, rfl, by omega, Or.inr ⟨by rw [hN]; show (-1 : Int) < 0; decide, rfl, by rw [hN]; show σ 0 19 + k = σ 0 19; omega⟩⟩) dX9_number_81
      · refine wp_aload_n hC dX9_number_20 rfl ?_
        refine wp_bipush hC dX9_number_21 rfl ?_
        refine wp_bipush hC dX9_number_23 rfl ?_
        refine wp_callVb (As := [_, _]) hC (c_X9_isSign hG (put σ 0 19 (σ 0 19 + k)) hz ht (show 0 ≤ σ 0 19 + k ∧ σ 0 19 + k ≤ σ 0 18 by omega) (by omega) (by omega)) gX9_number_X9_isSign rfl ⟨rfl, rfl⟩ ⟨by decide, by decide⟩ hyVX9_isSign (rfl) (by decide) (rfl) rfl (Nat.le_of_ble_eq_true rfl) dX9_number_25 (fun hx_25 => ?_)
        refine wp_ifb_eq (tgt := 64) hC dX9_number_28 (by decide) (fun c_28 => ?_) (fun c_28 => ?_)
        · have hnk : nk (σ 12) (σ 0 18) fg (σ 0 19) = k ∧ (k ≠ 0 → nv (σ 12) (σ 0 18) fg (σ 0 19) = v) := by
            have c28 : ¬ (48 ≤ ch (σ 12) (σ 0 18) (σ 0 19 + k) ∧ ch (σ 12) (σ 0 18) (σ 0 19 + k) ≤ 57) := c_28
            unfold nv nk
            rcases h2 with ⟨q, q2⟩ | ⟨q, q2, q3⟩ | ⟨q, q2, q3, q4⟩
            · rw [q, Int.add_zero] at c28
              rw [if_neg c28]
              omega
            · rw [q] at c28
              rw [if_pos q2, if_neg (by omega)]
              exact ⟨q.symm, fun _ => by rw [if_neg (by decide)]; omega⟩
            · rw [if_pos q2, if_pos ⟨by omega, q3⟩]
              exact ⟨q.symm, fun _ => by rw [if_pos rfl]; omega⟩
          refine wp_aload_n hC dX9_number_64 rfl ?_
          refine wp_geti (k := 19) (z := 19) hC rfl (rfl) (by decide) (rfl) (rfl) (by decide) uX9_number_X9 fX9_number_170 (rfl) dX9_number_65 ?_
          refine wp_top (b := σ 0 19 + k) put_s ?_
          refine wp_iload hC dX9_number_68 rfl ?_
          refine wp_icmp_ne (tgt := 82) hC dX9_number_70 (by decide) (by omega) (by omega) (fun c_70 => ?_) (fun c_70 => ?_)
          · refine wp_iload hC dX9_number_82 rfl ?_
            refine wp_iload_n hC dX9_number_84 rfl ?_
            refine wp_iload_n hC dX9_number_85 rfl ?_
            refine wp_callSb (As := [_, _, _]) hC (c_X9_isIn hG _ (by omega) (by omega) (by omega)) gX9_number_X9_isIn rfl ⟨rfl, rfl⟩ ⟨by decide, by decide⟩ hySX9_isIn rfl (Nat.le_of_ble_eq_true rfl) dX9_number_86 (fun hx_86 => ?_)
            refine wp_ifb_eq (tgt := 97) hC dX9_number_89 (by decide) (fun c_89 => ?_) (fun c_89 => ?_)
            · have hN : numF (σ 12) (σ 0 18) fg lo hi (σ 0 19) = (-1, σ 0 19) := by
                unfold numF
                rw [hnk.1, hnk.2 (by omega), if_neg (fun y => c_89 y.2)]
              refine wp_aload_n hC dX9_number_97 rfl ?_
              refine wp_iload hC dX9_number_98 rfl ?_
              refine wp_callVe (As := [_]) hC (c_X9_faults hG _) gX9_number_X9_faults rfl ⟨rfl, rfl⟩ ⟨by decide, by decide⟩ hyVX9_faults (rfl) (by decide) (rfl) rfl (Nat.le_of_ble_eq_true rfl) dX9_number_100 (fun hx_100 => ?_)
              exact hret _ _ _ _ (by omega) rfl (⟨σ 0 19 + k, σ 0 19, rfl, by omega, Or.inr ⟨by rw [hN]; show (-1 : Int) < 0; decide, rfl, by rw [hN]⟩⟩) dX9_number_103
            · have hN : numF (σ 12) (σ 0 18) fg lo hi (σ 0 19) = (v, σ 0 19 + k) := by
                unfold numF
                rw [hnk.1, hnk.2 (by omega), if_pos ⟨by omega, c_89⟩]
              refine wp_iload hC dX9_number_92 rfl ?_
              refine wp_goto (tgt := 103) hC dX9_number_94 (by decide) ?_
              exact hret _ _ _ _ (by omega) rfl (⟨σ 0 19 + k, σ 0 20, PF_0, by omega, Or.inl ⟨by rw [hN]; exact hvr.1, by rw [hN], by rw [hN]⟩⟩) dX9_number_103
          · have hN : numF (σ 12) (σ 0 18) fg lo hi (σ 0 19) = (-1, σ 0 19) := by
              unfold numF
              rw [if_neg (by omega)]
            refine wp_aload_n hC dX9_number_73 rfl ?_
            refine wp_aload_n hC dX9_number_74 rfl ?_
            refine wp_geti (k := 19) (z := 19) hC rfl (rfl) (by decide) (rfl) (rfl) (by decide) uX9_number_X9 fX9_number_170 (rfl) dX9_number_75 ?_
            refine wp_top (b := σ 0 19 + k) put_s ?_
            refine wp_callVe (As := [_]) hC (c_X9_faults hG _) gX9_number_X9_faults rfl ⟨rfl, rfl⟩ ⟨by decide, by decide⟩ hyVX9_faults (rfl) (by decide) (rfl) rfl (Nat.le_of_ble_eq_true rfl) dX9_number_78 (fun hx_78 => ?_)
            exact hret _ _ _ _ (by omega) rfl (⟨σ 0 19 + k, σ 0 19 + k, rfl, by omega, Or.inr ⟨by rw [hN]; show (-1 : Int) < 0; decide, rfl, by rw [hN]; show σ 0 19 + k = σ 0 19; omega⟩⟩) dX9_number_81
        · have c28 : 48 ≤ ch (σ 12) (σ 0 18) (σ 0 19 + k) ∧ ch (σ 12) (σ 0 18) (σ 0 19 + k) ≤ 57 := c_28
          have hci := ch_in (tp := σ 12) (z := σ 0 18) (q := σ 0 19 + k) (by omega)
          refine wp_bipush hC dX9_number_31 rfl ?_
          refine wp_iload hC dX9_number_33 rfl ?_
          refine wp_imul hC dX9_number_35 ?_
          refine wp_aload_n hC dX9_number_36 rfl ?_
          refine wp_geta (k := 17) hC (rfl) (by decide) (rfl) (rfl) (by decide) uX9_number_X9 fX9_number_49 (rfl) dX9_number_37 ?_
          refine wp_aload_n hC dX9_number_40 rfl ?_
          refine wp_geti (k := 19) (z := 19) hC rfl (rfl) (by decide) (rfl) (rfl) (by decide) uX9_number_X9 fX9_number_170 (rfl) dX9_number_41 ?_
          refine wp_top (b := σ 0 19 + k) put_s ?_
          refine wp_iald (n := 100) hC (rfl) (Nat.le_of_ble_eq_true rfl) (rfl) (by decide) (by omega) dX9_number_44 ?_
          refine wp_top (b := ch (σ 12) (σ 0 18) (σ 0 19 + k)) (ch_eq hci.1 hci.2).symm ?_
          refine wp_iadd hC dX9_number_45 ?_
          refine wp_bipush hC dX9_number_46 rfl ?_
          refine wp_isub hC dX9_number_48 ?_
          refine wp_istore (lv2 := [(0, _), (1, _), (2, _), (3, _), (4, _), (5, _)]) hC dX9_number_49 rfl (by decide) ?_
          refine wp_aload_n hC dX9_number_51 rfl ?_
          refine wp_dup hC dX9_number_52 rfl ?_
          refine wp_geti (k := 19) (z := 19) hC rfl (rfl) (by decide) (rfl) (rfl) (by decide) uX9_number_X9 fX9_number_170 (rfl) dX9_number_53 ?_
          refine wp_top (b := σ 0 19 + k) put_s ?_
          refine wp_iconst hC dX9_number_56 ?_
          refine wp_iadd hC dX9_number_57 ?_
          refine wp_puti2 (k := 19) (z := 19) hC rfl (rfl) (by decide) (rfl) (rfl) (by decide) uX9_number_X9 fX9_number_170 tyX9 tyX9_ok nmX9 rfl rfl (rfl) dX9_number_58 ?_
          refine wp_goto (tgt := 9) hC dX9_number_61 (by decide) ?_
          refine wp_st (σ2 := put σ 0 19 (σ 0 19 + (k + 1))) (by rw [put_put, Int.add_assoc]) ?_
          exact ih _ (by omega) _ _ rfl (by omega) (by omega) (by
            rcases h2 with ⟨q, q2⟩ | ⟨q, q2, q3⟩ | ⟨q, _⟩
            · rw [q, Int.add_zero] at c28
              rw [q, Int.add_zero]
              exact Or.inr (Or.inl ⟨by omega, c28, by omega⟩)
            · rw [q] at c28
              rw [q]
              exact Or.inr (Or.inr ⟨by omega, q2, c28, by omega⟩)
            · omega)
  refine wp_aload_n hC dX9_number_0 rfl ?_
  refine wp_geti (k := 19) (z := 19) hC rfl (rfl) (by decide) (rfl) (rfl) (by decide) uX9_number_X9 fX9_number_170 (rfl) dX9_number_1 ?_
  refine wp_istore (lv2 := [(0, _), (1, _), (2, _), (3, _), (4, _)]) hC dX9_number_4 rfl (by decide) ?_
  refine wp_iconst hC dX9_number_6 ?_
  refine wp_istore (lv2 := [(0, _), (1, _), (2, _), (3, _), (4, _), (5, _)]) hC dX9_number_7 rfl (by decide) ?_
  refine wp_st (σ2 := put σ 0 19 (σ 0 19 + 0)) (by rw [Int.add_zero]; exact PF_1) ?_
  exact L9 _ _ _ rfl (by omega) (by omega) (Or.inl ⟨rfl, rfl⟩)

theorem hyVX9_letters : yX9_letters.cls = RX9 ∧ yX9_letters.cls ≠ "java/lang/invoke/MethodHandle" ∧ yX9_letters.cls ≠ "java/lang/invoke/VarHandle" ∧ (parseMethodDescriptor yX9_letters.desc).map (fun d => d.parameters.length) = some 0 := by decide +kernel
theorem uX9_letters_X9 : ∀ w ∈ u_ws RX9 TX9 35, w ∈ wsX9_letters := by decide +kernel
theorem fX9_letters_170 : Cond.fieldLink RX9 170 (TX9 19).1 (TX9 19).2.1 (TX9 19).2.2.1 ∈ wsX9_letters := by decide +kernel
theorem fX9_letters_49 : Cond.fieldLink RX9 49 (TX9 17).1 (TX9 17).2.1 (TX9 17).2.2.1 ∈ wsX9_letters := by decide +kernel
set_option maxHeartbeats 4000000 in
set_option maxRecDepth 100000 in
theorem c_X9_letters {l : Launch} {G : Gy} (hG : Inj G) (σ : St) (hz : 0 ≤ σ 0 18 ∧ σ 0 18 ≤ 100) (ht : ∀ j, 0 ≤ j → j < σ 0 18 → 0 ≤ σ 12 j ∧ σ 12 j ≤ 126) (hp : 0 ≤ σ 0 19 ∧ σ 0 19 ≤ σ 0 18) : MI l yX9_letters wsX9_letters ({ frames := 2, cells := 0, slots := 0, locals := 44 } : Room) G [.ref (G.2.2 0)] σ (fun x σ2 => ∃ a b r, σ2 = PF σ a b ∧ (0 ≤ a ∧ a ≤ σ 0 18) ∧ letF (σ 12) (σ 0 18) (σ 0 19) r ∧ ((0 ≤ r.1 ∧ x = r.1 ∧ a = r.2) ∨ (r.1 < 0 ∧ x = -1 ∧ b = r.2))) := by
  refine MI.of hG (by decide +kernel) rfl rfl (Nat.le_of_ble_eq_true rfl) rfl ?_
  intro p e s m args below meth c H0 Q hC hret
  have L2 : ∀ (n : Nat) (k : Nat), (100 - k) = n → (σ 0 19 + k ≤ σ 0 18) → (∀ j, j < k → vlt (σ 12) (σ 0 18) (σ 0 19) j) → wp p l e ({ frames := 2, cells := 0, slots := 0, locals := 44 } : Room) s m args below meth c (aA G (Array.size H0)) H0 3 Q G (put σ 0 19 (σ 0 19 + k)) 2 [(0, .ref (G.2.2 0)), (1, .int (zI (bts (σ 12) (σ 0 18) (σ 0 19) k)))] [] := by
    intro n2
    induction n2 using Nat.strongRecOn with
    | ind n2 ih =>
      intro k hm2 hp2 h2
      have hbi := bts_inv h2
      refine wp_aload_n hC dX9_letters_2 rfl ?_
      refine wp_bipush hC dX9_letters_3 rfl ?_
      refine wp_bipush hC dX9_letters_5 rfl ?_
      refine wp_callVb (As := [_, _]) hC (c_X9_isSign hG (put σ 0 19 (σ 0 19 + k)) hz ht (show 0 ≤ σ 0 19 + k ∧ σ 0 19 + k ≤ σ 0 18 by omega) (by omega) (by omega)) gX9_letters_X9_isSign rfl ⟨rfl, rfl⟩ ⟨by decide, by decide⟩ hyVX9_isSign (rfl) (by decide) (rfl) rfl (Nat.le_of_ble_eq_true rfl) dX9_letters_7 (fun hx_7 => ?_)
      refine wp_ifb_eq (tgt := 60) hC dX9_letters_10 (by decide) (fun c_10 => ?_) (fun c_10 => ?_)
      · have c10 : ¬ (97 ≤ ch (σ 12) (σ 0 18) (σ 0 19 + k) ∧ ch (σ 12) (σ 0 18) (σ 0 19 + k) ≤ 99) := c_10
        refine wp_iload_n hC dX9_letters_60 rfl ?_
        refine wp_if_ne (tgt := 75) hC dX9_letters_61 (by decide) (by omega) (fun c_61 => ?_) (fun c_61 => ?_)
        · have hk0 : ¬ k = 0 := fun y => by subst y; exact c_61 rfl
          refine wp_iload_n hC dX9_letters_75 rfl ?_
          exact hret _ _ _ _ (by omega) rfl (⟨σ 0 19 + k, σ 0 20, (bts (σ 12) (σ 0 18) (σ 0 19) k, σ 0 19 + k), PF_0, by omega, ⟨k, h2, fun y => c10 y.1, by rw [if_neg c10, if_neg hk0]⟩, Or.inl ⟨hbi.1.1, rfl, rfl⟩⟩) dX9_letters_76
        · have hk0 : k = 0 := by omega
          refine wp_aload_n hC dX9_letters_64 rfl ?_
          refine wp_aload_n hC dX9_letters_65 rfl ?_
          refine wp_geti (k := 19) (z := 19) hC rfl (rfl) (by decide) (rfl) (rfl) (by decide) uX9_letters_X9 fX9_letters_170 (rfl) dX9_letters_66 ?_
          refine wp_top (b := σ 0 19 + k) put_s ?_
          refine wp_callVe (As := [_]) hC (c_X9_faults hG _) gX9_letters_X9_faults rfl ⟨rfl, rfl⟩ ⟨by decide, by decide⟩ hyVX9_faults (rfl) (by decide) (rfl) rfl (Nat.le_of_ble_eq_true rfl) dX9_letters_69 (fun hx_69 => ?_)
          refine wp_goto (tgt := 76) hC dX9_letters_72 (by decide) ?_
          exact hret _ _ _ _ (by omega) rfl (⟨σ 0 19 + k, σ 0 19 + k, (-1, σ 0 19), rfl, by omega, ⟨k, h2, fun y => c10 y.1, by rw [if_neg c10, if_pos hk0]⟩, Or.inr ⟨show (-1 : Int) < 0 by decide, rfl, by show σ 0 19 + k = σ 0 19; omega⟩⟩) dX9_letters_76
      · have c10 : 97 ≤ ch (σ 12) (σ 0 18) (σ 0 19 + k) ∧ ch (σ 12) (σ 0 18) (σ 0 19 + k) ≤ 99 := c_10
        have hci := ch_in (tp := σ 12) (z := σ 0 18) (q := σ 0 19 + k) (by omega)
        have hb3 := bit3' hbi.1 (c := ch (σ 12) (σ 0 18) (σ 0 19 + k) - 97) (by omega)
        have hpb := pw_b (o := ch (σ 12) (σ 0 18) (σ 0 19 + k) - 97) (by omega)
        refine wp_iconst hC dX9_letters_13 ?_
        refine wp_aload_n hC dX9_letters_14 rfl ?_
        refine wp_geta (k := 17) hC (rfl) (by decide) (rfl) (rfl) (by decide) uX9_letters_X9 fX9_letters_49 (rfl) dX9_letters_15 ?_
        refine wp_aload_n hC dX9_letters_18 rfl ?_
        refine wp_geti (k := 19) (z := 19) hC rfl (rfl) (by decide) (rfl) (rfl) (by decide) uX9_letters_X9 fX9_letters_170 (rfl) dX9_letters_19 ?_
        refine wp_top (b := σ 0 19 + k) put_s ?_
        refine wp_iald (n := 100) hC (rfl) (Nat.le_of_ble_eq_true rfl) (rfl) (by decide) (by omega) dX9_letters_22 ?_
        refine wp_top (b := ch (σ 12) (σ 0 18) (σ 0 19 + k)) (ch_eq hci.1 hci.2).symm ?_
        refine wp_bipush hC dX9_letters_23 rfl ?_
        refine wp_isub hC dX9_letters_25 ?_
        refine wp_ishl hC dX9_letters_26 ?_
        refine wp_top (b := pw (ch (σ 12) (σ 0 18) (σ 0 19 + k) - 97)) (ishl_1 (by omega) (by omega)) ?_
        refine wp_istore_n (lv2 := [(0, _), (1, _), (2, _)]) hC dX9_letters_27 rfl (by decide) ?_
        refine wp_iload_n hC dX9_letters_28 rfl ?_
        refine wp_iload_n hC dX9_letters_29 rfl ?_
        refine wp_iand hC dX9_letters_30 ?_
        refine wp_if_eq (tgt := 43) hC dX9_letters_31 (by decide) (by have := iand_nn (b := pw (ch (σ 12) (σ 0 18) (σ 0 19 + k) - 97)) (a := bts (σ 12) (σ 0 18) (σ 0 19) k) (by omega); omega) (fun c_31 => ?_) (fun c_31 => ?_)
        · have hd : tb (bts (σ 12) (σ 0 18) (σ 0 19) k) (ch (σ 12) (σ 0 18) (σ 0 19 + k) - 97) = false := by
            cases q : tb (bts (σ 12) (σ 0 18) (σ 0 19) k) (ch (σ 12) (σ 0 18) (σ 0 19 + k) - 97)
            · rfl
            · exact absurd c_31 (hb3.2 q)
          refine wp_iload_n hC dX9_letters_43 rfl ?_
          refine wp_iload_n hC dX9_letters_44 rfl ?_
          refine wp_ior hC dX9_letters_45 ?_
          refine wp_top (b := bts (σ 12) (σ 0 18) (σ 0 19) (k + 1)) (hb3.1 hd).1 ?_
          refine wp_istore_n (lv2 := [(0, _), (1, _), (2, _)]) hC dX9_letters_46 rfl (by decide) ?_
          refine wp_aload_n hC dX9_letters_47 rfl ?_
          refine wp_dup hC dX9_letters_48 rfl ?_
          refine wp_geti (k := 19) (z := 19) hC rfl (rfl) (by decide) (rfl) (rfl) (by decide) uX9_letters_X9 fX9_letters_170 (rfl) dX9_letters_49 ?_
          refine wp_top (b := σ 0 19 + k) put_s ?_
          refine wp_iconst hC dX9_letters_52 ?_
          refine wp_iadd hC dX9_letters_53 ?_
          refine wp_puti2 (k := 19) (z := 19) hC rfl (rfl) (by decide) (rfl) (rfl) (by decide) uX9_letters_X9 fX9_letters_170 tyX9 tyX9_ok nmX9 rfl rfl (rfl) dX9_letters_54 ?_
          refine wp_goto (tgt := 2) hC dX9_letters_57 (by decide) ?_
          refine wp_lv hC [0, 1] rfl ?_
          refine wp_st (σ2 := put σ 0 19 (σ 0 19 + (k + 1 : Nat))) (by rw [put_put, Int.add_assoc]; rfl) ?_
          exact ih _ (by omega) (k + 1) rfl (by omega) (fun j a => by
            rcases Nat.lt_or_ge j k with y | y
            · exact h2 j y
            · rw [show j = k by omega]; exact ⟨c10, hd⟩)
        · have hd : tb (bts (σ 12) (σ 0 18) (σ 0 19) k) (ch (σ 12) (σ 0 18) (σ 0 19 + k) - 97) = true := by
            cases q : tb (bts (σ 12) (σ 0 18) (σ 0 19) k) (ch (σ 12) (σ 0 18) (σ 0 19 + k) - 97)
            · exact absurd (hb3.1 q).2 c_31
            · rfl
          refine wp_aload_n hC dX9_letters_34 rfl ?_
          refine wp_aload_n hC dX9_letters_35 rfl ?_
          refine wp_geti (k := 19) (z := 19) hC rfl (rfl) (by decide) (rfl) (rfl) (by decide) uX9_letters_X9 fX9_letters_170 (rfl) dX9_letters_36 ?_
          refine wp_top (b := σ 0 19 + k) put_s ?_
          refine wp_callVe (As := [_]) hC (c_X9_faults hG _) gX9_letters_X9_faults rfl ⟨rfl, rfl⟩ ⟨by decide, by decide⟩ hyVX9_faults (rfl) (by decide) (rfl) rfl (Nat.le_of_ble_eq_true rfl) dX9_letters_39 (fun hx_39 => ?_)
          exact hret _ _ _ _ (by omega) rfl (⟨σ 0 19 + k, σ 0 19 + k, (-1, σ 0 19 + k), rfl, by omega, ⟨k, h2, fun y => Bool.noConfusion (hd.symm.trans y.2), by rw [if_pos c10]⟩, Or.inr ⟨show (-1 : Int) < 0 by decide, rfl, rfl⟩⟩) dX9_letters_42
  refine wp_iconst hC dX9_letters_0 ?_
  refine wp_istore_n (lv2 := [(0, _), (1, _)]) hC dX9_letters_1 rfl (by decide) ?_
  refine wp_st (σ2 := put σ 0 19 (σ 0 19 + (0 : Nat))) (by rw [show ((0 : Nat) : Int) = 0 from rfl, Int.add_zero]; exact PF_1) ?_
  exact L2 _ 0 rfl (by omega) (fun j a => absurd a (Nat.not_lt_zero j))
