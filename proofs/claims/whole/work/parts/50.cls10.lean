/-- something read: what it is and where it ends, or where the fault is -/
def RDB (σ : St) (r : Int × Int) (x : Int) (σ2 : St) : Prop := (0 ≤ r.1 ∧ x = r.1 ∧ σ2 = put σ 89 2 r.2) ∨ (r.1 < 0 ∧ (0 ≤ x ∧ x ≤ 7) ∧ σ2 = put (put σ 89 2 r.2) 89 3 r.2)
def RIB (σ : St) (x : Int) (σ2 : St) : Prop := ∃ r, letF (σ 90) (σ 89 1) (σ 89 2) r ∧ RDB σ r x σ2

theorem hyVX7_readItems : yX7_readItems.cls = RX7 ∧ yX7_readItems.cls ≠ "java/lang/invoke/MethodHandle" ∧ yX7_readItems.cls ≠ "java/lang/invoke/VarHandle" ∧ (parseMethodDescriptor yX7_readItems.desc).map (fun d => d.parameters.length) = some 0 := by decide +kernel
theorem uX7_readItems_X7 : ∀ w ∈ u_ws RX7 TX7 4, w ∈ wsX7_readItems := by decide +kernel
theorem fX7_readItems_23 : Cond.fieldLink RX7 23 (TX7 2).1 (TX7 2).2.1 (TX7 2).2.2.1 ∈ wsX7_readItems := by decide +kernel
theorem fX7_readItems_15 : Cond.fieldLink RX7 15 (TX7 1).1 (TX7 1).2.1 (TX7 1).2.2.1 ∈ wsX7_readItems := by decide +kernel
theorem fX7_readItems_26 : Cond.fieldLink RX7 26 (TX7 3).1 (TX7 3).2.1 (TX7 3).2.2.1 ∈ wsX7_readItems := by decide +kernel
set_option maxHeartbeats 8000000 in
set_option maxRecDepth 100000 in
theorem c_X7_readItems {l : Launch} {G : Gy} (hG : Inj G) (σ : St) (hz : 0 ≤ σ 89 1 ∧ σ 89 1 ≤ 100) (ha : 0 ≤ σ 89 2 ∧ σ 89 2 ≤ 900) (hs : ∀ k, 0 ≤ k → k < 100 → 0 ≤ σ 90 k ∧ σ 90 k ≤ 126) : MI l yX7_readItems wsX7_readItems ({ frames := 1, cells := 0, slots := 0, locals := 20 } : Room) G [.ref (G.2.2 89)] σ (RIB σ) := by
  refine MI.of hG (by decide +kernel) rfl rfl (Nat.le_of_ble_eq_true rfl) rfl ?_
  intro p e s m args below meth c H0 Q hC hret
  obtain ⟨q, hq⟩ : ∃ q, σ 89 2 = q := ⟨_, rfl⟩
  rw [hq] at ha
  have L2 : ∀ (n : Nat) (k : Nat), (100 - k) = n → (∀ j, j < k → vlt (σ 90) (σ 89 1) q j) → wp p l e ({ frames := 1, cells := 0, slots := 0, locals := 20 } : Room) s m args below meth c (aA G (Array.size H0)) H0 3 Q G (put σ 89 2 (q + (k : Int))) 2 [(0, .ref (G.2.2 89)), (1, .int (zI (bts (σ 90) (σ 89 1) q k)))] [] := by
    intro n2
    induction n2 using Nat.strongRecOn with
    | ind n2 ih =>
      intro k hm2 h2
      have hbi := bts_inv h2
      have hk7 : (k : Int) ≤ 3 := by have := hbi.2; omega
      have hcr := cx_rng (q := q + k) hz hs
      have hat : put σ 89 2 (q + (k : Int)) 89 2 = q + k := put_s
      have hsg : sgn (put σ 89 2 (q + (k : Int))) = cx σ (q + k) := by rw [sgn_ch (σ := (put σ 89 2 (q + (k : Int)))) hz (by rw [put_s]; omega), put_s]; rfl
      refine wp_aload_n hC dX7_readItems_2 rfl ?_
      refine wp_geti (k := 2) (z := 2) hC rfl (rfl) (by decide) (rfl) (rfl) (by decide) uX7_readItems_X7 fX7_readItems_23 (rfl) dX7_readItems_3 ?_
      refine wp_top (b := q + k) hat ?_
      refine wp_aload_n hC dX7_readItems_6 rfl ?_
      refine wp_geti (k := 1) (z := 1) hC rfl (rfl) (by decide) (rfl) (rfl) (by decide) uX7_readItems_X7 fX7_readItems_15 (rfl) dX7_readItems_7 ?_
      refine wp_top (b := σ 89 1) (put_k (by decide)) ?_
      refine wp_icmp_ge (tgt := 74) hC dX7_readItems_10 (by decide) (by omega) (by omega) (fun c_10 => ?_) (fun c_10 => ?_)
      · have c10 : ¬ (97 ≤ cx σ (q + k) ∧ cx σ (q + k) ≤ 99) := fun z => by
          have e : cx σ (q + k) = 0 := ch_end (show σ 89 1 ≤ q + k by have c_10 : σ 89 1 ≤ q + k := c_10; omega)
          omega
        refine wp_iload_n hC dX7_readItems_74 rfl ?_
        refine wp_if_ne (tgt := 86) hC dX7_readItems_75 (by decide) (by omega) (fun c_75 => ?_) (fun c_75 => ?_)
        · have hk0 : ¬ k = 0 := fun y => by subst y; exact c_75 rfl
          refine wp_iload_n hC dX7_readItems_86 rfl ?_
          exact hret _ _ _ _ (by omega) rfl (⟨(bts (σ 90) (σ 89 1) q k, q + k), ⟨k, by rw [hq]; exact h2, by rw [hq]; exact fun y => c10 y.1, by rw [hq]; exact ((if_neg c10).trans (if_neg hk0)).symm⟩, Or.inl ⟨hbi.1.1, rfl, rfl⟩⟩) dX7_readItems_87
        · have hk0 : k = 0 := by omega
          refine wp_aload_n hC dX7_readItems_78 rfl ?_
          refine wp_aload_n hC dX7_readItems_79 rfl ?_
          refine wp_geti (k := 2) (z := 2) hC rfl (rfl) (by decide) (rfl) (rfl) (by decide) uX7_readItems_X7 fX7_readItems_23 (rfl) dX7_readItems_80 ?_
          refine wp_top (b := q + k) hat ?_
          refine wp_puti2 (k := 3) (z := 3) hC rfl (rfl) (by decide) (rfl) (rfl) (by decide) uX7_readItems_X7 fX7_readItems_26 tyX7 tyX7_ok nmX7 rfl rfl (rfl) dX7_readItems_83 ?_
          refine wp_iload_n hC dX7_readItems_86 rfl ?_
          exact hret _ _ _ _ (by omega) rfl (⟨(-1, q), ⟨k, by rw [hq]; exact h2, by rw [hq]; exact fun y => c10 y.1, by rw [hq]; exact ((if_neg c10).trans (if_pos hk0)).symm⟩, Or.inr ⟨show (-1 : Int) < 0 by decide, hbi.1, by rw [hk0]; show put (put σ 89 2 (q + 0)) 89 3 (q + 0) = _; rw [Int.add_zero]⟩⟩) dX7_readItems_87
      · refine wp_aload_n hC dX7_readItems_13 rfl ?_
        refine wp_callVe (As := []) hC (c_X7_sign hG (put σ 89 2 (q + (k : Int))) (show iR (σ 89 1) by omega) (show 0 ≤ put σ 89 2 (q + (k : Int)) 89 2 ∧ put σ 89 2 (q + (k : Int)) 89 2 ≤ 1000 by rw [hat]; omega) (fun k a b => by have := hs k a b; exact (show 0 ≤ σ 90 k ∧ σ 90 k < 65536 by omega))) gX7_readItems_X7_sign rfl ⟨rfl, rfl⟩ ⟨by decide, by decide⟩ hyVX7_sign (rfl) (by decide) (rfl) rfl (Nat.le_of_ble_eq_true rfl) dX7_readItems_14 (fun hx_14 => ?_)
        refine wp_top (b := cx σ (q + k)) hsg ?_
        refine wp_bipush hC dX7_readItems_17 rfl ?_
        refine wp_icmp_lt (tgt := 74) hC dX7_readItems_19 (by decide) (by omega) (by omega) (fun c_19 => ?_) (fun c_19 => ?_)
        · have c10 : ¬ (97 ≤ cx σ (q + k) ∧ cx σ (q + k) ≤ 99) := fun z => by omega
          refine wp_iload_n hC dX7_readItems_74 rfl ?_
          refine wp_if_ne (tgt := 86) hC dX7_readItems_75 (by decide) (by omega) (fun c_75 => ?_) (fun c_75 => ?_)
          · have hk0 : ¬ k = 0 := fun y => by subst y; exact c_75 rfl
            refine wp_iload_n hC dX7_readItems_86 rfl ?_
            exact hret _ _ _ _ (by omega) rfl (⟨(bts (σ 90) (σ 89 1) q k, q + k), ⟨k, by rw [hq]; exact h2, by rw [hq]; exact fun y => c10 y.1, by rw [hq]; exact ((if_neg c10).trans (if_neg hk0)).symm⟩, Or.inl ⟨hbi.1.1, rfl, rfl⟩⟩) dX7_readItems_87
          · have hk0 : k = 0 := by omega
            refine wp_aload_n hC dX7_readItems_78 rfl ?_
            refine wp_aload_n hC dX7_readItems_79 rfl ?_
            refine wp_geti (k := 2) (z := 2) hC rfl (rfl) (by decide) (rfl) (rfl) (by decide) uX7_readItems_X7 fX7_readItems_23 (rfl) dX7_readItems_80 ?_
            refine wp_top (b := q + k) hat ?_
            refine wp_puti2 (k := 3) (z := 3) hC rfl (rfl) (by decide) (rfl) (rfl) (by decide) uX7_readItems_X7 fX7_readItems_26 tyX7 tyX7_ok nmX7 rfl rfl (rfl) dX7_readItems_83 ?_
            refine wp_iload_n hC dX7_readItems_86 rfl ?_
            exact hret _ _ _ _ (by omega) rfl (⟨(-1, q), ⟨k, by rw [hq]; exact h2, by rw [hq]; exact fun y => c10 y.1, by rw [hq]; exact ((if_neg c10).trans (if_pos hk0)).symm⟩, Or.inr ⟨show (-1 : Int) < 0 by decide, hbi.1, by rw [hk0]; show put (put σ 89 2 (q + 0)) 89 3 (q + 0) = _; rw [Int.add_zero]⟩⟩) dX7_readItems_87
        · refine wp_aload_n hC dX7_readItems_22 rfl ?_
          refine wp_callVe (As := []) hC (c_X7_sign hG (put σ 89 2 (q + (k : Int))) (show iR (σ 89 1) by omega) (show 0 ≤ put σ 89 2 (q + (k : Int)) 89 2 ∧ put σ 89 2 (q + (k : Int)) 89 2 ≤ 1000 by rw [hat]; omega) (fun k a b => by have := hs k a b; exact (show 0 ≤ σ 90 k ∧ σ 90 k < 65536 by omega))) gX7_readItems_X7_sign rfl ⟨rfl, rfl⟩ ⟨by decide, by decide⟩ hyVX7_sign (rfl) (by decide) (rfl) rfl (Nat.le_of_ble_eq_true rfl) dX7_readItems_23 (fun hx_23 => ?_)
          refine wp_top (b := cx σ (q + k)) hsg ?_
          refine wp_bipush hC dX7_readItems_26 rfl ?_
          refine wp_icmp_ge (tgt := 74) hC dX7_readItems_28 (by decide) (by omega) (by omega) (fun c_28 => ?_) (fun c_28 => ?_)
          · have c10 : ¬ (97 ≤ cx σ (q + k) ∧ cx σ (q + k) ≤ 99) := fun z => by omega
            refine wp_iload_n hC dX7_readItems_74 rfl ?_
            refine wp_if_ne (tgt := 86) hC dX7_readItems_75 (by decide) (by omega) (fun c_75 => ?_) (fun c_75 => ?_)
            · have hk0 : ¬ k = 0 := fun y => by subst y; exact c_75 rfl
              refine wp_iload_n hC dX7_readItems_86 rfl ?_
              exact hret _ _ _ _ (by omega) rfl (⟨(bts (σ 90) (σ 89 1) q k, q + k), ⟨k, by rw [hq]; exact h2, by rw [hq]; exact fun y => c10 y.1, by rw [hq]; exact ((if_neg c10).trans (if_neg hk0)).symm⟩, Or.inl ⟨hbi.1.1, rfl, rfl⟩⟩) dX7_readItems_87
            · have hk0 : k = 0 := by omega
              refine wp_aload_n hC dX7_readItems_78 rfl ?_
              refine wp_aload_n hC dX7_readItems_79 rfl ?_
              refine wp_geti (k := 2) (z := 2) hC rfl (rfl) (by decide) (rfl) (rfl) (by decide) uX7_readItems_X7 fX7_readItems_23 (rfl) dX7_readItems_80 ?_
              refine wp_top (b := q + k) hat ?_
              refine wp_puti2 (k := 3) (z := 3) hC rfl (rfl) (by decide) (rfl) (rfl) (by decide) uX7_readItems_X7 fX7_readItems_26 tyX7 tyX7_ok nmX7 rfl rfl (rfl) dX7_readItems_83 ?_
              refine wp_iload_n hC dX7_readItems_86 rfl ?_
              exact hret _ _ _ _ (by omega) rfl (⟨(-1, q), ⟨k, by rw [hq]; exact h2, by rw [hq]; exact fun y => c10 y.1, by rw [hq]; exact ((if_neg c10).trans (if_pos hk0)).symm⟩, Or.inr ⟨show (-1 : Int) < 0 by decide, hbi.1, by rw [hk0]; show put (put σ 89 2 (q + 0)) 89 3 (q + 0) = _; rw [Int.add_zero]⟩⟩) dX7_readItems_87
          · have c10 : 97 ≤ cx σ (q + k) ∧ cx σ (q + k) ≤ 99 := ⟨by omega, by omega⟩
            have hb3 := bit3' hbi.1 (c := cx σ (q + k) - 97) (by omega)
            have hpb := pw_b (o := cx σ (q + k) - 97) (by omega)
            refine wp_iconst hC dX7_readItems_31 ?_
            refine wp_aload_n hC dX7_readItems_32 rfl ?_
            refine wp_callVe (As := []) hC (c_X7_sign hG (put σ 89 2 (q + (k : Int))) (show iR (σ 89 1) by omega) (show 0 ≤ put σ 89 2 (q + (k : Int)) 89 2 ∧ put σ 89 2 (q + (k : Int)) 89 2 ≤ 1000 by rw [hat]; omega) (fun k a b => by have := hs k a b; exact (show 0 ≤ σ 90 k ∧ σ 90 k < 65536 by omega))) gX7_readItems_X7_sign rfl ⟨rfl, rfl⟩ ⟨by decide, by decide⟩ hyVX7_sign (rfl) (by decide) (rfl) rfl (Nat.le_of_ble_eq_true rfl) dX7_readItems_33 (fun hx_33 => ?_)
            refine wp_top (b := cx σ (q + k)) hsg ?_
            refine wp_bipush hC dX7_readItems_36 rfl ?_
            refine wp_isub hC dX7_readItems_38 ?_
            refine wp_ishl hC dX7_readItems_39 ?_
            refine wp_top (b := pw (cx σ (q + k) - 97)) (ishl_1 (by omega) (by omega)) ?_
            refine wp_istore_n (lv2 := [(0, _), (1, _), (2, _)]) hC dX7_readItems_40 rfl (by decide) ?_
            refine wp_iload_n hC dX7_readItems_41 rfl ?_
            refine wp_iload_n hC dX7_readItems_42 rfl ?_
            refine wp_iand hC dX7_readItems_43 ?_
            refine wp_if_eq (tgt := 57) hC dX7_readItems_44 (by decide) (by have := iand_nn (b := pw (cx σ (q + k) - 97)) (a := bts (σ 90) (σ 89 1) q k) (by omega); omega) (fun c_44 => ?_) (fun c_44 => ?_)
            · have hd : tb (bts (σ 90) (σ 89 1) q k) (cx σ (q + k) - 97) = false := by
                cases y : tb (bts (σ 90) (σ 89 1) q k) (cx σ (q + k) - 97)
                · rfl
                · exact absurd c_44 (hb3.2 y)
              refine wp_iload_n hC dX7_readItems_57 rfl ?_
              refine wp_iload_n hC dX7_readItems_58 rfl ?_
              refine wp_ior hC dX7_readItems_59 ?_
              refine wp_top (b := bts (σ 90) (σ 89 1) q (k + 1)) (hb3.1 hd).1 ?_
              refine wp_istore_n (lv2 := [(0, _), (1, _), (2, _)]) hC dX7_readItems_60 rfl (by decide) ?_
              refine wp_aload_n hC dX7_readItems_61 rfl ?_
              refine wp_dup hC dX7_readItems_62 rfl ?_
              refine wp_geti (k := 2) (z := 2) hC rfl (rfl) (by decide) (rfl) (rfl) (by decide) uX7_readItems_X7 fX7_readItems_23 (rfl) dX7_readItems_63 ?_
              refine wp_iconst hC dX7_readItems_66 ?_
              refine wp_iadd hC dX7_readItems_67 ?_
              refine wp_puti2 (k := 2) (z := 2) hC rfl (rfl) (by decide) (rfl) (rfl) (by decide) uX7_readItems_X7 fX7_readItems_23 tyX7 tyX7_ok nmX7 rfl rfl (rfl) dX7_readItems_68 ?_
              refine wp_goto (tgt := 2) hC dX7_readItems_71 (by decide) ?_
              refine wp_lv hC [0, 1] rfl ?_
              refine wp_st (σ2 := put σ 89 2 (q + (k + 1 : Nat))) (by rw [put_put, put_s, Int.add_assoc]; rfl) ?_
              exact ih _ (by omega) (k + 1) rfl (fun j a => by
                rcases Nat.lt_or_ge j k with y | y
                · exact h2 j y
                · rw [show j = k by omega]; exact ⟨c10, hd⟩)
            · have hd : tb (bts (σ 90) (σ 89 1) q k) (cx σ (q + k) - 97) = true := by
                cases y : tb (bts (σ 90) (σ 89 1) q k) (cx σ (q + k) - 97)
                · exact absurd (hb3.1 y).2 c_44
                · rfl
              refine wp_aload_n hC dX7_readItems_47 rfl ?_
              refine wp_aload_n hC dX7_readItems_48 rfl ?_
              refine wp_geti (k := 2) (z := 2) hC rfl (rfl) (by decide) (rfl) (rfl) (by decide) uX7_readItems_X7 fX7_readItems_23 (rfl) dX7_readItems_49 ?_
              refine wp_top (b := q + k) hat ?_
              refine wp_puti2 (k := 3) (z := 3) hC rfl (rfl) (by decide) (rfl) (rfl) (by decide) uX7_readItems_X7 fX7_readItems_26 tyX7 tyX7_ok nmX7 rfl rfl (rfl) dX7_readItems_52 ?_
              refine wp_iload_n hC dX7_readItems_55 rfl ?_
              exact hret _ _ _ _ (by omega) rfl (⟨(-1, q + k), ⟨k, by rw [hq]; exact h2, by rw [hq]; exact fun y => Bool.noConfusion (hd.symm.trans y.2), by rw [hq]; exact (if_pos c10).symm⟩, Or.inr ⟨show (-1 : Int) < 0 by decide, hbi.1, rfl⟩⟩) dX7_readItems_56
  refine wp_iconst hC dX7_readItems_0 ?_
  refine wp_istore_n (lv2 := [(0, _), (1, _)]) hC dX7_readItems_1 rfl (by decide) ?_
  refine wp_st (σ2 := put σ 89 2 (q + (0 : Nat))) (by rw [show ((0 : Nat) : Int) = 0 from rfl, Int.add_zero]; exact (put_same hq).symm) ?_
  exact L2 _ 0 rfl (fun j a => absurd a (Nat.not_lt_zero j))

theorem opt_n {σ : St} {q c hi : Int} (h : cx σ q ≠ c) : optF (σ 90) (σ 89 1) c hi q = (0, q) := if_neg h
theorem opt_y {σ : St} {q c hi : Int} (h : cx σ q = c) (hd : 48 ≤ cx σ (q + 1) ∧ cx σ (q + 1) ≤ 57) (hh : cx σ (q + 1) - 48 ≤ hi) : optF (σ 90) (σ 89 1) c hi q = (cx σ (q + 1) - 48, q + 1 + 1) := by
  have ek : nk (σ 90) (σ 89 1) 1 (q + 1) = 1 := by
    unfold nk
    exact (if_pos hd).trans (if_neg (fun z => absurd z.1 (by decide)))
  have ev : nv (σ 90) (σ 89 1) 1 (q + 1) = cx σ (q + 1) - 48 := by
    unfold nv
    rw [ek, if_neg (by decide)]
    rfl
  refine (if_pos h).trans ?_
  unfold numF
  rw [ek, ev, if_pos ⟨by decide, by omega, hh⟩]
theorem opt_b {σ : St} {q c hi : Int} (h : cx σ q = c) (hd : ¬ (48 ≤ cx σ (q + 1) ∧ cx σ (q + 1) ≤ 57) ∨ hi < cx σ (q + 1) - 48) : optF (σ 90) (σ 89 1) c hi q = (-1, q + 1) := by
  refine (if_pos h).trans ?_
  unfold numF
  refine if_neg (fun z => ?_)
  by_cases w : 48 ≤ cx σ (q + 1) ∧ cx σ (q + 1) ≤ 57
  · have ek : nk (σ 90) (σ 89 1) 1 (q + 1) = 1 := by
      unfold nk
      exact (if_pos w).trans (if_neg (fun z => absurd z.1 (by decide)))
    have ev : nv (σ 90) (σ 89 1) 1 (q + 1) = cx σ (q + 1) - 48 := by
      unfold nv
      rw [ek, if_neg (by decide)]
      rfl
    rw [ev] at z
    rcases hd with hd | hd
    · exact hd w
    · omega
  · exact z.1 (if_neg w)
def RMB (σ : St) (c hi x : Int) (σ2 : St) : Prop := RDB σ (optF (σ 90) (σ 89 1) c hi (σ 89 2)) x σ2

theorem hyVX7_readMarked : yX7_readMarked.cls = RX7 ∧ yX7_readMarked.cls ≠ "java/lang/invoke/MethodHandle" ∧ yX7_readMarked.cls ≠ "java/lang/invoke/VarHandle" ∧ (parseMethodDescriptor yX7_readMarked.desc).map (fun d => d.parameters.length) = some 2 := by decide +kernel
theorem uX7_readMarked_X7 : ∀ w ∈ u_ws RX7 TX7 4, w ∈ wsX7_readMarked := by decide +kernel
theorem fX7_readMarked_23 : Cond.fieldLink RX7 23 (TX7 2).1 (TX7 2).2.1 (TX7 2).2.2.1 ∈ wsX7_readMarked := by decide +kernel
theorem fX7_readMarked_26 : Cond.fieldLink RX7 26 (TX7 3).1 (TX7 3).2.1 (TX7 3).2.2.1 ∈ wsX7_readMarked := by decide +kernel
set_option maxHeartbeats 8000000 in
set_option maxRecDepth 100000 in
theorem c_X7_readMarked {l : Launch} {G : Gy} (hG : Inj G) (σ : St) {c1 hi : Int} (hc : 0 ≤ c1 ∧ c1 < 65536) (hhi : 0 ≤ hi ∧ hi ≤ 9) (hz : 0 ≤ σ 89 1 ∧ σ 89 1 ≤ 100) (ha : 0 ≤ σ 89 2 ∧ σ 89 2 ≤ 900) (hs : ∀ k, 0 ≤ k → k < 100 → 0 ≤ σ 90 k ∧ σ 90 k ≤ 126) : MI l yX7_readMarked wsX7_readMarked ({ frames := 2, cells := 0, slots := 0, locals := 41 } : Room) G [.ref (G.2.2 89), .int (zI (c1)), .int (zI (hi))] σ (RMB σ c1 hi) := by
  refine MI.of hG (by decide +kernel) rfl rfl (Nat.le_of_ble_eq_true rfl) rfl ?_
  intro p e s m args below meth c H0 Q hC hret
  have hcr := cx_rng (q := σ 89 2 + 1) hz hs
  have hat : put σ 89 2 (σ 89 2 + 1) 89 2 = σ 89 2 + 1 := put_s
  have hsg : sgn (put σ 89 2 (σ 89 2 + 1)) = cx σ (σ 89 2 + 1) := by rw [sgn_ch (σ := (put σ 89 2 (σ 89 2 + 1))) hz (by rw [put_s]; omega), put_s]; rfl
  refine wp_aload_n hC dX7_readMarked_0 rfl ?_
  refine wp_iload_n hC dX7_readMarked_1 rfl ?_
  refine wp_callVi (As := [_]) hC (c_X7_skip hG σ hc hz ha hs) gX7_readMarked_X7_skip rfl ⟨rfl, rfl⟩ ⟨by decide, by decide⟩ hyVX7_skip (rfl) (by decide) (rfl) rfl (Nat.le_of_ble_eq_true rfl) dX7_readMarked_2 (fun x_2 s_2 hx_2 hp_2 => ?_)
  refine wp_if_ne (tgt := 10) hC dX7_readMarked_5 (by decide) (hx_2) (fun c_5 => ?_) (fun c_5 => ?_)
  · obtain ⟨hck, _, rfl⟩ := hp_2.resolve_right (fun z => c_5 z.2.1)
    refine wp_aload_n hC dX7_readMarked_10 rfl ?_
    refine wp_callVe (As := []) hC (c_X7_sign hG (put σ 89 2 (σ 89 2 + 1)) (show iR (σ 89 1) by omega) (show 0 ≤ put σ 89 2 (σ 89 2 + 1) 89 2 ∧ put σ 89 2 (σ 89 2 + 1) 89 2 ≤ 1000 by rw [hat]; omega) (fun k a b => by have := hs k a b; exact (show 0 ≤ σ 90 k ∧ σ 90 k < 65536 by omega))) gX7_readMarked_X7_sign rfl ⟨rfl, rfl⟩ ⟨by decide, by decide⟩ hyVX7_sign (rfl) (by decide) (rfl) rfl (Nat.le_of_ble_eq_true rfl) dX7_readMarked_11 (fun hx_11 => ?_)
    refine wp_top (b := cx σ (σ 89 2 + 1)) hsg ?_
    refine wp_bipush hC dX7_readMarked_14 rfl ?_
    refine wp_isub hC dX7_readMarked_16 ?_
    refine wp_istore_n (lv2 := [(0, _), (1, _), (2, _), (3, _)]) hC dX7_readMarked_17 rfl (by decide) ?_
    refine wp_aload_n hC dX7_readMarked_18 rfl ?_
    refine wp_callVe (As := []) hC (c_X7_sign hG (put σ 89 2 (σ 89 2 + 1)) (show iR (σ 89 1) by omega) (show 0 ≤ put σ 89 2 (σ 89 2 + 1) 89 2 ∧ put σ 89 2 (σ 89 2 + 1) 89 2 ≤ 1000 by rw [hat]; omega) (fun k a b => by have := hs k a b; exact (show 0 ≤ σ 90 k ∧ σ 90 k < 65536 by omega))) gX7_readMarked_X7_sign rfl ⟨rfl, rfl⟩ ⟨by decide, by decide⟩ hyVX7_sign (rfl) (by decide) (rfl) rfl (Nat.le_of_ble_eq_true rfl) dX7_readMarked_19 (fun hx_19 => ?_)
    refine wp_top (b := cx σ (σ 89 2 + 1)) hsg ?_
    refine wp_callSb (As := [_]) hC (c_X7_isFigure hG _ (ch := cx σ (σ 89 2 + 1)) (by omega)) gX7_readMarked_X7_isFigure rfl ⟨rfl, rfl⟩ ⟨by decide, by decide⟩ hySX7_isFigure rfl (Nat.le_of_ble_eq_true rfl) dX7_readMarked_22 (fun hx_22 => ?_)
    refine wp_ifb_eq (tgt := 33) hC dX7_readMarked_25 (by decide) (fun c_25 => ?_) (fun c_25 => ?_)
    · refine wp_aload_n hC dX7_readMarked_33 rfl ?_
      refine wp_aload_n hC dX7_readMarked_34 rfl ?_
      refine wp_geti (k := 2) (z := 2) hC rfl (rfl) (by decide) (rfl) (rfl) (by decide) uX7_readMarked_X7 fX7_readMarked_23 (rfl) dX7_readMarked_35 ?_
      refine wp_top (b := σ 89 2 + 1) hat ?_
      refine wp_puti2 (k := 3) (z := 3) hC rfl (rfl) (by decide) (rfl) (rfl) (by decide) uX7_readMarked_X7 fX7_readMarked_26 tyX7 tyX7_ok nmX7 rfl rfl (rfl) dX7_readMarked_38 ?_
      refine wp_iconst hC dX7_readMarked_41 ?_
      exact hret _ _ _ _ (by omega) rfl (by unfold RMB; rw [opt_b hck (Or.inl c_25)]; exact Or.inr ⟨by show (-1 : Int) < 0; decide, by omega, rfl⟩) dX7_readMarked_42
    · refine wp_iload_n hC dX7_readMarked_28 rfl ?_
      refine wp_iload_n hC dX7_readMarked_29 rfl ?_
      refine wp_icmp_le (tgt := 43) hC dX7_readMarked_30 (by decide) (by omega) (by omega) (fun c_30 => ?_) (fun c_30 => ?_)
      · refine wp_aload_n hC dX7_readMarked_43 rfl ?_
        refine wp_dup hC dX7_readMarked_44 rfl ?_
        refine wp_geti (k := 2) (z := 2) hC rfl (rfl) (by decide) (rfl) (rfl) (by decide) uX7_readMarked_X7 fX7_readMarked_23 (rfl) dX7_readMarked_45 ?_
        refine wp_top (b := σ 89 2 + 1) hat ?_
        refine wp_iconst hC dX7_readMarked_48 ?_
        refine wp_iadd hC dX7_readMarked_49 ?_
        refine wp_puti2 (k := 2) (z := 2) hC rfl (rfl) (by decide) (rfl) (rfl) (by decide) uX7_readMarked_X7 fX7_readMarked_23 tyX7 tyX7_ok nmX7 rfl rfl (rfl) dX7_readMarked_50 ?_
        refine wp_iload_n hC dX7_readMarked_53 rfl ?_
        exact hret _ _ _ _ (by omega) rfl (by unfold RMB; rw [opt_y hck c_25 (by omega)]; exact Or.inl ⟨by show 0 ≤ cx σ (σ 89 2 + 1) - 48; omega, rfl, put_put⟩) dX7_readMarked_54
      · refine wp_aload_n hC dX7_readMarked_33 rfl ?_
        refine wp_aload_n hC dX7_readMarked_34 rfl ?_
        refine wp_geti (k := 2) (z := 2) hC rfl (rfl) (by decide) (rfl) (rfl) (by decide) uX7_readMarked_X7 fX7_readMarked_23 (rfl) dX7_readMarked_35 ?_
        refine wp_top (b := σ 89 2 + 1) hat ?_
        refine wp_puti2 (k := 3) (z := 3) hC rfl (rfl) (by decide) (rfl) (rfl) (by decide) uX7_readMarked_X7 fX7_readMarked_26 tyX7 tyX7_ok nmX7 rfl rfl (rfl) dX7_readMarked_38 ?_
        refine wp_iconst hC dX7_readMarked_41 ?_
        exact hret _ _ _ _ (by omega) rfl (by unfold RMB; rw [opt_b hck (Or.inr (by omega))]; exact Or.inr ⟨by show (-1 : Int) < 0; decide, by omega, rfl⟩) dX7_readMarked_42
  · refine wp_iconst hC dX7_readMarked_8 ?_
    exact hret _ _ _ _ (by omega) rfl (by
      rcases hp_2 with ⟨_, z, _⟩ | ⟨z, _, rfl⟩
      · omega
      · unfold RMB; rw [opt_n z]; exact Or.inl ⟨by show (0 : Int) ≤ 0; decide, rfl, (put_same rfl).symm⟩) dX7_readMarked_9
