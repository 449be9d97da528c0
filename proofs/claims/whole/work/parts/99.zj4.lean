set_option maxHeartbeats 4000000 in
set_option maxRecDepth 100000 in
theorem law_loop {p : Program} {l : Launch} {e : Env} {s : State} {m : MethodId} {below : List Frame} {meth : Method} {c : Code} {A : Nat → Prop} {Q : State → Prop} {G : Gy} {Z : Ky} {cB : ClassId} {b L : Nat} {xs : Nat → Int32} (hG : Inj G) (hC : Cx p s m #[.ref b] meth c A s.heap 4 G code RL wsL_law) (hX : XKK G Z cB A s) (hS : va_X b L xs s s.heap) (hb : b < s.heap.size) (hA : ¬ A b) (hL : L ≤ 2560) (hend : ∀ (σ : St) (lv : List (Nat × Value)) (cells slots : Nat), cells ≤ 600000 → slots ≤ 7302250 → wpx p l e room_1 s m #[.ref b] below meth c A s.heap 4 Q G [] cells slots σ 1136 lv []) : ∀ (n : Nat) (i : Int) (k : Nat) (σ : St) (cells slots : Nat), L - 5 * k = n → i = 5 * k → k ≤ 512 → INV σ → cells ≤ 200 + 16 * k → slots ≤ 9000 + 3004 * k → wpx p l e room_1 s m #[.ref b] below meth c A s.heap 4 Q G [] cells slots σ 18 [(0, .ref b), (1, .ref (G.2.2 82)), (2, .ref (G.2.2 0)), (3, .int (zI i))] [] := by
  intro n
  induction n using Nat.strongRecOn with
  | ind n ih =>
    intro i k σ cells slots hn hik hk h hc hs
    refine wpx_iload_n hC dlaw_18 rfl ?_
    refine wpx_aload_n hC dlaw_19 rfl ?_
    refine wpx_slen hC hS hb hA dlaw_20 ?_
    refine wpx_iconst hC dlaw_21 ?_
    refine wpx_isub hC dlaw_22 ?_
    refine wpx_icmp_gt (tgt := 1136) hC dlaw_23 (by decide) ⟨by omega, by omega⟩ ⟨by omega, by omega⟩ (fun c_23 => ?_) (fun c_23 => ?_)
    · exact hend σ _ cells slots (by omega) (by omega)
    have hi : 0 ≤ i ∧ i + 5 ≤ L := by omega
    have hk2 : k < 512 := by omega
    have hr : cells + 16 ≤ 600000 ∧ slots + 3004 ≤ 7302250 := by omega
    have kk : ∀ (c2 s2 : Nat) (σ2 : St), c2 ≤ cells + 16 → s2 ≤ slots + 3004 → INV σ2 → wpx p l e room_1 s m #[.ref b] below meth c A s.heap 4 Q G [] c2 s2 σ2 1130 [(0, .ref b), (1, .ref (G.2.2 82)), (2, .ref (G.2.2 0)), (3, .int (zI i))] [] := by
      intro c2 s2 σ2 hc2 hs2 hI
      refine wpx_iinc (lv2 := [(0, .ref b), (1, .ref (G.2.2 82)), (2, .ref (G.2.2 0)), (3, .int (zI (i + 5)))]) hC dlaw_1130 rfl rfl (by decide) ?_
      refine wpx_goto (tgt := 18) hC dlaw_1133 (by decide) ?_
      exact ih (L - 5 * (k + 1)) (by omega) (i + 5) (k + 1) σ2 c2 s2 rfl (by omega) (by omega) hI (by omega) (by omega)
    have kk2 := fun σ2 hI => kk (cells + 16) (slots + 3004) σ2 (Nat.le_refl _) (Nat.le_refl _) hI
    refine wpx_aload_n hC dlaw_26 rfl ?_
    refine wpx_iload_n hC dlaw_27 rfl ?_
    refine wpx_sld hC hS hb hA hL (by omega) dlaw_28 ?_
    refine wpx_bipush hC dlaw_29 rfl ?_
    refine wpx_iand hC dlaw_31 ?_
    obtain ⟨v, hv⟩ : ∃ v : Int, iand (sv xs i) 63 = v := ⟨_, rfl⟩
    have hvr : iR v := by
      rw [← hv]
      exact iR_of _
    refine wpx_top (b := v) hv ?_
    by_cases c_0 : v = 0
    · exact wpx_tabIn (v := 0) (tgt := 180) hC dlaw_32 c_0 ⟨by decide, by decide⟩ (by decide) (by decide) rfl (by decide) (law_supply hG hC hX hS hb hA hL hi hr h kk2)
    by_cases c_1 : v = 1
    · exact wpx_tabIn (v := 1) (tgt := 223) hC dlaw_32 c_1 ⟨by decide, by decide⟩ (by decide) (by decide) rfl (by decide) (law_supplied hG hC hX hS hb hA hL hi hr h kk2)
    by_cases c_2 : v = 2
    · exact wpx_tabIn (v := 2) (tgt := 256) hC dlaw_32 c_2 ⟨by decide, by decide⟩ (by decide) (by decide) rfl (by decide) (law_share hG hC hX hS hb hA hL hi hr h kk2)
    by_cases c_3 : v = 3
    · exact wpx_tabIn (v := 3) (tgt := 289) hC dlaw_32 c_3 ⟨by decide, by decide⟩ (by decide) (by decide) rfl (by decide) (law_group hG hC hX hS hb hA hL hi hr h kk2)
    by_cases c_4 : v = 4
    · exact wpx_tabIn (v := 4) (tgt := 322) hC dlaw_32 c_4 ⟨by decide, by decide⟩ (by decide) (by decide) rfl (by decide) (law_feed hG hC hX hS hb hA hL hi hr h kk2)
    by_cases c_5 : v = 5
    · exact wpx_tabIn (v := 5) (tgt := 345) hC dlaw_32 c_5 ⟨by decide, by decide⟩ (by decide) (by decide) rfl (by decide) (law_orders hG hC hX hS hb hA hL hi hr h kk2)
    by_cases c_6 : v = 6
    · exact wpx_tabIn (v := 6) (tgt := 358) hC dlaw_32 c_6 ⟨by decide, by decide⟩ (by decide) (by decide) rfl (by decide) (law_of hG hC hX hS hb hA hL hi hr h kk2)
    by_cases c_7 : v = 7
    · exact wpx_tabIn (v := 7) (tgt := 391) hC dlaw_32 c_7 ⟨by decide, by decide⟩ (by decide) (by decide) rfl (by decide) (law_promise hG hC hX hS hb hA hL hi hr h kk2)
    by_cases c_8 : v = 8
    · exact wpx_tabIn (v := 8) (tgt := 414) hC dlaw_32 c_8 ⟨by decide, by decide⟩ (by decide) (by decide) rfl (by decide) (law_promiseAll hG hC hX hS hb hA hL hi hr h kk2)
    by_cases c_9 : v = 9
    · exact wpx_tabIn (v := 9) (tgt := 427) hC dlaw_32 c_9 ⟨by decide, by decide⟩ (by decide) (by decide) rfl (by decide) (law_giveUp hG hC hX hS hb hA hL hi hr h kk2)
    by_cases c_10 : v = 10
    · exact wpx_tabIn (v := 10) (tgt := 450) hC dlaw_32 c_10 ⟨by decide, by decide⟩ (by decide) (by decide) rfl (by decide) (law_gone hG hC hX hS hb hA hL hi hr h kk2)
    by_cases c_11 : v = 11
    · exact wpx_tabIn (v := 11) (tgt := 473) hC dlaw_32 c_11 ⟨by decide, by decide⟩ (by decide) (by decide) rfl (by decide) (law_move hG hC hX hS hb hA hL hi hr h kk2)
    by_cases c_12 : v = 12
    · exact wpx_tabIn (v := 12) (tgt := 506) hC dlaw_32 c_12 ⟨by decide, by decide⟩ (by decide) (by decide) rfl (by decide) (law_swap hG hC hX hS hb hA hL hi hr h kk2)
    by_cases c_13 : v = 13
    · exact wpx_tabIn (v := 13) (tgt := 539) hC dlaw_32 c_13 ⟨by decide, by decide⟩ (by decide) (by decide) rfl (by decide) (law_left hG hC hX hS hb hA hL hi hr h kk2)
    by_cases c_14 : v = 14
    · exact wpx_tabIn (v := 14) (tgt := 562) hC dlaw_32 c_14 ⟨by decide, by decide⟩ (by decide) (by decide) rfl (by decide) (law_hinders hG hC hX hS hb hA hL hi hr h kk2)
    by_cases c_15 : v = 15
    · exact wpx_tabIn (v := 15) (tgt := 595) hC dlaw_32 c_15 ⟨by decide, by decide⟩ (by decide) (by decide) rfl (by decide) (law_could hG hC hX hS hb hA hL hi hr h kk2)
    by_cases c_16 : v = 16
    · exact wpx_tabIn (v := 16) (tgt := 628) hC dlaw_32 c_16 ⟨by decide, by decide⟩ (by decide) (by decide) rfl (by decide) (law_spare hG hC hX hS hb hA hL hi hr h kk2)
    by_cases c_17 : v = 17
    · exact wpx_tabIn (v := 17) (tgt := 661) hC dlaw_32 c_17 ⟨by decide, by decide⟩ (by decide) (by decide) rfl (by decide) (law_filled hG hC hX hS hb hA hL hi hr h kk2)
    by_cases c_18 : v = 18
    · exact wpx_tabIn (v := 18) (tgt := 684) hC dlaw_32 c_18 ⟨by decide, by decide⟩ (by decide) (by decide) rfl (by decide) (law_range hG hC hX hS hb hA hL hi hr h kk2)
    by_cases c_19 : v = 19
    · exact wpx_tabIn (v := 19) (tgt := 737) hC dlaw_32 c_19 ⟨by decide, by decide⟩ (by decide) (by decide) rfl (by decide) (law_late hG hC hX hS hb hA hL hi hr h kk2)
    by_cases c_20 : v = 20
    · exact wpx_tabIn (v := 20) (tgt := 750) hC dlaw_32 c_20 ⟨by decide, by decide⟩ (by decide) (by decide) rfl (by decide) (law_kept hG hC hX hS hb hA hL hi hr h kk2)
    by_cases c_21 : v = 21
    · exact wpx_tabIn (v := 21) (tgt := 773) hC dlaw_32 c_21 ⟨by decide, by decide⟩ (by decide) (by decide) rfl (by decide) (law_why hG hC hX hS hb hA hL hi hr h kk2)
    by_cases c_22 : v = 22
    · exact wpx_tabIn (v := 22) (tgt := 796) hC dlaw_32 c_22 ⟨by decide, by decide⟩ (by decide) (by decide) rfl (by decide) (law_ledger hG hC hX hS hb hA hL hi hr h kk2)
    by_cases c_23 : v = 23
    · exact wpx_tabIn (v := 23) (tgt := 829) hC dlaw_32 c_23 ⟨by decide, by decide⟩ (by decide) (by decide) rfl (by decide) (law_row hG hC hX hS hb hA hL hi hr h kk2)
    by_cases c_24 : v = 24
    · exact wpx_tabIn (v := 24) (tgt := 862) hC dlaw_32 c_24 ⟨by decide, by decide⟩ (by decide) (by decide) rfl (by decide) (law_put hG hC hX hS hb hA hL hi hr h kk2)
    by_cases c_25 : v = 25
    · exact wpx_tabIn (v := 25) (tgt := 935) hC dlaw_32 c_25 ⟨by decide, by decide⟩ (by decide) (by decide) rfl (by decide) (law_get hG hC hX hS hb hA hL hi hr h kk2)
    by_cases c_26 : v = 26
    · exact wpx_tabIn (v := 26) (tgt := 969) hC dlaw_32 c_26 ⟨by decide, by decide⟩ (by decide) (by decide) rfl (by decide) (law_from hG hC hX hS hb hA hL hi hr h kk2)
    by_cases c_27 : v = 27
    · exact wpx_tabIn (v := 27) (tgt := 1022) hC dlaw_32 c_27 ⟨by decide, by decide⟩ (by decide) (by decide) rfl (by decide) (law_lefts hG hC hX hS hb hA hL hi hr h kk2)
    by_cases c_28 : v = 28
    · exact wpx_tabIn (v := 28) (tgt := 1055) hC dlaw_32 c_28 ⟨by decide, by decide⟩ (by decide) (by decide) rfl (by decide) (law_undo hG hC hX hS hb hA hL hi hr h kk2)
    by_cases c_29 : v = 29
    · exact wpx_tabIn (v := 29) (tgt := 1068) hC dlaw_32 c_29 ⟨by decide, by decide⟩ (by decide) (by decide) rfl (by decide) (law_redo hG hC hX hS hb hA hL hi hr h kk2)
    by_cases c_30 : v = 30
    · exact wpx_tabIn (v := 30) (tgt := 1081) hC dlaw_32 c_30 ⟨by decide, by decide⟩ (by decide) (by decide) rfl (by decide) (law_image hG hC hX hS hb hA hL hi hr h kk2)
    by_cases c_31 : v = 31
    · exact wpx_tabIn (v := 31) (tgt := 1094) hC dlaw_32 c_31 ⟨by decide, by decide⟩ (by decide) (by decide) rfl (by decide) (law_back hG hC hX hS hb hA hL hi hr h kk2)
    by_cases c_32 : v = 32
    · exact wpx_tabIn (v := 32) (tgt := 1107) hC dlaw_32 c_32 ⟨by decide, by decide⟩ (by decide) (by decide) rfl (by decide) (law_count hG hC hX hS hb hA hL hi hr h kk2)
    exact wpx_tabOut (tgt := 1130) hC dlaw_32 hvr (by omega) (by decide) (kk cells slots σ (by omega) (by omega) h)
