/-- the promised without one -/
def OB (σ : St) (o : Int) : Int := iand (TX σ 1) (ixor (pw o) (-1))
def EAR (σ : St) (o r x : Int) : Prop := (r < σ 84 o ∧ x = -2) ∨ (σ 84 o ≤ r ∧ ((x = -2 ∧ ∀ p, 0 ≤ p → p < 12 → ¬ FIT σ o p) ∨ (0 ≤ x ∧ x < 12 ∧ FIT σ o x ∧ ∀ p, 0 ≤ p → p < x → ¬ FIT σ o p)))
def ASM (σ : St) (o r x : Int) : Prop := ∃ y, LEA σ (σ 85 o) (σ 112 o) y ∧ x = if 0 < min (min 60 r) y then min (min 60 r) y else -2
def COU (σ : St) (o wh x : Int) (σ2 : St) : Prop := (¬ ((0 ≤ o ∧ o < σ 83 5) ∧ (0 ≤ wh ∧ wh ≤ 1)) ∧ x = -1 ∧ σ2 = σ) ∨ (((0 ≤ o ∧ o < σ 83 5) ∧ (0 ≤ wh ∧ wh ≤ 1)) ∧ ((σ 111 o = 2 ∧ x = -5 ∧ σ2 = σ) ∨ (σ 111 o ≠ 2 ∧ σ2 = LY σ (OB σ o) ∧ ((¬ MEX σ (tb (OB σ o)) ∧ x = -2) ∨ (MEX σ (tb (OB σ o)) ∧ ((wh = 0 ∧ EAR (LY σ (OB σ o)) o (ROOM σ (σ 87 o) (tb (OB σ o))) x) ∨ (wh = 1 ∧ ASM (LY σ (OB σ o)) o (ROOM σ (σ 87 o) (tb (OB σ o))) x)))))))
theorem ROOM_rng {σ : St} (h : XO σ) {g : Int} (hg : 0 ≤ g ∧ g ≤ 3) (P : Int → Bool) : -2000 ≤ ROOM σ g P ∧ ROOM σ g P ≤ 4000 := by
  have hv := sm_ub (f := σ 109) (n := 36) (c := 99) (by decide) (fun j a b => (h.2.1.1 j a (by omega)).2)
  have hv0 := sm_nn (f := σ 109) (n := 36) (fun j a b => (h.2.1.1 j a (by omega)).1)
  have hs := h.2.1.2 g (by omega) (by omega)
  have hm0 : 0 ≤ σ 110 g * sm (σ 109) 36 := Int.mul_nonneg hs.1 hv0
  have hm1 : σ 110 g * sm (σ 109) 36 ≤ 100 * 3564 := Int.mul_le_mul hs.2 (by omega) hv0 (by decide)
  have hn := h.1
  have ha := amS_rng (n := σ 83 5) (am := σ 84) (gr := σ 87) (P := P) (g := g) hn.1 (fun o a b => (h.2.2 o a (by omega)).2.2.1)
  unfold ROOM
  omega

theorem hyVX8_could : yX8_could.cls = RX8 ∧ yX8_could.cls ≠ "java/lang/invoke/MethodHandle" ∧ yX8_could.cls ≠ "java/lang/invoke/VarHandle" ∧ (parseMethodDescriptor yX8_could.desc).map (fun d => d.parameters.length) = some 2 := by decide +kernel
theorem uX8_could_X8 : ∀ w ∈ u_ws RX8 TX8 13, w ∈ wsX8_could := by decide +kernel
theorem fX8_could_19 : Cond.fieldLink RX8 19 (TX8 1).1 (TX8 1).2.1 (TX8 1).2.2.1 ∈ wsX8_could := by decide +kernel
theorem uX8_could_X5 : ∀ w ∈ u_ws RX5 TX5 5, w ∈ wsX8_could := by decide +kernel
theorem fX8_could_12 : Cond.fieldLink RX8 12 (TX8 0).1 (TX8 0).2.1 (TX8 0).2.2.1 ∈ wsX8_could := by decide +kernel
theorem uX8_could_X0 : ∀ w ∈ u_ws RX0 TX0 6, w ∈ wsX8_could := by decide +kernel
set_option maxHeartbeats 8000000 in
set_option maxRecDepth 100000 in
theorem c_X8_could {l : Launch} {G : Gy} (hG : Inj G) (σ : St) {o wh : Int} (h : XO σ) (ho : iR o) (hw : iR wh) : MI l yX8_could wsX8_could ({ frames := 4, cells := 0, slots := 0, locals := 92 } : Room) G [.ref (G.2.2 82), .int (zI (o)), .int (zI (wh))] σ (COU σ o wh) := by
  refine MI.of hG (by decide +kernel) rfl rfl (Nat.le_of_ble_eq_true rfl) rfl ?_
  intro p e s m args below meth c H0 Q hC hret
  have hn := h.1
  refine wp_aload_n hC dX8_could_0 rfl ?_
  refine wp_iload_n hC dX8_could_1 rfl ?_
  refine wp_callVb (As := [_]) hC (c_X8_isOrder hG _ (by omega) h.1) gX8_could_X8_isOrder rfl ⟨rfl, rfl⟩ ⟨by decide, by decide⟩ hyVX8_isOrder (rfl) (by decide) (rfl) rfl (Nat.le_of_ble_eq_true rfl) dX8_could_2 (fun hx_2 => ?_)
  refine wp_ifb_eq (tgt := 17) hC dX8_could_5 (by decide) (fun c_5 => ?_) (fun c_5 => ?_)
  · refine wp_iconst hC dX8_could_17 ?_
    exact hret _ _ _ _ (by omega) rfl (Or.inl ⟨fun z => c_5 z.1, rfl, rfl⟩) dX8_could_18
  · refine wp_iload_n hC dX8_could_8 rfl ?_
    refine wp_iconst hC dX8_could_9 ?_
    refine wp_iconst hC dX8_could_10 ?_
    refine wp_callSb (As := [_, _, _]) hC (c_X8_within hG σ hw (by omega) (by omega)) gX8_could_X8_within rfl ⟨rfl, rfl⟩ ⟨by decide, by decide⟩ hySX8_within rfl (Nat.le_of_ble_eq_true rfl) dX8_could_11 (fun hx_11 => ?_)
    refine wp_ifb_ne (tgt := 19) hC dX8_could_14 (by decide) (fun c_14 => ?_) (fun c_14 => ?_)
    · refine wp_aload_n hC dX8_could_19 rfl ?_
      refine wp_geta (k := 1) hC (rfl) (by decide) (rfl) (rfl) (by decide) uX8_could_X8 fX8_could_19 (rfl) dX8_could_20 ?_
      refine wp_getaN (k := 2) hC (rfl) (by decide) (rfl) (rfl) (by decide) uX8_could_X5 fnX8_124 (rfl) dX8_could_23 ?_
      refine wp_iload_n hC dX8_could_26 rfl ?_
      refine wp_iald (n := 24) hC (rfl) (Nat.le_of_ble_eq_true rfl) (rfl) (by decide) (by omega) dX8_could_27 ?_
      have hk1 := h.2.2 o c_5.1 c_5.2
      refine wp_top (b := σ 111 o) rfl ?_
      refine wp_iconst hC dX8_could_28 ?_
      refine wp_icmp_ne (tgt := 35) hC dX8_could_29 (by decide) (by omega) (by omega) (fun c_29 => ?_) (fun c_29 => ?_)
      · refine wp_aload_n hC dX8_could_35 rfl ?_
        refine wp_iconst hC dX8_could_36 ?_
        refine wp_callVe (As := [_]) hC (c_X8_setOf hG _ (by omega) (fun o a b => (h.2.2 o a b).1) h.1) gX8_could_X8_setOf rfl ⟨rfl, rfl⟩ ⟨by decide, by decide⟩ hyVX8_setOf (rfl) (by decide) (rfl) rfl (Nat.le_of_ble_eq_true rfl) dX8_could_37 (fun hx_37 => ?_)
        refine wp_iload_n hC dX8_could_40 rfl ?_
        refine wp_callSe (As := [_]) hC (c_X8_bit hG σ (k := o) (by omega)) gX8_could_X8_bit rfl ⟨rfl, rfl⟩ ⟨by decide, by decide⟩ hySX8_bit rfl (Nat.le_of_ble_eq_true rfl) dX8_could_41 (fun hx_41 => ?_)
        refine wp_iconst hC dX8_could_44 ?_
        refine wp_ixor hC dX8_could_45 ?_
        refine wp_iand hC dX8_could_46 ?_
        refine wp_top (b := OB σ o) rfl ?_
        have hob : 0 ≤ OB σ o ∧ OB σ o ≤ 2147483647 := iand_nn (bsI (P := fun o => decide (σ 111 o = 1)) hn)
        have hrm := ROOM_rng h (g := σ 87 o) (by omega) (tb (OB σ o))
        refine wp_istore_n (lv2 := [(0, _), (1, _), (2, _), (3, _)]) hC dX8_could_47 rfl (by decide) ?_
        refine wp_aload_n hC dX8_could_48 rfl ?_
        refine wp_aload_n hC dX8_could_49 rfl ?_
        refine wp_geta (k := 0) hC (rfl) (by decide) (rfl) (rfl) (by decide) uX8_could_X8 fX8_could_12 (rfl) dX8_could_50 ?_
        refine wp_getaN (k := 3) hC (rfl) (by decide) (rfl) (rfl) (by decide) uX8_could_X0 fnX8_142 (rfl) dX8_could_53 ?_
        refine wp_iload_n hC dX8_could_56 rfl ?_
        refine wp_iald (n := 24) hC (rfl) (Nat.le_of_ble_eq_true rfl) (rfl) (by decide) (by omega) dX8_could_57 ?_
        refine wp_iload_n hC dX8_could_58 rfl ?_
        refine wp_callVe (As := [_, _]) hC (c_X8_roomOf hG σ (g := σ 87 o) (B := OB σ o) h (by omega) hob) gX8_could_X8_roomOf rfl ⟨rfl, rfl⟩ ⟨by decide, by decide⟩ hyVX8_roomOf (rfl) (by decide) (rfl) rfl (Nat.le_of_ble_eq_true rfl) dX8_could_59 (fun hx_59 => ?_)
        refine wp_top (b := ROOM σ (σ 87 o) (tb (OB σ o))) rfl ?_
        refine wp_istore (lv2 := [(0, _), (1, _), (2, _), (3, _), (4, _)]) hC dX8_could_62 rfl (by decide) ?_
        refine wp_aload_n hC dX8_could_64 rfl ?_
        refine wp_iload_n hC dX8_could_65 rfl ?_
        refine wp_callVi (As := [_]) hC (c_X8_areMet hG σ (B := OB σ o) h hob) gX8_could_X8_areMet rfl ⟨rfl, rfl⟩ ⟨by decide, by decide⟩ hyVX8_areMet (rfl) (by decide) (rfl) rfl (Nat.le_of_ble_eq_true rfl) dX8_could_66 (fun x_66 s_66 hx_66 hp_66 => ?_)
        obtain ⟨hm_66, rfl⟩ := hp_66
        refine wp_if_ne (tgt := 75) hC dX8_could_69 (by decide) (bP_iR hm_66) (fun c_69 => ?_) (fun c_69 => ?_)
        · refine wp_iload_n hC dX8_could_75 rfl ?_
          refine wp_if_ne (tgt := 89) hC dX8_could_76 (by decide) (by omega) (fun c_76 => ?_) (fun c_76 => ?_)
          · refine wp_aload_n hC dX8_could_89 rfl ?_
            refine wp_iload_n hC dX8_could_90 rfl ?_
            refine wp_iload hC dX8_could_91 rfl ?_
            refine wp_callVp (As := [_, _]) hC (c_X8_asMuch hG (LY σ (OB σ o)) (o := o) (r := ROOM σ (σ 87 o) (tb (OB σ o))) h c_5 (by omega) (fun k a b => LY_rng h (OB σ o) a b)) gX8_could_X8_asMuch rfl ⟨rfl, rfl⟩ ⟨by decide, by decide⟩ hyVX8_asMuch (rfl) (by decide) (rfl) rfl (Nat.le_of_ble_eq_true rfl) dX8_could_93 (fun x_93 hx_93 hp_93 => ?_)
            exact hret _ _ _ _ (hx_93) rfl (Or.inr ⟨⟨c_5, c_14⟩, Or.inr ⟨c_29, rfl, Or.inr ⟨bP_1 hm_66 c_69, Or.inr ⟨by omega, hp_93⟩⟩⟩⟩) dX8_could_96
          · refine wp_aload_n hC dX8_could_79 rfl ?_
            refine wp_iload_n hC dX8_could_80 rfl ?_
            refine wp_iload hC dX8_could_81 rfl ?_
            refine wp_callVp (As := [_, _]) hC (c_X8_earliest hG (LY σ (OB σ o)) (o := o) (r := ROOM σ (σ 87 o) (tb (OB σ o))) h c_5 (by omega) (fun k a b => LY_rng h (OB σ o) a b)) gX8_could_X8_earliest rfl ⟨rfl, rfl⟩ ⟨by decide, by decide⟩ hyVX8_earliest (rfl) (by decide) (rfl) rfl (Nat.le_of_ble_eq_true rfl) dX8_could_83 (fun x_83 hx_83 hp_83 => ?_)
            refine wp_goto (tgt := 96) hC dX8_could_86 (by decide) ?_
            exact hret _ _ _ _ (hx_83) rfl (Or.inr ⟨⟨c_5, c_14⟩, Or.inr ⟨c_29, rfl, Or.inr ⟨bP_1 hm_66 c_69, Or.inl ⟨by omega, hp_83⟩⟩⟩⟩) dX8_could_96
        · refine wp_bipush hC dX8_could_72 rfl ?_
          exact hret _ _ _ _ (by omega) rfl (Or.inr ⟨⟨c_5, c_14⟩, Or.inr ⟨c_29, rfl, Or.inl ⟨bP_0 hm_66 (by omega), rfl⟩⟩⟩) dX8_could_74
      · refine wp_bipush hC dX8_could_32 rfl ?_
        exact hret _ _ _ _ (by omega) rfl (Or.inr ⟨⟨c_5, c_14⟩, Or.inl ⟨by omega, rfl, rfl⟩⟩) dX8_could_34
    · refine wp_iconst hC dX8_could_17 ?_
      exact hret _ _ _ _ (by omega) rfl (Or.inl ⟨fun z => c_14 z.2, rfl, rfl⟩) dX8_could_18
