theorem nar_c {x : Int} (h : 0 ≤ x ∧ x < 65536) : narrow .char (.int (zI x)) = .int (zI x) := by
  obtain ⟨q, rfl⟩ := Int.eq_ofNat_of_zero_le h.1
  show Value.int ((zI (q : Nat)).toUInt32.toUInt16.toUInt32.toInt32) = _
  rw [UInt32.toUInt32_toUInt16, zI_nI, pk_char, pk_tn (by omega), Nat.mod_eq_of_lt (by omega)]
def LL (σ : St) (f s t p : Int) : Int := sm (fun q => (if q < f then σ 109 q else 0) + ((if q < s then σ 109 (12 + q) else 0) + (if q < t then σ 109 (24 + q) else 0))) p
theorem LL_12 {σ : St} {f s t : Int} (hf : 0 ≤ f ∧ f ≤ 12) (hs : 0 ≤ s ∧ s ≤ 12) (ht : 0 ≤ t ∧ t ≤ 12) : LL σ f s t 12 = sq (σ 109) 0 f + sq (σ 109) 1 s + sq (σ 109) 2 t := by
  unfold LL
  rw [sm_add, sm_add, sm_cut (f := fun q => σ 109 q) hf, sm_cut (f := fun q => σ 109 (12 + q)) hs, sm_cut (f := fun q => σ 109 (24 + q)) ht]
  have e0 : sm (fun q => σ 109 q) f = sq (σ 109) 0 f := sm_c (fun q _ _ => by show σ 109 q = σ 109 (12 * 0 + q); rw [show 12 * 0 + q = q by omega])
  rw [e0]
  show _ + (sq (σ 109) 1 s + sq (σ 109) 2 t) = _
  omega

theorem hyVX8_leftAt : yX8_leftAt.cls = RX8 ∧ yX8_leftAt.cls ≠ "java/lang/invoke/MethodHandle" ∧ yX8_leftAt.cls ≠ "java/lang/invoke/VarHandle" ∧ (parseMethodDescriptor yX8_leftAt.desc).map (fun d => d.parameters.length) = some 3 := by decide +kernel
theorem uX8_leftAt_X8 : ∀ w ∈ u_ws RX8 TX8 13, w ∈ wsX8_leftAt := by decide +kernel
theorem fX8_leftAt_12 : Cond.fieldLink RX8 12 (TX8 0).1 (TX8 0).2.1 (TX8 0).2.2.1 ∈ wsX8_leftAt := by decide +kernel
theorem uX8_leftAt_X0 : ∀ w ∈ u_ws RX0 TX0 6, w ∈ wsX8_leftAt := by decide +kernel
theorem fX8_leftAt_19 : Cond.fieldLink RX8 19 (TX8 1).1 (TX8 1).2.1 (TX8 1).2.2.1 ∈ wsX8_leftAt := by decide +kernel
theorem uX8_leftAt_X5 : ∀ w ∈ u_ws RX5 TX5 5, w ∈ wsX8_leftAt := by decide +kernel
set_option maxHeartbeats 8000000 in
set_option maxRecDepth 100000 in
theorem c_X8_leftAt {l : Launch} {G : Gy} (hG : Inj G) (σ : St) {f u t : Int} (h : XO σ) (hf : 0 ≤ f ∧ f ≤ 12) (hu : 0 ≤ u ∧ u ≤ 12) (ht : 0 ≤ t ∧ t ≤ 12) : ME l yX8_leftAt wsX8_leftAt ({ frames := 1, cells := 0, slots := 0, locals := 22 } : Room) G [.ref (G.2.2 82), .int (zI (f)), .int (zI (u)), .int (zI (t))] σ (LFT (σ 109) (σ 83 5) (σ 84) (σ 85) (σ 112) (fun o => decide (σ 111 o = 1)) f u t) σ := by
  refine MI.of hG (by decide +kernel) rfl rfl (Nat.le_of_ble_eq_true rfl) rfl ?_
  intro p e s m args below meth c H0 Q hC hret
  have hn := h.1
  have a0 := sq_rng (su := σ 109) h.2.1.1 (i := 0) (q := f) (by omega) hf
  have a1 := sq_rng (su := σ 109) h.2.1.1 (i := 1) (q := u) (by omega) hu
  have a2 := sq_rng (su := σ 109) h.2.1.1 (i := 2) (q := t) (by omega) ht
  have hl := LL_12 (σ := σ) hf hu ht
  have L91 : ∀ (n : Nat) (v k : Int), ((σ 83 5 - k).toNat) = n → (0 ≤ k ∧ k ≤ σ 83 5) → (v = LL σ f u t 12 - dm k (σ 84) (σ 85) (σ 112) (fun o => decide (σ 111 o = 1)) f u t) → wp p l e ({ frames := 1, cells := 0, slots := 0, locals := 22 } : Room) s m args below meth c (aA G (Array.size H0)) H0 8 Q G σ 91 [(0, .ref (G.2.2 82)), (1, .int (zI (f))), (2, .int (zI (u))), (3, .int (zI (t))), (4, .int (zI (v))), (5, .int (zI (k)))] [] := by
    intro n91
    induction n91 using Nat.strongRecOn with
    | ind n91 ih =>
      intro v k hm91 h1 h2
      have hok := fun z : k < σ 83 5 => h.2.2 k h1.1 z
      have hdr := dm_rng (n := k) (am := σ 84) (it := σ 85) (la := σ 112) (P := (fun o => decide (σ 111 o = 1))) (a := f) (b := u) (c := t) h1.1 (fun o x y => (h.2.2 o x (by omega)).2.2.1)
      have g0 := fun z : k < σ 83 5 => FI_rng h ⟨h1.1, z⟩ 0
      have g1 := fun z : k < σ 83 5 => FI_rng h ⟨h1.1, z⟩ 1
      have g2 := fun z : k < σ 83 5 => FI_rng h ⟨h1.1, z⟩ 2
      have hdx : dm (k + 1) (σ 84) (σ 85) (σ 112) (fun o => decide (σ 111 o = 1)) f u t = dm k (σ 84) (σ 85) (σ 112) (fun o => decide (σ 111 o = 1)) f u t + (if (decide (σ 111 k = 1) && hSb (σ 85 k) (σ 112 k) f u t) = true then σ 84 k else 0) := sm_s h1.1
      refine wp_iload hC dX8_leftAt_91 rfl ?_
      refine wp_aload_n hC dX8_leftAt_93 rfl ?_
      refine wp_geta (k := 0) hC (rfl) (by decide) (rfl) (rfl) (by decide) uX8_leftAt_X8 fX8_leftAt_12 (rfl) dX8_leftAt_94 ?_
      refine wp_getiN (k := 5) (z := 5) hC rfl (rfl) (by decide) (rfl) (rfl) (by decide) uX8_leftAt_X0 fnX8_116 (rfl) dX8_leftAt_97 ?_
      refine wp_top (b := σ 83 5) rfl ?_
      refine wp_icmp_ge (tgt := 198) hC dX8_leftAt_100 (by decide) (by omega) (by omega) (fun c_100 => ?_) (fun c_100 => ?_)
      · refine wp_iload hC dX8_leftAt_198 rfl ?_
        exact hret _ _ _ _ (by omega) rfl (⟨by rw [h2, hl, show k = σ 83 5 by omega]; rfl, rfl⟩) dX8_leftAt_200
      · refine wp_aload_n hC dX8_leftAt_103 rfl ?_
        refine wp_geta (k := 0) hC (rfl) (by decide) (rfl) (rfl) (by decide) uX8_leftAt_X8 fX8_leftAt_12 (rfl) dX8_leftAt_104 ?_
        refine wp_getaN (k := 1) hC (rfl) (by decide) (rfl) (rfl) (by decide) uX8_leftAt_X0 fnX8_139 (rfl) dX8_leftAt_107 ?_
        refine wp_iload hC dX8_leftAt_110 rfl ?_
        refine wp_iald (n := 24) hC (rfl) (Nat.le_of_ble_eq_true rfl) (rfl) (by decide) (by omega) dX8_leftAt_112 ?_
        refine wp_istore (lv2 := [(0, _), (1, _), (2, _), (3, _), (4, _), (5, _), (6, _)]) hC dX8_leftAt_113 rfl (by decide) ?_
        refine wp_aload_n hC dX8_leftAt_115 rfl ?_
        refine wp_geta (k := 1) hC (rfl) (by decide) (rfl) (rfl) (by decide) uX8_leftAt_X8 fX8_leftAt_19 (rfl) dX8_leftAt_116 ?_
        refine wp_getaN (k := 3) hC (rfl) (by decide) (rfl) (rfl) (by decide) uX8_leftAt_X5 fnX8_127 (rfl) dX8_leftAt_119 ?_
        refine wp_iload hC dX8_leftAt_122 rfl ?_
        refine wp_iald (n := 24) hC (rfl) (Nat.le_of_ble_eq_true rfl) (rfl) (by decide) (by omega) dX8_leftAt_124 ?_
        refine wp_istore (lv2 := [(0, _), (1, _), (2, _), (3, _), (4, _), (5, _), (6, _), (7, _)]) hC dX8_leftAt_125 rfl (by decide) ?_
        refine wp_aload_n hC dX8_leftAt_127 rfl ?_
        refine wp_geta (k := 1) hC (rfl) (by decide) (rfl) (rfl) (by decide) uX8_leftAt_X8 fX8_leftAt_19 (rfl) dX8_leftAt_128 ?_
        refine wp_getaN (k := 2) hC (rfl) (by decide) (rfl) (rfl) (by decide) uX8_leftAt_X5 fnX8_124 (rfl) dX8_leftAt_131 ?_
        refine wp_iload hC dX8_leftAt_134 rfl ?_
        refine wp_iald (n := 24) hC (rfl) (Nat.le_of_ble_eq_true rfl) (rfl) (by decide) (by omega) dX8_leftAt_136 ?_
        refine wp_top (b := σ 111 k) rfl ?_
        refine wp_iconst hC dX8_leftAt_137 ?_
        refine wp_icmp_ne (tgt := 192) hC dX8_leftAt_138 (by decide) (by omega) (by omega) (fun c_138 => ?_) (fun c_138 => ?_)
        · refine wp_iinc (lv2 := [(0, _), (1, _), (2, _), (3, _), (4, _), (5, _), (6, _), (7, _)]) hC dX8_leftAt_192 rfl rfl (by decide) ?_
          refine wp_goto (tgt := 91) hC dX8_leftAt_195 (by decide) ?_
          refine wp_lv hC [0, 1, 2, 3, 4, 5] rfl ?_
          exact ih _ (by omega) _ _ rfl (by omega) (by rw [hdx, if_neg (by rw [Bool.and_eq_true, hSb_FI (by omega) (by omega) (by omega), decide_eq_true_eq]; rintro ⟨z1, z2, z3, z4⟩; omega), h2]; omega)
        · refine wp_iload hC dX8_leftAt_141 rfl ?_
          refine wp_iconst hC dX8_leftAt_143 ?_
          refine wp_iload hC dX8_leftAt_144 rfl ?_
          refine wp_callSe (As := [_, _, _]) hC (c_X8_startOf hG σ (it := σ 85 k) (i := 0) (la := σ 112 k) (by omega) (hok (by omega)).2.2.2.1 (hok (by omega)).2.1) gX8_leftAt_X8_startOf rfl ⟨rfl, rfl⟩ ⟨by decide, by decide⟩ hySX8_startOf rfl (Nat.le_of_ble_eq_true rfl) dX8_leftAt_146 (fun hx_146 => ?_)
          refine wp_top (b := FI (σ 85 k) (σ 112 k) 0) rfl ?_
          refine wp_iload_n hC dX8_leftAt_149 rfl ?_
          refine wp_icmp_gt (tgt := 192) hC dX8_leftAt_150 (by decide) (by omega) (by omega) (fun c_150 => ?_) (fun c_150 => ?_)
          · refine wp_iinc (lv2 := [(0, _), (1, _), (2, _), (3, _), (4, _), (5, _), (6, _), (7, _)]) hC dX8_leftAt_192 rfl rfl (by decide) ?_
            refine wp_goto (tgt := 91) hC dX8_leftAt_195 (by decide) ?_
            refine wp_lv hC [0, 1, 2, 3, 4, 5] rfl ?_
            exact ih _ (by omega) _ _ rfl (by omega) (by rw [hdx, if_neg (by rw [Bool.and_eq_true, hSb_FI (by omega) (by omega) (by omega), decide_eq_true_eq]; rintro ⟨z1, z2, z3, z4⟩; omega), h2]; omega)
          · refine wp_iload hC dX8_leftAt_153 rfl ?_
            refine wp_iconst hC dX8_leftAt_155 ?_
            refine wp_iload hC dX8_leftAt_156 rfl ?_
            refine wp_callSe (As := [_, _, _]) hC (c_X8_startOf hG σ (it := σ 85 k) (i := 1) (la := σ 112 k) (by omega) (hok (by omega)).2.2.2.1 (hok (by omega)).2.1) gX8_leftAt_X8_startOf rfl ⟨rfl, rfl⟩ ⟨by decide, by decide⟩ hySX8_startOf rfl (Nat.le_of_ble_eq_true rfl) dX8_leftAt_158 (fun hx_158 => ?_)
            refine wp_top (b := FI (σ 85 k) (σ 112 k) 1) rfl ?_
            refine wp_iload_n hC dX8_leftAt_161 rfl ?_
            refine wp_icmp_gt (tgt := 192) hC dX8_leftAt_162 (by decide) (by omega) (by omega) (fun c_162 => ?_) (fun c_162 => ?_)
            · refine wp_iinc (lv2 := [(0, _), (1, _), (2, _), (3, _), (4, _), (5, _), (6, _), (7, _)]) hC dX8_leftAt_192 rfl rfl (by decide) ?_
              refine wp_goto (tgt := 91) hC dX8_leftAt_195 (by decide) ?_
              refine wp_lv hC [0, 1, 2, 3, 4, 5] rfl ?_
              exact ih _ (by omega) _ _ rfl (by omega) (by rw [hdx, if_neg (by rw [Bool.and_eq_true, hSb_FI (by omega) (by omega) (by omega), decide_eq_true_eq]; rintro ⟨z1, z2, z3, z4⟩; omega), h2]; omega)
            · refine wp_iload hC dX8_leftAt_165 rfl ?_
              refine wp_iconst hC dX8_leftAt_167 ?_
              refine wp_iload hC dX8_leftAt_168 rfl ?_
              refine wp_callSe (As := [_, _, _]) hC (c_X8_startOf hG σ (it := σ 85 k) (i := 2) (la := σ 112 k) (by omega) (hok (by omega)).2.2.2.1 (hok (by omega)).2.1) gX8_leftAt_X8_startOf rfl ⟨rfl, rfl⟩ ⟨by decide, by decide⟩ hySX8_startOf rfl (Nat.le_of_ble_eq_true rfl) dX8_leftAt_170 (fun hx_170 => ?_)
              refine wp_top (b := FI (σ 85 k) (σ 112 k) 2) rfl ?_
              refine wp_iload_n hC dX8_leftAt_173 rfl ?_
              refine wp_icmp_gt (tgt := 192) hC dX8_leftAt_174 (by decide) (by omega) (by omega) (fun c_174 => ?_) (fun c_174 => ?_)
              · refine wp_iinc (lv2 := [(0, _), (1, _), (2, _), (3, _), (4, _), (5, _), (6, _), (7, _)]) hC dX8_leftAt_192 rfl rfl (by decide) ?_
                refine wp_goto (tgt := 91) hC dX8_leftAt_195 (by decide) ?_
                refine wp_lv hC [0, 1, 2, 3, 4, 5] rfl ?_
                exact ih _ (by omega) _ _ rfl (by omega) (by rw [hdx, if_neg (by rw [Bool.and_eq_true, hSb_FI (by omega) (by omega) (by omega), decide_eq_true_eq]; rintro ⟨z1, z2, z3, z4⟩; omega), h2]; omega)
              · refine wp_iload hC dX8_leftAt_177 rfl ?_
                refine wp_aload_n hC dX8_leftAt_179 rfl ?_
                refine wp_geta (k := 0) hC (rfl) (by decide) (rfl) (rfl) (by decide) uX8_leftAt_X8 fX8_leftAt_12 (rfl) dX8_leftAt_180 ?_
                refine wp_getaN (k := 0) hC (rfl) (by decide) (rfl) (rfl) (by decide) uX8_leftAt_X0 fnX8_136 (rfl) dX8_leftAt_183 ?_
                refine wp_iload hC dX8_leftAt_186 rfl ?_
                refine wp_iald (n := 24) hC (rfl) (Nat.le_of_ble_eq_true rfl) (rfl) (by decide) (by omega) dX8_leftAt_188 ?_
                refine wp_top (b := σ 84 k) rfl ?_
                refine wp_isub hC dX8_leftAt_189 ?_
                refine wp_istore (lv2 := [(0, _), (1, _), (2, _), (3, _), (4, _), (5, _), (6, _), (7, _)]) hC dX8_leftAt_190 rfl (by decide) ?_
                refine wp_iinc (lv2 := [(0, _), (1, _), (2, _), (3, _), (4, _), (5, _), (6, _), (7, _)]) hC dX8_leftAt_192 rfl rfl (by decide) ?_
                refine wp_goto (tgt := 91) hC dX8_leftAt_195 (by decide) ?_
                refine wp_lv hC [0, 1, 2, 3, 4, 5] rfl ?_
                exact ih _ (by omega) _ _ rfl (by omega) (by rw [hdx, if_pos (by rw [Bool.and_eq_true, hSb_FI (by omega) (by omega) (by omega), decide_eq_true_eq]; exact ⟨by omega, by omega, by omega, by omega⟩), h2]; omega)
  have L6 : ∀ (n : Nat) (v k : Int), ((12 - k).toNat) = n → (0 ≤ k ∧ k ≤ 12) → (v = LL σ f u t k) → wp p l e ({ frames := 1, cells := 0, slots := 0, locals := 22 } : Room) s m args below meth c (aA G (Array.size H0)) H0 8 Q G σ 6 [(0, .ref (G.2.2 82)), (1, .int (zI (f))), (2, .int (zI (u))), (3, .int (zI (t))), (4, .int (zI (v))), (5, .int (zI (k)))] [] := by
    intro n6
    induction n6 using Nat.strongRecOn with
    | ind n6 ih =>
      intro v k hm6 h1 h2
      have hsx : LL σ f u t (k + 1) = LL σ f u t k + ((if k < f then σ 109 k else 0) + ((if k < u then σ 109 (12 + k) else 0) + (if k < t then σ 109 (24 + k) else 0))) := sm_s h1.1
      refine wp_iload hC dX8_leftAt_6 rfl ?_
      refine wp_bipush hC dX8_leftAt_8 rfl ?_
      refine wp_icmp_ge (tgt := 88) hC dX8_leftAt_10 (by decide) (by omega) (by omega) (fun c_10 => ?_) (fun c_10 => ?_)
      · refine wp_iconst hC dX8_leftAt_88 ?_
        refine wp_istore (lv2 := [(0, _), (1, _), (2, _), (3, _), (4, _), (5, _)]) hC dX8_leftAt_89 rfl (by decide) ?_
        exact L91 _ _ 0 rfl (by omega) (by rw [h2, show k = 12 by omega]; show _ = _ - 0; omega)
      · refine wp_iload hC dX8_leftAt_13 rfl ?_
        refine wp_iload_n hC dX8_leftAt_15 rfl ?_
        refine wp_icmp_ge (tgt := 34) hC dX8_leftAt_16 (by decide) (by omega) (by omega) (fun c_16 => ?_) (fun c_16 => ?_)
        · refine wp_iload hC dX8_leftAt_34 rfl ?_
          refine wp_iload_n hC dX8_leftAt_36 rfl ?_
          refine wp_icmp_ge (tgt := 58) hC dX8_leftAt_37 (by decide) (by omega) (by omega) (fun c_37 => ?_) (fun c_37 => ?_)
          · refine wp_iload hC dX8_leftAt_58 rfl ?_
            refine wp_iload_n hC dX8_leftAt_60 rfl ?_
            refine wp_icmp_ge (tgt := 82) hC dX8_leftAt_61 (by decide) (by omega) (by omega) (fun c_61 => ?_) (fun c_61 => ?_)
            · refine wp_iinc (lv2 := [(0, _), (1, _), (2, _), (3, _), (4, _), (5, _)]) hC dX8_leftAt_82 rfl rfl (by decide) ?_
              refine wp_goto (tgt := 6) hC dX8_leftAt_85 (by decide) ?_
              exact ih _ (by omega) _ _ rfl (by omega) (by rw [hsx, h2]; (repeat' split) <;> omega)
            · refine wp_iload hC dX8_leftAt_64 rfl ?_
              refine wp_aload_n hC dX8_leftAt_66 rfl ?_
              refine wp_geta (k := 1) hC (rfl) (by decide) (rfl) (rfl) (by decide) uX8_leftAt_X8 fX8_leftAt_19 (rfl) dX8_leftAt_67 ?_
              refine wp_getaN (k := 0) hC (rfl) (by decide) (rfl) (rfl) (by decide) uX8_leftAt_X5 fnX8_80 (rfl) dX8_leftAt_70 ?_
              refine wp_bipush hC dX8_leftAt_73 rfl ?_
              refine wp_iload hC dX8_leftAt_75 rfl ?_
              refine wp_iadd hC dX8_leftAt_77 ?_
              refine wp_iald (n := 36) hC (rfl) (Nat.le_of_ble_eq_true rfl) (rfl) (by decide) (by omega) dX8_leftAt_78 ?_
              refine wp_top (b := σ 109 (24 + k)) rfl ?_
              refine wp_iadd hC dX8_leftAt_79 ?_
              refine wp_istore (lv2 := [(0, _), (1, _), (2, _), (3, _), (4, _), (5, _)]) hC dX8_leftAt_80 rfl (by decide) ?_
              refine wp_iinc (lv2 := [(0, _), (1, _), (2, _), (3, _), (4, _), (5, _)]) hC dX8_leftAt_82 rfl rfl (by decide) ?_
              refine wp_goto (tgt := 6) hC dX8_leftAt_85 (by decide) ?_
              exact ih _ (by omega) _ _ rfl (by omega) (by rw [hsx, h2]; (repeat' split) <;> omega)
          · refine wp_iload hC dX8_leftAt_40 rfl ?_
            refine wp_aload_n hC dX8_leftAt_42 rfl ?_
            refine wp_geta (k := 1) hC (rfl) (by decide) (rfl) (rfl) (by decide) uX8_leftAt_X8 fX8_leftAt_19 (rfl) dX8_leftAt_43 ?_
            refine wp_getaN (k := 0) hC (rfl) (by decide) (rfl) (rfl) (by decide) uX8_leftAt_X5 fnX8_80 (rfl) dX8_leftAt_46 ?_
            refine wp_bipush hC dX8_leftAt_49 rfl ?_
            refine wp_iload hC dX8_leftAt_51 rfl ?_
            refine wp_iadd hC dX8_leftAt_53 ?_
            refine wp_iald (n := 36) hC (rfl) (Nat.le_of_ble_eq_true rfl) (rfl) (by decide) (by omega) dX8_leftAt_54 ?_
            refine wp_top (b := σ 109 (12 + k)) rfl ?_
            refine wp_iadd hC dX8_leftAt_55 ?_
            refine wp_istore (lv2 := [(0, _), (1, _), (2, _), (3, _), (4, _), (5, _)]) hC dX8_leftAt_56 rfl (by decide) ?_
            refine wp_iload hC dX8_leftAt_58 rfl ?_
            refine wp_iload_n hC dX8_leftAt_60 rfl ?_
            refine wp_icmp_ge (tgt := 82) hC dX8_leftAt_61 (by decide) (by omega) (by omega) (fun c_61 => ?_) (fun c_61 => ?_)
            · refine wp_iinc (lv2 := [(0, _), (1, _), (2, _), (3, _), (4, _), (5, _)]) hC dX8_leftAt_82 rfl rfl (by decide) ?_
              refine wp_goto (tgt := 6) hC dX8_leftAt_85 (by decide) ?_
              exact ih _ (by omega) _ _ rfl (by omega) (by rw [hsx, h2]; (repeat' split) <;> omega)
            · refine wp_iload hC dX8_leftAt_64 rfl ?_
              refine wp_aload_n hC dX8_leftAt_66 rfl ?_
              refine wp_geta (k := 1) hC (rfl) (by decide) (rfl) (rfl) (by decide) uX8_leftAt_X8 fX8_leftAt_19 (rfl) dX8_leftAt_67 ?_
              refine wp_getaN (k := 0) hC (rfl) (by decide) (rfl) (rfl) (by decide) uX8_leftAt_X5 fnX8_80 (rfl) dX8_leftAt_70 ?_
              refine wp_bipush hC dX8_leftAt_73 rfl ?_
              refine wp_iload hC dX8_leftAt_75 rfl ?_
              refine wp_iadd hC dX8_leftAt_77 ?_
              refine wp_iald (n := 36) hC (rfl) (Nat.le_of_ble_eq_true rfl) (rfl) (by decide) (by omega) dX8_leftAt_78 ?_
              refine wp_top (b := σ 109 (24 + k)) rfl ?_
              refine wp_iadd hC dX8_leftAt_79 ?_
              refine wp_istore (lv2 := [(0, _), (1, _), (2, _), (3, _), (4, _), (5, _)]) hC dX8_leftAt_80 rfl (by decide) ?_
              refine wp_iinc (lv2 := [(0, _), (1, _), (2, _), (3, _), (4, _), (5, _)]) hC dX8_leftAt_82 rfl rfl (by decide) ?_
              refine wp_goto (tgt := 6) hC dX8_leftAt_85 (by decide) ?_
              exact ih _ (by omega) _ _ rfl (by omega) (by rw [hsx, h2]; (repeat' split) <;> omega)
        · refine wp_iload hC dX8_leftAt_19 rfl ?_
          refine wp_aload_n hC dX8_leftAt_21 rfl ?_
          refine wp_geta (k := 1) hC (rfl) (by decide) (rfl) (rfl) (by decide) uX8_leftAt_X8 fX8_leftAt_19 (rfl) dX8_leftAt_22 ?_
          refine wp_getaN (k := 0) hC (rfl) (by decide) (rfl) (rfl) (by decide) uX8_leftAt_X5 fnX8_80 (rfl) dX8_leftAt_25 ?_
          refine wp_iload hC dX8_leftAt_28 rfl ?_
          refine wp_iald (n := 36) hC (rfl) (Nat.le_of_ble_eq_true rfl) (rfl) (by decide) (by omega) dX8_leftAt_30 ?_
          refine wp_top (b := σ 109 k) rfl ?_
          refine wp_iadd hC dX8_leftAt_31 ?_
          refine wp_istore (lv2 := [(0, _), (1, _), (2, _), (3, _), (4, _), (5, _)]) hC dX8_leftAt_32 rfl (by decide) ?_
          refine wp_iload hC dX8_leftAt_34 rfl ?_
          refine wp_iload_n hC dX8_leftAt_36 rfl ?_
          refine wp_icmp_ge (tgt := 58) hC dX8_leftAt_37 (by decide) (by omega) (by omega) (fun c_37 => ?_) (fun c_37 => ?_)
          · refine wp_iload hC dX8_leftAt_58 rfl ?_
            refine wp_iload_n hC dX8_leftAt_60 rfl ?_
            refine wp_icmp_ge (tgt := 82) hC dX8_leftAt_61 (by decide) (by omega) (by omega) (fun c_61 => ?_) (fun c_61 => ?_)
            · refine wp_iinc (lv2 := [(0, _), (1, _), (2, _), (3, _), (4, _), (5, _)]) hC dX8_leftAt_82 rfl rfl (by decide) ?_
              refine wp_goto (tgt := 6) hC dX8_leftAt_85 (by decide) ?_
              exact ih _ (by omega) _ _ rfl (by omega) (by rw [hsx, h2]; (repeat' split) <;> omega)
            · refine wp_iload hC dX8_leftAt_64 rfl ?_
              refine wp_aload_n hC dX8_leftAt_66 rfl ?_
              refine wp_geta (k := 1) hC (rfl) (by decide) (rfl) (rfl) (by decide) uX8_leftAt_X8 fX8_leftAt_19 (rfl) dX8_leftAt_67 ?_
              refine wp_getaN (k := 0) hC (rfl) (by decide) (rfl) (rfl) (by decide) uX8_leftAt_X5 fnX8_80 (rfl) dX8_leftAt_70 ?_
              refine wp_bipush hC dX8_leftAt_73 rfl ?_
              refine wp_iload hC dX8_leftAt_75 rfl ?_
              refine wp_iadd hC dX8_leftAt_77 ?_
              refine wp_iald (n := 36) hC (rfl) (Nat.le_of_ble_eq_true rfl) (rfl) (by decide) (by omega) dX8_leftAt_78 ?_
              refine wp_top (b := σ 109 (24 + k)) rfl ?_
              refine wp_iadd hC dX8_leftAt_79 ?_
              refine wp_istore (lv2 := [(0, _), (1, _), (2, _), (3, _), (4, _), (5, _)]) hC dX8_leftAt_80 rfl (by decide) ?_
              refine wp_iinc (lv2 := [(0, _), (1, _), (2, _), (3, _), (4, _), (5, _)]) hC dX8_leftAt_82 rfl rfl (by decide) ?_
              refine wp_goto (tgt := 6) hC dX8_leftAt_85 (by decide) ?_
              exact ih _ (by omega) _ _ rfl (by omega) (by rw [hsx, h2]; (repeat' split) <;> omega)
          · refine wp_iload hC dX8_leftAt_40 rfl ?_
            refine wp_aload_n hC dX8_leftAt_42 rfl ?_
            refine wp_geta (k := 1) hC (rfl) (by decide) (rfl) (rfl) (by decide) uX8_leftAt_X8 fX8_leftAt_19 (rfl) dX8_leftAt_43 ?_
            refine wp_getaN (k := 0) hC (rfl) (by decide) (rfl) (rfl) (by decide) uX8_leftAt_X5 fnX8_80 (rfl) dX8_leftAt_46 ?_
            refine wp_bipush hC dX8_leftAt_49 rfl ?_
            refine wp_iload hC dX8_leftAt_51 rfl ?_
            refine wp_iadd hC dX8_leftAt_53 ?_
            refine wp_iald (n := 36) hC (rfl) (Nat.le_of_ble_eq_true rfl) (rfl) (by decide) (by omega) dX8_leftAt_54 ?_
            refine wp_top (b := σ 109 (12 + k)) rfl ?_
            refine wp_iadd hC dX8_leftAt_55 ?_
            refine wp_istore (lv2 := [(0, _), (1, _), (2, _), (3, _), (4, _), (5, _)]) hC dX8_leftAt_56 rfl (by decide) ?_
            refine wp_iload hC dX8_leftAt_58 rfl ?_
            refine wp_iload_n hC dX8_leftAt_60 rfl ?_
            refine wp_icmp_ge (tgt := 82) hC dX8_leftAt_61 (by decide) (by omega) (by omega) (fun c_61 => ?_) (fun c_61 => ?_)
            · refine wp_iinc (lv2 := [(0, _), (1, _), (2, _), (3, _), (4, _), (5, _)]) hC dX8_leftAt_82 rfl rfl (by decide) ?_
              refine wp_goto (tgt := 6) hC dX8_leftAt_85 (by decide) ?_
              exact ih _ (by omega) _ _ rfl (by omega) (by rw [hsx, h2]; (repeat' split) <;> omega)
            · refine wp_iload hC dX8_leftAt_64 rfl ?_
              refine wp_aload_n hC dX8_leftAt_66 rfl ?_
              refine wp_geta (k := 1) hC (rfl) (by decide) (rfl) (rfl) (by decide) uX8_leftAt_X8 fX8_leftAt_19 (rfl) dX8_leftAt_67 ?_
              refine wp_getaN (k := 0) hC (rfl) (by decide) (rfl) (rfl) (by decide) uX8_leftAt_X5 fnX8_80 (rfl) dX8_leftAt_70 ?_
              refine wp_bipush hC dX8_leftAt_73 rfl ?_
              refine wp_iload hC dX8_leftAt_75 rfl ?_
              refine wp_iadd hC dX8_leftAt_77 ?_
              refine wp_iald (n := 36) hC (rfl) (Nat.le_of_ble_eq_true rfl) (rfl) (by decide) (by omega) dX8_leftAt_78 ?_
              refine wp_top (b := σ 109 (24 + k)) rfl ?_
              refine wp_iadd hC dX8_leftAt_79 ?_
              refine wp_istore (lv2 := [(0, _), (1, _), (2, _), (3, _), (4, _), (5, _)]) hC dX8_leftAt_80 rfl (by decide) ?_
              refine wp_iinc (lv2 := [(0, _), (1, _), (2, _), (3, _), (4, _), (5, _)]) hC dX8_leftAt_82 rfl rfl (by decide) ?_
              refine wp_goto (tgt := 6) hC dX8_leftAt_85 (by decide) ?_
              exact ih _ (by omega) _ _ rfl (by omega) (by rw [hsx, h2]; (repeat' split) <;> omega)
  refine wp_iconst hC dX8_leftAt_0 ?_
  refine wp_istore (lv2 := [(0, _), (1, _), (2, _), (3, _), (4, _)]) hC dX8_leftAt_1 rfl (by decide) ?_
  refine wp_iconst hC dX8_leftAt_3 ?_
  refine wp_istore (lv2 := [(0, _), (1, _), (2, _), (3, _), (4, _), (5, _)]) hC dX8_leftAt_4 rfl (by decide) ?_
  exact L6 _ 0 0 rfl (by omega) rfl

theorem hyVX4_has : yX4_has.cls = RX4 ∧ yX4_has.cls ≠ "java/lang/invoke/MethodHandle" ∧ yX4_has.cls ≠ "java/lang/invoke/VarHandle" ∧ (parseMethodDescriptor yX4_has.desc).map (fun d => d.parameters.length) = some 1 := by decide +kernel
set_option maxHeartbeats 4000000 in
set_option maxRecDepth 100000 in
theorem c_X4_has {l : Launch} {G : Gy} (hG : Inj G) (σ : St) {s1 : Int} (hs : iR s1) : MB l yX4_has wsX4_has ({ frames := 0, cells := 0, slots := 0, locals := 0 } : Room) G [.ref (G.2.2 100), .int (zI (s1))] σ (0 ≤ s1 ∧ s1 < 4) σ := by
  refine MI.of hG (by decide +kernel) rfl rfl (Nat.le_of_ble_eq_true rfl) rfl ?_
  intro p e s m args below meth c H0 Q hC hret
  refine wp_iload_n hC dX4_has_0 rfl ?_
  refine wp_if_lt (tgt := 13) hC dX4_has_1 (by decide) (by omega) (fun c_1 => ?_) (fun c_1 => ?_)
  · refine wp_iconst hC dX4_has_13 ?_
    exact hret _ _ _ _ (by omega) rfl (⟨bI0 (by omega), rfl⟩) dX4_has_14
  · refine wp_iload_n hC dX4_has_4 rfl ?_
    refine wp_iconst hC dX4_has_5 ?_
    refine wp_icmp_ge (tgt := 13) hC dX4_has_6 (by decide) (by omega) (by omega) (fun c_6 => ?_) (fun c_6 => ?_)
    · refine wp_iconst hC dX4_has_13 ?_
      exact hret _ _ _ _ (by omega) rfl (⟨bI0 (by omega), rfl⟩) dX4_has_14
    · refine wp_iconst hC dX4_has_9 ?_
      refine wp_goto (tgt := 14) hC dX4_has_10 (by decide) ?_
      exact hret _ _ _ _ (by omega) rfl (⟨bI1 (by omega), rfl⟩) dX4_has_14

theorem hyVX4_isEmpty : yX4_isEmpty.cls = RX4 ∧ yX4_isEmpty.cls ≠ "java/lang/invoke/MethodHandle" ∧ yX4_isEmpty.cls ≠ "java/lang/invoke/VarHandle" ∧ (parseMethodDescriptor yX4_isEmpty.desc).map (fun d => d.parameters.length) = some 1 := by decide +kernel
theorem uX4_isEmpty_X4 : ∀ w ∈ u_ws RX4 TX4 2, w ∈ wsX4_isEmpty := by decide +kernel
theorem fX4_isEmpty_15 : Cond.fieldLink RX4 15 (TX4 1).1 (TX4 1).2.1 (TX4 1).2.2.1 ∈ wsX4_isEmpty := by decide +kernel
set_option maxHeartbeats 4000000 in
set_option maxRecDepth 100000 in
theorem c_X4_isEmpty {l : Launch} {G : Gy} (hG : Inj G) (σ : St) {s1 : Int} (hs : iR s1) (hz : ∀ k, 0 ≤ k → k < 4 → -1 ≤ σ 102 k ∧ σ 102 k ≤ 24) : MB l yX4_isEmpty wsX4_isEmpty ({ frames := 1, cells := 0, slots := 0, locals := 21 } : Room) G [.ref (G.2.2 100), .int (zI (s1))] σ ((0 ≤ s1 ∧ s1 < 4) ∧ σ 102 s1 < 0) σ := by
  refine MI.of hG (by decide +kernel) rfl rfl (Nat.le_of_ble_eq_true rfl) rfl ?_
  intro p e s m args below meth c H0 Q hC hret
  have hzs := fun (a : 0 ≤ s1) (b : s1 < 4) => hz s1 a b
  refine wp_aload_n hC dX4_isEmpty_0 rfl ?_
  refine wp_iload_n hC dX4_isEmpty_1 rfl ?_
  refine wp_callVb (As := [_]) hC (c_X4_has hG _ (by omega)) gX4_isEmpty_X4_has rfl ⟨rfl, rfl⟩ ⟨by decide, by decide⟩ hyVX4_has (rfl) (by decide) (rfl) rfl (Nat.le_of_ble_eq_true rfl) dX4_isEmpty_2 (fun hx_2 => ?_)
  refine wp_ifb_eq (tgt := 21) hC dX4_isEmpty_5 (by decide) (fun c_5 => ?_) (fun c_5 => ?_)
  · refine wp_iconst hC dX4_isEmpty_21 ?_
    exact hret _ _ _ _ (by omega) rfl (⟨bI0 (by omega), rfl⟩) dX4_isEmpty_22
  · refine wp_aload_n hC dX4_isEmpty_8 rfl ?_
    refine wp_geta (k := 1) hC (rfl) (by decide) (rfl) (rfl) (by decide) uX4_isEmpty_X4 fX4_isEmpty_15 (rfl) dX4_isEmpty_9 ?_
    refine wp_iload_n hC dX4_isEmpty_12 rfl ?_
    refine wp_iald (n := 4) hC (rfl) (Nat.le_of_ble_eq_true rfl) (rfl) (by decide) (by omega) dX4_isEmpty_13 ?_
    refine wp_top (b := σ 102 s1) rfl ?_
    refine wp_if_ge (tgt := 21) hC dX4_isEmpty_14 (by decide) (by omega) (fun c_14 => ?_) (fun c_14 => ?_)
    · refine wp_iconst hC dX4_isEmpty_21 ?_
      exact hret _ _ _ _ (by omega) rfl (⟨bI0 (by omega), rfl⟩) dX4_isEmpty_22
    · refine wp_iconst hC dX4_isEmpty_17 ?_
      refine wp_goto (tgt := 22) hC dX4_isEmpty_18 (by decide) ?_
      exact hret _ _ _ _ (by omega) rfl (⟨bI1 (by omega), rfl⟩) dX4_isEmpty_22

theorem hyVX4_hasPlace : yX4_hasPlace.cls = RX4 ∧ yX4_hasPlace.cls ≠ "java/lang/invoke/MethodHandle" ∧ yX4_hasPlace.cls ≠ "java/lang/invoke/VarHandle" ∧ (parseMethodDescriptor yX4_hasPlace.desc).map (fun d => d.parameters.length) = some 2 := by decide +kernel
theorem uX4_hasPlace_X4 : ∀ w ∈ u_ws RX4 TX4 2, w ∈ wsX4_hasPlace := by decide +kernel
theorem fX4_hasPlace_15 : Cond.fieldLink RX4 15 (TX4 1).1 (TX4 1).2.1 (TX4 1).2.2.1 ∈ wsX4_hasPlace := by decide +kernel
set_option maxHeartbeats 4000000 in
set_option maxRecDepth 100000 in
theorem c_X4_hasPlace {l : Launch} {G : Gy} (hG : Inj G) (σ : St) {s1 i : Int} (hs : iR s1) (hi : iR i) (hz : ∀ k, 0 ≤ k → k < 4 → -1 ≤ σ 102 k ∧ σ 102 k ≤ 24) : MB l yX4_hasPlace wsX4_hasPlace ({ frames := 1, cells := 0, slots := 0, locals := 21 } : Room) G [.ref (G.2.2 100), .int (zI (s1)), .int (zI (i))] σ ((0 ≤ s1 ∧ s1 < 4) ∧ 0 ≤ i ∧ i < σ 102 s1) σ := by
  refine MI.of hG (by decide +kernel) rfl rfl (Nat.le_of_ble_eq_true rfl) rfl ?_
  intro p e s m args below meth c H0 Q hC hret
  have hzs := fun (a : 0 ≤ s1) (b : s1 < 4) => hz s1 a b
  refine wp_aload_n hC dX4_hasPlace_0 rfl ?_
  refine wp_iload_n hC dX4_hasPlace_1 rfl ?_
  refine wp_callVb (As := [_]) hC (c_X4_has hG _ (by omega)) gX4_hasPlace_X4_has rfl ⟨rfl, rfl⟩ ⟨by decide, by decide⟩ hyVX4_has (rfl) (by decide) (rfl) rfl (Nat.le_of_ble_eq_true rfl) dX4_hasPlace_2 (fun hx_2 => ?_)
  refine wp_ifb_eq (tgt := 26) hC dX4_hasPlace_5 (by decide) (fun c_5 => ?_) (fun c_5 => ?_)
  · refine wp_iconst hC dX4_hasPlace_26 ?_
    exact hret _ _ _ _ (by omega) rfl (⟨bI0 (by omega), rfl⟩) dX4_hasPlace_27
  · refine wp_iload_n hC dX4_hasPlace_8 rfl ?_
    refine wp_if_lt (tgt := 26) hC dX4_hasPlace_9 (by decide) (by omega) (fun c_9 => ?_) (fun c_9 => ?_)
    · refine wp_iconst hC dX4_hasPlace_26 ?_
      exact hret _ _ _ _ (by omega) rfl (⟨bI0 (by omega), rfl⟩) dX4_hasPlace_27
    · refine wp_iload_n hC dX4_hasPlace_12 rfl ?_
      refine wp_aload_n hC dX4_hasPlace_13 rfl ?_
      refine wp_geta (k := 1) hC (rfl) (by decide) (rfl) (rfl) (by decide) uX4_hasPlace_X4 fX4_hasPlace_15 (rfl) dX4_hasPlace_14 ?_
      refine wp_iload_n hC dX4_hasPlace_17 rfl ?_
      refine wp_iald (n := 4) hC (rfl) (Nat.le_of_ble_eq_true rfl) (rfl) (by decide) (by omega) dX4_hasPlace_18 ?_
      refine wp_top (b := σ 102 s1) rfl ?_
      refine wp_icmp_ge (tgt := 26) hC dX4_hasPlace_19 (by decide) (by omega) (by have := hzs (by omega) (by omega); omega) (fun c_19 => ?_) (fun c_19 => ?_)
      · refine wp_iconst hC dX4_hasPlace_26 ?_
        exact hret _ _ _ _ (by omega) rfl (⟨bI0 (by omega), rfl⟩) dX4_hasPlace_27
      · refine wp_iconst hC dX4_hasPlace_22 ?_
        refine wp_goto (tgt := 27) hC dX4_hasPlace_23 (by decide) ?_
        exact hret _ _ _ _ (by omega) rfl (⟨bI1 (by omega), rfl⟩) dX4_hasPlace_27

theorem hyVX7_isFull : yX7_isFull.cls = RX7 ∧ yX7_isFull.cls ≠ "java/lang/invoke/MethodHandle" ∧ yX7_isFull.cls ≠ "java/lang/invoke/VarHandle" ∧ (parseMethodDescriptor yX7_isFull.desc).map (fun d => d.parameters.length) = some 0 := by decide +kernel
theorem uX7_isFull_X7 : ∀ w ∈ u_ws RX7 TX7 4, w ∈ wsX7_isFull := by decide +kernel
theorem fX7_isFull_15 : Cond.fieldLink RX7 15 (TX7 1).1 (TX7 1).2.1 (TX7 1).2.2.1 ∈ wsX7_isFull := by decide +kernel
set_option maxHeartbeats 4000000 in
set_option maxRecDepth 100000 in
theorem c_X7_isFull {l : Launch} {G : Gy} (hG : Inj G) (σ : St) (hz : iR (σ 89 1)) : MB l yX7_isFull wsX7_isFull ({ frames := 0, cells := 0, slots := 0, locals := 0 } : Room) G [.ref (G.2.2 89)] σ (100 ≤ σ 89 1) σ := by
  refine MI.of hG (by decide +kernel) rfl rfl (Nat.le_of_ble_eq_true rfl) rfl ?_
  intro p e s m args below meth c H0 Q hC hret
  refine wp_aload_n hC dX7_isFull_0 rfl ?_
  refine wp_geti (k := 1) (z := 1) hC rfl (rfl) (by decide) (rfl) (rfl) (by decide) uX7_isFull_X7 fX7_isFull_15 (rfl) dX7_isFull_1 ?_
  refine wp_bipush hC dX7_isFull_4 rfl ?_
  refine wp_icmp_lt (tgt := 13) hC dX7_isFull_6 (by decide) (by omega) (by omega) (fun c_6 => ?_) (fun c_6 => ?_)
  · refine wp_iconst hC dX7_isFull_13 ?_
    exact hret _ _ _ _ (by omega) rfl (⟨bI0 (by omega), rfl⟩) dX7_isFull_14
  · refine wp_iconst hC dX7_isFull_9 ?_
    refine wp_goto (tgt := 14) hC dX7_isFull_10 (by decide) ?_
    exact hret _ _ _ _ (by omega) rfl (⟨bI1 (by omega), rfl⟩) dX7_isFull_14

theorem hyVX7_append : yX7_append.cls = RX7 ∧ yX7_append.cls ≠ "java/lang/invoke/MethodHandle" ∧ yX7_append.cls ≠ "java/lang/invoke/VarHandle" ∧ (parseMethodDescriptor yX7_append.desc).map (fun d => d.parameters.length) = some 1 := by decide +kernel
theorem uX7_append_X7 : ∀ w ∈ u_ws RX7 TX7 4, w ∈ wsX7_append := by decide +kernel
theorem fX7_append_9 : Cond.fieldLink RX7 9 (TX7 0).1 (TX7 0).2.1 (TX7 0).2.2.1 ∈ wsX7_append := by decide +kernel
theorem fX7_append_15 : Cond.fieldLink RX7 15 (TX7 1).1 (TX7 1).2.1 (TX7 1).2.2.1 ∈ wsX7_append := by decide +kernel
set_option maxHeartbeats 4000000 in
set_option maxRecDepth 100000 in
theorem c_X7_append {l : Launch} {G : Gy} (hG : Inj G) (σ : St) {ch : Int} (hc : 0 ≤ ch ∧ ch < 65536) (hz : 0 ≤ σ 89 1 ∧ σ 89 1 < 100) : MU l yX7_append wsX7_append ({ frames := 1, cells := 0, slots := 0, locals := 20 } : Room) G [.ref (G.2.2 89), .int (zI (ch))] σ (put (put σ 90 (σ 89 1) ch) 89 1 (σ 89 1 + 1)) := by
  refine MV.of hG (by decide +kernel) rfl rfl (Nat.le_of_ble_eq_true rfl) rfl ?_
  intro p e s m args below meth c H0 Q hC hret
  refine wp_aload_n hC dX7_append_0 rfl ?_
  refine wp_callVb (As := []) hC (c_X7_isFull hG _ (by omega)) gX7_append_X7_isFull rfl ⟨rfl, rfl⟩ ⟨by decide, by decide⟩ hyVX7_isFull (rfl) (by decide) (rfl) rfl (Nat.le_of_ble_eq_true rfl) dX7_append_1 (fun hx_1 => ?_)
  refine wp_ifb_eq (tgt := 8) hC dX7_append_4 (by decide) (fun c_4 => ?_) (fun c_4 => ?_)
  · refine wp_aload_n hC dX7_append_8 rfl ?_
    refine wp_geta (k := 0) hC (rfl) (by decide) (rfl) (rfl) (by decide) uX7_append_X7 fX7_append_9 (rfl) dX7_append_9 ?_
    refine wp_aload_n hC dX7_append_12 rfl ?_
    refine wp_geti (k := 1) (z := 1) hC rfl (rfl) (by decide) (rfl) (rfl) (by decide) uX7_append_X7 fX7_append_15 (rfl) dX7_append_13 ?_
    refine wp_iload_n hC dX7_append_16 rfl ?_
    skip
    refine wp_cast (n := 100) hC (by omega) rfl (Nat.le_of_ble_eq_true rfl) rfl (by decide) (by omega) dX7_append_17 ?_
    refine wp_aload_n hC dX7_append_18 rfl ?_
    refine wp_dup hC dX7_append_19 rfl ?_
    refine wp_geti (k := 1) (z := 1) hC rfl (rfl) (by decide) (rfl) (rfl) (by decide) uX7_append_X7 fX7_append_15 (rfl) dX7_append_20 ?_
    refine wp_iconst hC dX7_append_23 ?_
    refine wp_iadd hC dX7_append_24 ?_
    refine wp_puti2 (k := 1) (z := 1) hC rfl (rfl) (by decide) (rfl) (rfl) (by decide) uX7_append_X7 fX7_append_15 tyX7 tyX7_ok nmX7 rfl rfl (rfl) dX7_append_25 ?_
    exact hret _ _ _ (rfl) dX7_append_28
  · exfalso; omega

theorem hyVX7_clear : yX7_clear.cls = RX7 ∧ yX7_clear.cls ≠ "java/lang/invoke/MethodHandle" ∧ yX7_clear.cls ≠ "java/lang/invoke/VarHandle" ∧ (parseMethodDescriptor yX7_clear.desc).map (fun d => d.parameters.length) = some 0 := by decide +kernel
theorem uX7_clear_X7 : ∀ w ∈ u_ws RX7 TX7 4, w ∈ wsX7_clear := by decide +kernel
theorem fX7_clear_15 : Cond.fieldLink RX7 15 (TX7 1).1 (TX7 1).2.1 (TX7 1).2.2.1 ∈ wsX7_clear := by decide +kernel
set_option maxHeartbeats 4000000 in
set_option maxRecDepth 100000 in
theorem c_X7_clear {l : Launch} {G : Gy} (hG : Inj G) (σ : St) : MU l yX7_clear wsX7_clear ({ frames := 0, cells := 0, slots := 0, locals := 0 } : Room) G [.ref (G.2.2 89)] σ (put σ 89 1 0) := by
  refine MV.of hG (by decide +kernel) rfl rfl (Nat.le_of_ble_eq_true rfl) rfl ?_
  intro p e s m args below meth c H0 Q hC hret
  refine wp_aload_n hC dX7_clear_0 rfl ?_
  refine wp_iconst hC dX7_clear_1 ?_
  refine wp_puti2 (k := 1) (z := 1) hC rfl (rfl) (by decide) (rfl) (rfl) (by decide) uX7_clear_X7 fX7_clear_15 tyX7 tyX7_ok nmX7 rfl rfl (rfl) dX7_clear_2 ?_
  exact hret _ _ _ (rfl) dX7_clear_5

theorem hySX7_isFigure : yX7_isFigure.cls ≠ "java/lang/invoke/MethodHandle" ∧ yX7_isFigure.cls ≠ "java/lang/invoke/VarHandle" ∧ (parseMethodDescriptor yX7_isFigure.desc).map (fun d => d.parameters.length) = some 1 := by decide +kernel
set_option maxHeartbeats 4000000 in
set_option maxRecDepth 100000 in
theorem c_X7_isFigure {l : Launch} {G : Gy} (hG : Inj G) (σ : St) {ch : Int} (hc : 0 ≤ ch ∧ ch < 65536) : MB l yX7_isFigure wsX7_isFigure ({ frames := 0, cells := 0, slots := 0, locals := 0 } : Room) G [.int (zI (ch))] σ (48 ≤ ch ∧ ch ≤ 57) σ := by
  refine MI.of hG (by decide +kernel) rfl rfl (Nat.le_of_ble_eq_true rfl) rfl ?_
  intro p e s m args below meth c H0 Q hC hret
  refine wp_iload_n hC dX7_isFigure_0 rfl ?_
  refine wp_bipush hC dX7_isFigure_1 rfl ?_
  refine wp_icmp_lt (tgt := 16) hC dX7_isFigure_3 (by decide) (by omega) (by omega) (fun c_3 => ?_) (fun c_3 => ?_)
  · refine wp_iconst hC dX7_isFigure_16 ?_
    exact hret _ _ _ _ (by omega) rfl (⟨bI0 (by omega), rfl⟩) dX7_isFigure_17
  · refine wp_iload_n hC dX7_isFigure_6 rfl ?_
    refine wp_bipush hC dX7_isFigure_7 rfl ?_
    refine wp_icmp_gt (tgt := 16) hC dX7_isFigure_9 (by decide) (by omega) (by omega) (fun c_9 => ?_) (fun c_9 => ?_)
    · refine wp_iconst hC dX7_isFigure_16 ?_
      exact hret _ _ _ _ (by omega) rfl (⟨bI0 (by omega), rfl⟩) dX7_isFigure_17
    · refine wp_iconst hC dX7_isFigure_12 ?_
      refine wp_goto (tgt := 17) hC dX7_isFigure_13 (by decide) ?_
      exact hret _ _ _ _ (by omega) rfl (⟨bI1 (by omega), rfl⟩) dX7_isFigure_17

/-- the sign where one looks -/
def sgn (σ : St) : Int := if σ 89 2 < σ 89 1 ∧ σ 89 2 < 100 then σ 90 (σ 89 2) else 0

theorem hyVX7_sign : yX7_sign.cls = RX7 ∧ yX7_sign.cls ≠ "java/lang/invoke/MethodHandle" ∧ yX7_sign.cls ≠ "java/lang/invoke/VarHandle" ∧ (parseMethodDescriptor yX7_sign.desc).map (fun d => d.parameters.length) = some 0 := by decide +kernel
theorem uX7_sign_X7 : ∀ w ∈ u_ws RX7 TX7 4, w ∈ wsX7_sign := by decide +kernel
theorem fX7_sign_23 : Cond.fieldLink RX7 23 (TX7 2).1 (TX7 2).2.1 (TX7 2).2.2.1 ∈ wsX7_sign := by decide +kernel
theorem fX7_sign_15 : Cond.fieldLink RX7 15 (TX7 1).1 (TX7 1).2.1 (TX7 1).2.2.1 ∈ wsX7_sign := by decide +kernel
theorem fX7_sign_9 : Cond.fieldLink RX7 9 (TX7 0).1 (TX7 0).2.1 (TX7 0).2.2.1 ∈ wsX7_sign := by decide +kernel
set_option maxHeartbeats 4000000 in
set_option maxRecDepth 100000 in
theorem c_X7_sign {l : Launch} {G : Gy} (hG : Inj G) (σ : St) (hz : iR (σ 89 1)) (ha : 0 ≤ σ 89 2 ∧ σ 89 2 ≤ 1000) (hs : ∀ k, 0 ≤ k → k < 100 → 0 ≤ σ 90 k ∧ σ 90 k < 65536) : ME l yX7_sign wsX7_sign ({ frames := 0, cells := 0, slots := 0, locals := 0 } : Room) G [.ref (G.2.2 89)] σ (sgn σ) σ := by
  refine MI.of hG (by decide +kernel) rfl rfl (Nat.le_of_ble_eq_true rfl) rfl ?_
  intro p e s m args below meth c H0 Q hC hret
  refine wp_aload_n hC dX7_sign_0 rfl ?_
  refine wp_geti (k := 2) (z := 2) hC rfl (rfl) (by decide) (rfl) (rfl) (by decide) uX7_sign_X7 fX7_sign_23 (rfl) dX7_sign_1 ?_
  refine wp_aload_n hC dX7_sign_4 rfl ?_
  refine wp_geti (k := 1) (z := 1) hC rfl (rfl) (by decide) (rfl) (rfl) (by decide) uX7_sign_X7 fX7_sign_15 (rfl) dX7_sign_5 ?_
  refine wp_icmp_ge (tgt := 32) hC dX7_sign_8 (by decide) (by omega) (by omega) (fun c_8 => ?_) (fun c_8 => ?_)
  · refine wp_iconst hC dX7_sign_32 ?_
    have hsg : sgn σ = 0 := if_neg (fun z => by have := z.1; have := z.2; omega)
    refine wp_top (b := sgn σ) hsg.symm ?_
    exact hret _ _ _ _ (by omega) (nar_c (by omega)) (⟨rfl, rfl⟩) dX7_sign_33
  · refine wp_aload_n hC dX7_sign_11 rfl ?_
    refine wp_geti (k := 2) (z := 2) hC rfl (rfl) (by decide) (rfl) (rfl) (by decide) uX7_sign_X7 fX7_sign_23 (rfl) dX7_sign_12 ?_
    refine wp_bipush hC dX7_sign_15 rfl ?_
    refine wp_icmp_ge (tgt := 32) hC dX7_sign_17 (by decide) (by omega) (by omega) (fun c_17 => ?_) (fun c_17 => ?_)
    · refine wp_iconst hC dX7_sign_32 ?_
      have hsg : sgn σ = 0 := if_neg (fun z => by have := z.1; have := z.2; omega)
      refine wp_top (b := sgn σ) hsg.symm ?_
      exact hret _ _ _ _ (by omega) (nar_c (by omega)) (⟨rfl, rfl⟩) dX7_sign_33
    · refine wp_aload_n hC dX7_sign_20 rfl ?_
      refine wp_geta (k := 0) hC (rfl) (by decide) (rfl) (rfl) (by decide) uX7_sign_X7 fX7_sign_9 (rfl) dX7_sign_21 ?_
      refine wp_aload_n hC dX7_sign_24 rfl ?_
      refine wp_geti (k := 2) (z := 2) hC rfl (rfl) (by decide) (rfl) (rfl) (by decide) uX7_sign_X7 fX7_sign_23 (rfl) dX7_sign_25 ?_
      refine wp_cald (n := 100) hC (rfl) (Nat.le_of_ble_eq_true rfl) (rfl) (by decide) (by omega) dX7_sign_28 ?_
      refine wp_goto (tgt := 33) hC dX7_sign_29 (by decide) ?_
      have hsg : sgn σ = σ 90 (σ 89 2) := if_pos ⟨by omega, by omega⟩
      have hsr := hs (σ 89 2) (by omega) (by omega)
      refine wp_top (b := sgn σ) hsg.symm ?_
      exact hret _ _ _ _ (by omega) (nar_c (by omega)) (⟨rfl, rfl⟩) dX7_sign_33

theorem hyVX3_clear : yX3_clear.cls = RX3 ∧ yX3_clear.cls ≠ "java/lang/invoke/MethodHandle" ∧ yX3_clear.cls ≠ "java/lang/invoke/VarHandle" ∧ (parseMethodDescriptor yX3_clear.desc).map (fun d => d.parameters.length) = some 0 := by decide +kernel
theorem uX3_clear_X3 : ∀ w ∈ u_ws RX3 TX3 2, w ∈ wsX3_clear := by decide +kernel
theorem fX3_clear_15 : Cond.fieldLink RX3 15 (TX3 1).1 (TX3 1).2.1 (TX3 1).2.2.1 ∈ wsX3_clear := by decide +kernel
set_option maxHeartbeats 4000000 in
set_option maxRecDepth 100000 in
theorem c_X3_clear {l : Launch} {G : Gy} (hG : Inj G) (σ : St) : MU l yX3_clear wsX3_clear ({ frames := 0, cells := 0, slots := 0, locals := 0 } : Room) G [.ref (G.2.2 103)] σ (put σ 103 1 0) := by
  refine MV.of hG (by decide +kernel) rfl rfl (Nat.le_of_ble_eq_true rfl) rfl ?_
  intro p e s m args below meth c H0 Q hC hret
  refine wp_aload_n hC dX3_clear_0 rfl ?_
  refine wp_iconst hC dX3_clear_1 ?_
  refine wp_puti2 (k := 1) (z := 1) hC rfl (rfl) (by decide) (rfl) (rfl) (by decide) uX3_clear_X3 fX3_clear_15 tyX3 tyX3_ok nmX3 rfl rfl (rfl) dX3_clear_2 ?_
  exact hret _ _ _ (rfl) dX3_clear_5

theorem hyVX3_sign : yX3_sign.cls = RX3 ∧ yX3_sign.cls ≠ "java/lang/invoke/MethodHandle" ∧ yX3_sign.cls ≠ "java/lang/invoke/VarHandle" ∧ (parseMethodDescriptor yX3_sign.desc).map (fun d => d.parameters.length) = some 1 := by decide +kernel
theorem uX3_sign_X3 : ∀ w ∈ u_ws RX3 TX3 2, w ∈ wsX3_sign := by decide +kernel
theorem fX3_sign_15 : Cond.fieldLink RX3 15 (TX3 1).1 (TX3 1).2.1 (TX3 1).2.2.1 ∈ wsX3_sign := by decide +kernel
theorem fX3_sign_9 : Cond.fieldLink RX3 9 (TX3 0).1 (TX3 0).2.1 (TX3 0).2.2.1 ∈ wsX3_sign := by decide +kernel
set_option maxHeartbeats 4000000 in
set_option maxRecDepth 100000 in
theorem c_X3_sign {l : Launch} {G : Gy} (hG : Inj G) (σ : St) {ch : Int} (hc : 0 ≤ ch ∧ ch < 65536) (hz : 0 ≤ σ 103 1 ∧ σ 103 1 < 32) : MU l yX3_sign wsX3_sign ({ frames := 0, cells := 0, slots := 0, locals := 0 } : Room) G [.ref (G.2.2 103), .int (zI (ch))] σ (put (put σ 104 (σ 103 1) ch) 103 1 (σ 103 1 + 1)) := by
  refine MV.of hG (by decide +kernel) rfl rfl (Nat.le_of_ble_eq_true rfl) rfl ?_
  intro p e s m args below meth c H0 Q hC hret
  refine wp_aload_n hC dX3_sign_0 rfl ?_
  refine wp_geti (k := 1) (z := 1) hC rfl (rfl) (by decide) (rfl) (rfl) (by decide) uX3_sign_X3 fX3_sign_15 (rfl) dX3_sign_1 ?_
  refine wp_bipush hC dX3_sign_4 rfl ?_
  refine wp_icmp_lt (tgt := 10) hC dX3_sign_6 (by decide) (by omega) (by omega) (fun c_6 => ?_) (fun c_6 => ?_)
  · refine wp_aload_n hC dX3_sign_10 rfl ?_
    refine wp_geta (k := 0) hC (rfl) (by decide) (rfl) (rfl) (by decide) uX3_sign_X3 fX3_sign_9 (rfl) dX3_sign_11 ?_
    refine wp_aload_n hC dX3_sign_14 rfl ?_
    refine wp_geti (k := 1) (z := 1) hC rfl (rfl) (by decide) (rfl) (rfl) (by decide) uX3_sign_X3 fX3_sign_15 (rfl) dX3_sign_15 ?_
    refine wp_iload_n hC dX3_sign_18 rfl ?_
    refine wp_cast (n := 32) hC (by omega) rfl (Nat.le_of_ble_eq_true rfl) rfl (by decide) (by omega) dX3_sign_19 ?_
    refine wp_aload_n hC dX3_sign_20 rfl ?_
    refine wp_dup hC dX3_sign_21 rfl ?_
    refine wp_geti (k := 1) (z := 1) hC rfl (rfl) (by decide) (rfl) (rfl) (by decide) uX3_sign_X3 fX3_sign_15 (rfl) dX3_sign_22 ?_
    refine wp_iconst hC dX3_sign_25 ?_
    refine wp_iadd hC dX3_sign_26 ?_
    refine wp_puti2 (k := 1) (z := 1) hC rfl (rfl) (by decide) (rfl) (rfl) (by decide) uX3_sign_X3 fX3_sign_15 tyX3 tyX3_ok nmX3 rfl rfl (rfl) dX3_sign_27 ?_
    exact hret _ _ _ (rfl) dX3_sign_30
  · exfalso; omega
