/-- the least, the most, of some among the first -/
def MNk (C : Int → Prop) (V : Int → Int) (c0 K x : Int) : Prop := x ≤ c0 ∧ (∀ j, 0 ≤ j → j < K → C j → x ≤ V j) ∧ (x = c0 ∨ ∃ j, 0 ≤ j ∧ j < K ∧ C j ∧ V j = x)
def MXk (C : Int → Prop) (V : Int → Int) (c0 K x : Int) : Prop := c0 ≤ x ∧ (∀ j, 0 ≤ j → j < K → C j → V j ≤ x) ∧ (x = c0 ∨ ∃ j, 0 ≤ j ∧ j < K ∧ C j ∧ V j = x)
theorem MN_0 {C : Int → Prop} {V : Int → Int} {c0 K : Int} (h : K ≤ 0) : MNk C V c0 K c0 := ⟨Int.le_refl _, fun j a b => by omega, Or.inl rfl⟩
theorem MX_0 {C : Int → Prop} {V : Int → Int} {c0 K : Int} (h : K ≤ 0) : MXk C V c0 K c0 := ⟨Int.le_refl _, fun j a b => by omega, Or.inl rfl⟩
theorem MN_K {C : Int → Prop} {V : Int → Int} {c0 K K' x : Int} (h : MNk C V c0 K x) (e : K = K') : MNk C V c0 K' x := e ▸ h
theorem MX_K {C : Int → Prop} {V : Int → Int} {c0 K K' x : Int} (h : MXk C V c0 K x) (e : K = K') : MXk C V c0 K' x := e ▸ h
theorem MN_n {C : Int → Prop} {V : Int → Int} {c0 K K' x : Int} (h : MNk C V c0 K x) (e : K' = K + 1) (hn : ¬ C K) : MNk C V c0 K' x := by
  subst e
  refine ⟨h.1, fun j a b g => ?_, h.2.2.imp id (fun ⟨j, a, b, q⟩ => ⟨j, a, by omega, q⟩)⟩
  by_cases w : j = K
  · rw [w] at g; exact absurd g hn
  · exact h.2.1 j a (by omega) g
theorem MX_n {C : Int → Prop} {V : Int → Int} {c0 K K' x : Int} (h : MXk C V c0 K x) (e : K' = K + 1) (hn : ¬ C K) : MXk C V c0 K' x := by
  subst e
  refine ⟨h.1, fun j a b g => ?_, h.2.2.imp id (fun ⟨j, a, b, q⟩ => ⟨j, a, by omega, q⟩)⟩
  by_cases w : j = K
  · rw [w] at g; exact absurd g hn
  · exact h.2.1 j a (by omega) g
theorem MN_y {C : Int → Prop} {V : Int → Int} {c0 K K' x : Int} (h : MNk C V c0 K x) (e : K' = K + 1) (h0 : 0 ≤ K) (hn : C K) : MNk C V c0 K' (min x (V K)) := by
  subst e
  refine ⟨by have := h.1; omega, fun j a b g => ?_, ?_⟩
  · by_cases w : j = K
    · rw [w]; omega
    · have := h.2.1 j a (by omega) g
      omega
  · rcases Int.le_total x (V K) with w | w
    · rw [Int.min_eq_left w]; exact h.2.2.imp id (fun ⟨j, a, b, q⟩ => ⟨j, a, by omega, q⟩)
    · rw [Int.min_eq_right w]; exact Or.inr ⟨K, h0, by omega, hn, rfl⟩
theorem MX_y {C : Int → Prop} {V : Int → Int} {c0 K K' x : Int} (h : MXk C V c0 K x) (e : K' = K + 1) (h0 : 0 ≤ K) (hn : C K) : MXk C V c0 K' (max x (V K)) := by
  subst e
  refine ⟨by have := h.1; omega, fun j a b g => ?_, ?_⟩
  · by_cases w : j = K
    · rw [w]; omega
    · have := h.2.1 j a (by omega) g
      omega
  · rcases Int.le_total x (V K) with w | w
    · rw [Int.max_eq_right w]; exact Or.inr ⟨K, h0, by omega, hn, rfl⟩
    · rw [Int.max_eq_left w]; exact h.2.2.imp id (fun ⟨j, a, b, q⟩ => ⟨j, a, by omega, q⟩)
theorem MN_iR {C : Int → Prop} {V : Int → Int} {c0 K x : Int} (h : MNk C V c0 K x) (h0 : iR c0) (hv : ∀ j, 0 ≤ j → j < K → iR (V j)) : iR x := by
  rcases h.2.2 with e | ⟨j, a, b, _, e⟩
  · rw [e]; exact h0
  · rw [← e]; exact hv j a b
theorem MX_rg {C : Int → Prop} {V : Int → Int} {c0 K x u v : Int} (h : MXk C V c0 K x) (h0 : u ≤ c0 ∧ c0 ≤ v) (hv : ∀ j, 0 ≤ j → j < K → u ≤ V j ∧ V j ≤ v) : u ≤ x ∧ x ≤ v := by
  rcases h.2.2 with e | ⟨j, a, b, _, e⟩
  · rw [e]; exact h0
  · rw [← e]; exact hv j a b
def FI (it la i : Int) : Int := if tb it i = true then la + 1 else 0
/-- steps that have a supply and don't count an order -/
def CLW (f0 f1 f2 i p : Int) (j : Int) : Prop := ¬ gef f0 f1 f2 j ∧ p < cel j i
/-- steps that have a supply not -/
def CND (i p : Int) (j : Int) : Prop := cel j i ≤ p
def VND (σ : St) (f0 f1 f2 j : Int) : Int := (sq (σ 109) 0 (j / 169) + sq (σ 109) 1 (j / 13 % 13) + sq (σ 109) 2 (j % 13)) - σ 92 j - (sq (σ 109) 0 (max (j / 169) f0) + sq (σ 109) 1 (max (j / 13 % 13) f1) + sq (σ 109) 2 (max (j % 13) f2))
theorem VND_rg {σ : St} {f0 f1 f2 j : Int} (h : XO σ) (hl : -1440 ≤ σ 92 j ∧ σ 92 j ≤ 3564) (r0 : 0 ≤ f0 ∧ f0 ≤ 12) (r1 : 0 ≤ f1 ∧ f1 ≤ 12) (r2 : 0 ≤ f2 ∧ f2 ≤ 12) (hj : 0 ≤ j ∧ j < 2197) : -10000 ≤ VND σ f0 f1 f2 j ∧ VND σ f0 f1 f2 j ≤ 10000 := by
  have a0 := sq_rng (su := σ 109) h.2.1.1 (i := 0) (q := j / 169) (by omega) (by omega)
  have a1 := sq_rng (su := σ 109) h.2.1.1 (i := 1) (q := j / 13 % 13) (by omega) (by omega)
  have a2 := sq_rng (su := σ 109) h.2.1.1 (i := 2) (q := j % 13) (by omega) (by omega)
  have b0 := sq_rng (su := σ 109) h.2.1.1 (i := 0) (q := max (j / 169) f0) (by omega) (by omega)
  have b1 := sq_rng (su := σ 109) h.2.1.1 (i := 1) (q := max (j / 13 % 13) f1) (by omega) (by omega)
  have b2 := sq_rng (su := σ 109) h.2.1.1 (i := 2) (q := max (j % 13) f2) (by omega) (by omega)
  have c0 : 0 ≤ j / 169 ∧ j / 169 ≤ 12 := by omega
  have c1 : 0 ≤ j / 13 % 13 ∧ j / 13 % 13 ≤ 12 := by omega
  have c2 : 0 ≤ j % 13 ∧ j % 13 ≤ 12 := by omega
  have d0 : 0 ≤ max (j / 169) f0 ∧ max (j / 169) f0 ≤ 12 := by omega
  have d1 : 0 ≤ max (j / 13 % 13) f1 ∧ max (j / 13 % 13) f1 ≤ 12 := by omega
  have d2 : 0 ≤ max (j % 13) f2 ∧ max (j % 13) f2 ≤ 12 := by omega
  unfold VND
  generalize σ 92 j = l at *
  generalize max (j / 169) f0 = m0 at *
  generalize max (j / 13 % 13) f1 = m1 at *
  generalize max (j % 13) f2 = m2 at *
  generalize j / 169 = n0 at *
  generalize j / 13 % 13 = n1 at *
  generalize j % 13 = n2 at *
  omega

theorem hyVX6_leastWithout : yX6_leastWithout.cls = RX6 ∧ yX6_leastWithout.cls ≠ "java/lang/invoke/MethodHandle" ∧ yX6_leastWithout.cls ≠ "java/lang/invoke/VarHandle" ∧ (parseMethodDescriptor yX6_leastWithout.desc).map (fun d => d.parameters.length) = some 4 := by decide +kernel
theorem uX6_leastWithout_X6 : ∀ w ∈ u_ws RX6 TX6 2, w ∈ wsX6_leastWithout := by decide +kernel
theorem fX6_leastWithout_9 : Cond.fieldLink RX6 9 (TX6 0).1 (TX6 0).2.1 (TX6 0).2.2.1 ∈ wsX6_leastWithout := by decide +kernel
set_option maxHeartbeats 16000000 in
set_option maxRecDepth 100000 in
theorem c_X6_leastWithout {l : Launch} {G : Gy} (hG : Inj G) (σ : St) {it la i1 p1 : Int} (hit : 0 ≤ it ∧ it ≤ 7) (hla : 0 ≤ la ∧ la ≤ 11) (hi1 : 0 ≤ i1 ∧ i1 ≤ 2) (hp1 : 0 ≤ p1 ∧ p1 ≤ 11) (hx : ∀ k, 0 ≤ k → k < 2197 → iR (σ 92 k)) : MP l yX6_leastWithout wsX6_leastWithout ({ frames := 1, cells := 0, slots := 0, locals := 23 } : Room) G [.ref (G.2.2 91), .int (zI (it)), .int (zI (la)), .int (zI (i1)), .int (zI (p1))] σ (MNk (CLW (FI it la 0) (FI it la 1) (FI it la 2) i1 p1) (σ 92) 99 2197) := by
  refine MI.of hG (by decide +kernel) rfl rfl (Nat.le_of_ble_eq_true rfl) rfl ?_
  intro p e s m args below meth c H0 Q hC hret
  obtain ⟨f0, hf0⟩ : ∃ f, f = (if tb it 0 = true then la + 1 else 0) := ⟨_, rfl⟩
  obtain ⟨f1, hf1⟩ : ∃ f, f = (if tb it 1 = true then la + 1 else 0) := ⟨_, rfl⟩
  obtain ⟨f2, hf2⟩ : ∃ f, f = (if tb it 2 = true then la + 1 else 0) := ⟨_, rfl⟩
  have r0 : 0 ≤ f0 ∧ f0 ≤ 12 := by rw [hf0]; split <;> omega
  have r1 : 0 ≤ f1 ∧ f1 ≤ 12 := by rw [hf1]; split <;> omega
  have r2 : 0 ≤ f2 ∧ f2 ≤ 12 := by rw [hf2]; split <;> omega
  have L34 : ∀ (n : Nat) (v q a : Int), ((13 - a).toNat) = n → (q = 169 * a) → (0 ≤ a ∧ a ≤ 13) → (MNk (CLW f0 f1 f2 i1 p1) (σ 92) 99 (q) v) → wp p l e ({ frames := 1, cells := 0, slots := 0, locals := 23 } : Room) s m args below meth c (aA G (Array.size H0)) H0 14 Q G σ 34 [(0, .ref (G.2.2 91)), (1, .int (zI (it))), (2, .int (zI (la))), (3, .int (zI (i1))), (4, .int (zI (p1))), (5, .int (zI (f0))), (6, .int (zI (f1))), (7, .int (zI (f2))), (8, .int (zI (v))), (9, .int (zI (q))), (10, .int (zI (a)))] [] := by
    intro n34
    induction n34 using Nat.strongRecOn with
    | ind n34 ih =>
      intro v q a hm34 hq h1 hm
      have hv : iR v := MN_iR hm (by omega) (fun j x y => hx j x (by omega))
      have L44 : ∀ (n : Nat) (v q b : Int), ((13 - b).toNat) = n → (a < 13) → (q = 169 * a + 13 * b) → (0 ≤ b ∧ b ≤ 13) → (MNk (CLW f0 f1 f2 i1 p1) (σ 92) 99 (q) v) → wp p l e ({ frames := 1, cells := 0, slots := 0, locals := 23 } : Room) s m args below meth c (aA G (Array.size H0)) H0 14 Q G σ 44 [(0, .ref (G.2.2 91)), (1, .int (zI (it))), (2, .int (zI (la))), (3, .int (zI (i1))), (4, .int (zI (p1))), (5, .int (zI (f0))), (6, .int (zI (f1))), (7, .int (zI (f2))), (8, .int (zI (v))), (9, .int (zI (q))), (10, .int (zI (a))), (11, .int (zI (b)))] [] := by
        intro n44
        induction n44 using Nat.strongRecOn with
        | ind n44 ih44 =>
          intro v q b hm44 h3 hq h2 hm
          have hv : iR v := MN_iR hm (by omega) (fun j x y => hx j x (by omega))
          have L54 : ∀ (n : Nat) (v q c1 : Int), ((13 - c1).toNat) = n → (b < 13) → (q = 169 * a + 13 * b + c1) → (0 ≤ c1 ∧ c1 ≤ 13) → (MNk (CLW f0 f1 f2 i1 p1) (σ 92) 99 (q) v) → wp p l e ({ frames := 1, cells := 0, slots := 0, locals := 23 } : Room) s m args below meth c (aA G (Array.size H0)) H0 14 Q G σ 54 [(0, .ref (G.2.2 91)), (1, .int (zI (it))), (2, .int (zI (la))), (3, .int (zI (i1))), (4, .int (zI (p1))), (5, .int (zI (f0))), (6, .int (zI (f1))), (7, .int (zI (f2))), (8, .int (zI (v))), (9, .int (zI (q))), (10, .int (zI (a))), (11, .int (zI (b))), (12, .int (zI (c1)))] [] := by
            intro n54
            induction n54 using Nat.strongRecOn with
            | ind n54 ih54 =>
              intro v q c1 hm54 h5 hq h4 hm
              have hv : iR v := MN_iR hm (by omega) (fun j x y => hx j x (by omega))
              have hq9 : 169 * a + 13 * b + c1 = q := hq.symm
              have hcel : c1 < 13 → cel q i1 = (if i1 = 0 then a else if i1 = 1 then b else c1) := fun hc13 => by unfold cel; rw [show q / 169 = a by omega, show q / 13 % 13 = b by omega, show q % 13 = c1 by omega]
              have hxq := fun z : c1 < 13 => hx q (by omega) (by omega)
              refine wp_iload hC dX6_leastWithout_54 rfl ?_
              refine wp_bipush hC dX6_leastWithout_56 rfl ?_
              refine wp_icmp_ge (tgt := 132) hC dX6_leastWithout_58 (by decide) (by omega) (by omega) (fun c_58 => ?_) (fun c_58 => ?_)
              · refine wp_iinc (lv2 := [(0, _), (1, _), (2, _), (3, _), (4, _), (5, _), (6, _), (7, _), (8, _), (9, _), (10, _), (11, _), (12, _)]) hC dX6_leastWithout_132 rfl rfl (by decide) ?_
                refine wp_goto (tgt := 44) hC dX6_leastWithout_135 (by decide) ?_
                refine wp_lv hC [0, 1, 2, 3, 4, 5, 6, 7, 8, 9, 10, 11] rfl ?_
                exact ih44 _ (by omega) _ _ _ rfl h3 (by omega) (by omega) hm
              · refine wp_iload hC dX6_leastWithout_61 rfl ?_
                refine wp_iload hC dX6_leastWithout_63 rfl ?_
                refine wp_icmp_lt (tgt := 86) hC dX6_leastWithout_65 (by decide) (by omega) (by omega) (fun c_65 => ?_) (fun c_65 => ?_)
                · refine wp_iconst hC dX6_leastWithout_86 ?_
                  refine wp_istore (lv2 := [(0, _), (1, _), (2, _), (3, _), (4, _), (5, _), (6, _), (7, _), (8, _), (9, _), (10, _), (11, _), (12, _), (13, _)]) hC dX6_leastWithout_87 rfl (by decide) ?_
                  refine wp_iload hC dX6_leastWithout_89 rfl ?_
                  refine wp_if_ne (tgt := 123) hC dX6_leastWithout_91 (by decide) (by omega) (fun c_91 => ?_) (fun c_91 => ?_)
                  · exact absurd rfl c_91
                  · refine wp_iload_n hC dX6_leastWithout_94 rfl ?_
                    refine wp_iload hC dX6_leastWithout_95 rfl ?_
                    refine wp_iload hC dX6_leastWithout_97 rfl ?_
                    refine wp_iload hC dX6_leastWithout_99 rfl ?_
                    refine wp_callSe (As := [_, _, _, _]) hC (c_X6_numberOf hG _ (by omega) (by omega) (by omega) (by omega)) gX6_leastWithout_X6_numberOf rfl ⟨rfl, rfl⟩ ⟨by decide, by decide⟩ hySX6_numberOf rfl (Nat.le_of_ble_eq_true rfl) dX6_leastWithout_101 (fun hx_101 => ?_)
                    refine wp_iload hC dX6_leastWithout_104 rfl ?_
                    refine wp_icmp_le (tgt := 123) hC dX6_leastWithout_106 (by decide) (by split <;> (try split) <;> omega) (by omega) (fun c_106 => ?_) (fun c_106 => ?_)
                    · refine wp_iinc (lv2 := [(0, _), (1, _), (2, _), (3, _), (4, _), (5, _), (6, _), (7, _), (8, _), (9, _), (10, _), (11, _), (12, _), (13, _)]) hC dX6_leastWithout_123 rfl rfl (by decide) ?_
                      refine wp_iinc (lv2 := [(0, _), (1, _), (2, _), (3, _), (4, _), (5, _), (6, _), (7, _), (8, _), (9, _), (10, _), (11, _), (12, _), (13, _)]) hC dX6_leastWithout_126 rfl rfl (by decide) ?_
                      refine wp_goto (tgt := 54) hC dX6_leastWithout_129 (by decide) ?_
                      refine wp_lv hC [0, 1, 2, 3, 4, 5, 6, 7, 8, 9, 10, 11, 12] rfl ?_
                      exact ih54 _ (by omega) _ _ _ rfl h5 (by omega) (by omega) (MN_n hm rfl (fun z => by have := z.2; rw [hcel (by omega)] at this; omega))
                    · refine wp_iload hC dX6_leastWithout_109 rfl ?_
                      refine wp_aload_n hC dX6_leastWithout_111 rfl ?_
                      refine wp_geta (k := 0) hC (rfl) (by decide) (rfl) (rfl) (by decide) uX6_leastWithout_X6 fX6_leastWithout_9 (rfl) dX6_leastWithout_112 ?_
                      refine wp_iload hC dX6_leastWithout_115 rfl ?_
                      refine wp_iald (n := 2197) hC (rfl) (Nat.le_of_ble_eq_true rfl) (rfl) (by decide) (by omega) dX6_leastWithout_117 ?_
                      refine wp_top (b := σ 92 q) rfl ?_
                      refine wp_mmin hC (by decide +kernel) (by decide +kernel) (by decide +kernel) (by decide +kernel) (Nat.le_of_ble_eq_true rfl) (Nat.le_of_ble_eq_true rfl) (by omega) (by omega) dX6_leastWithout_118 ?_
                      refine wp_istore (lv2 := [(0, _), (1, _), (2, _), (3, _), (4, _), (5, _), (6, _), (7, _), (8, _), (9, _), (10, _), (11, _), (12, _), (13, _)]) hC dX6_leastWithout_121 rfl (by decide) ?_
                      refine wp_iinc (lv2 := [(0, _), (1, _), (2, _), (3, _), (4, _), (5, _), (6, _), (7, _), (8, _), (9, _), (10, _), (11, _), (12, _), (13, _)]) hC dX6_leastWithout_123 rfl rfl (by decide) ?_
                      refine wp_iinc (lv2 := [(0, _), (1, _), (2, _), (3, _), (4, _), (5, _), (6, _), (7, _), (8, _), (9, _), (10, _), (11, _), (12, _), (13, _)]) hC dX6_leastWithout_126 rfl rfl (by decide) ?_
                      refine wp_goto (tgt := 54) hC dX6_leastWithout_129 (by decide) ?_
                      refine wp_lv hC [0, 1, 2, 3, 4, 5, 6, 7, 8, 9, 10, 11, 12] rfl ?_
                      exact ih54 _ (by omega) _ _ _ rfl h5 (by omega) (by omega) (MN_y hm rfl (by omega) ⟨fun z => by have z0 := z.1; have z1 := z.2.1; have z2 := z.2.2; omega, by rw [hcel (by omega)]; omega⟩)
                · refine wp_iload hC dX6_leastWithout_68 rfl ?_
                  refine wp_iload hC dX6_leastWithout_70 rfl ?_
                  refine wp_icmp_lt (tgt := 86) hC dX6_leastWithout_72 (by decide) (by omega) (by omega) (fun c_72 => ?_) (fun c_72 => ?_)
                  · refine wp_iconst hC dX6_leastWithout_86 ?_
                    refine wp_istore (lv2 := [(0, _), (1, _), (2, _), (3, _), (4, _), (5, _), (6, _), (7, _), (8, _), (9, _), (10, _), (11, _), (12, _), (13, _)]) hC dX6_leastWithout_87 rfl (by decide) ?_
                    refine wp_iload hC dX6_leastWithout_89 rfl ?_
                    refine wp_if_ne (tgt := 123) hC dX6_leastWithout_91 (by decide) (by omega) (fun c_91 => ?_) (fun c_91 => ?_)
                    · exact absurd rfl c_91
                    · refine wp_iload_n hC dX6_leastWithout_94 rfl ?_
                      refine wp_iload hC dX6_leastWithout_95 rfl ?_
                      refine wp_iload hC dX6_leastWithout_97 rfl ?_
                      refine wp_iload hC dX6_leastWithout_99 rfl ?_
                      refine wp_callSe (As := [_, _, _, _]) hC (c_X6_numberOf hG _ (by omega) (by omega) (by omega) (by omega)) gX6_leastWithout_X6_numberOf rfl ⟨rfl, rfl⟩ ⟨by decide, by decide⟩ hySX6_numberOf rfl (Nat.le_of_ble_eq_true rfl) dX6_leastWithout_101 (fun hx_101 => ?_)
                      refine wp_iload hC dX6_leastWithout_104 rfl ?_
                      refine wp_icmp_le (tgt := 123) hC dX6_leastWithout_106 (by decide) (by split <;> (try split) <;> omega) (by omega) (fun c_106 => ?_) (fun c_106 => ?_)
                      · refine wp_iinc (lv2 := [(0, _), (1, _), (2, _), (3, _), (4, _), (5, _), (6, _), (7, _), (8, _), (9, _), (10, _), (11, _), (12, _), (13, _)]) hC dX6_leastWithout_123 rfl rfl (by decide) ?_
                        refine wp_iinc (lv2 := [(0, _), (1, _), (2, _), (3, _), (4, _), (5, _), (6, _), (7, _), (8, _), (9, _), (10, _), (11, _), (12, _), (13, _)]) hC dX6_leastWithout_126 rfl rfl (by decide) ?_
                        refine wp_goto (tgt := 54) hC dX6_leastWithout_129 (by decide) ?_
                        refine wp_lv hC [0, 1, 2, 3, 4, 5, 6, 7, 8, 9, 10, 11, 12] rfl ?_
                        exact ih54 _ (by omega) _ _ _ rfl h5 (by omega) (by omega) (MN_n hm rfl (fun z => by have := z.2; rw [hcel (by omega)] at this; omega))
                      · refine wp_iload hC dX6_leastWithout_109 rfl ?_
                        refine wp_aload_n hC dX6_leastWithout_111 rfl ?_
                        refine wp_geta (k := 0) hC (rfl) (by decide) (rfl) (rfl) (by decide) uX6_leastWithout_X6 fX6_leastWithout_9 (rfl) dX6_leastWithout_112 ?_
                        refine wp_iload hC dX6_leastWithout_115 rfl ?_
                        refine wp_iald (n := 2197) hC (rfl) (Nat.le_of_ble_eq_true rfl) (rfl) (by decide) (by omega) dX6_leastWithout_117 ?_
                        refine wp_top (b := σ 92 q) rfl ?_
                        refine wp_mmin hC (by decide +kernel) (by decide +kernel) (by decide +kernel) (by decide +kernel) (Nat.le_of_ble_eq_true rfl) (Nat.le_of_ble_eq_true rfl) (by omega) (by omega) dX6_leastWithout_118 ?_
                        refine wp_istore (lv2 := [(0, _), (1, _), (2, _), (3, _), (4, _), (5, _), (6, _), (7, _), (8, _), (9, _), (10, _), (11, _), (12, _), (13, _)]) hC dX6_leastWithout_121 rfl (by decide) ?_
                        refine wp_iinc (lv2 := [(0, _), (1, _), (2, _), (3, _), (4, _), (5, _), (6, _), (7, _), (8, _), (9, _), (10, _), (11, _), (12, _), (13, _)]) hC dX6_leastWithout_123 rfl rfl (by decide) ?_
                        refine wp_iinc (lv2 := [(0, _), (1, _), (2, _), (3, _), (4, _), (5, _), (6, _), (7, _), (8, _), (9, _), (10, _), (11, _), (12, _), (13, _)]) hC dX6_leastWithout_126 rfl rfl (by decide) ?_
                        refine wp_goto (tgt := 54) hC dX6_leastWithout_129 (by decide) ?_
                        refine wp_lv hC [0, 1, 2, 3, 4, 5, 6, 7, 8, 9, 10, 11, 12] rfl ?_
                        exact ih54 _ (by omega) _ _ _ rfl h5 (by omega) (by omega) (MN_y hm rfl (by omega) ⟨fun z => by have z0 := z.1; have z1 := z.2.1; have z2 := z.2.2; omega, by rw [hcel (by omega)]; omega⟩)
                  · refine wp_iload hC dX6_leastWithout_75 rfl ?_
                    refine wp_iload hC dX6_leastWithout_77 rfl ?_
                    refine wp_icmp_lt (tgt := 86) hC dX6_leastWithout_79 (by decide) (by omega) (by omega) (fun c_79 => ?_) (fun c_79 => ?_)
                    · refine wp_iconst hC dX6_leastWithout_86 ?_
                      refine wp_istore (lv2 := [(0, _), (1, _), (2, _), (3, _), (4, _), (5, _), (6, _), (7, _), (8, _), (9, _), (10, _), (11, _), (12, _), (13, _)]) hC dX6_leastWithout_87 rfl (by decide) ?_
                      refine wp_iload hC dX6_leastWithout_89 rfl ?_
                      refine wp_if_ne (tgt := 123) hC dX6_leastWithout_91 (by decide) (by omega) (fun c_91 => ?_) (fun c_91 => ?_)
                      · exact absurd rfl c_91
                      · refine wp_iload_n hC dX6_leastWithout_94 rfl ?_
                        refine wp_iload hC dX6_leastWithout_95 rfl ?_
                        refine wp_iload hC dX6_leastWithout_97 rfl ?_
                        refine wp_iload hC dX6_leastWithout_99 rfl ?_
                        refine wp_callSe (As := [_, _, _, _]) hC (c_X6_numberOf hG _ (by omega) (by omega) (by omega) (by omega)) gX6_leastWithout_X6_numberOf rfl ⟨rfl, rfl⟩ ⟨by decide, by decide⟩ hySX6_numberOf rfl (Nat.le_of_ble_eq_true rfl) dX6_leastWithout_101 (fun hx_101 => ?_)
                        refine wp_iload hC dX6_leastWithout_104 rfl ?_
                        refine wp_icmp_le (tgt := 123) hC dX6_leastWithout_106 (by decide) (by split <;> (try split) <;> omega) (by omega) (fun c_106 => ?_) (fun c_106 => ?_)
                        · refine wp_iinc (lv2 := [(0, _), (1, _), (2, _), (3, _), (4, _), (5, _), (6, _), (7, _), (8, _), (9, _), (10, _), (11, _), (12, _), (13, _)]) hC dX6_leastWithout_123 rfl rfl (by decide) ?_
                          refine wp_iinc (lv2 := [(0, _), (1, _), (2, _), (3, _), (4, _), (5, _), (6, _), (7, _), (8, _), (9, _), (10, _), (11, _), (12, _), (13, _)]) hC dX6_leastWithout_126 rfl rfl (by decide) ?_
                          refine wp_goto (tgt := 54) hC dX6_leastWithout_129 (by decide) ?_
                          refine wp_lv hC [0, 1, 2, 3, 4, 5, 6, 7, 8, 9, 10, 11, 12] rfl ?_
                          exact ih54 _ (by omega) _ _ _ rfl h5 (by omega) (by omega) (MN_n hm rfl (fun z => by have := z.2; rw [hcel (by omega)] at this; omega))
                        · refine wp_iload hC dX6_leastWithout_109 rfl ?_
                          refine wp_aload_n hC dX6_leastWithout_111 rfl ?_
                          refine wp_geta (k := 0) hC (rfl) (by decide) (rfl) (rfl) (by decide) uX6_leastWithout_X6 fX6_leastWithout_9 (rfl) dX6_leastWithout_112 ?_
                          refine wp_iload hC dX6_leastWithout_115 rfl ?_
                          refine wp_iald (n := 2197) hC (rfl) (Nat.le_of_ble_eq_true rfl) (rfl) (by decide) (by omega) dX6_leastWithout_117 ?_
                          refine wp_top (b := σ 92 q) rfl ?_
                          refine wp_mmin hC (by decide +kernel) (by decide +kernel) (by decide +kernel) (by decide +kernel) (Nat.le_of_ble_eq_true rfl) (Nat.le_of_ble_eq_true rfl) (by omega) (by omega) dX6_leastWithout_118 ?_
                          refine wp_istore (lv2 := [(0, _), (1, _), (2, _), (3, _), (4, _), (5, _), (6, _), (7, _), (8, _), (9, _), (10, _), (11, _), (12, _), (13, _)]) hC dX6_leastWithout_121 rfl (by decide) ?_
                          refine wp_iinc (lv2 := [(0, _), (1, _), (2, _), (3, _), (4, _), (5, _), (6, _), (7, _), (8, _), (9, _), (10, _), (11, _), (12, _), (13, _)]) hC dX6_leastWithout_123 rfl rfl (by decide) ?_
                          refine wp_iinc (lv2 := [(0, _), (1, _), (2, _), (3, _), (4, _), (5, _), (6, _), (7, _), (8, _), (9, _), (10, _), (11, _), (12, _), (13, _)]) hC dX6_leastWithout_126 rfl rfl (by decide) ?_
                          refine wp_goto (tgt := 54) hC dX6_leastWithout_129 (by decide) ?_
                          refine wp_lv hC [0, 1, 2, 3, 4, 5, 6, 7, 8, 9, 10, 11, 12] rfl ?_
                          exact ih54 _ (by omega) _ _ _ rfl h5 (by omega) (by omega) (MN_y hm rfl (by omega) ⟨fun z => by have z0 := z.1; have z1 := z.2.1; have z2 := z.2.2; omega, by rw [hcel (by omega)]; omega⟩)
                    · refine wp_iconst hC dX6_leastWithout_82 ?_
                      refine wp_goto (tgt := 87) hC dX6_leastWithout_83 (by decide) ?_
                      refine wp_istore (lv2 := [(0, _), (1, _), (2, _), (3, _), (4, _), (5, _), (6, _), (7, _), (8, _), (9, _), (10, _), (11, _), (12, _), (13, _)]) hC dX6_leastWithout_87 rfl (by decide) ?_
                      refine wp_iload hC dX6_leastWithout_89 rfl ?_
                      refine wp_if_ne (tgt := 123) hC dX6_leastWithout_91 (by decide) (by omega) (fun c_91 => ?_) (fun c_91 => ?_)
                      · refine wp_iinc (lv2 := [(0, _), (1, _), (2, _), (3, _), (4, _), (5, _), (6, _), (7, _), (8, _), (9, _), (10, _), (11, _), (12, _), (13, _)]) hC dX6_leastWithout_123 rfl rfl (by decide) ?_
                        refine wp_iinc (lv2 := [(0, _), (1, _), (2, _), (3, _), (4, _), (5, _), (6, _), (7, _), (8, _), (9, _), (10, _), (11, _), (12, _), (13, _)]) hC dX6_leastWithout_126 rfl rfl (by decide) ?_
                        refine wp_goto (tgt := 54) hC dX6_leastWithout_129 (by decide) ?_
                        refine wp_lv hC [0, 1, 2, 3, 4, 5, 6, 7, 8, 9, 10, 11, 12] rfl ?_
                        exact ih54 _ (by omega) _ _ _ rfl h5 (by omega) (by omega) (MN_n hm rfl (fun z => z.1 ⟨by omega, by omega, by omega⟩))
                      · exact absurd c_91 (by decide)
          refine wp_iload hC dX6_leastWithout_44 rfl ?_
          refine wp_bipush hC dX6_leastWithout_46 rfl ?_
          refine wp_icmp_ge (tgt := 138) hC dX6_leastWithout_48 (by decide) (by omega) (by omega) (fun c_48 => ?_) (fun c_48 => ?_)
          · refine wp_iinc (lv2 := [(0, _), (1, _), (2, _), (3, _), (4, _), (5, _), (6, _), (7, _), (8, _), (9, _), (10, _), (11, _)]) hC dX6_leastWithout_138 rfl rfl (by decide) ?_
            refine wp_goto (tgt := 34) hC dX6_leastWithout_141 (by decide) ?_
            refine wp_lv hC [0, 1, 2, 3, 4, 5, 6, 7, 8, 9, 10] rfl ?_
            exact ih _ (by omega) _ _ _ rfl (by omega) (by omega) hm
          · refine wp_iconst hC dX6_leastWithout_51 ?_
            refine wp_istore (lv2 := [(0, _), (1, _), (2, _), (3, _), (4, _), (5, _), (6, _), (7, _), (8, _), (9, _), (10, _), (11, _), (12, _)]) hC dX6_leastWithout_52 rfl (by decide) ?_
            exact L54 _ _ _ _ rfl (by omega) (by omega) (by omega) hm
      refine wp_iload hC dX6_leastWithout_34 rfl ?_
      refine wp_bipush hC dX6_leastWithout_36 rfl ?_
      refine wp_icmp_ge (tgt := 144) hC dX6_leastWithout_38 (by decide) (by omega) (by omega) (fun c_38 => ?_) (fun c_38 => ?_)
      · refine wp_iload hC dX6_leastWithout_144 rfl ?_
        exact hret _ _ _ _ (by omega) rfl (⟨by unfold FI; rw [← hf0, ← hf1, ← hf2]; exact MN_K hm (by omega), rfl⟩) dX6_leastWithout_146
      · refine wp_iconst hC dX6_leastWithout_41 ?_
        refine wp_istore (lv2 := [(0, _), (1, _), (2, _), (3, _), (4, _), (5, _), (6, _), (7, _), (8, _), (9, _), (10, _), (11, _)]) hC dX6_leastWithout_42 rfl (by decide) ?_
        exact L44 _ _ _ _ rfl (by omega) (by omega) (by omega) hm
  refine wp_iload_n hC dX6_leastWithout_0 rfl ?_
  refine wp_iconst hC dX6_leastWithout_1 ?_
  refine wp_iload_n hC dX6_leastWithout_2 rfl ?_
  refine wp_callNe (As := [_, _, _]) hC (c_X8_startOf hG _ (by omega) (by omega) (by omega)) gX6_leastWithout_X8_startOf_n56 rfl ⟨rfl, rfl⟩ ⟨by decide, by decide⟩ hySX8_startOf mnX6_56 (by decide +kernel) (by decide +kernel) rfl (Nat.le_of_ble_eq_true rfl) dX6_leastWithout_3 (fun hx_3 => ?_)
  refine wp_top (b := f0) hf0.symm ?_
  refine wp_istore (lv2 := [(0, _), (1, _), (2, _), (3, _), (4, _), (5, _)]) hC dX6_leastWithout_6 rfl (by decide) ?_
  refine wp_iload_n hC dX6_leastWithout_8 rfl ?_
  refine wp_iconst hC dX6_leastWithout_9 ?_
  refine wp_iload_n hC dX6_leastWithout_10 rfl ?_
  refine wp_callNe (As := [_, _, _]) hC (c_X8_startOf hG _ (by omega) (by omega) (by omega)) gX6_leastWithout_X8_startOf_n56 rfl ⟨rfl, rfl⟩ ⟨by decide, by decide⟩ hySX8_startOf mnX6_56 (by decide +kernel) (by decide +kernel) rfl (Nat.le_of_ble_eq_true rfl) dX6_leastWithout_11 (fun hx_11 => ?_)
  refine wp_top (b := f1) hf1.symm ?_
  refine wp_istore (lv2 := [(0, _), (1, _), (2, _), (3, _), (4, _), (5, _), (6, _)]) hC dX6_leastWithout_14 rfl (by decide) ?_
  refine wp_iload_n hC dX6_leastWithout_16 rfl ?_
  refine wp_iconst hC dX6_leastWithout_17 ?_
  refine wp_iload_n hC dX6_leastWithout_18 rfl ?_
  refine wp_callNe (As := [_, _, _]) hC (c_X8_startOf hG _ (by omega) (by omega) (by omega)) gX6_leastWithout_X8_startOf_n56 rfl ⟨rfl, rfl⟩ ⟨by decide, by decide⟩ hySX8_startOf mnX6_56 (by decide +kernel) (by decide +kernel) rfl (Nat.le_of_ble_eq_true rfl) dX6_leastWithout_19 (fun hx_19 => ?_)
  refine wp_top (b := f2) hf2.symm ?_
  refine wp_istore (lv2 := [(0, _), (1, _), (2, _), (3, _), (4, _), (5, _), (6, _), (7, _)]) hC dX6_leastWithout_22 rfl (by decide) ?_
  refine wp_bipush hC dX6_leastWithout_24 rfl ?_
  refine wp_istore (lv2 := [(0, _), (1, _), (2, _), (3, _), (4, _), (5, _), (6, _), (7, _), (8, _)]) hC dX6_leastWithout_26 rfl (by decide) ?_
  refine wp_iconst hC dX6_leastWithout_28 ?_
  refine wp_istore (lv2 := [(0, _), (1, _), (2, _), (3, _), (4, _), (5, _), (6, _), (7, _), (8, _), (9, _)]) hC dX6_leastWithout_29 rfl (by decide) ?_
  refine wp_iconst hC dX6_leastWithout_31 ?_
  refine wp_istore (lv2 := [(0, _), (1, _), (2, _), (3, _), (4, _), (5, _), (6, _), (7, _), (8, _), (9, _), (10, _)]) hC dX6_leastWithout_32 rfl (by decide) ?_
  exact L34 _ 99 _ _ rfl (by omega) (by omega) (MN_0 (by omega))

theorem hyVX6_needOf : yX6_needOf.cls = RX6 ∧ yX6_needOf.cls ≠ "java/lang/invoke/MethodHandle" ∧ yX6_needOf.cls ≠ "java/lang/invoke/VarHandle" ∧ (parseMethodDescriptor yX6_needOf.desc).map (fun d => d.parameters.length) = some 4 := by decide +kernel
theorem uX6_needOf_X6 : ∀ w ∈ u_ws RX6 TX6 2, w ∈ wsX6_needOf := by decide +kernel
theorem fX6_needOf_9 : Cond.fieldLink RX6 9 (TX6 0).1 (TX6 0).2.1 (TX6 0).2.2.1 ∈ wsX6_needOf := by decide +kernel
set_option maxHeartbeats 16000000 in
set_option maxRecDepth 100000 in
theorem c_X6_needOf {l : Launch} {G : Gy} (hG : Inj G) (σ : St) {it la i1 p1 : Int} (hit : 0 ≤ it ∧ it ≤ 7) (hla : 0 ≤ la ∧ la ≤ 11) (hi1 : 0 ≤ i1 ∧ i1 ≤ 2) (hp1 : 0 ≤ p1 ∧ p1 ≤ 11) (h : XO σ) (hu : ∀ i q, 0 ≤ i → i < 3 → 0 ≤ q → q ≤ 12 → σ 93 (13 * i + q) = sq (σ 109) i q) (hx : ∀ k, 0 ≤ k → k < 2197 → -1440 ≤ σ 92 k ∧ σ 92 k ≤ 3564) : MP l yX6_needOf wsX6_needOf ({ frames := 1, cells := 0, slots := 0, locals := 23 } : Room) G [.ref (G.2.2 91), .int (zI (it)), .int (zI (la)), .int (zI (i1)), .int (zI (p1))] σ (MXk (CND i1 p1) (VND σ (FI it la 0) (FI it la 1) (FI it la 2)) (-(sq (σ 109) 0 12 + sq (σ 109) 1 12 + sq (σ 109) 2 12)) 2197) := by
  refine MI.of hG (by decide +kernel) rfl rfl (Nat.le_of_ble_eq_true rfl) rfl ?_
  intro p e s m args below meth c H0 Q hC hret
  obtain ⟨f0, hf0⟩ : ∃ f, f = (if tb it 0 = true then la + 1 else 0) := ⟨_, rfl⟩
  obtain ⟨f1, hf1⟩ : ∃ f, f = (if tb it 1 = true then la + 1 else 0) := ⟨_, rfl⟩
  obtain ⟨f2, hf2⟩ : ∃ f, f = (if tb it 2 = true then la + 1 else 0) := ⟨_, rfl⟩
  have r0 : 0 ≤ f0 ∧ f0 ≤ 12 := by rw [hf0]; split <;> omega
  have r1 : 0 ≤ f1 ∧ f1 ≤ 12 := by rw [hf1]; split <;> omega
  have r2 : 0 ≤ f2 ∧ f2 ≤ 12 := by rw [hf2]; split <;> omega
  have t0 := sq_rng (su := σ 109) h.2.1.1 (i := 0) (q := 12) (by omega) (by omega)
  have t1 := sq_rng (su := σ 109) h.2.1.1 (i := 1) (q := 12) (by omega) (by omega)
  have t2 := sq_rng (su := σ 109) h.2.1.1 (i := 2) (q := 12) (by omega) (by omega)
  have L43 : ∀ (n : Nat) (v q a : Int), ((13 - a).toNat) = n → (q = 169 * a) → (0 ≤ a ∧ a ≤ 13) → (MXk (CND i1 p1) (VND σ f0 f1 f2) (-(sq (σ 109) 0 12 + sq (σ 109) 1 12 + sq (σ 109) 2 12)) (q) v) → wp p l e ({ frames := 1, cells := 0, slots := 0, locals := 23 } : Room) s m args below meth c (aA G (Array.size H0)) H0 14 Q G σ 43 [(0, .ref (G.2.2 91)), (1, .int (zI (it))), (2, .int (zI (la))), (3, .int (zI (i1))), (4, .int (zI (p1))), (5, .int (zI (f0))), (6, .int (zI (f1))), (7, .int (zI (f2))), (8, .int (zI (v))), (9, .int (zI (q))), (10, .int (zI (a)))] [] := by
    intro n43
    induction n43 using Nat.strongRecOn with
    | ind n43 ih =>
      intro v q a hm43 hq h1 hm
      have hv : -20000 ≤ v ∧ v ≤ 20000 := MX_rg hm (by omega) (fun j x y => by have := VND_rg h (hx j x (by omega)) r0 r1 r2 ⟨x, by omega⟩; omega)
      have L53 : ∀ (n : Nat) (v q b : Int), ((13 - b).toNat) = n → (a < 13) → (q = 169 * a + 13 * b) → (0 ≤ b ∧ b ≤ 13) → (MXk (CND i1 p1) (VND σ f0 f1 f2) (-(sq (σ 109) 0 12 + sq (σ 109) 1 12 + sq (σ 109) 2 12)) (q) v) → wp p l e ({ frames := 1, cells := 0, slots := 0, locals := 23 } : Room) s m args below meth c (aA G (Array.size H0)) H0 14 Q G σ 53 [(0, .ref (G.2.2 91)), (1, .int (zI (it))), (2, .int (zI (la))), (3, .int (zI (i1))), (4, .int (zI (p1))), (5, .int (zI (f0))), (6, .int (zI (f1))), (7, .int (zI (f2))), (8, .int (zI (v))), (9, .int (zI (q))), (10, .int (zI (a))), (11, .int (zI (b)))] [] := by
        intro n53
        induction n53 using Nat.strongRecOn with
        | ind n53 ih53 =>
          intro v q b hm53 h3 hq h2 hm
          have hv : -20000 ≤ v ∧ v ≤ 20000 := MX_rg hm (by omega) (fun j x y => by have := VND_rg h (hx j x (by omega)) r0 r1 r2 ⟨x, by omega⟩; omega)
          have L63 : ∀ (n : Nat) (v q c1 : Int), ((13 - c1).toNat) = n → (b < 13) → (q = 169 * a + 13 * b + c1) → (0 ≤ c1 ∧ c1 ≤ 13) → (MXk (CND i1 p1) (VND σ f0 f1 f2) (-(sq (σ 109) 0 12 + sq (σ 109) 1 12 + sq (σ 109) 2 12)) (q) v) → wp p l e ({ frames := 1, cells := 0, slots := 0, locals := 23 } : Room) s m args below meth c (aA G (Array.size H0)) H0 14 Q G σ 63 [(0, .ref (G.2.2 91)), (1, .int (zI (it))), (2, .int (zI (la))), (3, .int (zI (i1))), (4, .int (zI (p1))), (5, .int (zI (f0))), (6, .int (zI (f1))), (7, .int (zI (f2))), (8, .int (zI (v))), (9, .int (zI (q))), (10, .int (zI (a))), (11, .int (zI (b))), (12, .int (zI (c1)))] [] := by
            intro n63
            induction n63 using Nat.strongRecOn with
            | ind n63 ih63 =>
              intro v q c1 hm63 h5 hq h4 hm
              have hv : -20000 ≤ v ∧ v ≤ 20000 := MX_rg hm (by omega) (fun j x y => by have := VND_rg h (hx j x (by omega)) r0 r1 r2 ⟨x, by omega⟩; omega)
              have hq9 : 169 * a + 13 * b + c1 = q := hq.symm
              have hcel : c1 < 13 → cel q i1 = (if i1 = 0 then a else if i1 = 1 then b else c1) := fun hc13 => by unfold cel; rw [show q / 169 = a by omega, show q / 13 % 13 = b by omega, show q % 13 = c1 by omega]
              have hxq := fun z : c1 < 13 => hx q (by omega) (by omega)
              have hvd := fun z : c1 < 13 => VND_rg (f0 := f0) (f1 := f1) (f2 := f2) h (hx q (by omega) (by omega)) r0 r1 r2 ⟨by omega, by omega⟩
              have hve : c1 < 13 → VND σ f0 f1 f2 q = (sq (σ 109) 0 a + sq (σ 109) 1 b + sq (σ 109) 2 c1) - σ 92 q - (sq (σ 109) 0 (max a f0) + sq (σ 109) 1 (max b f1) + sq (σ 109) 2 (max c1 f2)) := fun hc13 => by unfold VND; rw [show q / 169 = a by omega, show q / 13 % 13 = b by omega, show q % 13 = c1 by omega]
              refine wp_iload hC dX6_needOf_63 rfl ?_
              refine wp_bipush hC dX6_needOf_65 rfl ?_
              refine wp_icmp_ge (tgt := 149) hC dX6_needOf_67 (by decide) (by omega) (by omega) (fun c_67 => ?_) (fun c_67 => ?_)
              · refine wp_iinc (lv2 := [(0, _), (1, _), (2, _), (3, _), (4, _), (5, _), (6, _), (7, _), (8, _), (9, _), (10, _), (11, _), (12, _)]) hC dX6_needOf_149 rfl rfl (by decide) ?_
                refine wp_goto (tgt := 53) hC dX6_needOf_152 (by decide) ?_
                refine wp_lv hC [0, 1, 2, 3, 4, 5, 6, 7, 8, 9, 10, 11] rfl ?_
                exact ih53 _ (by omega) _ _ _ rfl h3 (by omega) (by omega) hm
              · refine wp_iload_n hC dX6_needOf_70 rfl ?_
                refine wp_iload hC dX6_needOf_71 rfl ?_
                refine wp_iload hC dX6_needOf_73 rfl ?_
                refine wp_iload hC dX6_needOf_75 rfl ?_
                refine wp_callSe (As := [_, _, _, _]) hC (c_X6_numberOf hG _ (by omega) (by omega) (by omega) (by omega)) gX6_needOf_X6_numberOf rfl ⟨rfl, rfl⟩ ⟨by decide, by decide⟩ hySX6_numberOf rfl (Nat.le_of_ble_eq_true rfl) dX6_needOf_77 (fun hx_77 => ?_)
                refine wp_iload hC dX6_needOf_80 rfl ?_
                refine wp_icmp_gt (tgt := 140) hC dX6_needOf_82 (by decide) (by split <;> (try split) <;> omega) (by omega) (fun c_82 => ?_) (fun c_82 => ?_)
                · refine wp_iinc (lv2 := [(0, _), (1, _), (2, _), (3, _), (4, _), (5, _), (6, _), (7, _), (8, _), (9, _), (10, _), (11, _), (12, _)]) hC dX6_needOf_140 rfl rfl (by decide) ?_
                  refine wp_iinc (lv2 := [(0, _), (1, _), (2, _), (3, _), (4, _), (5, _), (6, _), (7, _), (8, _), (9, _), (10, _), (11, _), (12, _)]) hC dX6_needOf_143 rfl rfl (by decide) ?_
                  refine wp_goto (tgt := 63) hC dX6_needOf_146 (by decide) ?_
                  exact ih63 _ (by omega) _ _ _ rfl h5 (by omega) (by omega) (MX_n hm rfl (fun z => by have z : cel q i1 ≤ p1 := z; rw [hcel (by omega)] at z; omega))
                · refine wp_aload_n hC dX6_needOf_85 rfl ?_
                  refine wp_iload hC dX6_needOf_86 rfl ?_
                  refine wp_iload hC dX6_needOf_88 rfl ?_
                  refine wp_mmax hC (by decide +kernel) (by decide +kernel) (by decide +kernel) (by decide +kernel) (Nat.le_of_ble_eq_true rfl) (Nat.le_of_ble_eq_true rfl) (by omega) (by omega) dX6_needOf_90 ?_
                  refine wp_iload hC dX6_needOf_93 rfl ?_
                  refine wp_iload hC dX6_needOf_95 rfl ?_
                  refine wp_mmax hC (by decide +kernel) (by decide +kernel) (by decide +kernel) (by decide +kernel) (Nat.le_of_ble_eq_true rfl) (Nat.le_of_ble_eq_true rfl) (by omega) (by omega) dX6_needOf_97 ?_
                  refine wp_iload hC dX6_needOf_100 rfl ?_
                  refine wp_iload hC dX6_needOf_102 rfl ?_
                  refine wp_mmax hC (by decide +kernel) (by decide +kernel) (by decide +kernel) (by decide +kernel) (Nat.le_of_ble_eq_true rfl) (Nat.le_of_ble_eq_true rfl) (by omega) (by omega) dX6_needOf_104 ?_
                  refine wp_callVe (As := [_, _, _]) hC (c_X6_suppliesTo hG _ h hu (by omega) (by omega) (by omega)) gX6_needOf_X6_suppliesTo rfl ⟨rfl, rfl⟩ ⟨by decide, by decide⟩ hyVX6_suppliesTo (rfl) (by decide) (rfl) rfl (Nat.le_of_ble_eq_true rfl) dX6_needOf_107 (fun hx_107 => ?_)
                  refine wp_istore (lv2 := [(0, _), (1, _), (2, _), (3, _), (4, _), (5, _), (6, _), (7, _), (8, _), (9, _), (10, _), (11, _), (12, _), (13, _)]) hC dX6_needOf_110 rfl (by decide) ?_
                  refine wp_iload hC dX6_needOf_112 rfl ?_
                  refine wp_aload_n hC dX6_needOf_114 rfl ?_
                  refine wp_iload hC dX6_needOf_115 rfl ?_
                  refine wp_iload hC dX6_needOf_117 rfl ?_
                  refine wp_iload hC dX6_needOf_119 rfl ?_
                  refine wp_callVe (As := [_, _, _]) hC (c_X6_suppliesTo hG _ h hu (by omega) (by omega) (by omega)) gX6_needOf_X6_suppliesTo rfl ⟨rfl, rfl⟩ ⟨by decide, by decide⟩ hyVX6_suppliesTo (rfl) (by decide) (rfl) rfl (Nat.le_of_ble_eq_true rfl) dX6_needOf_121 (fun hx_121 => ?_)
                  refine wp_aload_n hC dX6_needOf_124 rfl ?_
                  refine wp_geta (k := 0) hC (rfl) (by decide) (rfl) (rfl) (by decide) uX6_needOf_X6 fX6_needOf_9 (rfl) dX6_needOf_125 ?_
                  refine wp_iload hC dX6_needOf_128 rfl ?_
                  refine wp_iald (n := 2197) hC (rfl) (Nat.le_of_ble_eq_true rfl) (rfl) (by decide) (by omega) dX6_needOf_130 ?_
                  refine wp_isub hC dX6_needOf_131 ?_
                  refine wp_iload hC dX6_needOf_132 rfl ?_
                  refine wp_isub hC dX6_needOf_134 ?_
                  refine wp_top (b := VND σ f0 f1 f2 q) (hve (by omega)).symm ?_
                  refine wp_mmax hC (by decide +kernel) (by decide +kernel) (by decide +kernel) (by decide +kernel) (Nat.le_of_ble_eq_true rfl) (Nat.le_of_ble_eq_true rfl) (by omega) (by omega) dX6_needOf_135 ?_
                  refine wp_istore (lv2 := [(0, _), (1, _), (2, _), (3, _), (4, _), (5, _), (6, _), (7, _), (8, _), (9, _), (10, _), (11, _), (12, _), (13, _)]) hC dX6_needOf_138 rfl (by decide) ?_
                  refine wp_iinc (lv2 := [(0, _), (1, _), (2, _), (3, _), (4, _), (5, _), (6, _), (7, _), (8, _), (9, _), (10, _), (11, _), (12, _), (13, _)]) hC dX6_needOf_140 rfl rfl (by decide) ?_
                  refine wp_iinc (lv2 := [(0, _), (1, _), (2, _), (3, _), (4, _), (5, _), (6, _), (7, _), (8, _), (9, _), (10, _), (11, _), (12, _), (13, _)]) hC dX6_needOf_143 rfl rfl (by decide) ?_
                  refine wp_goto (tgt := 63) hC dX6_needOf_146 (by decide) ?_
                  refine wp_lv hC [0, 1, 2, 3, 4, 5, 6, 7, 8, 9, 10, 11, 12] rfl ?_
                  exact ih63 _ (by omega) _ _ _ rfl h5 (by omega) (by omega) (MX_y hm rfl (by omega) (show cel q i1 ≤ p1 by rw [hcel (by omega)]; omega))
          refine wp_iload hC dX6_needOf_53 rfl ?_
          refine wp_bipush hC dX6_needOf_55 rfl ?_
          refine wp_icmp_ge (tgt := 155) hC dX6_needOf_57 (by decide) (by omega) (by omega) (fun c_57 => ?_) (fun c_57 => ?_)
          · refine wp_iinc (lv2 := [(0, _), (1, _), (2, _), (3, _), (4, _), (5, _), (6, _), (7, _), (8, _), (9, _), (10, _), (11, _)]) hC dX6_needOf_155 rfl rfl (by decide) ?_
            refine wp_goto (tgt := 43) hC dX6_needOf_158 (by decide) ?_
            refine wp_lv hC [0, 1, 2, 3, 4, 5, 6, 7, 8, 9, 10] rfl ?_
            exact ih _ (by omega) _ _ _ rfl (by omega) (by omega) hm
          · refine wp_iconst hC dX6_needOf_60 ?_
            refine wp_istore (lv2 := [(0, _), (1, _), (2, _), (3, _), (4, _), (5, _), (6, _), (7, _), (8, _), (9, _), (10, _), (11, _), (12, _)]) hC dX6_needOf_61 rfl (by decide) ?_
            exact L63 _ _ _ _ rfl (by omega) (by omega) (by omega) hm
      refine wp_iload hC dX6_needOf_43 rfl ?_
      refine wp_bipush hC dX6_needOf_45 rfl ?_
      refine wp_icmp_ge (tgt := 161) hC dX6_needOf_47 (by decide) (by omega) (by omega) (fun c_47 => ?_) (fun c_47 => ?_)
      · refine wp_iload hC dX6_needOf_161 rfl ?_
        exact hret _ _ _ _ (by omega) rfl (⟨by unfold FI; rw [← hf0, ← hf1, ← hf2]; exact MX_K hm (by omega), rfl⟩) dX6_needOf_163
      · refine wp_iconst hC dX6_needOf_50 ?_
        refine wp_istore (lv2 := [(0, _), (1, _), (2, _), (3, _), (4, _), (5, _), (6, _), (7, _), (8, _), (9, _), (10, _), (11, _)]) hC dX6_needOf_51 rfl (by decide) ?_
        exact L53 _ _ _ _ rfl (by omega) (by omega) (by omega) hm
  refine wp_iload_n hC dX6_needOf_0 rfl ?_
  refine wp_iconst hC dX6_needOf_1 ?_
  refine wp_iload_n hC dX6_needOf_2 rfl ?_
  refine wp_callNe (As := [_, _, _]) hC (c_X8_startOf hG _ (by omega) (by omega) (by omega)) gX6_needOf_X8_startOf_n56 rfl ⟨rfl, rfl⟩ ⟨by decide, by decide⟩ hySX8_startOf mnX6_56 (by decide +kernel) (by decide +kernel) rfl (Nat.le_of_ble_eq_true rfl) dX6_needOf_3 (fun hx_3 => ?_)
  refine wp_top (b := f0) hf0.symm ?_
  refine wp_istore (lv2 := [(0, _), (1, _), (2, _), (3, _), (4, _), (5, _)]) hC dX6_needOf_6 rfl (by decide) ?_
  refine wp_iload_n hC dX6_needOf_8 rfl ?_
  refine wp_iconst hC dX6_needOf_9 ?_
  refine wp_iload_n hC dX6_needOf_10 rfl ?_
  refine wp_callNe (As := [_, _, _]) hC (c_X8_startOf hG _ (by omega) (by omega) (by omega)) gX6_needOf_X8_startOf_n56 rfl ⟨rfl, rfl⟩ ⟨by decide, by decide⟩ hySX8_startOf mnX6_56 (by decide +kernel) (by decide +kernel) rfl (Nat.le_of_ble_eq_true rfl) dX6_needOf_11 (fun hx_11 => ?_)
  refine wp_top (b := f1) hf1.symm ?_
  refine wp_istore (lv2 := [(0, _), (1, _), (2, _), (3, _), (4, _), (5, _), (6, _)]) hC dX6_needOf_14 rfl (by decide) ?_
  refine wp_iload_n hC dX6_needOf_16 rfl ?_
  refine wp_iconst hC dX6_needOf_17 ?_
  refine wp_iload_n hC dX6_needOf_18 rfl ?_
  refine wp_callNe (As := [_, _, _]) hC (c_X8_startOf hG _ (by omega) (by omega) (by omega)) gX6_needOf_X8_startOf_n56 rfl ⟨rfl, rfl⟩ ⟨by decide, by decide⟩ hySX8_startOf mnX6_56 (by decide +kernel) (by decide +kernel) rfl (Nat.le_of_ble_eq_true rfl) dX6_needOf_19 (fun hx_19 => ?_)
  refine wp_top (b := f2) hf2.symm ?_
  refine wp_istore (lv2 := [(0, _), (1, _), (2, _), (3, _), (4, _), (5, _), (6, _), (7, _)]) hC dX6_needOf_22 rfl (by decide) ?_
  refine wp_aload_n hC dX6_needOf_24 rfl ?_
  refine wp_bipush hC dX6_needOf_25 rfl ?_
  refine wp_bipush hC dX6_needOf_27 rfl ?_
  refine wp_bipush hC dX6_needOf_29 rfl ?_
  refine wp_callVe (As := [_, _, _]) hC (c_X6_suppliesTo hG _ h hu (by omega) (by omega) (by omega)) gX6_needOf_X6_suppliesTo rfl ⟨rfl, rfl⟩ ⟨by decide, by decide⟩ hyVX6_suppliesTo (rfl) (by decide) (rfl) rfl (Nat.le_of_ble_eq_true rfl) dX6_needOf_31 (fun hx_31 => ?_)
  refine wp_ineg hC dX6_needOf_34 ?_
  refine wp_istore (lv2 := [(0, _), (1, _), (2, _), (3, _), (4, _), (5, _), (6, _), (7, _), (8, _)]) hC dX6_needOf_35 rfl (by decide) ?_
  refine wp_iconst hC dX6_needOf_37 ?_
  refine wp_istore (lv2 := [(0, _), (1, _), (2, _), (3, _), (4, _), (5, _), (6, _), (7, _), (8, _), (9, _)]) hC dX6_needOf_38 rfl (by decide) ?_
  refine wp_iconst hC dX6_needOf_40 ?_
  refine wp_istore (lv2 := [(0, _), (1, _), (2, _), (3, _), (4, _), (5, _), (6, _), (7, _), (8, _), (9, _), (10, _)]) hC dX6_needOf_41 rfl (by decide) ?_
  exact L43 _ _ _ _ rfl (by omega) (by omega) (MX_0 (by omega))
