theorem iand_le {a b : Int} (ha : 0 ≤ a) (hb : 0 ≤ b) (ha2 : a ≤ 2147483647) (hb2 : b ≤ 2147483647) : 0 ≤ iand a b ∧ iand a b ≤ a := by
  obtain ⟨x, rfl⟩ := Int.eq_ofNat_of_zero_le ha
  obtain ⟨y, rfl⟩ := Int.eq_ofNat_of_zero_le hb
  rw [iand_nat (by omega) (by omega)]
  have := Nat.and_le_left (n := x) (m := y)
  omega
/-- the set of those that a place counts -/
def prX (σ : St) (j : Int) : Int := iand (iand (σ 98 (j / 169)) (σ 98 (13 + j / 13 % 13))) (σ 98 (26 + j % 13))
theorem prX_rg {σ : St} (h : ∀ b, 0 ≤ b → b < 39 → 0 ≤ σ 98 b ∧ σ 98 b < 256) {j : Int} (h0 : 0 ≤ j) (h1 : j < 2197) : 0 ≤ prX σ j ∧ prX σ j < 256 := by
  have a := h (j / 169) (by omega) (by omega)
  have b := h (13 + j / 13 % 13) (by omega) (by omega)
  have c := h (26 + j % 13) (by omega) (by omega)
  have d := iand_le a.1 b.1 (by omega) (by omega)
  have e := iand_le d.1 c.1 (by omega) (by omega)
  unfold prX
  omega
/-- the least at places that count just a set -/
def TGI (σ ρ : St) (K : Int) : Prop := (∀ a b, a ≠ 97 → ρ a b = σ a b) ∧ ∀ p, 0 ≤ p → p < 256 → (∀ j, 0 ≤ j → j < K → prX σ j = p → ρ 97 p ≤ σ 92 j) ∧ (ρ 97 p = 1073741824 ∨ ∃ j, 0 ≤ j ∧ j < K ∧ prX σ j = p ∧ ρ 97 p = σ 92 j)
theorem TGI_s {σ ρ : St} {K p : Int} (h : TGI σ ρ K) (h0 : 0 ≤ K) (hp : prX σ K = p) (hl : σ 92 K ≤ 1073741824) : TGI σ (put ρ 97 p (min (ρ 97 p) (σ 92 K))) (K + 1) := by
  refine ⟨fun a b x => by rw [put_i x]; exact h.1 a b x, fun p' a b => ?_⟩
  obtain ⟨g1, g2⟩ := h.2 p' a b
  rw [put_e]
  by_cases e : p' = p
  · rw [if_pos e, ← e]
    refine ⟨fun j x y z => ?_, ?_⟩
    · by_cases w : j = K
      · rw [w]; omega
      · have := g1 j x (by omega) z
        omega
    · rcases Int.le_total (ρ 97 p') (σ 92 K) with w | w
      · rw [Int.min_eq_left w]
        exact g2.imp id (fun ⟨j, x, y, z⟩ => ⟨j, x, by omega, z⟩)
      · rw [Int.min_eq_right w]
        exact Or.inr ⟨K, h0, by omega, by rw [e]; exact hp, rfl⟩
  · rw [if_neg e]
    refine ⟨fun j x y z => ?_, g2.imp id (fun ⟨j, x, y, z⟩ => ⟨j, x, by omega, z⟩)⟩
    by_cases w : j = K
    · rw [w, hp] at z; exact absurd z.symm e
    · exact g1 j x (by omega) z
theorem TGI_rg {σ ρ : St} {K p : Int} (h : TGI σ ρ K) (hx : ∀ k, 0 ≤ k → k < 2197 → -1440 ≤ σ 92 k ∧ σ 92 k ≤ 3564) (hK : K ≤ 2197) (h0 : 0 ≤ p) (h1 : p < 256) : -1440 ≤ ρ 97 p ∧ ρ 97 p ≤ 1073741824 := by
  rcases (h.2 p h0 h1).2 with e | ⟨j, a, b, _, e⟩
  · omega
  · have := hx j a (by omega)
    omega

theorem hyVX1_tighten : yX1_tighten.cls = RX1 ∧ yX1_tighten.cls ≠ "java/lang/invoke/MethodHandle" ∧ yX1_tighten.cls ≠ "java/lang/invoke/VarHandle" ∧ (parseMethodDescriptor yX1_tighten.desc).map (fun d => d.parameters.length) = some 1 := by decide +kernel
theorem uX1_tighten_X1 : ∀ w ∈ u_ws RX1 TX1 7, w ∈ wsX1_tighten := by decide +kernel
theorem fX1_tighten_21 : Cond.fieldLink RX1 21 (TX1 3).1 (TX1 3).2.1 (TX1 3).2.2.1 ∈ wsX1_tighten := by decide +kernel
theorem fX1_tighten_18 : Cond.fieldLink RX1 18 (TX1 2).1 (TX1 2).2.1 (TX1 2).2.2.1 ∈ wsX1_tighten := by decide +kernel
theorem uX1_tighten_X6 : ∀ w ∈ u_ws RX6 TX6 2, w ∈ wsX1_tighten := by decide +kernel
theorem fnX1_60 : Cond.fieldLinkNest RX1 60 (TX6 0).1 (TX6 0).2.1 (TX6 0).2.2.1 "PromiseMind" ∈ tables_1 := List.mem_of_getElem? (i := 157) (by decide +kernel)
set_option maxHeartbeats 16000000 in
set_option maxRecDepth 100000 in
theorem c_X1_tighten {l : Launch} {G : Gy} (hG : Inj G) (σ : St) (h98 : ∀ b, 0 ≤ b → b < 39 → 0 ≤ σ 98 b ∧ σ 98 b < 256) (hx : ∀ k, 0 ≤ k → k < 2197 → -1440 ≤ σ 92 k ∧ σ 92 k ≤ 3564) : MV l yX1_tighten wsX1_tighten ({ frames := 1, cells := 0, slots := 0, locals := 23 } : Room) G [.ref (G.2.2 94), .ref (G.2.2 91)] σ (fun ρ => TGI σ ρ 2197) := by
  refine MV.of hG (by decide +kernel) rfl rfl (Nat.le_of_ble_eq_true rfl) rfl ?_
  intro p e s m args below meth c H0 Q hC hret
  have L13 : ∀ (n : Nat) (q a : Int) (ρ : St), ((13 - a).toNat) = n → (q = 169 * a) → (0 ≤ a ∧ a ≤ 13) → (TGI σ ρ q) → wp p l e ({ frames := 1, cells := 0, slots := 0, locals := 23 } : Room) s m args below meth c (aA G (Array.size H0)) H0 8 Q G ρ 13 [(0, .ref (G.2.2 94)), (1, .ref (G.2.2 91)), (2, .int (zI (q))), (3, .int (zI (a)))] [] := by
    intro n13
    induction n13 using Nat.strongRecOn with
    | ind n13 ih =>
      intro q a ρ hm13 hq h1 hi
      have L22 : ∀ (n : Nat) (q b : Int) (ρ : St), ((13 - b).toNat) = n → (a < 13) → (q = 169 * a + 13 * b) → (0 ≤ b ∧ b ≤ 13) → (TGI σ ρ q) → wp p l e ({ frames := 1, cells := 0, slots := 0, locals := 23 } : Room) s m args below meth c (aA G (Array.size H0)) H0 8 Q G ρ 22 [(0, .ref (G.2.2 94)), (1, .ref (G.2.2 91)), (2, .int (zI (q))), (3, .int (zI (a))), (4, .int (zI (b)))] [] := by
        intro n22
        induction n22 using Nat.strongRecOn with
        | ind n22 ih22 =>
          intro q b ρ hm22 h3 hq h2 hi
          have L51 : ∀ (n : Nat) (q c1 : Int) (ρ : St), ((13 - c1).toNat) = n → (b < 13) → (q = 169 * a + 13 * b + c1) → (0 ≤ c1 ∧ c1 ≤ 13) → (TGI σ ρ q) → wp p l e ({ frames := 1, cells := 0, slots := 0, locals := 23 } : Room) s m args below meth c (aA G (Array.size H0)) H0 8 Q G ρ 51 [(0, .ref (G.2.2 94)), (1, .ref (G.2.2 91)), (2, .int (zI (q))), (3, .int (zI (a))), (4, .int (zI (b))), (5, .int (zI (iand (σ 98 a) (σ 98 (13 + b))))), (6, .int (zI (c1)))] [] := by
            intro n51
            induction n51 using Nat.strongRecOn with
            | ind n51 ih51 =>
              intro q c1 ρ hm51 h5 hq h4 hi
              have hpr : c1 < 13 → iand (iand (σ 98 a) (σ 98 (13 + b))) (σ 98 (26 + c1)) = prX σ q := fun z => by unfold prX; rw [show q / 169 = a by omega, show q / 13 % 13 = b by omega, show q % 13 = c1 by omega]
              have hprr := fun z : c1 < 13 => prX_rg h98 (j := q) (by omega) (by omega)
              have hxq := fun z : c1 < 13 => hx q (by omega) (by omega)
              have htr := fun z : c1 < 13 => TGI_rg hi hx (by omega) (hprr z).1 (hprr z).2
              refine wp_iload hC dX1_tighten_51 rfl ?_
              refine wp_bipush hC dX1_tighten_53 rfl ?_
              refine wp_icmp_ge (tgt := 105) hC dX1_tighten_55 (by decide) (by omega) (by omega) (fun c_55 => ?_) (fun c_55 => ?_)
              · refine wp_iinc (lv2 := [(0, _), (1, _), (2, _), (3, _), (4, _), (5, _), (6, _)]) hC dX1_tighten_105 rfl rfl (by decide) ?_
                refine wp_goto (tgt := 22) hC dX1_tighten_108 (by decide) ?_
                refine wp_lv hC [0, 1, 2, 3, 4] rfl ?_
                exact ih22 _ (by omega) _ _ _ rfl h3 (by omega) (by omega) hi
              · refine wp_iload hC dX1_tighten_58 rfl ?_
                refine wp_aload_n hC dX1_tighten_60 rfl ?_
                refine wp_geta (k := 3) hC (rfl) (by decide) (rfl) (rfl) (by decide) uX1_tighten_X1 fX1_tighten_21 (rfl) dX1_tighten_61 ?_
                refine wp_bipush hC dX1_tighten_64 rfl ?_
                refine wp_iload hC dX1_tighten_66 rfl ?_
                refine wp_iadd hC dX1_tighten_68 ?_
                refine wp_iald (n := 39) hC (rfl) (Nat.le_of_ble_eq_true rfl) (rfl) (by decide) (by omega) dX1_tighten_69 ?_
                refine wp_top (b := σ 98 (26 + c1)) (hi.1 98 (26 + c1) (by decide)) ?_
                refine wp_iand hC dX1_tighten_70 ?_
                refine wp_top (b := prX σ q) (hpr (by omega)) ?_
                have hprr2 := hprr (by omega)
                have hxq2 := hxq (by omega)
                have htr2 := htr (by omega)
                refine wp_istore (lv2 := [(0, _), (1, _), (2, _), (3, _), (4, _), (5, _), (6, _), (7, _)]) hC dX1_tighten_71 rfl (by decide) ?_
                refine wp_aload_n hC dX1_tighten_73 rfl ?_
                refine wp_geta (k := 2) hC (rfl) (by decide) (rfl) (rfl) (by decide) uX1_tighten_X1 fX1_tighten_18 (rfl) dX1_tighten_74 ?_
                refine wp_iload hC dX1_tighten_77 rfl ?_
                refine wp_aload_n hC dX1_tighten_79 rfl ?_
                refine wp_geta (k := 2) hC (rfl) (by decide) (rfl) (rfl) (by decide) uX1_tighten_X1 fX1_tighten_18 (rfl) dX1_tighten_80 ?_
                refine wp_iload hC dX1_tighten_83 rfl ?_
                refine wp_iald (n := 256) hC (rfl) (Nat.le_of_ble_eq_true rfl) (rfl) (by decide) (by omega) dX1_tighten_85 ?_
                refine wp_top (b := ρ 97 (prX σ q)) rfl ?_
                refine wp_aload_n hC dX1_tighten_86 rfl ?_
                refine wp_getaN (k := 0) hC (rfl) (by decide) (rfl) (rfl) (by decide) uX1_tighten_X6 fnX1_60 (rfl) dX1_tighten_87 ?_
                refine wp_iload_n hC dX1_tighten_90 rfl ?_
                refine wp_iald (n := 2197) hC (rfl) (Nat.le_of_ble_eq_true rfl) (rfl) (by decide) (by omega) dX1_tighten_91 ?_
                refine wp_top (b := σ 92 q) (hi.1 92 q (by decide)) ?_
                refine wp_mmin hC (by decide +kernel) (by decide +kernel) (by decide +kernel) (by decide +kernel) (Nat.le_of_ble_eq_true rfl) (Nat.le_of_ble_eq_true rfl) (by omega) (by omega) dX1_tighten_92 ?_
                refine wp_iast (n := 256) hC (rfl) (Nat.le_of_ble_eq_true rfl) (rfl) (by decide) (by omega) dX1_tighten_95 ?_
                refine wp_iinc (lv2 := [(0, _), (1, _), (2, _), (3, _), (4, _), (5, _), (6, _), (7, _)]) hC dX1_tighten_96 rfl rfl (by decide) ?_
                refine wp_iinc (lv2 := [(0, _), (1, _), (2, _), (3, _), (4, _), (5, _), (6, _), (7, _)]) hC dX1_tighten_99 rfl rfl (by decide) ?_
                refine wp_goto (tgt := 51) hC dX1_tighten_102 (by decide) ?_
                refine wp_lv hC [0, 1, 2, 3, 4, 5, 6] rfl ?_
                exact ih51 _ (by omega) _ _ _ rfl h5 (by omega) (by omega) (TGI_s hi (by omega) rfl (by have := hxq (by omega); omega))
          refine wp_iload hC dX1_tighten_22 rfl ?_
          refine wp_bipush hC dX1_tighten_24 rfl ?_
          refine wp_icmp_ge (tgt := 111) hC dX1_tighten_26 (by decide) (by omega) (by omega) (fun c_26 => ?_) (fun c_26 => ?_)
          · refine wp_iinc (lv2 := [(0, _), (1, _), (2, _), (3, _), (4, _)]) hC dX1_tighten_111 rfl rfl (by decide) ?_
            refine wp_goto (tgt := 13) hC dX1_tighten_114 (by decide) ?_
            refine wp_lv hC [0, 1, 2, 3] rfl ?_
            exact ih _ (by omega) _ _ _ rfl (by omega) (by omega) hi
          · refine wp_aload_n hC dX1_tighten_29 rfl ?_
            refine wp_geta (k := 3) hC (rfl) (by decide) (rfl) (rfl) (by decide) uX1_tighten_X1 fX1_tighten_21 (rfl) dX1_tighten_30 ?_
            refine wp_iload_n hC dX1_tighten_33 rfl ?_
            refine wp_iald (n := 39) hC (rfl) (Nat.le_of_ble_eq_true rfl) (rfl) (by decide) (by omega) dX1_tighten_34 ?_
            refine wp_aload_n hC dX1_tighten_35 rfl ?_
            refine wp_geta (k := 3) hC (rfl) (by decide) (rfl) (rfl) (by decide) uX1_tighten_X1 fX1_tighten_21 (rfl) dX1_tighten_36 ?_
            refine wp_bipush hC dX1_tighten_39 rfl ?_
            refine wp_iload hC dX1_tighten_41 rfl ?_
            refine wp_iadd hC dX1_tighten_43 ?_
            refine wp_iald (n := 39) hC (rfl) (Nat.le_of_ble_eq_true rfl) (rfl) (by decide) (by omega) dX1_tighten_44 ?_
            refine wp_iand hC dX1_tighten_45 ?_
            refine wp_top (b := iand (σ 98 a) (σ 98 (13 + b))) (by rw [hi.1 98 a (by decide), hi.1 98 (13 + b) (by decide)]) ?_
            refine wp_istore (lv2 := [(0, _), (1, _), (2, _), (3, _), (4, _), (5, _)]) hC dX1_tighten_46 rfl (by decide) ?_
            refine wp_iconst hC dX1_tighten_48 ?_
            refine wp_istore (lv2 := [(0, _), (1, _), (2, _), (3, _), (4, _), (5, _), (6, _)]) hC dX1_tighten_49 rfl (by decide) ?_
            exact L51 _ _ 0 _ rfl (by omega) (by omega) (by omega) hi
      refine wp_iload_n hC dX1_tighten_13 rfl ?_
      refine wp_bipush hC dX1_tighten_14 rfl ?_
      refine wp_icmp_ge (tgt := 117) hC dX1_tighten_16 (by decide) (by omega) (by omega) (fun c_16 => ?_) (fun c_16 => ?_)
      · exact hret _ _ _ (by rw [show (2197 : Int) = q by omega]; exact hi) dX1_tighten_117
      · refine wp_iconst hC dX1_tighten_19 ?_
        refine wp_istore (lv2 := [(0, _), (1, _), (2, _), (3, _), (4, _)]) hC dX1_tighten_20 rfl (by decide) ?_
        exact L22 _ _ 0 _ rfl (by omega) (by omega) (by omega) hi
  refine wp_aload_n hC dX1_tighten_0 rfl ?_
  refine wp_geta (k := 2) hC (rfl) (by decide) (rfl) (rfl) (by decide) uX1_tighten_X1 fX1_tighten_18 (rfl) dX1_tighten_1 ?_
  refine wp_ldc (n := 1073741824) hC dX1_tighten_4 (by decide +kernel) ?_
  refine wp_callSu (As := [_, _]) hC (c_J7_fill_53178 hG σ 97 (v := 1073741824) (by decide) rfl (by decide)) gX1_tighten_J7_fill_53178 rfl ⟨rfl, rfl⟩ ⟨by decide, by decide⟩ hySJ7_fill_53178 rfl (Nat.le_of_ble_eq_true rfl) dX1_tighten_6 ?_
  refine wp_iconst hC dX1_tighten_9 ?_
  refine wp_istore_n (lv2 := [(0, _), (1, _), (2, _)]) hC dX1_tighten_10 rfl (by decide) ?_
  refine wp_iconst hC dX1_tighten_11 ?_
  refine wp_istore_n (lv2 := [(0, _), (1, _), (2, _), (3, _)]) hC dX1_tighten_12 rfl (by decide) ?_
  exact L13 _ 0 0 _ rfl rfl (by omega) ⟨fun a b x => by unfold FIL; rw [if_neg (fun z => x z.1)], fun p x y => ⟨fun j z w => by omega, Or.inl (by unfold FIL; exact if_pos ⟨rfl, x, y⟩)⟩⟩

/-- what a set's picked ones of a group take -/
def TKj (σ τ : St) (w g j : Int) : Int := sm (fun t => if tb w t = true ∧ σ 87 (τ 95 t) = g then σ 84 (τ 95 t) else 0) j
def TAj (σ τ : St) (w j : Int) : St := fun a b => if a = 99 ∧ 0 ≤ b ∧ b < 4 then TKj σ τ w b j else τ a b
theorem TA_o {σ τ : St} {w j : Int} {a : Nat} {b : Int} (h : a ≠ 99) : TAj σ τ w j a b = τ a b := if_neg (fun z => h z.1)
theorem TA_0 {σ τ : St} {w : Int} : FIL τ 99 ((ln 99 : Nat) : Int) 0 = TAj σ τ w 0 := by
  funext a b
  unfold FIL TAj
  by_cases z : a = 99 ∧ 0 ≤ b ∧ b < 4
  · rw [if_pos (show a = 99 ∧ 0 ≤ b ∧ b < ((ln 99 : Nat) : Int) from z), if_pos z]; rfl
  · rw [if_neg (show ¬ (a = 99 ∧ 0 ≤ b ∧ b < ((ln 99 : Nat) : Int)) from z), if_neg z]
theorem TA_n {σ τ : St} {w j : Int} (h0 : 0 ≤ j) (hn : ¬ tb w j = true) : TAj σ τ w j = TAj σ τ w (j + 1) := by
  funext a b
  unfold TAj TKj
  rw [sm_s h0, if_neg (show ¬ (tb w j = true ∧ σ 87 (τ 95 j) = b) from fun z => hn z.1), Int.add_zero]
theorem TA_y {σ τ : St} {w j g : Int} (h0 : 0 ≤ j) (hy : tb w j = true) (hg : σ 87 (τ 95 j) = g) (hgr : 0 ≤ g ∧ g < 4) : put (TAj σ τ w j) 99 g (TKj σ τ w g j + σ 84 (τ 95 j)) = TAj σ τ w (j + 1) := by
  funext a b
  by_cases z : a = 99 ∧ b = g
  · rw [z.1, z.2, put_s]
    unfold TAj
    rw [if_pos ⟨rfl, hgr⟩]
    unfold TKj
    rw [sm_s h0, if_pos ⟨hy, hg⟩]
  · rw [put_q z]
    unfold TAj
    by_cases y : a = 99 ∧ 0 ≤ b ∧ b < 4
    · rw [if_pos y, if_pos y]
      unfold TKj
      rw [sm_s h0, if_neg (show ¬ (tb w j = true ∧ σ 87 (τ 95 j) = b) from fun x => z ⟨y.1, x.2.symm.trans hg⟩), Int.add_zero]
    · rw [if_neg y, if_neg y]
theorem TKj_rg {σ τ : St} {w g j : Int} (h0 : 0 ≤ j) (ha : ∀ t, 0 ≤ t → t < j → 0 ≤ σ 84 (τ 95 t) ∧ σ 84 (τ 95 t) ≤ 60) : 0 ≤ TKj σ τ w g j ∧ TKj σ τ w g j ≤ j * 60 :=
  ⟨sm_nn (fun k x y => by have := ha k x y; split <;> omega), sm_ub h0 (fun k x y => by have := ha k x y; split <;> omega)⟩
theorem SWj_rg {σ τ : St} {w j : Int} (h0 : 0 ≤ j) (ha : ∀ t, 0 ≤ t → t < j → 0 ≤ σ 84 (τ 95 t) ∧ σ 84 (τ 95 t) ≤ 60) : 0 ≤ SWj σ τ w j ∧ SWj σ τ w j ≤ j * 60 :=
  ⟨sm_nn (fun k x y => by have := ha k x y; split <;> omega), sm_ub h0 (fun k x y => by have := ha k x y; split <;> omega)⟩
/-- what picks and their orders are, to be used in a state -/
def PKU (σ τ : St) (s : Int) : Prop := (0 ≤ s ∧ s ≤ 8) ∧ τ 94 5 = s ∧ τ 84 = σ 84 ∧ τ 87 = σ 87 ∧ ∀ t, 0 ≤ t → t < s → (0 ≤ τ 95 t ∧ τ 95 t < 24) ∧ (0 ≤ σ 84 (τ 95 t) ∧ σ 84 (τ 95 t) ≤ 60) ∧ (0 ≤ σ 87 (τ 95 t) ∧ σ 87 (τ 95 t) ≤ 3)
def HRM (σ τ : St) (s w : Int) : Prop := ∀ g, 0 ≤ g → g < 4 → 0 < TKj σ τ w g s → TKj σ τ w g s ≤ τ 105 g

theorem hyVX1_haveRoom : yX1_haveRoom.cls = RX1 ∧ yX1_haveRoom.cls ≠ "java/lang/invoke/MethodHandle" ∧ yX1_haveRoom.cls ≠ "java/lang/invoke/VarHandle" ∧ (parseMethodDescriptor yX1_haveRoom.desc).map (fun d => d.parameters.length) = some 3 := by decide +kernel
theorem uX1_haveRoom_X1 : ∀ w ∈ u_ws RX1 TX1 7, w ∈ wsX1_haveRoom := by decide +kernel
theorem fX1_haveRoom_24 : Cond.fieldLink RX1 24 (TX1 4).1 (TX1 4).2.1 (TX1 4).2.2.1 ∈ wsX1_haveRoom := by decide +kernel
theorem fX1_haveRoom_27 : Cond.fieldLink RX1 27 (TX1 5).1 (TX1 5).2.1 (TX1 5).2.2.1 ∈ wsX1_haveRoom := by decide +kernel
theorem uX1_haveRoom_X0 : ∀ w ∈ u_ws RX0 TX0 6, w ∈ wsX1_haveRoom := by decide +kernel
theorem fnX1_82 : Cond.fieldLinkNest RX1 82 (TX0 3).1 (TX0 3).2.1 (TX0 3).2.2.1 "PromiseMind" ∈ tables_1 := List.mem_of_getElem? (i := 51) (by decide +kernel)
theorem fX1_haveRoom_9 : Cond.fieldLink RX1 9 (TX1 0).1 (TX1 0).2.1 (TX1 0).2.2.1 ∈ wsX1_haveRoom := by decide +kernel
set_option maxHeartbeats 16000000 in
set_option maxRecDepth 100000 in
theorem c_X1_haveRoom {l : Launch} {G : Gy} (hG : Inj G) (σ τ : St) {s9 w : Int} (hp : PKU σ τ s9) (hw : 0 ≤ w ∧ w ≤ 256) (hr : ∀ g, 0 ≤ g → g < 4 → iR (τ 105 g)) : MI l yX1_haveRoom wsX1_haveRoom ({ frames := 1, cells := 0, slots := 0, locals := 23 } : Room) G [.ref (G.2.2 94), .ref (G.2.2 83), .ref (G.2.2 105), .int (zI (w))] τ (fun x τ2 => bP x (HRM σ τ s9 w) ∧ ∀ a b, a ≠ 99 → τ2 a b = τ a b) := by
  refine MI.of hG (by decide +kernel) rfl rfl (Nat.le_of_ble_eq_true rfl) rfl ?_
  intro p e s m args below meth c H0 Q hC hret
  obtain ⟨hs9, e5, e84, e87, hpk⟩ := hp
  have L70 : ∀ (n : Nat) (g : Int), ((4 - g).toNat) = n → (0 ≤ g ∧ g ≤ 4) → (∀ g1, 0 ≤ g1 → g1 < g → 0 < TKj σ τ w g1 s9 → TKj σ τ w g1 s9 ≤ τ 105 g1) → wp p l e ({ frames := 1, cells := 0, slots := 0, locals := 23 } : Room) s m args below meth c (aA G (Array.size H0)) H0 5 Q G (TAj σ τ w s9) 70 [(0, .ref (G.2.2 94)), (1, .ref (G.2.2 83)), (2, .ref (G.2.2 105)), (3, .int (zI (w))), (4, .int (zI (g)))] [] := by
    intro n70
    induction n70 using Nat.strongRecOn with
    | ind n70 ih =>
      intro g hm70 h1 h2
      have htk := TKj_rg (σ := σ) (τ := τ) (w := w) (g := g) hs9.1 (fun t a b => (hpk t a b).2.1)
      have hrg := fun z : g < 4 => hr g h1.1 z
      refine wp_iload hC dX1_haveRoom_70 rfl ?_
      refine wp_iconst hC dX1_haveRoom_72 ?_
      refine wp_icmp_ge (tgt := 108) hC dX1_haveRoom_73 (by decide) (by omega) (by omega) (fun c_73 => ?_) (fun c_73 => ?_)
      · refine wp_iconst hC dX1_haveRoom_108 ?_
        exact hret _ _ _ _ (by omega) rfl (⟨Or.inl ⟨rfl, fun g1 a b z => h2 g1 a (by omega) z⟩, fun a b x => TA_o x⟩) dX1_haveRoom_109
      · refine wp_aload_n hC dX1_haveRoom_76 rfl ?_
        refine wp_geta (k := 4) hC (rfl) (by decide) (rfl) (rfl) (by decide) uX1_haveRoom_X1 fX1_haveRoom_24 (rfl) dX1_haveRoom_77 ?_
        refine wp_iload hC dX1_haveRoom_80 rfl ?_
        refine wp_iald (n := 4) hC (rfl) (Nat.le_of_ble_eq_true rfl) (rfl) (by decide) (by omega) dX1_haveRoom_82 ?_
        refine wp_top (b := TKj σ τ w g s9) (if_pos ⟨rfl, by omega, by omega⟩) ?_
        refine wp_if_le (tgt := 102) hC dX1_haveRoom_83 (by decide) (by omega) (fun c_83 => ?_) (fun c_83 => ?_)
        · refine wp_iinc (lv2 := [(0, _), (1, _), (2, _), (3, _), (4, _)]) hC dX1_haveRoom_102 rfl rfl (by decide) ?_
          refine wp_goto (tgt := 70) hC dX1_haveRoom_105 (by decide) ?_
          exact ih _ (by omega) _ rfl (by omega) (fun g1 a b z => by
            rcases Int.lt_or_le g1 g with y | y
            · exact h2 g1 a y z
            · have e : g1 = g := by omega
              subst e
              omega)
        · refine wp_aload_n hC dX1_haveRoom_86 rfl ?_
          refine wp_geta (k := 4) hC (rfl) (by decide) (rfl) (rfl) (by decide) uX1_haveRoom_X1 fX1_haveRoom_24 (rfl) dX1_haveRoom_87 ?_
          refine wp_iload hC dX1_haveRoom_90 rfl ?_
          refine wp_iald (n := 4) hC (rfl) (Nat.le_of_ble_eq_true rfl) (rfl) (by decide) (by omega) dX1_haveRoom_92 ?_
          refine wp_top (b := TKj σ τ w g s9) (if_pos ⟨rfl, by omega, by omega⟩) ?_
          refine wp_aload_n hC dX1_haveRoom_93 rfl ?_
          refine wp_iload hC dX1_haveRoom_94 rfl ?_
          refine wp_iald (n := 4) hC (rfl) (Nat.le_of_ble_eq_true rfl) (rfl) (by decide) (by omega) dX1_haveRoom_96 ?_
          refine wp_top (b := τ 105 g) (TA_o (by decide)) ?_
          have hrg2 := hrg (by omega)
          refine wp_icmp_le (tgt := 102) hC dX1_haveRoom_97 (by decide) (by omega) (by omega) (fun c_97 => ?_) (fun c_97 => ?_)
          · refine wp_iinc (lv2 := [(0, _), (1, _), (2, _), (3, _), (4, _)]) hC dX1_haveRoom_102 rfl rfl (by decide) ?_
            refine wp_goto (tgt := 70) hC dX1_haveRoom_105 (by decide) ?_
            exact ih _ (by omega) _ rfl (by omega) (fun g1 a b z => by
              rcases Int.lt_or_le g1 g with y | y
              · exact h2 g1 a y z
              · have e : g1 = g := by omega
                subst e
                omega)
          · refine wp_iconst hC dX1_haveRoom_100 ?_
            exact hret _ _ _ _ (by omega) rfl (⟨Or.inr ⟨rfl, fun z => by have := z g (by omega) (by omega) (by omega); omega⟩, fun a b x => TA_o x⟩) dX1_haveRoom_101
  have L11 : ∀ (n : Nat) (j : Int), ((s9 - j).toNat) = n → (0 ≤ j ∧ j ≤ s9) → wp p l e ({ frames := 1, cells := 0, slots := 0, locals := 23 } : Room) s m args below meth c (aA G (Array.size H0)) H0 5 Q G (TAj σ τ w j) 11 [(0, .ref (G.2.2 94)), (1, .ref (G.2.2 83)), (2, .ref (G.2.2 105)), (3, .int (zI (w))), (4, .int (zI (j)))] [] := by
    intro n11
    induction n11 using Nat.strongRecOn with
    | ind n11 ih =>
      intro j hm11 h1
      have hpj := fun z : j < s9 => hpk j h1.1 z
      refine wp_iload hC dX1_haveRoom_11 rfl ?_
      refine wp_aload_n hC dX1_haveRoom_13 rfl ?_
      refine wp_geti (k := 5) (z := 5) hC rfl (rfl) (by decide) (rfl) (rfl) (by decide) uX1_haveRoom_X1 fX1_haveRoom_27 (rfl) dX1_haveRoom_14 ?_
      refine wp_top (b := s9) ((TA_o (by decide)).trans e5) ?_
      refine wp_icmp_ge (tgt := 67) hC dX1_haveRoom_17 (by decide) (by omega) (by omega) (fun c_17 => ?_) (fun c_17 => ?_)
      · refine wp_st (σ2 := TAj σ τ w s9) (by rw [show j = s9 by omega]) ?_
        refine wp_iconst hC dX1_haveRoom_67 ?_
        refine wp_istore (lv2 := [(0, _), (1, _), (2, _), (3, _), (4, _)]) hC dX1_haveRoom_68 rfl (by decide) ?_
        exact L70 _ 0 rfl (by omega) (fun g1 a b => by omega)
      · refine wp_iload_n hC dX1_haveRoom_20 rfl ?_
        refine wp_iload hC dX1_haveRoom_21 rfl ?_
        refine wp_ishr hC dX1_haveRoom_23 ?_
        refine wp_iconst hC dX1_haveRoom_24 ?_
        refine wp_iand hC dX1_haveRoom_25 ?_
        refine wp_top (b := bI (tb w j = true)) (bit_at (by omega) (by omega) (by omega) (by omega)) ?_
        refine wp_ifb_eq (tgt := 61) hC dX1_haveRoom_26 (by decide) (fun c_26 => ?_) (fun c_26 => ?_)
        · refine wp_iinc (lv2 := [(0, _), (1, _), (2, _), (3, _), (4, _)]) hC dX1_haveRoom_61 rfl rfl (by decide) ?_
          refine wp_goto (tgt := 11) hC dX1_haveRoom_64 (by decide) ?_
          refine wp_st (TA_n h1.1 c_26) ?_
          exact ih _ (by omega) _ rfl (by omega)
        · have hpj2 := hpj (by omega)
          refine wp_aload_n hC dX1_haveRoom_29 rfl ?_
          refine wp_geta (k := 4) hC (rfl) (by decide) (rfl) (rfl) (by decide) uX1_haveRoom_X1 fX1_haveRoom_24 (rfl) dX1_haveRoom_30 ?_
          refine wp_aload_n hC dX1_haveRoom_33 rfl ?_
          refine wp_getaN (k := 3) hC (rfl) (by decide) (rfl) (rfl) (by decide) uX1_haveRoom_X0 fnX1_82 (rfl) dX1_haveRoom_34 ?_
          refine wp_aload_n hC dX1_haveRoom_37 rfl ?_
          refine wp_geta (k := 0) hC (rfl) (by decide) (rfl) (rfl) (by decide) uX1_haveRoom_X1 fX1_haveRoom_9 (rfl) dX1_haveRoom_38 ?_
          refine wp_iload hC dX1_haveRoom_41 rfl ?_
          refine wp_iald (n := 8) hC (rfl) (Nat.le_of_ble_eq_true rfl) (rfl) (by decide) (by omega) dX1_haveRoom_43 ?_
          refine wp_top (b := τ 95 j) (TA_o (by decide)) ?_
          refine wp_iald (n := 24) hC (rfl) (Nat.le_of_ble_eq_true rfl) (rfl) (by decide) (by omega) dX1_haveRoom_44 ?_
          refine wp_top (b := σ 87 (τ 95 j)) ((TA_o (by decide)).trans (by rw [e87])) ?_
          refine wp_dup2 hC dX1_haveRoom_45 rfl rfl ?_
          refine wp_iald (n := 4) hC (rfl) (Nat.le_of_ble_eq_true rfl) (rfl) (by decide) (by omega) dX1_haveRoom_46 ?_
          refine wp_top (b := TKj σ τ w (σ 87 (τ 95 j)) j) (if_pos ⟨rfl, by omega, by omega⟩) ?_
          refine wp_aload_n hC dX1_haveRoom_47 rfl ?_
          refine wp_getaN (k := 0) hC (rfl) (by decide) (rfl) (rfl) (by decide) uX1_haveRoom_X0 fnX1_56 (rfl) dX1_haveRoom_48 ?_
          refine wp_aload_n hC dX1_haveRoom_51 rfl ?_
          refine wp_geta (k := 0) hC (rfl) (by decide) (rfl) (rfl) (by decide) uX1_haveRoom_X1 fX1_haveRoom_9 (rfl) dX1_haveRoom_52 ?_
          refine wp_iload hC dX1_haveRoom_55 rfl ?_
          refine wp_iald (n := 8) hC (rfl) (Nat.le_of_ble_eq_true rfl) (rfl) (by decide) (by omega) dX1_haveRoom_57 ?_
          refine wp_top (b := τ 95 j) (TA_o (by decide)) ?_
          refine wp_iald (n := 24) hC (rfl) (Nat.le_of_ble_eq_true rfl) (rfl) (by decide) (by omega) dX1_haveRoom_58 ?_
          refine wp_top (b := σ 84 (τ 95 j)) ((TA_o (by decide)).trans (by rw [e84])) ?_
          refine wp_iadd hC dX1_haveRoom_59 ?_
          refine wp_iast (n := 4) hC (rfl) (Nat.le_of_ble_eq_true rfl) (rfl) (by decide) (by omega) dX1_haveRoom_60 ?_
          refine wp_iinc (lv2 := [(0, _), (1, _), (2, _), (3, _), (4, _)]) hC dX1_haveRoom_61 rfl rfl (by decide) ?_
          refine wp_goto (tgt := 11) hC dX1_haveRoom_64 (by decide) ?_
          refine wp_st (TA_y h1.1 c_26 rfl (by omega)) ?_
          exact ih _ (by omega) _ rfl (by omega)
  refine wp_aload_n hC dX1_haveRoom_0 rfl ?_
  refine wp_geta (k := 4) hC (rfl) (by decide) (rfl) (rfl) (by decide) uX1_haveRoom_X1 fX1_haveRoom_24 (rfl) dX1_haveRoom_1 ?_
  refine wp_iconst hC dX1_haveRoom_4 ?_
  refine wp_callSu (As := [_, _]) hC (c_J7_fill_53178 hG τ 99 (v := 0) (by decide) rfl (by decide)) gX1_haveRoom_J7_fill_53178 rfl ⟨rfl, rfl⟩ ⟨by decide, by decide⟩ hySJ7_fill_53178 rfl (Nat.le_of_ble_eq_true rfl) dX1_haveRoom_5 ?_
  refine wp_iconst hC dX1_haveRoom_8 ?_
  refine wp_istore (lv2 := [(0, _), (1, _), (2, _), (3, _), (4, _)]) hC dX1_haveRoom_9 rfl (by decide) ?_
  refine wp_st (TA_0 (σ := σ) (w := w)) ?_
  exact L11 _ 0 rfl (by omega)

theorem hyVX1_areMet : yX1_areMet.cls = RX1 ∧ yX1_areMet.cls ≠ "java/lang/invoke/MethodHandle" ∧ yX1_areMet.cls ≠ "java/lang/invoke/VarHandle" ∧ (parseMethodDescriptor yX1_areMet.desc).map (fun d => d.parameters.length) = some 1 := by decide +kernel
theorem uX1_areMet_X1 : ∀ w ∈ u_ws RX1 TX1 7, w ∈ wsX1_areMet := by decide +kernel
theorem fX1_areMet_15 : Cond.fieldLink RX1 15 (TX1 1).1 (TX1 1).2.1 (TX1 1).2.2.1 ∈ wsX1_areMet := by decide +kernel
theorem fX1_areMet_18 : Cond.fieldLink RX1 18 (TX1 2).1 (TX1 2).2.1 (TX1 2).2.2.1 ∈ wsX1_areMet := by decide +kernel
set_option maxHeartbeats 4000000 in
set_option maxRecDepth 100000 in
theorem c_X1_areMet {l : Launch} {G : Gy} (hG : Inj G) (σ : St) {w : Int} (hw : 0 ≤ w ∧ w ≤ 255) (h6 : ∀ k, 0 ≤ k → k < 256 → iR (σ 96 k)) (h7 : ∀ k, 0 ≤ k → k < 256 → iR (σ 97 k)) : MP l yX1_areMet wsX1_areMet ({ frames := 0, cells := 0, slots := 0, locals := 0 } : Room) G [.ref (G.2.2 94), .int (zI (w))] σ (fun x => bP x (∀ p, 0 ≤ p → p < 256 → σ 96 (iand w p) ≤ σ 97 p)) := by
  refine MI.of hG (by decide +kernel) rfl rfl (Nat.le_of_ble_eq_true rfl) rfl ?_
  intro p e s m args below meth c H0 Q hC hret
  have L2 : ∀ (n : Nat) (k : Int), ((256 - k).toNat) = n → (0 ≤ k ∧ k ≤ 256) → (∀ p, 0 ≤ p → p < k → σ 96 (iand w p) ≤ σ 97 p) → wp p l e ({ frames := 0, cells := 0, slots := 0, locals := 0 } : Room) s m args below meth c (aA G (Array.size H0)) H0 3 Q G σ 2 [(0, .ref (G.2.2 94)), (1, .int (zI (w))), (2, .int (zI (k)))] [] := by
    intro n2
    induction n2 using Nat.strongRecOn with
    | ind n2 ih =>
      intro k hm2 h1 h2
      have hia := fun z : k < 256 => iand_le (a := w) (b := k) hw.1 h1.1 (by omega) (by omega)
      have h6k := fun z : k < 256 => h6 (iand w k) (hia z).1 (by have := (hia z).2; omega)
      have h7k := fun z : k < 256 => h7 k h1.1 z
      refine wp_iload_n hC dX1_areMet_2 rfl ?_
      refine wp_sipush hC dX1_areMet_3 rfl ?_
      refine wp_icmp_ge (tgt := 34) hC dX1_areMet_6 (by decide) (by omega) (by omega) (fun c_6 => ?_) (fun c_6 => ?_)
      · refine wp_iconst hC dX1_areMet_34 ?_
        exact hret _ _ _ _ (by omega) rfl (⟨Or.inl ⟨rfl, fun p1 a b => h2 p1 a (by omega)⟩, rfl⟩) dX1_areMet_35
      · have hia2 := hia (by omega)
        have h6k2 := h6k (by omega)
        have h7k2 := h7k (by omega)
        refine wp_aload_n hC dX1_areMet_9 rfl ?_
        refine wp_geta (k := 1) hC (rfl) (by decide) (rfl) (rfl) (by decide) uX1_areMet_X1 fX1_areMet_15 (rfl) dX1_areMet_10 ?_
        refine wp_iload_n hC dX1_areMet_13 rfl ?_
        refine wp_iload_n hC dX1_areMet_14 rfl ?_
        refine wp_iand hC dX1_areMet_15 ?_
        refine wp_top (b := iand w k) rfl ?_
        refine wp_iald (n := 256) hC (rfl) (Nat.le_of_ble_eq_true rfl) (rfl) (by decide) (by omega) dX1_areMet_16 ?_
        refine wp_top (b := σ 96 (iand w k)) rfl ?_
        refine wp_aload_n hC dX1_areMet_17 rfl ?_
        refine wp_geta (k := 2) hC (rfl) (by decide) (rfl) (rfl) (by decide) uX1_areMet_X1 fX1_areMet_18 (rfl) dX1_areMet_18 ?_
        refine wp_iload_n hC dX1_areMet_21 rfl ?_
        refine wp_iald (n := 256) hC (rfl) (Nat.le_of_ble_eq_true rfl) (rfl) (by decide) (by omega) dX1_areMet_22 ?_
        refine wp_top (b := σ 97 k) rfl ?_
        refine wp_icmp_le (tgt := 28) hC dX1_areMet_23 (by decide) (by omega) (by omega) (fun c_23 => ?_) (fun c_23 => ?_)
        · refine wp_iinc (lv2 := [(0, _), (1, _), (2, _)]) hC dX1_areMet_28 rfl rfl (by decide) ?_
          refine wp_goto (tgt := 2) hC dX1_areMet_31 (by decide) ?_
          exact ih _ (by omega) _ rfl (by omega) (fun p1 a b => by
            rcases Int.lt_or_le p1 k with y | y
            · exact h2 p1 a y
            · have e : p1 = k := by omega
              subst e
              omega)
        · refine wp_iconst hC dX1_areMet_26 ?_
          exact hret _ _ _ _ (by omega) rfl (⟨Or.inr ⟨rfl, fun z => by have := z k h1.1 (by omega); omega⟩, rfl⟩) dX1_areMet_27
  refine wp_iconst hC dX1_areMet_0 ?_
  refine wp_istore_n (lv2 := [(0, _), (1, _), (2, _)]) hC dX1_areMet_1 rfl (by decide) ?_
  exact L2 _ 0 rfl (by omega) (fun p1 a b => by omega)

def CSK (σ τ : St) (s k : Int) : Prop := HRM σ τ s k ∧ ∀ p, 0 ≤ p → p < 256 → τ 96 (iand k p) ≤ τ 97 p
theorem HRM_c {σ τ τ' : St} {s w : Int} (h : ∀ a b, a ≠ 99 → ¬ (a = 94 ∧ b = 6) → τ' a b = τ a b) : HRM σ τ' s w ↔ HRM σ τ s w := by
  have e95 : τ' 95 = τ 95 := funext fun b => h 95 b (by decide) (by omega)
  have e105 : τ' 105 = τ 105 := funext fun b => h 105 b (by decide) (by omega)
  unfold HRM TKj
  rw [e95, e105]
theorem PKU_c {σ τ τ' : St} {s : Int} (hp : PKU σ τ s) (h : ∀ a b, a ≠ 99 → ¬ (a = 94 ∧ b = 6) → τ' a b = τ a b) : PKU σ τ' s := by
  obtain ⟨h1, h2, h3, h4, h5⟩ := hp
  have e95 : τ' 95 = τ 95 := funext fun b => h 95 b (by decide) (by omega)
  unfold PKU
  rw [e95]
  exact ⟨h1, (h 94 5 (by decide) (by omega)).trans h2, (funext fun b => h 84 b (by decide) (by omega)).trans h3, (funext fun b => h 87 b (by decide) (by omega)).trans h4, h5⟩

theorem hyVX1_seek : yX1_seek.cls = RX1 ∧ yX1_seek.cls ≠ "java/lang/invoke/MethodHandle" ∧ yX1_seek.cls ≠ "java/lang/invoke/VarHandle" ∧ (parseMethodDescriptor yX1_seek.desc).map (fun d => d.parameters.length) = some 2 := by decide +kernel
theorem uX1_seek_X1 : ∀ w ∈ u_ws RX1 TX1 7, w ∈ wsX1_seek := by decide +kernel
theorem fX1_seek_27 : Cond.fieldLink RX1 27 (TX1 5).1 (TX1 5).2.1 (TX1 5).2.2.1 ∈ wsX1_seek := by decide +kernel
theorem fX1_seek_15 : Cond.fieldLink RX1 15 (TX1 1).1 (TX1 1).2.1 (TX1 1).2.2.1 ∈ wsX1_seek := by decide +kernel
theorem fX1_seek_71 : Cond.fieldLink RX1 71 (TX1 6).1 (TX1 6).2.1 (TX1 6).2.2.1 ∈ wsX1_seek := by decide +kernel
set_option maxHeartbeats 16000000 in
set_option maxRecDepth 100000 in
theorem c_X1_seek {l : Launch} {G : Gy} (hG : Inj G) (σ τ : St) {s9 : Int} (hp : PKU σ τ s9) (h0 : τ 96 0 = 0) (hr : ∀ g, 0 ≤ g → g < 4 → iR (τ 105 g)) (h6 : ∀ k, 0 ≤ k → k < 256 → iR (τ 96 k)) (h7 : ∀ k, 0 ≤ k → k < 256 → iR (τ 97 k)) : MV l yX1_seek wsX1_seek ({ frames := 2, cells := 0, slots := 0, locals := 47 } : Room) G [.ref (G.2.2 94), .ref (G.2.2 83), .ref (G.2.2 105)] τ (fun τ2 => (∀ a b, a ≠ 99 → ¬ (a = 94 ∧ b = 6) → τ2 a b = τ a b) ∧ (0 ≤ τ2 94 6 ∧ τ2 94 6 < 256) ∧ FB (CSK σ τ s9) (τ 96) (pw s9) (τ2 94 6) (τ 96 (τ2 94 6))) := by
  refine MV.of hG (by decide +kernel) rfl rfl (Nat.le_of_ble_eq_true rfl) rfl ?_
  intro p e s m args below meth c H0 Q hC hret
  have hs9 := hp.1
  have hpw : pw s9 ≤ pw 8 := pw_le hs9.2
  have h8 : pw 8 = 256 := by decide
  have hpp := pw_pos s9
  have hp1 : pw s9 = 1 ∨ 2 ≤ pw s9 := by omega
  have L7 : ∀ (n : Nat) (k : Int) (ρ : St), ((pw s9 - k).toNat) = n → (1 ≤ k ∧ k ≤ pw s9) → (∀ a b, a ≠ 99 → ¬ (a = 94 ∧ b = 6) → ρ a b = τ a b) → (0 ≤ ρ 94 6 ∧ ρ 94 6 < 256) → (FB (CSK σ τ s9) (τ 96) k (ρ 94 6) (τ 96 (ρ 94 6))) → wp p l e ({ frames := 2, cells := 0, slots := 0, locals := 47 } : Room) s m args below meth c (aA G (Array.size H0)) H0 4 Q G ρ 7 [(0, .ref (G.2.2 94)), (1, .ref (G.2.2 83)), (2, .ref (G.2.2 105)), (3, .int (zI (k)))] [] := by
    intro n7
    induction n7 using Nat.strongRecOn with
    | ind n7 ih =>
      intro k ρ hm7 h1 he hb hf
      have e5 : ρ 94 5 = s9 := (he 94 5 (by decide) (by omega)).trans hp.2.1
      have e96 : ρ 96 = τ 96 := funext fun b => he 96 b (by decide) (by omega)
      have e97 : ρ 97 = τ 97 := funext fun b => he 97 b (by decide) (by omega)
      have e105 : ρ 105 = τ 105 := funext fun b => he 105 b (by decide) (by omega)
      have hkk := fun z : k < pw s9 => h6 k (by omega) (by omega)
      have hbb := h6 (ρ 94 6) hb.1 hb.2
      have hpR := PKU_c hp he
      refine wp_iload_n hC dX1_seek_7 rfl ?_
      refine wp_iconst hC dX1_seek_8 ?_
      refine wp_aload_n hC dX1_seek_9 rfl ?_
      refine wp_geti (k := 5) (z := 5) hC rfl (rfl) (by decide) (rfl) (rfl) (by decide) uX1_seek_X1 fX1_seek_27 (rfl) dX1_seek_10 ?_
      refine wp_top (b := s9) e5 ?_
      refine wp_ishl hC dX1_seek_13 ?_
      refine wp_top (b := pw s9) (ishl_1 (by omega) (by omega)) ?_
      refine wp_icmp_ge (tgt := 64) hC dX1_seek_14 (by decide) (by omega) (by omega) (fun c_14 => ?_) (fun c_14 => ?_)
      · exact hret _ _ _ (⟨he, hb, by rw [show pw s9 = k by omega]; exact hf⟩) dX1_seek_64
      · refine wp_aload_n hC dX1_seek_17 rfl ?_
        refine wp_geta (k := 1) hC (rfl) (by decide) (rfl) (rfl) (by decide) uX1_seek_X1 fX1_seek_15 (rfl) dX1_seek_18 ?_
        refine wp_iload_n hC dX1_seek_21 rfl ?_
        refine wp_iald (n := 256) hC (rfl) (Nat.le_of_ble_eq_true rfl) (rfl) (by decide) (by omega) dX1_seek_22 ?_
        refine wp_top (b := τ 96 k) (by rw [e96]) ?_
        have hkk2 := hkk (by omega)
        refine wp_aload_n hC dX1_seek_23 rfl ?_
        refine wp_geta (k := 1) hC (rfl) (by decide) (rfl) (rfl) (by decide) uX1_seek_X1 fX1_seek_15 (rfl) dX1_seek_24 ?_
        refine wp_aload_n hC dX1_seek_27 rfl ?_
        refine wp_geti (k := 6) (z := 6) hC rfl (rfl) (by decide) (rfl) (rfl) (by decide) uX1_seek_X1 fX1_seek_71 (rfl) dX1_seek_28 ?_
        refine wp_iald (n := 256) hC (rfl) (Nat.le_of_ble_eq_true rfl) (rfl) (by decide) (by omega) dX1_seek_31 ?_
        refine wp_top (b := τ 96 (ρ 94 6)) (by rw [e96]) ?_
        refine wp_icmp_le (tgt := 58) hC dX1_seek_32 (by decide) (by omega) (by omega) (fun c_32 => ?_) (fun c_32 => ?_)
        · refine wp_iinc (lv2 := [(0, _), (1, _), (2, _), (3, _)]) hC dX1_seek_58 rfl rfl (by decide) ?_
          refine wp_goto (tgt := 7) hC dX1_seek_61 (by decide) ?_
          exact ih _ (by omega) _ _ rfl (by omega) he hb (FB_no hf h1.1 (fun z => by have := z.2; omega))
        · refine wp_aload_n hC dX1_seek_35 rfl ?_
          refine wp_aload_n hC dX1_seek_36 rfl ?_
          refine wp_aload_n hC dX1_seek_37 rfl ?_
          refine wp_iload_n hC dX1_seek_38 rfl ?_
          refine wp_callVi (As := [_, _, _]) hC (c_X1_haveRoom hG σ ρ (s9 := s9) (w := k) hpR (by omega) (by rw [e105]; exact hr)) gX1_seek_X1_haveRoom rfl ⟨rfl, rfl⟩ ⟨by decide, by decide⟩ hyVX1_haveRoom (rfl) (by decide) (rfl) rfl (Nat.le_of_ble_eq_true rfl) dX1_seek_39 (fun x_39 s_39 hx_39 hp_39 => ?_)
          obtain ⟨hb_39, hE⟩ := hp_39
          have he1 : ∀ a b, a ≠ 99 → ¬ (a = 94 ∧ b = 6) → s_39 a b = τ a b := fun a b x y => (hE a b x).trans (he a b x y)
          have e946 : s_39 94 6 = ρ 94 6 := hE 94 6 (by decide)
          have hb1 : 0 ≤ s_39 94 6 ∧ s_39 94 6 < 256 := by rw [e946]; exact hb
          have e961 : s_39 96 = τ 96 := funext fun b => he1 96 b (by decide) (by omega)
          have e971 : s_39 97 = τ 97 := funext fun b => he1 97 b (by decide) (by omega)
          refine wp_if_eq (tgt := 58) hC dX1_seek_42 (by decide) (bP_iR hb_39) (fun c_42 => ?_) (fun c_42 => ?_)
          · refine wp_iinc (lv2 := [(0, _), (1, _), (2, _), (3, _)]) hC dX1_seek_58 rfl rfl (by decide) ?_
            refine wp_goto (tgt := 7) hC dX1_seek_61 (by decide) ?_
            exact ih _ (by omega) _ _ rfl (by omega) he1 hb1 (by rw [e946]; exact FB_no hf h1.1 (fun z => bP_0 hb_39 (by omega) ((HRM_c he).mpr z.1.1)))
          · refine wp_aload_n hC dX1_seek_45 rfl ?_
            refine wp_iload_n hC dX1_seek_46 rfl ?_
            refine wp_callVp (As := [_]) hC (c_X1_areMet hG s_39 (w := k) (by omega) (by rw [e961]; exact h6) (by rw [e971]; exact h7)) gX1_seek_X1_areMet rfl ⟨rfl, rfl⟩ ⟨by decide, by decide⟩ hyVX1_areMet (rfl) (by decide) (rfl) rfl (Nat.le_of_ble_eq_true rfl) dX1_seek_47 (fun x_47 hx_47 hp_47 => ?_)
            have hb_47 := hp_47
            refine wp_if_eq (tgt := 58) hC dX1_seek_50 (by decide) (bP_iR hb_47) (fun c_50 => ?_) (fun c_50 => ?_)
            · refine wp_iinc (lv2 := [(0, _), (1, _), (2, _), (3, _)]) hC dX1_seek_58 rfl rfl (by decide) ?_
              refine wp_goto (tgt := 7) hC dX1_seek_61 (by decide) ?_
              exact ih _ (by omega) _ _ rfl (by omega) he1 hb1 (by rw [e946]; exact FB_no hf h1.1 (fun z => bP_0 hb_47 (by omega) (by rw [e961, e971]; exact z.1.2)))
            · refine wp_aload_n hC dX1_seek_53 rfl ?_
              refine wp_iload_n hC dX1_seek_54 rfl ?_
              refine wp_puti2 (k := 6) (z := 6) hC rfl (rfl) (by decide) (rfl) (rfl) (by decide) uX1_seek_X1 fX1_seek_71 tyX1 tyX1_ok nmX1 rfl rfl (rfl) dX1_seek_55 ?_
              refine wp_iinc (lv2 := [(0, _), (1, _), (2, _), (3, _)]) hC dX1_seek_58 rfl rfl (by decide) ?_
              refine wp_goto (tgt := 7) hC dX1_seek_61 (by decide) ?_
              exact ih _ (by omega) _ _ rfl (by omega) (fun a b x y => by rw [put_q y]; exact he1 a b x y) (by rw [put_s]; omega) (by rw [put_s]; exact FB_yes hf h1.1 ⟨(HRM_c he).mp (bP_1 hb_39 (by omega)), by have z := bP_1 hb_47 (by omega); rw [e961, e971] at z; exact z⟩ (by omega))
  refine wp_aload_n hC dX1_seek_0 rfl ?_
  refine wp_iconst hC dX1_seek_1 ?_
  refine wp_puti2 (k := 6) (z := 6) hC rfl (rfl) (by decide) (rfl) (rfl) (by decide) uX1_seek_X1 fX1_seek_71 tyX1 tyX1_ok nmX1 rfl rfl (rfl) dX1_seek_2 ?_
  refine wp_iconst hC dX1_seek_5 ?_
  refine wp_istore_n (lv2 := [(0, _), (1, _), (2, _), (3, _)]) hC dX1_seek_6 rfl (by decide) ?_
  exact L7 _ 1 _ rfl (by omega) (fun a b x y => put_q y) (by rw [put_s]; omega) (by rw [put_s, h0]; exact ⟨Or.inl ⟨rfl, rfl⟩, fun k a b => by omega, fun k a b => by omega⟩)
