theorem MEX_mono {σ : St} (h : XO σ) {P Q : Int → Bool} (hPQ : ∀ o, 0 ≤ o → o < σ 83 5 → P o = true → Q o = true) (hm : MEX σ Q) : MEX σ P := fun k a b => by
  have h1 := hm k a b
  have h2 : dm (σ 83 5) (σ 84) (σ 85) (σ 112) P (k / 169) (k / 13 % 13) (k % 13) ≤ dm (σ 83 5) (σ 84) (σ 85) (σ 112) Q (k / 169) (k / 13 % 13) (k % 13) := sm_le (fun o x y => by
    have ha := (h.2.2 o x y).2.2.1
    by_cases z : (P o && hSb (σ 85 o) (σ 112 o) (k / 169) (k / 13 % 13) (k % 13)) = true
    · have z2 := z
      rw [Bool.and_eq_true] at z2
      rw [if_pos z, if_pos (by rw [Bool.and_eq_true]; exact ⟨hPQ o x y z2.1, z2.2⟩)]
      exact Int.le_refl _
    · rw [if_neg z]
      split <;> omega)
  unfold LX LFT at h1 ⊢
  omega
def CANY (σ : St) (o : Int) (P : Int → Bool) : Prop := amS (σ 83 5) (σ 84) (σ 87) P (σ 87 o) ≤ σ 110 (σ 87 o) * sm (σ 109) 36 / 100 ∧ MEX σ P
noncomputable def KPX (σ : St) : Nat → Int → Bool := kf (σ 83 5) (σ 88) (kdX σ 0) (fun K o => CANY σ o (fun q => kdX σ 1 q || ins K o q))
noncomputable def PQ (σ : St) (t : Nat) : Int → Bool := fun q => kdX σ 1 q || KPX σ t q
/-- some of those asked are promised -/
def PX (σ : St) (K : Int → Bool) : St := fun a b => if a = 111 ∧ 0 ≤ b ∧ b < σ 83 5 ∧ K b = true then 1 else σ a b
theorem PX_o {σ : St} {K : Int → Bool} {a : Nat} {b : Int} (h : a ≠ 111) : PX σ K a b = σ a b := if_neg (fun z => h z.1)
theorem PX_0 {σ : St} {K : Int → Bool} (h : ∀ q, K q = false) : PX σ K = σ := by
  funext a b
  unfold PX
  rw [if_neg (fun z => by rw [h b] at z; exact Bool.noConfusion z.2.2.2)]
theorem PX_ins {σ : St} {K : Int → Bool} {o : Int} (ho : 0 ≤ o ∧ o < σ 83 5) : put (PX σ K) 111 o 1 = PX σ (ins K o) := by
  funext a b
  by_cases q : a = 111 ∧ b = o
  · rw [q.1, q.2, put_s]
    unfold PX ins
    rw [if_pos ⟨rfl, ho.1, ho.2, by rw [decide_eq_true rfl, Bool.or_true]⟩]
  · rw [put_q q]
    unfold PX ins
    by_cases w : a = 111 ∧ 0 ≤ b ∧ b < σ 83 5 ∧ K b = true
    · rw [if_pos w, if_pos ⟨w.1, w.2.1, w.2.2.1, by rw [w.2.2.2, Bool.true_or]⟩]
    · rw [if_neg w, if_neg (fun z => w ⟨z.1, z.2.1, z.2.2.1, by
        have z4 := z.2.2.2
        rw [decide_eq_false (fun e => q ⟨z.1, e⟩), Bool.or_false] at z4
        exact z4⟩)]
def PIN (σ ρ : St) (B : Int) (t : Nat) : Prop := EQ ρ (PX σ (KPX σ t)) ∧ B = bsum (PQ σ t) (σ 83 5) ∧ (∀ k, 0 ≤ k → k < 2197 → ρ 92 k = LX σ (PQ σ t) k) ∧ MEX σ (PQ σ t)
theorem PIN_c {σ ρ : St} {B : Int} {t u : Nat} (h : PIN σ ρ B t) (e : KPX σ u = KPX σ t) : PIN σ ρ B u := by
  unfold PIN PQ
  rw [e]
  exact h
theorem KPX_skip {σ : St} {t u : Nat} (htu : t ≤ u) (h : ∀ q, 0 ≤ q → q < σ 83 5 → kdX σ 0 q = true → ¬ ((t : Int) ≤ kap (σ 88) q ∧ kap (σ 88) q < u)) : KPX σ u = KPX σ t := by
  have := kf_skip (n := σ 83 5) (rk := σ 88) (cand := kdX σ 0) (ok := fun K o => CANY σ o (fun q => kdX σ 1 q || ins K o q)) (t := t) (u - t) (fun q a b w z => h q a b w ⟨z.1, by omega⟩)
  rw [show t + (u - t) = u by omega] at this
  exact this
theorem KPX_none {σ : St} (h : XO σ) (hm : ¬ MEX σ (kdX σ 1)) : ∀ (t : Nat) (q : Int), KPX σ t q = false
  | 0, _ => rfl
  | t + 1, q => by
    cases e : KPX σ (t + 1) q
    · rfl
    · unfold KPX at e
      rw [kf_s] at e
      rcases e with e | ⟨_, _, _, _, e⟩
      · have := KPX_none h hm t q
        unfold KPX at this
        rw [this] at e
        cases e
      · exact absurd (MEX_mono h (fun o _ _ z => by show (kdX σ 1 o || _) = true; rw [z, Bool.true_or]) e.2) hm
theorem PIN_x {σ ρ : St} {B : Int} {t : Nat} (h : XO σ) (hp : PIN σ ρ B t) : XO ρ := by
  have e : XO (PX σ (KPX σ t)) := by
    obtain ⟨h1, h2, h3⟩ := h
    refine ⟨h1, h2, fun o a b => ?_⟩
    have h4 := h3 o a b
    refine ⟨?_, h4.2⟩
    show 0 ≤ PX σ (KPX σ t) 111 o ∧ PX σ (KPX σ t) 111 o ≤ 2
    unfold PX
    split
    · omega
    · exact h4.1
  exact XO_E e (EQ_K hp.1)
/-- one more promised in turn: room and steps -/
theorem CANY_ins {σ : St} (hn : 0 ≤ σ 83 5 ∧ σ 83 5 ≤ 24) {P : Int → Bool} {o : Int} (ho : 0 ≤ o ∧ o < σ 83 5) (hg : 0 ≤ σ 87 o) (hp : P o = false) : amS (σ 83 5) (σ 84) (σ 87) (ins P o) (σ 87 o) = amS (σ 83 5) (σ 84) (σ 87) P (σ 87 o) + σ 84 o := sm_up ho (fun q _ _ => by
  by_cases z : q = o
  · subst z
    rw [if_pos rfl, hp, if_neg (show ¬ (false = true ∧ (σ 87 q < 0 ∨ σ 87 q = σ 87 q)) from fun w => Bool.noConfusion w.1), Int.zero_add]
    unfold ins
    rw [decide_eq_true rfl, Bool.or_true, if_pos ⟨rfl, Or.inr rfl⟩]
  · rw [if_neg z]
    unfold ins
    rw [decide_eq_false z, Bool.or_false])
theorem amS_P {n g : Int} {am gr : Int → Int} {P P' : Int → Bool} (h : ∀ o, 0 ≤ o → o < n → P o = P' o) : amS n am gr P g = amS n am gr P' g := sm_c (fun o a b => by rw [h o a b])
theorem PQ_ins {σ : St} {K : Int → Bool} {o q : Int} : (kdX σ 1 q || ins K o q) = ins (fun q => kdX σ 1 q || K q) o q := by
  unfold ins
  rw [Bool.or_assoc]

theorem hyVX8_promiseAll : yX8_promiseAll.cls = RX8 ∧ yX8_promiseAll.cls ≠ "java/lang/invoke/MethodHandle" ∧ yX8_promiseAll.cls ≠ "java/lang/invoke/VarHandle" ∧ (parseMethodDescriptor yX8_promiseAll.desc).map (fun d => d.parameters.length) = some 0 := by decide +kernel
theorem uX8_promiseAll_X8 : ∀ w ∈ u_ws RX8 TX8 13, w ∈ wsX8_promiseAll := by decide +kernel
theorem fX8_promiseAll_12 : Cond.fieldLink RX8 12 (TX8 0).1 (TX8 0).2.1 (TX8 0).2.2.1 ∈ wsX8_promiseAll := by decide +kernel
theorem uX8_promiseAll_X0 : ∀ w ∈ u_ws RX0 TX0 6, w ∈ wsX8_promiseAll := by decide +kernel
theorem fX8_promiseAll_19 : Cond.fieldLink RX8 19 (TX8 1).1 (TX8 1).2.1 (TX8 1).2.2.1 ∈ wsX8_promiseAll := by decide +kernel
theorem uX8_promiseAll_X5 : ∀ w ∈ u_ws RX5 TX5 5, w ∈ wsX8_promiseAll := by decide +kernel
theorem fX8_promiseAll_43 : Cond.fieldLink RX8 43 (TX8 5).1 (TX8 5).2.1 (TX8 5).2.2.1 ∈ wsX8_promiseAll := by decide +kernel
set_option maxHeartbeats 16000000 in
set_option maxRecDepth 100000 in
theorem c_X8_promiseAll {l : Launch} {G : Gy} (hG : Inj G) (σ : St) (h : XO σ) (hL : XL σ) : MI l yX8_promiseAll wsX8_promiseAll ({ frames := 4, cells := 0, slots := 0, locals := 92 } : Room) G [.ref (G.2.2 82)] σ (fun x σ2 => x = pc (bsum (PQ σ 240) (σ 83 5)) - pc (TX σ 1) ∧ EQ σ2 (NCH (PX σ (KPX σ 240)))) := by
  refine MI.of hG (by decide +kernel) rfl rfl (Nat.le_of_ble_eq_true rfl) rfl ?_
  intro p e s m args below meth c H0 Q hC hret
  have hn := h.1
  have hTr : 0 ≤ TX σ 1 ∧ TX σ 1 ≤ 2147483647 := bsI (P := fun o => decide (σ 111 o = 1)) hn
  have hpr := pc_rng (TX σ 1)
  have hTQ : ∀ q, 0 ≤ q → q < σ 83 5 → tb (TX σ 1) q = kdX σ 1 q := fun q a b => by show tb (bsum (kdX σ 1) (σ 83 5)) q = _; rw [tb_bs hn.1 a, decide_eq_true b, Bool.true_and]
  have L22 : ∀ (n : Nat) (r B : Int) (ρ : St), ((r + 1).toNat) = n → (-1 ≤ r ∧ r ≤ 9) → (PIN σ ρ B (24 * (9 - r)).toNat) → wp p l e ({ frames := 4, cells := 0, slots := 0, locals := 92 } : Room) s m args below meth c (aA G (Array.size H0)) H0 5 Q G ρ 22 [(0, .ref (G.2.2 82)), (1, .int (zI (B))), (2, .int (zI (pc (TX σ 1)))), (3, .int (zI (r)))] [] := by
    intro n22
    induction n22 using Nat.strongRecOn with
    | ind n22 ih =>
      intro r B ρ hm22 h1 hi
      have hXr := PIN_x h hi
      have e83 : ρ 83 5 = σ 83 5 := by rw [EQ_h hi.1 (a := 83) (by omega)]; exact PX_o (by decide)
      have L29 : ∀ (n : Nat) (k B : Int) (ρ : St), ((σ 83 5 - k).toNat) = n → (0 ≤ r) → (0 ≤ k ∧ k ≤ σ 83 5) → (PIN σ ρ B (24 * (9 - r) + k).toNat) → wp p l e ({ frames := 4, cells := 0, slots := 0, locals := 92 } : Room) s m args below meth c (aA G (Array.size H0)) H0 5 Q G ρ 29 [(0, .ref (G.2.2 82)), (1, .int (zI (B))), (2, .int (zI (pc (TX σ 1)))), (3, .int (zI (r))), (4, .int (zI (k)))] [] := by
        intro n29
        induction n29 using Nat.strongRecOn with
        | ind n29 ih29 =>
          intro k B ρ hm29 h3 h2 hi2
          have hXr := PIN_x h hi2
          have hh : ∀ a : Nat, (83 ≤ a ∧ a ≤ 88) ∨ a = 109 ∨ a = 110 ∨ a = 112 → ρ a = σ a := fun a z => by rw [EQ_h hi2.1 (a := a) (by omega)]; funext b; exact PX_o (by omega)
          have e83 := hh 83 (by decide)
          have e84 := hh 84 (by decide)
          have e85 := hh 85 (by decide)
          have e87 := hh 87 (by decide)
          have e88 := hh 88 (by decide)
          have e109 := hh 109 (by decide)
          have e110 := hh 110 (by decide)
          have e112 := hh 112 (by decide)
          clear hh
          have hok := fun z : k < σ 83 5 => h.2.2 k h2.1 z
          have hB : 0 ≤ B ∧ B ≤ 2147483647 := by rw [hi2.2.1]; exact bsI hn
          have hlx : ∀ k, 0 ≤ k → k < 2197 → -1440 ≤ ρ 92 k ∧ ρ 92 k ≤ 3564 := fun k a b => by rw [hi2.2.2.1 k a b]; exact LX_rng h _ a b
          have hnx : ∀ (ρ' : St) (B' : Int), PIN σ ρ' B' ((24 * (9 - r) + k).toNat + 1) → PIN σ ρ' B' (24 * (9 - r) + (k + 1)).toNat := fun ρ' B' z => by rw [show (24 * (9 - r) + (k + 1)).toNat = (24 * (9 - r) + k).toNat + 1 by omega]; exact z
          refine wp_iload hC dX8_promiseAll_29 rfl ?_
          refine wp_aload_n hC dX8_promiseAll_31 rfl ?_
          refine wp_geta (k := 0) hC (rfl) (by decide) (rfl) (rfl) (by decide) uX8_promiseAll_X8 fX8_promiseAll_12 (rfl) dX8_promiseAll_32 ?_
          refine wp_getiN (k := 5) (z := 5) hC rfl (rfl) (by decide) (rfl) (rfl) (by decide) uX8_promiseAll_X0 fnX8_116 (rfl) dX8_promiseAll_35 ?_
          refine wp_top (b := σ 83 5) (by rw [e83]) ?_
          refine wp_icmp_ge (tgt := 140) hC dX8_promiseAll_38 (by decide) (by omega) (by omega) (fun c_38 => ?_) (fun c_38 => ?_)
          · refine wp_iinc (lv2 := [(0, _), (1, _), (2, _), (3, _), (4, _)]) hC dX8_promiseAll_140 rfl rfl (by decide) ?_
            refine wp_goto (tgt := 22) hC dX8_promiseAll_143 (by decide) ?_
            refine wp_lv hC [0, 1, 2, 3] rfl ?_
            exact ih _ (by omega) _ _ _ rfl (by omega) (PIN_c hi2 (KPX_skip (by omega) (fun q a b w z => by
              have := (h.2.2 q a b).2.2.2.2.2.2
              have z1 := z.1
              have z2 := z.2
              unfold kap at z1 z2
              omega)))
          · refine wp_aload_n hC dX8_promiseAll_41 rfl ?_
            refine wp_geta (k := 0) hC (rfl) (by decide) (rfl) (rfl) (by decide) uX8_promiseAll_X8 fX8_promiseAll_12 (rfl) dX8_promiseAll_42 ?_
            refine wp_getaN (k := 4) hC (rfl) (by decide) (rfl) (rfl) (by decide) uX8_promiseAll_X0 fnX8_145 (rfl) dX8_promiseAll_45 ?_
            refine wp_iload hC dX8_promiseAll_48 rfl ?_
            refine wp_iald (n := 24) hC (rfl) (Nat.le_of_ble_eq_true rfl) (rfl) (by decide) (by omega) dX8_promiseAll_50 ?_
            refine wp_top (b := σ 88 k) (by rw [e88]) ?_
            have hokk := hok (by omega)
            refine wp_iload_n hC dX8_promiseAll_51 rfl ?_
            refine wp_icmp_ne (tgt := 134) hC dX8_promiseAll_52 (by decide) (by omega) (by omega) (fun c_52 => ?_) (fun c_52 => ?_)
            · refine wp_iinc (lv2 := [(0, _), (1, _), (2, _), (3, _), (4, _)]) hC dX8_promiseAll_134 rfl rfl (by decide) ?_
              refine wp_goto (tgt := 29) hC dX8_promiseAll_137 (by decide) ?_
              exact ih29 _ (by omega) _ _ _ rfl h3 (by omega) (hnx _ _ (PIN_c hi2 (KPX_skip (by omega) (fun q a b w z => by
                have z1 := z.1
                have z2 := z.2
                have hrq := (h.2.2 q a b).2.2.2.2.2.2
                unfold kap at z1 z2
                have e : q = k := by omega
                subst e
                omega))))
            · have hkn : 0 ≤ k ∧ k < σ 83 5 := by omega
              have hkap : kap (σ 88) k = ((24 * (9 - r) + k).toNat : Nat) := by unfold kap; omega
              have hfut : KPX σ (24 * (9 - r) + k).toNat k = false := kf_fut (by omega)
              refine wp_aload_n hC dX8_promiseAll_55 rfl ?_
              refine wp_geta (k := 1) hC (rfl) (by decide) (rfl) (rfl) (by decide) uX8_promiseAll_X8 fX8_promiseAll_19 (rfl) dX8_promiseAll_56 ?_
              refine wp_getaN (k := 2) hC (rfl) (by decide) (rfl) (rfl) (by decide) uX8_promiseAll_X5 fnX8_124 (rfl) dX8_promiseAll_59 ?_
              refine wp_iload hC dX8_promiseAll_62 rfl ?_
              refine wp_iald (n := 24) hC (rfl) (Nat.le_of_ble_eq_true rfl) (rfl) (by decide) (by omega) dX8_promiseAll_64 ?_
              refine wp_top (b := σ 111 k) (by rw [EQ_h hi2.1 (a := 111) (by omega)]; unfold PX; rw [hfut, if_neg (fun z => Bool.noConfusion z.2.2.2)]) ?_
              refine wp_if_ne (tgt := 134) hC dX8_promiseAll_65 (by decide) (by omega) (fun c_65 => ?_) (fun c_65 => ?_)
              · refine wp_iinc (lv2 := [(0, _), (1, _), (2, _), (3, _), (4, _)]) hC dX8_promiseAll_134 rfl rfl (by decide) ?_
                refine wp_goto (tgt := 29) hC dX8_promiseAll_137 (by decide) ?_
                exact ih29 _ (by omega) _ _ _ rfl h3 (by omega) (hnx _ _ (PIN_c hi2 (KPX_skip (by omega) (fun q a b w z => by
                  have z1 := z.1
                  have z2 := z.2
                  have hrq := (h.2.2 q a b).2.2.2.2.2.2
                  unfold kap at z1 z2
                  have e : q = k := by omega
                  subst e
                  have w2 : σ 111 q = 0 := decide_eq_true_eq.mp w
                  omega))))
              · have hPk : PQ σ (24 * (9 - r) + k).toNat k = false := by unfold PQ; rw [hfut, Bool.or_false]; exact decide_eq_false (by omega)
                have hcand : kdX σ 0 k = true := decide_eq_true (by omega)
                have hroom : ROOM ρ (ρ 87 k) (tb B) = σ 110 (σ 87 k) * sm (σ 109) 36 / 100 - amS (σ 83 5) (σ 84) (σ 87) (PQ σ (24 * (9 - r) + k).toNat) (σ 87 k) := by
                  unfold ROOM
                  rw [e87, e110, e109, e83, e84]
                  congr 1
                  exact amS_P (fun q a b => by rw [hi2.2.1, tb_bs hn.1 a, decide_eq_true b, Bool.true_and])
                have hcan : (FIT ρ k (ρ 112 k) ∧ ρ 84 k ≤ ROOM ρ (ρ 87 k) (tb B)) ↔ CANY σ k (fun q => kdX σ 1 q || ins (KPX σ (24 * (9 - r) + k).toNat) k q) := by
                  have e1 : (fun q => kdX σ 1 q || ins (KPX σ (24 * (9 - r) + k).toNat) k q) = ins (PQ σ (24 * (9 - r) + k).toNat) k := funext fun q => PQ_ins
                  rw [e1, hroom, e112, e84]
                  unfold CANY
                  rw [MEX_ins (ρ := ρ) h hkn hPk hi2.2.2.2 hi2.2.2.1 e84 e85, CANY_ins hn hkn (by omega) hPk]
                  constructor
                  · rintro ⟨a, b⟩; exact ⟨by omega, a⟩
                  · rintro ⟨a, b⟩; exact ⟨b, by omega⟩
                refine wp_aload_n hC dX8_promiseAll_68 rfl ?_
                refine wp_iload hC dX8_promiseAll_69 rfl ?_
                refine wp_iload_n hC dX8_promiseAll_71 rfl ?_
                refine wp_callVp (As := [_, _]) hC (c_X8_fitsBeside hG ρ (o := k) (B := B) hXr (by rw [e83]; exact hkn) hB hlx) gX8_promiseAll_X8_fitsBeside rfl ⟨rfl, rfl⟩ ⟨by decide, by decide⟩ hyVX8_fitsBeside (rfl) (by decide) (rfl) rfl (Nat.le_of_ble_eq_true rfl) dX8_promiseAll_72 (fun x_72 hx_72 hp_72 => ?_)
                refine wp_if_eq (tgt := 134) hC dX8_promiseAll_75 (by decide) (bP_iR hp_72) (fun c_75 => ?_) (fun c_75 => ?_)
                · refine wp_iinc (lv2 := [(0, _), (1, _), (2, _), (3, _), (4, _)]) hC dX8_promiseAll_134 rfl rfl (by decide) ?_
                  refine wp_goto (tgt := 29) hC dX8_promiseAll_137 (by decide) ?_
                  exact ih29 _ (by omega) _ _ _ rfl h3 (by omega) (hnx _ _ (PIN_c hi2 (kf_no hn.2 hkn hkap (fun z => bP_0 hp_72 (by omega) (hcan.mpr z)))))
                · have hK1 : KPX σ ((24 * (9 - r) + k).toNat + 1) = ins (KPX σ (24 * (9 - r) + k).toNat) k := kf_ins hn.2 hkn hkap hcand (hcan.mp (bP_1 hp_72 (by omega)))
                  have hTK := TK_LX (ρ := ρ) h hkn hPk hi2.2.2.1
                  refine wp_aload_n hC dX8_promiseAll_78 rfl ?_
                  refine wp_geta (k := 5) hC (rfl) (by decide) (rfl) (rfl) (by decide) uX8_promiseAll_X8 fX8_promiseAll_43 (rfl) dX8_promiseAll_79 ?_
                  refine wp_aload_n hC dX8_promiseAll_82 rfl ?_
                  refine wp_geta (k := 0) hC (rfl) (by decide) (rfl) (rfl) (by decide) uX8_promiseAll_X8 fX8_promiseAll_12 (rfl) dX8_promiseAll_83 ?_
                  refine wp_getaN (k := 1) hC (rfl) (by decide) (rfl) (rfl) (by decide) uX8_promiseAll_X0 fnX8_139 (rfl) dX8_promiseAll_86 ?_
                  refine wp_iload hC dX8_promiseAll_89 rfl ?_
                  refine wp_iald (n := 24) hC (rfl) (Nat.le_of_ble_eq_true rfl) (rfl) (by decide) (by omega) dX8_promiseAll_91 ?_
                  refine wp_top (b := σ 85 k) (by rw [e85]) ?_
                  refine wp_aload_n hC dX8_promiseAll_92 rfl ?_
                  refine wp_geta (k := 1) hC (rfl) (by decide) (rfl) (rfl) (by decide) uX8_promiseAll_X8 fX8_promiseAll_19 (rfl) dX8_promiseAll_93 ?_
                  refine wp_getaN (k := 3) hC (rfl) (by decide) (rfl) (rfl) (by decide) uX8_promiseAll_X5 fnX8_127 (rfl) dX8_promiseAll_96 ?_
                  refine wp_iload hC dX8_promiseAll_99 rfl ?_
                  refine wp_iald (n := 24) hC (rfl) (Nat.le_of_ble_eq_true rfl) (rfl) (by decide) (by omega) dX8_promiseAll_101 ?_
                  refine wp_top (b := σ 112 k) (by rw [e112]) ?_
                  refine wp_aload_n hC dX8_promiseAll_102 rfl ?_
                  refine wp_geta (k := 0) hC (rfl) (by decide) (rfl) (rfl) (by decide) uX8_promiseAll_X8 fX8_promiseAll_12 (rfl) dX8_promiseAll_103 ?_
                  refine wp_getaN (k := 0) hC (rfl) (by decide) (rfl) (rfl) (by decide) uX8_promiseAll_X0 fnX8_136 (rfl) dX8_promiseAll_106 ?_
                  refine wp_iload hC dX8_promiseAll_109 rfl ?_
                  refine wp_iald (n := 24) hC (rfl) (Nat.le_of_ble_eq_true rfl) (rfl) (by decide) (by omega) dX8_promiseAll_111 ?_
                  refine wp_top (b := σ 84 k) (by rw [e84]) ?_
                  refine wp_callVu (As := [_, _, _]) hC (c_X6_take hG ρ (it := σ 85 k) (la := σ 112 k) (am := σ 84 k) (by omega) (by omega)) gX8_promiseAll_X6_take rfl ⟨rfl, rfl⟩ ⟨by decide, by decide⟩ hyVX6_take (rfl) (by decide) (rfl) rfl (Nat.le_of_ble_eq_true rfl) dX8_promiseAll_112 ?_
                  refine wp_aload_n hC dX8_promiseAll_115 rfl ?_
                  refine wp_geta (k := 1) hC (rfl) (by decide) (rfl) (rfl) (by decide) uX8_promiseAll_X8 fX8_promiseAll_19 (rfl) dX8_promiseAll_116 ?_
                  refine wp_getaN (k := 2) hC (rfl) (by decide) (rfl) (rfl) (by decide) uX8_promiseAll_X5 fnX8_124 (rfl) dX8_promiseAll_119 ?_
                  refine wp_iload hC dX8_promiseAll_122 rfl ?_
                  refine wp_iconst hC dX8_promiseAll_124 ?_
                  refine wp_iast (n := 24) hC (rfl) (Nat.le_of_ble_eq_true rfl) (rfl) (by decide) (by omega) dX8_promiseAll_125 ?_
                  refine wp_iload_n hC dX8_promiseAll_126 rfl ?_
                  refine wp_iload hC dX8_promiseAll_127 rfl ?_
                  refine wp_callSe (As := [_]) hC (c_X8_bit hG _ (by omega)) gX8_promiseAll_X8_bit rfl ⟨rfl, rfl⟩ ⟨by decide, by decide⟩ hySX8_bit rfl (Nat.le_of_ble_eq_true rfl) dX8_promiseAll_129 (fun hx_129 => ?_)
                  refine wp_ior hC dX8_promiseAll_132 ?_
                  refine wp_istore_n (lv2 := [(0, _), (1, _), (2, _), (3, _), (4, _)]) hC dX8_promiseAll_133 rfl (by decide) ?_
                  refine wp_iinc (lv2 := [(0, _), (1, _), (2, _), (3, _), (4, _)]) hC dX8_promiseAll_134 rfl rfl (by decide) ?_
                  refine wp_goto (tgt := 29) hC dX8_promiseAll_137 (by decide) ?_
                  exact ih29 _ (by omega) _ _ _ rfl h3 (by omega) (hnx _ _ ⟨by
                    rw [hK1, ← PX_ins hkn]
                    exact EQ_put (fun a b x => by
                      rw [← hi2.1 a b x]
                      unfold TAK TKk
                      rw [if_neg (fun z => by rw [z.1] at x; cases x)]), by
                    rw [hi2.2.1, bs_ins hn hkn hPk]
                    exact bs_c (fun q _ _ => by unfold PQ; rw [hK1]; exact PQ_ins.symm), fun k2 a b => by
                    rw [show put (TAK ρ (σ 85 k) (σ 112 k) (σ 84 k)) 111 k 1 92 k2 = TAK ρ (σ 85 k) (σ 112 k) (σ 84 k) 92 k2 from put_i (by decide), hTK k2 a b]
                    exact LX_P (fun q _ _ => by unfold PQ; rw [hK1]; exact PQ_ins.symm) k2, (MEX_P (fun q _ _ => by unfold PQ; rw [hK1])).mp (hcan.mp (bP_1 hp_72 (by omega))).2⟩)
      refine wp_iload_n hC dX8_promiseAll_22 rfl ?_
      refine wp_if_lt (tgt := 146) hC dX8_promiseAll_23 (by decide) (by omega) (fun c_23 => ?_) (fun c_23 => ?_)
      · have ht9 : (24 * (9 - r)).toNat = 240 := by omega
        rw [ht9] at hi
        have hL2 : XL (PX σ (KPX σ 240)) := XL_c hL (fun a b z => PX_o (by omega))
        have hB9 := hi.2.1
        have hBr : 0 ≤ B ∧ B ≤ 2147483647 := by rw [hB9]; exact bsI hn
        refine wp_aload_n hC dX8_promiseAll_146 rfl ?_
        refine wp_callVu (As := []) hC (c_X8_noteChange hG ρ hXr.1 (XL_E hL2 (EQ_K hi.1)).1 (XL_E hL2 (EQ_K hi.1)).2) gX8_promiseAll_X8_noteChange rfl ⟨rfl, rfl⟩ ⟨by decide, by decide⟩ hyVX8_noteChange (rfl) (by decide) (rfl) rfl (Nat.le_of_ble_eq_true rfl) dX8_promiseAll_147 ?_
        refine wp_iload_n hC dX8_promiseAll_150 rfl ?_
        refine wp_callSe (As := [_]) hC (c_J6_bitCount_0f7a4 hG _ (b := B) hBr) gX8_promiseAll_J6_bitCount_0f7a4 rfl ⟨rfl, rfl⟩ ⟨by decide, by decide⟩ hySJ6_bitCount_0f7a4 rfl (Nat.le_of_ble_eq_true rfl) dX8_promiseAll_151 (fun hx_151 => ?_)
        refine wp_iload_n hC dX8_promiseAll_154 rfl ?_
        refine wp_isub hC dX8_promiseAll_155 ?_
        have hpr2 := pc_rng B
        exact hret _ _ _ _ (by omega) rfl (⟨by rw [← hB9], NCH_EQ hi.1⟩) dX8_promiseAll_156
      · refine wp_iconst hC dX8_promiseAll_26 ?_
        refine wp_istore (lv2 := [(0, _), (1, _), (2, _), (3, _), (4, _)]) hC dX8_promiseAll_27 rfl (by decide) ?_
        exact L29 _ 0 _ _ rfl (by omega) (by omega) (PIN_c hi (by rw [Int.add_zero]))
  refine wp_aload_n hC dX8_promiseAll_0 rfl ?_
  refine wp_iconst hC dX8_promiseAll_1 ?_
  refine wp_callVe (As := [_]) hC (c_X8_setOf hG σ (w := 1) (by omega) (fun o a b => (h.2.2 o a b).1) h.1) gX8_promiseAll_X8_setOf rfl ⟨rfl, rfl⟩ ⟨by decide, by decide⟩ hyVX8_setOf (rfl) (by decide) (rfl) rfl (Nat.le_of_ble_eq_true rfl) dX8_promiseAll_2 (fun hx_2 => ?_)
  refine wp_istore_n (lv2 := [(0, _), (1, _)]) hC dX8_promiseAll_5 rfl (by decide) ?_
  refine wp_iload_n hC dX8_promiseAll_6 rfl ?_
  refine wp_callSe (As := [_]) hC (c_J6_bitCount_0f7a4 hG σ (b := TX σ 1) hTr) gX8_promiseAll_J6_bitCount_0f7a4 rfl ⟨rfl, rfl⟩ ⟨by decide, by decide⟩ hySJ6_bitCount_0f7a4 rfl (Nat.le_of_ble_eq_true rfl) dX8_promiseAll_7 (fun hx_7 => ?_)
  refine wp_istore_n (lv2 := [(0, _), (1, _), (2, _)]) hC dX8_promiseAll_10 rfl (by decide) ?_
  refine wp_aload_n hC dX8_promiseAll_11 rfl ?_
  refine wp_iload_n hC dX8_promiseAll_12 rfl ?_
  refine wp_callVi (As := [_]) hC (c_X8_areMet hG σ (B := TX σ 1) h hTr) gX8_promiseAll_X8_areMet rfl ⟨rfl, rfl⟩ ⟨by decide, by decide⟩ hyVX8_areMet (rfl) (by decide) (rfl) rfl (Nat.le_of_ble_eq_true rfl) dX8_promiseAll_13 (fun x_13 s_13 hx_13 hp_13 => ?_)
  obtain ⟨hm_13, rfl⟩ := hp_13
  refine wp_if_eq (tgt := 146) hC dX8_promiseAll_16 (by decide) (bP_iR hm_13) (fun c_16 => ?_) (fun c_16 => ?_)
  · have hK9 : KPX σ 240 = fun _ => false := funext fun q => KPX_none h (fun z => bP_0 hm_13 (by omega) ((MEX_P (fun q x y => (hTQ q x y).symm)).mp z)) 240 q
    have hB9 : bsum (PQ σ 240) (σ 83 5) = TX σ 1 := bs_c (fun q _ _ => by unfold PQ; rw [hK9, Bool.or_false]; rfl)
    refine wp_aload_n hC dX8_promiseAll_146 rfl ?_
    refine wp_callVu (As := []) hC (c_X8_noteChange hG (LY σ (TX σ 1)) hn hL.1 hL.2) gX8_promiseAll_X8_noteChange rfl ⟨rfl, rfl⟩ ⟨by decide, by decide⟩ hyVX8_noteChange (rfl) (by decide) (rfl) rfl (Nat.le_of_ble_eq_true rfl) dX8_promiseAll_147 ?_
    refine wp_iload_n hC dX8_promiseAll_150 rfl ?_
    refine wp_callSe (As := [_]) hC (c_J6_bitCount_0f7a4 hG _ (b := TX σ 1) hTr) gX8_promiseAll_J6_bitCount_0f7a4 rfl ⟨rfl, rfl⟩ ⟨by decide, by decide⟩ hySJ6_bitCount_0f7a4 rfl (Nat.le_of_ble_eq_true rfl) dX8_promiseAll_151 (fun hx_151 => ?_)
    refine wp_iload_n hC dX8_promiseAll_154 rfl ?_
    refine wp_isub hC dX8_promiseAll_155 ?_
    exact hret _ _ _ _ (by omega) rfl (⟨by rw [hB9], by rw [hK9, PX_0 (fun _ => rfl)]; exact NCH_EQ (EQ_LY EQ_0)⟩) dX8_promiseAll_156
  · refine wp_bipush hC dX8_promiseAll_19 rfl ?_
    refine wp_istore_n (lv2 := [(0, _), (1, _), (2, _), (3, _)]) hC dX8_promiseAll_21 rfl (by decide) ?_
    exact L22 _ 9 _ _ rfl (by omega) ⟨(show EQ (LY σ (TX σ 1)) (PX σ (KPX σ 0)) from by rw [PX_0 (K := KPX σ 0) (fun q => rfl)]; exact EQ_LY EQ_0), bs_c (fun q a b => by show decide (σ 111 q = 1) = (kdX σ 1 q || false); rw [Bool.or_false]; rfl), fun k a b => by
      rw [(LY_LAID (σ := σ) (B := TX σ 1)).1 k a b]
      exact LX_P (σ := σ) (fun q x y => by rw [hTQ q x y]; show kdX σ 1 q = (kdX σ 1 q || false); rw [Bool.or_false]) k, (MEX_P (fun q x y => by rw [hTQ q x y]; show kdX σ 1 q = (kdX σ 1 q || false); rw [Bool.or_false])).mp (bP_1 hm_13 (by omega))⟩

/-- a range, as the class looks it up -/
def RGX (σ : St) (o it p0 wh x : Int) : Prop :=
  (¬ ((0 ≤ o ∧ o < σ 83 5) ∧ ((0 ≤ it ∧ it ≤ 2) ∧ (0 ≤ p0 ∧ p0 ≤ 11)) ∧ (0 ≤ wh ∧ wh ≤ 1)) ∧ x = -1) ∨
  (((0 ≤ o ∧ o < σ 83 5) ∧ ((0 ≤ it ∧ it ≤ 2) ∧ (0 ≤ p0 ∧ p0 ≤ 11)) ∧ (0 ≤ wh ∧ wh ≤ 1)) ∧ ((σ 111 o ≠ 1 ∧ x = -5) ∨ (σ 111 o = 1 ∧ ((¬ MEX σ (tb (TX σ 1)) ∧ x = -2) ∨ (MEX σ (tb (TX σ 1)) ∧
    ((¬ (tb (σ 85 o) it = true ∧ p0 ≤ σ 112 o) ∧ x = 0) ∨ ((tb (σ 85 o) it = true ∧ p0 ≤ σ 112 o) ∧
      ((wh = 0 ∧ ∃ y, MXk (CND it p0) (VND (LY σ (TX σ 1)) (FI (σ 85 o) (σ 112 o) 0) (FI (σ 85 o) (σ 112 o) 1) (FI (σ 85 o) (σ 112 o) 2)) (-(sq (σ 109) 0 12 + sq (σ 109) 1 12 + sq (σ 109) 2 12)) 2197 y ∧ x = max 0 (σ 84 o + σ 109 (12 * it + p0) + y)) ∨
       (wh = 1 ∧ ∃ y, MNk (CLW (FI (σ 85 o) (σ 112 o) 0) (FI (σ 85 o) (σ 112 o) 1) (FI (σ 85 o) (σ 112 o) 2) it p0) (LY σ (TX σ 1) 92) 99 2197 y ∧ x = min (min (σ 84 o) (σ 109 (12 * it + p0))) y)))))))))

theorem hyVX8_range : yX8_range.cls = RX8 ∧ yX8_range.cls ≠ "java/lang/invoke/MethodHandle" ∧ yX8_range.cls ≠ "java/lang/invoke/VarHandle" ∧ (parseMethodDescriptor yX8_range.desc).map (fun d => d.parameters.length) = some 4 := by decide +kernel
theorem uX8_range_X8 : ∀ w ∈ u_ws RX8 TX8 13, w ∈ wsX8_range := by decide +kernel
theorem fX8_range_19 : Cond.fieldLink RX8 19 (TX8 1).1 (TX8 1).2.1 (TX8 1).2.2.1 ∈ wsX8_range := by decide +kernel
theorem uX8_range_X5 : ∀ w ∈ u_ws RX5 TX5 5, w ∈ wsX8_range := by decide +kernel
theorem fX8_range_12 : Cond.fieldLink RX8 12 (TX8 0).1 (TX8 0).2.1 (TX8 0).2.2.1 ∈ wsX8_range := by decide +kernel
theorem uX8_range_X0 : ∀ w ∈ u_ws RX0 TX0 6, w ∈ wsX8_range := by decide +kernel
theorem fX8_range_43 : Cond.fieldLink RX8 43 (TX8 5).1 (TX8 5).2.1 (TX8 5).2.2.1 ∈ wsX8_range := by decide +kernel
set_option maxHeartbeats 8000000 in
set_option maxRecDepth 100000 in
theorem c_X8_range {l : Launch} {G : Gy} (hG : Inj G) (σ : St) {o it p0 wh : Int} (h : XO σ) (ho : iR o) (hit : iR it) (hp0 : iR p0) (hwh : iR wh) : MI l yX8_range wsX8_range ({ frames := 4, cells := 0, slots := 0, locals := 92 } : Room) G [.ref (G.2.2 82), .int (zI (o)), .int (zI (it)), .int (zI (p0)), .int (zI (wh))] σ (fun x σ2 => RGX σ o it p0 wh x ∧ EQ σ2 σ) := by
  refine MI.of hG (by decide +kernel) rfl rfl (Nat.le_of_ble_eq_true rfl) rfl ?_
  intro p e s m args below meth c H0 Q hC hret
  have hn := h.1
  have hTr : 0 ≤ TX σ 1 ∧ TX σ 1 ≤ 2147483647 := bsI (P := fun o => decide (σ 111 o = 1)) hn
  refine wp_aload_n hC dX8_range_0 rfl ?_
  refine wp_iload_n hC dX8_range_1 rfl ?_
  refine wp_callVb (As := [_]) hC (c_X8_isOrder hG _ (by omega) h.1) gX8_range_X8_isOrder rfl ⟨rfl, rfl⟩ ⟨by decide, by decide⟩ hyVX8_isOrder (rfl) (by decide) (rfl) rfl (Nat.le_of_ble_eq_true rfl) dX8_range_2 (fun hx_2 => ?_)
  refine wp_ifb_eq (tgt := 26) hC dX8_range_5 (by decide) (fun c_5 => ?_) (fun c_5 => ?_)
  · refine wp_iconst hC dX8_range_26 ?_
    exact hret _ _ _ _ (by omega) rfl (⟨Or.inl ⟨fun z => c_5 z.1, rfl⟩, EQ_0⟩) dX8_range_27
  · refine wp_iload_n hC dX8_range_8 rfl ?_
    refine wp_iload_n hC dX8_range_9 rfl ?_
    refine wp_callSb (As := [_, _]) hC (c_X8_isSupply hG σ (i := it) (p := p0) (by omega) (by omega)) gX8_range_X8_isSupply rfl ⟨rfl, rfl⟩ ⟨by decide, by decide⟩ hySX8_isSupply rfl (Nat.le_of_ble_eq_true rfl) dX8_range_10 (fun hx_10 => ?_)
    refine wp_ifb_eq (tgt := 26) hC dX8_range_13 (by decide) (fun c_13 => ?_) (fun c_13 => ?_)
    · refine wp_iconst hC dX8_range_26 ?_
      exact hret _ _ _ _ (by omega) rfl (⟨Or.inl ⟨fun z => c_13 z.2.1, rfl⟩, EQ_0⟩) dX8_range_27
    · refine wp_iload hC dX8_range_16 rfl ?_
      refine wp_iconst hC dX8_range_18 ?_
      refine wp_iconst hC dX8_range_19 ?_
      refine wp_callSb (As := [_, _, _]) hC (c_X8_within hG σ hwh (by omega) (by omega)) gX8_range_X8_within rfl ⟨rfl, rfl⟩ ⟨by decide, by decide⟩ hySX8_within rfl (Nat.le_of_ble_eq_true rfl) dX8_range_20 (fun hx_20 => ?_)
      refine wp_ifb_ne (tgt := 28) hC dX8_range_23 (by decide) (fun c_23 => ?_) (fun c_23 => ?_)
      · refine wp_aload_n hC dX8_range_28 rfl ?_
        refine wp_geta (k := 1) hC (rfl) (by decide) (rfl) (rfl) (by decide) uX8_range_X8 fX8_range_19 (rfl) dX8_range_29 ?_
        refine wp_getaN (k := 2) hC (rfl) (by decide) (rfl) (rfl) (by decide) uX8_range_X5 fnX8_124 (rfl) dX8_range_32 ?_
        refine wp_iload_n hC dX8_range_35 rfl ?_
        refine wp_iald (n := 24) hC (rfl) (Nat.le_of_ble_eq_true rfl) (rfl) (by decide) (by omega) dX8_range_36 ?_
        have hok := h.2.2 o c_5.1 c_5.2
        refine wp_top (b := σ 111 o) rfl ?_
        refine wp_iconst hC dX8_range_37 ?_
        refine wp_icmp_eq (tgt := 44) hC dX8_range_38 (by decide) (by omega) (by omega) (fun c_38 => ?_) (fun c_38 => ?_)
        · refine wp_aload_n hC dX8_range_44 rfl ?_
          refine wp_aload_n hC dX8_range_45 rfl ?_
          refine wp_iconst hC dX8_range_46 ?_
          refine wp_callVe (As := [_]) hC (c_X8_setOf hG σ (w := 1) (by omega) (fun o a b => (h.2.2 o a b).1) h.1) gX8_range_X8_setOf rfl ⟨rfl, rfl⟩ ⟨by decide, by decide⟩ hyVX8_setOf (rfl) (by decide) (rfl) rfl (Nat.le_of_ble_eq_true rfl) dX8_range_47 (fun hx_47 => ?_)
          refine wp_callVi (As := [_]) hC (c_X8_areMet hG σ (B := TX σ 1) h hTr) gX8_range_X8_areMet rfl ⟨rfl, rfl⟩ ⟨by decide, by decide⟩ hyVX8_areMet (rfl) (by decide) (rfl) rfl (Nat.le_of_ble_eq_true rfl) dX8_range_50 (fun x_50 s_50 hx_50 hp_50 => ?_)
          obtain ⟨hm_50, rfl⟩ := hp_50
          refine wp_if_ne (tgt := 59) hC dX8_range_53 (by decide) (bP_iR hm_50) (fun c_53 => ?_) (fun c_53 => ?_)
          · have hm9 := bP_1 hm_50 (by omega)
            have hsu := h.2.1.1 (12 * it + p0) (by omega) (by omega)
            have hlx := fun k a b => LY_rng h (TX σ 1) (k := k) a b
            refine wp_aload_n hC dX8_range_59 rfl ?_
            refine wp_geta (k := 0) hC (rfl) (by decide) (rfl) (rfl) (by decide) uX8_range_X8 fX8_range_12 (rfl) dX8_range_60 ?_
            refine wp_getaN (k := 1) hC (rfl) (by decide) (rfl) (rfl) (by decide) uX8_range_X0 fnX8_139 (rfl) dX8_range_63 ?_
            refine wp_iload_n hC dX8_range_66 rfl ?_
            refine wp_iald (n := 24) hC (rfl) (Nat.le_of_ble_eq_true rfl) (rfl) (by decide) (by omega) dX8_range_67 ?_
            refine wp_top (b := σ 85 o) rfl ?_
            refine wp_istore (lv2 := [(0, _), (1, _), (2, _), (3, _), (4, _), (5, _)]) hC dX8_range_68 rfl (by decide) ?_
            refine wp_aload_n hC dX8_range_70 rfl ?_
            refine wp_geta (k := 1) hC (rfl) (by decide) (rfl) (rfl) (by decide) uX8_range_X8 fX8_range_19 (rfl) dX8_range_71 ?_
            refine wp_getaN (k := 3) hC (rfl) (by decide) (rfl) (rfl) (by decide) uX8_range_X5 fnX8_127 (rfl) dX8_range_74 ?_
            refine wp_iload_n hC dX8_range_77 rfl ?_
            refine wp_iald (n := 24) hC (rfl) (Nat.le_of_ble_eq_true rfl) (rfl) (by decide) (by omega) dX8_range_78 ?_
            refine wp_top (b := σ 112 o) rfl ?_
            refine wp_istore (lv2 := [(0, _), (1, _), (2, _), (3, _), (4, _), (5, _), (6, _)]) hC dX8_range_79 rfl (by decide) ?_
            refine wp_iload hC dX8_range_81 rfl ?_
            refine wp_iload_n hC dX8_range_83 rfl ?_
            refine wp_ishr hC dX8_range_84 ?_
            refine wp_iconst hC dX8_range_85 ?_
            refine wp_iand hC dX8_range_86 ?_
            refine wp_top (b := bI (tb (σ 85 o) it = true)) (bit_at (by omega) (by omega) (by omega) (by omega)) ?_
            refine wp_ifb_eq (tgt := 96) hC dX8_range_87 (by decide) (fun c_87 => ?_) (fun c_87 => ?_)
            · refine wp_iconst hC dX8_range_96 ?_
              exact hret _ _ _ _ (by omega) rfl (⟨Or.inr ⟨⟨c_5, c_13, c_23⟩, Or.inr ⟨by omega, Or.inr ⟨hm9, Or.inl ⟨fun z => c_87 z.1, rfl⟩⟩⟩⟩, EQ_LY EQ_0⟩) dX8_range_97
            · refine wp_iload_n hC dX8_range_90 rfl ?_
              refine wp_iload hC dX8_range_91 rfl ?_
              refine wp_icmp_le (tgt := 98) hC dX8_range_93 (by decide) (by omega) (by omega) (fun c_93 => ?_) (fun c_93 => ?_)
              · refine wp_aload_n hC dX8_range_98 rfl ?_
                refine wp_geta (k := 0) hC (rfl) (by decide) (rfl) (rfl) (by decide) uX8_range_X8 fX8_range_12 (rfl) dX8_range_99 ?_
                refine wp_getaN (k := 0) hC (rfl) (by decide) (rfl) (rfl) (by decide) uX8_range_X0 fnX8_136 (rfl) dX8_range_102 ?_
                refine wp_iload_n hC dX8_range_105 rfl ?_
                refine wp_iald (n := 24) hC (rfl) (Nat.le_of_ble_eq_true rfl) (rfl) (by decide) (by omega) dX8_range_106 ?_
                refine wp_top (b := σ 84 o) rfl ?_
                refine wp_istore (lv2 := [(0, _), (1, _), (2, _), (3, _), (4, _), (5, _), (6, _), (7, _)]) hC dX8_range_107 rfl (by decide) ?_
                refine wp_aload_n hC dX8_range_109 rfl ?_
                refine wp_geta (k := 1) hC (rfl) (by decide) (rfl) (rfl) (by decide) uX8_range_X8 fX8_range_19 (rfl) dX8_range_110 ?_
                refine wp_getaN (k := 0) hC (rfl) (by decide) (rfl) (rfl) (by decide) uX8_range_X5 fnX8_80 (rfl) dX8_range_113 ?_
                refine wp_iload_n hC dX8_range_116 rfl ?_
                refine wp_bipush hC dX8_range_117 rfl ?_
                refine wp_imul hC dX8_range_119 ?_
                refine wp_iload_n hC dX8_range_120 rfl ?_
                refine wp_iadd hC dX8_range_121 ?_
                refine wp_iald (n := 36) hC (rfl) (Nat.le_of_ble_eq_true rfl) (rfl) (by decide) (by omega) dX8_range_122 ?_
                refine wp_top (b := σ 109 (12 * it + p0)) (by rw [Int.mul_comm 12 it]; rfl) ?_
                refine wp_istore (lv2 := [(0, _), (1, _), (2, _), (3, _), (4, _), (5, _), (6, _), (7, _), (8, _)]) hC dX8_range_123 rfl (by decide) ?_
                refine wp_iload hC dX8_range_125 rfl ?_
                refine wp_if_ne (tgt := 154) hC dX8_range_127 (by decide) (by omega) (fun c_127 => ?_) (fun c_127 => ?_)
                · refine wp_iload hC dX8_range_154 rfl ?_
                  refine wp_iload hC dX8_range_156 rfl ?_
                  refine wp_mmin hC (by decide +kernel) (by decide +kernel) (by decide +kernel) (by decide +kernel) (Nat.le_of_ble_eq_true rfl) (Nat.le_of_ble_eq_true rfl) (by omega) (by omega) dX8_range_158 ?_
                  refine wp_aload_n hC dX8_range_161 rfl ?_
                  refine wp_geta (k := 5) hC (rfl) (by decide) (rfl) (rfl) (by decide) uX8_range_X8 fX8_range_43 (rfl) dX8_range_162 ?_
                  refine wp_iload hC dX8_range_165 rfl ?_
                  refine wp_iload hC dX8_range_167 rfl ?_
                  refine wp_iload_n hC dX8_range_169 rfl ?_
                  refine wp_iload_n hC dX8_range_170 rfl ?_
                  refine wp_callVp (As := [_, _, _, _]) hC (c_X6_leastWithout hG (LY σ (TX σ 1)) (it := σ 85 o) (la := σ 112 o) (i1 := it) (p1 := p0) (by omega) (by omega) c_13.1 c_13.2 (fun k a b => by have := hlx k a b; omega)) gX8_range_X6_leastWithout rfl ⟨rfl, rfl⟩ ⟨by decide, by decide⟩ hyVX6_leastWithout (rfl) (by decide) (rfl) rfl (Nat.le_of_ble_eq_true rfl) dX8_range_171 (fun x_171 hx_171 hp_171 => ?_)
                  refine wp_mmin hC (by decide +kernel) (by decide +kernel) (by decide +kernel) (by decide +kernel) (Nat.le_of_ble_eq_true rfl) (Nat.le_of_ble_eq_true rfl) (by omega) (by omega) dX8_range_174 ?_
                  exact hret _ _ _ _ (by omega) rfl (⟨Or.inr ⟨⟨c_5, c_13, c_23⟩, Or.inr ⟨by omega, Or.inr ⟨hm9, Or.inr ⟨⟨c_87, by omega⟩, Or.inr ⟨by omega, _, hp_171, rfl⟩⟩⟩⟩⟩, EQ_LY EQ_0⟩) dX8_range_177
                · refine wp_iconst hC dX8_range_130 ?_
                  refine wp_iload hC dX8_range_131 rfl ?_
                  refine wp_iload hC dX8_range_133 rfl ?_
                  refine wp_iadd hC dX8_range_135 ?_
                  refine wp_aload_n hC dX8_range_136 rfl ?_
                  refine wp_geta (k := 5) hC (rfl) (by decide) (rfl) (rfl) (by decide) uX8_range_X8 fX8_range_43 (rfl) dX8_range_137 ?_
                  refine wp_iload hC dX8_range_140 rfl ?_
                  refine wp_iload hC dX8_range_142 rfl ?_
                  refine wp_iload_n hC dX8_range_144 rfl ?_
                  refine wp_iload_n hC dX8_range_145 rfl ?_
                  refine wp_callVp (As := [_, _, _, _]) hC (c_X6_needOf hG (LY σ (TX σ 1)) (it := σ 85 o) (la := σ 112 o) (i1 := it) (p1 := p0) (by omega) (by omega) c_13.1 c_13.2 h (fun i q a b c d => LY_LAID.2 i q a b c d) hlx) gX8_range_X6_needOf rfl ⟨rfl, rfl⟩ ⟨by decide, by decide⟩ hyVX6_needOf (rfl) (by decide) (rfl) rfl (Nat.le_of_ble_eq_true rfl) dX8_range_146 (fun x_146 hx_146 hp_146 => ?_)
                  have t0 := sq_rng (su := σ 109) h.2.1.1 (i := 0) (q := 12) (by omega) (by omega)
                  have t1 := sq_rng (su := σ 109) h.2.1.1 (i := 1) (q := 12) (by omega) (by omega)
                  have t2 := sq_rng (su := σ 109) h.2.1.1 (i := 2) (q := 12) (by omega) (by omega)
                  have hf := fun i => FI_rng h (o := o) ⟨c_5.1, c_5.2⟩ i
                  have hy : -20000 ≤ x_146 ∧ x_146 ≤ 20000 := MX_rg (V := VND (LY σ (TX σ 1)) (FI (σ 85 o) (σ 112 o) 0) (FI (σ 85 o) (σ 112 o) 1) (FI (σ 85 o) (σ 112 o) 2)) (c0 := -(sq (σ 109) 0 12 + sq (σ 109) 1 12 + sq (σ 109) 2 12)) hp_146 (by omega) (fun j a b => by have := VND_rg (σ := LY σ (TX σ 1)) h (hlx j a b) (hf 0) (hf 1) (hf 2) ⟨a, b⟩; omega)
                  refine wp_iadd hC dX8_range_149 ?_
                  refine wp_mmax hC (by decide +kernel) (by decide +kernel) (by decide +kernel) (by decide +kernel) (Nat.le_of_ble_eq_true rfl) (Nat.le_of_ble_eq_true rfl) (by omega) (by omega) dX8_range_150 ?_
                  exact hret _ _ _ _ (by omega) rfl (⟨Or.inr ⟨⟨c_5, c_13, c_23⟩, Or.inr ⟨by omega, Or.inr ⟨hm9, Or.inr ⟨⟨c_87, by omega⟩, Or.inl ⟨by omega, _, hp_146, rfl⟩⟩⟩⟩⟩, EQ_LY EQ_0⟩) dX8_range_153
              · refine wp_iconst hC dX8_range_96 ?_
                exact hret _ _ _ _ (by omega) rfl (⟨Or.inr ⟨⟨c_5, c_13, c_23⟩, Or.inr ⟨by omega, Or.inr ⟨hm9, Or.inl ⟨fun z => by have := z.2; omega, rfl⟩⟩⟩⟩, EQ_LY EQ_0⟩) dX8_range_97
          · refine wp_bipush hC dX8_range_56 rfl ?_
            exact hret _ _ _ _ (by omega) rfl (⟨Or.inr ⟨⟨c_5, c_13, c_23⟩, Or.inr ⟨by omega, Or.inl ⟨bP_0 hm_50 (by omega), rfl⟩⟩⟩, EQ_LY EQ_0⟩) dX8_range_58
        · refine wp_bipush hC dX8_range_41 rfl ?_
          exact hret _ _ _ _ (by omega) rfl (⟨Or.inr ⟨⟨c_5, c_13, c_23⟩, Or.inl ⟨by omega, rfl⟩⟩, EQ_0⟩) dX8_range_43
      · refine wp_iconst hC dX8_range_26 ?_
        exact hret _ _ _ _ (by omega) rfl (⟨Or.inl ⟨fun z => c_23 z.2.2, rfl⟩, EQ_0⟩) dX8_range_27
