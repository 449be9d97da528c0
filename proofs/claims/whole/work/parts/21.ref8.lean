theorem tb_hi {B q : Int} (h : 0 ≤ B ∧ B ≤ 2147483647) (hq : 31 ≤ q) : tb B q = false := by
  apply tb_ge
  have h1 : pw 31 ≤ pw q := pw_le hq
  have h2 : pw 31 = 2147483648 := by decide
  omega
theorem pw_b {o : Int} (h : o ≤ 24) : 0 ≤ pw o ∧ pw o ≤ 2147483647 := by
  have h1 := pw_pos o
  have h2 : pw o ≤ pw 24 := pw_le h
  have h3 : pw 24 = 16777216 := by decide
  omega
/-- the next in turn taken out of those that are left -/
theorem left_step {n : Int} {rk : Int → Int} {cand : Int → Bool} {L o : Int} {t : Nat} (hn : 0 ≤ n ∧ n ≤ 24) (hL : 0 ≤ L ∧ L ≤ 2147483647) (hi : ∀ q, 0 ≤ q → (tb L q = true ↔ q < n ∧ cand q = true ∧ (t : Int) ≤ kap rk q)) (h0 : L ≠ 0) (hf : firstN rk n (tb L) o) :
    (0 ≤ o ∧ o < n) ∧ cand o = true ∧ (t : Int) ≤ kap rk o ∧ (∀ q, 0 ≤ q → q < n → cand q = true → ¬ ((t : Int) ≤ kap rk q ∧ kap rk q < kap rk o)) ∧ ∀ q, 0 ≤ q → (tb (iand L (ixor (pw o) (-1))) q = true ↔ q < n ∧ cand q = true ∧ (((kap rk o).toNat + 1 : Nat) : Int) ≤ kap rk q) := by
  rcases hf with ⟨e, q⟩ | ⟨a, b, c0, q⟩
  · exact absurd (tb_all0 hL (fun q0 x => by
      rcases Int.lt_or_le q0 n with z | z
      · exact q q0 x z
      · cases hq : tb L q0
        · rfl
        · have := ((hi q0 x).mp hq).1
          omega)) h0
  · have ho := (hi o a).mp c0
    refine ⟨⟨a, b⟩, ho.2.1, ho.2.2, fun r x y w z => ?_, fun r x => ?_⟩
    · have := q r x y ((hi r x).mpr ⟨y, w, z.1⟩)
      omega
    · have hk : (((kap rk o).toNat + 1 : Nat) : Int) = kap rk o + 1 := by omega
      rw [hk]
      rcases Int.lt_or_le r 31 with z | z
      · rw [tb_iandn hL (pw_b (by omega)) (by omega), Bool.and_eq_true, hi r x, tb_pw a x, Bool.not_eq_true', decide_eq_false_iff_not]
        constructor
        · rintro ⟨⟨y1, y2, y3⟩, y4⟩
          have h1 := q r x y1 ((hi r x).mpr ⟨y1, y2, y3⟩)
          refine ⟨y1, y2, ?_⟩
          rcases Int.lt_or_le (kap rk o) (kap rk r) with z1 | z1
          · omega
          · exact absurd (kap_inj (rk := rk) ⟨x, by omega⟩ ⟨a, by omega⟩ (by omega)) y4
        · rintro ⟨y1, y2, y3⟩
          refine ⟨⟨y1, y2, by omega⟩, fun e => ?_⟩
          rw [e] at y3
          omega
      · rw [tb_hi (iand_nn hL) z]
        constructor
        · intro y; cases y
        · rintro ⟨y, _⟩; omega
theorem left_none {n : Int} {rk : Int → Int} {cand : Int → Bool} {t : Nat} (hi : ∀ q, 0 ≤ q → (tb 0 q = true ↔ q < n ∧ cand q = true ∧ (t : Int) ≤ kap rk q)) (q : Int) (a : 0 ≤ q) (b : q < n) (w : cand q = true) (d : Int) : ¬ ((t : Int) ≤ kap rk q ∧ kap rk q < d) := fun z => by
  have := (hi q a).mpr ⟨b, w, z.1⟩
  unfold tb at this
  rw [show (0 : Int).toNat = 0 from rfl, Nat.zero_testBit] at this
  cases this
theorem cnt_0 {n : Int} (hn : 0 ≤ n) : cnt n (fun _ => false) = 0 := by
  have h1 : cnt n (fun _ => false) = sm (fun _ => 0) n := sm_c (fun k _ _ => if_neg (fun z => by cases z))
  rw [h1, sm_k hn, Int.mul_zero]
/-- some of those asked are promised, in a change that is begun -/
def PA (σ : St) (K : Int → Bool) : St := fun a b => if a = 1 ∧ 40 ≤ b ∧ b < 64 ∧ K (b - 40) = true then 1 else cpy σ 1 9 88 a b
def wPA (σ : St) (K : Int → Bool) : Int → Int := fun b => if 40 ≤ b ∧ b < 64 ∧ K (b - 40) = true then 1 else σ 1 b
theorem PA_1 {σ : St} {K : Int → Bool} : PA σ K 1 = wPA σ K := by
  funext b
  unfold PA wPA
  by_cases z : 40 ≤ b ∧ b < 64 ∧ K (b - 40) = true
  · rw [if_pos ⟨rfl, z⟩, if_pos z]
  · rw [if_neg (fun y => z y.2), if_neg z]
    rfl
theorem wPA_o {σ : St} {K : Int → Bool} {b : Int} (h : ¬ (40 ≤ b ∧ b < 64)) : wPA σ K b = σ 1 b := if_neg (fun z => h ⟨z.1, z.2.1⟩)
theorem PA_o {σ : St} {K : Int → Bool} {a : Nat} {b : Int} (h : ¬ (a = 1 ∧ 40 ≤ b ∧ b < 64)) : PA σ K a b = cpy σ 1 9 88 a b := if_neg (fun z => h ⟨z.1, z.2.1, z.2.2.1⟩)
theorem PA_k {σ : St} {K : Int → Bool} {q : Int} (h : 0 ≤ q ∧ q < 24) : PA σ K 1 (40 + q) = if K q = true then 1 else σ 1 (40 + q) := by
  rw [PA_1]
  unfold wPA
  rw [show 40 + q - 40 = q by omega]
  by_cases e : K q = true
  · rw [if_pos e, if_pos ⟨by omega, by omega, e⟩]
  · rw [if_neg e, if_neg (fun z => e z.2.2)]
theorem PA_0 {σ : St} : cpy σ 1 9 88 = PA σ (fun _ => false) := by
  funext a b
  unfold PA
  rw [if_neg (fun z => by cases z.2.2.2)]
theorem PA_put {σ : St} {K : Int → Bool} {o : Int} (ho : 0 ≤ o ∧ o < 24) : put (PA σ K) 1 (40 + o) 1 = PA σ (ins K o) := by
  funext a b
  unfold put PA ins
  by_cases q : a = 1 ∧ b = 40 + o
  · rw [if_pos q, if_pos ⟨q.1, by omega, by omega, by rw [decide_eq_true (show b - 40 = o by omega), Bool.or_true]⟩]
  · rw [if_neg q]
    have e : (a = 1 ∧ 40 ≤ b ∧ b < 64 ∧ K (b - 40) = true) = (a = 1 ∧ 40 ≤ b ∧ b < 64 ∧ (K (b - 40) || decide (b - 40 = o)) = true) := propext (by
      rw [Bool.or_eq_true, decide_eq_true_eq]
      constructor
      · rintro ⟨x, y, z, w⟩; exact ⟨x, y, z, Or.inl w⟩
      · rintro ⟨x, y, z, w | w⟩
        · exact ⟨x, y, z, w⟩
        · omega)
    simp only [e]
theorem BG_PA {σ : St} {K : Int → Bool} : BG σ (PA σ K) :=
  ⟨fun b x y => by rw [PA_o (by omega)]; exact cpy19 x y, fun b x => by rw [PA_o (by omega)]; exact cpy19o (by decide), fun a b x y => by rw [PA_o (by omega)]; exact cpy19o (scr_a y)⟩
theorem RO_PA {σ : St} {K : Int → Bool} (h : RO σ) : RO (PA σ K) := by
  refine ⟨by rw [PA_o (by omega)]; exact h.1, ?_, fun o a b => by rw [PA_o (by omega)]; exact h.2.2.1 o a b, fun o a b => by rw [PA_o (by omega)]; exact h.2.2.2.1 o a b, fun o a b => by rw [PA_o (by omega)]; exact h.2.2.2.2.1 o a b, fun o a b => by rw [PA_o (by omega)]; exact h.2.2.2.2.2 o a b⟩
  rw [PA_1]
  refine ⟨fun j a b => by rw [wPA_o (by omega)]; exact h.2.1.1 j a b, fun j a b => by rw [wPA_o (by omega)]; exact h.2.1.2.1 j a b, fun j a b => ?_, fun j a b => by rw [wPA_o (by omega)]; exact h.2.1.2.2.2 j a b⟩
  have := h.2.1.2.2.1 j a b
  unfold wPA
  split <;> omega
/-- the bits of those promised, and one more -/
theorem PA_tb {σ : St} {K : Int → Bool} {o q : Int} (h : RO σ) (ho : 0 ≤ o ∧ o < 24) (hq : 0 ≤ q) (hqn : q < σ 0 5) : tb (ior (TH (PA σ K) 1) (pw o)) q = (kdB σ 1 q || ins K o q) := by
  have hn := h.1
  have e5 : PA σ K 0 5 = σ 0 5 := by rw [PA_o (by omega)]; rfl
  rw [tb_ior (a := TH (PA σ K) 1) (bsI (by rw [e5]; exact hn)) (pw_b (by omega)), tb_TH (by rw [e5]; exact hn.1) hq, e5, decide_eq_true hqn, Bool.true_and, tb_pw ho.1 hq]
  unfold kdB ins
  rw [PA_k ⟨hq, by omega⟩]
  cases K q
  · rw [if_neg (by decide), Bool.false_or]
  · rw [if_pos rfl, decide_eq_true rfl, Bool.true_or, Bool.or_true]
theorem PA_can {σ τ : St} {K : Int → Bool} {o : Int} (h : RO σ) (ho : 0 ≤ o ∧ o < σ 0 5) : CAN (S1 (PA σ K) τ) o (ior (TH (PA σ K) 1) (pw o)) ↔ CANP σ o (fun q => kdB σ 1 q || ins K o q) :=
  CAN_P h ho (by show PA σ K 0 5 = _; rw [PA_o (by omega)]; rfl) (fun j a b => by show PA σ K 1 j = _; rw [PA_o (by omega)]; rfl) (fun q a b => by
    have hn := h.1
    refine ⟨?_, ?_, ?_, ?_, PA_tb h ⟨ho.1, by omega⟩ a b⟩
    · show PA σ K 2 q = _; rw [PA_o (by omega)]; rfl
    · show PA σ K 3 q = _; rw [PA_o (by omega)]; rfl
    · show PA σ K 1 (64 + q) = _; rw [PA_o (by omega)]; rfl
    · show PA σ K 4 q = _; rw [PA_o (by omega)]; rfl)

theorem hyVX9_promiseAll : yX9_promiseAll.cls = RX9 ∧ yX9_promiseAll.cls ≠ "java/lang/invoke/MethodHandle" ∧ yX9_promiseAll.cls ≠ "java/lang/invoke/VarHandle" ∧ (parseMethodDescriptor yX9_promiseAll.desc).map (fun d => d.parameters.length) = some 0 := by decide +kernel
theorem uX9_promiseAll_X9 : ∀ w ∈ u_ws RX9 TX9 35, w ∈ wsX9_promiseAll := by decide +kernel
theorem fX9_promiseAll_9 : Cond.fieldLink RX9 9 (TX9 0).1 (TX9 0).2.1 (TX9 0).2.2.1 ∈ wsX9_promiseAll := by decide +kernel
set_option maxHeartbeats 4000000 in
set_option maxRecDepth 100000 in
theorem c_X9_promiseAll {l : Launch} {G : Gy} (hG : Inj G) (σ : St) (h : RO σ) (hd : 0 ≤ σ 0 11 ∧ σ 0 11 ≤ 12) : MI l yX9_promiseAll wsX9_promiseAll ({ frames := 6, cells := 0, slots := 0, locals := 136 } : Room) G [.ref (G.2.2 0)] σ (fun x σ2 => x = cnt (σ 0 5) (KP σ 240) ∧ ∃ τ, σ2 = SC (CG σ (wPA σ (KP σ 240))) τ) := by
  refine MI.of hG (by decide +kernel) rfl rfl (Nat.le_of_ble_eq_true rfl) rfl ?_
  intro p e s m args below meth c H0 Q hC hret
  have hn := h.1
  have L12 : ∀ (n : Nat) (t : Nat) (L x : Int) (τ : St), (240 - t) = n → (t ≤ 240) → (0 ≤ L ∧ L ≤ 2147483647) → (∀ q, 0 ≤ q → (tb L q = true ↔ q < σ 0 5 ∧ kdB σ 0 q = true ∧ (t : Int) ≤ kap (σ 5) q)) → (x = cnt (σ 0 5) (KP σ t)) → wp p l e ({ frames := 6, cells := 0, slots := 0, locals := 136 } : Room) s m args below meth c (aA G (Array.size H0)) H0 4 Q G (S1 (PA σ (KP σ t)) τ) 12 [(0, .ref (G.2.2 0)), (1, .int (zI (L))), (2, .int (zI (x)))] [] := by
    intro n12
    induction n12 using Nat.strongRecOn with
    | ind n12 ih =>
      intro t L x τ hm12 ht hL hi hx
      have hρ : RO (PA σ (KP σ t)) := RO_PA h
      have e5 : PA σ (KP σ t) 0 5 = σ 0 5 := by rw [PA_o (by omega)]; rfl
      have hxr := cnt_rng (K := KP σ t) hn.1
      refine wp_iload_n hC dX9_promiseAll_12 rfl ?_
      refine wp_if_eq (tgt := 62) hC dX9_promiseAll_13 (by decide) (by omega) (fun c_13 => ?_) (fun c_13 => ?_)
      · have hK9 : KP σ 240 = KP σ t := by
          have := kf_skip (n := σ 0 5) (rk := σ 5) (cand := kdB σ 0) (ok := fun K o => CANP σ o (fun q => kdB σ 1 q || ins K o q)) (t := t) (240 - t) (fun q a b w => left_none (by rw [c_13] at hi; exact hi) q a b w _)
          rw [show t + (240 - t) = 240 by omega] at this
          exact this
        refine wp_aload_n hC dX9_promiseAll_62 rfl ?_
        refine wp_callVu (As := []) hC (c_X9_changed hG (S1 (PA σ (KP σ t)) τ) (show 0 ≤ PA σ (KP σ t) 0 11 ∧ PA σ (KP σ t) 0 11 ≤ 12 by rw [PA_o (by omega)]; exact hd) (show iR (PA σ (KP σ t) 0 5) by rw [e5]; omega)) gX9_promiseAll_X9_changed rfl ⟨rfl, rfl⟩ ⟨by decide, by decide⟩ hyVX9_changed (rfl) (by decide) (rfl) rfl (Nat.le_of_ble_eq_true rfl) dX9_promiseAll_63 ?_
        refine wp_iload_n hC dX9_promiseAll_66 rfl ?_
        exact hret _ _ _ _ (by omega) rfl (⟨by rw [hK9]; exact hx, _, (BG_CG hd (BG_S1 BG_PA)).trans (by rw [show S1 (PA σ (KP σ t)) τ 1 = wPA σ (KP σ 240) from by rw [hK9]; exact PA_1])⟩) dX9_promiseAll_67
      · refine wp_aload_n hC dX9_promiseAll_16 rfl ?_
        refine wp_iload_n hC dX9_promiseAll_17 rfl ?_
        refine wp_callVp (As := [_]) hC (c_X9_nextOf hG (S1 (PA σ (KP σ t)) τ) hρ hL) gX9_promiseAll_X9_nextOf rfl ⟨rfl, rfl⟩ ⟨by decide, by decide⟩ hyVX9_nextOf (rfl) (by decide) (rfl) rfl (Nat.le_of_ble_eq_true rfl) dX9_promiseAll_18 (fun x_18 hx_18 hp_18 => ?_)
        have hp_18 : firstN (σ 5) (σ 0 5) (tb L) x_18 := by
          have e : (PA σ (KP σ t)) 5 = σ 5 := by funext b; rw [PA_o (by omega)]; rfl
          have z : firstN (PA σ (KP σ t) 5) (PA σ (KP σ t) 0 5) (tb L) x_18 := hp_18
          rw [e, e5] at z; exact z
        obtain ⟨ho, hca, hle, hskip, hL2⟩ := left_step hn hL hi c_13 hp_18
        have hkr := kap_rng h (o := x_18) (by omega)
        have ho24 : 0 ≤ x_18 ∧ x_18 < 24 := by omega
        have hK0 : KP σ ((kap (σ 5) x_18).toNat) = KP σ t := by
          have := kf_skip (n := σ 0 5) (rk := σ 5) (cand := kdB σ 0) (ok := fun K o => CANP σ o (fun q => kdB σ 1 q || ins K o q)) (t := t) ((kap (σ 5) x_18).toNat - t) (fun q a b w z => hskip q a b w ⟨z.1, by omega⟩)
          rw [show t + ((kap (σ 5) x_18).toNat - t) = (kap (σ 5) x_18).toNat by omega] at this
          exact this
        refine wp_istore_n (lv2 := [(0, _), (1, _), (2, _), (3, _)]) hC dX9_promiseAll_21 rfl (by decide) ?_
        refine wp_iload_n hC dX9_promiseAll_22 rfl ?_
        refine wp_iconst hC dX9_promiseAll_23 ?_
        refine wp_iload_n hC dX9_promiseAll_24 rfl ?_
        refine wp_ishl hC dX9_promiseAll_25 ?_
        refine wp_top (b := pw x_18) (ishl_1 (by omega) (by omega)) ?_
        refine wp_iconst hC dX9_promiseAll_26 ?_
        refine wp_ixor hC dX9_promiseAll_27 ?_
        refine wp_iand hC dX9_promiseAll_28 ?_
        refine wp_istore_n (lv2 := [(0, _), (1, _), (2, _), (3, _)]) hC dX9_promiseAll_29 rfl (by decide) ?_
        refine wp_aload_n hC dX9_promiseAll_30 rfl ?_
        refine wp_iload_n hC dX9_promiseAll_31 rfl ?_
        refine wp_aload_n hC dX9_promiseAll_32 rfl ?_
        refine wp_iconst hC dX9_promiseAll_33 ?_
        refine wp_callVe (As := [_]) hC (c_X9_those hG (S1 (PA σ (KP σ t)) τ) (by omega) (kI hρ) hρ.1) gX9_promiseAll_X9_those rfl ⟨rfl, rfl⟩ ⟨by decide, by decide⟩ hyVX9_those (rfl) (by decide) (rfl) rfl (Nat.le_of_ble_eq_true rfl) dX9_promiseAll_34 (fun hx_34 => ?_)
        refine wp_top (b := TH (PA σ (KP σ t)) 1) rfl ?_
        refine wp_callVi (As := [_, _]) hC (c_X9_canBe hG (S1 (PA σ (KP σ t)) τ) hρ (by omega) (bsI hρ.1)) gX9_promiseAll_X9_canBe rfl ⟨rfl, rfl⟩ ⟨by decide, by decide⟩ hyVX9_canBe (rfl) (by decide) (rfl) rfl (Nat.le_of_ble_eq_true rfl) dX9_promiseAll_37 (fun x_37 s_37 hx_37 hp_37 => ?_)
        obtain ⟨hb_37, τ1, rfl⟩ := hp_37
        have hb_37 := bP_c hb_37 (PA_can h ho)
        refine wp_if_ne (tgt := 46) hC dX9_promiseAll_40 (by decide) (bP_iR hb_37) (fun c_40 => ?_) (fun c_40 => ?_)
        · have hK1 : KP σ ((kap (σ 5) x_18).toNat + 1) = ins (KP σ t) x_18 := by
            rw [← hK0]; exact kf_ins hn.2 ho (by omega) hca (by show CANP σ x_18 (fun q => kdB σ 1 q || ins (KP σ (kap (σ 5) x_18).toNat) x_18 q); rw [hK0]; exact bP_1 hb_37 c_40)
          refine wp_aload_n hC dX9_promiseAll_46 rfl ?_
          refine wp_geta (k := 0) hC (rfl) (by decide) (rfl) (rfl) (by decide) uX9_promiseAll_X9 fX9_promiseAll_9 (rfl) dX9_promiseAll_47 ?_
          refine wp_bipush hC dX9_promiseAll_50 rfl ?_
          refine wp_iload_n hC dX9_promiseAll_52 rfl ?_
          refine wp_iadd hC dX9_promiseAll_53 ?_
          refine wp_iconst hC dX9_promiseAll_54 ?_
          refine wp_iast (n := 88) hC (rfl) (Nat.le_of_ble_eq_true rfl) (rfl) (by decide) (by omega) dX9_promiseAll_55 ?_
          refine wp_iinc (lv2 := [(0, _), (1, _), (2, _), (3, _)]) hC dX9_promiseAll_56 rfl rfl (by decide) ?_
          refine wp_goto (tgt := 12) hC dX9_promiseAll_59 (by decide) ?_
          refine wp_lv hC [0, 1, 2] rfl ?_
          refine wp_st (σ2 := S1 (PA σ (KP σ ((kap (σ 5) x_18).toNat + 1))) τ1) (by rw [S1_S1, S1_putc rfl, PA_put ho24, hK1]) ?_
          exact ih _ (by omega) _ _ _ _ rfl (by omega) (iand_nn hL) hL2 (by rw [hK1, hx]; exact (cnt_ins ho (kf_fut hle)).symm)
        · have hK1 : KP σ ((kap (σ 5) x_18).toNat + 1) = KP σ t := by
            rw [← hK0]; exact kf_no hn.2 ho (by omega) (by show ¬ CANP σ x_18 (fun q => kdB σ 1 q || ins (KP σ (kap (σ 5) x_18).toNat) x_18 q); rw [hK0]; exact bP_0 hb_37 c_40)
          refine wp_goto (tgt := 12) hC dX9_promiseAll_43 (by decide) ?_
          refine wp_lv hC [0, 1, 2] rfl ?_
          refine wp_st (σ2 := S1 (PA σ (KP σ ((kap (σ 5) x_18).toNat + 1))) τ1) (by rw [S1_S1, hK1]) ?_
          exact ih _ (by omega) _ _ _ _ rfl (by omega) (iand_nn hL) hL2 (by rw [hK1]; exact hx)
  refine wp_aload_n hC dX9_promiseAll_0 rfl ?_
  refine wp_callVu (As := []) hC (c_X9_begins hG _) gX9_promiseAll_X9_begins rfl ⟨rfl, rfl⟩ ⟨by decide, by decide⟩ hyVX9_begins (rfl) (by decide) (rfl) rfl (Nat.le_of_ble_eq_true rfl) dX9_promiseAll_1 ?_
  refine wp_aload_n hC dX9_promiseAll_4 rfl ?_
  refine wp_iconst hC dX9_promiseAll_5 ?_
  refine wp_callVe (As := [_]) hC (c_X9_those hG (cpy σ 1 9 88) (by omega) (kI h) h.1) gX9_promiseAll_X9_those rfl ⟨rfl, rfl⟩ ⟨by decide, by decide⟩ hyVX9_those (rfl) (by decide) (rfl) rfl (Nat.le_of_ble_eq_true rfl) dX9_promiseAll_6 (fun hx_6 => ?_)
  refine wp_istore_n (lv2 := [(0, _), (1, _)]) hC dX9_promiseAll_9 rfl (by decide) ?_
  refine wp_iconst hC dX9_promiseAll_10 ?_
  refine wp_istore_n (lv2 := [(0, _), (1, _), (2, _)]) hC dX9_promiseAll_11 rfl (by decide) ?_
  refine wp_st (σ2 := S1 (PA σ (KP σ 0)) σ) ?_ ?_
  · rw [PA_0]; funext a b; cases hs : scr1 a b
    · rw [S1_n hs]; rfl
    · rw [S1_y hs]; unfold PA; rw [if_neg (fun z => by cases z.2.2.2)]; rcases (show a = 11 ∨ a = 0 by unfold scr1 at hs; simp only [Bool.or_eq_true, Bool.and_eq_true, beq_iff_eq] at hs; omega) with e | e <;> rw [e] <;> rfl
  exact L12 _ 0 _ _ _ rfl (by decide) (bsI hn) (fun q a => by
    show tb (TH σ 0) q = true ↔ _
    rw [tb_TH hn.1 a, Bool.and_eq_true, decide_eq_true_eq]
    exact ⟨fun z => ⟨z.1, z.2, by have z1 := z.1; have := kap_rng h (o := q) ⟨a, by omega⟩; omega⟩, fun z => ⟨z.1, z.2.1⟩⟩) (cnt_0 hn.1).symm

theorem S1_SC2 {σ τ τ1 : St} : S1 (SC σ τ) τ1 = SC σ (S1 τ τ1) := by
  funext a b
  cases h : scr a b
  · rw [SC_n h, S1_n (scr1_scr h), SC_n h]
  · rw [SC_y h]
    cases h1 : scr1 a b
    · rw [S1_n h1, S1_n h1, SC_y h]
    · rw [S1_y h1, S1_y h1]
/-- the kept ones as the reference has them: bits, how many, the row in turn -/
def KF (σ : St) (t : Nat) (τ : St) : Prop := ((0 ≤ τ 0 32 ∧ τ 0 32 ≤ 2147483647) ∧ ∀ q, 0 ≤ q → (tb (τ 0 32) q = true ↔ KK σ t q = true)) ∧ τ 0 31 = cnt (σ 0 5) (KK σ t) ∧ ∀ i, 0 ≤ i → i < τ 0 31 → (0 ≤ τ 19 i ∧ τ 19 i < σ 0 5) ∧ KK σ t (τ 19 i) = true ∧ cntk (σ 0 5) (σ 5) (KK σ t) (kap (σ 5) (τ 19 i)) = i
/-- how far one comes, till an order's turn -/
def tT (σ : St) (till : Int) : Nat := if 0 ≤ till ∧ till < σ 0 5 ∧ σ 1 (40 + till) = 1 then (kap (σ 5) till).toNat else 240
theorem tT_le {σ : St} {till : Int} (h : RO σ) : tT σ till ≤ 240 := by
  unfold tT
  split
  · rename_i z
    have := h.1
    have := kap_rng h (o := till) (by omega)
    omega
  · exact Nat.le_refl _
theorem KK_skip {σ : St} {t u : Nat} (htu : t ≤ u) (h : ∀ q, 0 ≤ q → q < σ 0 5 → kdB σ 1 q = true → ¬ ((t : Int) ≤ kap (σ 5) q ∧ kap (σ 5) q < u)) : KK σ u = KK σ t := by
  have := kf_skip (n := σ 0 5) (rk := σ 5) (cand := kdB σ 1) (ok := fun K o => MET σ (ins K o)) (t := t) (u - t) (fun q a b w z => h q a b w ⟨z.1, by omega⟩)
  rw [show t + (u - t) = u by omega] at this
  exact this
theorem KF_add {σ τ : St} {t : Nat} {o : Int} (h : RO σ) (ho : 0 ≤ o ∧ o < σ 0 5) (ht : kap (σ 5) o = t) (hK : KK σ (t + 1) = ins (KK σ t) o) (hf : KF σ t τ) : KF σ (t + 1) (put (put (put τ 19 (τ 0 31) o) 0 31 (τ 0 31 + 1)) 0 32 (ior (τ 0 32) (pw o))) := by
  obtain ⟨⟨f1, f2⟩, f3, f4⟩ := hf
  have hn := h.1
  have hfut : KK σ t o = false := kf_fut (by omega)
  have hcr := cnt_rng (K := KK σ t) hn.1
  refine ⟨⟨ior_nn f1 (pw_b (by omega)), fun q a => ?_⟩, ?_, fun i a b => ?_⟩
  · show tb (ior (τ 0 32) (pw o)) q = true ↔ _
    rw [tb_ior f1 (pw_b (by omega)), hK, tb_pw ho.1 a]
    unfold ins
    rw [Bool.or_eq_true, Bool.or_eq_true, f2 q a]
  · show τ 0 31 + 1 = _
    rw [hK, cnt_ins ho hfut, f3]
  · have b2 : i < τ 0 31 + 1 := b
    show (0 ≤ (if 19 = 19 ∧ i = τ 0 31 then o else τ 19 i) ∧ (if 19 = 19 ∧ i = τ 0 31 then o else τ 19 i) < σ 0 5) ∧ KK σ (t + 1) (if 19 = 19 ∧ i = τ 0 31 then o else τ 19 i) = true ∧ cntk (σ 0 5) (σ 5) (KK σ (t + 1)) (kap (σ 5) (if 19 = 19 ∧ i = τ 0 31 then o else τ 19 i)) = i
    rw [hK]
    by_cases e : i = τ 0 31
    · rw [if_pos ⟨rfl, e⟩]
      refine ⟨ho, by unfold ins; rw [decide_eq_true rfl, Bool.or_true], ?_⟩
      rw [cntk_ins_o (Int.le_refl _), cntk_all (fun q x y z => by have := (kf_in z).2.2.1; omega), e, f3]
    · rw [if_neg (fun z => e z.2)]
      obtain ⟨g1, g2, g3⟩ := f4 i a (by omega)
      have hl := (kf_in g2).2.2.1
      refine ⟨g1, by unfold ins; rw [g2, Bool.true_or], ?_⟩
      rw [cntk_ins_o (by omega), g3]

theorem hyVX9_findKept : yX9_findKept.cls = RX9 ∧ yX9_findKept.cls ≠ "java/lang/invoke/MethodHandle" ∧ yX9_findKept.cls ≠ "java/lang/invoke/VarHandle" ∧ (parseMethodDescriptor yX9_findKept.desc).map (fun d => d.parameters.length) = some 1 := by decide +kernel
theorem uX9_findKept_X9 : ∀ w ∈ u_ws RX9 TX9 35, w ∈ wsX9_findKept := by decide +kernel
theorem fX9_findKept_262 : Cond.fieldLink RX9 262 (TX9 32).1 (TX9 32).2.1 (TX9 32).2.2.1 ∈ wsX9_findKept := by decide +kernel
theorem fX9_findKept_70 : Cond.fieldLink RX9 70 (TX9 30).1 (TX9 30).2.1 (TX9 30).2.2.1 ∈ wsX9_findKept := by decide +kernel
theorem fX9_findKept_259 : Cond.fieldLink RX9 259 (TX9 31).1 (TX9 31).2.1 (TX9 31).2.2.1 ∈ wsX9_findKept := by decide +kernel
set_option maxHeartbeats 4000000 in
set_option maxRecDepth 100000 in
theorem c_X9_findKept {l : Launch} {G : Gy} (hG : Inj G) (σ : St) {till : Int} (h : RO σ) (htl : iR till) : MV l yX9_findKept wsX9_findKept ({ frames := 5, cells := 0, slots := 0, locals := 113 } : Room) G [.ref (G.2.2 0), .int (zI (till))] σ (fun σ2 => ∃ τ, σ2 = SC σ τ ∧ KF σ (tT σ till) τ) := by
  refine MV.of hG (by decide +kernel) rfl rfl (Nat.le_of_ble_eq_true rfl) rfl ?_
  intro p e s m args below meth c H0 Q hC hret
  have hn := h.1
  have L16 : ∀ (n : Nat) (t : Nat) (L : Int) (τ : St), (240 - t) = n → (t ≤ 240) → (t ≤ tT σ till) → (0 ≤ L ∧ L ≤ 2147483647) → (∀ q, 0 ≤ q → (tb L q = true ↔ q < σ 0 5 ∧ kdB σ 1 q = true ∧ (t : Int) ≤ kap (σ 5) q)) → (KF σ t τ) → wp p l e ({ frames := 5, cells := 0, slots := 0, locals := 113 } : Room) s m args below meth c (aA G (Array.size H0)) H0 4 Q G (SC σ τ) 16 [(0, .ref (G.2.2 0)), (1, .int (zI (till))), (2, .int (zI (L)))] [] := by
    intro n16
    induction n16 using Nat.strongRecOn with
    | ind n16 ih =>
      intro t L τ hm16 ht htT hL hi hf
      obtain ⟨⟨f1, f2⟩, f3, f4⟩ := id hf
      have hcr := cnt_rng (K := KK σ t) hn.1
      have hT : tT σ till ≤ 240 := tT_le h
      refine wp_iload_n hC dX9_findKept_16 rfl ?_
      refine wp_if_eq (tgt := 93) hC dX9_findKept_17 (by decide) (by omega) (fun c_17 => ?_) (fun c_17 => ?_)
      · exact hret _ _ _ (⟨τ, rfl, by
          have hK : KK σ (tT σ till) = KK σ t := KK_skip htT (fun q a b w => left_none (by rw [c_17] at hi; exact hi) q a b w _)
          refine ⟨⟨f1, fun q a => by rw [hK]; exact f2 q a⟩, by rw [hK]; exact f3, fun i a b => by rw [hK]; exact f4 i a b⟩⟩) dX9_findKept_93
      · refine wp_aload_n hC dX9_findKept_20 rfl ?_
        refine wp_iload_n hC dX9_findKept_21 rfl ?_
        refine wp_callVp (As := [_]) hC (c_X9_nextOf hG (SC σ τ) h hL) gX9_findKept_X9_nextOf rfl ⟨rfl, rfl⟩ ⟨by decide, by decide⟩ hyVX9_nextOf (rfl) (by decide) (rfl) rfl (Nat.le_of_ble_eq_true rfl) dX9_findKept_22 (fun x_22 hx_22 hp_22 => ?_)
        have hp_22 : firstN (σ 5) (σ 0 5) (tb L) x_22 := hp_22
        obtain ⟨ho, hca, hle, hskip, hL2⟩ := left_step hn hL hi c_17 hp_22
        have hkr := kap_rng h (o := x_22) (by omega)
        have hK0 : KK σ ((kap (σ 5) x_22).toNat) = KK σ t := KK_skip (by omega) (fun q a b w z => hskip q a b w ⟨z.1, by omega⟩)
        have hc1 : σ 1 (40 + x_22) = 1 := decide_eq_true_eq.mp hca
        refine wp_istore_n (lv2 := [(0, _), (1, _), (2, _), (3, _)]) hC dX9_findKept_25 rfl (by decide) ?_
        refine wp_iload_n hC dX9_findKept_26 rfl ?_
        refine wp_iload_n hC dX9_findKept_27 rfl ?_
        refine wp_icmp_ne (tgt := 32) hC dX9_findKept_28 (by decide) (by omega) (by omega) (fun c_28 => ?_) (fun c_28 => ?_)
        · have hlt : (kap (σ 5) x_22).toNat + 1 ≤ tT σ till := by
            have e := Nat.le_refl (tT σ till)
            unfold tT at htT hT ⊢
            split at htT
            · rename_i z
              rw [if_pos z]
              have hz := hskip till z.1 z.2.1 (decide_eq_true_eq.mpr z.2.2)
              have hne : kap (σ 5) x_22 ≠ kap (σ 5) till := fun y => c_28 (kap_inj ⟨ho.1, by omega⟩ ⟨z.1, by omega⟩ y)
              have := kap_rng h (o := till) (by omega)
              omega
            · rename_i z
              rw [if_neg z]; omega
          refine wp_iload_n hC dX9_findKept_32 rfl ?_
          refine wp_iconst hC dX9_findKept_33 ?_
          refine wp_iload_n hC dX9_findKept_34 rfl ?_
          refine wp_ishl hC dX9_findKept_35 ?_
          refine wp_top (b := pw x_22) (ishl_1 (by omega) (by omega)) ?_
          refine wp_iconst hC dX9_findKept_36 ?_
          refine wp_ixor hC dX9_findKept_37 ?_
          refine wp_iand hC dX9_findKept_38 ?_
          refine wp_istore_n (lv2 := [(0, _), (1, _), (2, _), (3, _)]) hC dX9_findKept_39 rfl (by decide) ?_
          refine wp_aload_n hC dX9_findKept_40 rfl ?_
          refine wp_aload_n hC dX9_findKept_41 rfl ?_
          refine wp_geti (k := 32) (z := 32) hC rfl (rfl) (by decide) (rfl) (rfl) (by decide) uX9_findKept_X9 fX9_findKept_262 (rfl) dX9_findKept_42 ?_
          refine wp_iconst hC dX9_findKept_45 ?_
          refine wp_iload_n hC dX9_findKept_46 rfl ?_
          refine wp_ishl hC dX9_findKept_47 ?_
          refine wp_top (b := pw x_22) (ishl_1 (by omega) (by omega)) ?_
          refine wp_ior hC dX9_findKept_48 ?_
          refine wp_top (b := ior (τ 0 32) (pw x_22)) rfl ?_
          refine wp_callVi (As := [_]) hC (c_X9_isMet hG (SC σ τ) h (ior_nn f1 (pw_b (by omega)))) gX9_findKept_X9_isMet rfl ⟨rfl, rfl⟩ ⟨by decide, by decide⟩ hyVX9_isMet (rfl) (by decide) (rfl) rfl (Nat.le_of_ble_eq_true rfl) dX9_findKept_49 (fun x_49 s_49 hx_49 hp_49 => ?_)
          obtain ⟨hb_49, hf_49⟩ := hp_49
          obtain ⟨τ1, rfl⟩ := FLP_S1 hf_49
          refine wp_st (S1_SC2) ?_
          have hb_49 : bP x_49 (MET σ (ins (KK σ t) x_22)) := bP_c hb_49 (MET_c rfl (fun _ _ _ => rfl) (fun q a b => ⟨rfl, rfl, rfl, by
            show tb (ior (τ 0 32) (pw x_22)) q = _
            rw [Bool.eq_iff_iff, tb_ior f1 (pw_b (by omega)), tb_pw ho.1 a]
            unfold ins
            rw [Bool.or_eq_true, Bool.or_eq_true, f2 q a]⟩))
          refine wp_if_ne (tgt := 58) hC dX9_findKept_52 (by decide) (bP_iR hb_49) (fun c_52 => ?_) (fun c_52 => ?_)
          · have hcs : cnt (σ 0 5) (KK σ t) + 1 ≤ σ 0 5 := by
              rw [← cnt_ins (K := KK σ t) ho (kf_fut hle)]; exact (cnt_rng hn.1).2
            refine wp_aload_n hC dX9_findKept_58 rfl ?_
            refine wp_geta (k := 30) hC (rfl) (by decide) (rfl) (rfl) (by decide) uX9_findKept_X9 fX9_findKept_70 (rfl) dX9_findKept_59 ?_
            refine wp_aload_n hC dX9_findKept_62 rfl ?_
            refine wp_geti (k := 31) (z := 31) hC rfl (rfl) (by decide) (rfl) (rfl) (by decide) uX9_findKept_X9 fX9_findKept_259 (rfl) dX9_findKept_63 ?_
            refine wp_top (b := τ 0 31) rfl ?_
            refine wp_iload_n hC dX9_findKept_66 rfl ?_
            refine wp_iast (n := 24) hC (rfl) (Nat.le_of_ble_eq_true rfl) (rfl) (by decide) (by omega) dX9_findKept_67 ?_
            refine wp_aload_n hC dX9_findKept_68 rfl ?_
            refine wp_dup hC dX9_findKept_69 rfl ?_
            refine wp_geti (k := 31) (z := 31) hC rfl (rfl) (by decide) (rfl) (rfl) (by decide) uX9_findKept_X9 fX9_findKept_259 (rfl) dX9_findKept_70 ?_
            refine wp_top (b := τ 0 31) rfl ?_
            refine wp_iconst hC dX9_findKept_73 ?_
            refine wp_iadd hC dX9_findKept_74 ?_
            refine wp_puti2 (k := 31) (z := 31) hC rfl (rfl) (by decide) (rfl) (rfl) (by decide) uX9_findKept_X9 fX9_findKept_259 tyX9 tyX9_ok nmX9 rfl rfl (rfl) dX9_findKept_75 ?_
            refine wp_aload_n hC dX9_findKept_78 rfl ?_
            refine wp_dup hC dX9_findKept_79 rfl ?_
            refine wp_geti (k := 32) (z := 32) hC rfl (rfl) (by decide) (rfl) (rfl) (by decide) uX9_findKept_X9 fX9_findKept_262 (rfl) dX9_findKept_80 ?_
            refine wp_top (b := τ 0 32) rfl ?_
            refine wp_iconst hC dX9_findKept_83 ?_
            refine wp_iload_n hC dX9_findKept_84 rfl ?_
            refine wp_ishl hC dX9_findKept_85 ?_
            refine wp_top (b := pw x_22) (ishl_1 (by omega) (by omega)) ?_
            refine wp_ior hC dX9_findKept_86 ?_
            refine wp_puti2 (k := 32) (z := 32) hC rfl (rfl) (by decide) (rfl) (rfl) (by decide) uX9_findKept_X9 fX9_findKept_262 tyX9 tyX9_ok nmX9 rfl rfl (rfl) dX9_findKept_87 ?_
            refine wp_goto (tgt := 16) hC dX9_findKept_90 (by decide) ?_
            refine wp_lv hC [0, 1, 2] rfl ?_
            refine wp_st (σ2 := SC σ (put (put (put (S1 τ τ1) 19 (τ 0 31) x_22) 0 31 (τ 0 31 + 1)) 0 32 (ior (τ 0 32) (pw x_22)))) (by rw [SC_put rfl, SC_put rfl, SC_put rfl]) ?_
            exact ih _ (by omega) _ _ _ rfl (by omega) (by omega) (iand_nn hL) hL2 (by
              have hK1 : KK σ ((kap (σ 5) x_22).toNat + 1) = ins (KK σ (kap (σ 5) x_22).toNat) x_22 := kf_ins hn.2 ho (by omega) hca (by show MET σ (ins (KK σ (kap (σ 5) x_22).toNat) x_22); rw [hK0]; exact bP_1 hb_49 c_52)
              refine KF_add (τ := S1 τ τ1) h ho (by omega) hK1 ?_
              refine ⟨⟨f1, fun q a => by rw [hK0]; exact f2 q a⟩, by rw [hK0]; exact f3, fun i a b => by rw [hK0]; exact f4 i a b⟩)
          · refine wp_goto (tgt := 16) hC dX9_findKept_55 (by decide) ?_
            refine wp_lv hC [0, 1, 2] rfl ?_
            exact ih _ (by omega) _ _ _ rfl (by omega) (by omega) (iand_nn hL) hL2 (by
              have hK1 : KK σ ((kap (σ 5) x_22).toNat + 1) = KK σ t := by
                rw [← hK0]; exact kf_no hn.2 ho (by omega) (by show ¬ MET σ (ins (KK σ (kap (σ 5) x_22).toNat) x_22); rw [hK0]; exact bP_0 hb_49 c_52)
              refine ⟨⟨f1, fun q a => by rw [hK1]; exact f2 q a⟩, by rw [hK1]; exact f3, fun i a b => by rw [hK1]; exact f4 i a b⟩)
        · exact hret _ _ _ (⟨τ, rfl, by
            have e : tT σ till = (kap (σ 5) x_22).toNat := by
              unfold tT; rw [← c_28, if_pos ⟨ho.1, ho.2, hc1⟩]
            rw [e]
            refine ⟨⟨f1, fun q a => by rw [hK0]; exact f2 q a⟩, by rw [hK0]; exact f3, fun i a b => by rw [hK0]; exact f4 i a b⟩⟩) dX9_findKept_31
  refine wp_aload_n hC dX9_findKept_0 rfl ?_
  refine wp_iconst hC dX9_findKept_1 ?_
  refine wp_callVe (As := [_]) hC (c_X9_those hG _ (by omega) (kI h) h.1) gX9_findKept_X9_those rfl ⟨rfl, rfl⟩ ⟨by decide, by decide⟩ hyVX9_those (rfl) (by decide) (rfl) rfl (Nat.le_of_ble_eq_true rfl) dX9_findKept_2 (fun hx_2 => ?_)
  refine wp_top (b := TH σ 1) rfl ?_
  refine wp_istore_n (lv2 := [(0, _), (1, _), (2, _)]) hC dX9_findKept_5 rfl (by decide) ?_
  refine wp_aload_n hC dX9_findKept_6 rfl ?_
  refine wp_iconst hC dX9_findKept_7 ?_
  refine wp_puti2 (k := 31) (z := 31) hC rfl (rfl) (by decide) (rfl) (rfl) (by decide) uX9_findKept_X9 fX9_findKept_259 tyX9 tyX9_ok nmX9 rfl rfl (rfl) dX9_findKept_8 ?_
  refine wp_aload_n hC dX9_findKept_11 rfl ?_
  refine wp_iconst hC dX9_findKept_12 ?_
  refine wp_puti2 (k := 32) (z := 32) hC rfl (rfl) (by decide) (rfl) (rfl) (by decide) uX9_findKept_X9 fX9_findKept_262 tyX9 tyX9_ok nmX9 rfl rfl (rfl) dX9_findKept_13 ?_
  refine wp_st (σ2 := SC σ (put (put σ 0 31 0) 0 32 0)) (SC_putS (SC_put0 rfl) rfl) ?_
  exact L16 _ 0 _ _ rfl (by decide) (Nat.zero_le _) (bsI hn) (fun q a => by
    show tb (TH σ 1) q = true ↔ _
    rw [tb_TH hn.1 a, Bool.and_eq_true, decide_eq_true_eq]
    exact ⟨fun z => ⟨z.1, z.2, by have z1 := z.1; have := kap_rng h (o := q) ⟨a, by omega⟩; omega⟩, fun z => ⟨z.1, z.2.1⟩⟩) ⟨⟨by show 0 ≤ (0:Int) ∧ (0:Int) ≤ 2147483647; decide, fun q a => by
    show tb 0 q = true ↔ false = true
    unfold tb
    rw [show (0 : Int).toNat = 0 from rfl, Nat.zero_testBit]⟩, (cnt_0 hn.1).symm, fun i a b => by have b2 : i < 0 := b; omega⟩
