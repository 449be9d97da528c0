/-- kept in turn, as the class has it -/
def kdX (σ : St) (v : Int) : Int → Bool := fun q => decide (σ 111 q = v)
noncomputable def KKX (σ : St) : Nat → Int → Bool := kf (σ 83 5) (σ 88) (kdX σ 1) (fun K o => MEX σ (ins K o))
noncomputable def KS (σ : St) : Int := bsum (KKX σ 240) (σ 83 5)
def KOK (σ : St) : Prop := (σ 82 12 = 0 ∨ σ 82 12 = 1) ∧ (σ 82 12 = 1 → σ 82 11 = KS σ)
/-- all but scratch cells and the kept ones' -/
def EQK (ρ σ : St) : Prop := ∀ a b, scr a b = false → ¬ (a = 82 ∧ (b = 11 ∨ b = 12)) → ρ a b = σ a b
theorem EQK_0 {σ : St} : EQK σ σ := fun _ _ _ _ => rfl
theorem EQK_t {σ ρ τ : St} (h : EQK ρ σ) (h2 : EQK τ ρ) : EQK τ σ := fun a b x y => (h2 a b x y).trans (h a b x y)
theorem EQK_p {σ ρ : St} {a : Nat} {b v : Int} (h : EQK ρ σ) (hs : scr a b = true ∨ (a = 82 ∧ (b = 11 ∨ b = 12))) : EQK (put ρ a b v) σ := fun x y z w => by
  rw [put_q (fun q => ?_)]
  · exact h x y z w
  · rcases hs with hs | hs
    · rw [q.1, q.2, hs] at z; cases z
    · exact w ⟨q.1.trans hs.1, by rw [q.2]; exact hs.2⟩
theorem scr_hi {a : Nat} {b : Int} (h : 83 ≤ a ∧ a ≤ 88 ∨ 106 ≤ a) : scr a b = false := by
  unfold scr
  rw [if_neg (by omega), if_neg (by omega), if_neg (by omega)]
  split
  · rename_i q
    have h2 : 83 ≤ a ∧ a ≤ 88 := by omega
    rcases (show a = 83 ∨ a = 84 ∨ a = 85 ∨ a = 86 ∨ a = 87 ∨ a = 88 by omega) with rfl | rfl | rfl | rfl | rfl | rfl <;> rfl
  · rfl
theorem EQK_h {σ ρ : St} (h : EQK ρ σ) {a : Nat} (ha : 83 ≤ a ∧ a ≤ 88 ∨ 106 ≤ a) : ρ a = σ a := funext fun b => h a b (scr_hi ha) (by omega)
theorem XO_E {σ ρ : St} (h : XO σ) (e : EQK ρ σ) : XO ρ := XO_c h (fun a b z => by rw [EQK_h e (by omega)])
theorem LX_E {σ ρ : St} (e : EQK ρ σ) (P : Int → Bool) (k : Int) : LX ρ P k = LX σ P k := by
  unfold LX
  rw [EQK_h e (a := 109) (by omega), EQK_h e (a := 83) (by omega), EQK_h e (a := 84) (by omega), EQK_h e (a := 85) (by omega), EQK_h e (a := 112) (by omega)]
theorem MEX_E {σ ρ : St} (e : EQK ρ σ) (P : Int → Bool) : MEX ρ P ↔ MEX σ P := by
  unfold MEX
  constructor
  · intro h k a b; rw [← LX_E e]; exact h k a b
  · intro h k a b; rw [LX_E e]; exact h k a b
theorem KKX_E {σ ρ : St} (e : EQK ρ σ) : KKX ρ = KKX σ := by
  unfold KKX kdX
  rw [EQK_h e (a := 83) (by omega), EQK_h e (a := 88) (by omega), EQK_h e (a := 111) (by omega)]
  congr 1
  funext K o
  exact propext (MEX_E e _)
theorem KS_E {σ ρ : St} (e : EQK ρ σ) : KS ρ = KS σ := by
  unfold KS
  rw [KKX_E e, EQK_h e (a := 83) (by omega)]
theorem TX_E {σ ρ : St} (e : EQK ρ σ) (v : Int) : TX ρ v = TX σ v := by
  unfold TX
  rw [EQK_h e (a := 83) (by omega), EQK_h e (a := 111) (by omega)]
theorem EQK_LY {σ ρ : St} {B : Int} (h : EQK ρ σ) : EQK (LY ρ B) σ := fun a b x y => by
  rw [← h a b x y]
  unfold LY RW UPk
  rw [if_neg (fun z => by rw [z.1] at x; cases x), if_neg (fun z => by rw [z.1] at x; cases x)]
theorem LX_P {σ : St} {P P' : Int → Bool} (h : ∀ o, 0 ≤ o → o < σ 83 5 → P o = P' o) (k : Int) : LX σ P k = LX σ P' k := by
  unfold LX LFT
  congr 1
  exact sm_c (fun o a b => by rw [h o a b])
theorem MEX_P {σ : St} {P P' : Int → Bool} (h : ∀ o, 0 ≤ o → o < σ 83 5 → P o = P' o) : MEX σ P ↔ MEX σ P' := by
  unfold MEX
  constructor
  · intro z k a b; rw [← LX_P h]; exact z k a b
  · intro z k a b; rw [LX_P h]; exact z k a b
/-- one more counted -/
theorem LX_ins {σ : St} (h : XO σ) {P : Int → Bool} {o k : Int} (ho : 0 ≤ o ∧ o < σ 83 5) (hp : P o = false) (h0 : 0 ≤ k) (h1 : k < 2197) : LX σ (ins P o) k = LX σ P k - (if gef (FI (σ 85 o) (σ 112 o) 0) (FI (σ 85 o) (σ 112 o) 1) (FI (σ 85 o) (σ 112 o) 2) k then σ 84 o else 0) := by
  have e := hSb_FI (it := σ 85 o) (la := σ 112 o) (a := k / 169) (b := k / 13 % 13) (c := k % 13) (by omega) (by omega) (by omega)
  have hd : dm (σ 83 5) (σ 84) (σ 85) (σ 112) (ins P o) (k / 169) (k / 13 % 13) (k % 13) = dm (σ 83 5) (σ 84) (σ 85) (σ 112) P (k / 169) (k / 13 % 13) (k % 13) + (if gef (FI (σ 85 o) (σ 112 o) 0) (FI (σ 85 o) (σ 112 o) 1) (FI (σ 85 o) (σ 112 o) 2) k then σ 84 o else 0) := sm_up ho (fun q a b => by
    by_cases z : q = o
    · subst z
      rw [if_pos rfl, hp, Bool.false_and, if_neg Bool.false_ne_true, Int.zero_add]
      unfold ins
      rw [hp, decide_eq_true rfl, Bool.false_or, Bool.true_and]
      by_cases w : gef (FI (σ 85 q) (σ 112 q) 0) (FI (σ 85 q) (σ 112 q) 1) (FI (σ 85 q) (σ 112 q) 2) k
      · rw [if_pos (e.mpr w), if_pos w]
      · rw [if_neg (fun y => w (e.mp y)), if_neg w]
    · rw [if_neg z]
      unfold ins
      rw [decide_eq_false z, Bool.or_false])
  unfold LX LFT
  rw [hd]
  omega
/-- beside what is met, one more is met just if it fits -/
theorem MEX_ins {σ ρ : St} (h : XO σ) {P : Int → Bool} {o : Int} (ho : 0 ≤ o ∧ o < σ 83 5) (hp : P o = false) (hm : MEX σ P) (hl : ∀ k, 0 ≤ k → k < 2197 → ρ 92 k = LX σ P k) (e4 : ρ 84 = σ 84) (e5 : ρ 85 = σ 85) : FIT ρ o (σ 112 o) ↔ MEX σ (ins P o) := by
  unfold FIT MEX
  rw [e4, e5]
  constructor
  · intro z k a b
    rw [LX_ins h ho hp a b]
    have h1 := hm k a b
    split
    · rename_i w
      have := z k a b w
      rw [hl k a b] at this
      omega
    · omega
  · intro z k a b w
    have h1 := z k a b
    rw [LX_ins h ho hp a b, if_pos w] at h1
    rw [hl k a b]
    omega
theorem LX_0 {σ : St} (h : XO σ) {k : Int} (h0 : 0 ≤ k) (h1 : k < 2197) : 0 ≤ LX σ (fun _ => false) k := by
  have a := sq_rng (su := σ 109) h.2.1.1 (i := 0) (q := k / 169) (by omega) (by omega)
  have b := sq_rng (su := σ 109) h.2.1.1 (i := 1) (q := k / 13 % 13) (by omega) (by omega)
  have c := sq_rng (su := σ 109) h.2.1.1 (i := 2) (q := k % 13) (by omega) (by omega)
  have d : dm (σ 83 5) (σ 84) (σ 85) (σ 112) (fun _ => false) (k / 169) (k / 13 % 13) (k % 13) = 0 := by
    have e : dm (σ 83 5) (σ 84) (σ 85) (σ 112) (fun _ => false) (k / 169) (k / 13 % 13) (k % 13) = sm (fun _ => 0) (σ 83 5) := sm_c (fun o _ _ => if_neg (by rw [Bool.false_and]; decide))
    rw [e, sm_k h.1.1, Int.mul_zero]
  unfold LX LFT
  omega
theorem bs_none {n : Int} (hn : 0 ≤ n) : bsum (fun _ => false) n = 0 := by
  unfold bsum
  rw [sm_c (g := fun _ => 0) (fun k _ _ => if_neg Bool.false_ne_true), sm_k hn, Int.mul_zero]
theorem tb_0 {q : Int} : tb 0 q = false := by
  unfold tb
  rw [show (0 : Int).toNat = 0 from rfl, Nat.zero_testBit]
theorem TK_LX {σ ρ : St} (h : XO σ) {P : Int → Bool} {o : Int} (ho : 0 ≤ o ∧ o < σ 83 5) (hp : P o = false) (hl : ∀ k, 0 ≤ k → k < 2197 → ρ 92 k = LX σ P k) : ∀ k, 0 ≤ k → k < 2197 → TAK ρ (σ 85 o) (σ 112 o) (σ 84 o) 92 k = LX σ (ins P o) k := fun k a b => by
  rw [LX_ins h ho hp a b, ← hl k a b]
  unfold TAK TKk
  by_cases w : gef (FI (σ 85 o) (σ 112 o) 0) (FI (σ 85 o) (σ 112 o) 1) (FI (σ 85 o) (σ 112 o) 2) k
  · rw [if_pos w, if_pos ⟨rfl, a, b, w⟩]
  · rw [if_neg w, if_neg (fun z => w z.2.2.2), Int.sub_zero]
theorem EQK_TK {σ ρ : St} {it la am : Int} (h : EQK ρ σ) : EQK (TAK ρ it la am) σ := fun a b x y => by
  rw [← h a b x y]
  unfold TAK TKk
  rw [if_neg (fun z => by rw [z.1] at x; cases x)]
/-- bits of what is grown -/
theorem bs_ins {n o : Int} {K : Int → Bool} (hn : 0 ≤ n ∧ n ≤ 24) (ho : 0 ≤ o ∧ o < n) (hk : K o = false) : ior (bsum K n) (pw o) = bsum (ins K o) n := by
  have h1 := bsI (P := K) hn
  have hp := pw_b (o := o) (by omega)
  have e : bsum (ins K o) n = bsum K n + pw o := sm_up ho (fun q _ _ => by
    by_cases z : q = o
    · subst z
      rw [if_pos rfl, hk, if_neg Bool.false_ne_true, Int.zero_add]
      unfold ins
      rw [decide_eq_true rfl, Bool.or_true, if_pos rfl]
    · rw [if_neg z]
      unfold ins
      rw [decide_eq_false z, Bool.or_false])
  have hb : tb (bsum K n) o = false := by rw [tb_bs hn.1 ho.1, hk, Bool.and_false]
  -- both sides have the same bits
  have h2 := bsI (P := ins K o) hn
  obtain ⟨x, hx⟩ := Int.eq_ofNat_of_zero_le (ior_nn h1 hp).1
  obtain ⟨y, hy⟩ := Int.eq_ofNat_of_zero_le h2.1
  rw [hx, hy]
  congr 1
  apply Nat.eq_of_testBit_eq
  intro i
  have t1 := tb_ior (o := (i : Nat)) h1 hp
  have t2 := tb_bs (P := ins K o) (n := n) (o := (i : Nat)) hn.1 (by omega)
  rw [hx, tb_bs hn.1 (by omega), tb_pw ho.1 (by omega)] at t1
  rw [hy] at t2
  unfold tb at t1 t2
  rw [Int.toNat_natCast, Int.toNat_natCast] at t1 t2
  rw [t1, t2]
  unfold ins
  by_cases z : (i : Int) = o
  · rw [z, decide_eq_true rfl, Bool.or_true, Bool.or_true, Bool.and_true, decide_eq_true ho.2]
  · rw [decide_eq_false z, Bool.or_false, Bool.or_false]
theorem KKX_skip {σ : St} {t u : Nat} (htu : t ≤ u) (h : ∀ q, 0 ≤ q → q < σ 83 5 → kdX σ 1 q = true → ¬ ((t : Int) ≤ kap (σ 88) q ∧ kap (σ 88) q < u)) : KKX σ u = KKX σ t := by
  have := kf_skip (n := σ 83 5) (rk := σ 88) (cand := kdX σ 1) (ok := fun K o => MEX σ (ins K o)) (t := t) (u - t) (fun q a b w z => h q a b w ⟨z.1, by omega⟩)
  rw [show t + (u - t) = u by omega] at this
  exact this
theorem kapX_rng {σ : St} (h : XO σ) {o : Int} (ho : 0 ≤ o ∧ o < σ 83 5) : 0 ≤ kap (σ 88) o ∧ kap (σ 88) o < 240 := by
  have := (h.2.2 o ho.1 ho.2).2.2.2.2.2.2
  have := h.1
  unfold kap
  omega
/-- the state as so many turns are over -/
def KIN (σ ρ : St) (t : Nat) : Prop := EQK ρ σ ∧ ρ 82 11 = bsum (KKX σ t) (σ 83 5) ∧ (∀ k, 0 ≤ k → k < 2197 → ρ 92 k = LX σ (KKX σ t) k) ∧ MEX σ (KKX σ t)
theorem KIN_c {σ ρ : St} {t u : Nat} (h : KIN σ ρ t) (e : KKX σ u = KKX σ t) : KIN σ ρ u := by
  unfold KIN
  rw [e]
  exact h
theorem LX_rgK {σ ρ : St} {t : Nat} (hX : XO σ) (h : KIN σ ρ t) : ∀ k, 0 ≤ k → k < 2197 → -1440 ≤ ρ 92 k ∧ ρ 92 k ≤ 3564 := fun k a b => by
  rw [h.2.2.1 k a b]
  exact LX_rng hX _ a b

theorem hyVX8_keptOnes : yX8_keptOnes.cls = RX8 ∧ yX8_keptOnes.cls ≠ "java/lang/invoke/MethodHandle" ∧ yX8_keptOnes.cls ≠ "java/lang/invoke/VarHandle" ∧ (parseMethodDescriptor yX8_keptOnes.desc).map (fun d => d.parameters.length) = some 0 := by decide +kernel
theorem uX8_keptOnes_X8 : ∀ w ∈ u_ws RX8 TX8 13, w ∈ wsX8_keptOnes := by decide +kernel
theorem fX8_keptOnes_12 : Cond.fieldLink RX8 12 (TX8 0).1 (TX8 0).2.1 (TX8 0).2.2.1 ∈ wsX8_keptOnes := by decide +kernel
theorem uX8_keptOnes_X0 : ∀ w ∈ u_ws RX0 TX0 6, w ∈ wsX8_keptOnes := by decide +kernel
theorem fX8_keptOnes_43 : Cond.fieldLink RX8 43 (TX8 5).1 (TX8 5).2.1 (TX8 5).2.2.1 ∈ wsX8_keptOnes := by decide +kernel
theorem fX8_keptOnes_19 : Cond.fieldLink RX8 19 (TX8 1).1 (TX8 1).2.1 (TX8 1).2.2.1 ∈ wsX8_keptOnes := by decide +kernel
theorem uX8_keptOnes_X5 : ∀ w ∈ u_ws RX5 TX5 5, w ∈ wsX8_keptOnes := by decide +kernel
theorem fX8_keptOnes_319 : Cond.fieldLink RX8 319 (TX8 11).1 (TX8 11).2.1 (TX8 11).2.2.1 ∈ wsX8_keptOnes := by decide +kernel
theorem fX8_keptOnes_316 : Cond.fieldLink RX8 316 (TX8 12).1 (TX8 12).2.1 (TX8 12).2.2.1 ∈ wsX8_keptOnes := by decide +kernel
set_option maxHeartbeats 16000000 in
set_option maxRecDepth 100000 in
theorem c_X8_keptOnes {l : Launch} {G : Gy} (hG : Inj G) (σ : St) (h : XO σ) (hk : KOK σ) : MI l yX8_keptOnes wsX8_keptOnes ({ frames := 3, cells := 0, slots := 0, locals := 71 } : Room) G [.ref (G.2.2 82)] σ (fun x σ2 => x = KS σ ∧ EQK σ2 σ ∧ KOK σ2) := by
  refine MI.of hG (by decide +kernel) rfl rfl (Nat.le_of_ble_eq_true rfl) rfl ?_
  intro p e s m args below meth c H0 Q hC hret
  have hn := h.1
  have hKr := bsI (P := KKX σ 240) hn
  obtain ⟨n, hne⟩ : ∃ n, σ 83 5 = n := ⟨_, rfl⟩
  have L45 : ∀ (n : Nat) (r : Int) (ρ : St), ((r + 1).toNat) = n → (-1 ≤ r ∧ r ≤ 9) → (KIN σ ρ (24 * (9 - r)).toNat) → wp p l e ({ frames := 3, cells := 0, slots := 0, locals := 71 } : Room) s m args below meth c (aA G (Array.size H0)) H0 4 Q G ρ 45 [(0, .ref (G.2.2 82)), (1, .int (zI (TX σ 1))), (2, .int (zI (r)))] [] := by
    intro n45
    induction n45 using Nat.strongRecOn with
    | ind n45 ih =>
      intro r ρ hm45 h1 hi
      have e83 := EQK_h hi.1 (a := 83) (by omega)
      have b11 := bsI (P := KKX σ (24 * (9 - r)).toNat) hn
      have L51 : ∀ (n : Nat) (k : Int) (ρ : St), ((σ 83 5 - k).toNat) = n → (0 ≤ r) → (0 ≤ k ∧ k ≤ σ 83 5) → (KIN σ ρ (24 * (9 - r) + k).toNat) → wp p l e ({ frames := 3, cells := 0, slots := 0, locals := 71 } : Room) s m args below meth c (aA G (Array.size H0)) H0 4 Q G ρ 51 [(0, .ref (G.2.2 82)), (1, .int (zI (TX σ 1))), (2, .int (zI (r))), (3, .int (zI (k)))] [] := by
        intro n51
        induction n51 using Nat.strongRecOn with
        | ind n51 ih51 =>
          intro k ρ hm51 h3 h2 hi2
          have e83 := EQK_h hi2.1 (a := 83) (by omega)
          have e84 := EQK_h hi2.1 (a := 84) (by omega)
          have e85 := EQK_h hi2.1 (a := 85) (by omega)
          have e88 := EQK_h hi2.1 (a := 88) (by omega)
          have e112 := EQK_h hi2.1 (a := 112) (by omega)
          have hok := fun z : k < σ 83 5 => h.2.2 k h2.1 z
          have hlx := LX_rgK h hi2
          have b11 := bsI (P := KKX σ (24 * (9 - r) + k).toNat) hn
          have hXr : XO ρ := XO_E h hi2.1
          have hnx : ∀ ρ' : St, KIN σ ρ' ((24 * (9 - r) + k).toNat + 1) → KIN σ ρ' (24 * (9 - r) + (k + 1)).toNat := fun ρ' z => by rw [show (24 * (9 - r) + (k + 1)).toNat = (24 * (9 - r) + k).toNat + 1 by omega]; exact z
          refine wp_iload_n hC dX8_keptOnes_51 rfl ?_
          refine wp_aload_n hC dX8_keptOnes_52 rfl ?_
          refine wp_geta (k := 0) hC (rfl) (by decide) (rfl) (rfl) (by decide) uX8_keptOnes_X8 fX8_keptOnes_12 (rfl) dX8_keptOnes_53 ?_
          refine wp_getiN (k := 5) (z := 5) hC rfl (rfl) (by decide) (rfl) (rfl) (by decide) uX8_keptOnes_X0 fnX8_116 (rfl) dX8_keptOnes_56 ?_
          refine wp_top (b := σ 83 5) (by rw [e83]) ?_
          refine wp_icmp_ge (tgt := 180) hC dX8_keptOnes_59 (by decide) (by omega) (by omega) (fun c_59 => ?_) (fun c_59 => ?_)
          · refine wp_iinc (lv2 := [(0, _), (1, _), (2, _), (3, _)]) hC dX8_keptOnes_180 rfl rfl (by decide) ?_
            refine wp_goto (tgt := 45) hC dX8_keptOnes_183 (by decide) ?_
            refine wp_lv hC [0, 1, 2] rfl ?_
            exact ih _ (by omega) _ _ rfl (by omega) (KIN_c hi2 (KKX_skip (by omega) (fun q a b w z => by
              have := (h.2.2 q a b).2.2.2.2.2.2
              have z1 := z.1
              have z2 := z.2
              unfold kap at z1 z2
              omega)))
          · refine wp_aload_n hC dX8_keptOnes_62 rfl ?_
            refine wp_geta (k := 0) hC (rfl) (by decide) (rfl) (rfl) (by decide) uX8_keptOnes_X8 fX8_keptOnes_12 (rfl) dX8_keptOnes_63 ?_
            refine wp_getaN (k := 4) hC (rfl) (by decide) (rfl) (rfl) (by decide) uX8_keptOnes_X0 fnX8_145 (rfl) dX8_keptOnes_66 ?_
            refine wp_iload_n hC dX8_keptOnes_69 rfl ?_
            refine wp_iald (n := 24) hC (rfl) (Nat.le_of_ble_eq_true rfl) (rfl) (by decide) (by omega) dX8_keptOnes_70 ?_
            refine wp_top (b := σ 88 k) (by rw [e88]) ?_
            have hokk := hok (by omega)
            refine wp_iload_n hC dX8_keptOnes_71 rfl ?_
            refine wp_icmp_ne (tgt := 174) hC dX8_keptOnes_72 (by decide) (by omega) (by omega) (fun c_72 => ?_) (fun c_72 => ?_)
            · refine wp_iinc (lv2 := [(0, _), (1, _), (2, _), (3, _)]) hC dX8_keptOnes_174 rfl rfl (by decide) ?_
              refine wp_goto (tgt := 51) hC dX8_keptOnes_177 (by decide) ?_
              exact ih51 _ (by omega) _ _ rfl h3 (by omega) (hnx _ (KIN_c hi2 (KKX_skip (by omega) (fun q a b w z => by
                have z1 := z.1
                have z2 := z.2
                have hrq := (h.2.2 q a b).2.2.2.2.2.2
                unfold kap at z1 z2
                have e : q = k := by omega
                subst e
                omega))))
            · have hkn : 0 ≤ k ∧ k < σ 83 5 := by omega
              have hkap : kap (σ 88) k = ((24 * (9 - r) + k).toNat : Nat) := by unfold kap; omega
              refine wp_iload_n hC dX8_keptOnes_75 rfl ?_
              refine wp_iload_n hC dX8_keptOnes_76 rfl ?_
              refine wp_callSe (As := [_]) hC (c_X8_bit hG _ (by omega)) gX8_keptOnes_X8_bit rfl ⟨rfl, rfl⟩ ⟨by decide, by decide⟩ hySX8_bit rfl (Nat.le_of_ble_eq_true rfl) dX8_keptOnes_77 (fun hx_77 => ?_)
              refine wp_iand hC dX8_keptOnes_80 ?_
              refine wp_top (b := iand (TX σ 1) (pw k)) (rfl) ?_
              refine wp_if_ne (tgt := 87) hC dX8_keptOnes_81 (by decide) (by have := iand_nn (b := pw k) (bsI (P := fun o => decide (σ 111 o = 1)) hn); show iR (iand (TX σ 1) (pw k)); unfold TX; omega) (fun c_81 => ?_) (fun c_81 => ?_)
              · have hpk : kdX σ 1 k = true := by
                  have w := iand_bit1 (bsI (P := fun o => decide (σ 111 o = 1)) hn) h2.1 (by omega) c_81
                  rw [tb_bs hn.1 h2.1, decide_eq_true hkn.2, Bool.true_and] at w
                  exact w
                have hfut : KKX σ (24 * (9 - r) + k).toNat k = false := kf_fut (by omega)
                have hmi := MEX_ins (ρ := ρ) h hkn hfut hi2.2.2.2 hi2.2.2.1 e84 e85
                refine wp_aload_n hC dX8_keptOnes_87 rfl ?_
                refine wp_geta (k := 5) hC (rfl) (by decide) (rfl) (rfl) (by decide) uX8_keptOnes_X8 fX8_keptOnes_43 (rfl) dX8_keptOnes_88 ?_
                refine wp_aload_n hC dX8_keptOnes_91 rfl ?_
                refine wp_geta (k := 0) hC (rfl) (by decide) (rfl) (rfl) (by decide) uX8_keptOnes_X8 fX8_keptOnes_12 (rfl) dX8_keptOnes_92 ?_
                refine wp_getaN (k := 1) hC (rfl) (by decide) (rfl) (rfl) (by decide) uX8_keptOnes_X0 fnX8_139 (rfl) dX8_keptOnes_95 ?_
                refine wp_iload_n hC dX8_keptOnes_98 rfl ?_
                refine wp_iald (n := 24) hC (rfl) (Nat.le_of_ble_eq_true rfl) (rfl) (by decide) (by omega) dX8_keptOnes_99 ?_
                refine wp_top (b := σ 85 k) (by rw [e85]) ?_
                refine wp_aload_n hC dX8_keptOnes_100 rfl ?_
                refine wp_geta (k := 1) hC (rfl) (by decide) (rfl) (rfl) (by decide) uX8_keptOnes_X8 fX8_keptOnes_19 (rfl) dX8_keptOnes_101 ?_
                refine wp_getaN (k := 3) hC (rfl) (by decide) (rfl) (rfl) (by decide) uX8_keptOnes_X5 fnX8_127 (rfl) dX8_keptOnes_104 ?_
                refine wp_iload_n hC dX8_keptOnes_107 rfl ?_
                refine wp_iald (n := 24) hC (rfl) (Nat.le_of_ble_eq_true rfl) (rfl) (by decide) (by omega) dX8_keptOnes_108 ?_
                refine wp_top (b := σ 112 k) (by rw [e112]) ?_
                refine wp_callVp (As := [_, _]) hC (c_X6_least hG ρ (it := σ 85 k) (la := σ 112 k) hokk.2.2.2.1 hokk.2.1 (fun k a b => by have := hlx k a b; omega)) gX8_keptOnes_X6_least rfl ⟨rfl, rfl⟩ ⟨by decide, by decide⟩ hyVX6_least (rfl) (by decide) (rfl) rfl (Nat.le_of_ble_eq_true rfl) dX8_keptOnes_109 (fun x_109 hx_109 hp_109 => ?_)
                have hl_109 := LEA_iR hp_109 hlx
                have hf_109 : σ 84 k ≤ x_109 ↔ FIT ρ k (σ 112 k) := by
                  have z := LEA_FIT (σ := ρ) (o := k) (p := σ 112 k) (x := x_109) (by rw [e85]; exact hp_109)
                  rw [e84] at z
                  exact z
                refine wp_aload_n hC dX8_keptOnes_112 rfl ?_
                refine wp_geta (k := 0) hC (rfl) (by decide) (rfl) (rfl) (by decide) uX8_keptOnes_X8 fX8_keptOnes_12 (rfl) dX8_keptOnes_113 ?_
                refine wp_getaN (k := 0) hC (rfl) (by decide) (rfl) (rfl) (by decide) uX8_keptOnes_X0 fnX8_136 (rfl) dX8_keptOnes_116 ?_
                refine wp_iload_n hC dX8_keptOnes_119 rfl ?_
                refine wp_iald (n := 24) hC (rfl) (Nat.le_of_ble_eq_true rfl) (rfl) (by decide) (by omega) dX8_keptOnes_120 ?_
                refine wp_top (b := σ 84 k) (by rw [e84]) ?_
                refine wp_icmp_ge (tgt := 127) hC dX8_keptOnes_121 (by decide) (by omega) (by omega) (fun c_121 => ?_) (fun c_121 => ?_)
                · have hK1 : KKX σ ((24 * (9 - r) + k).toNat + 1) = ins (KKX σ (24 * (9 - r) + k).toNat) k := kf_ins hn.2 hkn hkap hpk (hmi.mp (hf_109.mp (by omega)))
                  have hTK := TK_LX (ρ := ρ) h hkn hfut hi2.2.2.1
                  refine wp_aload_n hC dX8_keptOnes_127 rfl ?_
                  refine wp_geta (k := 5) hC (rfl) (by decide) (rfl) (rfl) (by decide) uX8_keptOnes_X8 fX8_keptOnes_43 (rfl) dX8_keptOnes_128 ?_
                  refine wp_aload_n hC dX8_keptOnes_131 rfl ?_
                  refine wp_geta (k := 0) hC (rfl) (by decide) (rfl) (rfl) (by decide) uX8_keptOnes_X8 fX8_keptOnes_12 (rfl) dX8_keptOnes_132 ?_
                  refine wp_getaN (k := 1) hC (rfl) (by decide) (rfl) (rfl) (by decide) uX8_keptOnes_X0 fnX8_139 (rfl) dX8_keptOnes_135 ?_
                  refine wp_iload_n hC dX8_keptOnes_138 rfl ?_
                  refine wp_iald (n := 24) hC (rfl) (Nat.le_of_ble_eq_true rfl) (rfl) (by decide) (by omega) dX8_keptOnes_139 ?_
                  refine wp_top (b := σ 85 k) (by rw [e85]) ?_
                  refine wp_aload_n hC dX8_keptOnes_140 rfl ?_
                  refine wp_geta (k := 1) hC (rfl) (by decide) (rfl) (rfl) (by decide) uX8_keptOnes_X8 fX8_keptOnes_19 (rfl) dX8_keptOnes_141 ?_
                  refine wp_getaN (k := 3) hC (rfl) (by decide) (rfl) (rfl) (by decide) uX8_keptOnes_X5 fnX8_127 (rfl) dX8_keptOnes_144 ?_
                  refine wp_iload_n hC dX8_keptOnes_147 rfl ?_
                  refine wp_iald (n := 24) hC (rfl) (Nat.le_of_ble_eq_true rfl) (rfl) (by decide) (by omega) dX8_keptOnes_148 ?_
                  refine wp_top (b := σ 112 k) (by rw [e112]) ?_
                  refine wp_aload_n hC dX8_keptOnes_149 rfl ?_
                  refine wp_geta (k := 0) hC (rfl) (by decide) (rfl) (rfl) (by decide) uX8_keptOnes_X8 fX8_keptOnes_12 (rfl) dX8_keptOnes_150 ?_
                  refine wp_getaN (k := 0) hC (rfl) (by decide) (rfl) (rfl) (by decide) uX8_keptOnes_X0 fnX8_136 (rfl) dX8_keptOnes_153 ?_
                  refine wp_iload_n hC dX8_keptOnes_156 rfl ?_
                  refine wp_iald (n := 24) hC (rfl) (Nat.le_of_ble_eq_true rfl) (rfl) (by decide) (by omega) dX8_keptOnes_157 ?_
                  refine wp_top (b := σ 84 k) (by rw [e84]) ?_
                  refine wp_callVu (As := [_, _, _]) hC (c_X6_take hG ρ (it := σ 85 k) (la := σ 112 k) (am := σ 84 k) (by omega) (by omega)) gX8_keptOnes_X6_take rfl ⟨rfl, rfl⟩ ⟨by decide, by decide⟩ hyVX6_take (rfl) (by decide) (rfl) rfl (Nat.le_of_ble_eq_true rfl) dX8_keptOnes_158 ?_
                  refine wp_aload_n hC dX8_keptOnes_161 rfl ?_
                  refine wp_dup hC dX8_keptOnes_162 rfl ?_
                  refine wp_geti (k := 11) (z := 11) hC rfl (rfl) (by decide) (rfl) (rfl) (by decide) uX8_keptOnes_X8 fX8_keptOnes_319 (rfl) dX8_keptOnes_163 ?_
                  refine wp_top (b := bsum (KKX σ (24 * (9 - r) + k).toNat) (σ 83 5)) (by rw [← hi2.2.1]; rfl) ?_
                  refine wp_iload_n hC dX8_keptOnes_166 rfl ?_
                  refine wp_callSe (As := [_]) hC (c_X8_bit hG _ (by omega)) gX8_keptOnes_X8_bit rfl ⟨rfl, rfl⟩ ⟨by decide, by decide⟩ hySX8_bit rfl (Nat.le_of_ble_eq_true rfl) dX8_keptOnes_167 (fun hx_167 => ?_)
                  refine wp_ior hC dX8_keptOnes_170 ?_
                  refine wp_top (b := ior (bsum (KKX σ (24 * (9 - r) + k).toNat) (σ 83 5)) (pw k)) rfl ?_
                  refine wp_puti2 (k := 11) (z := 11) hC rfl (rfl) (by decide) (rfl) (rfl) (by decide) uX8_keptOnes_X8 fX8_keptOnes_319 tyX8 tyX8_ok nmX8 rfl rfl (rfl) dX8_keptOnes_171 ?_
                  refine wp_iinc (lv2 := [(0, _), (1, _), (2, _), (3, _)]) hC dX8_keptOnes_174 rfl rfl (by decide) ?_
                  refine wp_goto (tgt := 51) hC dX8_keptOnes_177 (by decide) ?_
                  exact ih51 _ (by omega) _ _ rfl h3 (by omega) (hnx _ ⟨EQK_p (EQK_TK hi2.1) (Or.inr (by decide)), by rw [put_s, hK1, bs_ins hn hkn hfut], fun k2 a b => by rw [hK1]; exact hTK k2 a b, by rw [hK1]; exact hmi.mp (hf_109.mp (by omega))⟩)
                · refine wp_goto (tgt := 174) hC dX8_keptOnes_124 (by decide) ?_
                  refine wp_iinc (lv2 := [(0, _), (1, _), (2, _), (3, _)]) hC dX8_keptOnes_174 rfl rfl (by decide) ?_
                  refine wp_goto (tgt := 51) hC dX8_keptOnes_177 (by decide) ?_
                  exact ih51 _ (by omega) _ _ rfl h3 (by omega) (hnx _ (KIN_c hi2 (kf_no hn.2 hkn (by omega) (fun z => by have := hf_109.mpr (hmi.mpr z); omega))))
              · have hnp : ¬ kdX σ 1 k = true := fun w => (iand_bit (bsI (P := fun o => decide (σ 111 o = 1)) hn) h2.1 (by omega)).mp c_81 (by rw [tb_bs hn.1 h2.1, decide_eq_true hkn.2, Bool.true_and]; exact w)
                refine wp_goto (tgt := 174) hC dX8_keptOnes_84 (by decide) ?_
                refine wp_iinc (lv2 := [(0, _), (1, _), (2, _), (3, _)]) hC dX8_keptOnes_174 rfl rfl (by decide) ?_
                refine wp_goto (tgt := 51) hC dX8_keptOnes_177 (by decide) ?_
                exact ih51 _ (by omega) _ _ rfl h3 (by omega) (hnx _ (KIN_c hi2 (KKX_skip (by omega) (fun q a b w z => by
                  have z1 := z.1
                  have z2 := z.2
                  have hrq := (h.2.2 q a b).2.2.2.2.2.2
                  unfold kap at z1 z2
                  have e : q = k := by omega
                  subst e
                  exact hnp w))))
      refine wp_iload_n hC dX8_keptOnes_45 rfl ?_
      refine wp_if_lt (tgt := 186) hC dX8_keptOnes_46 (by decide) (by omega) (fun c_46 => ?_) (fun c_46 => ?_)
      · have hK9 : KKX σ 240 = KKX σ (24 * (9 - r)).toNat := by rw [show (24 * (9 - r)).toNat = 240 by omega]
        refine wp_aload_n hC dX8_keptOnes_186 rfl ?_
        refine wp_iconst hC dX8_keptOnes_187 ?_
        refine wp_putz2 (k := 12) (z := 12) hC rfl (rfl) (by decide) (rfl) (rfl) (by decide) uX8_keptOnes_X8 fX8_keptOnes_316 tyX8 tyX8_ok nmX8 rfl rfl (rfl) (by omega) dX8_keptOnes_188 ?_
        refine wp_aload_n hC dX8_keptOnes_191 rfl ?_
        refine wp_geti (k := 11) (z := 11) hC rfl (rfl) (by decide) (rfl) (rfl) (by decide) uX8_keptOnes_X8 fX8_keptOnes_319 (rfl) dX8_keptOnes_192 ?_
        refine wp_top (b := KS σ) (by unfold KS; rw [hK9, ← hi.2.1]; rfl) ?_
        exact hret _ _ _ _ (by unfold KS; omega) rfl (⟨rfl, EQK_p hi.1 (Or.inr (by decide)), Or.inr put_s, fun _ => by rw [KS_E (EQK_p hi.1 (Or.inr (by decide)))]; unfold KS; rw [hK9, ← hi.2.1]; rfl⟩) dX8_keptOnes_195
      · refine wp_iconst hC dX8_keptOnes_49 ?_
        refine wp_istore_n (lv2 := [(0, _), (1, _), (2, _), (3, _)]) hC dX8_keptOnes_50 rfl (by decide) ?_
        exact L51 _ 0 _ rfl (by omega) (by omega) (KIN_c hi (by rw [Int.add_zero]))
  refine wp_aload_n hC dX8_keptOnes_0 rfl ?_
  refine wp_geti (k := 12) (z := 12) hC rfl (rfl) (by decide) (rfl) (rfl) (by decide) uX8_keptOnes_X8 fX8_keptOnes_316 (rfl) dX8_keptOnes_1 ?_
  refine wp_top (b := σ 82 12) rfl ?_
  have hkb := hk.1
  refine wp_if_eq (tgt := 12) hC dX8_keptOnes_4 (by decide) (by omega) (fun c_4 => ?_) (fun c_4 => ?_)
  · refine wp_aload_n hC dX8_keptOnes_12 rfl ?_
    refine wp_iconst hC dX8_keptOnes_13 ?_
    refine wp_callVe (As := [_]) hC (c_X8_setOf hG σ (w := 1) (by omega) (fun o a b => (h.2.2 o a b).1) h.1) gX8_keptOnes_X8_setOf rfl ⟨rfl, rfl⟩ ⟨by decide, by decide⟩ hyVX8_setOf (rfl) (by decide) (rfl) rfl (Nat.le_of_ble_eq_true rfl) dX8_keptOnes_14 (fun hx_14 => ?_)
    refine wp_istore_n (lv2 := [(0, _), (1, _)]) hC dX8_keptOnes_17 rfl (by decide) ?_
    refine wp_aload_n hC dX8_keptOnes_18 rfl ?_
    refine wp_iconst hC dX8_keptOnes_19 ?_
    refine wp_puti2 (k := 11) (z := 11) hC rfl (rfl) (by decide) (rfl) (rfl) (by decide) uX8_keptOnes_X8 fX8_keptOnes_319 tyX8 tyX8_ok nmX8 rfl rfl (rfl) dX8_keptOnes_20 ?_
    refine wp_aload_n hC dX8_keptOnes_23 rfl ?_
    refine wp_geta (k := 5) hC (rfl) (by decide) (rfl) (rfl) (by decide) uX8_keptOnes_X8 fX8_keptOnes_43 (rfl) dX8_keptOnes_24 ?_
    refine wp_aload_n hC dX8_keptOnes_27 rfl ?_
    refine wp_geta (k := 0) hC (rfl) (by decide) (rfl) (rfl) (by decide) uX8_keptOnes_X8 fX8_keptOnes_12 (rfl) dX8_keptOnes_28 ?_
    refine wp_aload_n hC dX8_keptOnes_31 rfl ?_
    refine wp_geta (k := 1) hC (rfl) (by decide) (rfl) (rfl) (by decide) uX8_keptOnes_X8 fX8_keptOnes_19 (rfl) dX8_keptOnes_32 ?_
    refine wp_aload_n hC dX8_keptOnes_35 rfl ?_
    refine wp_geti (k := 11) (z := 11) hC rfl (rfl) (by decide) (rfl) (rfl) (by decide) uX8_keptOnes_X8 fX8_keptOnes_319 (rfl) dX8_keptOnes_36 ?_
    refine wp_top (b := 0) put_s ?_
    refine wp_callVu (As := [_, _, _]) hC (c_X6_lay hG (put σ 82 11 0) (B := 0) h (by omega)) gX8_keptOnes_X6_lay rfl ⟨rfl, rfl⟩ ⟨by decide, by decide⟩ hyVX6_lay (rfl) (by decide) (rfl) rfl (Nat.le_of_ble_eq_true rfl) dX8_keptOnes_39 ?_
    refine wp_bipush hC dX8_keptOnes_42 rfl ?_
    refine wp_istore_n (lv2 := [(0, _), (1, _), (2, _)]) hC dX8_keptOnes_44 rfl (by decide) ?_
    exact L45 _ 9 _ rfl (by omega) ⟨EQK_LY (EQK_p EQK_0 (Or.inr (by decide))), (show LY (put σ 82 11 0) 0 82 11 = put σ 82 11 0 82 11 from rfl).trans (put_s.trans (bs_none hn.1).symm), fun k a b => by
      show LY (put σ 82 11 0) 0 92 k = _
      rw [(LY_LAID (σ := put σ 82 11 0) (B := 0)).1 k a b]
      exact LX_P (σ := σ) (fun o _ _ => tb_0) k, fun k a b => LX_0 h a b⟩
  · refine wp_aload_n hC dX8_keptOnes_7 rfl ?_
    refine wp_geti (k := 11) (z := 11) hC rfl (rfl) (by decide) (rfl) (rfl) (by decide) uX8_keptOnes_X8 fX8_keptOnes_319 (rfl) dX8_keptOnes_8 ?_
    refine wp_top (b := KS σ) (hk.2 (by omega)) ?_
    exact hret _ _ _ _ (by unfold KS; omega) rfl (⟨rfl, EQK_0, hk⟩) dX8_keptOnes_11
