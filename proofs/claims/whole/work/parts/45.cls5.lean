/-- a row filled, the first n places -/
def FIL (σ : St) (i : Nat) (n v : Int) : St := fun a b => if a = i ∧ 0 ≤ b ∧ b < n then v else σ a b
theorem FIL_0 {σ : St} {i : Nat} {v : Int} : σ = FIL σ i 0 v := by
  funext a b
  unfold FIL
  rw [if_neg (by omega)]
theorem FIL_s {σ : St} {i : Nat} {k v : Int} (h : 0 ≤ k) : put (FIL σ i k v) i k v = FIL σ i (k + 1) v := by
  funext a b
  by_cases q : a = i ∧ b = k
  · rw [q.1, q.2, put_s]
    unfold FIL
    rw [if_pos (by omega)]
  · rw [put_q q]
    unfold FIL
    by_cases w : a = i ∧ 0 ≤ b ∧ b < k
    · rw [if_pos w, if_pos (by omega)]
    · rw [if_neg w, if_neg (by omega)]

theorem hySJ7_fill_53178 : yJ7_fill_53178.cls ≠ "java/lang/invoke/MethodHandle" ∧ yJ7_fill_53178.cls ≠ "java/lang/invoke/VarHandle" ∧ (parseMethodDescriptor yJ7_fill_53178.desc).map (fun d => d.parameters.length) = some 2 := by decide +kernel
set_option maxHeartbeats 4000000 in
set_option maxRecDepth 100000 in
theorem c_J7_fill_53178 {l : Launch} {G : Gy} (hG : Inj G) (σ : St) (i : Nat) {v : Int} (hi : i < NID) (ki : kd i = 1) (li : ln i ≤ 4000) : MU l yJ7_fill_53178 wsJ7_fill_53178 ({ frames := 0, cells := 0, slots := 0, locals := 0 } : Room) G [.ref (G.2.2 i), .int (zI (v))] σ (FIL σ i (ln i) v) := by
  refine MV.of hG (by decide +kernel) rfl rfl (Nat.le_of_ble_eq_true rfl) rfl ?_
  intro p e s m args below meth c H0 Q hC hret
  have L5 : ∀ (n : Nat) (k : Int), (((ln i : Int) - k).toNat) = n → (0 ≤ k ∧ k ≤ ln i) → wp p l e ({ frames := 0, cells := 0, slots := 0, locals := 0 } : Room) s m args below meth c (aA G (Array.size H0)) H0 4 Q G (FIL σ i k v) 5 [(0, .ref (G.2.2 i)), (1, .int (zI (v))), (2, .int (zI (k))), (3, .int (zI ((ln i : Int))))] [] := by
    intro n5
    induction n5 using Nat.strongRecOn with
    | ind n5 ih =>
      intro k hm5 h1
      refine wp_iload_n hC dJ7_fill_53178_5 rfl ?_
      refine wp_iload_n hC dJ7_fill_53178_6 rfl ?_
      refine wp_icmp_ge (tgt := 20) hC dJ7_fill_53178_7 (by decide) (by omega) (by omega) (fun c_7 => ?_) (fun c_7 => ?_)
      · exact hret _ _ _ (by rw [show k = ln i by omega]) dJ7_fill_53178_20
      · refine wp_aload_n hC dJ7_fill_53178_10 rfl ?_
        refine wp_iload_n hC dJ7_fill_53178_11 rfl ?_
        refine wp_iload_n hC dJ7_fill_53178_12 rfl ?_
        refine wp_iast (n := ln i) hC (rfl) (li) (ki) (hi) (by omega) dJ7_fill_53178_13 ?_
        refine wp_iinc (lv2 := [(0, _), (1, _), (2, _), (3, _)]) hC dJ7_fill_53178_14 rfl rfl (by decide) ?_
        refine wp_goto (tgt := 5) hC dJ7_fill_53178_17 (by decide) ?_
        refine wp_st (FIL_s h1.1) ?_
        exact ih _ (by omega) _ rfl (by omega)
  refine wp_iconst hC dJ7_fill_53178_0 ?_
  refine wp_istore_n (lv2 := [(0, _), (1, _), (2, _)]) hC dJ7_fill_53178_1 rfl (by decide) ?_
  refine wp_aload_n hC dJ7_fill_53178_2 rfl ?_
  refine wp_alen (n := ln i) hC (rfl) (by rw [ki]) (hi) dJ7_fill_53178_3 ?_
  refine wp_istore_n (lv2 := [(0, _), (1, _), (2, _), (3, _)]) hC dJ7_fill_53178_4 rfl (by decide) ?_
  refine wp_st (FIL_0 (i := i) (v := v)) ?_
  exact L5 _ _ rfl (by omega)

def upv (σ : St) (b : Int) : Int := sq (σ 109) (b / 13) (b % 13)
def UPk (σ : St) (K : Int) : St := fun a b => if a = 93 ∧ 0 ≤ b ∧ b < K then upv σ b else σ a b
theorem UP_0 {σ : St} : σ = UPk σ 0 := by
  funext a b
  unfold UPk
  rw [if_neg (by omega)]
theorem UP_s {σ : St} {K v : Int} (h : 0 ≤ K) (hv : v = upv σ K) : put (UPk σ K) 93 K v = UPk σ (K + 1) := by
  funext a b
  by_cases q : a = 93 ∧ b = K
  · rw [q.1, q.2, put_s, hv]
    unfold UPk
    rw [if_pos ⟨rfl, h, by omega⟩]
  · rw [put_q q]
    unfold UPk
    by_cases w : a = 93 ∧ 0 ≤ b ∧ b < K
    · rw [if_pos w, if_pos ⟨w.1, w.2.1, by omega⟩]
    · rw [if_neg w, if_neg (fun z => w ⟨z.1, z.2.1, by have := z.2.2; have : b ≠ K := fun e => q ⟨z.1, e⟩; omega⟩)]
theorem UP_sq {σ : St} {i q v idx : Int} (hi : 0 ≤ i) (hq : 0 ≤ q ∧ q ≤ 12) (hv : v = sq (σ 109) i q) (e : idx = 13 * i + q) : put (UPk σ (13 * i + q)) 93 idx v = UPk σ (13 * i + q + 1) := by
  rw [e]
  exact UP_s (by omega) (by rw [hv]; unfold upv; rw [show (13 * i + q) / 13 = i by omega, show (13 * i + q) % 13 = q by omega])

theorem hyVX6_sumSupplies : yX6_sumSupplies.cls = RX6 ∧ yX6_sumSupplies.cls ≠ "java/lang/invoke/MethodHandle" ∧ yX6_sumSupplies.cls ≠ "java/lang/invoke/VarHandle" ∧ (parseMethodDescriptor yX6_sumSupplies.desc).map (fun d => d.parameters.length) = some 1 := by decide +kernel
theorem uX6_sumSupplies_X6 : ∀ w ∈ u_ws RX6 TX6 2, w ∈ wsX6_sumSupplies := by decide +kernel
theorem fX6_sumSupplies_15 : Cond.fieldLink RX6 15 (TX6 1).1 (TX6 1).2.1 (TX6 1).2.2.1 ∈ wsX6_sumSupplies := by decide +kernel
theorem uX6_sumSupplies_X5 : ∀ w ∈ u_ws RX5 TX5 5, w ∈ wsX6_sumSupplies := by decide +kernel
theorem fnX6_75 : Cond.fieldLinkNest RX6 75 (TX5 0).1 (TX5 0).2.1 (TX5 0).2.2.1 "PromiseMind" ∈ tables_1 := List.mem_of_getElem? (i := 86) (by decide +kernel)
set_option maxHeartbeats 4000000 in
set_option maxRecDepth 100000 in
theorem c_X6_sumSupplies {l : Launch} {G : Gy} (hG : Inj G) (σ : St) : MU l yX6_sumSupplies wsX6_sumSupplies ({ frames := 0, cells := 0, slots := 0, locals := 0 } : Room) G [.ref (G.2.2 91), .ref (G.2.2 108)] σ (UPk σ 39) := by
  refine MV.of hG (by decide +kernel) rfl rfl (Nat.le_of_ble_eq_true rfl) rfl ?_
  intro p e s m args below meth c H0 Q hC hret
  have L2 : ∀ (n : Nat) (i : Int), ((3 - i).toNat) = n → (0 ≤ i ∧ i ≤ 3) → wp p l e ({ frames := 0, cells := 0, slots := 0, locals := 0 } : Room) s m args below meth c (aA G (Array.size H0)) H0 5 Q G (UPk σ (13 * i)) 2 [(0, .ref (G.2.2 91)), (1, .ref (G.2.2 108)), (2, .int (zI (i)))] [] := by
    intro n2
    induction n2 using Nat.strongRecOn with
    | ind n2 ih =>
      intro i hm2 h1
      have L12 : ∀ (n : Nat) (v q : Int), ((12 - q).toNat) = n → (i < 3) → (0 ≤ q ∧ q ≤ 12) → (v = sq (σ 109) i q) → wp p l e ({ frames := 0, cells := 0, slots := 0, locals := 0 } : Room) s m args below meth c (aA G (Array.size H0)) H0 5 Q G (UPk σ (13 * i + q)) 12 [(0, .ref (G.2.2 91)), (1, .ref (G.2.2 108)), (2, .int (zI (i))), (3, .int (zI (v))), (4, .int (zI (q)))] [] := by
        intro n12
        induction n12 using Nat.strongRecOn with
        | ind n12 ih12 =>
          intro v q hm12 h3 h2 hv
          refine wp_iload hC dX6_sumSupplies_12 rfl ?_
          refine wp_bipush hC dX6_sumSupplies_14 rfl ?_
          refine wp_icmp_ge (tgt := 53) hC dX6_sumSupplies_16 (by decide) (by omega) (by omega) (fun c_16 => ?_) (fun c_16 => ?_)
          · refine wp_aload_n hC dX6_sumSupplies_53 rfl ?_
            refine wp_geta (k := 1) hC (rfl) (by decide) (rfl) (rfl) (by decide) uX6_sumSupplies_X6 fX6_sumSupplies_15 (rfl) dX6_sumSupplies_54 ?_
            refine wp_iload_n hC dX6_sumSupplies_57 rfl ?_
            refine wp_bipush hC dX6_sumSupplies_58 rfl ?_
            refine wp_imul hC dX6_sumSupplies_60 ?_
            refine wp_bipush hC dX6_sumSupplies_61 rfl ?_
            refine wp_iadd hC dX6_sumSupplies_63 ?_
            refine wp_iload_n hC dX6_sumSupplies_64 rfl ?_
            refine wp_iast (n := 39) hC (rfl) (Nat.le_of_ble_eq_true rfl) (rfl) (by decide) (by omega) dX6_sumSupplies_65 ?_
            refine wp_iinc (lv2 := [(0, _), (1, _), (2, _), (3, _), (4, _)]) hC dX6_sumSupplies_66 rfl rfl (by decide) ?_
            refine wp_goto (tgt := 2) hC dX6_sumSupplies_69 (by decide) ?_
            refine wp_lv hC [0, 1, 2] rfl ?_
            refine wp_st ((UP_sq (q := q) (by omega) (by omega) hv (by omega)).trans (congrArg (UPk σ) (show 13 * i + q + 1 = 13 * (i + 1) by omega))) ?_
            exact ih _ (by omega) _ rfl (by omega)
          · refine wp_aload_n hC dX6_sumSupplies_19 rfl ?_
            refine wp_geta (k := 1) hC (rfl) (by decide) (rfl) (rfl) (by decide) uX6_sumSupplies_X6 fX6_sumSupplies_15 (rfl) dX6_sumSupplies_20 ?_
            refine wp_iload_n hC dX6_sumSupplies_23 rfl ?_
            refine wp_bipush hC dX6_sumSupplies_24 rfl ?_
            refine wp_imul hC dX6_sumSupplies_26 ?_
            refine wp_iload hC dX6_sumSupplies_27 rfl ?_
            refine wp_iadd hC dX6_sumSupplies_29 ?_
            refine wp_iload_n hC dX6_sumSupplies_30 rfl ?_
            refine wp_iast (n := 39) hC (rfl) (Nat.le_of_ble_eq_true rfl) (rfl) (by decide) (by omega) dX6_sumSupplies_31 ?_
            refine wp_iload_n hC dX6_sumSupplies_32 rfl ?_
            refine wp_aload_n hC dX6_sumSupplies_33 rfl ?_
            refine wp_getaN (k := 0) hC (rfl) (by decide) (rfl) (rfl) (by decide) uX6_sumSupplies_X5 fnX6_75 (rfl) dX6_sumSupplies_34 ?_
            refine wp_iload_n hC dX6_sumSupplies_37 rfl ?_
            refine wp_bipush hC dX6_sumSupplies_38 rfl ?_
            refine wp_imul hC dX6_sumSupplies_40 ?_
            refine wp_iload hC dX6_sumSupplies_41 rfl ?_
            refine wp_iadd hC dX6_sumSupplies_43 ?_
            refine wp_iald (n := 36) hC (rfl) (Nat.le_of_ble_eq_true rfl) (rfl) (by decide) (by omega) dX6_sumSupplies_44 ?_
            refine wp_iadd hC dX6_sumSupplies_45 ?_
            refine wp_istore_n (lv2 := [(0, _), (1, _), (2, _), (3, _), (4, _)]) hC dX6_sumSupplies_46 rfl (by decide) ?_
            refine wp_iinc (lv2 := [(0, _), (1, _), (2, _), (3, _), (4, _)]) hC dX6_sumSupplies_47 rfl rfl (by decide) ?_
            refine wp_goto (tgt := 12) hC dX6_sumSupplies_50 (by decide) ?_
            refine wp_st ((UP_sq (q := q) (by omega) (by omega) hv (by omega)).trans (congrArg (UPk σ) (show 13 * i + q + 1 = 13 * i + (q + 1) by omega))) ?_
            exact ih12 _ (by omega) _ _ rfl h3 (by omega) (by rw [hv]; unfold sq; rw [sm_s h2.1]; show _ + σ 109 (i * 12 + q) = _; rw [Int.mul_comm i 12])
      refine wp_iload_n hC dX6_sumSupplies_2 rfl ?_
      refine wp_iconst hC dX6_sumSupplies_3 ?_
      refine wp_icmp_ge (tgt := 72) hC dX6_sumSupplies_4 (by decide) (by omega) (by omega) (fun c_4 => ?_) (fun c_4 => ?_)
      · exact hret _ _ _ (by rw [show i = 3 by omega]; rfl) dX6_sumSupplies_72
      · refine wp_iconst hC dX6_sumSupplies_7 ?_
        refine wp_istore_n (lv2 := [(0, _), (1, _), (2, _), (3, _)]) hC dX6_sumSupplies_8 rfl (by decide) ?_
        refine wp_iconst hC dX6_sumSupplies_9 ?_
        refine wp_istore (lv2 := [(0, _), (1, _), (2, _), (3, _), (4, _)]) hC dX6_sumSupplies_10 rfl (by decide) ?_
        refine wp_st (congrArg (UPk σ) (show 13 * i = 13 * i + 0 by omega)) ?_
        exact L12 _ 0 0 rfl (by omega) (by omega) rfl
  refine wp_iconst hC dX6_sumSupplies_0 ?_
  refine wp_istore_n (lv2 := [(0, _), (1, _), (2, _)]) hC dX6_sumSupplies_1 rfl (by decide) ?_
  refine wp_st UP_0 ?_
  exact L2 _ 0 rfl (by omega)

/-- a row of places by a function -/
def RW (σ : St) (f : Int → Int) : St := fun a b => if a = 92 ∧ 0 ≤ b ∧ b < 2197 then f b else σ a b
theorem RW_at {σ : St} {f : Int → Int} {k : Int} (h : 0 ≤ k ∧ k < 2197) : RW σ f 92 k = f k := if_pos ⟨rfl, h⟩
theorem RW_self {σ : St} {f : Int → Int} (h : ∀ k, 0 ≤ k → k < 2197 → σ 92 k = f k) : σ = RW σ f := by
  funext a b
  unfold RW
  by_cases q : a = 92 ∧ 0 ≤ b ∧ b < 2197
  · rw [if_pos q, q.1, h b q.2.1 q.2.2]
  · rw [if_neg q]
theorem RW_c {σ : St} {f g : Int → Int} (h : ∀ k, 0 ≤ k → k < 2197 → f k = g k) : RW σ f = RW σ g := by
  funext a b
  unfold RW
  by_cases q : a = 92 ∧ 0 ≤ b ∧ b < 2197
  · rw [if_pos q, if_pos q, h b q.2.1 q.2.2]
  · rw [if_neg q, if_neg q]
def sw (f g : Int → Int) (K : Int) : Int → Int := fun b => if b < K then g b else f b
theorem RW_step {σ : St} {f g : Int → Int} {K v : Int} (h : 0 ≤ K) (hv : v = g K) : put (RW σ (sw f g K)) 92 K v = RW (put σ 92 K (if K < 2197 then σ 92 K else v)) (sw f g (K + 1)) := by
  funext a b
  by_cases q : a = 92 ∧ b = K
  · rw [q.1, q.2, put_s]
    unfold RW
    by_cases w : K < 2197
    · rw [if_pos ⟨rfl, h, w⟩, hv]
      unfold sw
      rw [if_pos (by omega)]
    · rw [if_neg (by omega), put_s, if_neg w]
  · rw [put_q q]
    unfold RW
    by_cases w : a = 92 ∧ 0 ≤ b ∧ b < 2197
    · rw [if_pos w, if_pos w]
      unfold sw
      have hb : b ≠ K := fun e => q ⟨w.1, e⟩
      by_cases z : b < K
      · rw [if_pos z, if_pos (by omega)]
      · rw [if_neg z, if_neg (by omega)]
    · rw [if_neg w, if_neg w, put_q q]
theorem RW_put {σ : St} {f g : Int → Int} {K v : Int} (h : 0 ≤ K ∧ K < 2197) (hv : v = g K) : put (RW σ (sw f g K)) 92 K v = RW σ (sw f g (K + 1)) := by
  rw [RW_step h.1 hv, if_pos h.2]
  congr 1
  funext a b
  by_cases q : a = 92 ∧ b = K
  · rw [q.1, q.2, put_s]
  · rw [put_q q]
theorem sw_skip {σ : St} {f g : Int → Int} {K K' : Int} (hk : K ≤ K') (h : ∀ k, 0 ≤ k → K ≤ k → k < K' → k < 2197 → f k = g k) : RW σ (sw f g K) = RW σ (sw f g K') := RW_c (fun k a b => by
  unfold sw
  by_cases w : k < K
  · rw [if_pos w, if_pos (by omega)]
  · rw [if_neg w]
    by_cases z : k < K'
    · rw [if_pos z, h k a (by omega) z b]
    · rw [if_neg z])
theorem sw_end {σ : St} {f g h : Int → Int} {K K' : Int} (hk : 2197 ≤ K) (h0 : ∀ k, 0 ≤ k → k < K' → k < 2197 → g k = h k) : RW σ (sw f g K) = RW σ (sw g h K') := RW_c (fun k a b => by
  unfold sw
  rw [if_pos (by omega)]
  by_cases z : k < K'
  · rw [if_pos z, h0 k a z b]
  · rw [if_neg z])

theorem hyVX6_spread : yX6_spread.cls = RX6 ∧ yX6_spread.cls ≠ "java/lang/invoke/MethodHandle" ∧ yX6_spread.cls ≠ "java/lang/invoke/VarHandle" ∧ (parseMethodDescriptor yX6_spread.desc).map (fun d => d.parameters.length) = some 0 := by decide +kernel
theorem uX6_spread_X6 : ∀ w ∈ u_ws RX6 TX6 2, w ∈ wsX6_spread := by decide +kernel
theorem fX6_spread_9 : Cond.fieldLink RX6 9 (TX6 0).1 (TX6 0).2.1 (TX6 0).2.2.1 ∈ wsX6_spread := by decide +kernel
set_option maxHeartbeats 4000000 in
set_option maxRecDepth 100000 in
theorem c_X6_spread {l : Launch} {G : Gy} (hG : Inj G) (σ : St) {f0 f1 f2 f3 : Int → Int} (h0 : ∀ k, 0 ≤ k → k < 2197 → σ 92 k = f0 k) (e1 : ∀ k, 0 ≤ k → k < 169 → f0 k = f1 k) (s1 : ∀ k, 169 ≤ k → k < 2197 → f1 k = f0 k + f1 (k - 169)) (e2 : ∀ k, 0 ≤ k → k < 2197 → k % 169 < 13 → f1 k = f2 k) (s2 : ∀ k, 0 ≤ k → k < 2197 → 13 ≤ k % 169 → f2 k = f1 k + f2 (k - 13)) (e3 : ∀ k, 0 ≤ k → k < 2197 → k % 13 < 1 → f2 k = f3 k) (s3 : ∀ k, 0 ≤ k → k < 2197 → 1 ≤ k % 13 → f3 k = f2 k + f3 (k - 1)) : MU l yX6_spread wsX6_spread ({ frames := 0, cells := 0, slots := 0, locals := 0 } : Room) G [.ref (G.2.2 91)] σ (RW σ f3) := by
  refine MV.of hG (by decide +kernel) rfl rfl (Nat.le_of_ble_eq_true rfl) rfl ?_
  intro p e s m args below meth c H0 Q hC hret
  have L94 : ∀ (n : Nat) (q : Int), ((2197 - q).toNat) = n → (0 ≤ q ∧ q ≤ 2197 ∧ q % 13 = 0) → wp p l e ({ frames := 0, cells := 0, slots := 0, locals := 0 } : Room) s m args below meth c (aA G (Array.size H0)) H0 3 Q G (RW σ (sw f2 f3 (q))) 94 [(0, .ref (G.2.2 91)), (1, .int (zI (q)))] [] := by
    intro n94
    induction n94 using Nat.strongRecOn with
    | ind n94 ih =>
      intro q hm94 h1
      have L103 : ∀ (n : Nat) (i : Int), ((13 - i).toNat) = n → (q < 2197) → (1 ≤ i ∧ i ≤ 13) → wp p l e ({ frames := 0, cells := 0, slots := 0, locals := 0 } : Room) s m args below meth c (aA G (Array.size H0)) H0 3 Q G (RW σ (sw f2 f3 (q + i))) 103 [(0, .ref (G.2.2 91)), (1, .int (zI (q))), (2, .int (zI (i)))] [] := by
        intro n103
        induction n103 using Nat.strongRecOn with
        | ind n103 ih103 =>
          intro i hm103 h3 h2
          refine wp_iload_n hC dX6_spread_103 rfl ?_
          refine wp_bipush hC dX6_spread_104 rfl ?_
          refine wp_icmp_ge (tgt := 136) hC dX6_spread_106 (by decide) (by omega) (by omega) (fun c_106 => ?_) (fun c_106 => ?_)
          · refine wp_iinc (lv2 := [(0, _), (1, _), (2, _)]) hC dX6_spread_136 rfl rfl (by decide) ?_
            refine wp_goto (tgt := 94) hC dX6_spread_139 (by decide) ?_
            refine wp_lv hC [0, 1] rfl ?_
            refine wp_st (congrArg (fun z => RW σ (sw f2 f3 z)) (show q + i = q + 13 by omega)) ?_
            exact ih _ (by omega) _ rfl (by omega)
          · refine wp_aload_n hC dX6_spread_109 rfl ?_
            refine wp_geta (k := 0) hC (rfl) (by decide) (rfl) (rfl) (by decide) uX6_spread_X6 fX6_spread_9 (rfl) dX6_spread_110 ?_
            refine wp_iload_n hC dX6_spread_113 rfl ?_
            refine wp_iload_n hC dX6_spread_114 rfl ?_
            refine wp_iadd hC dX6_spread_115 ?_
            refine wp_dup2 hC dX6_spread_116 rfl rfl ?_
            refine wp_iald (n := 2197) hC (rfl) (Nat.le_of_ble_eq_true rfl) (rfl) (by decide) (by omega) dX6_spread_117 ?_
            refine wp_aload_n hC dX6_spread_118 rfl ?_
            refine wp_geta (k := 0) hC (rfl) (by decide) (rfl) (rfl) (by decide) uX6_spread_X6 fX6_spread_9 (rfl) dX6_spread_119 ?_
            refine wp_iload_n hC dX6_spread_122 rfl ?_
            refine wp_iload_n hC dX6_spread_123 rfl ?_
            refine wp_iadd hC dX6_spread_124 ?_
            refine wp_iconst hC dX6_spread_125 ?_
            refine wp_isub hC dX6_spread_126 ?_
            refine wp_iald (n := 2197) hC (rfl) (Nat.le_of_ble_eq_true rfl) (rfl) (by decide) (by omega) dX6_spread_127 ?_
            refine wp_iadd hC dX6_spread_128 ?_
            refine wp_iast (n := 2197) hC (rfl) (Nat.le_of_ble_eq_true rfl) (rfl) (by decide) (by omega) dX6_spread_129 ?_
            refine wp_iinc (lv2 := [(0, _), (1, _), (2, _)]) hC dX6_spread_130 rfl rfl (by decide) ?_
            refine wp_goto (tgt := 103) hC dX6_spread_133 (by decide) ?_
            refine wp_st (RW_put (f := f2) (g := f3) (K := q + i) ⟨by omega, by omega⟩ (by rw [RW_at ⟨by omega, by omega⟩, RW_at ⟨by omega, by omega⟩]; show (if _ < _ then _ else _) + (if _ < _ then _ else _) = _; rw [if_neg (by omega), if_pos (by omega)]; exact (s3 (q + i) (by omega) (by omega) (by omega)).symm)) ?_
            refine wp_st (congrArg (fun z => RW σ (sw f2 f3 z)) (show q + i + 1 = q + (i + 1) by omega)) ?_
            exact ih103 _ (by omega) _ rfl h3 (by omega)
      refine wp_iload_n hC dX6_spread_94 rfl ?_
      refine wp_sipush hC dX6_spread_95 rfl ?_
      refine wp_icmp_ge (tgt := 142) hC dX6_spread_98 (by decide) (by omega) (by omega) (fun c_98 => ?_) (fun c_98 => ?_)
      · exact hret _ _ _ (RW_c (fun k a b => by unfold sw; rw [if_pos (by omega)])) dX6_spread_142
      · refine wp_iconst hC dX6_spread_101 ?_
        refine wp_istore_n (lv2 := [(0, _), (1, _), (2, _)]) hC dX6_spread_102 rfl (by decide) ?_
        refine wp_st (sw_skip (K' := q + 1) (by omega) (fun k a b z y => e3 k a y (by omega))) ?_
        exact L103 _ 1 rfl (by omega) (by omega)
  have L38 : ∀ (n : Nat) (q : Int), ((2197 - q).toNat) = n → (0 ≤ q ∧ q ≤ 2197 ∧ q % 169 = 0) → wp p l e ({ frames := 0, cells := 0, slots := 0, locals := 0 } : Room) s m args below meth c (aA G (Array.size H0)) H0 3 Q G (RW σ (sw f1 f2 (q))) 38 [(0, .ref (G.2.2 91)), (1, .int (zI (q)))] [] := by
    intro n38
    induction n38 using Nat.strongRecOn with
    | ind n38 ih =>
      intro q hm38 h1
      have L48 : ∀ (n : Nat) (i : Int), ((169 - i).toNat) = n → (q < 2197) → (13 ≤ i ∧ i ≤ 169) → wp p l e ({ frames := 0, cells := 0, slots := 0, locals := 0 } : Room) s m args below meth c (aA G (Array.size H0)) H0 3 Q G (RW σ (sw f1 f2 (q + i))) 48 [(0, .ref (G.2.2 91)), (1, .int (zI (q))), (2, .int (zI (i)))] [] := by
        intro n48
        induction n48 using Nat.strongRecOn with
        | ind n48 ih48 =>
          intro i hm48 h3 h2
          refine wp_iload_n hC dX6_spread_48 rfl ?_
          refine wp_sipush hC dX6_spread_49 rfl ?_
          refine wp_icmp_ge (tgt := 83) hC dX6_spread_52 (by decide) (by omega) (by omega) (fun c_52 => ?_) (fun c_52 => ?_)
          · refine wp_iincW (lv2 := [(0, _), (1, _), (2, _)]) hC dX6_spread_83 rfl rfl (by decide) ?_
            refine wp_goto (tgt := 38) hC dX6_spread_89 (by decide) ?_
            refine wp_lv hC [0, 1] rfl ?_
            refine wp_st (congrArg (fun z => RW σ (sw f1 f2 z)) (show q + i = q + 169 by omega)) ?_
            exact ih _ (by omega) _ rfl (by omega)
          · refine wp_aload_n hC dX6_spread_55 rfl ?_
            refine wp_geta (k := 0) hC (rfl) (by decide) (rfl) (rfl) (by decide) uX6_spread_X6 fX6_spread_9 (rfl) dX6_spread_56 ?_
            refine wp_iload_n hC dX6_spread_59 rfl ?_
            refine wp_iload_n hC dX6_spread_60 rfl ?_
            refine wp_iadd hC dX6_spread_61 ?_
            refine wp_dup2 hC dX6_spread_62 rfl rfl ?_
            refine wp_iald (n := 2197) hC (rfl) (Nat.le_of_ble_eq_true rfl) (rfl) (by decide) (by omega) dX6_spread_63 ?_
            refine wp_aload_n hC dX6_spread_64 rfl ?_
            refine wp_geta (k := 0) hC (rfl) (by decide) (rfl) (rfl) (by decide) uX6_spread_X6 fX6_spread_9 (rfl) dX6_spread_65 ?_
            refine wp_iload_n hC dX6_spread_68 rfl ?_
            refine wp_iload_n hC dX6_spread_69 rfl ?_
            refine wp_iadd hC dX6_spread_70 ?_
            refine wp_bipush hC dX6_spread_71 rfl ?_
            refine wp_isub hC dX6_spread_73 ?_
            refine wp_iald (n := 2197) hC (rfl) (Nat.le_of_ble_eq_true rfl) (rfl) (by decide) (by omega) dX6_spread_74 ?_
            refine wp_iadd hC dX6_spread_75 ?_
            refine wp_iast (n := 2197) hC (rfl) (Nat.le_of_ble_eq_true rfl) (rfl) (by decide) (by omega) dX6_spread_76 ?_
            refine wp_iinc (lv2 := [(0, _), (1, _), (2, _)]) hC dX6_spread_77 rfl rfl (by decide) ?_
            refine wp_goto (tgt := 48) hC dX6_spread_80 (by decide) ?_
            refine wp_st (RW_put (f := f1) (g := f2) (K := q + i) ⟨by omega, by omega⟩ (by rw [RW_at ⟨by omega, by omega⟩, RW_at ⟨by omega, by omega⟩]; show (if _ < _ then _ else _) + (if _ < _ then _ else _) = _; rw [if_neg (by omega), if_pos (by omega)]; exact (s2 (q + i) (by omega) (by omega) (by omega)).symm)) ?_
            refine wp_st (congrArg (fun z => RW σ (sw f1 f2 z)) (show q + i + 1 = q + (i + 1) by omega)) ?_
            exact ih48 _ (by omega) _ rfl h3 (by omega)
      refine wp_iload_n hC dX6_spread_38 rfl ?_
      refine wp_sipush hC dX6_spread_39 rfl ?_
      refine wp_icmp_ge (tgt := 92) hC dX6_spread_42 (by decide) (by omega) (by omega) (fun c_42 => ?_) (fun c_42 => ?_)
      · refine wp_iconst hC dX6_spread_92 ?_
        refine wp_istore_n (lv2 := [(0, _), (1, _)]) hC dX6_spread_93 rfl (by decide) ?_
        refine wp_st (sw_end (K' := 0) (h := f3) (by omega) (fun k a b => by omega)) ?_
        exact L94 _ 0 rfl (by omega)
      · refine wp_bipush hC dX6_spread_45 rfl ?_
        refine wp_istore_n (lv2 := [(0, _), (1, _), (2, _)]) hC dX6_spread_47 rfl (by decide) ?_
        refine wp_st (sw_skip (K' := q + 13) (by omega) (fun k a b z y => e2 k a y (by omega))) ?_
        exact L48 _ 13 rfl (by omega) (by omega)
  have L4 : ∀ (n : Nat) (q : Int), ((2197 - q).toNat) = n → (169 ≤ q ∧ q ≤ 2197) → wp p l e ({ frames := 0, cells := 0, slots := 0, locals := 0 } : Room) s m args below meth c (aA G (Array.size H0)) H0 3 Q G (RW σ (sw f0 f1 (q))) 4 [(0, .ref (G.2.2 91)), (1, .int (zI (q)))] [] := by
    intro n4
    induction n4 using Nat.strongRecOn with
    | ind n4 ih =>
      intro q hm4 h1
      refine wp_iload_n hC dX6_spread_4 rfl ?_
      refine wp_sipush hC dX6_spread_5 rfl ?_
      refine wp_icmp_ge (tgt := 36) hC dX6_spread_8 (by decide) (by omega) (by omega) (fun c_8 => ?_) (fun c_8 => ?_)
      · refine wp_iconst hC dX6_spread_36 ?_
        refine wp_istore_n (lv2 := [(0, _), (1, _)]) hC dX6_spread_37 rfl (by decide) ?_
        refine wp_st (sw_end (K' := 0) (h := f2) (by omega) (fun k a b => by omega)) ?_
        exact L38 _ 0 rfl (by omega)
      · refine wp_aload_n hC dX6_spread_11 rfl ?_
        refine wp_geta (k := 0) hC (rfl) (by decide) (rfl) (rfl) (by decide) uX6_spread_X6 fX6_spread_9 (rfl) dX6_spread_12 ?_
        refine wp_iload_n hC dX6_spread_15 rfl ?_
        refine wp_dup2 hC dX6_spread_16 rfl rfl ?_
        refine wp_iald (n := 2197) hC (rfl) (Nat.le_of_ble_eq_true rfl) (rfl) (by decide) (by omega) dX6_spread_17 ?_
        refine wp_aload_n hC dX6_spread_18 rfl ?_
        refine wp_geta (k := 0) hC (rfl) (by decide) (rfl) (rfl) (by decide) uX6_spread_X6 fX6_spread_9 (rfl) dX6_spread_19 ?_
        refine wp_iload_n hC dX6_spread_22 rfl ?_
        refine wp_sipush hC dX6_spread_23 rfl ?_
        refine wp_isub hC dX6_spread_26 ?_
        refine wp_iald (n := 2197) hC (rfl) (Nat.le_of_ble_eq_true rfl) (rfl) (by decide) (by omega) dX6_spread_27 ?_
        refine wp_iadd hC dX6_spread_28 ?_
        refine wp_iast (n := 2197) hC (rfl) (Nat.le_of_ble_eq_true rfl) (rfl) (by decide) (by omega) dX6_spread_29 ?_
        refine wp_iinc (lv2 := [(0, _), (1, _)]) hC dX6_spread_30 rfl rfl (by decide) ?_
        refine wp_goto (tgt := 4) hC dX6_spread_33 (by decide) ?_
        refine wp_st (RW_put (f := f0) (g := f1) (K := q) ⟨by omega, by omega⟩ (by rw [RW_at ⟨by omega, by omega⟩, RW_at ⟨by omega, by omega⟩]; show (if _ < _ then _ else _) + (if _ < _ then _ else _) = _; rw [if_neg (by omega), if_pos (by omega)]; exact (s1 q (by omega) (by omega)).symm)) ?_
        exact ih _ (by omega) _ rfl (by omega)
  refine wp_sipush hC dX6_spread_0 rfl ?_
  refine wp_istore_n (lv2 := [(0, _), (1, _)]) hC dX6_spread_3 rfl (by decide) ?_
  refine wp_st ((RW_self h0).trans (RW_c (g := sw f0 f1 169) (fun k a b => by unfold sw; split; exact e1 k a (by omega); rfl))) ?_
  exact L4 _ 169 rfl (by omega)
