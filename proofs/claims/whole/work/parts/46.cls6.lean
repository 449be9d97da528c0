theorem FI_rng {σ : St} (h : XO σ) {o : Int} (ho : 0 ≤ o ∧ o < σ 83 5) (i : Int) : 0 ≤ FI (σ 85 o) (σ 112 o) i ∧ FI (σ 85 o) (σ 112 o) i ≤ 12 := by
  have := (h.2.2 o ho.1 ho.2).2.1
  unfold FI
  split <;> omega
theorem hSb_FI {it la a b c : Int} (ha : 0 ≤ a) (hb : 0 ≤ b) (hc : 0 ≤ c) : hSb it la a b c = true ↔ FI it la 0 ≤ a ∧ FI it la 1 ≤ b ∧ FI it la 2 ≤ c := by
  rw [hSb_iff]
  have e : ∀ i x, 0 ≤ x → ((tb it i = false ∨ la < x) ↔ FI it la i ≤ x) := fun i x hx => by
    unfold FI
    cases q : tb it i
    · rw [if_neg (by decide)]
      exact ⟨fun _ => hx, fun _ => Or.inl rfl⟩
    · rw [if_pos rfl]
      constructor
      · rintro (z | z)
        · cases z
        · omega
      · intro z; exact Or.inr (by omega)
  unfold hS
  rw [e 0 a ha, e 1 b hb, e 2 c hc]
def cor (σ : St) (o : Int) : Int := 169 * FI (σ 85 o) (σ 112 o) 0 + 13 * FI (σ 85 o) (σ 112 o) 1 + FI (σ 85 o) (σ 112 o) 2
def CRN (σ : St) (B k : Int) (b : Int) : Int := -(sm (fun o => if tb B o = true ∧ cor σ o = b then σ 84 o else 0) k)
def V0 (σ : St) (B b : Int) : Int := -(sm (fun o => if tb B o = true ∧ FI (σ 85 o) (σ 112 o) 0 = b / 169 ∧ FI (σ 85 o) (σ 112 o) 1 = b / 13 % 13 ∧ FI (σ 85 o) (σ 112 o) 2 = b % 13 then σ 84 o else 0) (σ 83 5))
def V1 (σ : St) (B b : Int) : Int := -(sm (fun o => if tb B o = true ∧ FI (σ 85 o) (σ 112 o) 0 ≤ b / 169 ∧ FI (σ 85 o) (σ 112 o) 1 = b / 13 % 13 ∧ FI (σ 85 o) (σ 112 o) 2 = b % 13 then σ 84 o else 0) (σ 83 5))
def V2 (σ : St) (B b : Int) : Int := -(sm (fun o => if tb B o = true ∧ FI (σ 85 o) (σ 112 o) 0 ≤ b / 169 ∧ FI (σ 85 o) (σ 112 o) 1 ≤ b / 13 % 13 ∧ FI (σ 85 o) (σ 112 o) 2 = b % 13 then σ 84 o else 0) (σ 83 5))
def V3 (σ : St) (B b : Int) : Int := -(sm (fun o => if tb B o = true ∧ FI (σ 85 o) (σ 112 o) 0 ≤ b / 169 ∧ FI (σ 85 o) (σ 112 o) 1 ≤ b / 13 % 13 ∧ FI (σ 85 o) (σ 112 o) 2 ≤ b % 13 then σ 84 o else 0) (σ 83 5))
theorem sm3 {u v w : Int → Int} {n : Int} (h : ∀ o, 0 ≤ o → o < n → u o = v o + w o) : -(sm u n) = -(sm v n) + -(sm w n) := by
  have := sm_c h
  rw [sm_add] at this
  omega
theorem smn {u v : Int → Int} {n : Int} (h : ∀ o, 0 ≤ o → o < n → u o = v o) : -(sm u n) = -(sm v n) := by rw [sm_c h]
theorem if3 {t : Prop} [Decidable t] {a b c : Prop} [Decidable a] [Decidable b] [Decidable c] {x : Int} (h : (a ↔ b ∨ c) ∧ ¬ (b ∧ c)) : (if t ∧ a then x else 0) = (if t ∧ b then x else 0) + (if t ∧ c then x else 0) := by
  obtain ⟨h1, h2⟩ := h
  by_cases ht : t
  · by_cases hb : b
    · have hc : ¬ c := fun z => h2 ⟨hb, z⟩
      rw [if_pos ⟨ht, h1.mpr (Or.inl hb)⟩, if_pos ⟨ht, hb⟩, if_neg (fun z => hc z.2), Int.add_zero]
    · by_cases hc : c
      · rw [if_pos ⟨ht, h1.mpr (Or.inr hc)⟩, if_neg (fun z => hb z.2), if_pos ⟨ht, hc⟩, Int.zero_add]
      · rw [if_neg (fun z => (h1.mp z.2).elim hb hc), if_neg (fun z => hb z.2), if_neg (fun z => hc z.2)]; rfl
  · rw [if_neg (fun z => ht z.1), if_neg (fun z => ht z.1), if_neg (fun z => ht z.1)]; rfl
theorem if2 {t : Prop} [Decidable t] {a b : Prop} [Decidable a] [Decidable b] {x : Int} (h : a ↔ b) : (if t ∧ a then x else 0) = (if t ∧ b then x else 0) := by
  by_cases ht : t ∧ a
  · rw [if_pos ht, if_pos ⟨ht.1, h.mp ht.2⟩]
  · rw [if_neg ht, if_neg (fun z => ht ⟨z.1, h.mpr z.2⟩)]
theorem V_e1 {σ : St} (h : XO σ) {B k : Int} (h0 : 0 ≤ k) (h1 : k < 169) : V0 σ B k = V1 σ B k := smn (fun o a b => if2 (by
  have := h.1
  have := FI_rng h (o := o) ⟨a, by omega⟩ 0
  omega))
theorem V_e2 {σ : St} (h : XO σ) {B k : Int} (h0 : 0 ≤ k) (h1 : k < 2197) (h2 : k % 169 < 13) : V1 σ B k = V2 σ B k := smn (fun o a b => if2 (by
  have := h.1
  have := FI_rng h (o := o) ⟨a, by omega⟩ 1
  have : k / 13 % 13 = 0 := by omega
  omega))
theorem V_e3 {σ : St} (h : XO σ) {B k : Int} (h0 : 0 ≤ k) (h1 : k < 2197) (h2 : k % 13 < 1) : V2 σ B k = V3 σ B k := smn (fun o a b => if2 (by
  have := h.1
  have := FI_rng h (o := o) ⟨a, by omega⟩ 2
  omega))
theorem V_s1 {σ : St} {B k : Int} (h0 : 169 ≤ k) (h1 : k < 2197) : V1 σ B k = V0 σ B k + V1 σ B (k - 169) := sm3 (fun o a b => if3 (by
  rw [show (k - 169) / 169 = k / 169 - 1 by omega, show (k - 169) / 13 % 13 = k / 13 % 13 by omega, show (k - 169) % 13 = k % 13 by omega]
  constructor <;> omega))
theorem V_s2 {σ : St} {B k : Int} (h0 : 0 ≤ k) (h1 : k < 2197) (h2 : 13 ≤ k % 169) : V2 σ B k = V1 σ B k + V2 σ B (k - 13) := sm3 (fun o a b => if3 (by
  rw [show (k - 13) / 169 = k / 169 by omega, show (k - 13) / 13 % 13 = k / 13 % 13 - 1 by omega, show (k - 13) % 13 = k % 13 by omega]
  constructor <;> omega))
theorem V_s3 {σ : St} {B k : Int} (h0 : 0 ≤ k) (h1 : k < 2197) (h2 : 1 ≤ k % 13) : V3 σ B k = V2 σ B k + V3 σ B (k - 1) := sm3 (fun o a b => if3 (by
  rw [show (k - 1) / 169 = k / 169 by omega, show (k - 1) / 13 % 13 = k / 13 % 13 by omega, show (k - 1) % 13 = k % 13 - 1 by omega]
  constructor <;> omega))
theorem V_c {σ : St} (h : XO σ) {B k : Int} (h0 : 0 ≤ k) (h1 : k < 2197) : CRN σ B (σ 83 5) k = V0 σ B k := smn (fun o a b => if2 (by
  have := h.1
  have := FI_rng h (o := o) ⟨a, by omega⟩ 0
  have := FI_rng h (o := o) ⟨a, by omega⟩ 1
  have := FI_rng h (o := o) ⟨a, by omega⟩ 2
  unfold cor
  omega))
theorem V3_dm {σ : St} {B k : Int} (h0 : 0 ≤ k) (h1 : k < 2197) : V3 σ B k = -(dm (σ 83 5) (σ 84) (σ 85) (σ 112) (tb B) (k / 169) (k / 13 % 13) (k % 13)) := smn (fun o a b => by
  have e := hSb_FI (it := σ 85 o) (la := σ 112 o) (a := k / 169) (b := k / 13 % 13) (c := k % 13) (by omega) (by omega) (by omega)
  by_cases z : tb B o = true ∧ FI (σ 85 o) (σ 112 o) 0 ≤ k / 169 ∧ FI (σ 85 o) (σ 112 o) 1 ≤ k / 13 % 13 ∧ FI (σ 85 o) (σ 112 o) 2 ≤ k % 13
  · rw [if_pos z, if_pos (by rw [Bool.and_eq_true]; exact ⟨z.1, e.mpr z.2⟩)]
  · rw [if_neg z, if_neg (by rw [Bool.and_eq_true]; exact fun w => z ⟨w.1, e.mp w.2⟩)])
theorem V3_0 {σ : St} {b : Int} (hn : 0 ≤ σ 83 5) : V3 σ 0 b = 0 := by
  have : V3 σ 0 b = -(sm (fun _ => 0) (σ 83 5)) := smn (fun o _ _ => if_neg (fun z => by
    have := z.1
    unfold tb at this
    rw [show (0 : Int).toNat = 0 from rfl, Nat.zero_testBit] at this
    cases this))
  rw [this, sm_k hn, Int.mul_zero]
  rfl
theorem LX_V {σ : St} {B k : Int} (h0 : 0 ≤ k) (h1 : k < 2197) : LX σ (tb B) k = V3 σ B k + (sq (σ 109) 0 (k / 169) + sq (σ 109) 1 (k / 13 % 13) + sq (σ 109) 2 (k % 13)) := by
  rw [V3_dm h0 h1]
  unfold LX LFT
  omega
theorem CRN_n {σ : St} {B k b : Int} (h : 0 ≤ k) (hb : ¬ tb B k = true) : CRN σ B k b = CRN σ B (k + 1) b := by
  unfold CRN
  rw [sm_s h, if_neg (fun z => hb z.1), Int.add_zero]
theorem CRN_y {σ τ : St} {B k : Int} (h : 0 ≤ k) (hb : tb B k = true) (hc : 0 ≤ cor σ k ∧ cor σ k < 2197) : put (RW τ (CRN σ B k)) 92 (cor σ k) (CRN σ B k (cor σ k) - σ 84 k) = RW τ (CRN σ B (k + 1)) := by
  funext a b
  by_cases q : a = 92 ∧ b = cor σ k
  · rw [q.1, q.2, put_s, RW_at hc]
    unfold CRN
    rw [sm_s h, if_pos ⟨hb, rfl⟩]
    omega
  · rw [put_q q]
    unfold RW
    by_cases w : a = 92 ∧ 0 ≤ b ∧ b < 2197
    · rw [if_pos w, if_pos w]
      unfold CRN
      rw [sm_s h, if_neg (fun z => q ⟨w.1, z.2.symm⟩), Int.add_zero]
    · rw [if_neg w, if_neg w]
theorem RW_RW {σ : St} {f g : Int → Int} : RW (RW σ f) g = RW σ g := by
  funext a b
  unfold RW
  by_cases w : a = 92 ∧ 0 ≤ b ∧ b < 2197
  · rw [if_pos w, if_pos w]
  · rw [if_neg w, if_neg w, if_neg w]
/-- steps laid -/
def LY (σ : St) (B : Int) : St := RW (UPk σ 39) (LX σ (tb B))
theorem LY_LAID {σ : St} {B : Int} : LAID (LY σ B) (tb B) :=
  ⟨fun k a b => RW_at ⟨a, b⟩, fun i q a b c d => by
    show (if (93 : Nat) = 93 ∧ 0 ≤ 13 * i + q ∧ 13 * i + q < 39 then upv σ (13 * i + q) else _) = _
    rw [if_pos ⟨rfl, by omega, by omega⟩]
    unfold upv
    rw [show (13 * i + q) / 13 = i by omega, show (13 * i + q) % 13 = q by omega]
    rfl⟩
theorem UP_at {σ : St} {f : Int → Int} {j i q : Int} (hj : j = 13 * i + q) (hi : 0 ≤ i ∧ i < 3) (hq : 0 ≤ q ∧ q ≤ 12) : RW (UPk σ 39) f 93 j = sq (σ 109) i q := by
  show (if (93 : Nat) = 93 ∧ 0 ≤ j ∧ j < 39 then upv σ j else _) = _
  rw [if_pos ⟨rfl, by omega, by omega⟩, hj]
  unfold upv
  rw [show (13 * i + q) / 13 = i by omega, show (13 * i + q) % 13 = q by omega]

theorem hyVX6_lay : yX6_lay.cls = RX6 ∧ yX6_lay.cls ≠ "java/lang/invoke/MethodHandle" ∧ yX6_lay.cls ≠ "java/lang/invoke/VarHandle" ∧ (parseMethodDescriptor yX6_lay.desc).map (fun d => d.parameters.length) = some 3 := by decide +kernel
theorem uX6_lay_X6 : ∀ w ∈ u_ws RX6 TX6 2, w ∈ wsX6_lay := by decide +kernel
theorem fX6_lay_9 : Cond.fieldLink RX6 9 (TX6 0).1 (TX6 0).2.1 (TX6 0).2.2.1 ∈ wsX6_lay := by decide +kernel
theorem fX6_lay_15 : Cond.fieldLink RX6 15 (TX6 1).1 (TX6 1).2.1 (TX6 1).2.2.1 ∈ wsX6_lay := by decide +kernel
theorem uX6_lay_X0 : ∀ w ∈ u_ws RX0 TX0 6, w ∈ wsX6_lay := by decide +kernel
theorem fnX6_28 : Cond.fieldLinkNest RX6 28 (TX0 5).1 (TX0 5).2.1 (TX0 5).2.2.1 "PromiseMind" ∈ tables_1 := List.mem_of_getElem? (i := 58) (by decide +kernel)
theorem mnX6_34 : Cond.methodLinkNest RX6 34 yX8_bit "PromiseMind" ∈ tables_1 := List.mem_of_getElem? (i := 412) (by decide +kernel)
theorem fnX6_38 : Cond.fieldLinkNest RX6 38 (TX0 1).1 (TX0 1).2.1 (TX0 1).2.2.1 "PromiseMind" ∈ tables_1 := List.mem_of_getElem? (i := 43) (by decide +kernel)
theorem uX6_lay_X5 : ∀ w ∈ u_ws RX5 TX5 5, w ∈ wsX6_lay := by decide +kernel
theorem fnX6_41 : Cond.fieldLinkNest RX6 41 (TX5 3).1 (TX5 3).2.1 (TX5 3).2.2.1 "PromiseMind" ∈ tables_1 := List.mem_of_getElem? (i := 92) (by decide +kernel)
theorem fnX6_50 : Cond.fieldLinkNest RX6 50 (TX0 0).1 (TX0 0).2.1 (TX0 0).2.2.1 "PromiseMind" ∈ tables_1 := List.mem_of_getElem? (i := 38) (by decide +kernel)
set_option maxHeartbeats 8000000 in
set_option maxRecDepth 100000 in
theorem c_X6_lay {l : Launch} {G : Gy} (hG : Inj G) (σ : St) {B : Int} (h : XO σ) (hB : 0 ≤ B ∧ B ≤ 2147483647) : MU l yX6_lay wsX6_lay ({ frames := 2, cells := 0, slots := 0, locals := 43 } : Room) G [.ref (G.2.2 91), .ref (G.2.2 83), .ref (G.2.2 108), .int (zI (B))] σ (LY σ B) := by
  refine MV.of hG (by decide +kernel) rfl rfl (Nat.le_of_ble_eq_true rfl) rfl ?_
  intro p e s m args below meth c H0 Q hC hret
  have hn := h.1
  have L87 : ∀ (n : Nat) (q a : Int), ((13 - a).toNat) = n → (q = 169 * a) → (0 ≤ a ∧ a ≤ 13) → wp p l e ({ frames := 2, cells := 0, slots := 0, locals := 43 } : Room) s m args below meth c (aA G (Array.size H0)) H0 9 Q G (RW (UPk σ 39) (sw (V3 σ B) (LX σ (tb B)) (q))) 87 [(0, .ref (G.2.2 91)), (1, .ref (G.2.2 83)), (2, .ref (G.2.2 108)), (3, .int (zI (B))), (4, .int (zI (q))), (5, .int (zI (a)))] [] := by
    intro n87
    induction n87 using Nat.strongRecOn with
    | ind n87 ih =>
      intro q a hm87 hq h1
      have L97 : ∀ (n : Nat) (q b : Int), ((13 - b).toNat) = n → (a < 13) → (q = 169 * a + 13 * b) → (0 ≤ b ∧ b ≤ 13) → wp p l e ({ frames := 2, cells := 0, slots := 0, locals := 43 } : Room) s m args below meth c (aA G (Array.size H0)) H0 9 Q G (RW (UPk σ 39) (sw (V3 σ B) (LX σ (tb B)) (q))) 97 [(0, .ref (G.2.2 91)), (1, .ref (G.2.2 83)), (2, .ref (G.2.2 108)), (3, .int (zI (B))), (4, .int (zI (q))), (5, .int (zI (a))), (6, .int (zI (b)))] [] := by
        intro n97
        induction n97 using Nat.strongRecOn with
        | ind n97 ih97 =>
          intro q b hm97 h3 hq h2
          have L127 : ∀ (n : Nat) (q c1 : Int), ((13 - c1).toNat) = n → (b < 13) → (q = 169 * a + 13 * b + c1) → (0 ≤ c1 ∧ c1 ≤ 13) → wp p l e ({ frames := 2, cells := 0, slots := 0, locals := 43 } : Room) s m args below meth c (aA G (Array.size H0)) H0 9 Q G (RW (UPk σ 39) (sw (V3 σ B) (LX σ (tb B)) (q))) 127 [(0, .ref (G.2.2 91)), (1, .ref (G.2.2 83)), (2, .ref (G.2.2 108)), (3, .int (zI (B))), (4, .int (zI (q))), (5, .int (zI (a))), (6, .int (zI (b))), (7, .int (zI (sq (σ 109) 0 a + sq (σ 109) 1 b))), (8, .int (zI (c1)))] [] := by
            intro n127
            induction n127 using Nat.strongRecOn with
            | ind n127 ih127 =>
              intro q c1 hm127 h5 hq h4
              refine wp_iload hC dX6_lay_127 rfl ?_
              refine wp_bipush hC dX6_lay_129 rfl ?_
              refine wp_icmp_ge (tgt := 166) hC dX6_lay_131 (by decide) (by omega) (by omega) (fun c_131 => ?_) (fun c_131 => ?_)
              · refine wp_iinc (lv2 := [(0, _), (1, _), (2, _), (3, _), (4, _), (5, _), (6, _), (7, _), (8, _)]) hC dX6_lay_166 rfl rfl (by decide) ?_
                refine wp_goto (tgt := 97) hC dX6_lay_169 (by decide) ?_
                refine wp_lv hC [0, 1, 2, 3, 4, 5, 6] rfl ?_
                exact ih97 _ (by omega) _ _ rfl h3 (by omega) (by omega)
              · refine wp_aload_n hC dX6_lay_134 rfl ?_
                refine wp_geta (k := 0) hC (rfl) (by decide) (rfl) (rfl) (by decide) uX6_lay_X6 fX6_lay_9 (rfl) dX6_lay_135 ?_
                refine wp_iload hC dX6_lay_138 rfl ?_
                refine wp_dup2 hC dX6_lay_140 rfl rfl ?_
                refine wp_iald (n := 2197) hC (rfl) (Nat.le_of_ble_eq_true rfl) (rfl) (by decide) (by omega) dX6_lay_141 ?_
                refine wp_iload hC dX6_lay_142 rfl ?_
                refine wp_aload_n hC dX6_lay_144 rfl ?_
                refine wp_geta (k := 1) hC (rfl) (by decide) (rfl) (rfl) (by decide) uX6_lay_X6 fX6_lay_15 (rfl) dX6_lay_145 ?_
                refine wp_bipush hC dX6_lay_148 rfl ?_
                refine wp_iload hC dX6_lay_150 rfl ?_
                refine wp_iadd hC dX6_lay_152 ?_
                refine wp_iald (n := 39) hC (rfl) (Nat.le_of_ble_eq_true rfl) (rfl) (by decide) (by omega) dX6_lay_153 ?_
                refine wp_top (b := sq (σ 109) 2 c1) (UP_at (by omega) (by omega) (by omega)) ?_
                refine wp_iadd hC dX6_lay_154 ?_
                refine wp_iadd hC dX6_lay_155 ?_
                refine wp_iast (n := 2197) hC (rfl) (Nat.le_of_ble_eq_true rfl) (rfl) (by decide) (by omega) dX6_lay_156 ?_
                refine wp_iinc (lv2 := [(0, _), (1, _), (2, _), (3, _), (4, _), (5, _), (6, _), (7, _), (8, _)]) hC dX6_lay_157 rfl rfl (by decide) ?_
                refine wp_iinc (lv2 := [(0, _), (1, _), (2, _), (3, _), (4, _), (5, _), (6, _), (7, _), (8, _)]) hC dX6_lay_160 rfl rfl (by decide) ?_
                refine wp_goto (tgt := 127) hC dX6_lay_163 (by decide) ?_
                refine wp_st (RW_put (f := V3 σ B) (g := LX σ (tb B)) (K := q) ⟨by omega, by omega⟩ (by rw [RW_at ⟨by omega, by omega⟩, LX_V (by omega) (by omega), show q / 169 = a by omega, show q / 13 % 13 = b by omega, show q % 13 = c1 by omega]; unfold sw; rw [if_neg (by omega)])) ?_
                exact ih127 _ (by omega) _ _ rfl h5 (by omega) (by omega)
          refine wp_iload hC dX6_lay_97 rfl ?_
          refine wp_bipush hC dX6_lay_99 rfl ?_
          refine wp_icmp_ge (tgt := 172) hC dX6_lay_101 (by decide) (by omega) (by omega) (fun c_101 => ?_) (fun c_101 => ?_)
          · refine wp_iinc (lv2 := [(0, _), (1, _), (2, _), (3, _), (4, _), (5, _), (6, _)]) hC dX6_lay_172 rfl rfl (by decide) ?_
            refine wp_goto (tgt := 87) hC dX6_lay_175 (by decide) ?_
            refine wp_lv hC [0, 1, 2, 3, 4, 5] rfl ?_
            exact ih _ (by omega) _ _ rfl (by omega) (by omega)
          · refine wp_aload_n hC dX6_lay_104 rfl ?_
            refine wp_geta (k := 1) hC (rfl) (by decide) (rfl) (rfl) (by decide) uX6_lay_X6 fX6_lay_15 (rfl) dX6_lay_105 ?_
            refine wp_iload hC dX6_lay_108 rfl ?_
            refine wp_iald (n := 39) hC (rfl) (Nat.le_of_ble_eq_true rfl) (rfl) (by decide) (by omega) dX6_lay_110 ?_
            refine wp_top (b := sq (σ 109) 0 a) (UP_at (by omega) (by omega) (by omega)) ?_
            refine wp_aload_n hC dX6_lay_111 rfl ?_
            refine wp_geta (k := 1) hC (rfl) (by decide) (rfl) (rfl) (by decide) uX6_lay_X6 fX6_lay_15 (rfl) dX6_lay_112 ?_
            refine wp_bipush hC dX6_lay_115 rfl ?_
            refine wp_iload hC dX6_lay_117 rfl ?_
            refine wp_iadd hC dX6_lay_119 ?_
            refine wp_iald (n := 39) hC (rfl) (Nat.le_of_ble_eq_true rfl) (rfl) (by decide) (by omega) dX6_lay_120 ?_
            refine wp_top (b := sq (σ 109) 1 b) (UP_at (by omega) (by omega) (by omega)) ?_
            refine wp_iadd hC dX6_lay_121 ?_
            refine wp_istore (lv2 := [(0, _), (1, _), (2, _), (3, _), (4, _), (5, _), (6, _), (7, _)]) hC dX6_lay_122 rfl (by decide) ?_
            refine wp_iconst hC dX6_lay_124 ?_
            refine wp_istore (lv2 := [(0, _), (1, _), (2, _), (3, _), (4, _), (5, _), (6, _), (7, _), (8, _)]) hC dX6_lay_125 rfl (by decide) ?_
            exact L127 _ _ 0 rfl (by omega) (by omega) (by omega)
      refine wp_iload hC dX6_lay_87 rfl ?_
      refine wp_bipush hC dX6_lay_89 rfl ?_
      refine wp_icmp_ge (tgt := 178) hC dX6_lay_91 (by decide) (by omega) (by omega) (fun c_91 => ?_) (fun c_91 => ?_)
      · exact hret _ _ _ (RW_c (fun k x y => by unfold sw; rw [if_pos (by omega)])) dX6_lay_178
      · refine wp_iconst hC dX6_lay_94 ?_
        refine wp_istore (lv2 := [(0, _), (1, _), (2, _), (3, _), (4, _), (5, _), (6, _)]) hC dX6_lay_95 rfl (by decide) ?_
        exact L97 _ _ 0 rfl (by omega) (by omega) (by omega)
  have L20 : ∀ (n : Nat) (k : Int), ((σ 83 5 - k).toNat) = n → (0 ≤ k ∧ k ≤ σ 83 5) → wp p l e ({ frames := 2, cells := 0, slots := 0, locals := 43 } : Room) s m args below meth c (aA G (Array.size H0)) H0 9 Q G (RW (UPk σ 39) (CRN σ B k)) 20 [(0, .ref (G.2.2 91)), (1, .ref (G.2.2 83)), (2, .ref (G.2.2 108)), (3, .int (zI (B))), (4, .int (zI (k)))] [] := by
    intro n20
    induction n20 using Nat.strongRecOn with
    | ind n20 ih =>
      intro k hm20 h1
      have hok := fun z : k < σ 83 5 => h.2.2 k h1.1 z
      have hf0 := fun z : k < σ 83 5 => FI_rng h ⟨h1.1, z⟩ 0
      have hf1 := fun z : k < σ 83 5 => FI_rng h ⟨h1.1, z⟩ 1
      have hf2 := fun z : k < σ 83 5 => FI_rng h ⟨h1.1, z⟩ 2
      have hcr : k < σ 83 5 → 0 ≤ cor σ k ∧ cor σ k < 2197 := fun z => by unfold cor; omega
      refine wp_iload hC dX6_lay_20 rfl ?_
      refine wp_aload_n hC dX6_lay_22 rfl ?_
      refine wp_getiN (k := 5) (z := 5) hC rfl (rfl) (by decide) (rfl) (rfl) (by decide) uX6_lay_X0 fnX6_28 (rfl) dX6_lay_23 ?_
      refine wp_top (b := σ 83 5) rfl ?_
      refine wp_icmp_ge (tgt := 77) hC dX6_lay_26 (by decide) (by omega) (by omega) (fun c_26 => ?_) (fun c_26 => ?_)
      · refine wp_st (RW_c (g := V0 σ B) (fun b x y => by rw [show k = σ 83 5 by omega]; exact V_c h x y)) ?_
        refine wp_aload_n hC dX6_lay_77 rfl ?_
        refine wp_callVu (As := []) hC (c_X6_spread hG (RW (UPk σ 39) (V0 σ B)) (f0 := V0 σ B) (f1 := V1 σ B) (f2 := V2 σ B) (f3 := V3 σ B) (fun k a b => RW_at ⟨a, b⟩) (fun k a b => V_e1 h a b) (fun k a b => V_s1 a b) (fun k a b c => V_e2 h a b c) (fun k a b c => V_s2 a b c) (fun k a b c => V_e3 h a b c) (fun k a b c => V_s3 a b c)) gX6_lay_X6_spread rfl ⟨rfl, rfl⟩ ⟨by decide, by decide⟩ hyVX6_spread (rfl) (by decide) (rfl) rfl (Nat.le_of_ble_eq_true rfl) dX6_lay_78 ?_
        refine wp_st RW_RW ?_
        refine wp_iconst hC dX6_lay_81 ?_
        refine wp_istore (lv2 := [(0, _), (1, _), (2, _), (3, _), (4, _)]) hC dX6_lay_82 rfl (by decide) ?_
        refine wp_iconst hC dX6_lay_84 ?_
        refine wp_istore (lv2 := [(0, _), (1, _), (2, _), (3, _), (4, _), (5, _)]) hC dX6_lay_85 rfl (by decide) ?_
        refine wp_st (RW_c (g := sw (V3 σ B) (LX σ (tb B)) 0) (fun k a b => by unfold sw; rw [if_neg (by omega)])) ?_
        exact L87 _ 0 0 rfl rfl (by omega)
      · refine wp_iload_n hC dX6_lay_29 rfl ?_
        refine wp_iload hC dX6_lay_30 rfl ?_
        refine wp_callNe (As := [_]) hC (c_X8_bit hG _ (by omega)) gX6_lay_X8_bit_n34 rfl ⟨rfl, rfl⟩ ⟨by decide, by decide⟩ hySX8_bit mnX6_34 (by decide +kernel) (by decide +kernel) rfl (Nat.le_of_ble_eq_true rfl) dX6_lay_32 (fun hx_32 => ?_)
        refine wp_iand hC dX6_lay_35 ?_
        refine wp_top (b := iand B (pw k)) (rfl) ?_
        refine wp_if_eq (tgt := 71) hC dX6_lay_36 (by decide) (by have := iand_nn (b := pw k) hB; omega) (fun c_36 => ?_) (fun c_36 => ?_)
        · refine wp_iinc (lv2 := [(0, _), (1, _), (2, _), (3, _), (4, _)]) hC dX6_lay_71 rfl rfl (by decide) ?_
          refine wp_goto (tgt := 20) hC dX6_lay_74 (by decide) ?_
          refine wp_st (RW_c (g := CRN σ B (k + 1)) (fun b _ _ => CRN_n h1.1 ((iand_bit hB h1.1 (by omega)).mp c_36))) ?_
          exact ih _ (by omega) _ rfl (by omega)
        · refine wp_aload_n hC dX6_lay_39 rfl ?_
          refine wp_geta (k := 0) hC (rfl) (by decide) (rfl) (rfl) (by decide) uX6_lay_X6 fX6_lay_9 (rfl) dX6_lay_40 ?_
          refine wp_aload_n hC dX6_lay_43 rfl ?_
          refine wp_getaN (k := 1) hC (rfl) (by decide) (rfl) (rfl) (by decide) uX6_lay_X0 fnX6_38 (rfl) dX6_lay_44 ?_
          refine wp_iload hC dX6_lay_47 rfl ?_
          refine wp_iald (n := 24) hC (rfl) (Nat.le_of_ble_eq_true rfl) (rfl) (by decide) (by omega) dX6_lay_49 ?_
          refine wp_aload_n hC dX6_lay_50 rfl ?_
          refine wp_getaN (k := 3) hC (rfl) (by decide) (rfl) (rfl) (by decide) uX6_lay_X5 fnX6_41 (rfl) dX6_lay_51 ?_
          refine wp_iload hC dX6_lay_54 rfl ?_
          refine wp_iald (n := 24) hC (rfl) (Nat.le_of_ble_eq_true rfl) (rfl) (by decide) (by omega) dX6_lay_56 ?_
          refine wp_callSe (As := [_, _]) hC (c_X6_corner hG (RW (UPk σ 39) (CRN σ B k)) (it := σ 85 k) (la := σ 112 k) (hok (by omega)).2.2.2.1 (hok (by omega)).2.1) gX6_lay_X6_corner rfl ⟨rfl, rfl⟩ ⟨by decide, by decide⟩ hySX6_corner rfl (Nat.le_of_ble_eq_true rfl) dX6_lay_57 (fun hx_57 => ?_)
          refine wp_top (b := cor σ k) rfl ?_
          have hcr2 := hcr (by omega)
          refine wp_dup2 hC dX6_lay_60 rfl rfl ?_
          refine wp_iald (n := 2197) hC (rfl) (Nat.le_of_ble_eq_true rfl) (rfl) (by decide) (by omega) dX6_lay_61 ?_
          refine wp_top (b := CRN σ B k (cor σ k)) (RW_at hcr2) ?_
          refine wp_aload_n hC dX6_lay_62 rfl ?_
          refine wp_getaN (k := 0) hC (rfl) (by decide) (rfl) (rfl) (by decide) uX6_lay_X0 fnX6_50 (rfl) dX6_lay_63 ?_
          refine wp_iload hC dX6_lay_66 rfl ?_
          refine wp_iald (n := 24) hC (rfl) (Nat.le_of_ble_eq_true rfl) (rfl) (by decide) (by omega) dX6_lay_68 ?_
          refine wp_top (b := σ 84 k) rfl ?_
          refine wp_isub hC dX6_lay_69 ?_
          refine wp_iast (n := 2197) hC (rfl) (Nat.le_of_ble_eq_true rfl) (rfl) (by decide) (by omega) dX6_lay_70 ?_
          refine wp_iinc (lv2 := [(0, _), (1, _), (2, _), (3, _), (4, _)]) hC dX6_lay_71 rfl rfl (by decide) ?_
          refine wp_goto (tgt := 20) hC dX6_lay_74 (by decide) ?_
          refine wp_st (CRN_y h1.1 (iand_bit1 hB h1.1 (by omega) c_36) (hcr (by omega))) ?_
          exact ih _ (by omega) _ rfl (by omega)
  refine wp_aload_n hC dX6_lay_0 rfl ?_
  refine wp_aload_n hC dX6_lay_1 rfl ?_
  refine wp_callVu (As := [_]) hC (c_X6_sumSupplies hG σ) gX6_lay_X6_sumSupplies rfl ⟨rfl, rfl⟩ ⟨by decide, by decide⟩ hyVX6_sumSupplies (rfl) (by decide) (rfl) rfl (Nat.le_of_ble_eq_true rfl) dX6_lay_2 ?_
  refine wp_aload_n hC dX6_lay_5 rfl ?_
  refine wp_geta (k := 0) hC (rfl) (by decide) (rfl) (rfl) (by decide) uX6_lay_X6 fX6_lay_9 (rfl) dX6_lay_6 ?_
  refine wp_iconst hC dX6_lay_9 ?_
  refine wp_callSu (As := [_, _]) hC (c_J7_fill_53178 hG (UPk σ 39) 92 (v := 0) (by decide) rfl (by decide)) gX6_lay_J7_fill_53178 rfl ⟨rfl, rfl⟩ ⟨by decide, by decide⟩ hySJ7_fill_53178 rfl (Nat.le_of_ble_eq_true rfl) dX6_lay_10 ?_
  refine wp_st (σ2 := RW (UPk σ 39) (fun _ => 0)) rfl ?_
  refine wp_iload_n hC dX6_lay_13 rfl ?_
  refine wp_if_eq (tgt := 81) hC dX6_lay_14 (by decide) (by omega) (fun c_14 => ?_) (fun c_14 => ?_)
  · refine wp_iconst hC dX6_lay_81 ?_
    refine wp_istore (lv2 := [(0, _), (1, _), (2, _), (3, _), (4, _)]) hC dX6_lay_82 rfl (by decide) ?_
    refine wp_iconst hC dX6_lay_84 ?_
    refine wp_istore (lv2 := [(0, _), (1, _), (2, _), (3, _), (4, _), (5, _)]) hC dX6_lay_85 rfl (by decide) ?_
    refine wp_st (RW_c (g := sw (V3 σ B) (LX σ (tb B)) 0) (fun k a b => by unfold sw; rw [if_neg (by omega), c_14, V3_0 hn.1])) ?_
    exact L87 _ 0 0 rfl rfl (by omega)
  · refine wp_iconst hC dX6_lay_17 ?_
    refine wp_istore (lv2 := [(0, _), (1, _), (2, _), (3, _), (4, _)]) hC dX6_lay_18 rfl (by decide) ?_
    refine wp_st (RW_c (g := CRN σ B 0) (fun k a b => rfl)) ?_
    exact L20 _ 0 rfl (by omega)
