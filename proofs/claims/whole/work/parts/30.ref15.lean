theorem hyVX9_room : yX9_room.cls = RX9 ∧ yX9_room.cls ≠ "java/lang/invoke/MethodHandle" ∧ yX9_room.cls ≠ "java/lang/invoke/VarHandle" ∧ (parseMethodDescriptor yX9_room.desc).map (fun d => d.parameters.length) = some 2 := by decide +kernel
theorem uX9_room_X9 : ∀ w ∈ u_ws RX9 TX9 35, w ∈ wsX9_room := by decide +kernel
theorem fX9_room_16 : Cond.fieldLink RX9 16 (TX9 2).1 (TX9 2).2.1 (TX9 2).2.2.1 ∈ wsX9_room := by decide +kernel
theorem fX9_room_9 : Cond.fieldLink RX9 9 (TX9 0).1 (TX9 0).2.1 (TX9 0).2.2.1 ∈ wsX9_room := by decide +kernel
theorem fX9_room_235 : Cond.fieldLink RX9 235 (TX9 28).1 (TX9 28).2.1 (TX9 28).2.2.1 ∈ wsX9_room := by decide +kernel
theorem fX9_room_238 : Cond.fieldLink RX9 238 (TX9 27).1 (TX9 27).2.1 (TX9 27).2.2.1 ∈ wsX9_room := by decide +kernel
theorem fX9_room_241 : Cond.fieldLink RX9 241 (TX9 29).1 (TX9 29).2.1 (TX9 29).2.2.1 ∈ wsX9_room := by decide +kernel
theorem fX9_room_55 : Cond.fieldLink RX9 55 (TX9 22).1 (TX9 22).2.1 (TX9 22).2.2.1 ∈ wsX9_room := by decide +kernel
set_option maxHeartbeats 4000000 in
set_option maxRecDepth 100000 in
theorem c_X9_room {l : Launch} {G : Gy} (hG : Inj G) (σ : St) {a o : Int} (h : RO σ) (ha : 0 ≤ a ∧ a < 36) (ho : 0 ≤ o ∧ o < σ 0 5) (hc : 0 ≤ σ 0 29 ∧ σ 0 29 ≤ 1000) (hp : 0 ≤ pt σ a o ∧ pt σ a o ≤ 99) (hi : iR (σ 0 28) ∧ iR (σ 0 27)) : ME l yX9_room wsX9_room ({ frames := 0, cells := 0, slots := 0, locals := 0 } : Room) G [.ref (G.2.2 0), .int (zI (a)), .int (zI (o))] σ (rmF σ (pt σ) a o) σ := by
  refine MI.of hG (by decide +kernel) rfl rfl (Nat.le_of_ble_eq_true rfl) rfl ?_
  intro p e s m args below meth c H0 Q hC hret
  have hn := h.1
  have hit := h.2.2.2.1 o ho.1 (by omega)
  have hla := h.2.1.2.2.2 (64 + o) (by omega) (by omega)
  have e1 : a.tdiv 12 = a / 12 := Int.tdiv_eq_ediv_of_nonneg ha.1
  have e2 : a.tmod 12 = a % 12 := Int.tmod_eq_emod_of_nonneg ha.1
  have hrp := rowP a.toNat (by omega)
  refine wp_aload_n hC dX9_room_0 rfl ?_
  refine wp_geta (k := 2) hC (rfl) (by decide) (rfl) (rfl) (by decide) uX9_room_X9 fX9_room_16 (rfl) dX9_room_1 ?_
  refine wp_iload_n hC dX9_room_4 rfl ?_
  refine wp_iald (n := 24) hC (rfl) (Nat.le_of_ble_eq_true rfl) (rfl) (by decide) (by omega) dX9_room_5 ?_
  refine wp_iload_n hC dX9_room_6 rfl ?_
  refine wp_bipush hC dX9_room_7 rfl ?_
  refine wp_idiv hC dX9_room_9 (by omega) (by omega) ?_
  refine wp_top (b := a / 12) e1 ?_
  refine wp_ishr hC dX9_room_10 ?_
  refine wp_iconst hC dX9_room_11 ?_
  refine wp_iand hC dX9_room_12 ?_
  refine wp_top (b := bI (tb (σ 3 o) (a / 12) = true)) (bit_at (by omega) (by omega) (by omega) (by omega)) ?_
  refine wp_iconst hC dX9_room_13 ?_
  refine wp_icmp_ne (tgt := 37) hC dX9_room_14 (by decide) (iR_bI) (by omega) (fun c_14 => ?_) (fun c_14 => ?_)
  · have hna : ¬ (tb (σ 3 o) (a / 12) = true ∧ a % 12 ≤ σ 1 (64 + o)) := fun z => bI_n1.mp c_14 z.1
    refine wp_iconst hC dX9_room_37 ?_
    refine wp_istore_n (lv2 := [(0, _), (1, _), (2, _), (3, _)]) hC dX9_room_38 rfl (by decide) ?_
    refine wp_iload_n hC dX9_room_39 rfl ?_
    refine wp_if_ne (tgt := 45) hC dX9_room_40 (by decide) (by omega) (fun c_40 => ?_) (fun c_40 => ?_)
    · exact absurd rfl c_40
    · refine wp_iconst hC dX9_room_43 ?_
      exact hret _ _ _ _ (by omega) rfl (⟨by unfold rmF; rw [if_neg hna], rfl⟩) dX9_room_44
  · have c14 : tb (σ 3 o) (a / 12) = true := bI_1.mp c_14
    refine wp_iload_n hC dX9_room_17 rfl ?_
    refine wp_bipush hC dX9_room_18 rfl ?_
    refine wp_irem hC dX9_room_20 (by omega) (by omega) ?_
    refine wp_top (b := a % 12) e2 ?_
    refine wp_aload_n hC dX9_room_21 rfl ?_
    refine wp_geta (k := 0) hC (rfl) (by decide) (rfl) (rfl) (by decide) uX9_room_X9 fX9_room_9 (rfl) dX9_room_22 ?_
    refine wp_bipush hC dX9_room_25 rfl ?_
    refine wp_iload_n hC dX9_room_27 rfl ?_
    refine wp_iadd hC dX9_room_28 ?_
    refine wp_iald (n := 88) hC (rfl) (Nat.le_of_ble_eq_true rfl) (rfl) (by decide) (by omega) dX9_room_29 ?_
    refine wp_icmp_gt (tgt := 37) hC dX9_room_30 (by decide) (by omega) (by omega) (fun c_30 => ?_) (fun c_30 => ?_)
    · have hna : ¬ (tb (σ 3 o) (a / 12) = true ∧ a % 12 ≤ σ 1 (64 + o)) := fun z => by have := z.2; omega
      refine wp_iconst hC dX9_room_37 ?_
      refine wp_istore_n (lv2 := [(0, _), (1, _), (2, _), (3, _)]) hC dX9_room_38 rfl (by decide) ?_
      refine wp_iload_n hC dX9_room_39 rfl ?_
      refine wp_if_ne (tgt := 45) hC dX9_room_40 (by decide) (by omega) (fun c_40 => ?_) (fun c_40 => ?_)
      · exact absurd rfl c_40
      · refine wp_iconst hC dX9_room_43 ?_
        exact hret _ _ _ _ (by omega) rfl (⟨by unfold rmF; rw [if_neg hna], rfl⟩) dX9_room_44
    · refine wp_iconst hC dX9_room_33 ?_
      refine wp_goto (tgt := 38) hC dX9_room_34 (by decide) ?_
      refine wp_istore_n (lv2 := [(0, _), (1, _), (2, _), (3, _)]) hC dX9_room_38 rfl (by decide) ?_
      refine wp_iload_n hC dX9_room_39 rfl ?_
      refine wp_if_ne (tgt := 45) hC dX9_room_40 (by decide) (by omega) (fun c_40 => ?_) (fun c_40 => ?_)
      · have hya : tb (σ 3 o) (a / 12) = true ∧ a % 12 ≤ σ 1 (64 + o) := ⟨c14, by omega⟩
        refine wp_iload_n hC dX9_room_45 rfl ?_
        refine wp_aload_n hC dX9_room_46 rfl ?_
        refine wp_geti (k := 28) (z := 28) hC rfl (rfl) (by decide) (rfl) (rfl) (by decide) uX9_room_X9 fX9_room_235 (rfl) dX9_room_47 ?_
        refine wp_icmp_ne (tgt := 77) hC dX9_room_50 (by decide) (by omega) (by omega) (fun c_50 => ?_) (fun c_50 => ?_)
        · refine wp_bipush hC dX9_room_77 rfl ?_
          exact hret _ _ _ _ (by omega) rfl (⟨by unfold rmF; rw [if_pos hya, if_neg (by omega)], rfl⟩) dX9_room_79
        · refine wp_iload_n hC dX9_room_53 rfl ?_
          refine wp_aload_n hC dX9_room_54 rfl ?_
          refine wp_geti (k := 27) (z := 27) hC rfl (rfl) (by decide) (rfl) (rfl) (by decide) uX9_room_X9 fX9_room_238 (rfl) dX9_room_55 ?_
          refine wp_icmp_ne (tgt := 77) hC dX9_room_58 (by decide) (by omega) (by omega) (fun c_58 => ?_) (fun c_58 => ?_)
          · refine wp_bipush hC dX9_room_77 rfl ?_
            exact hret _ _ _ _ (by omega) rfl (⟨by unfold rmF; rw [if_pos hya, if_neg (by omega)], rfl⟩) dX9_room_79
          · refine wp_aload_n hC dX9_room_61 rfl ?_
            refine wp_geti (k := 29) (z := 29) hC rfl (rfl) (by decide) (rfl) (rfl) (by decide) uX9_room_X9 fX9_room_241 (rfl) dX9_room_62 ?_
            refine wp_aload_n hC dX9_room_65 rfl ?_
            refine wp_geta (k := 22) hC (rfl) (by decide) (rfl) (rfl) (by decide) uX9_room_X9 fX9_room_55 (rfl) dX9_room_66 ?_
            refine wp_iload_n hC dX9_room_69 rfl ?_
            refine wp_aald4 (n := 36) hC rfl (Nat.le_of_ble_eq_true rfl) rfl (by decide) (by omega) dX9_room_70 ?_
            refine wp_iload_n hC dX9_room_71 rfl ?_
            refine wp_iald (n := 24) hC (hrp.2) (Nat.le_of_ble_eq_true rfl) (hrp.1) (show 46 + a.toNat < 183 by omega) (by omega) dX9_room_72 ?_
            refine wp_top (b := pt σ a o) rfl ?_
            refine wp_isub hC dX9_room_73 ?_
            refine wp_goto (tgt := 79) hC dX9_room_74 (by decide) ?_
            exact hret _ _ _ _ (by omega) rfl (⟨by unfold rmF; rw [if_pos hya, if_pos ⟨by omega, by omega⟩], rfl⟩) dX9_room_79
      · exact absurd c_40 (by decide)

def vis (f : Int → Int) : Int → Bool := fun v => decide (0 ≤ f v)
theorem vis_up {f : Int → Int} {v u : Int} (hu : 0 ≤ u) : vis (up1 f v u) = ins (vis f) v := by
  funext x
  unfold vis ins up1
  by_cases h : x = v
  · rw [if_pos h, decide_eq_true hu, decide_eq_true h, Bool.or_true]
  · rw [if_neg h, decide_eq_false h, Bool.or_false]
/-- what the search has so far: who was reached, from where, the queue -/
def BI (σ : St) (P : Int → Int → Int) (f q ps : Int → Int) (n : Int) : Prop :=
  n = cnt 60 (vis f) ∧ (∀ v, 0 ≤ v → v < 60 → -1 ≤ f v ∧ f v < 60) ∧ TREE σ P f ps ∧ (∀ v, 0 ≤ v → v < 60 → 0 ≤ f v → ps v < n ∧ q (ps v) = v) ∧ (∀ i, 0 ≤ i → i < n → 0 ≤ q i ∧ q i < 60 ∧ 0 ≤ f (q i) ∧ ps (q i) = i)
theorem BI_n {σ : St} {P : Int → Int → Int} {f q ps : Int → Int} {n : Int} (h : BI σ P f q ps n) : 0 ≤ n ∧ n ≤ 60 := by
  rw [h.1]
  exact cnt_rng (by decide)
theorem BI_lt {σ : St} {P : Int → Int → Int} {f q ps : Int → Int} {n v : Int} (h : BI σ P f q ps n) (hv : 0 ≤ v ∧ v < 60) (hf : f v < 0) : n < 60 := by
  have h1 := cnt_ins (n := 60) (o := v) (K := vis f) hv (decide_eq_false (by omega))
  have h2 := (cnt_rng (n := 60) (K := ins (vis f) v) (by decide)).2
  rw [h.1]
  omega
theorem BI_add {σ : St} {P : Int → Int → Int} {f q ps : Int → Int} {n u v : Int} (h : BI σ P f q ps n) (hv : 0 ≤ v ∧ v < 36 + σ 0 5 ∧ v < 60) (hf : f v < 0) (hu : 0 ≤ u ∧ u < 60) (huv : (u = v ∧ v < 36 ∧ 0 < σ 15 v) ∨ (0 ≤ f u ∧ EDG σ P u v)) : BI σ P (up1 f v u) (up1 q n v) (up1 ps v n) (n + 1) := by
  have hn := BI_n h
  obtain ⟨b1, b2, b3, b4, b5⟩ := h
  have hne : ∀ w, 0 ≤ f w → w ≠ v := fun w hw e => by rw [e] at hw; omega
  refine ⟨?_, fun w x y => ?_, fun w x y z => ?_, fun w x y z => ?_, fun i x y => ?_⟩
  · rw [vis_up hu.1, cnt_ins ⟨hv.1, by omega⟩ (decide_eq_false (by omega)), b1]
  · unfold up1
    split
    · omega
    · exact b2 w x y
  · by_cases e : w = v
    · subst e
      rw [up1_s, up1_s]
      refine ⟨hn.1, hv.2.1, ?_⟩
      rcases huv with ⟨e1, e2, e3⟩ | ⟨e1, e2⟩
      · exact Or.inl ⟨e1, e2, e3⟩
      · have hnu := hne u e1
        rw [up1_n hnu, up1_n hnu]
        exact Or.inr ⟨hu.2, e1, (b4 u hu.1 hu.2 e1).1, e2⟩
    · rw [up1_n e] at z ⊢
      rw [up1_n e]
      obtain ⟨t1, t2, t3⟩ := b3 w x y z
      refine ⟨t1, t2, ?_⟩
      rcases t3 with t3 | ⟨t3, t4, t5, t6⟩
      · exact Or.inl t3
      · have hn2 := hne (f w) t4
        rw [up1_n hn2, up1_n hn2]
        exact Or.inr ⟨t3, t4, t5, t6⟩
  · by_cases e : w = v
    · subst e
      rw [up1_s, up1_s]
      exact ⟨by omega, rfl⟩
    · rw [up1_n e] at z
      rw [up1_n e]
      obtain ⟨t1, t2⟩ := b4 w x y z
      rw [up1_n (by omega)]
      exact ⟨by omega, t2⟩
  · by_cases e : i = n
    · subst e
      rw [up1_s, up1_s, up1_s]
      exact ⟨hv.1, by omega, hu.1, rfl⟩
    · rw [up1_n e]
      obtain ⟨t1, t2, t3, t4⟩ := b5 i x (by omega)
      rw [up1_n (hne _ t3), up1_n (hne _ t3)]
      exact ⟨t1, t2, t3, t4⟩
theorem FQ_o {σ : St} {f q : Int → Int} {a : Nat} {b : Int} (h : a ≠ 17 ∧ a ≠ 18) : FQ σ f q a b = σ a b := by
  unfold FQ
  rw [if_neg h.1, if_neg h.2]
theorem FQ_pt {σ : St} {f q : Int → Int} {s o : Int} : pt (FQ σ f q) s o = pt σ s o := FQ_o (by omega)
theorem FQ_rm {σ : St} {f q : Int → Int} {s o : Int} : rmF (FQ σ f q) (pt (FQ σ f q)) s o = rmF σ (pt σ) s o := by
  show rmF σ (pt (FQ σ f q)) s o = _
  unfold rmF
  rw [FQ_pt]
theorem vis_0 {f : Int → Int} (h : ∀ j, 0 ≤ j → j < 60 → f j = -1) : cnt 60 (vis f) = 0 := by
  have h1 : cnt 60 (vis f) = sm (fun _ => 0) 60 := sm_c (fun k a b => by
    rw [show vis f k = false from decide_eq_false (by rw [h k a b]; omega)]
    rfl)
  rw [h1, sm_k (by decide)]
  rfl

theorem hyVX9_finds : yX9_finds.cls = RX9 ∧ yX9_finds.cls ≠ "java/lang/invoke/MethodHandle" ∧ yX9_finds.cls ≠ "java/lang/invoke/VarHandle" ∧ (parseMethodDescriptor yX9_finds.desc).map (fun d => d.parameters.length) = some 1 := by decide +kernel
theorem uX9_finds_X9 : ∀ w ∈ u_ws RX9 TX9 35, w ∈ wsX9_finds := by decide +kernel
theorem fX9_finds_80 : Cond.fieldLink RX9 80 (TX9 5).1 (TX9 5).2.1 (TX9 5).2.2.1 ∈ wsX9_finds := by decide +kernel
theorem fX9_finds_64 : Cond.fieldLink RX9 64 (TX9 25).1 (TX9 25).2.1 (TX9 25).2.2.1 ∈ wsX9_finds := by decide +kernel
theorem fX9_finds_55 : Cond.fieldLink RX9 55 (TX9 22).1 (TX9 22).2.1 (TX9 22).2.2.1 ∈ wsX9_finds := by decide +kernel
theorem fX9_finds_67 : Cond.fieldLink RX9 67 (TX9 26).1 (TX9 26).2.1 (TX9 26).2.2.1 ∈ wsX9_finds := by decide +kernel
theorem fX9_finds_58 : Cond.fieldLink RX9 58 (TX9 23).1 (TX9 23).2.1 (TX9 23).2.2.1 ∈ wsX9_finds := by decide +kernel
set_option maxHeartbeats 8000000 in
set_option maxRecDepth 100000 in
theorem c_X9_finds {l : Launch} {G : Gy} (hG : Inj G) (σ : St) {o : Int} (h : RO σ) (ho : 0 ≤ o ∧ o < σ 0 5) (hc : 0 ≤ σ 0 29 ∧ σ 0 29 ≤ 1000) (hi : iR (σ 0 28) ∧ iR (σ 0 27)) (hpb : PB σ (pt σ)) (hfr : ∀ s, 0 ≤ s → s < 36 → 0 ≤ σ 15 s ∧ σ 15 s ≤ 99) : MI l yX9_finds wsX9_finds ({ frames := 1, cells := 0, slots := 0, locals := 23 } : Room) G [.ref (G.2.2 0), .int (zI (o))] σ (fun x σ2 => ∃ f q ps, σ2 = FQ σ f q ∧ (∀ v, 0 ≤ v → v < 60 → -1 ≤ f v ∧ f v < 60) ∧ TREE σ (pt σ) f ps ∧ ((x = 1 ∧ 0 ≤ f (36 + o)) ∨ (x = 0 ∧ f (36 + o) < 0 ∧ CLOS σ (pt σ) f))) := by
  refine MI.of hG (by decide +kernel) rfl rfl (Nat.le_of_ble_eq_true rfl) rfl ?_
  intro p e s m args below meth c H0 Q hC hret
  have hn := h.1
  have L68 : ∀ (n : Nat) (k nq : Int) (f q ps : Int → Int), ((60 - k).toNat) = n → (BI σ (pt σ) f q ps nq) → (0 ≤ k ∧ k ≤ nq) → (∀ s, 0 ≤ s → s < 36 → 0 < σ 15 s → 0 ≤ f s) → (∀ i, 0 ≤ i → i < k → ∀ v, 0 ≤ v → v < 36 + σ 0 5 → EDG σ (pt σ) (q i) v → 0 ≤ f v) → wp p l e ({ frames := 1, cells := 0, slots := 0, locals := 23 } : Room) s m args below meth c (aA G (Array.size H0)) H0 7 Q G (FQ σ f q) 68 [(0, .ref (G.2.2 0)), (1, .int (zI (o))), (2, .int (zI (nq))), (3, .int (zI (k)))] [] := by
    intro n68
    induction n68 using Nat.strongRecOn with
    | ind n68 ih =>
      intro k nq f q ps hm68 hb h1 hr hcl
      have hnq := BI_n hb
      have hfo := hb.2.1 (36 + o) (by omega) (by omega)
      have hqk := fun z : k < nq => hb.2.2.2.2 k h1.1 z
      have L96 : ∀ (n : Nat) (A t nq : Int) (f q ps : Int → Int), ((60 - t).toNat) = n → (BI σ (pt σ) f q ps nq) → (0 ≤ k ∧ k < nq) → (∀ s, 0 ≤ s → s < 36 → 0 < σ 15 s → 0 ≤ f s) → (∀ i, 0 ≤ i → i < k → ∀ v, 0 ≤ v → v < 36 + σ 0 5 → EDG σ (pt σ) (q i) v → 0 ≤ f v) → (q k = A) → (0 ≤ t ∧ t ≤ 36 + σ 0 5) → (∀ v, 0 ≤ v → v < t → EDG σ (pt σ) A v → 0 ≤ f v) → wp p l e ({ frames := 1, cells := 0, slots := 0, locals := 23 } : Room) s m args below meth c (aA G (Array.size H0)) H0 7 Q G (FQ σ f q) 96 [(0, .ref (G.2.2 0)), (1, .int (zI (o))), (2, .int (zI (nq))), (3, .int (zI (k))), (4, .int (zI (A))), (5, .int (zI (t)))] [] := by
        intro n96
        induction n96 using Nat.strongRecOn with
        | ind n96 ih96 =>
          intro A t nq f q ps hm96 hb h1 hr hcl hA h2 ht
          have hnq := BI_n hb
          have hqk := hb.2.2.2.2 k h1.1 h1.2
          rw [hA] at hqk
          have hft := fun z : t < 60 => hb.2.1 t h2.1 z
          have hAv := (hb.2.2.1 A hqk.1 hqk.2.1 hqk.2.2.1).2.1
          refine wp_iload hC dX9_finds_96 rfl ?_
          refine wp_bipush hC dX9_finds_98 rfl ?_
          refine wp_aload_n hC dX9_finds_100 rfl ?_
          refine wp_geti (k := 5) (z := 5) hC rfl (rfl) (by decide) (rfl) (rfl) (by decide) uX9_finds_X9 fX9_finds_80 (rfl) dX9_finds_101 ?_
          refine wp_iadd hC dX9_finds_104 ?_
          refine wp_top (b := 36 + σ 0 5) rfl ?_
          refine wp_icmp_ge (tgt := 246) hC dX9_finds_105 (by decide) (by omega) (by omega) (fun c_105 => ?_) (fun c_105 => ?_)
          · refine wp_iinc (lv2 := [(0, _), (1, _), (2, _), (3, _), (4, _), (5, _)]) hC dX9_finds_246 rfl rfl (by decide) ?_
            refine wp_goto (tgt := 68) hC dX9_finds_249 (by decide) ?_
            refine wp_lv hC [0, 1, 2, 3] rfl ?_
            exact ih _ (by omega) _ _ _ _ _ rfl hb (by omega) hr (fun i a b v x y z => by
              rcases Int.lt_or_le i k with w | w
              · exact hcl i a w v x y z
              · rw [show i = k by omega, hA] at z; exact ht v x (by omega) z)
          · refine wp_aload_n hC dX9_finds_108 rfl ?_
            refine wp_geta (k := 25) hC (rfl) (by decide) (rfl) (rfl) (by decide) uX9_finds_X9 fX9_finds_64 (rfl) dX9_finds_109 ?_
            refine wp_iload hC dX9_finds_112 rfl ?_
            refine wp_iald (n := 60) hC (rfl) (Nat.le_of_ble_eq_true rfl) (rfl) (by decide) (by omega) dX9_finds_114 ?_
            refine wp_top (b := f t) rfl ?_
            refine wp_if_ge (tgt := 240) hC dX9_finds_115 (by decide) (by have := hft (by omega); omega) (fun c_115 => ?_) (fun c_115 => ?_)
            · refine wp_iinc (lv2 := [(0, _), (1, _), (2, _), (3, _), (4, _), (5, _)]) hC dX9_finds_240 rfl rfl (by decide) ?_
              refine wp_goto (tgt := 96) hC dX9_finds_243 (by decide) ?_
              exact ih96 _ (by omega) _ _ _ _ _ _ rfl hb h1 hr hcl hA (by omega) (fun v x y z => by
                rcases Int.lt_or_le v t with w | w
                · exact ht v x w z
                · have e : v = t := by omega
                  subst e
                  exact c_115)
            · refine wp_iload hC dX9_finds_118 rfl ?_
              refine wp_bipush hC dX9_finds_120 rfl ?_
              refine wp_icmp_ge (tgt := 129) hC dX9_finds_122 (by decide) (by omega) (by omega) (fun c_122 => ?_) (fun c_122 => ?_)
              · refine wp_iconst hC dX9_finds_129 ?_
                refine wp_iload hC dX9_finds_130 rfl ?_
                refine wp_bipush hC dX9_finds_132 rfl ?_
                refine wp_icmp_ge (tgt := 141) hC dX9_finds_134 (by decide) (by omega) (by omega) (fun c_134 => ?_) (fun c_134 => ?_)
                · refine wp_iconst hC dX9_finds_141 ?_
                  refine wp_icmp_ne (tgt := 148) hC dX9_finds_142 (by decide) (by omega) (by omega) (fun c_142 => ?_) (fun c_142 => ?_)
                  · exact absurd rfl c_142
                  · refine wp_goto (tgt := 240) hC dX9_finds_145 (by decide) ?_
                    refine wp_iinc (lv2 := [(0, _), (1, _), (2, _), (3, _), (4, _), (5, _)]) hC dX9_finds_240 rfl rfl (by decide) ?_
                    refine wp_goto (tgt := 96) hC dX9_finds_243 (by decide) ?_
                    exact ih96 _ (by omega) _ _ _ _ _ _ rfl hb h1 hr hcl hA (by omega) (fun v x y z => by
                      rcases Int.lt_or_le v t with w | w
                      · exact ht v x w z
                      · have e : v = t := by omega
                        subst e
                        rcases z with ⟨z1, z2, _⟩ | ⟨z1, z2, _⟩ <;> omega)
                · refine wp_iconst hC dX9_finds_137 ?_
                  refine wp_goto (tgt := 142) hC dX9_finds_138 (by decide) ?_
                  refine wp_icmp_ne (tgt := 148) hC dX9_finds_142 (by decide) (by omega) (by omega) (fun c_142 => ?_) (fun c_142 => ?_)
                  · refine wp_iload hC dX9_finds_148 rfl ?_
                    refine wp_bipush hC dX9_finds_150 rfl ?_
                    refine wp_icmp_ge (tgt := 189) hC dX9_finds_152 (by decide) (by omega) (by omega) (fun c_152 => ?_) (fun c_152 => ?_)
                    · refine wp_aload_n hC dX9_finds_189 rfl ?_
                      refine wp_geta (k := 22) hC (rfl) (by decide) (rfl) (rfl) (by decide) uX9_finds_X9 fX9_finds_55 (rfl) dX9_finds_190 ?_
                      refine wp_iload hC dX9_finds_193 rfl ?_
                      refine wp_aald4 (n := 36) hC rfl (Nat.le_of_ble_eq_true rfl) rfl (by decide) (by omega) dX9_finds_195 ?_
                      refine wp_iload hC dX9_finds_196 rfl ?_
                      refine wp_bipush hC dX9_finds_198 rfl ?_
                      refine wp_isub hC dX9_finds_200 ?_
                      refine wp_iald (n := 24) hC ((rowP t.toNat (by omega)).2) (Nat.le_of_ble_eq_true rfl) ((rowP t.toNat (by omega)).1) (show 46 + t.toNat < 183 by omega) (by omega) dX9_finds_201 ?_
                      refine wp_top (b := pt σ t (A - 36)) (FQ_pt (s := t) (o := A - 36)) ?_
                      have hpp := hpb t (A - 36) (by omega) (by omega) (by omega) (by omega)
                      refine wp_if_le (tgt := 209) hC dX9_finds_202 (by decide) (by omega) (fun c_202 => ?_) (fun c_202 => ?_)
                      · refine wp_iconst hC dX9_finds_209 ?_
                        refine wp_istore (lv2 := [(0, _), (1, _), (2, _), (3, _), (4, _), (5, _), (6, _)]) hC dX9_finds_210 rfl (by decide) ?_
                        refine wp_iload hC dX9_finds_212 rfl ?_
                        refine wp_if_ne (tgt := 220) hC dX9_finds_214 (by decide) (by omega) (fun c_214 => ?_) (fun c_214 => ?_)
                        · exact absurd rfl c_214
                        · refine wp_goto (tgt := 240) hC dX9_finds_217 (by decide) ?_
                          refine wp_iinc (lv2 := [(0, _), (1, _), (2, _), (3, _), (4, _), (5, _), (6, _)]) hC dX9_finds_240 rfl rfl (by decide) ?_
                          refine wp_goto (tgt := 96) hC dX9_finds_243 (by decide) ?_
                          refine wp_lv hC [0, 1, 2, 3, 4, 5] rfl ?_
                          exact ih96 _ (by omega) _ _ _ _ _ _ rfl hb h1 hr hcl hA (by omega) (fun v x y z => by
                            rcases Int.lt_or_le v t with w | w
                            · exact ht v x w z
                            · have e : v = t := by omega
                              subst e
                              rcases z with ⟨z1, z2, _⟩ | ⟨z1, z2, z3⟩
                              · omega
                              · omega)
                      · refine wp_iconst hC dX9_finds_205 ?_
                        refine wp_goto (tgt := 210) hC dX9_finds_206 (by decide) ?_
                        refine wp_istore (lv2 := [(0, _), (1, _), (2, _), (3, _), (4, _), (5, _), (6, _)]) hC dX9_finds_210 rfl (by decide) ?_
                        refine wp_iload hC dX9_finds_212 rfl ?_
                        refine wp_if_ne (tgt := 220) hC dX9_finds_214 (by decide) (by omega) (fun c_214 => ?_) (fun c_214 => ?_)
                        · have hedg : EDG σ (pt σ) A t := Or.inr ⟨by omega, by omega, c_202⟩
                          have hlt := BI_lt hb (v := t) (by omega) c_115
                          refine wp_aload_n hC dX9_finds_220 rfl ?_
                          refine wp_geta (k := 25) hC (rfl) (by decide) (rfl) (rfl) (by decide) uX9_finds_X9 fX9_finds_64 (rfl) dX9_finds_221 ?_
                          refine wp_iload hC dX9_finds_224 rfl ?_
                          refine wp_iload hC dX9_finds_226 rfl ?_
                          refine wp_iast (n := 60) hC (rfl) (Nat.le_of_ble_eq_true rfl) (rfl) (by decide) (by omega) dX9_finds_228 ?_
                          refine wp_aload_n hC dX9_finds_229 rfl ?_
                          refine wp_geta (k := 26) hC (rfl) (by decide) (rfl) (rfl) (by decide) uX9_finds_X9 fX9_finds_67 (rfl) dX9_finds_230 ?_
                          refine wp_iload_n hC dX9_finds_233 rfl ?_
                          refine wp_iload hC dX9_finds_234 rfl ?_
                          refine wp_iast (n := 60) hC (rfl) (Nat.le_of_ble_eq_true rfl) (rfl) (by decide) (by omega) dX9_finds_236 ?_
                          refine wp_iinc (lv2 := [(0, _), (1, _), (2, _), (3, _), (4, _), (5, _), (6, _)]) hC dX9_finds_237 rfl rfl (by decide) ?_
                          refine wp_iinc (lv2 := [(0, _), (1, _), (2, _), (3, _), (4, _), (5, _), (6, _)]) hC dX9_finds_240 rfl rfl (by decide) ?_
                          refine wp_goto (tgt := 96) hC dX9_finds_243 (by decide) ?_
                          refine wp_lv hC [0, 1, 2, 3, 4, 5] rfl ?_
                          refine wp_st (σ2 := FQ σ (up1 f t A) (up1 q nq t)) (by rw [FQ_f, FQ_q]) ?_
                          exact ih96 _ (by omega) A _ (nq + 1) (up1 f t A) (up1 q nq t) (up1 ps t nq) rfl (BI_add hb (by omega) c_115 ⟨hqk.1, hqk.2.1⟩ (Or.inr ⟨hqk.2.2.1, hedg⟩)) (by omega) (fun s a b z => by have := hr s a b z; unfold up1; split <;> omega) (fun i a b v x y z => by
                            rw [up1_n (show i ≠ nq by omega)] at z
                            have := hcl i a b v x y z
                            unfold up1; split <;> omega) (by rw [up1_n (by omega)]; exact hA) (by omega) (fun v x y z => by
                            by_cases e : v = t
                            · rw [e, up1_s]; exact hqk.1
                            · rw [up1_n e]; exact ht v x (by omega) z)
                        · exact absurd c_214 (by decide)
                    · exfalso; omega
                  · exact absurd c_142 (by decide)
              · refine wp_iconst hC dX9_finds_125 ?_
                refine wp_goto (tgt := 130) hC dX9_finds_126 (by decide) ?_
                refine wp_iload hC dX9_finds_130 rfl ?_
                refine wp_bipush hC dX9_finds_132 rfl ?_
                refine wp_icmp_ge (tgt := 141) hC dX9_finds_134 (by decide) (by omega) (by omega) (fun c_134 => ?_) (fun c_134 => ?_)
                · refine wp_iconst hC dX9_finds_141 ?_
                  refine wp_icmp_ne (tgt := 148) hC dX9_finds_142 (by decide) (by omega) (by omega) (fun c_142 => ?_) (fun c_142 => ?_)
                  · refine wp_iload hC dX9_finds_148 rfl ?_
                    refine wp_bipush hC dX9_finds_150 rfl ?_
                    refine wp_icmp_ge (tgt := 189) hC dX9_finds_152 (by decide) (by omega) (by omega) (fun c_152 => ?_) (fun c_152 => ?_)
                    · exfalso; omega
                    · refine wp_iload hC dX9_finds_155 rfl ?_
                      refine wp_bipush hC dX9_finds_157 rfl ?_
                      refine wp_isub hC dX9_finds_159 ?_
                      refine wp_aload_n hC dX9_finds_160 rfl ?_
                      refine wp_geti (k := 5) (z := 5) hC rfl (rfl) (by decide) (rfl) (rfl) (by decide) uX9_finds_X9 fX9_finds_80 (rfl) dX9_finds_161 ?_
                      refine wp_top (b := σ 0 5) rfl ?_
                      refine wp_icmp_ge (tgt := 185) hC dX9_finds_164 (by decide) (by omega) (by omega) (fun c_164 => ?_) (fun c_164 => ?_)
                      · exfalso; omega
                      · refine wp_aload_n hC dX9_finds_167 rfl ?_
                        refine wp_iload hC dX9_finds_168 rfl ?_
                        refine wp_iload hC dX9_finds_170 rfl ?_
                        refine wp_bipush hC dX9_finds_172 rfl ?_
                        refine wp_isub hC dX9_finds_174 ?_
                        refine wp_callVe (As := [_, _]) hC (c_X9_room hG (FQ σ f q) h (by omega) (show 0 ≤ t - 36 ∧ t - 36 < σ 0 5 by omega) hc (by rw [FQ_pt]; have := hpb A (t - 36) (by omega) (by omega) (by omega) (by omega); omega) hi) gX9_finds_X9_room rfl ⟨rfl, rfl⟩ ⟨by decide, by decide⟩ hyVX9_room (rfl) (by decide) (rfl) rfl (Nat.le_of_ble_eq_true rfl) dX9_finds_175 (fun hx_175 => ?_)
                        refine wp_if_le (tgt := 185) hC dX9_finds_178 (by decide) (hx_175) (fun c_178 => ?_) (fun c_178 => ?_)
                        · refine wp_iconst hC dX9_finds_185 ?_
                          refine wp_goto (tgt := 210) hC dX9_finds_186 (by decide) ?_
                          refine wp_istore (lv2 := [(0, _), (1, _), (2, _), (3, _), (4, _), (5, _), (6, _)]) hC dX9_finds_210 rfl (by decide) ?_
                          refine wp_iload hC dX9_finds_212 rfl ?_
                          refine wp_if_ne (tgt := 220) hC dX9_finds_214 (by decide) (by omega) (fun c_214 => ?_) (fun c_214 => ?_)
                          · exact absurd rfl c_214
                          · refine wp_goto (tgt := 240) hC dX9_finds_217 (by decide) ?_
                            refine wp_iinc (lv2 := [(0, _), (1, _), (2, _), (3, _), (4, _), (5, _), (6, _)]) hC dX9_finds_240 rfl rfl (by decide) ?_
                            refine wp_goto (tgt := 96) hC dX9_finds_243 (by decide) ?_
                            refine wp_lv hC [0, 1, 2, 3, 4, 5] rfl ?_
                            exact ih96 _ (by omega) _ _ _ _ _ _ rfl hb h1 hr hcl hA (by omega) (fun v x y z => by
                              rcases Int.lt_or_le v t with w | w
                              · exact ht v x w z
                              · have e : v = t := by omega
                                subst e
                                rcases z with ⟨z1, z2, z3, z4⟩ | ⟨z1, z2, _⟩
                                · rw [FQ_rm] at c_178; omega
                                · omega)
                        · refine wp_iconst hC dX9_finds_181 ?_
                          refine wp_goto (tgt := 210) hC dX9_finds_182 (by decide) ?_
                          refine wp_istore (lv2 := [(0, _), (1, _), (2, _), (3, _), (4, _), (5, _), (6, _)]) hC dX9_finds_210 rfl (by decide) ?_
                          refine wp_iload hC dX9_finds_212 rfl ?_
                          refine wp_if_ne (tgt := 220) hC dX9_finds_214 (by decide) (by omega) (fun c_214 => ?_) (fun c_214 => ?_)
                          · have hedg : EDG σ (pt σ) A t := Or.inl ⟨by omega, by omega, by omega, by rw [FQ_rm] at c_178; exact c_178⟩
                            have hlt := BI_lt hb (v := t) (by omega) c_115
                            refine wp_aload_n hC dX9_finds_220 rfl ?_
                            refine wp_geta (k := 25) hC (rfl) (by decide) (rfl) (rfl) (by decide) uX9_finds_X9 fX9_finds_64 (rfl) dX9_finds_221 ?_
                            refine wp_iload hC dX9_finds_224 rfl ?_
                            refine wp_iload hC dX9_finds_226 rfl ?_
                            refine wp_iast (n := 60) hC (rfl) (Nat.le_of_ble_eq_true rfl) (rfl) (by decide) (by omega) dX9_finds_228 ?_
                            refine wp_aload_n hC dX9_finds_229 rfl ?_
                            refine wp_geta (k := 26) hC (rfl) (by decide) (rfl) (rfl) (by decide) uX9_finds_X9 fX9_finds_67 (rfl) dX9_finds_230 ?_
                            refine wp_iload_n hC dX9_finds_233 rfl ?_
                            refine wp_iload hC dX9_finds_234 rfl ?_
                            refine wp_iast (n := 60) hC (rfl) (Nat.le_of_ble_eq_true rfl) (rfl) (by decide) (by omega) dX9_finds_236 ?_
                            refine wp_iinc (lv2 := [(0, _), (1, _), (2, _), (3, _), (4, _), (5, _), (6, _)]) hC dX9_finds_237 rfl rfl (by decide) ?_
                            refine wp_iinc (lv2 := [(0, _), (1, _), (2, _), (3, _), (4, _), (5, _), (6, _)]) hC dX9_finds_240 rfl rfl (by decide) ?_
                            refine wp_goto (tgt := 96) hC dX9_finds_243 (by decide) ?_
                            refine wp_lv hC [0, 1, 2, 3, 4, 5] rfl ?_
                            refine wp_st (σ2 := FQ σ (up1 f t A) (up1 q nq t)) (by rw [FQ_f, FQ_q]) ?_
                            exact ih96 _ (by omega) A _ (nq + 1) (up1 f t A) (up1 q nq t) (up1 ps t nq) rfl (BI_add hb (by omega) c_115 ⟨hqk.1, hqk.2.1⟩ (Or.inr ⟨hqk.2.2.1, hedg⟩)) (by omega) (fun s a b z => by have := hr s a b z; unfold up1; split <;> omega) (fun i a b v x y z => by
                              rw [up1_n (show i ≠ nq by omega)] at z
                              have := hcl i a b v x y z
                              unfold up1; split <;> omega) (by rw [up1_n (by omega)]; exact hA) (by omega) (fun v x y z => by
                              by_cases e : v = t
                              · rw [e, up1_s]; exact hqk.1
                              · rw [up1_n e]; exact ht v x (by omega) z)
                          · exact absurd c_214 (by decide)
                  · exact absurd c_142 (by decide)
                · refine wp_iconst hC dX9_finds_137 ?_
                  refine wp_goto (tgt := 142) hC dX9_finds_138 (by decide) ?_
                  refine wp_icmp_ne (tgt := 148) hC dX9_finds_142 (by decide) (by omega) (by omega) (fun c_142 => ?_) (fun c_142 => ?_)
                  · exact absurd rfl c_142
                  · refine wp_goto (tgt := 240) hC dX9_finds_145 (by decide) ?_
                    refine wp_iinc (lv2 := [(0, _), (1, _), (2, _), (3, _), (4, _), (5, _)]) hC dX9_finds_240 rfl rfl (by decide) ?_
                    refine wp_goto (tgt := 96) hC dX9_finds_243 (by decide) ?_
                    exact ih96 _ (by omega) _ _ _ _ _ _ rfl hb h1 hr hcl hA (by omega) (fun v x y z => by
                      rcases Int.lt_or_le v t with w | w
                      · exact ht v x w z
                      · have e : v = t := by omega
                        subst e
                        rcases z with ⟨z1, z2, _⟩ | ⟨z1, z2, _⟩ <;> omega)
      refine wp_iload_n hC dX9_finds_68 rfl ?_
      refine wp_iload_n hC dX9_finds_69 rfl ?_
      refine wp_icmp_ge (tgt := 252) hC dX9_finds_70 (by decide) (by omega) (by omega) (fun c_70 => ?_) (fun c_70 => ?_)
      · refine wp_aload_n hC dX9_finds_252 rfl ?_
        refine wp_geta (k := 25) hC (rfl) (by decide) (rfl) (rfl) (by decide) uX9_finds_X9 fX9_finds_64 (rfl) dX9_finds_253 ?_
        refine wp_bipush hC dX9_finds_256 rfl ?_
        refine wp_iload_n hC dX9_finds_258 rfl ?_
        refine wp_iadd hC dX9_finds_259 ?_
        refine wp_iald (n := 60) hC (rfl) (Nat.le_of_ble_eq_true rfl) (rfl) (by decide) (by omega) dX9_finds_260 ?_
        refine wp_top (b := f (36 + o)) rfl ?_
        refine wp_if_lt (tgt := 268) hC dX9_finds_261 (by decide) (by omega) (fun c_261 => ?_) (fun c_261 => ?_)
        · refine wp_iconst hC dX9_finds_268 ?_
          exact hret _ _ _ _ (by omega) rfl (⟨f, q, ps, rfl, hb.2.1, hb.2.2.1, Or.inr ⟨rfl, c_261, hr, fun u v a b x y z w => by
            have hu := hb.2.2.2.1 u a (by omega) z
            have hp0 := (hb.2.2.1 u a (by omega) z).1
            exact hcl (ps u) hp0 (by omega) v x y (by rw [hu.2]; exact w)⟩⟩) dX9_finds_269
        · refine wp_iconst hC dX9_finds_264 ?_
          refine wp_goto (tgt := 269) hC dX9_finds_265 (by decide) ?_
          exact hret _ _ _ _ (by omega) rfl (⟨f, q, ps, rfl, hb.2.1, hb.2.2.1, Or.inl ⟨rfl, c_261⟩⟩) dX9_finds_269
      · refine wp_aload_n hC dX9_finds_73 rfl ?_
        refine wp_geta (k := 25) hC (rfl) (by decide) (rfl) (rfl) (by decide) uX9_finds_X9 fX9_finds_64 (rfl) dX9_finds_74 ?_
        refine wp_bipush hC dX9_finds_77 rfl ?_
        refine wp_iload_n hC dX9_finds_79 rfl ?_
        refine wp_iadd hC dX9_finds_80 ?_
        refine wp_iald (n := 60) hC (rfl) (Nat.le_of_ble_eq_true rfl) (rfl) (by decide) (by omega) dX9_finds_81 ?_
        refine wp_top (b := f (36 + o)) rfl ?_
        refine wp_if_ge (tgt := 252) hC dX9_finds_82 (by decide) (by omega) (fun c_82 => ?_) (fun c_82 => ?_)
        · refine wp_aload_n hC dX9_finds_252 rfl ?_
          refine wp_geta (k := 25) hC (rfl) (by decide) (rfl) (rfl) (by decide) uX9_finds_X9 fX9_finds_64 (rfl) dX9_finds_253 ?_
          refine wp_bipush hC dX9_finds_256 rfl ?_
          refine wp_iload_n hC dX9_finds_258 rfl ?_
          refine wp_iadd hC dX9_finds_259 ?_
          refine wp_iald (n := 60) hC (rfl) (Nat.le_of_ble_eq_true rfl) (rfl) (by decide) (by omega) dX9_finds_260 ?_
          refine wp_top (b := f (36 + o)) rfl ?_
          refine wp_if_lt (tgt := 268) hC dX9_finds_261 (by decide) (by omega) (fun c_261 => ?_) (fun c_261 => ?_)
          · refine wp_iconst hC dX9_finds_268 ?_
            exact hret _ _ _ _ (by omega) rfl (⟨f, q, ps, rfl, hb.2.1, hb.2.2.1, Or.inr (absurd c_261 (by omega))⟩) dX9_finds_269
          · refine wp_iconst hC dX9_finds_264 ?_
            refine wp_goto (tgt := 269) hC dX9_finds_265 (by decide) ?_
            exact hret _ _ _ _ (by omega) rfl (⟨f, q, ps, rfl, hb.2.1, hb.2.2.1, Or.inl ⟨rfl, c_261⟩⟩) dX9_finds_269
        · refine wp_aload_n hC dX9_finds_85 rfl ?_
          refine wp_geta (k := 26) hC (rfl) (by decide) (rfl) (rfl) (by decide) uX9_finds_X9 fX9_finds_67 (rfl) dX9_finds_86 ?_
          refine wp_iload_n hC dX9_finds_89 rfl ?_
          refine wp_iald (n := 60) hC (rfl) (Nat.le_of_ble_eq_true rfl) (rfl) (by decide) (by omega) dX9_finds_90 ?_
          refine wp_top (b := q k) rfl ?_
          refine wp_istore (lv2 := [(0, _), (1, _), (2, _), (3, _), (4, _)]) hC dX9_finds_91 rfl (by decide) ?_
          refine wp_iconst hC dX9_finds_93 ?_
          refine wp_istore (lv2 := [(0, _), (1, _), (2, _), (3, _), (4, _), (5, _)]) hC dX9_finds_94 rfl (by decide) ?_
          exact L96 _ _ _ _ _ _ _ rfl hb (by omega) hr hcl rfl (by omega) (fun v a b => by omega)
  have L25 : ∀ (n : Nat) (k nq : Int) (f q ps : Int → Int), ((36 - k).toNat) = n → (BI σ (pt σ) f q ps nq) → (0 ≤ k ∧ k ≤ 36) → (∀ s, 0 ≤ s → s < k → 0 < σ 15 s → 0 ≤ f s) → (∀ v, 0 ≤ v → v < 60 → 0 ≤ f v → v < k) → wp p l e ({ frames := 1, cells := 0, slots := 0, locals := 23 } : Room) s m args below meth c (aA G (Array.size H0)) H0 7 Q G (FQ σ f q) 25 [(0, .ref (G.2.2 0)), (1, .int (zI (o))), (2, .int (zI (nq))), (3, .int (zI (k)))] [] := by
    intro n25
    induction n25 using Nat.strongRecOn with
    | ind n25 ih =>
      intro k nq f q ps hm25 hb h1 hr hv
      have hnq := BI_n hb
      have hfk := fun z : k < 36 => hfr k h1.1 z
      have hnv := fun z : k < 36 => Int.not_le.mp (fun y => by have := hv k h1.1 (by omega) y; omega)
      have hlt := fun z : k < 36 => BI_lt hb ⟨h1.1, by omega⟩ (hnv z)
      refine wp_iload_n hC dX9_finds_25 rfl ?_
      refine wp_bipush hC dX9_finds_26 rfl ?_
      refine wp_icmp_ge (tgt := 66) hC dX9_finds_28 (by decide) (by omega) (by omega) (fun c_28 => ?_) (fun c_28 => ?_)
      · refine wp_iconst hC dX9_finds_66 ?_
        refine wp_istore_n (lv2 := [(0, _), (1, _), (2, _), (3, _)]) hC dX9_finds_67 rfl (by decide) ?_
        exact L68 _ 0 _ _ _ _ rfl hb (by omega) (fun s a b => hr s a (by omega)) (fun i a b => by omega)
      · refine wp_aload_n hC dX9_finds_31 rfl ?_
        refine wp_geta (k := 23) hC (rfl) (by decide) (rfl) (rfl) (by decide) uX9_finds_X9 fX9_finds_58 (rfl) dX9_finds_32 ?_
        refine wp_iload_n hC dX9_finds_35 rfl ?_
        refine wp_iald (n := 36) hC (rfl) (Nat.le_of_ble_eq_true rfl) (rfl) (by decide) (by omega) dX9_finds_36 ?_
        refine wp_top (b := σ 15 k) rfl ?_
        refine wp_if_ne (tgt := 43) hC dX9_finds_37 (by decide) (by have := hfk c_28; omega) (fun c_37 => ?_) (fun c_37 => ?_)
        · refine wp_aload_n hC dX9_finds_43 rfl ?_
          refine wp_geta (k := 25) hC (rfl) (by decide) (rfl) (rfl) (by decide) uX9_finds_X9 fX9_finds_64 (rfl) dX9_finds_44 ?_
          refine wp_iload_n hC dX9_finds_47 rfl ?_
          refine wp_iload_n hC dX9_finds_48 rfl ?_
          refine wp_iast (n := 60) hC (rfl) (Nat.le_of_ble_eq_true rfl) (rfl) (by decide) (by omega) dX9_finds_49 ?_
          refine wp_aload_n hC dX9_finds_50 rfl ?_
          refine wp_geta (k := 26) hC (rfl) (by decide) (rfl) (rfl) (by decide) uX9_finds_X9 fX9_finds_67 (rfl) dX9_finds_51 ?_
          refine wp_iload_n hC dX9_finds_54 rfl ?_
          refine wp_iload_n hC dX9_finds_55 rfl ?_
          refine wp_iast (n := 60) hC (rfl) (Nat.le_of_ble_eq_true rfl) (rfl) (by decide) (by have := hlt c_28; omega) dX9_finds_56 ?_
          refine wp_iinc (lv2 := [(0, _), (1, _), (2, _), (3, _)]) hC dX9_finds_57 rfl rfl (by decide) ?_
          refine wp_iinc (lv2 := [(0, _), (1, _), (2, _), (3, _)]) hC dX9_finds_60 rfl rfl (by decide) ?_
          refine wp_goto (tgt := 25) hC dX9_finds_63 (by decide) ?_
          refine wp_st (σ2 := FQ σ (up1 f k k) (up1 q nq k)) (by rw [FQ_f, FQ_q]) ?_
          exact ih _ (by omega) _ _ (up1 f k k) (up1 q nq k) (up1 ps k nq) rfl (BI_add hb (by omega) (hnv c_28) (by omega) (Or.inl ⟨rfl, by omega, by omega⟩)) (by omega) (fun s a b z => by
            by_cases e : s = k
            · rw [e, up1_s]; exact h1.1
            · rw [up1_n e]; exact hr s a (by omega) z) (fun v a b z => by
            by_cases e : v = k
            · omega
            · rw [up1_n e] at z; have := hv v a b z; omega)
        · refine wp_goto (tgt := 60) hC dX9_finds_40 (by decide) ?_
          refine wp_iinc (lv2 := [(0, _), (1, _), (2, _), (3, _)]) hC dX9_finds_60 rfl rfl (by decide) ?_
          refine wp_goto (tgt := 25) hC dX9_finds_63 (by decide) ?_
          exact ih _ (by omega) _ _ _ _ _ rfl hb (by omega) (fun s a b z => by
            rcases Int.lt_or_le s k with w | w
            · exact hr s a w z
            · rw [show s = k by omega] at z; omega) (fun v a b z => by have := hv v a b z; omega)
  have L4 : ∀ (n : Nat) (k : Int) (f : Int → Int), ((60 - k).toNat) = n → (0 ≤ k ∧ k ≤ 60) → (∀ j, 0 ≤ j → j < k → f j = -1) → wp p l e ({ frames := 1, cells := 0, slots := 0, locals := 23 } : Room) s m args below meth c (aA G (Array.size H0)) H0 7 Q G (FQ σ f (σ 18)) 4 [(0, .ref (G.2.2 0)), (1, .int (zI (o))), (2, .int (zI (0))), (3, .int (zI (k)))] [] := by
    intro n4
    induction n4 using Nat.strongRecOn with
    | ind n4 ih =>
      intro k f hm4 h1 hf
      refine wp_iload_n hC dX9_finds_4 rfl ?_
      refine wp_bipush hC dX9_finds_5 rfl ?_
      refine wp_icmp_ge (tgt := 23) hC dX9_finds_7 (by decide) (by omega) (by omega) (fun c_7 => ?_) (fun c_7 => ?_)
      · refine wp_iconst hC dX9_finds_23 ?_
        refine wp_istore_n (lv2 := [(0, _), (1, _), (2, _), (3, _)]) hC dX9_finds_24 rfl (by decide) ?_
        exact L25 _ _ _ f (σ 18) (fun _ => 0) rfl ⟨(vis_0 (fun j a b => hf j a (by omega))).symm, fun v a b => by have := hf v a (by omega); omega, fun v a b z => by have := hf v a (by omega); omega, fun v a b z => by have := hf v a (by omega); omega, fun i a b => by omega⟩ (by omega) (fun s a b => by omega) (fun v a b z => by have := hf v a (by omega); omega)
      · refine wp_aload_n hC dX9_finds_10 rfl ?_
        refine wp_geta (k := 25) hC (rfl) (by decide) (rfl) (rfl) (by decide) uX9_finds_X9 fX9_finds_64 (rfl) dX9_finds_11 ?_
        refine wp_iload_n hC dX9_finds_14 rfl ?_
        refine wp_iconst hC dX9_finds_15 ?_
        refine wp_iast (n := 60) hC (rfl) (Nat.le_of_ble_eq_true rfl) (rfl) (by decide) (by omega) dX9_finds_16 ?_
        refine wp_iinc (lv2 := [(0, _), (1, _), (2, _), (3, _)]) hC dX9_finds_17 rfl rfl (by decide) ?_
        refine wp_goto (tgt := 4) hC dX9_finds_20 (by decide) ?_
        refine wp_st FQ_f ?_
        exact ih _ (by omega) _ _ rfl (by omega) (fun j a b => by
          by_cases e : j = k
          · rw [e, up1_s]
          · rw [up1_n e]; exact hf j a (by omega))
  refine wp_iconst hC dX9_finds_0 ?_
  refine wp_istore_n (lv2 := [(0, _), (1, _), (2, _)]) hC dX9_finds_1 rfl (by decide) ?_
  refine wp_iconst hC dX9_finds_2 ?_
  refine wp_istore_n (lv2 := [(0, _), (1, _), (2, _), (3, _)]) hC dX9_finds_3 rfl (by decide) ?_
  refine wp_st FQ_0 ?_
  exact L4 _ 0 (σ 17) rfl (by omega) (fun j a b => by omega)
