/-- an order's turn: by rank, then by number -/
def kap (rk : Int → Int) (o : Int) : Int := (9 - rk o) * 24 + o
theorem kap_inj {rk : Int → Int} {a b : Int} (ha : 0 ≤ a ∧ a < 24) (hb : 0 ≤ b ∧ b < 24) (h : kap rk a = kap rk b) : a = b := by
  unfold kap at h
  omega
/-- the first of a set in turn -/
def firstN (rk : Int → Int) (n : Int) (P : Int → Bool) (i : Int) : Prop := (i = -1 ∧ ∀ o, 0 ≤ o → o < n → P o = false) ∨ (0 ≤ i ∧ i < n ∧ P i = true ∧ ∀ o, 0 ≤ o → o < n → P o = true → kap rk i ≤ kap rk o)

theorem hyVX9_nextOf : yX9_nextOf.cls = RX9 ∧ yX9_nextOf.cls ≠ "java/lang/invoke/MethodHandle" ∧ yX9_nextOf.cls ≠ "java/lang/invoke/VarHandle" ∧ (parseMethodDescriptor yX9_nextOf.desc).map (fun d => d.parameters.length) = some 1 := by decide +kernel
theorem uX9_nextOf_X9 : ∀ w ∈ u_ws RX9 TX9 35, w ∈ wsX9_nextOf := by decide +kernel
theorem fX9_nextOf_80 : Cond.fieldLink RX9 80 (TX9 5).1 (TX9 5).2.1 (TX9 5).2.2.1 ∈ wsX9_nextOf := by decide +kernel
theorem fX9_nextOf_22 : Cond.fieldLink RX9 22 (TX9 4).1 (TX9 4).2.1 (TX9 4).2.2.1 ∈ wsX9_nextOf := by decide +kernel
set_option maxHeartbeats 4000000 in
set_option maxRecDepth 100000 in
theorem c_X9_nextOf {l : Launch} {G : Gy} (hG : Inj G) (σ : St) {B : Int} (h : RO σ) (hB : 0 ≤ B ∧ B ≤ 2147483647) : MP l yX9_nextOf wsX9_nextOf ({ frames := 0, cells := 0, slots := 0, locals := 0 } : Room) G [.ref (G.2.2 0), .int (zI (B))] σ (firstN (σ 5) (σ 0 5) (tb B)) := by
  refine MI.of hG (by decide +kernel) rfl rfl (Nat.le_of_ble_eq_true rfl) rfl ?_
  intro p e s m args below meth c H0 Q hC hret
  have hn := h.1
  have L4 : ∀ (n : Nat) (k i : Int), ((σ 0 5 - k).toNat) = n → (0 ≤ k ∧ k ≤ σ 0 5) → (-1 ≤ i ∧ i < 24) → (firstN (σ 5) k (tb B) i) → wp p l e ({ frames := 0, cells := 0, slots := 0, locals := 0 } : Room) s m args below meth c (aA G (Array.size H0)) H0 4 Q G σ 4 [(0, .ref (G.2.2 0)), (1, .int (zI (B))), (2, .int (zI (i))), (3, .int (zI (k)))] [] := by
    intro n4
    induction n4 using Nat.strongRecOn with
    | ind n4 ih =>
      intro k i hm4 h1 hi h2
      have hrk := fun z : k < 24 => h.2.2.2.2.2 k h1.1 z
      have hri := fun z : 0 ≤ i => h.2.2.2.2.2 i z hi.2
      refine wp_iload_n hC dX9_nextOf_4 rfl ?_
      refine wp_aload_n hC dX9_nextOf_5 rfl ?_
      refine wp_geti (k := 5) (z := 5) hC rfl (rfl) (by decide) (rfl) (rfl) (by decide) uX9_nextOf_X9 fX9_nextOf_80 (rfl) dX9_nextOf_6 ?_
      refine wp_icmp_ge (tgt := 48) hC dX9_nextOf_9 (by decide) (by clear h2; omega) (by clear h2; omega) (fun c_9 => ?_) (fun c_9 => ?_)
      · refine wp_iload_n hC dX9_nextOf_48 rfl ?_
        exact hret _ _ _ _ (by clear h2; omega) rfl (⟨by rw [show k = σ 0 5 by clear h2; omega] at h2; exact h2, rfl⟩) dX9_nextOf_49
      · refine wp_iload_n hC dX9_nextOf_12 rfl ?_
        refine wp_iload_n hC dX9_nextOf_13 rfl ?_
        refine wp_ishr hC dX9_nextOf_14 ?_
        refine wp_iconst hC dX9_nextOf_15 ?_
        refine wp_iand hC dX9_nextOf_16 ?_
        refine wp_top (b := bI (tb B k = true)) (bit_at (by omega) (by omega) (by clear h2; omega) (by clear h2; omega)) ?_
        refine wp_iconst hC dX9_nextOf_17 ?_
        refine wp_icmp_ne (tgt := 42) hC dX9_nextOf_18 (by decide) (iR_bI) (by omega) (fun c_18 => ?_) (fun c_18 => ?_)
        · have c18 : ¬ tb B k = true := bI_n1.mp c_18
          refine wp_iinc (lv2 := [(0, _), (1, _), (2, _), (3, _)]) hC dX9_nextOf_42 rfl rfl (by decide) ?_
          refine wp_goto (tgt := 4) hC dX9_nextOf_45 (by decide) ?_
          exact ih _ (by clear h2; omega) _ _ rfl (by clear h2; omega) (by clear h2; omega) (by
            rcases h2 with ⟨e, q⟩ | ⟨a, b, c0, q⟩
            · exact Or.inl ⟨e, fun o x y => by
                rcases Int.lt_or_le o k with z | z
                · exact q o x z
                · rw [show o = k by omega]; exact Bool.eq_false_iff.mpr c18⟩
            · exact Or.inr ⟨a, by omega, c0, fun o x y w => by
                rcases Int.lt_or_le o k with z | z
                · exact q o x z w
                · rw [show o = k by omega] at w; exact absurd w c18⟩)
        · have c18 : tb B k = true := bI_1.mp c_18
          refine wp_iload_n hC dX9_nextOf_21 rfl ?_
          refine wp_if_lt (tgt := 40) hC dX9_nextOf_22 (by decide) (by clear h2; omega) (fun c_22 => ?_) (fun c_22 => ?_)
          · refine wp_iload_n hC dX9_nextOf_40 rfl ?_
            refine wp_istore_n (lv2 := [(0, _), (1, _), (2, _), (3, _)]) hC dX9_nextOf_41 rfl (by decide) ?_
            refine wp_iinc (lv2 := [(0, _), (1, _), (2, _), (3, _)]) hC dX9_nextOf_42 rfl rfl (by decide) ?_
            refine wp_goto (tgt := 4) hC dX9_nextOf_45 (by decide) ?_
            exact ih _ (by clear h2; omega) _ _ rfl (by clear h2; omega) (by clear h2; omega) (by
              rcases h2 with ⟨e, q⟩ | ⟨a, b, c0, q⟩
              · exact Or.inr ⟨h1.1, by omega, c18, fun o x y w => by
                  rcases Int.lt_or_le o k with z | z
                  · rw [q o x z] at w; cases w
                  · rw [show o = k by omega]; exact Int.le_refl _⟩
              · exact Or.inr ⟨h1.1, by omega, c18, fun o x y w => by
                  rcases Int.lt_or_le o k with z | z
                  · have := q o x z w; unfold kap at *; omega
                  · rw [show o = k by omega]; exact Int.le_refl _⟩)
          · refine wp_aload_n hC dX9_nextOf_25 rfl ?_
            refine wp_geta (k := 4) hC (rfl) (by decide) (rfl) (rfl) (by decide) uX9_nextOf_X9 fX9_nextOf_22 (rfl) dX9_nextOf_26 ?_
            refine wp_iload_n hC dX9_nextOf_29 rfl ?_
            refine wp_iald (n := 24) hC (rfl) (Nat.le_of_ble_eq_true rfl) (rfl) (by decide) (by clear h2; omega) dX9_nextOf_30 ?_
            refine wp_aload_n hC dX9_nextOf_31 rfl ?_
            refine wp_geta (k := 4) hC (rfl) (by decide) (rfl) (rfl) (by decide) uX9_nextOf_X9 fX9_nextOf_22 (rfl) dX9_nextOf_32 ?_
            refine wp_iload_n hC dX9_nextOf_35 rfl ?_
            refine wp_iald (n := 24) hC (rfl) (Nat.le_of_ble_eq_true rfl) (rfl) (by decide) (by clear h2; omega) dX9_nextOf_36 ?_
            refine wp_icmp_le (tgt := 42) hC dX9_nextOf_37 (by decide) (by clear h2; omega) (by clear h2; omega) (fun c_37 => ?_) (fun c_37 => ?_)
            · refine wp_iinc (lv2 := [(0, _), (1, _), (2, _), (3, _)]) hC dX9_nextOf_42 rfl rfl (by decide) ?_
              refine wp_goto (tgt := 4) hC dX9_nextOf_45 (by decide) ?_
              exact ih _ (by clear h2; omega) _ _ rfl (by clear h2; omega) (by clear h2; omega) (by
                rcases h2 with ⟨e, q⟩ | ⟨a, b, c0, q⟩
                · omega
                · exact Or.inr ⟨a, by omega, c0, fun o x y w => by
                    rcases Int.lt_or_le o k with z | z
                    · exact q o x z w
                    · rw [show o = k by omega]; unfold kap; omega⟩)
            · refine wp_iload_n hC dX9_nextOf_40 rfl ?_
              refine wp_istore_n (lv2 := [(0, _), (1, _), (2, _), (3, _)]) hC dX9_nextOf_41 rfl (by decide) ?_
              refine wp_iinc (lv2 := [(0, _), (1, _), (2, _), (3, _)]) hC dX9_nextOf_42 rfl rfl (by decide) ?_
              refine wp_goto (tgt := 4) hC dX9_nextOf_45 (by decide) ?_
              exact ih _ (by clear h2; omega) _ _ rfl (by clear h2; omega) (by clear h2; omega) (by
                rcases h2 with ⟨e, q⟩ | ⟨a, b, c0, q⟩
                · exact Or.inr ⟨h1.1, by omega, c18, fun o x y w => by
                    rcases Int.lt_or_le o k with z | z
                    · rw [q o x z] at w; cases w
                    · rw [show o = k by omega]; exact Int.le_refl _⟩
                · exact Or.inr ⟨h1.1, by omega, c18, fun o x y w => by
                    rcases Int.lt_or_le o k with z | z
                    · have := q o x z w; unfold kap at *; omega
                    · rw [show o = k by omega]; exact Int.le_refl _⟩)
  refine wp_iconst hC dX9_nextOf_0 ?_
  refine wp_istore_n (lv2 := [(0, _), (1, _), (2, _)]) hC dX9_nextOf_1 rfl (by decide) ?_
  refine wp_iconst hC dX9_nextOf_2 ?_
  refine wp_istore_n (lv2 := [(0, _), (1, _), (2, _), (3, _)]) hC dX9_nextOf_3 rfl (by decide) ?_
  exact L4 _ _ _ rfl (by omega) (by omega) (Or.inl ⟨rfl, fun o a b => by omega⟩)

/-- a set grown in turn: at each turn the order whose turn it is comes, if it is a candidate and ok -/
noncomputable def kf (n : Int) (rk : Int → Int) (cand : Int → Bool) (ok : (Int → Bool) → Int → Prop) : Nat → Int → Bool
  | 0 => fun _ => false
  | t + 1 => fun q => kf n rk cand ok t q || @decide (0 ≤ q ∧ q < n ∧ kap rk q = t ∧ cand q = true ∧ ok (kf n rk cand ok t) q) (Classical.propDecidable _)
theorem kf_s {n : Int} {rk : Int → Int} {cand : Int → Bool} {ok : (Int → Bool) → Int → Prop} {t : Nat} {q : Int} : kf n rk cand ok (t + 1) q = true ↔ kf n rk cand ok t q = true ∨ (0 ≤ q ∧ q < n ∧ kap rk q = t ∧ cand q = true ∧ ok (kf n rk cand ok t) q) := by
  show (kf n rk cand ok t q || @decide _ (Classical.propDecidable _)) = true ↔ _
  rw [Bool.or_eq_true]
  exact or_congr Iff.rfl (@decide_eq_true_iff _ (Classical.propDecidable _))
/-- no candidate's turn: nothing comes -/
theorem kf_skip {n : Int} {rk : Int → Int} {cand : Int → Bool} {ok : (Int → Bool) → Int → Prop} {t : Nat} : ∀ d : Nat, (∀ q, 0 ≤ q → q < n → cand q = true → ¬ (t ≤ kap rk q ∧ kap rk q < t + d)) → kf n rk cand ok (t + d) = kf n rk cand ok t
  | 0, _ => rfl
  | d + 1, h => by
    have ih := kf_skip (n := n) (rk := rk) (cand := cand) (ok := ok) (t := t) d (fun q a b x y => h q a b x (by omega))
    rw [← ih]
    funext q
    rw [Bool.eq_iff_iff]
    show kf n rk cand ok (t + d + 1) q = true ↔ _
    rw [kf_s]
    constructor
    · rintro (z | ⟨a, b, x, y, _⟩)
      · exact z
      · exact absurd ⟨by omega, by omega⟩ (h q a b y)
    · exact Or.inl
theorem kf_in {n : Int} {rk : Int → Int} {cand : Int → Bool} {ok : (Int → Bool) → Int → Prop} : ∀ {t : Nat} {q : Int}, kf n rk cand ok t q = true → 0 ≤ q ∧ q < n ∧ kap rk q < t ∧ cand q = true
  | 0, q, h => by cases h
  | t + 1, q, h => by
    rcases kf_s.mp h with z | ⟨a, b, x, y, _⟩
    · have := kf_in z
      exact ⟨this.1, this.2.1, by omega, this.2.2.2⟩
    · exact ⟨a, b, by omega, y⟩
