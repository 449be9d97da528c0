theorem LNF_u {tp : Int → Int} {z q am it la gr rk e am' it' la' gr' rk' e' : Int} (h : LNF tp z q am it la gr rk e) (h' : LNF tp z q am' it' la' gr' rk' e') : am = am' ∧ e = e' ∧ (0 ≤ am → it = it' ∧ la = la' ∧ gr = gr' ∧ rk = rk') := by
  obtain ⟨l, h⟩ := h
  obtain ⟨l', h'⟩ := h'
  rcases h with ⟨a, b, c⟩ | ⟨a, hl, h⟩ <;> rcases h' with ⟨a', b', c'⟩ | ⟨a', hl', h'⟩
  · omega
  · omega
  · omega
  · have el := letF_u hl hl'
    subst el
    clear hl hl'
    generalize (optF tp z 114 9 (optF tp z 103 3 (numF tp z 2 0 11 (l.2 + 1)).2).2) = r at *
    generalize (optF tp z 103 3 (numF tp z 2 0 11 (l.2 + 1)).2) = g at *
    generalize numF tp z 2 0 11 (l.2 + 1) = n2 at *
    omega
def LT (tp : Int → Int) (z q : Int) (t : Int × Int × Int × Int × Int × Int) : Prop := LNF tp z q t.1 t.2.1 t.2.2.1 t.2.2.2.1 t.2.2.2.2.1 t.2.2.2.2.2
/-- the line that begins at a place -/
noncomputable def lnT (tp : Int → Int) (z q : Int) : Int × Int × Int × Int × Int × Int := @dite _ (∃ t, LT tp z q t) (Classical.propDecidable _) (fun h => h.choose) (fun _ => (-1, 0, 0, 0, 0, 0))
theorem lnT_of {tp : Int → Int} {z q am it la gr rk e : Int} (h : LNF tp z q am it la gr rk e) : (lnT tp z q).1 = am ∧ (lnT tp z q).2.2.2.2.2 = e ∧ (0 ≤ am → (lnT tp z q).2.1 = it ∧ (lnT tp z q).2.2.1 = la ∧ (lnT tp z q).2.2.2.1 = gr ∧ (lnT tp z q).2.2.2.2.1 = rk) := by
  have hex : ∃ t, LT tp z q t := ⟨(am, it, la, gr, rk, e), h⟩
  have e1 : lnT tp z q = hex.choose := dif_pos hex
  have h2 : LT tp z q hex.choose := hex.choose_spec
  rw [← e1] at h2
  obtain ⟨a, b, c⟩ := LNF_u h2 h
  exact ⟨a, b, fun x => c (by omega)⟩
/-- where lines begin -/
noncomputable def pos (tp : Int → Int) (z : Int) : Nat → Int
  | 0 => 0
  | i + 1 => (lnT tp z (pos tp z i)).2.2.2.2.2 + 1
noncomputable def lnA (σ : St) (i : Nat) : Int := (lnT (σ 12) (σ 0 18) (pos (σ 12) (σ 0 18) i)).1
noncomputable def lnE (σ : St) (i : Nat) : Int := (lnT (σ 12) (σ 0 18) (pos (σ 12) (σ 0 18) i)).2.2.2.2.2
/-- behind the i-th line comes another -/
def cont (σ : St) (i : Nat) : Prop := 0 ≤ lnA σ i ∧ lnE σ i ≠ σ 0 18 ∧ ch (σ 12) (σ 0 18) (lnE σ i) = 59 ∧ σ 0 5 + i < 24
def OKT (σ : St) (J : Nat) : Prop := σ 0 5 + J < 24 ∧ 0 ≤ lnA σ J ∧ lnE σ J = σ 0 18
def FLT (σ : St) (J : Nat) (F : Int) : Prop := (σ 0 5 + J = 24 ∧ F = pos (σ 12) (σ 0 18) J) ∨ (σ 0 5 + J < 24 ∧ lnA σ J < 0 ∧ F = lnE σ J) ∨ (σ 0 5 + J < 24 ∧ 0 ≤ lnA σ J ∧ lnE σ J ≠ σ 0 18 ∧ ch (σ 12) (σ 0 18) (lnE σ J) ≠ 59 ∧ F = lnE σ J)
noncomputable def lnX (σ : St) (x : Int) : Int × Int × Int × Int × Int × Int := lnT (σ 12) (σ 0 18) (pos (σ 12) (σ 0 18) x.toNat)
/-- j lines have come -/
noncomputable def AL (σ : St) (j : Nat) : St := fun a b =>
  if a = 2 ∧ σ 0 5 ≤ b ∧ b < σ 0 5 + j then (lnX σ (b - σ 0 5)).1
  else if a = 3 ∧ σ 0 5 ≤ b ∧ b < σ 0 5 + j then (lnX σ (b - σ 0 5)).2.1
  else if a = 4 ∧ σ 0 5 ≤ b ∧ b < σ 0 5 + j then (lnX σ (b - σ 0 5)).2.2.2.1
  else if a = 5 ∧ σ 0 5 ≤ b ∧ b < σ 0 5 + j then (lnX σ (b - σ 0 5)).2.2.2.2.1
  else if a = 1 ∧ 40 + σ 0 5 ≤ b ∧ b < 40 + σ 0 5 + j then 0
  else if a = 1 ∧ 64 + σ 0 5 ≤ b ∧ b < 64 + σ 0 5 + j then (lnX σ (b - 64 - σ 0 5)).2.2.1
  else if a = 0 ∧ b = 5 then σ 0 5 + j else σ a b
theorem AL_0 {σ : St} : AL σ 0 = σ := by
  funext a b
  unfold AL
  rw [if_neg (by omega), if_neg (by omega), if_neg (by omega), if_neg (by omega), if_neg (by omega), if_neg (by omega)]
  by_cases h : a = 0 ∧ b = 5
  · rw [if_pos h, h.1, h.2]
    omega
  · rw [if_neg h]
/-- an order comes -/
def CM (σ : St) : St := put (put (put (put (put (put (put σ 2 (σ 0 5) (σ 13 0)) 3 (σ 0 5) (σ 13 1)) 4 (σ 0 5) (σ 13 3)) 5 (σ 0 5) (σ 13 4)) 1 (40 + σ 0 5) 0) 1 (64 + σ 0 5) (σ 13 2)) 0 5 (σ 0 5 + 1)
theorem AL_s {σ τ : St} {j : Nat} (hn : 0 ≤ σ 0 5 ∧ σ 0 5 + j < 24) (h : τ 13 0 = (lnX σ j).1 ∧ τ 13 1 = (lnX σ j).2.1 ∧ τ 13 2 = (lnX σ j).2.2.1 ∧ τ 13 3 = (lnX σ j).2.2.2.1 ∧ τ 13 4 = (lnX σ j).2.2.2.2.1) : CM (SC (AL σ j) τ) = SC (AL σ (j + 1)) τ := by
  have e : CM (SC (AL σ j) τ) = put (put (put (put (put (put (put (SC (AL σ j) τ) 2 (σ 0 5 + j) (τ 13 0)) 3 (σ 0 5 + j) (τ 13 1)) 4 (σ 0 5 + j) (τ 13 3)) 5 (σ 0 5 + j) (τ 13 4)) 1 (40 + (σ 0 5 + j)) 0) 1 (64 + (σ 0 5 + j)) (τ 13 2)) 0 5 (σ 0 5 + j + 1) := rfl
  obtain ⟨g0, g1, g2, g3, g4⟩ := h
  rw [e, g0, g1, g2, g3, g4]
  funext a b
  have cast : ((j + 1 : Nat) : Int) = (j : Int) + 1 := by omega
  by_cases k7 : a = 0 ∧ b = 5
  · rw [k7.1, k7.2, put_s]
    show _ = AL σ (j + 1) 0 5
    show σ 0 5 + j + 1 = σ 0 5 + ((j + 1 : Nat) : Int)
    omega
  rw [put_q k7]
  by_cases k6 : a = 1 ∧ b = 64 + (σ 0 5 + j)
  · rw [k6.1, k6.2, put_s, SC_n (by rfl)]
    unfold AL
    rw [if_neg (by omega), if_neg (by omega), if_neg (by omega), if_neg (by omega), if_neg (by omega), if_pos (by omega), show 64 + (σ 0 5 + (j : Int)) - 64 - σ 0 5 = j by omega]
  rw [put_q k6]
  by_cases k5 : a = 1 ∧ b = 40 + (σ 0 5 + j)
  · rw [k5.1, k5.2, put_s, SC_n (by rfl)]
    unfold AL
    rw [if_neg (by omega), if_neg (by omega), if_neg (by omega), if_neg (by omega), if_pos (by omega)]
  rw [put_q k5]
  by_cases k4 : a = 5 ∧ b = σ 0 5 + j
  · rw [k4.1, k4.2, put_s, SC_n (by rfl)]
    unfold AL
    rw [if_neg (by omega), if_neg (by omega), if_neg (by omega), if_pos (by omega), show σ 0 5 + (j : Int) - σ 0 5 = j by omega]
  rw [put_q k4]
  by_cases k3 : a = 4 ∧ b = σ 0 5 + j
  · rw [k3.1, k3.2, put_s, SC_n (by rfl)]
    unfold AL
    rw [if_neg (by omega), if_neg (by omega), if_pos (by omega), show σ 0 5 + (j : Int) - σ 0 5 = j by omega]
  rw [put_q k3]
  by_cases k2 : a = 3 ∧ b = σ 0 5 + j
  · rw [k2.1, k2.2, put_s, SC_n (by rfl)]
    unfold AL
    rw [if_neg (by omega), if_pos (by omega), show σ 0 5 + (j : Int) - σ 0 5 = j by omega]
  rw [put_q k2]
  by_cases k1 : a = 2 ∧ b = σ 0 5 + j
  · rw [k1.1, k1.2, put_s, SC_n (by rfl)]
    unfold AL
    rw [if_pos (by omega), show σ 0 5 + (j : Int) - σ 0 5 = j by omega]
  rw [put_q k1]
  cases hs : scr a b
  · rw [SC_n hs, SC_n hs]
    unfold AL
    rw [cast]
    have e1 : (a = 2 ∧ σ 0 5 ≤ b ∧ b < σ 0 5 + (j : Int)) = (a = 2 ∧ σ 0 5 ≤ b ∧ b < σ 0 5 + ((j : Int) + 1)) := propext (by omega)
    have e2 : (a = 3 ∧ σ 0 5 ≤ b ∧ b < σ 0 5 + (j : Int)) = (a = 3 ∧ σ 0 5 ≤ b ∧ b < σ 0 5 + ((j : Int) + 1)) := propext (by omega)
    have e3 : (a = 4 ∧ σ 0 5 ≤ b ∧ b < σ 0 5 + (j : Int)) = (a = 4 ∧ σ 0 5 ≤ b ∧ b < σ 0 5 + ((j : Int) + 1)) := propext (by omega)
    have e4 : (a = 5 ∧ σ 0 5 ≤ b ∧ b < σ 0 5 + (j : Int)) = (a = 5 ∧ σ 0 5 ≤ b ∧ b < σ 0 5 + ((j : Int) + 1)) := propext (by omega)
    have e5 : (a = 1 ∧ 40 + σ 0 5 ≤ b ∧ b < 40 + σ 0 5 + (j : Int)) = (a = 1 ∧ 40 + σ 0 5 ≤ b ∧ b < 40 + σ 0 5 + ((j : Int) + 1)) := propext (by omega)
    have e6 : (a = 1 ∧ 64 + σ 0 5 ≤ b ∧ b < 64 + σ 0 5 + (j : Int)) = (a = 1 ∧ 64 + σ 0 5 ≤ b ∧ b < 64 + σ 0 5 + ((j : Int) + 1)) := propext (by omega)
    simp only [e1, e2, e3, e4, e5, e6, if_neg k7]
  · rw [SC_y hs, SC_y hs]

theorem numF_rng {tp : Int → Int} {z fg lo hi q : Int} (hq : 0 ≤ q ∧ q ≤ z) : 0 ≤ (numF tp z fg lo hi q).2 ∧ (numF tp z fg lo hi q).2 ≤ z := by
  unfold numF
  split
  · show 0 ≤ q + nk tp z fg q ∧ q + nk tp z fg q ≤ z
    unfold nk
    split
    · rename_i h
      have h1 := ch_in (tp := tp) (z := z) (q := q) (by omega)
      split
      · rename_i h2
        have h3 := ch_in (tp := tp) (z := z) (q := q + 1) (by omega)
        omega
      · omega
    · omega
  · exact hq
theorem letF_rng {tp : Int → Int} {z q : Int} {r : Int × Int} (hq : 0 ≤ q ∧ q ≤ z) (h : letF tp z q r) : 0 ≤ r.2 ∧ r.2 ≤ z := by
  obtain ⟨K, h1, h2, h3⟩ := h
  have hk : q + K ≤ z := by
    cases K with
    | zero => have : ((0 : Nat) : Int) = 0 := rfl; omega
    | succ K =>
      have h4 := (h1 K (by omega)).1
      have h5 := ch_in (tp := tp) (z := z) (q := q + K) (by omega)
      omega
  rw [h3]
  split
  · exact ⟨by omega, hk⟩
  · split
    · exact hq
    · exact ⟨by omega, hk⟩
theorem optF_rng {tp : Int → Int} {z c hi q : Int} (hc : c ≠ 0) (hq : 0 ≤ q ∧ q ≤ z) : 0 ≤ (optF tp z c hi q).2 ∧ (optF tp z c hi q).2 ≤ z := by
  unfold optF
  split
  · rename_i h
    have h1 := ch_in (tp := tp) (z := z) (q := q) (by omega)
    exact numF_rng (by omega)
  · exact hq
theorem LNF_e {tp : Int → Int} {z q am it la gr rk e : Int} (hq : 0 ≤ q ∧ q ≤ z) (h : LNF tp z q am it la gr rk e) : 0 ≤ e ∧ e ≤ z := by
  obtain ⟨l, h⟩ := h
  have e1 := numF_rng (tp := tp) (fg := 2) (lo := 1) (hi := 60) hq
  rcases h with ⟨_, _, rfl⟩ | ⟨_, hl, h⟩
  · exact e1
  · have e2 := letF_rng e1 hl
    rcases h with ⟨_, _, rfl⟩ | ⟨_, _, _, rfl⟩ | ⟨_, hc, h⟩
    · exact e2
    · exact e2
    · have hci := ch_in (tp := tp) (z := z) (q := l.2) (by omega)
      have e3 := numF_rng (tp := tp) (z := z) (fg := 2) (lo := 0) (hi := 11) (q := l.2 + 1) (by omega)
      rcases h with ⟨_, _, rfl⟩ | ⟨_, h⟩
      · exact e3
      · have e4 := optF_rng (tp := tp) (c := 103) (hi := 3) (by decide) e3
        rcases h with ⟨_, _, rfl⟩ | ⟨_, h⟩
        · exact e4
        · have e5 := optF_rng (tp := tp) (c := 114) (hi := 9) (by decide) e4
          rcases h with ⟨_, _, rfl⟩ | ⟨_, _, _, _, _, _, rfl⟩
          · exact e5
          · exact e5

theorem hyVX9_comes : yX9_comes.cls = RX9 ∧ yX9_comes.cls ≠ "java/lang/invoke/MethodHandle" ∧ yX9_comes.cls ≠ "java/lang/invoke/VarHandle" ∧ (parseMethodDescriptor yX9_comes.desc).map (fun d => d.parameters.length) = some 0 := by decide +kernel
theorem uX9_comes_X9 : ∀ w ∈ u_ws RX9 TX9 35, w ∈ wsX9_comes := by decide +kernel
theorem fX9_comes_13 : Cond.fieldLink RX9 13 (TX9 1).1 (TX9 1).2.1 (TX9 1).2.2.1 ∈ wsX9_comes := by decide +kernel
theorem fX9_comes_80 : Cond.fieldLink RX9 80 (TX9 5).1 (TX9 5).2.1 (TX9 5).2.2.1 ∈ wsX9_comes := by decide +kernel
theorem fX9_comes_52 : Cond.fieldLink RX9 52 (TX9 21).1 (TX9 21).2.1 (TX9 21).2.2.1 ∈ wsX9_comes := by decide +kernel
theorem fX9_comes_16 : Cond.fieldLink RX9 16 (TX9 2).1 (TX9 2).2.1 (TX9 2).2.2.1 ∈ wsX9_comes := by decide +kernel
theorem fX9_comes_19 : Cond.fieldLink RX9 19 (TX9 3).1 (TX9 3).2.1 (TX9 3).2.2.1 ∈ wsX9_comes := by decide +kernel
theorem fX9_comes_22 : Cond.fieldLink RX9 22 (TX9 4).1 (TX9 4).2.1 (TX9 4).2.2.1 ∈ wsX9_comes := by decide +kernel
theorem fX9_comes_9 : Cond.fieldLink RX9 9 (TX9 0).1 (TX9 0).2.1 (TX9 0).2.2.1 ∈ wsX9_comes := by decide +kernel
set_option maxHeartbeats 4000000 in
set_option maxRecDepth 100000 in
theorem c_X9_comes {l : Launch} {G : Gy} (hG : Inj G) (σ : St) (hn : 0 ≤ σ 0 5 ∧ σ 0 5 < 24) : MU l yX9_comes wsX9_comes ({ frames := 0, cells := 0, slots := 0, locals := 0 } : Room) G [.ref (G.2.2 0)] σ (CM σ) := by
  refine MV.of hG (by decide +kernel) rfl rfl (Nat.le_of_ble_eq_true rfl) rfl ?_
  intro p e s m args below meth c H0 Q hC hret
  refine wp_aload_n hC dX9_comes_0 rfl ?_
  refine wp_geta (k := 1) hC (rfl) (by decide) (rfl) (rfl) (by decide) uX9_comes_X9 fX9_comes_13 (rfl) dX9_comes_1 ?_
  refine wp_aload_n hC dX9_comes_4 rfl ?_
  refine wp_geti (k := 5) (z := 5) hC rfl (rfl) (by decide) (rfl) (rfl) (by decide) uX9_comes_X9 fX9_comes_80 (rfl) dX9_comes_5 ?_
  refine wp_top (b := σ 0 5) rfl ?_
  refine wp_aload_n hC dX9_comes_8 rfl ?_
  refine wp_geta (k := 21) hC (rfl) (by decide) (rfl) (rfl) (by decide) uX9_comes_X9 fX9_comes_52 (rfl) dX9_comes_9 ?_
  refine wp_iconst hC dX9_comes_12 ?_
  refine wp_iald (n := 5) hC (rfl) (Nat.le_of_ble_eq_true rfl) (rfl) (by decide) (by omega) dX9_comes_13 ?_
  refine wp_top (b := σ 13 0) rfl ?_
  refine wp_iast (n := 24) hC (rfl) (Nat.le_of_ble_eq_true rfl) (rfl) (by decide) (by omega) dX9_comes_14 ?_
  refine wp_aload_n hC dX9_comes_15 rfl ?_
  refine wp_geta (k := 2) hC (rfl) (by decide) (rfl) (rfl) (by decide) uX9_comes_X9 fX9_comes_16 (rfl) dX9_comes_16 ?_
  refine wp_aload_n hC dX9_comes_19 rfl ?_
  refine wp_geti (k := 5) (z := 5) hC rfl (rfl) (by decide) (rfl) (rfl) (by decide) uX9_comes_X9 fX9_comes_80 (rfl) dX9_comes_20 ?_
  refine wp_top (b := σ 0 5) rfl ?_
  refine wp_aload_n hC dX9_comes_23 rfl ?_
  refine wp_geta (k := 21) hC (rfl) (by decide) (rfl) (rfl) (by decide) uX9_comes_X9 fX9_comes_52 (rfl) dX9_comes_24 ?_
  refine wp_iconst hC dX9_comes_27 ?_
  refine wp_iald (n := 5) hC (rfl) (Nat.le_of_ble_eq_true rfl) (rfl) (by decide) (by omega) dX9_comes_28 ?_
  refine wp_top (b := σ 13 1) rfl ?_
  refine wp_iast (n := 24) hC (rfl) (Nat.le_of_ble_eq_true rfl) (rfl) (by decide) (by omega) dX9_comes_29 ?_
  refine wp_aload_n hC dX9_comes_30 rfl ?_
  refine wp_geta (k := 3) hC (rfl) (by decide) (rfl) (rfl) (by decide) uX9_comes_X9 fX9_comes_19 (rfl) dX9_comes_31 ?_
  refine wp_aload_n hC dX9_comes_34 rfl ?_
  refine wp_geti (k := 5) (z := 5) hC rfl (rfl) (by decide) (rfl) (rfl) (by decide) uX9_comes_X9 fX9_comes_80 (rfl) dX9_comes_35 ?_
  refine wp_top (b := σ 0 5) rfl ?_
  refine wp_aload_n hC dX9_comes_38 rfl ?_
  refine wp_geta (k := 21) hC (rfl) (by decide) (rfl) (rfl) (by decide) uX9_comes_X9 fX9_comes_52 (rfl) dX9_comes_39 ?_
  refine wp_iconst hC dX9_comes_42 ?_
  refine wp_iald (n := 5) hC (rfl) (Nat.le_of_ble_eq_true rfl) (rfl) (by decide) (by omega) dX9_comes_43 ?_
  refine wp_top (b := σ 13 3) rfl ?_
  refine wp_iast (n := 24) hC (rfl) (Nat.le_of_ble_eq_true rfl) (rfl) (by decide) (by omega) dX9_comes_44 ?_
  refine wp_aload_n hC dX9_comes_45 rfl ?_
  refine wp_geta (k := 4) hC (rfl) (by decide) (rfl) (rfl) (by decide) uX9_comes_X9 fX9_comes_22 (rfl) dX9_comes_46 ?_
  refine wp_aload_n hC dX9_comes_49 rfl ?_
  refine wp_geti (k := 5) (z := 5) hC rfl (rfl) (by decide) (rfl) (rfl) (by decide) uX9_comes_X9 fX9_comes_80 (rfl) dX9_comes_50 ?_
  refine wp_top (b := σ 0 5) rfl ?_
  refine wp_aload_n hC dX9_comes_53 rfl ?_
  refine wp_geta (k := 21) hC (rfl) (by decide) (rfl) (rfl) (by decide) uX9_comes_X9 fX9_comes_52 (rfl) dX9_comes_54 ?_
  refine wp_iconst hC dX9_comes_57 ?_
  refine wp_iald (n := 5) hC (rfl) (Nat.le_of_ble_eq_true rfl) (rfl) (by decide) (by omega) dX9_comes_58 ?_
  refine wp_top (b := σ 13 4) rfl ?_
  refine wp_iast (n := 24) hC (rfl) (Nat.le_of_ble_eq_true rfl) (rfl) (by decide) (by omega) dX9_comes_59 ?_
  refine wp_aload_n hC dX9_comes_60 rfl ?_
  refine wp_geta (k := 0) hC (rfl) (by decide) (rfl) (rfl) (by decide) uX9_comes_X9 fX9_comes_9 (rfl) dX9_comes_61 ?_
  refine wp_bipush hC dX9_comes_64 rfl ?_
  refine wp_aload_n hC dX9_comes_66 rfl ?_
  refine wp_geti (k := 5) (z := 5) hC rfl (rfl) (by decide) (rfl) (rfl) (by decide) uX9_comes_X9 fX9_comes_80 (rfl) dX9_comes_67 ?_
  refine wp_top (b := σ 0 5) rfl ?_
  refine wp_iadd hC dX9_comes_70 ?_
  refine wp_iconst hC dX9_comes_71 ?_
  refine wp_iast (n := 88) hC (rfl) (Nat.le_of_ble_eq_true rfl) (rfl) (by decide) (by omega) dX9_comes_72 ?_
  refine wp_aload_n hC dX9_comes_73 rfl ?_
  refine wp_geta (k := 0) hC (rfl) (by decide) (rfl) (rfl) (by decide) uX9_comes_X9 fX9_comes_9 (rfl) dX9_comes_74 ?_
  refine wp_bipush hC dX9_comes_77 rfl ?_
  refine wp_aload_n hC dX9_comes_79 rfl ?_
  refine wp_geti (k := 5) (z := 5) hC rfl (rfl) (by decide) (rfl) (rfl) (by decide) uX9_comes_X9 fX9_comes_80 (rfl) dX9_comes_80 ?_
  refine wp_top (b := σ 0 5) rfl ?_
  refine wp_iadd hC dX9_comes_83 ?_
  refine wp_aload_n hC dX9_comes_84 rfl ?_
  refine wp_geta (k := 21) hC (rfl) (by decide) (rfl) (rfl) (by decide) uX9_comes_X9 fX9_comes_52 (rfl) dX9_comes_85 ?_
  refine wp_iconst hC dX9_comes_88 ?_
  refine wp_iald (n := 5) hC (rfl) (Nat.le_of_ble_eq_true rfl) (rfl) (by decide) (by omega) dX9_comes_89 ?_
  refine wp_top (b := σ 13 2) rfl ?_
  refine wp_iast (n := 88) hC (rfl) (Nat.le_of_ble_eq_true rfl) (rfl) (by decide) (by omega) dX9_comes_90 ?_
  refine wp_aload_n hC dX9_comes_91 rfl ?_
  refine wp_dup hC dX9_comes_92 rfl ?_
  refine wp_geti (k := 5) (z := 5) hC rfl (rfl) (by decide) (rfl) (rfl) (by decide) uX9_comes_X9 fX9_comes_80 (rfl) dX9_comes_93 ?_
  refine wp_top (b := σ 0 5) rfl ?_
  refine wp_iconst hC dX9_comes_96 ?_
  refine wp_iadd hC dX9_comes_97 ?_
  refine wp_puti2 (k := 5) (z := 5) hC rfl (rfl) (by decide) (rfl) (rfl) (by decide) uX9_comes_X9 fX9_comes_80 tyX9 tyX9_ok nmX9 rfl rfl (rfl) dX9_comes_98 ?_
  exact hret _ _ _ (rfl) dX9_comes_101

theorem hyVX9_readsAll : yX9_readsAll.cls = RX9 ∧ yX9_readsAll.cls ≠ "java/lang/invoke/MethodHandle" ∧ yX9_readsAll.cls ≠ "java/lang/invoke/VarHandle" ∧ (parseMethodDescriptor yX9_readsAll.desc).map (fun d => d.parameters.length) = some 0 := by decide +kernel
theorem uX9_readsAll_X9 : ∀ w ∈ u_ws RX9 TX9 35, w ∈ wsX9_readsAll := by decide +kernel
theorem fX9_readsAll_80 : Cond.fieldLink RX9 80 (TX9 5).1 (TX9 5).2.1 (TX9 5).2.2.1 ∈ wsX9_readsAll := by decide +kernel
theorem fX9_readsAll_170 : Cond.fieldLink RX9 170 (TX9 19).1 (TX9 19).2.1 (TX9 19).2.2.1 ∈ wsX9_readsAll := by decide +kernel
theorem fX9_readsAll_167 : Cond.fieldLink RX9 167 (TX9 18).1 (TX9 18).2.1 (TX9 18).2.2.1 ∈ wsX9_readsAll := by decide +kernel
set_option maxHeartbeats 4000000 in
set_option maxRecDepth 100000 in
theorem c_X9_readsAll {l : Launch} {G : Gy} (hG : Inj G) (σ : St) (hn : 0 ≤ σ 0 5 ∧ σ 0 5 ≤ 24) (hz : 0 ≤ σ 0 18 ∧ σ 0 18 ≤ 100) (ht : ∀ j, 0 ≤ j → j < σ 0 18 → 0 ≤ σ 12 j ∧ σ 12 j ≤ 126) : MI l yX9_readsAll wsX9_readsAll ({ frames := 4, cells := 0, slots := 0, locals := 89 } : Room) G [.ref (G.2.2 0)] σ (fun x σ2 => ∃ J τ, (∀ i, i < J → cont σ i) ∧ ((OKT σ J ∧ x = 1 ∧ σ2 = SC (AL σ (J + 1)) τ) ∨ (∃ F J9, FLT σ J F ∧ x = 0 ∧ σ2 = SC (AL σ J9) τ ∧ σ 0 5 + J9 ≤ 24 ∧ τ 0 20 = F ∧ 0 ≤ F ∧ F ≤ 100))) := by
  refine MI.of hG (by decide +kernel) rfl rfl (Nat.le_of_ble_eq_true rfl) rfl ?_
  intro p e s m args below meth c H0 Q hC hret
  have L5 : ∀ (n : Nat) (j : Nat) (τ : St), (24 - j) = n → (σ 0 5 + j ≤ 24) → (∀ i, i < j → cont σ i) → (τ 0 19 = pos (σ 12) (σ 0 18) j ∧ 0 ≤ pos (σ 12) (σ 0 18) j ∧ pos (σ 12) (σ 0 18) j ≤ σ 0 18) → wp p l e ({ frames := 4, cells := 0, slots := 0, locals := 89 } : Room) s m args below meth c (aA G (Array.size H0)) H0 1 Q G (SC (AL σ j) τ) 5 [(0, .ref (G.2.2 0))] [] := by
    intro n5
    induction n5 using Nat.strongRecOn with
    | ind n5 ih =>
      intro j τ hm5 h1 hc hp
      refine wp_aload_n hC dX9_readsAll_5 rfl ?_
      refine wp_geti (k := 5) (z := 5) hC rfl (rfl) (by decide) (rfl) (rfl) (by decide) uX9_readsAll_X9 fX9_readsAll_80 (rfl) dX9_readsAll_6 ?_
      refine wp_top (b := σ 0 5 + j) rfl ?_
      refine wp_bipush hC dX9_readsAll_9 rfl ?_
      refine wp_icmp_ne (tgt := 31) hC dX9_readsAll_11 (by decide) (by omega) (by omega) (fun c_11 => ?_) (fun c_11 => ?_)
      · refine wp_aload_n hC dX9_readsAll_31 rfl ?_
        refine wp_callVi (As := []) hC (c_X9_readsLine hG (SC (AL σ j) τ) hz ht (by show 0 ≤ τ 0 19 ∧ τ 0 19 ≤ σ 0 18; omega)) gX9_readsAll_X9_readsLine rfl ⟨rfl, rfl⟩ ⟨by decide, by decide⟩ hyVX9_readsLine (rfl) (by decide) (rfl) rfl (Nat.le_of_ble_eq_true rfl) dX9_readsAll_32 (fun x_32 s_32 hx_32 hp_32 => ?_)
        obtain ⟨am, it, la, gr, rk, e9, hln, hsc, hpl, hres⟩ := hp_32
        have hln : LNF (σ 12) (σ 0 18) (τ 0 19) am it la gr rk e9 := hln
        rw [hp.1] at hln
        obtain ⟨kA, kE, kR⟩ := lnT_of hln
        have kA : lnA σ j = am := kA
        have kE : lnE σ j = e9 := kE
        have hpl : 0 ≤ s_32 0 19 ∧ s_32 0 19 ≤ σ 0 18 := hpl
        have hst : s_32 = SC (AL σ j) s_32 := by rw [SC_SC] at hsc; exact hsc
        generalize s_32 = τ1 at *
        have hres2 : iR x_32 := hx_32
        refine wp_if_ne (tgt := 40) hC dX9_readsAll_35 (by decide) (by omega) (fun c_35 => ?_) (fun c_35 => ?_)
        · have kk : 0 ≤ am ∧ τ1 0 19 = e9 ∧ τ1 13 0 = am ∧ τ1 13 1 = it ∧ τ1 13 2 = la ∧ τ1 13 3 = gr ∧ τ1 13 4 = rk := by
            rcases hres with q | q
            · exact ⟨q.1, q.2.2⟩
            · omega
          have kok := kk.1
          have he : τ1 0 19 = lnE σ j := by rw [kE]; exact kk.2.1
          refine wp_st hst ?_
          refine wp_aload_n hC dX9_readsAll_40 rfl ?_
          refine wp_callVu (As := []) hC (c_X9_comes hG (SC (AL σ j) τ1) (show 0 ≤ σ 0 5 + (j : Int) ∧ σ 0 5 + (j : Int) < 24 by omega)) gX9_readsAll_X9_comes rfl ⟨rfl, rfl⟩ ⟨by decide, by decide⟩ hyVX9_comes (rfl) (by decide) (rfl) rfl (Nat.le_of_ble_eq_true rfl) dX9_readsAll_41 ?_
          refine wp_st (σ2 := SC (AL σ (j + 1)) τ1) (AL_s ⟨hn.1, by omega⟩ ?_) ?_
          · have ee : lnX σ j = lnT (σ 12) (σ 0 18) (pos (σ 12) (σ 0 18) j) := by unfold lnX; rw [Int.toNat_natCast]
            rw [ee]
            obtain ⟨r1, r2, r3, r4⟩ := kR kok
            exact ⟨by rw [show (lnT (σ 12) (σ 0 18) (pos (σ 12) (σ 0 18) j)).1 = am from kA]; exact kk.2.2.1, by rw [r1]; exact kk.2.2.2.1, by rw [r2]; exact kk.2.2.2.2.1, by rw [r3]; exact kk.2.2.2.2.2.1, by rw [r4]; exact kk.2.2.2.2.2.2⟩
          refine wp_aload_n hC dX9_readsAll_44 rfl ?_
          refine wp_geti (k := 19) (z := 19) hC rfl (rfl) (by decide) (rfl) (rfl) (by decide) uX9_readsAll_X9 fX9_readsAll_170 (rfl) dX9_readsAll_45 ?_
          refine wp_top (b := τ1 0 19) rfl ?_
          refine wp_aload_n hC dX9_readsAll_48 rfl ?_
          refine wp_geti (k := 18) (z := 18) hC rfl (rfl) (by decide) (rfl) (rfl) (by decide) uX9_readsAll_X9 fX9_readsAll_167 (rfl) dX9_readsAll_49 ?_
          refine wp_top (b := σ 0 18) rfl ?_
          refine wp_icmp_ne (tgt := 57) hC dX9_readsAll_52 (by decide) (by omega) (by omega) (fun c_52 => ?_) (fun c_52 => ?_)
          · refine wp_aload_n hC dX9_readsAll_57 rfl ?_
            refine wp_bipush hC dX9_readsAll_58 rfl ?_
            refine wp_callVi (As := [_]) hC (c_X9_goesOn hG (SC (AL σ (j + 1)) τ1) hz ht hpl (by decide)) gX9_readsAll_X9_goesOn rfl ⟨rfl, rfl⟩ ⟨by decide, by decide⟩ hyVX9_goesOn (rfl) (by decide) (rfl) rfl (Nat.le_of_ble_eq_true rfl) dX9_readsAll_60 (fun x_60 s_60 hx_60 hp_60 => ?_)
            have hp60 : (ch (σ 12) (σ 0 18) (τ1 0 19) = 59 ∧ x_60 = 1 ∧ s_60 = put (SC (AL σ (j + 1)) τ1) 0 19 (SC (AL σ (j + 1)) τ1 0 19 + 1) ∧ τ1 0 19 < σ 0 18) ∨ (ch (σ 12) (σ 0 18) (τ1 0 19) ≠ 59 ∧ x_60 = 0 ∧ s_60 = SC (AL σ (j + 1)) τ1) := hp_60
            refine wp_if_ne (tgt := 5) hC dX9_readsAll_63 (by decide) (by omega) (fun c_63 => ?_) (fun c_63 => ?_)
            · have k60 : ch (σ 12) (σ 0 18) (τ1 0 19) = 59 ∧ s_60 = put (SC (AL σ (j + 1)) τ1) 0 19 (SC (AL σ (j + 1)) τ1 0 19 + 1) ∧ τ1 0 19 < σ 0 18 := by
                rcases hp60 with q | q
                · exact ⟨q.1, q.2.2⟩
                · omega
              obtain ⟨k60a, rfl, k60b⟩ := k60
              refine wp_st (σ2 := SC (AL σ (j + 1)) (put τ1 0 19 (τ1 0 19 + 1))) (by rw [SC_put rfl]; rfl) ?_
              exact ih _ (by omega) (j + 1) _ rfl (by omega) (fun i a => by
                rcases Nat.lt_or_ge i j with y | y
                · exact hc i y
                · rw [show i = j by omega]; exact ⟨by rw [kA]; exact kok, fun y => c_52 (by rw [he]; exact y), by rw [← he]; exact k60a, by omega⟩) (by
                have e1 : pos (σ 12) (σ 0 18) (j + 1) = lnE σ j + 1 := rfl
                rw [e1, ← he]
                exact ⟨rfl, by omega, by omega⟩)
            · have k60 : ch (σ 12) (σ 0 18) (τ1 0 19) ≠ 59 ∧ s_60 = SC (AL σ (j + 1)) τ1 := by
                rcases hp60 with q | q
                · omega
                · exact ⟨q.1, q.2.2⟩
              obtain ⟨k60, rfl⟩ := k60
              refine wp_aload_n hC dX9_readsAll_66 rfl ?_
              refine wp_aload_n hC dX9_readsAll_67 rfl ?_
              refine wp_geti (k := 19) (z := 19) hC rfl (rfl) (by decide) (rfl) (rfl) (by decide) uX9_readsAll_X9 fX9_readsAll_170 (rfl) dX9_readsAll_68 ?_
              refine wp_top (b := τ1 0 19) rfl ?_
              refine wp_callVe (As := [_]) hC (c_X9_faults hG _) gX9_readsAll_X9_faults rfl ⟨rfl, rfl⟩ ⟨by decide, by decide⟩ hyVX9_faults (rfl) (by decide) (rfl) rfl (Nat.le_of_ble_eq_true rfl) dX9_readsAll_71 (fun hx_71 => ?_)
              refine wp_if_le (tgt := 81) hC dX9_readsAll_74 (by decide) (by omega) (fun c_74 => ?_) (fun c_74 => ?_)
              · refine wp_iconst hC dX9_readsAll_81 ?_
                exact hret _ _ _ _ (by omega) rfl (⟨j, put τ1 0 20 (τ1 0 19), hc, Or.inr ⟨τ1 0 19, j + 1, Or.inr (Or.inr ⟨by omega, by rw [kA]; exact kok, by rw [← he]; exact c_52, by rw [← he]; exact k60, he⟩), rfl, SC_put rfl, by omega, put_s, hpl.1, by omega⟩⟩) dX9_readsAll_82
              · refine wp_iconst hC dX9_readsAll_77 ?_
                refine wp_goto (tgt := 82) hC dX9_readsAll_78 (by decide) ?_
                exact hret _ _ _ _ (by omega) rfl (absurd c_74 (by decide)) dX9_readsAll_82
          · refine wp_iconst hC dX9_readsAll_55 ?_
            exact hret _ _ _ _ (by omega) rfl (⟨j, τ1, hc, Or.inl ⟨⟨by omega, by rw [kA]; exact kok, by rw [← he]; exact c_52⟩, rfl, rfl⟩⟩) dX9_readsAll_56
        · have HE := LNF_e hp.2 hln
          refine wp_iconst hC dX9_readsAll_38 ?_
          exact hret _ _ _ _ (by omega) rfl (by
            rcases hres with q | q
            · omega
            · exact ⟨j, τ1, hc, Or.inr ⟨e9, j, Or.inr (Or.inl ⟨by omega, by omega, kE.symm⟩), rfl, hst, h1, q.2.2, HE.1, by omega⟩⟩) dX9_readsAll_39
      · refine wp_aload_n hC dX9_readsAll_14 rfl ?_
        refine wp_aload_n hC dX9_readsAll_15 rfl ?_
        refine wp_geti (k := 19) (z := 19) hC rfl (rfl) (by decide) (rfl) (rfl) (by decide) uX9_readsAll_X9 fX9_readsAll_170 (rfl) dX9_readsAll_16 ?_
        refine wp_top (b := pos (σ 12) (σ 0 18) j) hp.1 ?_
        refine wp_callVe (As := [_]) hC (c_X9_faults hG (SC (AL σ j) τ)) gX9_readsAll_X9_faults rfl ⟨rfl, rfl⟩ ⟨by decide, by decide⟩ hyVX9_faults (rfl) (by decide) (rfl) rfl (Nat.le_of_ble_eq_true rfl) dX9_readsAll_19 (fun hx_19 => ?_)
        refine wp_if_le (tgt := 29) hC dX9_readsAll_22 (by decide) (by omega) (fun c_22 => ?_) (fun c_22 => ?_)
        · refine wp_iconst hC dX9_readsAll_29 ?_
          exact hret _ _ _ _ (by omega) rfl (⟨j, put τ 0 20 (pos (σ 12) (σ 0 18) j), hc, Or.inr ⟨pos (σ 12) (σ 0 18) j, j, Or.inl ⟨c_11, rfl⟩, rfl, SC_put rfl, h1, put_s, by omega, by omega⟩⟩) dX9_readsAll_30
        · refine wp_iconst hC dX9_readsAll_25 ?_
          refine wp_goto (tgt := 30) hC dX9_readsAll_26 (by decide) ?_
          exact hret _ _ _ _ (by omega) rfl (absurd c_22 (by decide)) dX9_readsAll_30
  refine wp_aload_n hC dX9_readsAll_0 rfl ?_
  refine wp_iconst hC dX9_readsAll_1 ?_
  refine wp_puti2 (k := 19) (z := 19) hC rfl (rfl) (by decide) (rfl) (rfl) (by decide) uX9_readsAll_X9 fX9_readsAll_170 tyX9 tyX9_ok nmX9 rfl rfl (rfl) dX9_readsAll_2 ?_
  refine wp_st (σ2 := SC (AL σ 0) (put σ 0 19 0)) (by rw [AL_0]; exact SC_put0 rfl) ?_
  exact L5 _ 0 _ rfl (by omega) (fun i a => absurd a (Nat.not_lt_zero i)) ⟨rfl, Int.le_refl _, hz.1⟩

theorem hyVX9_orders : yX9_orders.cls = RX9 ∧ yX9_orders.cls ≠ "java/lang/invoke/MethodHandle" ∧ yX9_orders.cls ≠ "java/lang/invoke/VarHandle" ∧ (parseMethodDescriptor yX9_orders.desc).map (fun d => d.parameters.length) = some 0 := by decide +kernel
theorem uX9_orders_X9 : ∀ w ∈ u_ws RX9 TX9 35, w ∈ wsX9_orders := by decide +kernel
theorem fX9_orders_80 : Cond.fieldLink RX9 80 (TX9 5).1 (TX9 5).2.1 (TX9 5).2.2.1 ∈ wsX9_orders := by decide +kernel
theorem fX9_orders_167 : Cond.fieldLink RX9 167 (TX9 18).1 (TX9 18).2.1 (TX9 18).2.2.1 ∈ wsX9_orders := by decide +kernel
theorem fX9_orders_179 : Cond.fieldLink RX9 179 (TX9 20).1 (TX9 20).2.1 (TX9 20).2.2.1 ∈ wsX9_orders := by decide +kernel
set_option maxHeartbeats 4000000 in
set_option maxRecDepth 100000 in
theorem c_X9_orders {l : Launch} {G : Gy} (hG : Inj G) (σ : St) (hn : 0 ≤ σ 0 5 ∧ σ 0 5 ≤ 24) (hz : 0 ≤ σ 0 18 ∧ σ 0 18 ≤ 100) (ht : ∀ j, 0 ≤ j → j < σ 0 18 → 0 ≤ σ 12 j ∧ σ 12 j ≤ 126) : MI l yX9_orders wsX9_orders ({ frames := 5, cells := 0, slots := 0, locals := 109 } : Room) G [.ref (G.2.2 0)] σ (fun x σ2 => ∃ J τ, (∀ i, i < J → cont σ i) ∧ ((OKT σ J ∧ x = σ 0 5 + J + 1 ∧ σ2 = SC (put (AL σ (J + 1)) 0 18 0) τ) ∨ (∃ (F : Int) (J9 : Nat), FLT σ J F ∧ σ 0 5 + J9 ≤ 24 ∧ x = -100 - F ∧ σ2 = SC (put (put (AL σ J9) 0 18 0) 0 5 (σ 0 5)) τ))) := by
  refine MI.of hG (by decide +kernel) rfl rfl (Nat.le_of_ble_eq_true rfl) rfl ?_
  intro p e s m args below meth c H0 Q hC hret
  refine wp_aload_n hC dX9_orders_0 rfl ?_
  refine wp_geti (k := 5) (z := 5) hC rfl (rfl) (by decide) (rfl) (rfl) (by decide) uX9_orders_X9 fX9_orders_80 (rfl) dX9_orders_1 ?_
  refine wp_istore_n (lv2 := [(0, _), (1, _)]) hC dX9_orders_4 rfl (by decide) ?_
  refine wp_aload_n hC dX9_orders_5 rfl ?_
  refine wp_callVi (As := []) hC (c_X9_readsAll hG σ hn hz ht) gX9_orders_X9_readsAll rfl ⟨rfl, rfl⟩ ⟨by decide, by decide⟩ hyVX9_readsAll (rfl) (by decide) (rfl) rfl (Nat.le_of_ble_eq_true rfl) dX9_orders_6 (fun x_6 s_6 hx_6 hp_6 => ?_)
  obtain ⟨J, τ1, hc, hres⟩ := hp_6
  refine wp_istore_n (lv2 := [(0, _), (1, _), (2, _)]) hC dX9_orders_9 rfl (by decide) ?_
  refine wp_aload_n hC dX9_orders_10 rfl ?_
  refine wp_iconst hC dX9_orders_11 ?_
  refine wp_puti2 (k := 18) (z := 18) hC rfl (rfl) (by decide) (rfl) (rfl) (by decide) uX9_orders_X9 fX9_orders_167 tyX9 tyX9_ok nmX9 rfl rfl (rfl) dX9_orders_12 ?_
  refine wp_iload_n hC dX9_orders_15 rfl ?_
  refine wp_if_eq (tgt := 24) hC dX9_orders_16 (by decide) (by clear hres; omega) (fun c_16 => ?_) (fun c_16 => ?_)
  · have kk : ∃ F J9, FLT σ J F ∧ s_6 = SC (AL σ J9) τ1 ∧ σ 0 5 + J9 ≤ 24 ∧ τ1 0 20 = F ∧ 0 ≤ F ∧ F ≤ 100 := by
      rcases hres with ⟨_, q, _⟩ | ⟨F, J9, q1, _, q3⟩
      · rw [q] at c_16; exact absurd c_16 (by decide)
      · exact ⟨F, J9, q1, q3⟩
    obtain ⟨F, J9, k1, rfl, k2, k3, k4⟩ := kk
    refine wp_aload_n hC dX9_orders_24 rfl ?_
    refine wp_iload_n hC dX9_orders_25 rfl ?_
    refine wp_puti2 (k := 5) (z := 5) hC rfl (rfl) (by decide) (rfl) (rfl) (by decide) uX9_orders_X9 fX9_orders_80 tyX9 tyX9_ok nmX9 rfl rfl (rfl) dX9_orders_26 ?_
    refine wp_bipush hC dX9_orders_29 rfl ?_
    refine wp_aload_n hC dX9_orders_31 rfl ?_
    refine wp_geti (k := 20) (z := 20) hC rfl (rfl) (by decide) (rfl) (rfl) (by decide) uX9_orders_X9 fX9_orders_179 (rfl) dX9_orders_32 ?_
    refine wp_top (b := F) k3 ?_
    refine wp_isub hC dX9_orders_35 ?_
    exact hret _ _ _ _ (by omega) rfl (⟨J, τ1, hc, Or.inr ⟨F, J9, k1, k2, rfl, by rw [SC_putc rfl, SC_putc rfl]⟩⟩) dX9_orders_36
  · have kk : OKT σ J ∧ s_6 = SC (AL σ (J + 1)) τ1 := by
      rcases hres with q | ⟨F, J9, q1, q2, _⟩
      · exact ⟨q.1, q.2.2⟩
      · exact absurd q2 c_16
    obtain ⟨k1, rfl⟩ := kk
    have k1a := k1.1
    refine wp_aload_n hC dX9_orders_19 rfl ?_
    refine wp_geti (k := 5) (z := 5) hC rfl (rfl) (by decide) (rfl) (rfl) (by decide) uX9_orders_X9 fX9_orders_80 (rfl) dX9_orders_20 ?_
    refine wp_top (b := σ 0 5 + J + 1) (show σ 0 5 + ((J + 1 : Nat) : Int) = σ 0 5 + J + 1 by omega) ?_
    exact hret _ _ _ _ (by omega) rfl (⟨J, τ1, hc, Or.inl ⟨k1, rfl, SC_putc rfl⟩⟩) dX9_orders_23
