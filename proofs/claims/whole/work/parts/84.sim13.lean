/-! BOTH SIDES: orders come -/
section ALs
variable {σ : St} {K : Nat}
theorem AL_hi {a : Nat} {b : Int} (h : 6 ≤ a) : AL σ K a b = σ a b := by
  unfold AL
  rw [if_neg (by omega), if_neg (by omega), if_neg (by omega), if_neg (by omega), if_neg (by omega), if_neg (by omega), if_neg (by omega)]
theorem AL_z {b : Int} (h : b ≠ 5) : AL σ K 0 b = σ 0 b := by
  unfold AL
  rw [if_neg (by omega), if_neg (by omega), if_neg (by omega), if_neg (by omega), if_neg (by omega), if_neg (by omega), if_neg (by omega)]
theorem AL_5 : AL σ K 0 5 = σ 0 5 + K := by
  unfold AL
  rw [if_neg (by omega), if_neg (by omega), if_neg (by omega), if_neg (by omega), if_neg (by omega), if_neg (by omega), if_pos ⟨rfl, rfl⟩]
theorem AL_n1 {b : Int} (h : ¬ (40 + σ 0 5 ≤ b ∧ b < 40 + σ 0 5 + K)) (h2 : ¬ (64 + σ 0 5 ≤ b ∧ b < 64 + σ 0 5 + K)) : AL σ K 1 b = σ 1 b := by
  unfold AL
  rw [if_neg (by omega), if_neg (by omega), if_neg (by omega), if_neg (by omega), if_neg (by omega), if_neg (by omega), if_neg (by omega)]
theorem AL_n2 {a : Nat} {b : Int} (ha : 2 ≤ a ∧ a ≤ 5) (h : ¬ (σ 0 5 ≤ b ∧ b < σ 0 5 + K)) : AL σ K a b = σ a b := by
  unfold AL
  rw [if_neg (by omega), if_neg (by omega), if_neg (by omega), if_neg (by omega), if_neg (by omega), if_neg (by omega), if_neg (by omega)]
theorem AL_nw (hK : 0 ≤ σ 0 5 ∧ σ 0 5 + K ≤ 24) {o : Int} (ho : σ 0 5 ≤ o ∧ o < σ 0 5 + K) : AL σ K 1 (40 + o) = 0 ∧ AL σ K 1 (64 + o) = (lnX σ (o - σ 0 5)).2.2.1 ∧ AL σ K 2 o = (lnX σ (o - σ 0 5)).1 ∧ AL σ K 3 o = (lnX σ (o - σ 0 5)).2.1 ∧ AL σ K 4 o = (lnX σ (o - σ 0 5)).2.2.2.1 ∧ AL σ K 5 o = (lnX σ (o - σ 0 5)).2.2.2.2.1 := by
  refine ⟨?_, ?_, ?_, ?_, ?_, ?_⟩
  · unfold AL
    rw [if_neg (by omega), if_neg (by omega), if_neg (by omega), if_neg (by omega), if_pos ⟨rfl, by omega, by omega⟩]
  · unfold AL
    rw [if_neg (by omega), if_neg (by omega), if_neg (by omega), if_neg (by omega), if_neg (by omega), if_pos ⟨rfl, by omega, by omega⟩, show 64 + o - 64 - σ 0 5 = o - σ 0 5 by omega]
  · unfold AL
    rw [if_pos ⟨rfl, by omega, by omega⟩]
  · unfold AL
    rw [if_neg (by omega), if_pos ⟨rfl, by omega, by omega⟩]
  · unfold AL
    rw [if_neg (by omega), if_neg (by omega), if_pos ⟨rfl, by omega, by omega⟩]
  · unfold AL
    rw [if_neg (by omega), if_neg (by omega), if_neg (by omega), if_pos ⟨rfl, by omega, by omega⟩]
/-- the ranges of what came -/
theorem AL_w (hr : RO σ) (hK : σ 0 5 + K ≤ 24) (hL : ∀ i, i < K → 0 ≤ lnA σ i) : ∀ o, σ 0 5 ≤ o → o < 24 → (0 ≤ AL σ K 1 (40 + o) ∧ AL σ K 1 (40 + o) ≤ 2) ∧ (0 ≤ AL σ K 1 (64 + o) ∧ AL σ K 1 (64 + o) ≤ 11) ∧ (0 ≤ AL σ K 2 o ∧ AL σ K 2 o ≤ 60) ∧ (0 ≤ AL σ K 3 o ∧ AL σ K 3 o ≤ 7) ∧ (0 ≤ AL σ K 4 o ∧ AL σ K 4 o ≤ 3) ∧ (0 ≤ AL σ K 5 o ∧ AL σ K 5 o ≤ 9) := by
  intro o x y
  obtain ⟨hn, ⟨p1, p2, p3, p4⟩, r2, r3, r4, r5⟩ := hr
  by_cases z : o < σ 0 5 + K
  · obtain ⟨e1, e2, e3, e4, e5, e6⟩ := AL_nw ⟨hn.1, hK⟩ ⟨x, z⟩
    have h0 := hL (o - σ 0 5).toNat (by omega)
    obtain ⟨v1, v2, v3, v4, v5⟩ := lnT_v (tp := σ 12) (z := σ 0 18) (q := pos (σ 12) (σ 0 18) (o - σ 0 5).toNat) h0
    rw [e1, e2, e3, e4, e5, e6]
    unfold lnX
    exact ⟨by omega, v3, ⟨by omega, v1.2⟩, v2, v4, v5⟩
  · rw [AL_n1 (b := 40 + o) (by omega) (by omega), AL_n1 (b := 64 + o) (by omega) (by omega), AL_n2 (by omega) (by omega), AL_n2 (by omega) (by omega), AL_n2 (by omega) (by omega), AL_n2 (by omega) (by omega)]
    exact ⟨p3 _ (by omega) (by omega), p4 _ (by omega) (by omega), r2 o (by omega) y, r3 o (by omega) y, r4 o (by omega) y, r5 o (by omega) y⟩
end ALs

set_option maxHeartbeats 4000000 in
theorem s_orders {σ σ1 σ2 : St} {x y : Int} (h : INV σ) (hx : ((fun x σ2 => ∃ (J : Nat) (ρ1 : St), (∀ i, i < J → conN (σ 90) (σ 89 1) (σ 83 5) i) ∧ BF σ ρ1 (σ 83 5) ∧ ((OKN (σ 90) (σ 89 1) (σ 83 5) J ∧ x = σ 83 5 + J + 1 ∧ STO σ ρ1 (σ 83 5) (J + 1) ∧ σ2 = ASK (put (put ρ1 83 5 (σ 83 5 + J + 1)) 89 1 0) (σ 83 5) (σ 83 5 + J + 1)) ∨ (∃ F, FLN (σ 90) (σ 89 1) (σ 83 5) J F ∧ x = -100 - F ∧ σ2 = put ρ1 89 1 0)))) x σ1) (hy : ((fun x σ2 => ∃ J τ, (∀ i, i < J → cont σ1 i) ∧ ((OKT σ1 J ∧ x = σ1 0 5 + J + 1 ∧ σ2 = SC (put (AL σ1 (J + 1)) 0 18 0) τ) ∨ (∃ (F : Int) (J9 : Nat), FLT σ1 J F ∧ σ1 0 5 + J9 ≤ 24 ∧ (J9 = J ∨ (J9 = J + 1 ∧ 0 ≤ lnA σ1 J)) ∧ x = -100 - F ∧ σ2 = SC (put (put (AL σ1 J9) 0 18 0) 0 5 (σ1 0 5)) τ)))) y σ2) : x = y ∧ INV σ2 := by
  obtain ⟨J, ρ1, hc, hB, hx⟩ := hx
  obtain ⟨J', τ, hc', hy⟩ := hy
  obtain ⟨t1, t2, t3, t4⟩ := h.2.1
  have hnw := I_nw h
  have hro := I_ro h
  have hn := hnw.1
  have hn24 := hro.1
  have hch : ch (σ 90) (σ 0 18) = ch (σ 12) (σ 0 18) := by
    funext q
    unfold ch
    by_cases z : 0 ≤ q ∧ q < σ 0 18
    · rw [if_pos z, if_pos z]; exact t3 q z.1 z.2
    · rw [if_neg z, if_neg z]
  have hlp := lnP_c hch
  rw [t1, hn] at hc
  rw [t1, hn] at hx
  rw [hn] at hB
  have hc2 : ∀ i, i < J → cont σ i := fun i a => by
    have := hc i a
    unfold conN at this
    rw [hlp, hch] at this
    exact this
  have hR : ∀ (a : Nat) (b : Int), a < 82 → σ1 a b = σ a b := fun a b z => by
    rcases hx with ⟨_, _, _, e⟩ | ⟨F, _, _, e⟩
    · rw [e]
      unfold ASK
      rw [if_neg (by omega), if_neg (by omega), put_i (by omega), put_i (by omega)]
      exact hB a b (by omega) (by omega)
    · rw [e, put_i (by omega)]
      exact hB a b (by omega) (by omega)
  have r12 : σ1 12 = σ 12 := funext fun b => hR 12 b (by decide)
  have r18 : σ1 0 18 = σ 0 18 := hR 0 18 (by decide)
  have r5 : σ1 0 5 = σ 0 5 := hR 0 5 (by decide)
  have eA : lnA σ1 = lnA σ := by
    funext i
    unfold lnA
    rw [r12, r18]
  have eC : cont σ1 = cont σ := by
    funext i
    unfold cont
    rw [eA]
    unfold lnE
    rw [r12, r18, r5]
  have eO : OKT σ1 = OKT σ := by
    funext i
    unfold OKT
    rw [eA]
    unfold lnE
    rw [r12, r18, r5]
  have eF : FLT σ1 = FLT σ := by
    funext i F
    unfold FLT
    rw [eA]
    unfold lnE
    rw [r12, r18, r5]
  have eL : ∀ v, lnX σ1 v = lnP (σ 12) (σ 0 18) v.toNat := fun v => by
    unfold lnX
    rw [r12, r18]
    rfl
  rw [eC] at hc'
  rw [eO, eF, eA, r5] at hy
  have hro1 : RO σ1 := RO_R hro (fun a b _ z => hR a b z)
  have gO : OKN (σ 90) (σ 0 18) (σ 0 5) J → OKT σ J := fun u => by
    unfold OKN at u
    rw [hlp] at u
    exact u
  have gF : ∀ F, FLN (σ 90) (σ 0 18) (σ 0 5) J F → FLT σ J F := fun F u => by
    unfold FLN at u
    rw [hlp, hch, pos_c hch] at u
    exact u
  have stX : OKT σ J ∨ ∃ F, FLT σ J F := by
    rcases hx with ⟨u, _⟩ | ⟨F, u, _⟩
    · exact Or.inl (gO u)
    · exact Or.inr ⟨F, gF F u⟩
  have stY : OKT σ J' ∨ ∃ F, FLT σ J' F := by
    rcases hy with ⟨u, _⟩ | ⟨F, J9, u, _⟩
    · exact Or.inl u
    · exact Or.inr ⟨F, u⟩
  have hJ : J = J' := by
    rcases Nat.lt_trichotomy J J' with u | u | u
    · exfalso
      rcases stX with v | ⟨F, v⟩
      · exact cO_u (hc' J u) v
      · exact cF_u (hc' J u) v
    · exact u
    · exfalso
      rcases stY with v | ⟨F, v⟩
      · exact cO_u (hc2 J' u) v
      · exact cF_u (hc2 J' u) v
  subst hJ
  have sc : ∀ i, i < J → 0 ≤ lnA σ i := fun i a => (hc2 i a).1
  rcases hx with ⟨k1, kx, ks, e⟩ | ⟨F, k1, kx, e⟩
  · rcases hy with ⟨l1, ly, e2⟩ | ⟨F, J9, l1, _⟩
    · refine ⟨by omega, ?_⟩
      rw [e2]
      refine INV_EQ ?_ EQ_SC
      have hl1 := l1.1
      have hK : σ1 0 5 + ((J + 1 : Nat) : Int) ≤ 24 := by omega
      have hLv : ∀ i, i < J + 1 → 0 ≤ lnA σ1 i := fun i a => by
        rw [eA]
        rcases Nat.lt_or_ge i J with z | z
        · exact sc i z
        · rw [show i = J by omega]; exact l1.2.1
      obtain ⟨m, hm⟩ : ∃ m, σ 0 5 + (J : Int) + 1 = m := ⟨_, rfl⟩
      have hm2 : σ1 0 5 + ((J + 1 : Nat) : Int) = m := by omega
      rw [hm] at e
      have sh : ∀ (a : Nat) (b : Int), 82 ≤ a → ¬ ((a = 111 ∨ a = 112) ∧ σ 0 5 ≤ b ∧ b < m) → ¬ (a = 83 ∧ b = 5) → ¬ (a = 89 ∧ b = 1) → σ1 a b = ρ1 a b := fun a b z u v w => by
        rw [e]
        unfold ASK
        rw [if_neg (by omega), if_neg (by omega), put_q w, put_q v]
      have s83 : σ1 83 5 = m := by
        rw [e]
        unfold ASK
        rw [if_neg (by omega), if_neg (by omega), put_i (by decide), put_s]
      have s89 : σ1 89 1 = 0 := by
        rw [e]
        unfold ASK
        rw [if_neg (by omega), if_neg (by omega), put_s]
      have s111 : ∀ o, σ 0 5 ≤ o → o < m → σ1 111 o = 0 := fun o u v => by
        rw [e]
        unfold ASK
        rw [if_pos ⟨rfl, u, v⟩]
      have s112 : ∀ o, σ 0 5 ≤ o → o < m → σ1 112 o = ρ1 86 o := fun o u v => by
        rw [e]
        unfold ASK
        rw [if_neg (by omega), if_pos ⟨rfl, u, v⟩, put_i (by decide), put_i (by decide)]
      have hst : ∀ o, σ 0 5 ≤ o → o < m → ρ1 84 o = (lnX σ1 (o - σ1 0 5)).1 ∧ ρ1 85 o = (lnX σ1 (o - σ1 0 5)).2.1 ∧ ρ1 86 o = (lnX σ1 (o - σ1 0 5)).2.2.1 ∧ ρ1 87 o = (lnX σ1 (o - σ1 0 5)).2.2.2.1 ∧ ρ1 88 o = (lnX σ1 (o - σ1 0 5)).2.2.2.2.1 := fun o u v => by
        have h9 := ks (o - σ 0 5).toNat (by omega)
        rw [show σ 0 5 + ((o - σ 0 5).toNat : Int) = o by omega, t1, hlp] at h9
        rw [r5, eL]
        exact h9
      have hi : ∀ (a : Nat) (b : Int), 6 ≤ a → put (AL σ1 (J + 1)) 0 18 0 a b = σ1 a b := fun a b z => by rw [put_i (by omega), AL_hi z]
      have h1 : ∀ (a : Nat) (b : Int), a ≠ 0 → put (AL σ1 (J + 1)) 0 18 0 a b = AL σ1 (J + 1) a b := fun a b z => put_i z
      have al1 : ∀ b, ¬ (40 + σ 0 5 ≤ b ∧ b < 64) → ¬ (64 + σ 0 5 ≤ b ∧ b < 88) → AL σ1 (J + 1) 1 b = σ1 1 b := fun b u v => AL_n1 (by omega) (by omega)
      refine INV_o (m := m) h (by omega) ⟨?_, ?_, ?_, ?_, put_s, ?_, ?_⟩ (fun b u v => ?_) (fun a b u v => ?_) (fun a u => funext fun b => ?_) (fun a b u v => ?_) (fun o u v => ?_) (fun o u v => ?_)
      · rw [put_k (by decide), AL_5]; exact hm2
      · rw [put_k (by decide), AL_z (by decide)]; exact hR 0 10 (by decide)
      · rw [put_k (by decide), AL_z (by decide)]; exact hR 0 11 (by decide)
      · rw [put_k (by decide), AL_z (by decide)]; exact hR 0 13 (by decide)
      · rw [hi 83 5 (by decide)]; exact s83
      · rw [hi 89 1 (by decide)]; exact s89
      · rw [h1 1 b (by decide), al1 b u v]; exact hR 1 b (by decide)
      · rw [h1 a b (by omega), AL_n2 u (by omega)]; exact hR a b (by omega)
      · rw [hi a b (by omega)]
        by_cases z : a < 82
        · exact hR a b z
        · rw [sh a b (by omega) (by omega) (by omega) (by omega)]
          exact hB a b (by omega) (by omega)
      · rw [hi a b (by omega), sh a b (by omega) (by omega) (by omega) (by omega)]
        exact hB a b (by omega) (by omega)
      · rw [h1 1 _ (by decide), h1 1 _ (by decide), h1 2 _ (by decide), h1 3 _ (by decide), h1 4 _ (by decide), h1 5 _ (by decide)]
        exact AL_w hro1 hK hLv o (by omega) v
      · rw [h1 1 _ (by decide), h1 1 _ (by decide), h1 2 _ (by decide), h1 3 _ (by decide), h1 4 _ (by decide), h1 5 _ (by decide), hi 111 _ (by decide), hi 112 _ (by decide), hi 84 _ (by decide), hi 85 _ (by decide), hi 86 _ (by decide), hi 87 _ (by decide), hi 88 _ (by decide)]
        obtain ⟨w1, w2, w3, w4, w5, w6⟩ := AL_nw (σ := σ1) (K := J + 1) ⟨by omega, hK⟩ (o := o) (by omega)
        obtain ⟨g1, g2, g3, g4, g5⟩ := hst o u v
        have hv := lnT_v (tp := σ1 12) (z := σ1 0 18) (q := pos (σ1 12) (σ1 0 18) (o - σ1 0 5).toNat) (hLv (o - σ1 0 5).toNat (by omega))
        rw [w1, w2, w3, w4, w5, w6, s111 o u v, s112 o u v, sh 84 o (by decide) (by omega) (by omega) (by omega), sh 85 o (by decide) (by omega) (by omega) (by omega), sh 86 o (by decide) (by omega) (by omega) (by omega), sh 87 o (by decide) (by omega) (by omega) (by omega), sh 88 o (by decide) (by omega) (by omega) (by omega), g1, g2, g3, g4, g5]
        exact ⟨rfl, rfl, rfl, rfl, rfl, rfl, rfl, rfl, hv.1.1⟩
    · exact absurd l1 (OF_u (gO k1))
  · have k2 := gF F k1
    rcases hy with ⟨l1, _⟩ | ⟨F', J9, l1, l2, l3, ly, e2⟩
    · exact absurd k2 (OF_u l1)
    · have hF := FF_u k2 l1
      refine ⟨by omega, ?_⟩
      rw [e2]
      refine INV_EQ ?_ EQ_SC
      have hK : σ1 0 5 + (J9 : Int) ≤ 24 := by omega
      have hLv : ∀ i, i < J9 → 0 ≤ lnA σ1 i := fun i a => by
        rw [eA]
        rcases Nat.lt_or_ge i J with z | z
        · exact sc i z
        · rcases l3 with l3 | l3
          · omega
          · rw [show i = J by omega]; exact l3.2
      have sh : ∀ (a : Nat) (b : Int), ¬ (a = 89 ∧ b = 1) → σ1 a b = ρ1 a b := fun a b w => by rw [e, put_q w]
      have s89 : σ1 89 1 = 0 := by rw [e, put_s]
      have hi : ∀ (a : Nat) (b : Int), 6 ≤ a → put (put (AL σ1 J9) 0 18 0) 0 5 (σ 0 5) a b = σ1 a b := fun a b z => by rw [put_i (by omega), put_i (by omega), AL_hi z]
      have h1 : ∀ (a : Nat) (b : Int), a ≠ 0 → put (put (AL σ1 J9) 0 18 0) 0 5 (σ 0 5) a b = AL σ1 J9 a b := fun a b z => by rw [put_i z, put_i z]
      have al1 : ∀ b, ¬ (40 + σ 0 5 ≤ b ∧ b < 64) → ¬ (64 + σ 0 5 ≤ b ∧ b < 88) → AL σ1 J9 1 b = σ1 1 b := fun b u v => AL_n1 (by omega) (by omega)
      refine INV_o (m := σ 0 5) h (by omega) ⟨put_s, ?_, ?_, ?_, ?_, ?_, ?_⟩ (fun b u v => ?_) (fun a b u v => ?_) (fun a u => funext fun b => ?_) (fun a b u v => ?_) (fun o u v => ?_) (fun o u v => by omega)
      · rw [put_k (by decide), put_k (by decide), AL_z (by decide)]; exact hR 0 10 (by decide)
      · rw [put_k (by decide), put_k (by decide), AL_z (by decide)]; exact hR 0 11 (by decide)
      · rw [put_k (by decide), put_k (by decide), AL_z (by decide)]; exact hR 0 13 (by decide)
      · rw [put_k (by decide), put_s]
      · rw [hi 83 5 (by decide), sh 83 5 (by omega), hB 83 5 (by omega) (by omega)]; exact hn
      · rw [hi 89 1 (by decide)]; exact s89
      · rw [h1 1 b (by decide), al1 b u v]; exact hR 1 b (by decide)
      · rw [h1 a b (by omega), AL_n2 u (by omega)]; exact hR a b (by omega)
      · rw [hi a b (by omega)]
        by_cases z : a < 82
        · exact hR a b z
        · rw [sh a b (by omega)]
          exact hB a b (by omega) (by omega)
      · rw [hi a b (by omega), sh a b (by omega)]
        exact hB a b (by omega) (by omega)
      · rw [h1 1 _ (by decide), h1 1 _ (by decide), h1 2 _ (by decide), h1 3 _ (by decide), h1 4 _ (by decide), h1 5 _ (by decide)]
        exact AL_w hro1 hK hLv o (by omega) v
