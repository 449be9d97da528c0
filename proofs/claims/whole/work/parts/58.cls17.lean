/-- the i-th line of a tape -/
noncomputable def lnP (tp : Int → Int) (z : Int) (i : Nat) : Int × Int × Int × Int × Int × Int := lnT tp z (pos tp z i)
def conN (tp : Int → Int) (z n : Int) (i : Nat) : Prop := 0 ≤ (lnP tp z i).1 ∧ (lnP tp z i).2.2.2.2.2 ≠ z ∧ ch tp z (lnP tp z i).2.2.2.2.2 = 59 ∧ n + i < 24
def OKN (tp : Int → Int) (z n : Int) (J : Nat) : Prop := n + J < 24 ∧ 0 ≤ (lnP tp z J).1 ∧ (lnP tp z J).2.2.2.2.2 = z
def FLN (tp : Int → Int) (z n : Int) (J : Nat) (F : Int) : Prop := (n + J = 24 ∧ F = pos tp z J) ∨ (n + J < 24 ∧ (lnP tp z J).1 < 0 ∧ F = (lnP tp z J).2.2.2.2.2) ∨ (n + J < 24 ∧ 0 ≤ (lnP tp z J).1 ∧ (lnP tp z J).2.2.2.2.2 ≠ z ∧ ch tp z (lnP tp z J).2.2.2.2.2 ≠ 59 ∧ F = (lnP tp z J).2.2.2.2.2)
/-- the first lines stand in the book -/
def STO (σ ρ : St) (n : Int) (j : Nat) : Prop := ∀ i : Nat, i < j → ρ 84 (n + i) = (lnP (σ 90) (σ 89 1) i).1 ∧ ρ 85 (n + i) = (lnP (σ 90) (σ 89 1) i).2.1 ∧ ρ 86 (n + i) = (lnP (σ 90) (σ 89 1) i).2.2.1 ∧ ρ 87 (n + i) = (lnP (σ 90) (σ 89 1) i).2.2.2.1 ∧ ρ 88 (n + i) = (lnP (σ 90) (σ 89 1) i).2.2.2.2.1
/-- all but the book behind its size, and the tape's place and fault -/
def BF (σ ρ : St) (n : Int) : Prop := ∀ a b, ¬ (a = 89 ∧ (b = 2 ∨ b = 3)) → ¬ ((84 ≤ a ∧ a ≤ 88) ∧ n ≤ b) → ρ a b = σ a b
theorem BF_r {σ ρ : St} {n : Int} (h : BF σ ρ n) : ρ 90 = σ 90 ∧ ρ 89 1 = σ 89 1 ∧ ρ 83 5 = σ 83 5 := ⟨funext fun b => h 90 b (by omega) (by omega), h 89 1 (by omega) (by omega), h 83 5 (by omega) (by omega)⟩
theorem BF_AG {σ ρ τ : St} {n k : Int} (h : BF σ ρ n) (h2 : AG ρ τ k) (hk : n ≤ k) : BF σ τ n := fun a b x y => (h2 a b x (fun z => y ⟨⟨z.1, z.2.1⟩, by omega⟩)).trans (h a b x y)
theorem BF_2 {σ ρ : St} {n v : Int} (h : BF σ ρ n) : BF σ (put ρ 89 2 v) n := fun a b x y => (put_q (by omega)).trans (h a b x y)
theorem BF_3 {σ ρ : St} {n v : Int} (h : BF σ ρ n) : BF σ (put ρ 89 3 v) n := fun a b x y => (put_q (by omega)).trans (h a b x y)
theorem STO_s {σ ρ τ : St} {n k : Int} {j : Nat} (h : STO σ ρ n j) (ha : AG ρ τ k) (hk : k = n + j) (h2 : τ 84 k = (lnP (σ 90) (σ 89 1) j).1 ∧ τ 85 k = (lnP (σ 90) (σ 89 1) j).2.1 ∧ τ 86 k = (lnP (σ 90) (σ 89 1) j).2.2.1 ∧ τ 87 k = (lnP (σ 90) (σ 89 1) j).2.2.2.1 ∧ τ 88 k = (lnP (σ 90) (σ 89 1) j).2.2.2.2.1) : STO σ τ n (j + 1) := by
  intro i hi
  by_cases e : i = j
  · subst e
    rw [hk] at h2
    exact h2
  · have hij : i < j := by omega
    obtain ⟨a1, a2, a3, a4, a5⟩ := h i hij
    have q : ∀ c : Nat, τ c (n + i) = ρ c (n + i) ∨ ¬ (84 ≤ c ∧ c ≤ 88) := fun c => by
      by_cases y : 84 ≤ c ∧ c ≤ 88
      · exact Or.inl (ha c _ (by omega) (by omega))
      · exact Or.inr y
    refine ⟨?_, ?_, ?_, ?_, ?_⟩
    · rw [(q 84).resolve_right (by omega)]; exact a1
    · rw [(q 85).resolve_right (by omega)]; exact a2
    · rw [(q 86).resolve_right (by omega)]; exact a3
    · rw [(q 87).resolve_right (by omega)]; exact a4
    · rw [(q 88).resolve_right (by omega)]; exact a5
theorem STO_p {σ ρ : St} {n v : Int} {j a : Nat} {b : Int} (h : STO σ ρ n j) (ha : ¬ (84 ≤ a ∧ a ≤ 88)) : STO σ (put ρ a b v) n j := by
  intro i hi
  obtain ⟨a1, a2, a3, a4, a5⟩ := h i hi
  exact ⟨(put_i (by omega)).trans a1, (put_i (by omega)).trans a2, (put_i (by omega)).trans a3, (put_i (by omega)).trans a4, (put_i (by omega)).trans a5⟩
/-- what reading texts leaves -/
def RI (σ : St) (x : Int) (ρ : St) : Prop := ∃ (J : Nat) (ρ1 : St), (∀ i, i < J → conN (σ 90) (σ 89 1) (σ 83 5) i) ∧ BF σ ρ1 (σ 83 5) ∧ ((OKN (σ 90) (σ 89 1) (σ 83 5) J ∧ x = -1 ∧ STO σ ρ1 (σ 83 5) (J + 1) ∧ ρ = put ρ1 83 5 (σ 83 5 + J + 1)) ∨ (FLN (σ 90) (σ 89 1) (σ 83 5) J x ∧ 0 ≤ x ∧ x ≤ 100 ∧ ρ = ρ1))

theorem hyVX7_readInto : yX7_readInto.cls = RX7 ∧ yX7_readInto.cls ≠ "java/lang/invoke/MethodHandle" ∧ yX7_readInto.cls ≠ "java/lang/invoke/VarHandle" ∧ (parseMethodDescriptor yX7_readInto.desc).map (fun d => d.parameters.length) = some 1 := by decide +kernel
theorem uX7_readInto_X7 : ∀ w ∈ u_ws RX7 TX7 4, w ∈ wsX7_readInto := by decide +kernel
theorem fX7_readInto_23 : Cond.fieldLink RX7 23 (TX7 2).1 (TX7 2).2.1 (TX7 2).2.2.1 ∈ wsX7_readInto := by decide +kernel
theorem fX7_readInto_26 : Cond.fieldLink RX7 26 (TX7 3).1 (TX7 3).2.1 (TX7 3).2.2.1 ∈ wsX7_readInto := by decide +kernel
theorem fX7_readInto_15 : Cond.fieldLink RX7 15 (TX7 1).1 (TX7 1).2.1 (TX7 1).2.2.1 ∈ wsX7_readInto := by decide +kernel
theorem uX7_readInto_X0 : ∀ w ∈ u_ws RX0 TX0 6, w ∈ wsX7_readInto := by decide +kernel
theorem fnX7_29 : Cond.fieldLinkNest RX7 29 (TX0 5).1 (TX0 5).2.1 (TX0 5).2.2.1 "PromiseMind" ∈ tables_1 := List.mem_of_getElem? (i := 59) (by decide +kernel)
set_option maxHeartbeats 16000000 in
set_option maxRecDepth 100000 in
theorem c_X7_readInto {l : Launch} {G : Gy} (hG : Inj G) (σ : St) (hn : 0 ≤ σ 83 5 ∧ σ 83 5 ≤ 24) (hz : 0 ≤ σ 89 1 ∧ σ 89 1 ≤ 100) (hs : ∀ k, 0 ≤ k → k < 100 → 0 ≤ σ 90 k ∧ σ 90 k ≤ 126) : MI l yX7_readInto wsX7_readInto ({ frames := 4, cells := 0, slots := 0, locals := 86 } : Room) G [.ref (G.2.2 89), .ref (G.2.2 83)] σ (RI σ) := by
  refine MI.of hG (by decide +kernel) rfl rfl (Nat.le_of_ble_eq_true rfl) rfl ?_
  intro p e s m args below meth c H0 Q hC hret
  obtain ⟨n0, hne⟩ : ∃ n0, σ 83 5 = n0 := ⟨_, rfl⟩
  rw [hne] at hn
  have L15 : ∀ (n : Nat) (j : Nat) (ρ : St), (24 - j) = n → (BF σ ρ n0) → (∀ i, i < j → conN (σ 90) (σ 89 1) n0 i) → (STO σ ρ n0 j) → (ρ 89 3 = -1) → (ρ 89 2 = pos (σ 90) (σ 89 1) j ∧ 0 ≤ pos (σ 90) (σ 89 1) j ∧ pos (σ 90) (σ 89 1) j ≤ σ 89 1) → (n0 + j ≤ 24) → wp p l e ({ frames := 4, cells := 0, slots := 0, locals := 86 } : Room) s m args below meth c (aA G (Array.size H0)) H0 3 Q G ρ 15 [(0, .ref (G.2.2 89)), (1, .ref (G.2.2 83)), (2, .int (zI (n0 + (j : Int))))] [] := by
    intro n15
    induction n15 using Nat.strongRecOn with
    | ind n15 ih =>
      intro j ρ hm15 hb hc hst hf hp h1
      obtain ⟨r90, r89, r83⟩ := BF_r hb
      refine wp_iload_n hC dX7_readInto_15 rfl ?_
      refine wp_bipush hC dX7_readInto_16 rfl ?_
      refine wp_icmp_ge (tgt := 79) hC dX7_readInto_18 (by decide) (by omega) (by omega) (fun c_18 => ?_) (fun c_18 => ?_)
      · refine wp_aload_n hC dX7_readInto_79 rfl ?_
        refine wp_geti (k := 2) (z := 2) hC rfl (rfl) (by decide) (rfl) (rfl) (by decide) uX7_readInto_X7 fX7_readInto_23 (rfl) dX7_readInto_80 ?_
        refine wp_top (b := pos (σ 90) (σ 89 1) j) hp.1 ?_
        exact hret _ _ _ _ (by omega) rfl (⟨j, ρ, by rw [hne]; exact hc, by rw [hne]; exact hb, Or.inr ⟨Or.inl ⟨by rw [hne]; omega, rfl⟩, hp.2.1, by omega, rfl⟩⟩) dX7_readInto_83
      · refine wp_aload_n hC dX7_readInto_21 rfl ?_
        refine wp_aload_n hC dX7_readInto_22 rfl ?_
        refine wp_iload_n hC dX7_readInto_23 rfl ?_
        refine wp_callVv (As := [_, _]) hC (c_X7_readLine hG ρ (k := n0 + (j : Int)) (by omega) hf (by rw [r89]; exact hz) (by rw [hp.1, r89]; exact hp.2) (by rw [r90]; exact hs)) gX7_readInto_X7_readLine rfl ⟨rfl, rfl⟩ ⟨by decide, by decide⟩ hyVX7_readLine (rfl) (by decide) (rfl) rfl (Nat.le_of_ble_eq_true rfl) dX7_readInto_24 (fun s_24 hp_24 => ?_)
        obtain ⟨hag, am, it, la, gr, rk, e9, hln, hres⟩ := hp_24
        rw [r90, r89, hp.1] at hln
        obtain ⟨kA, kE, kR⟩ := lnT_of hln
        have kA : (lnP (σ 90) (σ 89 1) j).1 = am := kA
        have kE : (lnP (σ 90) (σ 89 1) j).2.2.2.2.2 = e9 := kE
        have HE := LNF_e hp.2 hln
        have hb1 : BF σ s_24 n0 := BF_AG hb hag (by omega)
        obtain ⟨r90', r89', r83'⟩ := BF_r hb1
        have hi3 : iR (s_24 89 3) := by clear hb hb1 hst hc kR hln; rcases hres with q | q <;> omega
        have hkR : 0 ≤ am → STO σ s_24 n0 (j + 1) := fun z => by
          rcases hres with q | q
          · exact absurd q.1 (by omega)
          · obtain ⟨c1, c2, c3, c4⟩ := kR z
            have c1 : (lnP (σ 90) (σ 89 1) j).2.1 = it := c1
            have c2 : (lnP (σ 90) (σ 89 1) j).2.2.1 = la := c2
            have c3 : (lnP (σ 90) (σ 89 1) j).2.2.2.1 = gr := c3
            have c4 : (lnP (σ 90) (σ 89 1) j).2.2.2.2.1 = rk := c4
            exact STO_s hst hag rfl ⟨by rw [kA]; exact q.2.2.2.1, by rw [c1]; exact q.2.2.2.2.1, by rw [c2]; exact q.2.2.2.2.2.1, by rw [c3]; exact q.2.2.2.2.2.2.1, by rw [c4]; exact q.2.2.2.2.2.2.2⟩
        clear hln kR
        refine wp_aload_n hC dX7_readInto_27 rfl ?_
        refine wp_geti (k := 3) (z := 3) hC rfl (rfl) (by decide) (rfl) (rfl) (by decide) uX7_readInto_X7 fX7_readInto_26 (rfl) dX7_readInto_28 ?_
        refine wp_if_lt (tgt := 39) hC dX7_readInto_31 (by decide) (by omega) (fun c_31 => ?_) (fun c_31 => ?_)
        · have kok : 0 ≤ am ∧ s_24 89 3 = -1 ∧ s_24 89 2 = e9 := by
            rcases hres with q | q
            · have := q.2; omega
            · exact ⟨q.1, q.2.1, q.2.2.1⟩
          have hst1 := hkR kok.1
          clear hres
          refine wp_aload_n hC dX7_readInto_39 rfl ?_
          refine wp_geti (k := 2) (z := 2) hC rfl (rfl) (by decide) (rfl) (rfl) (by decide) uX7_readInto_X7 fX7_readInto_23 (rfl) dX7_readInto_40 ?_
          refine wp_top (b := e9) kok.2.2 ?_
          refine wp_aload_n hC dX7_readInto_43 rfl ?_
          refine wp_geti (k := 1) (z := 1) hC rfl (rfl) (by decide) (rfl) (rfl) (by decide) uX7_readInto_X7 fX7_readInto_15 (rfl) dX7_readInto_44 ?_
          refine wp_top (b := σ 89 1) r89' ?_
          refine wp_icmp_lt (tgt := 59) hC dX7_readInto_47 (by decide) (by omega) (by omega) (fun c_47 => ?_) (fun c_47 => ?_)
          · refine wp_aload_n hC dX7_readInto_59 rfl ?_
            refine wp_bipush hC dX7_readInto_60 rfl ?_
            refine wp_callVi (As := [_]) hC (c_X7_skip hG s_24 (c1 := 59) (by omega) (by rw [r89']; exact hz) (by omega) (by rw [r90']; exact hs)) gX7_readInto_X7_skip rfl ⟨rfl, rfl⟩ ⟨by decide, by decide⟩ hyVX7_skip (rfl) (by decide) (rfl) rfl (Nat.le_of_ble_eq_true rfl) dX7_readInto_62 (fun x_62 s_62 hx_62 hp_62 => ?_)
            have ec : cx s_24 (s_24 89 2) = ch (σ 90) (σ 89 1) e9 := by unfold cx; rw [r90', r89', kok.2.2]
            rw [ec] at hp_62
            refine wp_if_ne (tgt := 73) hC dX7_readInto_65 (by decide) (by clear hb hb1 hst hc hst1 hkR; rcases hp_62 with q | q <;> omega) (fun c_65 => ?_) (fun c_65 => ?_)
            · have k62 : ch (σ 90) (σ 89 1) e9 = 59 ∧ s_62 = put s_24 89 2 (s_24 89 2 + 1) := by
                rcases hp_62 with q | q
                · exact ⟨q.1, q.2.2⟩
                · exact absurd q.2.1 (by omega)
              obtain ⟨k62, rfl⟩ := k62
              have hci := ch_in (tp := σ 90) (z := σ 89 1) (q := e9) (by omega)
              refine wp_iinc (lv2 := [(0, _), (1, _), (2, _)]) hC dX7_readInto_73 rfl rfl (by decide) ?_
              refine wp_goto (tgt := 15) hC dX7_readInto_76 (by decide) ?_
              have e9' : n0 + (j : Int) + 1 = n0 + ((j + 1 : Nat) : Int) := by omega
              rw [e9']
              exact ih _ (by omega) (j + 1) _ rfl (BF_2 hb1) (fun i a => by
                rcases Nat.lt_or_ge i j with y | y
                · exact hc i y
                · rw [show i = j by omega]; exact ⟨by rw [kA]; exact kok.1, by rw [kE]; omega, by rw [kE]; exact k62, by omega⟩) (STO_p hst1 (by omega)) ((put_k (by decide)).trans kok.2.1) (by
                have e1 : pos (σ 90) (σ 89 1) (j + 1) = (lnP (σ 90) (σ 89 1) j).2.2.2.2.2 + 1 := rfl
                rw [e1, kE, put_s, kok.2.2]
                exact ⟨rfl, by omega, by omega⟩) (by omega)
            · have k62 : ch (σ 90) (σ 89 1) e9 ≠ 59 ∧ s_62 = s_24 := by
                rcases hp_62 with q | q
                · exact absurd q.2.1 (by omega)
                · exact ⟨q.1, q.2.2⟩
              obtain ⟨k62, rfl⟩ := k62
              refine wp_aload_n hC dX7_readInto_68 rfl ?_
              refine wp_geti (k := 2) (z := 2) hC rfl (rfl) (by decide) (rfl) (rfl) (by decide) uX7_readInto_X7 fX7_readInto_23 (rfl) dX7_readInto_69 ?_
              refine wp_top (b := e9) kok.2.2 ?_
              exact hret _ _ _ _ (by omega) rfl (⟨j, s_62, by rw [hne]; exact hc, by rw [hne]; exact hb1, Or.inr ⟨Or.inr (Or.inr ⟨by rw [hne]; omega, by rw [kA]; exact kok.1, by rw [kE]; omega, by rw [kE]; exact k62, kE.symm⟩), by omega, by omega, rfl⟩⟩) dX7_readInto_72
          · refine wp_aload_n hC dX7_readInto_50 rfl ?_
            refine wp_iload_n hC dX7_readInto_51 rfl ?_
            refine wp_iconst hC dX7_readInto_52 ?_
            refine wp_iadd hC dX7_readInto_53 ?_
            refine wp_putiN2 (k := 5) (z := 5) hC rfl (rfl) (by decide) (rfl) (rfl) (by decide) uX7_readInto_X0 fnX7_29 tyX0 tyX0_ok nmX0 rfl rfl (rfl) dX7_readInto_54 ?_
            refine wp_iconst hC dX7_readInto_57 ?_
            exact hret _ _ _ _ (by omega) rfl (⟨j, s_24, by rw [hne]; exact hc, by rw [hne]; exact hb1, Or.inl ⟨⟨by rw [hne]; omega, by rw [kA]; exact kok.1, by rw [kE]; omega⟩, rfl, by rw [hne]; exact hst1, by rw [hne]⟩⟩) dX7_readInto_58
        · have kbad : am < 0 ∧ s_24 89 3 = e9 := by
            rcases hres with q | q
            · exact q
            · exact absurd q.2.1 (by omega)
          refine wp_aload_n hC dX7_readInto_34 rfl ?_
          refine wp_geti (k := 3) (z := 3) hC rfl (rfl) (by decide) (rfl) (rfl) (by decide) uX7_readInto_X7 fX7_readInto_26 (rfl) dX7_readInto_35 ?_
          exact hret _ _ _ _ (hi3) rfl (⟨j, s_24, by rw [hne]; exact hc, by rw [hne]; exact hb1, Or.inr ⟨Or.inr (Or.inl ⟨by rw [hne]; omega, by rw [kA]; exact kbad.1, by rw [kE]; exact kbad.2⟩), by rw [kbad.2]; exact HE.1, by rw [kbad.2]; omega, rfl⟩⟩) dX7_readInto_38
  refine wp_aload_n hC dX7_readInto_0 rfl ?_
  refine wp_iconst hC dX7_readInto_1 ?_
  refine wp_puti2 (k := 2) (z := 2) hC rfl (rfl) (by decide) (rfl) (rfl) (by decide) uX7_readInto_X7 fX7_readInto_23 tyX7 tyX7_ok nmX7 rfl rfl (rfl) dX7_readInto_2 ?_
  refine wp_aload_n hC dX7_readInto_5 rfl ?_
  refine wp_iconst hC dX7_readInto_6 ?_
  refine wp_puti2 (k := 3) (z := 3) hC rfl (rfl) (by decide) (rfl) (rfl) (by decide) uX7_readInto_X7 fX7_readInto_26 tyX7 tyX7_ok nmX7 rfl rfl (rfl) dX7_readInto_7 ?_
  refine wp_aload_n hC dX7_readInto_10 rfl ?_
  refine wp_getiN (k := 5) (z := 5) hC rfl (rfl) (by decide) (rfl) (rfl) (by decide) uX7_readInto_X0 fnX7_29 (rfl) dX7_readInto_11 ?_
  refine wp_top (b := n0 + ((0 : Nat) : Int)) (by show σ 83 5 = n0 + 0; omega) ?_
  refine wp_istore_n (lv2 := [(0, _), (1, _), (2, _)]) hC dX7_readInto_14 rfl (by decide) ?_
  exact L15 _ 0 _ rfl (BF_3 (BF_2 (fun _ _ _ _ => rfl))) (fun i a => absurd a (Nat.not_lt_zero i)) (fun i a => absurd a (Nat.not_lt_zero i)) put_s ⟨(put_k (by decide)).trans put_s, Int.le_refl _, hz.1⟩ (by omega)
