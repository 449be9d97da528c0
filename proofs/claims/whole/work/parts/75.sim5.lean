theorem b_cnt {σ ρ : St} (h : NW σ ρ) (v : Int) {o : Int} (ho : o ≤ ρ 0 5) : cnt o (kdX σ v) = cnt o (kdB ρ v) := sm_c (fun q a b => by rw [b_kd h v a (by omega)])
theorem b_TK {σ ρ : St} (h : NW σ ρ) (hn : 0 ≤ ρ 0 5) (w : Int) : ∀ o, 0 ≤ o → o < ρ 0 5 → TKF σ w o = tb (TK ρ w) o := fun o a b => by
  unfold TK
  rw [tb_bs hn a, decide_eq_true b, Bool.true_and]
  unfold TKF TKf
  rw [b_kd h 0 a b, b_cnt h 0 (by omega)]
theorem b_FV {σ ρ : St} (h : NW σ ρ) (hn : 0 ≤ ρ 0 5) (w : Int) : FVX σ w = FV ρ w := b_am h (b_TK h hn w) _
theorem b_FC {σ ρ : St} (h : NW σ ρ) (hR : RO ρ) (w : Int) : FCX σ w ↔ FC ρ w := by
  have hn := hR.1
  have hp : ∀ o, 0 ≤ o → o < ρ 0 5 → (TKF σ w o || kdX σ 1 o) = tb (ior (TK ρ w) (TH ρ 1)) o := fun o a b => by
    rw [tb_ior (a := TK ρ w) (b := TH ρ 1) (bsI hn) (bsI hn), ← b_TK h hn.1 w o a b, ← b_tbT h hn.1 1 o a b]
  unfold FCX FC SHP
  refine and_congr ⟨fun z o a b c => ?_, fun z o a b c => ?_⟩ (b_MEX h hp)
  · have hg := hR.2.2.2.2.1 o a (by omega)
    have h1 := z o a (by rw [h.1]; exact b) (by rw [b_TK h hn.1 w o a b]; exact c)
    rw [(h.2.2.2 o a b).2.2.2.2.1, b_sh h hg.1 (by omega), b_am h hp] at h1
    exact h1
  · have b2 : o < ρ 0 5 := by rw [← h.1]; exact b
    have hg := hR.2.2.2.2.1 o a (by omega)
    rw [(h.2.2.2 o a b2).2.2.2.2.1, b_sh h hg.1 (by omega), b_am h hp]
    exact z o a b2 (by rw [← b_TK h hn.1 w o a b2]; exact c)

theorem s_filled {σ σ1 σ2 : St} {wh : Int} {x y : Int} (h : INV σ) (hx : ((fun x σ2 => (¬ (0 ≤ wh ∧ wh ≤ 1) ∧ x = -1 ∧ σ2 = σ) ∨ ((0 ≤ wh ∧ wh ≤ 1) ∧ 8 < pc (TX σ 0) ∧ x = -7 ∧ σ2 = σ) ∨ ((0 ≤ wh ∧ wh ≤ 1) ∧ pc (TX σ 0) ≤ 8 ∧ (∃ i m, FB (FCX σ) (FVX σ) (pw (pc (TX σ 0))) i m ∧ x = if wh = 0 then i else m) ∧ EQ σ2 σ))) x σ1) (hy : ((fun x σ2 => (¬ (0 ≤ wh ∧ wh ≤ 1) ∧ x = -1 ∧ σ2 = σ1) ∨ ((0 ≤ wh ∧ wh ≤ 1) ∧ 8 < pc (TH σ1 0) ∧ x = -7 ∧ σ2 = σ1) ∨ ((0 ≤ wh ∧ wh ≤ 1) ∧ pc (TH σ1 0) ≤ 8 ∧ (∃ i m, FB (FC σ1) (FV σ1) (pw (pc (TH σ1 0))) i m ∧ x = if wh = 0 then i else m) ∧ ∃ τ, σ2 = SC σ1 τ))) y σ2) : x = y ∧ INV σ2 := by
  rcases hx with ⟨a, b, e⟩ | ⟨a, a2, b, e⟩ | ⟨a, a2, ⟨i, m, hf, hv⟩, e1⟩
  · subst e
    rcases hy with ⟨c, d, e⟩ | ⟨c, _⟩ | ⟨c, _⟩
    · subst e; exact ⟨by omega, h⟩
    · exact absurd c a
    · exact absurd c a
  · subst e
    have hp := b_TX (I_nw h) 0
    rcases hy with ⟨c, _⟩ | ⟨c, c2, d, e⟩ | ⟨c, c2, _⟩
    · exact absurd a c
    · subst e; exact ⟨by omega, h⟩
    · rw [hp] at a2; omega
  · have hw := NW_E (I_nw h) EQK_0 (EQ_K e1)
    have h1 := INV_EQ h e1
    have hp := b_TX hw 0
    rcases hy with ⟨c, _⟩ | ⟨c, c2, _⟩ | ⟨c, c2, ⟨i2, m2, hf2, hv2⟩, τ, e9⟩
    · exact absurd a c
    · rw [hp] at a2; omega
    · subst e9
      refine ⟨?_, INV_EQ h1 EQ_SC⟩
      rw [hp] at hf
      obtain ⟨q1, q2⟩ := FB_u (fun k _ _ => ⟨b_FC hw (I_ro h1) k, b_FV hw (I_ro h1).1.1 k⟩) hf hf2
      rw [hv, hv2, q1, q2]

theorem FF_c {σ : St} {o s : Int} {c d : Int → Int} (h0 : c 0 = d 0) (h1 : c 1 = d 1) (h2 : c 2 = d 2) : FF σ o s c = FF σ o s d := by
  unfold FF DM SKc mxc
  rw [h0, h1, h2]
theorem ctd_c {σ : St} {o : Int} {c d : Int → Int} (h0 : c 0 = d 0) (h1 : c 1 = d 1) (h2 : c 2 = d 2) : ctd σ o c ↔ ctd σ o d := by
  unfold ctd
  rw [h0, h1, h2]
theorem b_sts {σ ρ : St} (h : NW σ ρ) {o : Int} (h0 : 0 ≤ o) (h1 : o < ρ 0 5) (i : Int) : sts ρ o i = FI (σ 85 o) (σ 112 o) i := by
  obtain ⟨_, e2, _, e4, _, _⟩ := h.2.2.2 o h0 h1
  unfold sts FI
  rw [e2, e4]
theorem cel3 {c : Int → Int} {k it : Int} (h0 : cel k 0 = c 0) (h1 : cel k 1 = c 1) (h2 : cel k 2 = c 2) (hi : 0 ≤ it ∧ it ≤ 2) : cel k it = c it := by
  rcases (show it = 0 ∨ it = 1 ∨ it = 2 by omega) with rfl | rfl | rfl
  · exact h0
  · exact h1
  · exact h2
/-- what is needed at a step, on both sides -/
theorem b_VN {σ ρ : St} (h : NW σ ρ) (hX : XO σ) (hn : 0 ≤ ρ 0 5) {o s k : Int} (ho : 0 ≤ o ∧ o < ρ 0 5) (hs : 0 ≤ s ∧ s < 36) (h0 : 0 ≤ k) (h1 : k < 2197) : FF ρ o s (cel k) = σ 84 o + σ 109 s + VND (LY σ (TX σ 1)) (FI (σ 85 o) (σ 112 o) 0) (FI (σ 85 o) (σ 112 o) 1) (FI (σ 85 o) (σ 112 o) 2) k := by
  have hn1 := h.1
  have r0 := FI_rng hX (o := o) ⟨ho.1, by omega⟩ 0
  have r1 := FI_rng hX (o := o) ⟨ho.1, by omega⟩ 1
  have r2 := FI_rng hX (o := o) ⟨ho.1, by omega⟩ 2
  have e92 : LY σ (TX σ 1) 92 k = LX σ (tb (TX σ 1)) k := RW_at ⟨h0, h1⟩
  have hd : DM ρ (cel k) = dm (σ 83 5) (σ 84) (σ 85) (σ 112) (tb (TX σ 1)) (k / 169) (k / 13 % 13) (k % 13) := (b_dm h (P := tb (TX σ 1)) (P' := kdB ρ 1) (fun q a b => by rw [b_TX h 1, tb_TH hn a, decide_eq_true b, Bool.true_and]) _ _ _).symm
  have hs3 : SKc (ρ 1) (mxc (cel k) (sts ρ o)) = sq (σ 109) 0 (max (k / 169) (FI (σ 85 o) (σ 112 o) 0)) + sq (σ 109) 1 (max (k / 13 % 13) (FI (σ 85 o) (σ 112 o) 1)) + sq (σ 109) 2 (max (k % 13) (FI (σ 85 o) (σ 112 o) 2)) := by
    rw [b_sq h (by omega) (by omega), b_sq h (by omega) (by omega), b_sq h (by omega) (by omega), ← b_sts h ho.1 ho.2, ← b_sts h ho.1 ho.2, ← b_sts h ho.1 ho.2]
    rfl
  have hv : VND (LY σ (TX σ 1)) (FI (σ 85 o) (σ 112 o) 0) (FI (σ 85 o) (σ 112 o) 1) (FI (σ 85 o) (σ 112 o) 2) k = (sq (σ 109) 0 (k / 169) + sq (σ 109) 1 (k / 13 % 13) + sq (σ 109) 2 (k % 13)) - LY σ (TX σ 1) 92 k - (sq (σ 109) 0 (max (k / 169) (FI (σ 85 o) (σ 112 o) 0)) + sq (σ 109) 1 (max (k / 13 % 13) (FI (σ 85 o) (σ 112 o) 1)) + sq (σ 109) 2 (max (k % 13) (FI (σ 85 o) (σ 112 o) 2))) := rfl
  rw [hv, e92]
  unfold FF
  rw [hd, hs3, (h.2.2.2 o ho.1 ho.2).2.2.1, h.2.1 s hs.1 hs.2]
  unfold LX LFT
  omega
theorem VN_0 {σ : St} (hX : XO σ) {o : Int} (ho : 0 ≤ o ∧ o < σ 83 5) : -(sq (σ 109) 0 12 + sq (σ 109) 1 12 + sq (σ 109) 2 12) ≤ VND (LY σ (TX σ 1)) (FI (σ 85 o) (σ 112 o) 0) (FI (σ 85 o) (σ 112 o) 1) (FI (σ 85 o) (σ 112 o) 2) 0 := by
  have r0 := FI_rng hX ho 0
  have r1 := FI_rng hX ho 1
  have r2 := FI_rng hX ho 2
  have e92 : LY σ (TX σ 1) 92 0 = LX σ (tb (TX σ 1)) 0 := RW_at ⟨by decide, by decide⟩
  have hm : ∀ i q, 0 ≤ i → i < 3 → 0 ≤ q → q ≤ 12 → sq (σ 109) i q ≤ sq (σ 109) i 12 := fun i q a b c d => sm_mono c d (fun k x y => (hX.2.1.1 _ (by omega) (by omega)).1)
  have m0 := hm 0 (max 0 (FI (σ 85 o) (σ 112 o) 0)) (by decide) (by decide) (by omega) (by omega)
  have m1 := hm 1 (max 0 (FI (σ 85 o) (σ 112 o) 1)) (by decide) (by decide) (by omega) (by omega)
  have m2 := hm 2 (max 0 (FI (σ 85 o) (σ 112 o) 2)) (by decide) (by decide) (by omega) (by omega)
  have hn := hX.1
  have hd := dm_rng (n := σ 83 5) (am := σ 84) (it := σ 85) (la := σ 112) (P := tb (TX σ 1)) (a := 0) (b := 0) (c := 0) hn.1 (fun o a b => (hX.2.2 o a b).2.2.1)
  have hv : VND (LY σ (TX σ 1)) (FI (σ 85 o) (σ 112 o) 0) (FI (σ 85 o) (σ 112 o) 1) (FI (σ 85 o) (σ 112 o) 2) 0 = (sq (σ 109) 0 0 + sq (σ 109) 1 0 + sq (σ 109) 2 0) - LY σ (TX σ 1) 92 0 - (sq (σ 109) 0 (max 0 (FI (σ 85 o) (σ 112 o) 0)) + sq (σ 109) 1 (max 0 (FI (σ 85 o) (σ 112 o) 1)) + sq (σ 109) 2 (max 0 (FI (σ 85 o) (σ 112 o) 2))) := rfl
  have hl : LX σ (tb (TX σ 1)) 0 = sq (σ 109) 0 0 + sq (σ 109) 1 0 + sq (σ 109) 2 0 - dm (σ 83 5) (σ 84) (σ 85) (σ 112) (tb (TX σ 1)) 0 0 0 := rfl
  rw [hv, e92, hl]
  omega

theorem s_range {σ σ1 σ2 : St} {o it p0 wh : Int} {x y : Int} (h : INV σ) (hx : ((fun x σ2 => RGX σ o it p0 wh x ∧ EQ σ2 σ)) x σ1) (hy : ((fun x σ2 => (∃ τ, σ2 = SC σ1 τ) ∧ RNG σ1 o it p0 wh x)) y σ2) : x = y ∧ INV σ2 := by
  obtain ⟨hx, e1⟩ := hx
  obtain ⟨⟨τ, e9⟩, hy⟩ := hy
  subst e9
  have h1 := INV_EQ h e1
  have hw := NW_E (I_nw h) EQK_0 (EQ_K e1)
  have hX := I_xo h
  have hR := I_ro h1
  refine ⟨?_, INV_EQ h1 EQ_SC⟩
  have hn := hw.1
  have hn1 := hR.1
  have hm : MEX σ (tb (TX σ 1)) ↔ MET σ1 (kdB σ1 1) := b_MEX hw (fun q a b => by rw [b_TX hw 1, tb_TH hn1.1 a, decide_eq_true b, Bool.true_and])
  unfold RGX at hx
  unfold RNG at hy
  by_cases ok : (0 ≤ o ∧ o < σ1 0 5) ∧ ((0 ≤ it ∧ it ≤ 2) ∧ (0 ≤ p0 ∧ p0 ≤ 11)) ∧ (0 ≤ wh ∧ wh ≤ 1)
  · rw [hn] at hx
    have hx := (hx.resolve_left (fun z => z.1 ok)).2
    have hy := (hy.resolve_left (fun z => z.1 ok)).2
    obtain ⟨ho, ⟨hit, hp0⟩, hwh⟩ := ok
    obtain ⟨g1, g2, g3, g4, g5, g6⟩ := hw.2.2.2 o ho.1 ho.2
    rw [g1] at hx
    by_cases k1 : σ1 1 (40 + o) = 1
    · have hx := (hx.resolve_left (fun z => z.1 k1)).2
      have hy := (hy.resolve_left (fun z => z.1 k1)).2
      by_cases k2 : MET σ1 (kdB σ1 1)
      · have hx := (hx.resolve_left (fun z => z.1 (hm.mpr k2))).2
        have hy := (hy.resolve_left (fun z => z.1 k2)).2
        have hs : 0 ≤ 12 * it + p0 ∧ 12 * it + p0 < 36 := by omega
        have hadj : adj σ1 (12 * it + p0) o ↔ tb (σ 85 o) it = true ∧ p0 ≤ σ 112 o := by
          unfold adj
          rw [show (12 * it + p0) / 12 = it by omega, show (12 * it + p0) % 12 = p0 by omega, g2, g4]
        have hin : ∀ c : Int → Int, inS c (12 * it + p0) ↔ p0 < c it := fun c => by
          show (12 * it + p0) % 12 < c ((12 * it + p0) / 12) ↔ _
          rw [show (12 * it + p0) / 12 = it by omega, show (12 * it + p0) % 12 = p0 by omega]
        have hsu := hX.2.1.1 (12 * it + p0) hs.1 hs.2
        have ham := (hX.2.2 o ho.1 (by omega)).2.2.1
        by_cases k3 : tb (σ 85 o) it = true ∧ p0 ≤ σ 112 o
        · have hx := (hx.resolve_left (fun z => z.1 k3)).2
          have ka := hadj.mpr k3
          rcases hx with ⟨w0, yy, hmx, hxv⟩ | ⟨w1, yy, hmn, hxv⟩
          · have hy := (hy.resolve_left (fun z => by have := z.1; omega)).2
            obtain ⟨y0, _, y2⟩ := hy
            obtain ⟨y2, y3⟩ := y2 ka
            have hvn := fun k a b => b_VN hw hX hn1.1 (o := o) (s := 12 * it + p0) (k := k) ho hs a b
            have v0 := VN_0 hX (o := o) ⟨ho.1, by omega⟩
            obtain ⟨x1, x2, x3⟩ := hmx
            have hge : σ 84 o + σ 109 (12 * it + p0) + yy ≤ y := by
              have hc0 : ∀ k, 0 ≤ k → k < 2197 → CND it p0 k → VND (LY σ (TX σ 1)) (FI (σ 85 o) (σ 112 o) 0) (FI (σ 85 o) (σ 112 o) 1) (FI (σ 85 o) (σ 112 o) 2) k = yy → σ 84 o + σ 109 (12 * it + p0) + yy ≤ y := fun k a b c e => by
                have := y2 (cel k) (cel_ok ⟨a, b⟩) (fun z => by have c' : cel k it ≤ p0 := c; have := (hin _).mp z; omega)
                rw [hvn k a b, e] at this
                exact this
              rcases x3 with e | ⟨j, a, b, c, e⟩
              · have cz : CND it p0 0 := by
                  show cel 0 it ≤ p0
                  have : cel 0 it = 0 := by unfold cel; split <;> (try split) <;> rfl
                  omega
                have := x2 0 (by decide) (by decide) cz
                exact hc0 0 (by decide) (by decide) cz (by omega)
              · exact hc0 j a b c e
            have hle : y = 0 ∨ y ≤ σ 84 o + σ 109 (12 * it + p0) + yy := by
              rcases y3 with e | ⟨c, c1, c2, c3⟩
              · exact Or.inl e
              · obtain ⟨k, k0, k9, z0, z1, z2⟩ := cel_ex c1
                have hc : CND it p0 k := by
                  show cel k it ≤ p0
                  rw [cel3 z0 z1 z2 hit]
                  exact Int.not_lt.mp (fun q => c2 ((hin c).mpr q))
                have := x2 k k0 k9 hc
                rw [← FF_c z0 z1 z2, hvn k k0 k9] at c3
                exact Or.inr (by omega)
            clear x2 x3 y2 y3 hvn
            omega
          · have hy := (hy.resolve_right (fun z => by have := z.1; omega)).2
            obtain ⟨y0, _, y2⟩ := hy
            obtain ⟨y1, y2, y3, y4⟩ := y2 ka
            rw [← g3] at y1 y4
            rw [← hw.2.1 _ hs.1 hs.2] at y2 y4
            have hlk : ∀ k, 0 ≤ k → k < 2197 → LY σ (TX σ 1) 92 k = SKc (σ1 1) (cel k) - DM σ1 (cel k) := fun k a b => by
              rw [show LY σ (TX σ 1) 92 k = LX σ (tb (TX σ 1)) k from RW_at ⟨a, b⟩, ← LK_cel]
              exact b_LX hw (fun q x z => by rw [b_TX hw 1, tb_TH hn1.1 x, decide_eq_true z, Bool.true_and]) a b
            have hct : ∀ k, ctd σ1 o (cel k) ↔ gef (FI (σ 85 o) (σ 112 o) 0) (FI (σ 85 o) (σ 112 o) 1) (FI (σ 85 o) (σ 112 o) 2) k := fun k => by
              unfold ctd
              rw [b_sts hw ho.1 ho.2, b_sts hw ho.1 ho.2, b_sts hw ho.1 ho.2]
              rfl
            obtain ⟨x1, x2, x3⟩ := hmn
            have hge : y ≤ yy ∨ yy = 99 := by
              rcases x3 with e | ⟨j, a, b, c, e⟩
              · exact Or.inr e
              · have c1 : ¬ gef (FI (σ 85 o) (σ 112 o) 0) (FI (σ 85 o) (σ 112 o) 1) (FI (σ 85 o) (σ 112 o) 2) j := c.1
                have := y3 (cel j) (cel_ok ⟨a, b⟩) ((hin _).mpr c.2) (fun z => c1 ((hct j).mp z))
                rw [← hlk j a b, e] at this
                exact Or.inl this
            have hle : y = σ 84 o ∨ y = σ 109 (12 * it + p0) ∨ yy ≤ y := by
              rcases y4 with e | e | ⟨c, c1, c2, c3, c4⟩
              · exact Or.inl e
              · exact Or.inr (Or.inl e)
              · obtain ⟨k, k0, k9, z0, z1, z2⟩ := cel_ex c1
                have hc : CLW (FI (σ 85 o) (σ 112 o) 0) (FI (σ 85 o) (σ 112 o) 1) (FI (σ 85 o) (σ 112 o) 2) it p0 k := ⟨fun z => c3 ((ctd_c z0 z1 z2).mp ((hct k).mpr z)), by rw [cel3 z0 z1 z2 hit]; exact (hin c).mp c2⟩
                have := x2 k k0 k9 hc
                rw [← SD_c z0 z1 z2, ← hlk k k0 k9] at c4
                exact Or.inr (Or.inr (by omega))
            clear x2 x3 y3 y4 hlk hct
            omega
        · have hx := (hx.resolve_right (fun z => k3 z.1)).2
          have ka : ¬ adj σ1 (12 * it + p0) o := fun z => k3 (hadj.mp z)
          rcases hy with ⟨_, q⟩ | ⟨_, q⟩
          · rw [hx, q.2.1 ka]
          · rw [hx, q.2.1 ka]
      · have hx := (hx.resolve_right (fun z => k2 (hm.mp z.1))).2
        have hy := (hy.resolve_right (fun z => k2 z.1)).2
        omega
    · have hx := (hx.resolve_right (fun z => k1 z.1)).2
      have hy := (hy.resolve_right (fun z => k1 z.1)).2
      omega
  · rw [hn] at hx
    have hx := (hx.resolve_right (fun z => ok z.1)).2
    have hy := (hy.resolve_right (fun z => ok z.1)).2
    omega
