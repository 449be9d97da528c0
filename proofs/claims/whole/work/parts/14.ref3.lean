theorem rowB : ∀ t, t < 12 → kd (22 + t) = 1 ∧ ln (22 + t) = 88 ∧ kd (34 + t) = 1 ∧ ln (34 + t) = 88 := by decide
/-- the kept changes moved down by one, up to the k-th -/
def SHk (σ : St) (k : Int) : St := fun a b => if (22 ≤ a ∧ (a : Int) < 21 + k) ∧ 0 ≤ b ∧ b < 88 then σ (a + 1) b else if (34 ≤ a ∧ (a : Int) < 33 + k ∧ a < 46) ∧ 0 ≤ b ∧ b < 88 then σ (a + 1) b else if a = 8 ∧ 0 ≤ b ∧ b < k - 1 then σ 8 (b + 1) else σ a b
theorem SHk_1 {σ : St} : SHk σ 1 = σ := by
  funext a b
  unfold SHk
  rw [if_neg (by omega), if_neg (by omega), if_neg (by omega)]
theorem SHk_s {σ : St} {k : Int} (h0 : 1 ≤ k) (h1 : k < 12) : put (cpy (cpy (SHk σ k) (22 + k.toNat) (22 + (k - 1).toNat) 88) (34 + k.toNat) (34 + (k - 1).toNat) 88) 8 (k - 1) (cpy (cpy (SHk σ k) (22 + k.toNat) (22 + (k - 1).toNat) 88) (34 + k.toNat) (34 + (k - 1).toNat) 88 8 k) = SHk σ (k + 1) := by
  obtain ⟨t, rfl⟩ : ∃ t : Nat, k = t + 1 := ⟨(k - 1).toNat, by omega⟩
  have e1 : ((t : Int) + 1).toNat = t + 1 := by omega
  have e2 : ((t : Int) + 1 - 1).toNat = t := by omega
  rw [e1, e2]
  have ev : cpy (cpy (SHk σ (t + 1)) (22 + (t + 1)) (22 + t) 88) (34 + (t + 1)) (34 + t) 88 8 ((t : Int) + 1) = σ 8 (t + 1) := by
    unfold cpy SHk
    rw [if_neg (by omega), if_neg (by omega), if_neg (by omega), if_neg (by omega), if_neg (by omega)]
  rw [ev]
  funext a b
  unfold put
  by_cases p1 : a = 8 ∧ b = (t : Int) + 1 - 1
  · rw [if_pos p1, p1.1, p1.2]
    unfold SHk
    rw [if_neg (by omega), if_neg (by omega), if_pos (by omega)]
    congr 1
    omega
  · rw [if_neg p1]
    unfold cpy
    by_cases p2 : a = 34 + t ∧ 0 ≤ b ∧ b < 88
    · rw [if_pos p2, if_neg (by omega), p2.1]
      unfold SHk
      rw [if_neg (by omega), if_neg (by omega), if_neg (by omega), if_neg (by omega), if_pos (by omega)]
      congr 1
    · rw [if_neg p2]
      by_cases p3 : a = 22 + t ∧ 0 ≤ b ∧ b < 88
      · rw [if_pos p3, p3.1]
        unfold SHk
        rw [if_neg (by omega), if_neg (by omega), if_neg (by omega), if_pos (by omega)]
        congr 1
      · rw [if_neg p3]
        unfold SHk
        have e1 : ((22 ≤ a ∧ (a : Int) < 21 + ((t : Int) + 1)) ∧ 0 ≤ b ∧ b < 88) = ((22 ≤ a ∧ (a : Int) < 21 + ((t : Int) + 1 + 1)) ∧ 0 ≤ b ∧ b < 88) := propext (by omega)
        have e2 : ((34 ≤ a ∧ (a : Int) < 33 + ((t : Int) + 1) ∧ a < 46) ∧ 0 ≤ b ∧ b < 88) = ((34 ≤ a ∧ (a : Int) < 33 + ((t : Int) + 1 + 1) ∧ a < 46) ∧ 0 ≤ b ∧ b < 88) := propext (by omega)
        have e3 : (a = 8 ∧ 0 ≤ b ∧ b < (t : Int) + 1 - 1) = (a = 8 ∧ 0 ≤ b ∧ b < (t : Int) + 1 + 1 - 1) := propext (by omega)
        simp only [e1, e2, e3]
/-- a change noted at place d -/
def CH (σ : St) (d : Int) : St := put (put (put (cpy (cpy σ 9 (22 + d.toNat) 88) 1 (34 + d.toNat) 88) 8 d (σ 0 5)) 0 11 (d + 1)) 0 10 (d + 1)
def CHG (σ : St) : St := if σ 0 11 = 12 then CH (put (SHk σ 12) 0 11 11) 11 else CH σ (σ 0 11)

theorem hyVX9_changed : yX9_changed.cls = RX9 ∧ yX9_changed.cls ≠ "java/lang/invoke/MethodHandle" ∧ yX9_changed.cls ≠ "java/lang/invoke/VarHandle" ∧ (parseMethodDescriptor yX9_changed.desc).map (fun d => d.parameters.length) = some 0 := by decide +kernel
theorem uX9_changed_X9 : ∀ w ∈ u_ws RX9 TX9 35, w ∈ wsX9_changed := by decide +kernel
theorem fX9_changed_36 : Cond.fieldLink RX9 36 (TX9 9).1 (TX9 9).2.1 (TX9 9).2.2.1 ∈ wsX9_changed := by decide +kernel
theorem fX9_changed_27 : Cond.fieldLink RX9 27 (TX9 6).1 (TX9 6).2.1 (TX9 6).2.2.1 ∈ wsX9_changed := by decide +kernel
theorem fX9_changed_95 : Cond.fieldLink RX9 95 (TX9 11).1 (TX9 11).2.1 (TX9 11).2.2.1 ∈ wsX9_changed := by decide +kernel
theorem fX9_changed_9 : Cond.fieldLink RX9 9 (TX9 0).1 (TX9 0).2.1 (TX9 0).2.2.1 ∈ wsX9_changed := by decide +kernel
theorem fX9_changed_30 : Cond.fieldLink RX9 30 (TX9 7).1 (TX9 7).2.1 (TX9 7).2.2.1 ∈ wsX9_changed := by decide +kernel
theorem fX9_changed_33 : Cond.fieldLink RX9 33 (TX9 8).1 (TX9 8).2.1 (TX9 8).2.2.1 ∈ wsX9_changed := by decide +kernel
theorem fX9_changed_80 : Cond.fieldLink RX9 80 (TX9 5).1 (TX9 5).2.1 (TX9 5).2.2.1 ∈ wsX9_changed := by decide +kernel
theorem fX9_changed_98 : Cond.fieldLink RX9 98 (TX9 10).1 (TX9 10).2.1 (TX9 10).2.2.1 ∈ wsX9_changed := by decide +kernel
set_option maxHeartbeats 4000000 in
set_option maxRecDepth 100000 in
theorem c_X9_changed {l : Launch} {G : Gy} (hG : Inj G) (σ : St) (hd : 0 ≤ σ 0 11 ∧ σ 0 11 ≤ 12) (hn : iR (σ 0 5)) : MU l yX9_changed wsX9_changed ({ frames := 1, cells := 0, slots := 0, locals := 22 } : Room) G [.ref (G.2.2 0)] σ (CHG σ) := by
  refine MV.of hG (by decide +kernel) rfl rfl (Nat.le_of_ble_eq_true rfl) rfl ?_
  intro p e s m args below meth c H0 Q hC hret
  have L81 : ∀ (ρ : St) (d : Int), (ρ 0 11 = d ∧ 0 ≤ d ∧ d < 12 ∧ iR (ρ 0 5)) → (CH ρ d = CHG σ) → wp p l e ({ frames := 1, cells := 0, slots := 0, locals := 22 } : Room) s m args below meth c (aA G (Array.size H0)) H0 2 Q G ρ 81 [(0, .ref (G.2.2 0))] [] := by
    intro ρ d h1 h2
    obtain ⟨h11, h12, h13, h14⟩ := h1
    have hr := rowB d.toNat (by omega)
    refine wp_aload_n hC dX9_changed_81 rfl ?_
    refine wp_geta (k := 9) hC (rfl) (by decide) (rfl) (rfl) (by decide) uX9_changed_X9 fX9_changed_36 (rfl) dX9_changed_82 ?_
    refine wp_aload_n hC dX9_changed_85 rfl ?_
    refine wp_geta (k := 6) hC (rfl) (by decide) (rfl) (rfl) (by decide) uX9_changed_X9 fX9_changed_27 (rfl) dX9_changed_86 ?_
    refine wp_aload_n hC dX9_changed_89 rfl ?_
    refine wp_geti (k := 11) (z := 11) hC rfl (rfl) (by decide) (rfl) (rfl) (by decide) uX9_changed_X9 fX9_changed_95 (rfl) dX9_changed_90 ?_
    refine wp_top (b := d) h11 ?_
    refine wp_aald4 (n := 12) hC rfl (Nat.le_of_ble_eq_true rfl) rfl (by decide) (by omega) dX9_changed_93 ?_
    refine wp_callSu (As := [_, _]) hC (c_X9_copies hG _ _ _ (by decide) (show 22 + d.toNat < 183 by omega) rfl hr.1 rfl hr.2.1) gX9_changed_X9_copies rfl ⟨rfl, rfl⟩ ⟨by decide, by decide⟩ hySX9_copies rfl (Nat.le_of_ble_eq_true rfl) dX9_changed_94 ?_
    refine wp_aload_n hC dX9_changed_97 rfl ?_
    refine wp_geta (k := 0) hC (rfl) (by decide) (rfl) (rfl) (by decide) uX9_changed_X9 fX9_changed_9 (rfl) dX9_changed_98 ?_
    refine wp_aload_n hC dX9_changed_101 rfl ?_
    refine wp_geta (k := 7) hC (rfl) (by decide) (rfl) (rfl) (by decide) uX9_changed_X9 fX9_changed_30 (rfl) dX9_changed_102 ?_
    refine wp_aload_n hC dX9_changed_105 rfl ?_
    refine wp_geti (k := 11) (z := 11) hC rfl (rfl) (by decide) (rfl) (rfl) (by decide) uX9_changed_X9 fX9_changed_95 (rfl) dX9_changed_106 ?_
    refine wp_top (b := d) (show cpy ρ 9 (22 + d.toNat) 88 0 11 = d from (if_neg (by omega)).trans h11) ?_
    refine wp_aald4 (n := 12) hC rfl (Nat.le_of_ble_eq_true rfl) rfl (by decide) (by omega) dX9_changed_109 ?_
    refine wp_callSu (As := [_, _]) hC (c_X9_copies hG _ _ _ (by decide) (show 34 + d.toNat < 183 by omega) rfl hr.2.2.1 rfl hr.2.2.2) gX9_changed_X9_copies rfl ⟨rfl, rfl⟩ ⟨by decide, by decide⟩ hySX9_copies rfl (Nat.le_of_ble_eq_true rfl) dX9_changed_110 ?_
    refine wp_aload_n hC dX9_changed_113 rfl ?_
    refine wp_geta (k := 8) hC (rfl) (by decide) (rfl) (rfl) (by decide) uX9_changed_X9 fX9_changed_33 (rfl) dX9_changed_114 ?_
    refine wp_aload_n hC dX9_changed_117 rfl ?_
    refine wp_geti (k := 11) (z := 11) hC rfl (rfl) (by decide) (rfl) (rfl) (by decide) uX9_changed_X9 fX9_changed_95 (rfl) dX9_changed_118 ?_
    refine wp_top (b := d) (show cpy (cpy ρ 9 (22 + d.toNat) 88) 1 (34 + d.toNat) 88 0 11 = d from (if_neg (by omega)).trans ((if_neg (by omega)).trans h11)) ?_
    refine wp_aload_n hC dX9_changed_121 rfl ?_
    refine wp_geti (k := 5) (z := 5) hC rfl (rfl) (by decide) (rfl) (rfl) (by decide) uX9_changed_X9 fX9_changed_80 (rfl) dX9_changed_122 ?_
    refine wp_top (b := ρ 0 5) (show cpy (cpy ρ 9 (22 + d.toNat) 88) 1 (34 + d.toNat) 88 0 5 = ρ 0 5 from (if_neg (by omega)).trans (if_neg (by omega))) ?_
    refine wp_iast (n := 12) hC (rfl) (Nat.le_of_ble_eq_true rfl) (rfl) (by decide) (by omega) dX9_changed_125 ?_
    refine wp_aload_n hC dX9_changed_126 rfl ?_
    refine wp_dup hC dX9_changed_127 rfl ?_
    refine wp_geti (k := 11) (z := 11) hC rfl (rfl) (by decide) (rfl) (rfl) (by decide) uX9_changed_X9 fX9_changed_95 (rfl) dX9_changed_128 ?_
    refine wp_top (b := d) (show cpy (cpy ρ 9 (22 + d.toNat) 88) 1 (34 + d.toNat) 88 0 11 = d from (if_neg (by omega)).trans ((if_neg (by omega)).trans h11)) ?_
    refine wp_iconst hC dX9_changed_131 ?_
    refine wp_iadd hC dX9_changed_132 ?_
    refine wp_puti2 (k := 11) (z := 11) hC rfl (rfl) (by decide) (rfl) (rfl) (by decide) uX9_changed_X9 fX9_changed_95 tyX9 tyX9_ok nmX9 rfl rfl (rfl) dX9_changed_133 ?_
    refine wp_aload_n hC dX9_changed_136 rfl ?_
    refine wp_aload_n hC dX9_changed_137 rfl ?_
    refine wp_geti (k := 11) (z := 11) hC rfl (rfl) (by decide) (rfl) (rfl) (by decide) uX9_changed_X9 fX9_changed_95 (rfl) dX9_changed_138 ?_
    refine wp_top (b := d + 1) rfl ?_
    refine wp_puti2 (k := 10) (z := 10) hC rfl (rfl) (by decide) (rfl) (rfl) (by decide) uX9_changed_X9 fX9_changed_98 tyX9 tyX9_ok nmX9 rfl rfl (rfl) dX9_changed_141 ?_
    exact hret _ _ _ (h2) dX9_changed_144
  have L11 : ∀ (n : Nat) (k : Int), ((12 - k).toNat) = n → (σ 0 11 = 12) → (1 ≤ k ∧ k ≤ 12) → wp p l e ({ frames := 1, cells := 0, slots := 0, locals := 22 } : Room) s m args below meth c (aA G (Array.size H0)) H0 2 Q G (SHk σ k) 11 [(0, .ref (G.2.2 0)), (1, .int (zI (k)))] [] := by
    intro n11
    induction n11 using Nat.strongRecOn with
    | ind n11 ih =>
      intro k hm11 h0 h1
      have hr := fun z : k < 12 => rowB k.toNat (by omega)
      have hr1 := rowB (k - 1).toNat (by omega)
      refine wp_iload_n hC dX9_changed_11 rfl ?_
      refine wp_bipush hC dX9_changed_12 rfl ?_
      refine wp_icmp_ge (tgt := 71) hC dX9_changed_14 (by decide) (by omega) (by omega) (fun c_14 => ?_) (fun c_14 => ?_)
      · refine wp_aload_n hC dX9_changed_71 rfl ?_
        refine wp_dup hC dX9_changed_72 rfl ?_
        refine wp_geti (k := 11) (z := 11) hC rfl (rfl) (by decide) (rfl) (rfl) (by decide) uX9_changed_X9 fX9_changed_95 (rfl) dX9_changed_73 ?_
        refine wp_top (b := 12) (show SHk σ k 0 11 = 12 from h0) ?_
        refine wp_iconst hC dX9_changed_76 ?_
        refine wp_isub hC dX9_changed_77 ?_
        refine wp_puti2 (k := 11) (z := 11) hC rfl (rfl) (by decide) (rfl) (rfl) (by decide) uX9_changed_X9 fX9_changed_95 tyX9 tyX9_ok nmX9 rfl rfl (rfl) dX9_changed_78 ?_
        refine wp_lv hC [0] rfl ?_
        exact L81 _ 11 ⟨rfl, by decide, by decide, hn⟩ (by rw [show k = 12 by omega]; exact (if_pos h0).symm)
      · refine wp_aload_n hC dX9_changed_17 rfl ?_
        refine wp_geta (k := 6) hC (rfl) (by decide) (rfl) (rfl) (by decide) uX9_changed_X9 fX9_changed_27 (rfl) dX9_changed_18 ?_
        refine wp_iload_n hC dX9_changed_21 rfl ?_
        refine wp_aald4 (n := 12) hC rfl (Nat.le_of_ble_eq_true rfl) rfl (by decide) (by omega) dX9_changed_22 ?_
        refine wp_aload_n hC dX9_changed_23 rfl ?_
        refine wp_geta (k := 6) hC (rfl) (by decide) (rfl) (rfl) (by decide) uX9_changed_X9 fX9_changed_27 (rfl) dX9_changed_24 ?_
        refine wp_iload_n hC dX9_changed_27 rfl ?_
        refine wp_iconst hC dX9_changed_28 ?_
        refine wp_isub hC dX9_changed_29 ?_
        refine wp_aald4 (n := 12) hC rfl (Nat.le_of_ble_eq_true rfl) rfl (by decide) (by omega) dX9_changed_30 ?_
        refine wp_callSu (As := [_, _]) hC (c_X9_copies hG _ _ _ (show 22 + k.toNat < 183 by omega) (show 22 + (k - 1).toNat < 183 by omega) (hr c_14).1 hr1.1 (hr c_14).2.1 hr1.2.1) gX9_changed_X9_copies rfl ⟨rfl, rfl⟩ ⟨by decide, by decide⟩ hySX9_copies rfl (Nat.le_of_ble_eq_true rfl) dX9_changed_31 ?_
        refine wp_aload_n hC dX9_changed_34 rfl ?_
        refine wp_geta (k := 7) hC (rfl) (by decide) (rfl) (rfl) (by decide) uX9_changed_X9 fX9_changed_30 (rfl) dX9_changed_35 ?_
        refine wp_iload_n hC dX9_changed_38 rfl ?_
        refine wp_aald4 (n := 12) hC rfl (Nat.le_of_ble_eq_true rfl) rfl (by decide) (by omega) dX9_changed_39 ?_
        refine wp_aload_n hC dX9_changed_40 rfl ?_
        refine wp_geta (k := 7) hC (rfl) (by decide) (rfl) (rfl) (by decide) uX9_changed_X9 fX9_changed_30 (rfl) dX9_changed_41 ?_
        refine wp_iload_n hC dX9_changed_44 rfl ?_
        refine wp_iconst hC dX9_changed_45 ?_
        refine wp_isub hC dX9_changed_46 ?_
        refine wp_aald4 (n := 12) hC rfl (Nat.le_of_ble_eq_true rfl) rfl (by decide) (by omega) dX9_changed_47 ?_
        refine wp_callSu (As := [_, _]) hC (c_X9_copies hG _ _ _ (show 34 + k.toNat < 183 by omega) (show 34 + (k - 1).toNat < 183 by omega) (hr c_14).2.2.1 hr1.2.2.1 (hr c_14).2.2.2 hr1.2.2.2) gX9_changed_X9_copies rfl ⟨rfl, rfl⟩ ⟨by decide, by decide⟩ hySX9_copies rfl (Nat.le_of_ble_eq_true rfl) dX9_changed_48 ?_
        refine wp_aload_n hC dX9_changed_51 rfl ?_
        refine wp_geta (k := 8) hC (rfl) (by decide) (rfl) (rfl) (by decide) uX9_changed_X9 fX9_changed_33 (rfl) dX9_changed_52 ?_
        refine wp_iload_n hC dX9_changed_55 rfl ?_
        refine wp_iconst hC dX9_changed_56 ?_
        refine wp_isub hC dX9_changed_57 ?_
        refine wp_aload_n hC dX9_changed_58 rfl ?_
        refine wp_geta (k := 8) hC (rfl) (by decide) (rfl) (rfl) (by decide) uX9_changed_X9 fX9_changed_33 (rfl) dX9_changed_59 ?_
        refine wp_iload_n hC dX9_changed_62 rfl ?_
        refine wp_iald (n := 12) hC (rfl) (Nat.le_of_ble_eq_true rfl) (rfl) (by decide) (by omega) dX9_changed_63 ?_
        refine wp_iast (n := 12) hC (rfl) (Nat.le_of_ble_eq_true rfl) (rfl) (by decide) (by omega) dX9_changed_64 ?_
        refine wp_iinc (lv2 := [(0, _), (1, _)]) hC dX9_changed_65 rfl rfl (by decide) ?_
        refine wp_goto (tgt := 11) hC dX9_changed_68 (by decide) ?_
        refine wp_st (SHk_s h1.1 c_14) ?_
        exact ih _ (by omega) _ rfl h0 (by omega)
  refine wp_aload_n hC dX9_changed_0 rfl ?_
  refine wp_geti (k := 11) (z := 11) hC rfl (rfl) (by decide) (rfl) (rfl) (by decide) uX9_changed_X9 fX9_changed_95 (rfl) dX9_changed_1 ?_
  refine wp_bipush hC dX9_changed_4 rfl ?_
  refine wp_icmp_ne (tgt := 81) hC dX9_changed_6 (by decide) (by omega) (by omega) (fun c_6 => ?_) (fun c_6 => ?_)
  · exact L81 _ _ ⟨rfl, by omega, by omega, hn⟩ (if_neg c_6).symm
  · refine wp_iconst hC dX9_changed_9 ?_
    refine wp_istore_n (lv2 := [(0, _), (1, _)]) hC dX9_changed_10 rfl (by decide) ?_
    refine wp_st (σ2 := SHk σ 1) SHk_1.symm ?_
    exact L11 _ _ rfl c_6 (by omega)
