theorem cpy_n {σ : St} {i j a : Nat} {n b : Int} (h : ¬ (a = j ∧ 0 ≤ b ∧ b < n)) : cpy σ i j n a b = σ a b := if_neg h
theorem CPY_at (σ : St) (t u : Nat) (n : Int) (a : Nat) (b : Int) : CPY σ t u n a b =
    if a = 109 + 5 * t ∧ 0 ≤ b ∧ b < 36 then σ (109 + 5 * u) b else if a = 110 + 5 * t ∧ 0 ≤ b ∧ b < 4 then σ (110 + 5 * u) b else if a = 111 + 5 * t ∧ 0 ≤ b ∧ b < n then σ (111 + 5 * u) b else if a = 112 + 5 * t ∧ 0 ≤ b ∧ b < n then σ (112 + 5 * u) b else if a = 108 + 5 * t ∧ b = 4 then n else σ a b := by
  unfold CPY
  by_cases h1 : a = 109 + 5 * t ∧ 0 ≤ b ∧ b < 36
  · rw [if_pos h1, cpy_o (by omega), cpy_o (by omega), cpy_o (by omega), h1.1, cpy_y h1.2, put_i (by omega)]
  rw [if_neg h1]
  by_cases h2 : a = 110 + 5 * t ∧ 0 ≤ b ∧ b < 4
  · rw [if_pos h2, cpy_o (by omega), cpy_o (by omega), h2.1, cpy_y h2.2, cpy_o (by omega), put_i (by omega)]
  rw [if_neg h2]
  by_cases h3 : a = 111 + 5 * t ∧ 0 ≤ b ∧ b < n
  · rw [if_pos h3, cpy_o (by omega), h3.1, cpy_y h3.2, cpy_o (by omega), cpy_o (by omega), put_i (by omega)]
  rw [if_neg h3]
  by_cases h4 : a = 112 + 5 * t ∧ 0 ≤ b ∧ b < n
  · rw [if_pos h4, h4.1, cpy_y h4.2, cpy_o (by omega), cpy_o (by omega), cpy_o (by omega), put_i (by omega)]
  rw [if_neg h4, cpy_n h4, cpy_n h3, cpy_n h2, cpy_n h1]
  rfl
/-- another cell than the state's -/
theorem CPY_o {σ : St} {t u : Nat} {n : Int} {a : Nat} {b : Int} (h : ¬ (108 + 5 * t ≤ a ∧ a ≤ 112 + 5 * t)) : CPY σ t u n a b = σ a b := by
  rw [CPY_at, if_neg (by omega), if_neg (by omega), if_neg (by omega), if_neg (by omega), if_neg (by omega)]
theorem XO_c {σ ρ : St} (h : XO σ) (e : ∀ a b, (84 ≤ a ∧ a ≤ 88) ∨ (a = 83 ∧ b = 5) ∨ (109 ≤ a ∧ a ≤ 112) → ρ a b = σ a b) : XO ρ := by
  have e5 : ρ 83 5 = σ 83 5 := e 83 5 (by omega)
  obtain ⟨h1, ⟨h2, h3⟩, h4⟩ := h
  refine ⟨by rw [e5]; exact h1, ⟨fun j a b => ?_, fun j a b => ?_⟩, fun o a b => ?_⟩
  · rw [e 109 j (by omega)]; exact h2 j a b
  · rw [e 110 j (by omega)]; exact h3 j a b
  · rw [e5] at b
    rw [e 111 o (by omega), e 112 o (by omega), e 84 o (by omega), e 85 o (by omega), e 86 o (by omega), e 87 o (by omega), e 88 o (by omega)]
    exact h4 o a b
theorem TX_c {σ ρ : St} {v : Int} (e5 : ρ 83 5 = σ 83 5) (e : ∀ o, 0 ≤ o → o < σ 83 5 → ρ 111 o = σ 111 o) : TX ρ v = TX σ v := by
  unfold TX
  rw [e5]
  exact bs_c (fun o a b => by rw [e o a b])
/-- a change of the class noted -/
def NCH (σ : St) : St := NOTE (put σ 82 12 0) (σ 83 5)
def XL (σ : St) : Prop := (0 ≤ σ 106 1 ∧ σ 106 1 ≤ 12) ∧ ∀ k, 0 ≤ k → k < 13 → 2 ≤ σ 107 k ∧ σ 107 k ≤ 14
theorem XL_c {σ ρ : St} (h : XL σ) (e : ∀ a b, (a = 106 ∧ b = 1) ∨ a = 107 → ρ a b = σ a b) : XL ρ := by
  refine ⟨by rw [e 106 1 (by omega)]; exact h.1, fun k a b => ?_⟩
  rw [e 107 k (by omega)]
  exact h.2 k a b
theorem NOTE_o {σ : St} {n : Int} (h : XL σ) {a : Nat} {b : Int} (ha : ¬ (a = 106 ∨ a = 107 ∨ 118 ≤ a)) : NOTE σ n a b = σ a b := by
  have e1 := NT_1 (σ := σ)
  have h1 := h.1
  have hr := NT_L h.2 (NT2 σ 106 1) (by rw [e1]; split <;> omega) (by rw [e1]; split <;> omega)
  unfold NOTE
  rw [CPY_o (by omega)]
  unfold NT2 NT1
  rw [put_i (by omega)]
  split
  · exact put_i (by omega)
  · unfold DROP
    rw [if_neg (by omega), if_neg (by omega)]
theorem NCH_o {σ : St} (h : XL σ) {a : Nat} {b : Int} (ha : ¬ (a = 106 ∨ a = 107 ∨ 118 ≤ a ∨ (a = 82 ∧ b = 12))) : NCH σ a b = σ a b := by
  unfold NCH
  rw [NOTE_o (XL_c h (fun a b z => put_q (by omega))) (by omega), put_q (by omega)]
theorem XO_NCH {σ : St} (h : XO σ) (hL : XL σ) : XO (NCH σ) := XO_c h (fun a b z => NCH_o hL (by omega))
theorem TX_NCH {σ : St} {v : Int} (hL : XL σ) : TX (NCH σ) v = TX σ v := TX_c (NCH_o hL (by omega)) (fun o _ _ => NCH_o hL (by omega))
theorem XO_k {σ : St} {o v : Int} (h : XO σ) (hv : 0 ≤ v ∧ v ≤ 2) : XO (put σ 111 o v) := by
  obtain ⟨h1, ⟨h2, h3⟩, h4⟩ := h
  refine ⟨h1, ⟨h2, h3⟩, fun q a b => ?_⟩
  have h5 := h4 q a b
  refine ⟨?_, h5.2⟩
  rw [put_e]
  split
  · exact hv
  · exact h5.1
theorem XO_la {σ : St} {o v : Int} (h : XO σ) (hv : 0 ≤ v ∧ v ≤ 11) : XO (put σ 112 o v) := by
  obtain ⟨h1, ⟨h2, h3⟩, h4⟩ := h
  refine ⟨h1, ⟨h2, h3⟩, fun q a b => ?_⟩
  have h5 := h4 q a b
  refine ⟨h5.1, ?_, h5.2.2⟩
  show 0 ≤ put σ 112 o v 112 q ∧ put σ 112 o v 112 q ≤ 11
  rw [put_e]
  split
  · exact hv
  · exact h5.2.1
theorem XO_su {σ : St} {o v : Int} (h : XO σ) (hv : 0 ≤ v ∧ v ≤ 99) : XO (put σ 109 o v) := by
  obtain ⟨h1, ⟨h2, h3⟩, h4⟩ := h
  refine ⟨h1, ⟨fun j a b => ?_, h3⟩, h4⟩
  rw [put_e]
  split
  · exact hv
  · exact h2 j a b
theorem XO_sh {σ : St} {o v : Int} (h : XO σ) (hv : 0 ≤ v ∧ v ≤ 100) : XO (put σ 110 o v) := by
  obtain ⟨h1, ⟨h2, h3⟩, h4⟩ := h
  refine ⟨h1, ⟨h2, fun j a b => ?_⟩, h4⟩
  rw [put_e]
  split
  · exact hv
  · exact h3 j a b

theorem hyVX8_noteChange : yX8_noteChange.cls = RX8 ∧ yX8_noteChange.cls ≠ "java/lang/invoke/MethodHandle" ∧ yX8_noteChange.cls ≠ "java/lang/invoke/VarHandle" ∧ (parseMethodDescriptor yX8_noteChange.desc).map (fun d => d.parameters.length) = some 0 := by decide +kernel
theorem uX8_noteChange_X8 : ∀ w ∈ u_ws RX8 TX8 13, w ∈ wsX8_noteChange := by decide +kernel
theorem fX8_noteChange_316 : Cond.fieldLink RX8 316 (TX8 12).1 (TX8 12).2.1 (TX8 12).2.2.1 ∈ wsX8_noteChange := by decide +kernel
theorem fX8_noteChange_29 : Cond.fieldLink RX8 29 (TX8 3).1 (TX8 3).2.1 (TX8 3).2.2.1 ∈ wsX8_noteChange := by decide +kernel
theorem fX8_noteChange_19 : Cond.fieldLink RX8 19 (TX8 1).1 (TX8 1).2.1 (TX8 1).2.2.1 ∈ wsX8_noteChange := by decide +kernel
theorem fX8_noteChange_12 : Cond.fieldLink RX8 12 (TX8 0).1 (TX8 0).2.1 (TX8 0).2.2.1 ∈ wsX8_noteChange := by decide +kernel
theorem uX8_noteChange_X0 : ∀ w ∈ u_ws RX0 TX0 6, w ∈ wsX8_noteChange := by decide +kernel
set_option maxHeartbeats 4000000 in
set_option maxRecDepth 100000 in
theorem c_X8_noteChange {l : Launch} {G : Gy} (hG : Inj G) (σ : St) (hn : 0 ≤ σ 83 5 ∧ σ 83 5 ≤ 24) (hd9 : 0 ≤ σ 106 1 ∧ σ 106 1 ≤ 12) (hL : ∀ k, 0 ≤ k → k < 13 → 2 ≤ σ 107 k ∧ σ 107 k ≤ 14) : MU l yX8_noteChange wsX8_noteChange ({ frames := 3, cells := 0, slots := 0, locals := 62 } : Room) G [.ref (G.2.2 82)] σ (NCH σ) := by
  refine MV.of hG (by decide +kernel) rfl rfl (Nat.le_of_ble_eq_true rfl) rfl ?_
  intro p e s m args below meth c H0 Q hC hret
  refine wp_aload_n hC dX8_noteChange_0 rfl ?_
  refine wp_iconst hC dX8_noteChange_1 ?_
  refine wp_putz2 (k := 12) (z := 12) hC rfl (rfl) (by decide) (rfl) (rfl) (by decide) uX8_noteChange_X8 fX8_noteChange_316 tyX8 tyX8_ok nmX8 rfl rfl (rfl) (by omega) dX8_noteChange_2 ?_
  refine wp_aload_n hC dX8_noteChange_5 rfl ?_
  refine wp_geta (k := 3) hC (rfl) (by decide) (rfl) (rfl) (by decide) uX8_noteChange_X8 fX8_noteChange_29 (rfl) dX8_noteChange_6 ?_
  refine wp_aload_n hC dX8_noteChange_9 rfl ?_
  refine wp_geta (k := 1) hC (rfl) (by decide) (rfl) (rfl) (by decide) uX8_noteChange_X8 fX8_noteChange_19 (rfl) dX8_noteChange_10 ?_
  refine wp_aload_n hC dX8_noteChange_13 rfl ?_
  refine wp_geta (k := 0) hC (rfl) (by decide) (rfl) (rfl) (by decide) uX8_noteChange_X8 fX8_noteChange_12 (rfl) dX8_noteChange_14 ?_
  refine wp_getiN (k := 5) (z := 5) hC rfl (rfl) (by decide) (rfl) (rfl) (by decide) uX8_noteChange_X0 fnX8_116 (rfl) dX8_noteChange_17 ?_
  refine wp_top (b := σ 83 5) rfl ?_
  refine wp_callVu (As := [_, _]) hC (c_X2_note hG (put σ 82 12 0) (n1 := σ 83 5) hn hd9 hL) gX8_noteChange_X2_note rfl ⟨rfl, rfl⟩ ⟨by decide, by decide⟩ hyVX2_note (rfl) (by decide) (rfl) rfl (Nat.le_of_ble_eq_true rfl) dX8_noteChange_20 ?_
  exact hret _ _ _ (rfl) dX8_noteChange_23

theorem hyVX8_become : yX8_become.cls = RX8 ∧ yX8_become.cls ≠ "java/lang/invoke/MethodHandle" ∧ yX8_become.cls ≠ "java/lang/invoke/VarHandle" ∧ (parseMethodDescriptor yX8_become.desc).map (fun d => d.parameters.length) = some 2 := by decide +kernel
theorem uX8_become_X8 : ∀ w ∈ u_ws RX8 TX8 13, w ∈ wsX8_become := by decide +kernel
theorem fX8_become_19 : Cond.fieldLink RX8 19 (TX8 1).1 (TX8 1).2.1 (TX8 1).2.2.1 ∈ wsX8_become := by decide +kernel
theorem uX8_become_X5 : ∀ w ∈ u_ws RX5 TX5 5, w ∈ wsX8_become := by decide +kernel
set_option maxHeartbeats 4000000 in
set_option maxRecDepth 100000 in
theorem c_X8_become {l : Launch} {G : Gy} (hG : Inj G) (σ : St) {o v : Int} (h : XO σ) (hL : XL σ) (ho : 0 ≤ o ∧ o < σ 83 5) (hv : 0 ≤ v ∧ v ≤ 2) : ME l yX8_become wsX8_become ({ frames := 4, cells := 0, slots := 0, locals := 82 } : Room) G [.ref (G.2.2 82), .int (zI (o)), .int (zI (v))] σ (pc (TX (put σ 111 o v) 1)) (NCH (put σ 111 o v)) := by
  refine MI.of hG (by decide +kernel) rfl rfl (Nat.le_of_ble_eq_true rfl) rfl ?_
  intro p e s m args below meth c H0 Q hC hret
  have hn := h.1
  have hL2 : XL (put σ 111 o v) := XL_c hL (fun a b z => put_q (by omega))
  have hX2 := XO_k (o := o) h hv
  refine wp_aload_n hC dX8_become_0 rfl ?_
  refine wp_geta (k := 1) hC (rfl) (by decide) (rfl) (rfl) (by decide) uX8_become_X8 fX8_become_19 (rfl) dX8_become_1 ?_
  refine wp_getaN (k := 2) hC (rfl) (by decide) (rfl) (rfl) (by decide) uX8_become_X5 fnX8_124 (rfl) dX8_become_4 ?_
  refine wp_iload_n hC dX8_become_7 rfl ?_
  refine wp_iload_n hC dX8_become_8 rfl ?_
  refine wp_iast (n := 24) hC (rfl) (Nat.le_of_ble_eq_true rfl) (rfl) (by decide) (by omega) dX8_become_9 ?_
  refine wp_aload_n hC dX8_become_10 rfl ?_
  refine wp_callVu (As := []) hC (c_X8_noteChange hG (put σ 111 o v) hn hL2.1 hL2.2) gX8_become_X8_noteChange rfl ⟨rfl, rfl⟩ ⟨by decide, by decide⟩ hyVX8_noteChange (rfl) (by decide) (rfl) rfl (Nat.le_of_ble_eq_true rfl) dX8_become_11 ?_
  refine wp_aload_n hC dX8_become_14 rfl ?_
  refine wp_iconst hC dX8_become_15 ?_
  refine wp_callVe (As := [_]) hC (c_X8_howMany hG (NCH (put σ 111 o v)) (w := 1) (XO_NCH hX2 hL2) (by omega)) gX8_become_X8_howMany rfl ⟨rfl, rfl⟩ ⟨by decide, by decide⟩ hyVX8_howMany (rfl) (by decide) (rfl) rfl (Nat.le_of_ble_eq_true rfl) dX8_become_16 (fun hx_16 => ?_)
  refine wp_top (b := pc (TX (put σ 111 o v) 1)) (by rw [TX_NCH hL2]) ?_
  exact hret _ _ _ _ (by have := pc_rng (TX (put σ 111 o v) 1); omega) rfl (⟨rfl, rfl⟩) dX8_become_19

/-- places from one to another filled -/
def FRM (σ : St) (i : Nat) (lo hi v : Int) : St := fun a b => if a = i ∧ lo ≤ b ∧ b < hi then v else σ a b
theorem FRM_0 {σ : St} {i : Nat} {lo v : Int} : σ = FRM σ i lo lo v := by
  funext a b
  unfold FRM
  rw [if_neg (by omega)]
theorem FRM_s {σ : St} {i : Nat} {lo k v : Int} (h : lo ≤ k) : put (FRM σ i lo k v) i k v = FRM σ i lo (k + 1) v := by
  funext a b
  by_cases q : a = i ∧ b = k
  · rw [q.1, q.2, put_s]
    unfold FRM
    rw [if_pos (by omega)]
  · rw [put_q q]
    unfold FRM
    by_cases w : a = i ∧ lo ≤ b ∧ b < k
    · rw [if_pos w, if_pos (by omega)]
    · rw [if_neg w, if_neg (by omega)]
theorem FRM_e {σ : St} {i : Nat} {lo k hi v : Int} (h1 : hi ≤ k) (h : k = lo ∨ k ≤ hi) : FRM σ i lo k v = FRM σ i lo hi v := by
  funext a b
  unfold FRM
  by_cases w : a = i ∧ lo ≤ b ∧ b < k
  · rw [if_pos w, if_pos (by omega)]
  · rw [if_neg w, if_neg (by omega)]
/-- a state laid back -/
def LBX (σ : St) (t : Nat) : St := put (FRM (CPY σ 0 t (σ (108 + 5 * t) 4)) 111 (σ (108 + 5 * t) 4) (σ 83 5) 0) 82 12 0
/-- the told latest of those that came since -/
def TLD (σ ρ : St) (lo hi : Int) : St := fun a b => if a = 112 ∧ lo ≤ b ∧ b < hi then σ 86 b else ρ a b
theorem TLD_0 {σ ρ : St} {lo : Int} : ρ = TLD σ ρ lo lo := by
  funext a b
  unfold TLD
  rw [if_neg (by omega)]
theorem TLD_s {σ ρ : St} {lo k : Int} (h : lo ≤ k) : put (TLD σ ρ lo k) 112 k (σ 86 k) = TLD σ ρ lo (k + 1) := by
  funext a b
  by_cases q : a = 112 ∧ b = k
  · rw [q.1, q.2, put_s]
    unfold TLD
    rw [if_pos (by omega)]
  · rw [put_q q]
    unfold TLD
    by_cases w : a = 112 ∧ lo ≤ b ∧ b < k
    · rw [if_pos w, if_pos (by omega)]
    · rw [if_neg w, if_neg (by omega)]
theorem TLD_e {σ ρ : St} {lo k hi : Int} (h1 : hi ≤ k) (h : k = lo ∨ k ≤ hi) : TLD σ ρ lo k = TLD σ ρ lo hi := by
  funext a b
  unfold TLD
  by_cases w : a = 112 ∧ lo ≤ b ∧ b < k
  · rw [if_pos w, if_pos (by omega)]
  · rw [if_neg w, if_neg (by omega)]
def LSX (σ : St) (t : Nat) : St := TLD σ (LBX σ t) (σ (108 + 5 * t) 4) (σ 83 5)
theorem LBX_o {σ : St} {t : Nat} {a : Nat} {b : Int} (h : ¬ (108 ≤ a ∧ a ≤ 112)) (h2 : ¬ (a = 82 ∧ b = 12)) : LBX σ t a b = σ a b := by
  unfold LBX
  rw [put_q h2]
  unfold FRM
  rw [if_neg (by omega), CPY_o (by omega)]
theorem LSX_o {σ : St} {t : Nat} {a : Nat} {b : Int} (h : ¬ (108 ≤ a ∧ a ≤ 112)) (h2 : ¬ (a = 82 ∧ b = 12)) : LSX σ t a b = σ a b := by
  unfold LSX TLD
  rw [if_neg (by omega), LBX_o h h2]
/-- what a kept state is -/
def SOK (σ : St) (t : Nat) : Prop := (0 ≤ σ (108 + 5 * t) 4 ∧ σ (108 + 5 * t) 4 ≤ σ 83 5) ∧ (∀ j, 0 ≤ j → j < 36 → 0 ≤ σ (109 + 5 * t) j ∧ σ (109 + 5 * t) j ≤ 99) ∧ (∀ j, 0 ≤ j → j < 4 → 0 ≤ σ (110 + 5 * t) j ∧ σ (110 + 5 * t) j ≤ 100) ∧ ∀ o, 0 ≤ o → o < σ (108 + 5 * t) 4 → (0 ≤ σ (111 + 5 * t) o ∧ σ (111 + 5 * t) o ≤ 2) ∧ (0 ≤ σ (112 + 5 * t) o ∧ σ (112 + 5 * t) o ≤ 11)
theorem LBX_at {σ : St} {t : Nat} {b : Int} : LBX σ t 109 b = (if 0 ≤ b ∧ b < 36 then σ (109 + 5 * t) b else σ 109 b) ∧ LBX σ t 110 b = (if 0 ≤ b ∧ b < 4 then σ (110 + 5 * t) b else σ 110 b) ∧ LBX σ t 111 b = (if σ (108 + 5 * t) 4 ≤ b ∧ b < σ 83 5 then 0 else if 0 ≤ b ∧ b < σ (108 + 5 * t) 4 then σ (111 + 5 * t) b else σ 111 b) ∧ LBX σ t 112 b = (if 0 ≤ b ∧ b < σ (108 + 5 * t) 4 then σ (112 + 5 * t) b else σ 112 b) := by
  unfold LBX
  refine ⟨?_, ?_, ?_, ?_⟩
  · rw [put_i (by decide)]
    unfold FRM
    rw [if_neg (by omega), CPY_at]
    by_cases q : 0 ≤ b ∧ b < 36
    · rw [if_pos ⟨rfl, q⟩, if_pos q]
    · rw [if_neg (fun z => q z.2), if_neg (by omega), if_neg (by omega), if_neg (by omega), if_neg (by omega), if_neg q]
  · rw [put_i (by decide)]
    unfold FRM
    rw [if_neg (by omega), CPY_at, if_neg (by omega)]
    by_cases q : 0 ≤ b ∧ b < 4
    · rw [if_pos ⟨rfl, q⟩, if_pos q]
    · rw [if_neg (fun z => q z.2), if_neg (by omega), if_neg (by omega), if_neg (by omega), if_neg q]
  · rw [put_i (by decide)]
    unfold FRM
    by_cases w : σ (108 + 5 * t) 4 ≤ b ∧ b < σ 83 5
    · rw [if_pos ⟨rfl, w⟩, if_pos w]
    · rw [if_neg (fun z => w z.2), if_neg w, CPY_at, if_neg (by omega), if_neg (by omega)]
      by_cases q : 0 ≤ b ∧ b < σ (108 + 5 * t) 4
      · rw [if_pos ⟨rfl, q⟩, if_pos q]
      · rw [if_neg (fun z => q z.2), if_neg (by omega), if_neg (by omega), if_neg q]
  · rw [put_i (by decide)]
    unfold FRM
    rw [if_neg (by omega), CPY_at, if_neg (by omega), if_neg (by omega), if_neg (by omega)]
    by_cases q : 0 ≤ b ∧ b < σ (108 + 5 * t) 4
    · rw [if_pos ⟨rfl, q⟩, if_pos q]
    · rw [if_neg (fun z => q z.2), if_neg (by omega), if_neg q]
theorem XO_LBX {σ : St} {t : Nat} (h : XO σ) (hs : SOK σ t) : XO (LBX σ t) := by
  obtain ⟨h1, ⟨h2, h3⟩, h4⟩ := h
  obtain ⟨s1, s2, s3, s4⟩ := hs
  have e5 : LBX σ t 83 5 = σ 83 5 := LBX_o (by omega) (by omega)
  refine ⟨by rw [e5]; exact h1, ⟨fun j a b => ?_, fun j a b => ?_⟩, fun o a b => ?_⟩
  · rw [LBX_at.1, if_pos ⟨a, b⟩]; exact s2 j a b
  · rw [(LBX_at (b := j)).2.1, if_pos ⟨a, b⟩]; exact s3 j a b
  · rw [e5] at b
    have h5 := h4 o a b
    rw [(LBX_at (b := o)).2.2.1, (LBX_at (b := o)).2.2.2, LBX_o (a := 84) (by omega) (by omega), LBX_o (a := 85) (by omega) (by omega), LBX_o (a := 86) (by omega) (by omega), LBX_o (a := 87) (by omega) (by omega), LBX_o (a := 88) (by omega) (by omega)]
    refine ⟨?_, ?_, h5.2.2⟩
    · by_cases q : o < σ (108 + 5 * t) 4
      · rw [if_neg (by omega), if_pos ⟨a, q⟩]; exact (s4 o a q).1
      · rw [if_pos (by omega)]; omega
    · by_cases q : o < σ (108 + 5 * t) 4
      · rw [if_pos ⟨a, q⟩]; exact (s4 o a q).2
      · rw [if_neg (by omega)]; exact h5.2.1
theorem XO_LSX {σ : St} {t : Nat} (h : XO σ) (hs : SOK σ t) : XO (LSX σ t) := by
  have h2 := XO_LBX h hs
  obtain ⟨h1, h3, h4⟩ := h2
  refine ⟨h1, h3, fun o a b => ?_⟩
  have h5 := h4 o a b
  have b' : o < σ 83 5 := by rw [← LBX_o (σ := σ) (t := t) (a := 83) (b := 5) (by omega) (by omega)]; exact b
  refine ⟨h5.1, ?_, h5.2.2⟩
  unfold LSX TLD
  split
  · exact (h.2.2 o a b').2.2.2.2.1
  · exact h5.2.1

theorem hyVX8_layBack : yX8_layBack.cls = RX8 ∧ yX8_layBack.cls ≠ "java/lang/invoke/MethodHandle" ∧ yX8_layBack.cls ≠ "java/lang/invoke/VarHandle" ∧ (parseMethodDescriptor yX8_layBack.desc).map (fun d => d.parameters.length) = some 1 := by decide +kernel
theorem uX8_layBack_X8 : ∀ w ∈ u_ws RX8 TX8 13, w ∈ wsX8_layBack := by decide +kernel
theorem fX8_layBack_12 : Cond.fieldLink RX8 12 (TX8 0).1 (TX8 0).2.1 (TX8 0).2.2.1 ∈ wsX8_layBack := by decide +kernel
theorem uX8_layBack_X0 : ∀ w ∈ u_ws RX0 TX0 6, w ∈ wsX8_layBack := by decide +kernel
theorem fX8_layBack_316 : Cond.fieldLink RX8 316 (TX8 12).1 (TX8 12).2.1 (TX8 12).2.2.1 ∈ wsX8_layBack := by decide +kernel
theorem fX8_layBack_19 : Cond.fieldLink RX8 19 (TX8 1).1 (TX8 1).2.1 (TX8 1).2.2.1 ∈ wsX8_layBack := by decide +kernel
theorem uX8_layBack_X5 : ∀ w ∈ u_ws RX5 TX5 5, w ∈ wsX8_layBack := by decide +kernel
theorem fnX8_345 : Cond.fieldLinkNest RX8 345 (TX5 4).1 (TX5 4).2.1 (TX5 4).2.2.1 "PromiseMind" ∈ tables_1 := List.mem_of_getElem? (i := 96) (by decide +kernel)
set_option maxHeartbeats 4000000 in
set_option maxRecDepth 100000 in
theorem c_X8_layBack {l : Launch} {G : Gy} (hG : Inj G) (σ : St) {t : Nat} (ht : 1 ≤ t ∧ t < 15) (hn : 0 ≤ σ 83 5 ∧ σ 83 5 ≤ 24) (hk : 0 ≤ σ (108 + 5 * t) 4 ∧ σ (108 + 5 * t) 4 ≤ 24) : MU l yX8_layBack wsX8_layBack ({ frames := 2, cells := 0, slots := 0, locals := 40 } : Room) G [.ref (G.2.2 82), .ref (G.2.2 (108 + 5 * t))] σ (LBX σ t) := by
  refine MV.of hG (by decide +kernel) rfl rfl (Nat.le_of_ble_eq_true rfl) rfl ?_
  intro p e s m args below meth c H0 Q hC hret
  have hT1 := ht.1
  have ht := ht.2
  have L17 : ∀ (n : Nat) (k : Int), ((σ 83 5 - k).toNat) = n → (σ (108 + 5 * t) 4 ≤ k ∧ (k = σ (108 + 5 * t) 4 ∨ k ≤ σ 83 5)) → wp p l e ({ frames := 2, cells := 0, slots := 0, locals := 40 } : Room) s m args below meth c (aA G (Array.size H0)) H0 3 Q G (FRM (CPY σ 0 t (σ (108 + 5 * t) 4)) 111 (σ (108 + 5 * t) 4) k 0) 17 [(0, .ref (G.2.2 82)), (1, .ref (G.2.2 (108 + 5 * t))), (2, .int (zI (k)))] [] := by
    intro n17
    induction n17 using Nat.strongRecOn with
    | ind n17 ih =>
      intro k hm17 h1
      refine wp_iload_n hC dX8_layBack_17 rfl ?_
      refine wp_aload_n hC dX8_layBack_18 rfl ?_
      refine wp_geta (k := 0) hC (rfl) (by decide) (rfl) (rfl) (by decide) uX8_layBack_X8 fX8_layBack_12 (rfl) dX8_layBack_19 ?_
      refine wp_getiN (k := 5) (z := 5) hC rfl (rfl) (by decide) (rfl) (rfl) (by decide) uX8_layBack_X0 fnX8_116 (rfl) dX8_layBack_22 ?_
      refine wp_top (b := σ 83 5) (by unfold FRM; rw [if_neg (by omega), CPY_o (by omega)]) ?_
      refine wp_icmp_ge (tgt := 44) hC dX8_layBack_25 (by decide) (by omega) (by omega) (fun c_25 => ?_) (fun c_25 => ?_)
      · refine wp_aload_n hC dX8_layBack_44 rfl ?_
        refine wp_iconst hC dX8_layBack_45 ?_
        refine wp_putz2 (k := 12) (z := 12) hC rfl (rfl) (by decide) (rfl) (rfl) (by decide) uX8_layBack_X8 fX8_layBack_316 tyX8 tyX8_ok nmX8 rfl rfl (rfl) (by omega) dX8_layBack_46 ?_
        exact hret _ _ _ (by unfold LBX; rw [FRM_e (hi := σ 83 5) (by omega) (by omega)]) dX8_layBack_49
      · refine wp_aload_n hC dX8_layBack_28 rfl ?_
        refine wp_geta (k := 1) hC (rfl) (by decide) (rfl) (rfl) (by decide) uX8_layBack_X8 fX8_layBack_19 (rfl) dX8_layBack_29 ?_
        refine wp_getaN (k := 2) hC (rfl) (by decide) (rfl) (rfl) (by decide) uX8_layBack_X5 fnX8_124 (rfl) dX8_layBack_32 ?_
        refine wp_iload_n hC dX8_layBack_35 rfl ?_
        refine wp_iconst hC dX8_layBack_36 ?_
        refine wp_iast (n := 24) hC (rfl) (Nat.le_of_ble_eq_true rfl) (rfl) (by decide) (by omega) dX8_layBack_37 ?_
        refine wp_iinc (lv2 := [(0, _), (1, _), (2, _)]) hC dX8_layBack_38 rfl rfl (by decide) ?_
        refine wp_goto (tgt := 17) hC dX8_layBack_41 (by decide) ?_
        refine wp_st (FRM_s h1.1) ?_
        exact ih _ (by omega) _ rfl (by omega)
  refine wp_aload_n hC dX8_layBack_0 rfl ?_
  refine wp_geta (k := 1) hC (rfl) (by decide) (rfl) (rfl) (by decide) uX8_layBack_X8 fX8_layBack_19 (rfl) dX8_layBack_1 ?_
  refine wp_aload_n hC dX8_layBack_4 rfl ?_
  refine wp_aload_n hC dX8_layBack_5 rfl ?_
  refine wp_getiN (k := 4) (z := 4) hC rfl ((st_all t ht).1) ((st_all t ht).2.1) (st_cl ht) ((st_all t ht).2.2.2.1) (by decide) uX8_layBack_X5 fnX8_345 ((st_all t ht).2.2.2.2.2.2.2.2) dX8_layBack_6 ?_
  refine wp_callVu (As := [_, _]) hC (c_X5_copyOf hG σ (t := 0) (u := t) (n1 := σ (108 + 5 * t) 4) (by decide) ht hk) gX8_layBack_X5_copyOf rfl ⟨rfl, rfl⟩ ⟨by decide, by decide⟩ hyVX5_copyOf (rfl) (by decide) (rfl) rfl (Nat.le_of_ble_eq_true rfl) dX8_layBack_9 ?_
  refine wp_aload_n hC dX8_layBack_12 rfl ?_
  refine wp_getiN (k := 4) (z := 4) hC rfl ((st_all t ht).1) ((st_all t ht).2.1) (st_cl ht) ((st_all t ht).2.2.2.1) (by decide) uX8_layBack_X5 fnX8_345 ((st_all t ht).2.2.2.2.2.2.2.2) dX8_layBack_13 ?_
  refine wp_top (b := σ (108 + 5 * t) 4) (CPY_o (by omega)) ?_
  refine wp_istore_n (lv2 := [(0, _), (1, _), (2, _)]) hC dX8_layBack_16 rfl (by decide) ?_
  refine wp_st (FRM_0 (i := 111) (lo := σ (108 + 5 * t) 4) (v := 0)) ?_
  exact L17 _ _ rfl ⟨Int.le_refl _, Or.inl rfl⟩

theorem hyVX8_layStepBack : yX8_layStepBack.cls = RX8 ∧ yX8_layStepBack.cls ≠ "java/lang/invoke/MethodHandle" ∧ yX8_layStepBack.cls ≠ "java/lang/invoke/VarHandle" ∧ (parseMethodDescriptor yX8_layStepBack.desc).map (fun d => d.parameters.length) = some 1 := by decide +kernel
theorem uX8_layStepBack_X8 : ∀ w ∈ u_ws RX8 TX8 13, w ∈ wsX8_layStepBack := by decide +kernel
theorem fX8_layStepBack_12 : Cond.fieldLink RX8 12 (TX8 0).1 (TX8 0).2.1 (TX8 0).2.2.1 ∈ wsX8_layStepBack := by decide +kernel
theorem uX8_layStepBack_X0 : ∀ w ∈ u_ws RX0 TX0 6, w ∈ wsX8_layStepBack := by decide +kernel
theorem fX8_layStepBack_19 : Cond.fieldLink RX8 19 (TX8 1).1 (TX8 1).2.1 (TX8 1).2.2.1 ∈ wsX8_layStepBack := by decide +kernel
theorem uX8_layStepBack_X5 : ∀ w ∈ u_ws RX5 TX5 5, w ∈ wsX8_layStepBack := by decide +kernel
theorem fnX8_130 : Cond.fieldLinkNest RX8 130 (TX0 2).1 (TX0 2).2.1 (TX0 2).2.2.1 "PromiseMind" ∈ tables_1 := List.mem_of_getElem? (i := 49) (by decide +kernel)
set_option maxHeartbeats 4000000 in
set_option maxRecDepth 100000 in
theorem c_X8_layStepBack {l : Launch} {G : Gy} (hG : Inj G) (σ : St) {t : Nat} (ht : 1 ≤ t ∧ t < 15) (hn : 0 ≤ σ 83 5 ∧ σ 83 5 ≤ 24) (hk : 0 ≤ σ (108 + 5 * t) 4 ∧ σ (108 + 5 * t) 4 ≤ 24) : MU l yX8_layStepBack wsX8_layStepBack ({ frames := 3, cells := 0, slots := 0, locals := 62 } : Room) G [.ref (G.2.2 82), .ref (G.2.2 (108 + 5 * t))] σ (LSX σ t) := by
  refine MV.of hG (by decide +kernel) rfl rfl (Nat.le_of_ble_eq_true rfl) rfl ?_
  intro p e s m args below meth c H0 Q hC hret
  have hT := ht
  have hT1 := ht.1
  have ht := ht.2
  have L10 : ∀ (n : Nat) (k : Int), ((σ 83 5 - k).toNat) = n → (σ (108 + 5 * t) 4 ≤ k ∧ (k = σ (108 + 5 * t) 4 ∨ k ≤ σ 83 5)) → wp p l e ({ frames := 3, cells := 0, slots := 0, locals := 62 } : Room) s m args below meth c (aA G (Array.size H0)) H0 3 Q G (TLD σ (LBX σ t) (σ (108 + 5 * t) 4) k) 10 [(0, .ref (G.2.2 82)), (1, .ref (G.2.2 (108 + 5 * t))), (2, .int (zI (k)))] [] := by
    intro n10
    induction n10 using Nat.strongRecOn with
    | ind n10 ih =>
      intro k hm10 h1
      refine wp_iload_n hC dX8_layStepBack_10 rfl ?_
      refine wp_aload_n hC dX8_layStepBack_11 rfl ?_
      refine wp_geta (k := 0) hC (rfl) (by decide) (rfl) (rfl) (by decide) uX8_layStepBack_X8 fX8_layStepBack_12 (rfl) dX8_layStepBack_12 ?_
      refine wp_getiN (k := 5) (z := 5) hC rfl (rfl) (by decide) (rfl) (rfl) (by decide) uX8_layStepBack_X0 fnX8_116 (rfl) dX8_layStepBack_15 ?_
      refine wp_top (b := σ 83 5) (by unfold TLD; rw [if_neg (by omega), LBX_o (by omega) (by omega)]) ?_
      refine wp_icmp_ge (tgt := 45) hC dX8_layStepBack_18 (by decide) (by omega) (by omega) (fun c_18 => ?_) (fun c_18 => ?_)
      · exact hret _ _ _ (by unfold LSX; rw [TLD_e (hi := σ 83 5) (by omega) (by omega)]) dX8_layStepBack_45
      · refine wp_aload_n hC dX8_layStepBack_21 rfl ?_
        refine wp_geta (k := 1) hC (rfl) (by decide) (rfl) (rfl) (by decide) uX8_layStepBack_X8 fX8_layStepBack_19 (rfl) dX8_layStepBack_22 ?_
        refine wp_getaN (k := 3) hC (rfl) (by decide) (rfl) (rfl) (by decide) uX8_layStepBack_X5 fnX8_127 (rfl) dX8_layStepBack_25 ?_
        refine wp_iload_n hC dX8_layStepBack_28 rfl ?_
        refine wp_aload_n hC dX8_layStepBack_29 rfl ?_
        refine wp_geta (k := 0) hC (rfl) (by decide) (rfl) (rfl) (by decide) uX8_layStepBack_X8 fX8_layStepBack_12 (rfl) dX8_layStepBack_30 ?_
        refine wp_getaN (k := 2) hC (rfl) (by decide) (rfl) (rfl) (by decide) uX8_layStepBack_X0 fnX8_130 (rfl) dX8_layStepBack_33 ?_
        refine wp_iload_n hC dX8_layStepBack_36 rfl ?_
        refine wp_iald (n := 24) hC (rfl) (Nat.le_of_ble_eq_true rfl) (rfl) (by decide) (by omega) dX8_layStepBack_37 ?_
        refine wp_top (b := σ 86 k) (by unfold TLD; rw [if_neg (by omega), LBX_o (by omega) (by omega)]) ?_
        refine wp_iast (n := 24) hC (rfl) (Nat.le_of_ble_eq_true rfl) (rfl) (by decide) (by omega) dX8_layStepBack_38 ?_
        refine wp_iinc (lv2 := [(0, _), (1, _), (2, _)]) hC dX8_layStepBack_39 rfl rfl (by decide) ?_
        refine wp_goto (tgt := 10) hC dX8_layStepBack_42 (by decide) ?_
        refine wp_st (TLD_s h1.1) ?_
        exact ih _ (by omega) _ rfl (by omega)
  refine wp_aload_n hC dX8_layStepBack_0 rfl ?_
  refine wp_aload_n hC dX8_layStepBack_1 rfl ?_
  refine wp_callVu (As := [_]) hC (c_X8_layBack hG σ hT hn hk) gX8_layStepBack_X8_layBack rfl ⟨rfl, rfl⟩ ⟨by decide, by decide⟩ hyVX8_layBack (rfl) (by decide) (rfl) rfl (Nat.le_of_ble_eq_true rfl) dX8_layStepBack_2 ?_
  refine wp_aload_n hC dX8_layStepBack_5 rfl ?_
  refine wp_getiN (k := 4) (z := 4) hC rfl ((st_all t ht).1) ((st_all t ht).2.1) (st_cl ht) ((st_all t ht).2.2.2.1) (by decide) uX8_layStepBack_X5 fnX8_345 ((st_all t ht).2.2.2.2.2.2.2.2) dX8_layStepBack_6 ?_
  refine wp_top (b := σ (108 + 5 * t) 4) (LBX_o (by omega) (by omega)) ?_
  refine wp_istore_n (lv2 := [(0, _), (1, _), (2, _)]) hC dX8_layStepBack_9 rfl (by decide) ?_
  refine wp_st (TLD_0 (σ := σ) (lo := σ (108 + 5 * t) 4)) ?_
  exact L10 _ _ rfl ⟨Int.le_refl _, Or.inl rfl⟩

theorem hyVX8_undo : yX8_undo.cls = RX8 ∧ yX8_undo.cls ≠ "java/lang/invoke/MethodHandle" ∧ yX8_undo.cls ≠ "java/lang/invoke/VarHandle" ∧ (parseMethodDescriptor yX8_undo.desc).map (fun d => d.parameters.length) = some 0 := by decide +kernel
theorem uX8_undo_X8 : ∀ w ∈ u_ws RX8 TX8 13, w ∈ wsX8_undo := by decide +kernel
theorem fX8_undo_29 : Cond.fieldLink RX8 29 (TX8 3).1 (TX8 3).2.1 (TX8 3).2.2.1 ∈ wsX8_undo := by decide +kernel
theorem uX8_undo_X2 : ∀ w ∈ u_ws RX2 TX2 3, w ∈ wsX8_undo := by decide +kernel
theorem fnX8_279 : Cond.fieldLinkNest RX8 279 (TX2 1).1 (TX2 1).2.1 (TX2 1).2.2.1 "PromiseMind" ∈ tables_1 := List.mem_of_getElem? (i := 119) (by decide +kernel)
set_option maxHeartbeats 4000000 in
set_option maxRecDepth 100000 in
theorem c_X8_undo {l : Launch} {G : Gy} (hG : Inj G) (σ : St) (h : XO σ) (hL : XL σ) (ha : 0 ≤ σ 106 2 ∧ σ 106 1 + σ 106 2 ≤ 12) (hk : ∀ k, 0 ≤ k → k ≤ σ 106 1 + σ 106 2 → SOK σ (σ 107 k).toNat) : MI l yX8_undo wsX8_undo ({ frames := 4, cells := 0, slots := 0, locals := 84 } : Room) G [.ref (G.2.2 82)] σ (fun x σ2 => (σ 106 1 = 0 ∧ x = -5 ∧ σ2 = σ) ∨ (σ 106 1 ≠ 0 ∧ x = σ 106 1 - 1 ∧ σ2 = LSX (put (put σ 106 1 (σ 106 1 - 1)) 106 2 (σ 106 2 + 1)) (σ 107 (σ 106 1 - 1)).toNat)) := by
  refine MI.of hG (by decide +kernel) rfl rfl (Nat.le_of_ble_eq_true rfl) rfl ?_
  intro p e s m args below meth c H0 Q hC hret
  have hn := h.1
  have hL1 := hL.1
  refine wp_aload_n hC dX8_undo_0 rfl ?_
  refine wp_geta (k := 3) hC (rfl) (by decide) (rfl) (rfl) (by decide) uX8_undo_X8 fX8_undo_29 (rfl) dX8_undo_1 ?_
  refine wp_getiN (k := 1) (z := 1) hC rfl (rfl) (by decide) (rfl) (rfl) (by decide) uX8_undo_X2 fnX8_279 (rfl) dX8_undo_4 ?_
  refine wp_top (b := σ 106 1) rfl ?_
  refine wp_if_ne (tgt := 13) hC dX8_undo_7 (by decide) (by omega) (fun c_7 => ?_) (fun c_7 => ?_)
  · have hl := hL.2 (σ 106 1 - 1) (by omega) (by omega)
    have hks := (hk (σ 106 1 - 1) (by omega) (by omega)).1
    refine wp_aload_n hC dX8_undo_13 rfl ?_
    refine wp_aload_n hC dX8_undo_14 rfl ?_
    refine wp_geta (k := 3) hC (rfl) (by decide) (rfl) (rfl) (by decide) uX8_undo_X8 fX8_undo_29 (rfl) dX8_undo_15 ?_
    refine wp_iconst hC dX8_undo_18 ?_
    refine wp_callVr (As := [_]) hC (c_X2_stepBy hG σ (b1 := -1) (by omega) (by omega) (by omega)) gX8_undo_X2_stepBy rfl ⟨rfl, rfl⟩ ⟨by decide, by decide⟩ hyVX2_stepBy (rfl) (by decide) (rfl) rfl (Nat.le_of_ble_eq_true rfl) dX8_undo_19 (fun j_19 s_19 hp_19 => ?_)
    have hp_19 : j_19 = 108 + 5 * (σ 107 (σ 106 1 - 1)).toNat ∧ s_19 = (put (put σ 106 1 (σ 106 1 - 1)) 106 2 (σ 106 2 + 1)) := by
      have e1 : σ 106 1 + -1 = σ 106 1 - 1 := by omega
      have e2 : σ 106 2 - -1 = σ 106 2 + 1 := by omega
      rw [← e1, ← e2]
      exact hp_19
    obtain ⟨rfl, rfl⟩ := hp_19
    refine wp_callVu (As := [_]) hC (c_X8_layStepBack hG (put (put σ 106 1 (σ 106 1 - 1)) 106 2 (σ 106 2 + 1)) (t := (σ 107 (σ 106 1 - 1)).toNat) (by omega) hn (by rw [put_q (by omega), put_q (by omega)]; omega)) gX8_undo_X8_layStepBack rfl ⟨rfl, rfl⟩ ⟨by decide, by decide⟩ hyVX8_layStepBack (rfl) (by decide) (rfl) rfl (Nat.le_of_ble_eq_true rfl) dX8_undo_22 ?_
    refine wp_aload_n hC dX8_undo_25 rfl ?_
    refine wp_geta (k := 3) hC (rfl) (by decide) (rfl) (rfl) (by decide) uX8_undo_X8 fX8_undo_29 (rfl) dX8_undo_26 ?_
    refine wp_getiN (k := 1) (z := 1) hC rfl (rfl) (by decide) (rfl) (rfl) (by decide) uX8_undo_X2 fnX8_279 (rfl) dX8_undo_29 ?_
    refine wp_top (b := σ 106 1 - 1) (by rw [LSX_o (by omega) (by omega)]; rw [put_k (by decide)]; exact put_s) ?_
    exact hret _ _ _ _ (by omega) rfl (Or.inr ⟨by omega, rfl, rfl⟩) dX8_undo_32
  · refine wp_bipush hC dX8_undo_10 rfl ?_
    exact hret _ _ _ _ (by omega) rfl (Or.inl ⟨by omega, rfl, rfl⟩) dX8_undo_12

theorem hyVX8_redo : yX8_redo.cls = RX8 ∧ yX8_redo.cls ≠ "java/lang/invoke/MethodHandle" ∧ yX8_redo.cls ≠ "java/lang/invoke/VarHandle" ∧ (parseMethodDescriptor yX8_redo.desc).map (fun d => d.parameters.length) = some 0 := by decide +kernel
theorem uX8_redo_X8 : ∀ w ∈ u_ws RX8 TX8 13, w ∈ wsX8_redo := by decide +kernel
theorem fX8_redo_29 : Cond.fieldLink RX8 29 (TX8 3).1 (TX8 3).2.1 (TX8 3).2.2.1 ∈ wsX8_redo := by decide +kernel
theorem uX8_redo_X2 : ∀ w ∈ u_ws RX2 TX2 3, w ∈ wsX8_redo := by decide +kernel
theorem fnX8_290 : Cond.fieldLinkNest RX8 290 (TX2 2).1 (TX2 2).2.1 (TX2 2).2.2.1 "PromiseMind" ∈ tables_1 := List.mem_of_getElem? (i := 121) (by decide +kernel)
set_option maxHeartbeats 4000000 in
set_option maxRecDepth 100000 in
theorem c_X8_redo {l : Launch} {G : Gy} (hG : Inj G) (σ : St) (h : XO σ) (hL : XL σ) (ha : 0 ≤ σ 106 2 ∧ σ 106 1 + σ 106 2 ≤ 12) (hk : ∀ k, 0 ≤ k → k ≤ σ 106 1 + σ 106 2 → SOK σ (σ 107 k).toNat) : MI l yX8_redo wsX8_redo ({ frames := 4, cells := 0, slots := 0, locals := 84 } : Room) G [.ref (G.2.2 82)] σ (fun x σ2 => (σ 106 2 = 0 ∧ x = -5 ∧ σ2 = σ) ∨ (σ 106 2 ≠ 0 ∧ x = σ 106 2 - 1 ∧ σ2 = LSX (put (put σ 106 1 (σ 106 1 + 1)) 106 2 (σ 106 2 - 1)) (σ 107 (σ 106 1 + 1)).toNat)) := by
  refine MI.of hG (by decide +kernel) rfl rfl (Nat.le_of_ble_eq_true rfl) rfl ?_
  intro p e s m args below meth c H0 Q hC hret
  have hn := h.1
  have hL1 := hL.1
  refine wp_aload_n hC dX8_redo_0 rfl ?_
  refine wp_geta (k := 3) hC (rfl) (by decide) (rfl) (rfl) (by decide) uX8_redo_X8 fX8_redo_29 (rfl) dX8_redo_1 ?_
  refine wp_getiN (k := 2) (z := 2) hC rfl (rfl) (by decide) (rfl) (rfl) (by decide) uX8_redo_X2 fnX8_290 (rfl) dX8_redo_4 ?_
  refine wp_top (b := σ 106 2) rfl ?_
  refine wp_if_ne (tgt := 13) hC dX8_redo_7 (by decide) (by omega) (fun c_7 => ?_) (fun c_7 => ?_)
  · have hl := hL.2 (σ 106 1 + 1) (by omega) (by omega)
    have hks := (hk (σ 106 1 + 1) (by omega) (by omega)).1
    refine wp_aload_n hC dX8_redo_13 rfl ?_
    refine wp_aload_n hC dX8_redo_14 rfl ?_
    refine wp_geta (k := 3) hC (rfl) (by decide) (rfl) (rfl) (by decide) uX8_redo_X8 fX8_redo_29 (rfl) dX8_redo_15 ?_
    refine wp_iconst hC dX8_redo_18 ?_
    refine wp_callVr (As := [_]) hC (c_X2_stepBy hG σ (b1 := 1) (by omega) (by omega) (by omega)) gX8_redo_X2_stepBy rfl ⟨rfl, rfl⟩ ⟨by decide, by decide⟩ hyVX2_stepBy (rfl) (by decide) (rfl) rfl (Nat.le_of_ble_eq_true rfl) dX8_redo_19 (fun j_19 s_19 hp_19 => ?_)
    have hp_19 : j_19 = 108 + 5 * (σ 107 (σ 106 1 + 1)).toNat ∧ s_19 = (put (put σ 106 1 (σ 106 1 + 1)) 106 2 (σ 106 2 - 1)) := hp_19
    obtain ⟨rfl, rfl⟩ := hp_19
    refine wp_callVu (As := [_]) hC (c_X8_layStepBack hG (put (put σ 106 1 (σ 106 1 + 1)) 106 2 (σ 106 2 - 1)) (t := (σ 107 (σ 106 1 + 1)).toNat) (by omega) hn (by rw [put_q (by omega), put_q (by omega)]; omega)) gX8_redo_X8_layStepBack rfl ⟨rfl, rfl⟩ ⟨by decide, by decide⟩ hyVX8_layStepBack (rfl) (by decide) (rfl) rfl (Nat.le_of_ble_eq_true rfl) dX8_redo_22 ?_
    refine wp_aload_n hC dX8_redo_25 rfl ?_
    refine wp_geta (k := 3) hC (rfl) (by decide) (rfl) (rfl) (by decide) uX8_redo_X8 fX8_redo_29 (rfl) dX8_redo_26 ?_
    refine wp_getiN (k := 2) (z := 2) hC rfl (rfl) (by decide) (rfl) (rfl) (by decide) uX8_redo_X2 fnX8_290 (rfl) dX8_redo_29 ?_
    refine wp_top (b := σ 106 2 - 1) (by rw [LSX_o (by omega) (by omega)]; exact put_s) ?_
    exact hret _ _ _ _ (by omega) rfl (Or.inr ⟨by omega, rfl, rfl⟩) dX8_redo_32
  · refine wp_bipush hC dX8_redo_10 rfl ?_
    exact hret _ _ _ _ (by omega) rfl (Or.inl ⟨by omega, rfl, rfl⟩) dX8_redo_12

theorem hyVX8_image : yX8_image.cls = RX8 ∧ yX8_image.cls ≠ "java/lang/invoke/MethodHandle" ∧ yX8_image.cls ≠ "java/lang/invoke/VarHandle" ∧ (parseMethodDescriptor yX8_image.desc).map (fun d => d.parameters.length) = some 0 := by decide +kernel
theorem uX8_image_X8 : ∀ w ∈ u_ws RX8 TX8 13, w ∈ wsX8_image := by decide +kernel
theorem fX8_image_23 : Cond.fieldLink RX8 23 (TX8 2).1 (TX8 2).2.1 (TX8 2).2.2.1 ∈ wsX8_image := by decide +kernel
theorem fX8_image_19 : Cond.fieldLink RX8 19 (TX8 1).1 (TX8 1).2.1 (TX8 1).2.2.1 ∈ wsX8_image := by decide +kernel
theorem fX8_image_12 : Cond.fieldLink RX8 12 (TX8 0).1 (TX8 0).2.1 (TX8 0).2.2.1 ∈ wsX8_image := by decide +kernel
theorem uX8_image_X0 : ∀ w ∈ u_ws RX0 TX0 6, w ∈ wsX8_image := by decide +kernel
theorem fX8_image_297 : Cond.fieldLink RX8 297 (TX8 10).1 (TX8 10).2.1 (TX8 10).2.2.1 ∈ wsX8_image := by decide +kernel
set_option maxHeartbeats 4000000 in
set_option maxRecDepth 100000 in
theorem c_X8_image {l : Launch} {G : Gy} (hG : Inj G) (σ : St) (h : XO σ) : ME l yX8_image wsX8_image ({ frames := 3, cells := 0, slots := 0, locals := 64 } : Room) G [.ref (G.2.2 82)] σ (pc (TX σ 1)) (put (CPY σ 1 0 (σ 83 5)) 82 10 1) := by
  refine MI.of hG (by decide +kernel) rfl rfl (Nat.le_of_ble_eq_true rfl) rfl ?_
  intro p e s m args below meth c H0 Q hC hret
  have hn := h.1
  refine wp_aload_n hC dX8_image_0 rfl ?_
  refine wp_geta (k := 2) hC (rfl) (by decide) (rfl) (rfl) (by decide) uX8_image_X8 fX8_image_23 (rfl) dX8_image_1 ?_
  refine wp_aload_n hC dX8_image_4 rfl ?_
  refine wp_geta (k := 1) hC (rfl) (by decide) (rfl) (rfl) (by decide) uX8_image_X8 fX8_image_19 (rfl) dX8_image_5 ?_
  refine wp_aload_n hC dX8_image_8 rfl ?_
  refine wp_geta (k := 0) hC (rfl) (by decide) (rfl) (rfl) (by decide) uX8_image_X8 fX8_image_12 (rfl) dX8_image_9 ?_
  refine wp_getiN (k := 5) (z := 5) hC rfl (rfl) (by decide) (rfl) (rfl) (by decide) uX8_image_X0 fnX8_116 (rfl) dX8_image_12 ?_
  refine wp_top (b := σ 83 5) rfl ?_
  refine wp_callVu (As := [_, _]) hC (c_X5_copyOf hG σ (t := 1) (u := 0) (n1 := σ 83 5) (by decide) (by decide) hn) gX8_image_X5_copyOf rfl ⟨rfl, rfl⟩ ⟨by decide, by decide⟩ hyVX5_copyOf (rfl) (by decide) (rfl) rfl (Nat.le_of_ble_eq_true rfl) dX8_image_15 ?_
  refine wp_aload_n hC dX8_image_18 rfl ?_
  refine wp_iconst hC dX8_image_19 ?_
  refine wp_putz2 (k := 10) (z := 10) hC rfl (rfl) (by decide) (rfl) (rfl) (by decide) uX8_image_X8 fX8_image_297 tyX8 tyX8_ok nmX8 rfl rfl (rfl) (by omega) dX8_image_20 ?_
  refine wp_aload_n hC dX8_image_23 rfl ?_
  refine wp_iconst hC dX8_image_24 ?_
  refine wp_callVe (As := [_]) hC (c_X8_howMany hG (put (CPY σ 1 0 (σ 83 5)) 82 10 1) (w := 1) (XO_c h (fun a b z => by rw [put_q (by omega), CPY_o (by omega)])) (by omega)) gX8_image_X8_howMany rfl ⟨rfl, rfl⟩ ⟨by decide, by decide⟩ hyVX8_howMany (rfl) (by decide) (rfl) rfl (Nat.le_of_ble_eq_true rfl) dX8_image_25 (fun hx_25 => ?_)
  refine wp_top (b := pc (TX σ 1)) (by rw [TX_c (σ := σ) (by rw [put_q (by omega), CPY_o (by omega)]) (fun o _ _ => by rw [put_q (by omega), CPY_o (by omega)])]) ?_
  exact hret _ _ _ _ (by have := pc_rng (TX σ 1); omega) rfl (⟨rfl, rfl⟩) dX8_image_28

theorem hyVX8_back : yX8_back.cls = RX8 ∧ yX8_back.cls ≠ "java/lang/invoke/MethodHandle" ∧ yX8_back.cls ≠ "java/lang/invoke/VarHandle" ∧ (parseMethodDescriptor yX8_back.desc).map (fun d => d.parameters.length) = some 0 := by decide +kernel
theorem uX8_back_X8 : ∀ w ∈ u_ws RX8 TX8 13, w ∈ wsX8_back := by decide +kernel
theorem fX8_back_297 : Cond.fieldLink RX8 297 (TX8 10).1 (TX8 10).2.1 (TX8 10).2.2.1 ∈ wsX8_back := by decide +kernel
theorem fX8_back_23 : Cond.fieldLink RX8 23 (TX8 2).1 (TX8 2).2.1 (TX8 2).2.2.1 ∈ wsX8_back := by decide +kernel
theorem fX8_back_29 : Cond.fieldLink RX8 29 (TX8 3).1 (TX8 3).2.1 (TX8 3).2.2.1 ∈ wsX8_back := by decide +kernel
theorem fX8_back_19 : Cond.fieldLink RX8 19 (TX8 1).1 (TX8 1).2.1 (TX8 1).2.2.1 ∈ wsX8_back := by decide +kernel
theorem fX8_back_12 : Cond.fieldLink RX8 12 (TX8 0).1 (TX8 0).2.1 (TX8 0).2.2.1 ∈ wsX8_back := by decide +kernel
theorem uX8_back_X0 : ∀ w ∈ u_ws RX0 TX0 6, w ∈ wsX8_back := by decide +kernel
set_option maxHeartbeats 4000000 in
set_option maxRecDepth 100000 in
theorem c_X8_back {l : Launch} {G : Gy} (hG : Inj G) (σ : St) (h : XO σ) (hL : XL σ) (hb : σ 82 10 = 0 ∨ σ 82 10 = 1) (hk : σ 82 10 = 1 → SOK σ 1) : MI l yX8_back wsX8_back ({ frames := 3, cells := 0, slots := 0, locals := 64 } : Room) G [.ref (G.2.2 82)] σ (fun x σ2 => (σ 82 10 = 0 ∧ x = -5 ∧ σ2 = σ) ∨ (σ 82 10 = 1 ∧ x = pc (TX (LBX σ 1) 1) ∧ σ2 = (CPY (put (put (LBX σ 1) 106 1 0) 106 2 0) (σ 107 0).toNat 0 (σ 83 5)))) := by
  refine MI.of hG (by decide +kernel) rfl rfl (Nat.le_of_ble_eq_true rfl) rfl ?_
  intro p e s m args below meth c H0 Q hC hret
  have hn := h.1
  have h0 := hL.2 0 (by decide) (by decide)
  refine wp_aload_n hC dX8_back_0 rfl ?_
  refine wp_geti (k := 10) (z := 10) hC rfl (rfl) (by decide) (rfl) (rfl) (by decide) uX8_back_X8 fX8_back_297 (rfl) dX8_back_1 ?_
  refine wp_top (b := σ 82 10) rfl ?_
  refine wp_if_ne (tgt := 10) hC dX8_back_4 (by decide) (by omega) (fun c_4 => ?_) (fun c_4 => ?_)
  · have hs := hk (by omega)
    have hs1 := hs.1
    have eL5 : LBX σ 1 83 5 = σ 83 5 := LBX_o (by omega) (by omega)
    have eL7 : ∀ k, LBX σ 1 107 k = σ 107 k := fun k => LBX_o (by omega) (by omega)
    refine wp_aload_n hC dX8_back_10 rfl ?_
    refine wp_aload_n hC dX8_back_11 rfl ?_
    refine wp_geta (k := 2) hC (rfl) (by decide) (rfl) (rfl) (by decide) uX8_back_X8 fX8_back_23 (rfl) dX8_back_12 ?_
    refine wp_callVu (As := [_]) hC (c_X8_layBack hG σ (t := 1) (by decide) hn (by show 0 ≤ σ (108 + 5 * 1) 4 ∧ σ (108 + 5 * 1) 4 ≤ 24; omega)) gX8_back_X8_layBack rfl ⟨rfl, rfl⟩ ⟨by decide, by decide⟩ hyVX8_layBack (rfl) (by decide) (rfl) rfl (Nat.le_of_ble_eq_true rfl) dX8_back_15 ?_
    refine wp_aload_n hC dX8_back_18 rfl ?_
    refine wp_geta (k := 3) hC (rfl) (by decide) (rfl) (rfl) (by decide) uX8_back_X8 fX8_back_29 (rfl) dX8_back_19 ?_
    refine wp_aload_n hC dX8_back_22 rfl ?_
    refine wp_geta (k := 1) hC (rfl) (by decide) (rfl) (rfl) (by decide) uX8_back_X8 fX8_back_19 (rfl) dX8_back_23 ?_
    refine wp_aload_n hC dX8_back_26 rfl ?_
    refine wp_geta (k := 0) hC (rfl) (by decide) (rfl) (rfl) (by decide) uX8_back_X8 fX8_back_12 (rfl) dX8_back_27 ?_
    refine wp_getiN (k := 5) (z := 5) hC rfl (rfl) (by decide) (rfl) (rfl) (by decide) uX8_back_X0 fnX8_116 (rfl) dX8_back_30 ?_
    refine wp_top (b := σ 83 5) eL5 ?_
    refine wp_callVu (As := [_, _]) hC (c_X2_startFrom hG (LBX σ 1) (n1 := σ 83 5) hn (fun k a b => by rw [eL7]; exact hL.2 k a b)) gX8_back_X2_startFrom rfl ⟨rfl, rfl⟩ ⟨by decide, by decide⟩ hyVX2_startFrom (rfl) (by decide) (rfl) rfl (Nat.le_of_ble_eq_true rfl) dX8_back_33 ?_
    refine wp_st (σ2 := (CPY (put (put (LBX σ 1) 106 1 0) 106 2 0) (σ 107 0).toNat 0 (σ 83 5))) (by rw [eL7]) ?_
    refine wp_aload_n hC dX8_back_36 rfl ?_
    refine wp_iconst hC dX8_back_37 ?_
    refine wp_callVe (As := [_]) hC (c_X8_howMany hG (CPY (put (put (LBX σ 1) 106 1 0) 106 2 0) (σ 107 0).toNat 0 (σ 83 5)) (w := 1) (XO_c (XO_LBX h hs) (fun a b z => by rw [CPY_o (by omega), put_q (by omega), put_q (by omega)])) (by omega)) gX8_back_X8_howMany rfl ⟨rfl, rfl⟩ ⟨by decide, by decide⟩ hyVX8_howMany (rfl) (by decide) (rfl) rfl (Nat.le_of_ble_eq_true rfl) dX8_back_38 (fun hx_38 => ?_)
    refine wp_top (b := pc (TX (LBX σ 1) 1)) (by rw [TX_c (σ := LBX σ 1) (by rw [CPY_o (by omega), put_q (by omega), put_q (by omega)]) (fun o _ _ => by rw [CPY_o (by omega), put_q (by omega), put_q (by omega)])]) ?_
    exact hret _ _ _ _ (by have := pc_rng (TX (LBX σ 1) 1); omega) rfl (Or.inr ⟨by omega, rfl, rfl⟩) dX8_back_41
  · refine wp_bipush hC dX8_back_7 rfl ?_
    exact hret _ _ _ _ (by omega) rfl (Or.inl ⟨by omega, rfl, rfl⟩) dX8_back_9
