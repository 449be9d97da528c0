/-! signs printed one after another -/
def PL (σ : St) (L : List Int) : St := L.foldl PS σ
theorem PL_app {σ : St} {L M : List Int} : PL (PL σ L) M = PL σ (L ++ M) := (List.foldl_append ..).symm
theorem PL_snoc {σ : St} {L : List Int} {c : Int} : PS (PL σ L) c = PL σ (L ++ [c]) := PL_app (M := [c])
theorem PL_1 : ∀ {L : List Int} {σ : St}, PL σ L 103 1 = σ 103 1 + L.length
  | [], σ => by show σ 103 1 = σ 103 1 + ((0 : Nat) : Int); omega
  | c :: L, σ => by
    show PL (PS σ c) L 103 1 = _
    rw [PL_1]
    show σ 103 1 + 1 + (L.length : Int) = σ 103 1 + ((L.length + 1 : Nat) : Int)
    omega
theorem PL_o : ∀ {L : List Int} {σ : St} {a : Nat} {b : Int}, a ≠ 104 → ¬ (a = 103 ∧ b = 1) → PL σ L a b = σ a b
  | [], σ, a, b, _, _ => rfl
  | c :: L, σ, a, b, h, h2 => by
    show PL (PS σ c) L a b = _
    rw [PL_o h h2]
    unfold PS
    rw [put_q h2, put_i h]
/-- the sign at a place -/
theorem PL_at : ∀ {L : List Int} {σ : St} {b : Int}, PL σ L 104 b = if σ 103 1 ≤ b ∧ b < σ 103 1 + L.length then L.getD (b - σ 103 1).toNat 0 else σ 104 b
  | [], σ, b => by
    show σ 104 b = _
    rw [if_neg (by
      show ¬ (σ 103 1 ≤ b ∧ b < σ 103 1 + ((0 : Nat) : Int))
      omega)]
  | c :: L, σ, b => by
    have e1 : PS σ c 103 1 = σ 103 1 + 1 := rfl
    show PL (PS σ c) L 104 b = if σ 103 1 ≤ b ∧ b < σ 103 1 + ((L.length + 1 : Nat) : Int) then (c :: L).getD (b - σ 103 1).toNat 0 else σ 104 b
    rw [PL_at, e1]
    by_cases z : b = σ 103 1
    · rw [if_neg (by omega), if_pos (by omega), z, show (σ 103 1 - σ 103 1).toNat = 0 by omega]
      unfold PS
      rw [put_i (by decide), put_s]
      rfl
    · by_cases y : σ 103 1 + 1 ≤ b ∧ b < σ 103 1 + 1 + L.length
      · rw [if_pos y, if_pos (by omega), show (b - σ 103 1).toNat = (b - (σ 103 1 + 1)).toNat + 1 by omega]
        rfl
      · rw [if_neg y, if_neg (by omega)]
        unfold PS
        rw [put_i (by decide), put_e, if_neg z]
/-- a word's signs -/
def wdL (i : Nat) : List Int := (bytS.getD i []).map (fun b => b.toInt)
theorem wdL_at : ∀ i, i < 4 → (wdL i).length = lenS.getD i 0 ∧ ∀ k, k < lenS.getD i 0 → (wdL i).take (k + 1) = (wdL i).take k ++ [chS i k] := by decide +kernel
theorem hyVX3_word : yX3_word.cls = RX3 ∧ yX3_word.cls ≠ "java/lang/invoke/MethodHandle" ∧ yX3_word.cls ≠ "java/lang/invoke/VarHandle" ∧ (parseMethodDescriptor yX3_word.desc).map (fun d => d.parameters.length) = some 1 := by decide +kernel
theorem c_X3_word {l : Launch} {G : Gy} {Z : Ky} (hG : Inj G) (σ : St) {i : Nat} (hi : i < 4) (hz : 0 ≤ σ 103 1 ∧ σ 103 1 + 8 ≤ 32) : MVk l yX3_word wsX3_word ({ frames := 4, cells := 0, slots := 0, locals := 85 } : Room) G Z [.ref (G.2.2 103), .ref (Z.1 i)] σ (fun σ2 => σ2 = PL σ (wdL i)) := by
  refine MVk.of hG (by decide +kernel) rfl rfl (Nat.le_of_ble_eq_true rfl) rfl ?_
  intro p e s m args below meth c Q hC hK hret
  have hL := (lenS_at i hi).2
  obtain ⟨hw1, hw2⟩ := wdL_at i hi
  have L2 : ∀ (n k : Nat), lenS.getD i 0 - k = n → k ≤ lenS.getD i 0 → wp p l e ({ frames := 4, cells := 0, slots := 0, locals := 85 } : Room) s m args below meth c (aA G s.heap.size) s.heap 3 Q G (PL σ ((wdL i).take k)) 2 [(0, .ref (G.2.2 103)), (1, .ref (Z.1 i)), (2, .int (zI k))] [] := by
    intro n2
    induction n2 using Nat.strongRecOn with
    | ind n2 ih =>
      intro k hm hk
      have h1 : PL σ ((wdL i).take k) 103 1 = σ 103 1 + k := by
        rw [PL_1, List.length_take, hw1]
        omega
      refine wp_iload_n hC dX3_word_2 rfl ?_
      refine wp_aload_n hC dX3_word_3 rfl ?_
      refine wp_callTik (As := []) hC hK (c_J0_length hG _ hi) gX3_word_J0_length_8abf5 rfl ⟨rfl, rfl⟩ ⟨by decide, by decide⟩ hyTJ0_length_8abf5 hi rfl (Nat.le_of_ble_eq_true rfl) dX3_word_4 (fun x_4 s_4 hx_4 hp_4 => ?_)
      obtain ⟨e4, e4s⟩ := hp_4
      subst e4
      subst e4s
      refine wp_icmp_ge (tgt := 25) hC dX3_word_7 (by decide) ⟨by omega, by omega⟩ ⟨by omega, by omega⟩ (fun c_7 => ?_) (fun c_7 => ?_)
      · exact hret _ _ _ (by rw [List.take_of_length_le (by omega)]) dX3_word_25
      · refine wp_aload_n hC dX3_word_10 rfl ?_
        refine wp_aload_n hC dX3_word_11 rfl ?_
        refine wp_iload_n hC dX3_word_12 rfl ?_
        have hc := (chS_at i hi k (by omega)).1
        refine wp_callTik (As := [_]) hC hK (c_J0_charAt hG _ hi (k := k) (by omega)) gX3_word_J0_charAt_5068e rfl ⟨rfl, rfl⟩ ⟨by decide, by decide⟩ hyTJ0_charAt_5068e hi rfl (Nat.le_of_ble_eq_true rfl) dX3_word_13 (fun x_13 s_13 hx_13 hp_13 => ?_)
        obtain ⟨e13, e13s⟩ := hp_13
        subst e13
        subst e13s
        refine wp_callVu (As := [_]) hC (c_X3_sign hG (PL σ ((wdL i).take k)) (ch := chS i k) (by omega) (by omega)) gX3_word_X3_sign rfl ⟨rfl, rfl⟩ ⟨by decide, by decide⟩ hyVX3_sign (rfl) (by decide) (rfl) rfl (Nat.le_of_ble_eq_true rfl) dX3_word_16 ?_
        refine wp_iinc (lv2 := [(0, _), (1, _), (2, _)]) hC dX3_word_19 rfl rfl (by decide) ?_
        refine wp_goto (tgt := 2) hC dX3_word_22 (by decide) ?_
        refine wp_st (σ2 := PL σ ((wdL i).take (k + 1))) (by rw [hw2 k (by omega)]; exact PL_snoc) ?_
        exact ih _ (by omega) (k + 1) rfl (by omega)
  refine wp_iconst hC dX3_word_0 ?_
  refine wp_istore_n (lv2 := [(0, _), (1, _), (2, _)]) hC dX3_word_1 rfl (by decide) ?_
  exact L2 _ 0 rfl (by omega)
