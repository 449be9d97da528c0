theorem hyTJ0_coder_7d493 : yJ0_coder_7d493.cls = RJ0 ∧ yJ0_coder_7d493.cls ≠ "java/lang/invoke/MethodHandle" ∧ yJ0_coder_7d493.cls ≠ "java/lang/invoke/VarHandle" ∧ (parseMethodDescriptor yJ0_coder_7d493.desc).map (fun d => d.parameters.length) = some 0 := by decide +kernel
theorem hyTJ0_length_8abf5 : yJ0_length_8abf5.cls = RJ0 ∧ yJ0_length_8abf5.cls ≠ "java/lang/invoke/MethodHandle" ∧ yJ0_length_8abf5.cls ≠ "java/lang/invoke/VarHandle" ∧ (parseMethodDescriptor yJ0_length_8abf5.desc).map (fun d => d.parameters.length) = some 0 := by decide +kernel
theorem hyTJ0_isLatin1_aae02 : yJ0_isLatin1_aae02.cls = RJ0 ∧ yJ0_isLatin1_aae02.cls ≠ "java/lang/invoke/MethodHandle" ∧ yJ0_isLatin1_aae02.cls ≠ "java/lang/invoke/VarHandle" ∧ (parseMethodDescriptor yJ0_isLatin1_aae02.desc).map (fun d => d.parameters.length) = some 0 := by decide +kernel
theorem hyTJ0_charAt_5068e : yJ0_charAt_5068e.cls = RJ0 ∧ yJ0_charAt_5068e.cls ≠ "java/lang/invoke/MethodHandle" ∧ yJ0_charAt_5068e.cls ≠ "java/lang/invoke/VarHandle" ∧ (parseMethodDescriptor yJ0_charAt_5068e.desc).map (fun d => d.parameters.length) = some 1 := by decide +kernel
theorem hySJ3_checkIndex_8e157 : yJ3_checkIndex_8e157.cls ≠ "java/lang/invoke/MethodHandle" ∧ yJ3_checkIndex_8e157.cls ≠ "java/lang/invoke/VarHandle" ∧ (parseMethodDescriptor yJ3_checkIndex_8e157.desc).map (fun d => d.parameters.length) = some 3 := by decide +kernel
theorem hySJ0_checkIndex_df160 : yJ0_checkIndex_df160.cls ≠ "java/lang/invoke/MethodHandle" ∧ yJ0_checkIndex_df160.cls ≠ "java/lang/invoke/VarHandle" ∧ (parseMethodDescriptor yJ0_checkIndex_df160.desc).map (fun d => d.parameters.length) = some 2 := by decide +kernel
theorem hySJ1_charAt_3b067 : yJ1_charAt_3b067.cls ≠ "java/lang/invoke/MethodHandle" ∧ yJ1_charAt_3b067.cls ≠ "java/lang/invoke/VarHandle" ∧ (parseMethodDescriptor yJ1_charAt_3b067.desc).map (fun d => d.parameters.length) = some 2 := by decide +kernel

/-- a string constant's sign -/
def chS (i k : Nat) : Int := ((bytS.getD i []).getD k 0).toInt
theorem chS_at : ∀ i, i < 4 → ∀ k, k < lenS.getD i 0 → (97 ≤ chS i k ∧ chS i k ≤ 122) ∧ iand (chS i k) 255 = chS i k := by decide +kernel
theorem lenS_at : ∀ i, i < 4 → ishr (lenS.getD i 0) 0 = lenS.getD i 0 ∧ (1 ≤ lenS.getD i 0 ∧ lenS.getD i 0 ≤ 8) := by decide +kernel
theorem c_J0_coder {l : Launch} {G : Gy} {Z : Ky} (hG : Inj G) (σ : St) {i : Nat} (hi : i < 4) : MIk l yJ0_coder_7d493 wsJ0_coder_7d493 ({ frames := 0, cells := 0, slots := 0, locals := 0 } : Room) G Z [.ref (Z.1 i)] σ (fun x σ2 => x = 0 ∧ σ2 = σ) := by
  refine MIk.of hG (by decide +kernel) rfl rfl (Nat.le_of_ble_eq_true rfl) rfl ?_
  intro p e s m args below meth c Q hC hK hret
  refine wp_getst (v := .int (zI 1)) hC hK.2.2.1 (by decide +kernel) dJ0_coder_7d493_0 ?_
  refine wp_if_eq (tgt := 13) hC dJ0_coder_7d493_3 (by decide) ⟨by decide, by decide⟩ (fun c_3 => absurd c_3 (by decide)) (fun c_3 => ?_)
  refine wp_aload_n hC dJ0_coder_7d493_6 rfl ?_
  refine wp_getS (v := .int (zI 0)) hC (hK.1.1 i hi).2.1 (by decide +kernel) dJ0_coder_7d493_7 ?_
  refine wp_goto (tgt := 14) hC dJ0_coder_7d493_10 (by decide) ?_
  exact hret _ _ _ _ ⟨by decide, by decide⟩ rfl ⟨rfl, rfl⟩ dJ0_coder_7d493_14
theorem c_J0_length {l : Launch} {G : Gy} {Z : Ky} (hG : Inj G) (σ : St) {i : Nat} (hi : i < 4) : MIk l yJ0_length_8abf5 wsJ0_length_8abf5 ({ frames := 1, cells := 0, slots := 0, locals := 20 } : Room) G Z [.ref (Z.1 i)] σ (fun x σ2 => x = lenS.getD i 0 ∧ σ2 = σ) := by
  refine MIk.of hG (by decide +kernel) rfl rfl (Nat.le_of_ble_eq_true rfl) rfl ?_
  intro p e s m args below meth c Q hC hK hret
  have hL := lenS_at i hi
  refine wp_aload_n hC dJ0_length_8abf5_0 rfl ?_
  refine wp_getS hC (hK.1.1 i hi).2.2.1 (by decide +kernel) dJ0_length_8abf5_1 ?_
  refine wp_tlen hC (hK.1.1 i hi).2.2.2 dJ0_length_8abf5_4 ?_
  refine wp_aload_n hC dJ0_length_8abf5_5 rfl ?_
  refine wp_callTik (As := []) hC hK (c_J0_coder hG σ hi) gJ0_length_8abf5_J0_coder_7d493 rfl ⟨rfl, rfl⟩ ⟨by decide, by decide⟩ hyTJ0_coder_7d493 hi rfl (Nat.le_of_ble_eq_true rfl) dJ0_length_8abf5_6 (fun x_6 s_6 hx_6 hp_6 => ?_)
  obtain ⟨rfl, rfl⟩ := hp_6
  refine wp_ishr hC dJ0_length_8abf5_9 ?_
  refine wp_top hL.1 ?_
  exact hret _ _ _ _ ⟨by omega, by omega⟩ rfl ⟨rfl, rfl⟩ dJ0_length_8abf5_10
theorem c_J0_isLatin1 {l : Launch} {G : Gy} {Z : Ky} (hG : Inj G) (σ : St) {i : Nat} (hi : i < 4) : MIk l yJ0_isLatin1_aae02 wsJ0_isLatin1_aae02 ({ frames := 0, cells := 0, slots := 0, locals := 0 } : Room) G Z [.ref (Z.1 i)] σ (fun x σ2 => x = 1 ∧ σ2 = σ) := by
  refine MIk.of hG (by decide +kernel) rfl rfl (Nat.le_of_ble_eq_true rfl) rfl ?_
  intro p e s m args below meth c Q hC hK hret
  refine wp_getst (v := .int (zI 1)) hC hK.2.2.1 (by decide +kernel) dJ0_isLatin1_aae02_0 ?_
  refine wp_if_eq (tgt := 17) hC dJ0_isLatin1_aae02_3 (by decide) ⟨by decide, by decide⟩ (fun c_3 => absurd c_3 (by decide)) (fun c_3 => ?_)
  refine wp_aload_n hC dJ0_isLatin1_aae02_6 rfl ?_
  refine wp_getS (v := .int (zI 0)) hC (hK.1.1 i hi).2.1 (by decide +kernel) dJ0_isLatin1_aae02_7 ?_
  refine wp_if_ne (tgt := 17) hC dJ0_isLatin1_aae02_10 (by decide) ⟨by decide, by decide⟩ (fun c_10 => absurd rfl c_10) (fun c_10 => ?_)
  refine wp_iconst hC dJ0_isLatin1_aae02_13 ?_
  refine wp_goto (tgt := 18) hC dJ0_isLatin1_aae02_14 (by decide) ?_
  exact hret _ _ _ _ ⟨by decide, by decide⟩ rfl ⟨rfl, rfl⟩ dJ0_isLatin1_aae02_18
theorem c_J3_checkIndex {l : Launch} {G : Gy} (hG : Inj G) (σ : St) {x n : Int} {v : Value} (hv : v = .null ∨ ∃ t, v = .ref t) (hx : 0 ≤ x ∧ x < n) (hn : n ≤ 100) : MI l yJ3_checkIndex_8e157 wsJ3_checkIndex_8e157 ({ frames := 0, cells := 0, slots := 0, locals := 0 } : Room) G [.int (zI x), .int (zI n), v] σ (fun r σ2 => r = x ∧ σ2 = σ) := by
  rcases hv with rfl | ⟨t, rfl⟩
  all_goals
    refine MI.of hG (by decide +kernel) rfl rfl (Nat.le_of_ble_eq_true rfl) rfl ?_
    intro p e s m args below meth c H0 Q hC hret
    refine wp_iload_n hC dJ3_checkIndex_8e157_0 rfl ?_
    refine wp_if_lt (tgt := 9) hC dJ3_checkIndex_8e157_1 (by decide) ⟨by omega, by omega⟩ (fun c_1 => absurd c_1 (by omega)) (fun c_1 => ?_)
    refine wp_iload_n hC dJ3_checkIndex_8e157_4 rfl ?_
    refine wp_iload_n hC dJ3_checkIndex_8e157_5 rfl ?_
    refine wp_icmp_lt (tgt := 16) hC dJ3_checkIndex_8e157_6 (by decide) ⟨by omega, by omega⟩ ⟨by omega, by omega⟩ (fun c_6 => ?_) (fun c_6 => absurd c_6 (by omega))
    refine wp_iload_n hC dJ3_checkIndex_8e157_16 rfl ?_
    exact hret _ _ _ _ ⟨by omega, by omega⟩ rfl ⟨rfl, rfl⟩ dJ3_checkIndex_8e157_17
theorem c_J0_checkIndex {l : Launch} {G : Gy} {Z : Ky} (hG : Inj G) (σ : St) {x n : Int} (hx : 0 ≤ x ∧ x < n) (hn : n ≤ 100) : MVk l yJ0_checkIndex_df160 wsJ0_checkIndex_df160 ({ frames := 1, cells := 0, slots := 0, locals := 22 } : Room) G Z [.int (zI x), .int (zI n)] σ (fun σ2 => σ2 = σ) := by
  refine MVk.of hG (by decide +kernel) rfl rfl (Nat.le_of_ble_eq_true rfl) rfl ?_
  intro p e s m args below meth c Q hC hK hret
  have hz : ∃ v : Value, (v = .null ∨ ∃ t, v = .ref t) ∧ va_Z RJ3 "SIOOBE_FORMATTER" "Ljava/util/function/BiFunction;" v (aA G s.heap.size) s s.heap := by
    rcases hK.2.2.2 with q | ⟨t, q⟩
    · exact ⟨_, Or.inl rfl, q⟩
    · exact ⟨_, Or.inr ⟨t, rfl⟩, q⟩
  obtain ⟨v, hv, hz⟩ := hz
  refine wp_iload_n hC dJ0_checkIndex_df160_0 rfl ?_
  refine wp_iload_n hC dJ0_checkIndex_df160_1 rfl ?_
  refine wp_getst hC hz (by decide +kernel) dJ0_checkIndex_df160_2 ?_
  refine wp_callSi (As := [_, _, _]) hC (c_J3_checkIndex hG σ hv hx hn) gJ0_checkIndex_df160_J3_checkIndex_8e157 rfl ⟨rfl, rfl⟩ ⟨by decide, by decide⟩ hySJ3_checkIndex_8e157 rfl (Nat.le_of_ble_eq_true rfl) dJ0_checkIndex_df160_5 (fun x_5 s_5 hx_5 hp_5 => ?_)
  obtain ⟨rfl, rfl⟩ := hp_5
  refine wp_pop hC dJ0_checkIndex_df160_8 rfl ?_
  exact hret _ _ _ rfl dJ0_checkIndex_df160_9
theorem c_J1_charAt {l : Launch} {G : Gy} {Z : Ky} (hG : Inj G) (σ : St) {i k : Nat} (hi : i < 4) (hk : k < lenS.getD i 0) : MIk l yJ1_charAt_3b067 wsJ1_charAt_3b067 ({ frames := 2, cells := 0, slots := 0, locals := 43 } : Room) G Z [.ref (Z.2 i), .int (zI k)] σ (fun x σ2 => x = chS i k ∧ σ2 = σ) := by
  refine MIk.of hG (by decide +kernel) rfl rfl (Nat.le_of_ble_eq_true rfl) rfl ?_
  intro p e s m args below meth c Q hC hK hret
  have hL := (lenS_at i hi).2
  obtain ⟨h1, h2⟩ := chS_at i hi k hk
  refine wp_iload_n hC dJ1_charAt_3b067_0 rfl ?_
  refine wp_aload_n hC dJ1_charAt_3b067_1 rfl ?_
  refine wp_tlen hC (hK.1.1 i hi).2.2.2 dJ1_charAt_3b067_2 ?_
  refine wp_callSvk (As := [_, _]) hC hK (c_J0_checkIndex hG σ (x := k) (n := lenS.getD i 0) (by omega) (by omega)) gJ1_charAt_3b067_J0_checkIndex_df160 rfl ⟨rfl, rfl⟩ ⟨by decide, by decide⟩ hySJ0_checkIndex_df160 rfl (Nat.le_of_ble_eq_true rfl) dJ1_charAt_3b067_3 (fun s_3 hp_3 => ?_)
  subst hp_3
  refine wp_aload_n hC dJ1_charAt_3b067_6 rfl ?_
  refine wp_iload_n hC dJ1_charAt_3b067_7 rfl ?_
  refine wp_tb (v := .int (zI (chS i k))) hC (hK.1.1 i hi).2.2.2 (by omega) (by omega) (by unfold chS; rw [zI_of, Int.toNat_natCast]) dJ1_charAt_3b067_8 ?_
  refine wp_sipush (n := 255) hC dJ1_charAt_3b067_9 rfl ?_
  refine wp_iand hC dJ1_charAt_3b067_12 ?_
  refine wp_top h2 ?_
  refine wp_i2c hC dJ1_charAt_3b067_13 (by omega) ?_
  exact hret _ _ _ _ ⟨by omega, by omega⟩ (nar_c (by omega)) ⟨rfl, rfl⟩ dJ1_charAt_3b067_14
theorem c_J0_charAt {l : Launch} {G : Gy} {Z : Ky} (hG : Inj G) (σ : St) {i k : Nat} (hi : i < 4) (hk : k < lenS.getD i 0) : MIk l yJ0_charAt_5068e wsJ0_charAt_5068e ({ frames := 3, cells := 0, slots := 0, locals := 64 } : Room) G Z [.ref (Z.1 i), .int (zI k)] σ (fun x σ2 => x = chS i k ∧ σ2 = σ) := by
  refine MIk.of hG (by decide +kernel) rfl rfl (Nat.le_of_ble_eq_true rfl) rfl ?_
  intro p e s m args below meth c Q hC hK hret
  obtain ⟨h1, h2⟩ := chS_at i hi k hk
  refine wp_aload_n hC dJ0_charAt_5068e_0 rfl ?_
  refine wp_callTik (As := []) hC hK (c_J0_isLatin1 hG σ hi) gJ0_charAt_5068e_J0_isLatin1_aae02 rfl ⟨rfl, rfl⟩ ⟨by decide, by decide⟩ hyTJ0_isLatin1_aae02 hi rfl (Nat.le_of_ble_eq_true rfl) dJ0_charAt_5068e_1 (fun x_1 s_1 hx_1 hp_1 => ?_)
  obtain ⟨rfl, rfl⟩ := hp_1
  refine wp_if_eq (tgt := 16) hC dJ0_charAt_5068e_4 (by decide) ⟨by decide, by decide⟩ (fun c_4 => absurd c_4 (by decide)) (fun c_4 => ?_)
  refine wp_aload_n hC dJ0_charAt_5068e_7 rfl ?_
  refine wp_getS hC (hK.1.1 i hi).2.2.1 (by decide +kernel) dJ0_charAt_5068e_8 ?_
  refine wp_iload_n hC dJ0_charAt_5068e_11 rfl ?_
  refine wp_callSik (As := [_, _]) hC hK (c_J1_charAt hG _ hi hk) gJ0_charAt_5068e_J1_charAt_3b067 rfl ⟨rfl, rfl⟩ ⟨by decide, by decide⟩ hySJ1_charAt_3b067 rfl (Nat.le_of_ble_eq_true rfl) dJ0_charAt_5068e_12 (fun x_12 s_12 hx_12 hp_12 => ?_)
  obtain ⟨rfl, rfl⟩ := hp_12
  exact hret _ _ _ _ ⟨by omega, by omega⟩ (nar_c (by omega)) ⟨rfl, rfl⟩ dJ0_charAt_5068e_15
