/-! the row of states: stored into, its length; where states lie -/
section WP5
variable {p : Program} {l : Launch} {e : Env} {R : Room} {s : State} {m : MethodId} {args : Array Value} {below : List Frame} {meth : Method} {c : Code} {A : Nat → Prop} {H0 : Heap} {nL : Nat} {Q : State → Prop} {G : Gy}
variable {σ : St} {pc : Nat} {lv : List (Nat × Value)} {st : List Value} {cc : ByteArray} {own : String} {Ts : List Cond}
theorem wp_alen5 (hC : Cx p s m args meth c A H0 nL G cc own Ts) {i n : Nat} (hn : ln i = n) (hk : kd i = 5) (hi : i < NID) (hd : decode cc pc = .ok (.arraylength, 1)) (kk : wp p l e R s m args below meth c A H0 nL Q G σ (pc + 1) lv (.int (zI n) :: st)) : wp p l e R s m args below meth c A H0 nL Q G σ pc lv (.ref (G.2.2 i) :: st) := fun H locs ls hP hS hl => by
  subst hn
  refine va_alen (D := G.1) (tys := tysW G) (x := (ln i, .inr (.inr (.inr (.inr (fun j => some (G.2.2 (108 + 5 * (σ i j).toNat)))))))) hC.1 hC.2.1 hC.2.2.2.2.2.1 hP i 4 (by rw [wl_get hi, ct_5 hk]) rfl (v := zI (ln i)) (zI_nI (ln i)).symm hd ?_
  exact kk H locs ls hP hS hl
theorem st_all : ∀ t, t < 15 → kd (108 + 5 * t) = 0 ∧ 108 + 5 * t < NID ∧ kc (108 + 5 * t) = 6 ∧ kn (108 + 5 * t) = 5 ∧ fr (108 + 5 * t) 0 = some (109 + 5 * t) ∧ fr (108 + 5 * t) 1 = some (110 + 5 * t) ∧ fr (108 + 5 * t) 2 = some (111 + 5 * t) ∧ fr (108 + 5 * t) 3 = some (112 + 5 * t) ∧ fr (108 + 5 * t) 4 = none := by decide
theorem st_row : ∀ t, t < 15 → (kd (109 + 5 * t) = 1 ∧ 109 + 5 * t < NID ∧ ln (109 + 5 * t) = 36) ∧ (kd (110 + 5 * t) = 1 ∧ 110 + 5 * t < NID ∧ ln (110 + 5 * t) = 4) ∧ (kd (111 + 5 * t) = 1 ∧ 111 + 5 * t < NID ∧ ln (111 + 5 * t) = 24) ∧ (kd (112 + 5 * t) = 1 ∧ 112 + 5 * t < NID ∧ ln (112 + 5 * t) = 24) := by decide
theorem st_cl {t : Nat} (h : t < 15) : vwCl[kc (108 + 5 * t)]? = some (RX5, TX5, 5) := by rw [(st_all t h).2.2.1]; rfl
theorem put_ar5s {G : Gy} {σ : St} {i t : Nat} {x : Int} (ho : kd i = 5) (hi : i < NID) (hx : 0 ≤ x) : (wl G σ).set i (G.2.2 i, .inl (G.2.1 4, ln i, .inr (.inr (.inr (.inr (va_up (fun j => some (G.2.2 (108 + 5 * (σ i j).toNat))) x.toNat (some (G.2.2 (108 + 5 * t))))))))) = wl G (put σ i x (t : Int)) := by
  refine wl_set hi ?_ (fun j _ hj => ct_put hj)
  rw [ct_5 ho]
  congr 7
  funext j
  unfold va_up
  rw [put_e]
  by_cases h : (j : Int) = x
  · rw [if_pos h, if_pos (by omega), Int.toNat_natCast]
  · rw [if_neg h, if_neg (by omega)]
theorem wp_aast5 {t : Nat} (ht : t < 15) (hC : Cx p s m args meth c A H0 nL G cc own Ts) {i n : Nat} {x : Int} (hn : ln i = n) (hb : n ≤ 4000) (hk : kd i = 5) (hi : i < NID) (hx : 0 ≤ x ∧ x < n) (hd : decode cc pc = .ok (.aastore, 1)) (kk : wp p l e R s m args below meth c A H0 nL Q G (put σ i x (t : Int)) (pc + 1) lv st) : wp p l e R s m args below meth c A H0 nL Q G σ pc lv (.ref (G.2.2 (108 + 5 * t)) :: .int (zI x) :: .ref (G.2.2 i) :: st) := fun H locs ls hP hS hl => by
  subst hn
  obtain ⟨k1, k2, k3, _⟩ := st_all t ht
  refine va_astq (D := G.1) (tys := tysW G) hC.1 hC.2.1 hC.2.2.2.2.2.1 hP (hC.2.2.2.2.2.2.1 σ) hS i 4 (108 + 5 * t) 6 (r := (RX5, TX5, 5)) (by rw [wl_get hi, ct_5 hk]) rfl (by rw [wl_get k2, ct_0 k1, k3]) rfl (zI_vp (show iR x from ⟨by omega, by omega⟩) hx.1 hx.2) hd (fun H1 locs1 hP1 _ hS1 => ?_)
  rw [zI_clamp (show iR x from ⟨by omega, by omega⟩), put_ar5s hk hi hx.1] at hP1
  exact kk H1 locs1 ls hP1 hS1 hl
end WP5
theorem cpy_o {σ : St} {i j a : Nat} {n b : Int} (h : a ≠ j) : cpy σ i j n a b = σ a b := if_neg (fun z => h z.1)
theorem cpy_y {σ : St} {i j : Nat} {n b : Int} (h : 0 ≤ b ∧ b < n) : cpy σ i j n j b = σ i b := if_pos ⟨rfl, h⟩
/-- a state copied into another -/
def CPY (σ : St) (t u : Nat) (n : Int) : St := cpy (cpy (cpy (cpy (put σ (108 + 5 * t) 4 n) (109 + 5 * u) (109 + 5 * t) 36) (110 + 5 * u) (110 + 5 * t) 4) (111 + 5 * u) (111 + 5 * t) n) (112 + 5 * u) (112 + 5 * t) n

theorem hyVX5_copyOf : yX5_copyOf.cls = RX5 ∧ yX5_copyOf.cls ≠ "java/lang/invoke/MethodHandle" ∧ yX5_copyOf.cls ≠ "java/lang/invoke/VarHandle" ∧ (parseMethodDescriptor yX5_copyOf.desc).map (fun d => d.parameters.length) = some 2 := by decide +kernel
theorem uX5_copyOf_X5 : ∀ w ∈ u_ws RX5 TX5 5, w ∈ wsX5_copyOf := by decide +kernel
theorem fX5_copyOf_39 : Cond.fieldLink RX5 39 (TX5 4).1 (TX5 4).2.1 (TX5 4).2.2.1 ∈ wsX5_copyOf := by decide +kernel
theorem fX5_copyOf_9 : Cond.fieldLink RX5 9 (TX5 0).1 (TX5 0).2.1 (TX5 0).2.2.1 ∈ wsX5_copyOf := by decide +kernel
theorem fX5_copyOf_15 : Cond.fieldLink RX5 15 (TX5 1).1 (TX5 1).2.1 (TX5 1).2.2.1 ∈ wsX5_copyOf := by decide +kernel
theorem fX5_copyOf_18 : Cond.fieldLink RX5 18 (TX5 2).1 (TX5 2).2.1 (TX5 2).2.2.1 ∈ wsX5_copyOf := by decide +kernel
theorem fX5_copyOf_21 : Cond.fieldLink RX5 21 (TX5 3).1 (TX5 3).2.1 (TX5 3).2.2.1 ∈ wsX5_copyOf := by decide +kernel
set_option maxHeartbeats 4000000 in
set_option maxRecDepth 100000 in
theorem c_X5_copyOf {l : Launch} {G : Gy} (hG : Inj G) (σ : St) {t u : Nat} {n1 : Int} (ht : t < 15) (hu : u < 15) (hn : 0 ≤ n1 ∧ n1 ≤ 24) : MU l yX5_copyOf wsX5_copyOf ({ frames := 1, cells := 0, slots := 0, locals := 18 } : Room) G [.ref (G.2.2 (108 + 5 * t)), .ref (G.2.2 (108 + 5 * u)), .int (zI (n1))] σ (CPY σ t u n1) := by
  refine MV.of hG (by decide +kernel) rfl rfl (Nat.le_of_ble_eq_true rfl) rfl ?_
  intro p e s m args below meth c H0 Q hC hret
  refine wp_aload_n hC dX5_copyOf_0 rfl ?_
  refine wp_iconst hC dX5_copyOf_1 ?_
  refine wp_iload_n hC dX5_copyOf_2 rfl ?_
  refine wp_bipush hC dX5_copyOf_3 rfl ?_
  refine wp_mmin hC (by decide +kernel) (by decide +kernel) (by decide +kernel) (by decide +kernel) (Nat.le_of_ble_eq_true rfl) (Nat.le_of_ble_eq_true rfl) (by omega) (by omega) dX5_copyOf_5 ?_
  refine wp_mmax hC (by decide +kernel) (by decide +kernel) (by decide +kernel) (by decide +kernel) (Nat.le_of_ble_eq_true rfl) (Nat.le_of_ble_eq_true rfl) (by omega) (by omega) dX5_copyOf_8 ?_
  refine wp_top (b := n1) (by omega) ?_
  refine wp_puti2 (k := 4) (z := 4) hC rfl ((st_all t ht).1) ((st_all t ht).2.1) (st_cl ht) ((st_all t ht).2.2.2.1) (by decide) uX5_copyOf_X5 fX5_copyOf_39 tyX5 tyX5_ok nmX5 rfl rfl ((st_all t ht).2.2.2.2.2.2.2.2) dX5_copyOf_11 ?_
  refine wp_aload_n hC dX5_copyOf_14 rfl ?_
  refine wp_geta (k := 0) hC ((st_all u hu).1) ((st_all u hu).2.1) (st_cl hu) ((st_all u hu).2.2.2.1) (by decide) uX5_copyOf_X5 fX5_copyOf_9 ((st_all u hu).2.2.2.2.1) dX5_copyOf_15 ?_
  refine wp_iconst hC dX5_copyOf_18 ?_
  refine wp_aload_n hC dX5_copyOf_19 rfl ?_
  refine wp_geta (k := 0) hC ((st_all t ht).1) ((st_all t ht).2.1) (st_cl ht) ((st_all t ht).2.2.2.1) (by decide) uX5_copyOf_X5 fX5_copyOf_9 ((st_all t ht).2.2.2.2.1) dX5_copyOf_20 ?_
  refine wp_iconst hC dX5_copyOf_23 ?_
  refine wp_aload_n hC dX5_copyOf_24 rfl ?_
  refine wp_geta (k := 0) hC ((st_all t ht).1) ((st_all t ht).2.1) (st_cl ht) ((st_all t ht).2.2.2.1) (by decide) uX5_copyOf_X5 fX5_copyOf_9 ((st_all t ht).2.2.2.2.1) dX5_copyOf_25 ?_
  refine wp_alen (n := 36) hC ((st_row t ht).1.2.2) ((st_row t ht).1.1) ((st_row t ht).1.2.1) dX5_copyOf_28 ?_
  refine wp_acopy hC ((st_row u hu).1.1) ((st_row t ht).1.1) ((st_row u hu).1.2.1) ((st_row t ht).1.2.1) (by rw [(st_row u hu).1.2.2]; decide) (k := 36) (by rw [(st_row u hu).1.2.2, (st_row t ht).1.2.2]; omega) (by decide +kernel) (by decide +kernel) (by decide +kernel) (by decide +kernel) (Nat.le_of_ble_eq_true rfl) (by decide +kernel) dX5_copyOf_29 ?_
  refine wp_aload_n hC dX5_copyOf_32 rfl ?_
  refine wp_geta (k := 1) hC ((st_all u hu).1) ((st_all u hu).2.1) (st_cl hu) ((st_all u hu).2.2.2.1) (by decide) uX5_copyOf_X5 fX5_copyOf_15 ((st_all u hu).2.2.2.2.2.1) dX5_copyOf_33 ?_
  refine wp_iconst hC dX5_copyOf_36 ?_
  refine wp_aload_n hC dX5_copyOf_37 rfl ?_
  refine wp_geta (k := 1) hC ((st_all t ht).1) ((st_all t ht).2.1) (st_cl ht) ((st_all t ht).2.2.2.1) (by decide) uX5_copyOf_X5 fX5_copyOf_15 ((st_all t ht).2.2.2.2.2.1) dX5_copyOf_38 ?_
  refine wp_iconst hC dX5_copyOf_41 ?_
  refine wp_aload_n hC dX5_copyOf_42 rfl ?_
  refine wp_geta (k := 1) hC ((st_all t ht).1) ((st_all t ht).2.1) (st_cl ht) ((st_all t ht).2.2.2.1) (by decide) uX5_copyOf_X5 fX5_copyOf_15 ((st_all t ht).2.2.2.2.2.1) dX5_copyOf_43 ?_
  refine wp_alen (n := 4) hC ((st_row t ht).2.1.2.2) ((st_row t ht).2.1.1) ((st_row t ht).2.1.2.1) dX5_copyOf_46 ?_
  refine wp_acopy hC ((st_row u hu).2.1.1) ((st_row t ht).2.1.1) ((st_row u hu).2.1.2.1) ((st_row t ht).2.1.2.1) (by rw [(st_row u hu).2.1.2.2]; decide) (k := 4) (by rw [(st_row u hu).2.1.2.2, (st_row t ht).2.1.2.2]; omega) (by decide +kernel) (by decide +kernel) (by decide +kernel) (by decide +kernel) (Nat.le_of_ble_eq_true rfl) (by decide +kernel) dX5_copyOf_47 ?_
  refine wp_aload_n hC dX5_copyOf_50 rfl ?_
  refine wp_geta (k := 2) hC ((st_all u hu).1) ((st_all u hu).2.1) (st_cl hu) ((st_all u hu).2.2.2.1) (by decide) uX5_copyOf_X5 fX5_copyOf_18 ((st_all u hu).2.2.2.2.2.2.1) dX5_copyOf_51 ?_
  refine wp_iconst hC dX5_copyOf_54 ?_
  refine wp_aload_n hC dX5_copyOf_55 rfl ?_
  refine wp_geta (k := 2) hC ((st_all t ht).1) ((st_all t ht).2.1) (st_cl ht) ((st_all t ht).2.2.2.1) (by decide) uX5_copyOf_X5 fX5_copyOf_18 ((st_all t ht).2.2.2.2.2.2.1) dX5_copyOf_56 ?_
  refine wp_iconst hC dX5_copyOf_59 ?_
  refine wp_aload_n hC dX5_copyOf_60 rfl ?_
  refine wp_geti (k := 4) (z := 4) hC rfl ((st_all t ht).1) ((st_all t ht).2.1) (st_cl ht) ((st_all t ht).2.2.2.1) (by decide) uX5_copyOf_X5 fX5_copyOf_39 ((st_all t ht).2.2.2.2.2.2.2.2) dX5_copyOf_61 ?_
  refine wp_top (b := n1) (by rw [cpy_o (by omega), cpy_o (by omega)]; exact put_s) ?_
  refine wp_acopy hC ((st_row u hu).2.2.1.1) ((st_row t ht).2.2.1.1) ((st_row u hu).2.2.1.2.1) ((st_row t ht).2.2.1.2.1) (by rw [(st_row u hu).2.2.1.2.2]; decide) (k := n1) (by rw [(st_row u hu).2.2.1.2.2, (st_row t ht).2.2.1.2.2]; omega) (by decide +kernel) (by decide +kernel) (by decide +kernel) (by decide +kernel) (Nat.le_of_ble_eq_true rfl) (by decide +kernel) dX5_copyOf_64 ?_
  refine wp_aload_n hC dX5_copyOf_67 rfl ?_
  refine wp_geta (k := 3) hC ((st_all u hu).1) ((st_all u hu).2.1) (st_cl hu) ((st_all u hu).2.2.2.1) (by decide) uX5_copyOf_X5 fX5_copyOf_21 ((st_all u hu).2.2.2.2.2.2.2.1) dX5_copyOf_68 ?_
  refine wp_iconst hC dX5_copyOf_71 ?_
  refine wp_aload_n hC dX5_copyOf_72 rfl ?_
  refine wp_geta (k := 3) hC ((st_all t ht).1) ((st_all t ht).2.1) (st_cl ht) ((st_all t ht).2.2.2.1) (by decide) uX5_copyOf_X5 fX5_copyOf_21 ((st_all t ht).2.2.2.2.2.2.2.1) dX5_copyOf_73 ?_
  refine wp_iconst hC dX5_copyOf_76 ?_
  refine wp_aload_n hC dX5_copyOf_77 rfl ?_
  refine wp_geti (k := 4) (z := 4) hC rfl ((st_all t ht).1) ((st_all t ht).2.1) (st_cl ht) ((st_all t ht).2.2.2.1) (by decide) uX5_copyOf_X5 fX5_copyOf_39 ((st_all t ht).2.2.2.2.2.2.2.2) dX5_copyOf_78 ?_
  refine wp_top (b := n1) (by rw [cpy_o (by omega), cpy_o (by omega), cpy_o (by omega)]; exact put_s) ?_
  refine wp_acopy hC ((st_row u hu).2.2.2.1) ((st_row t ht).2.2.2.1) ((st_row u hu).2.2.2.2.1) ((st_row t ht).2.2.2.2.1) (by rw [(st_row u hu).2.2.2.2.2]; decide) (k := n1) (by rw [(st_row u hu).2.2.2.2.2, (st_row t ht).2.2.2.2.2]; omega) (by decide +kernel) (by decide +kernel) (by decide +kernel) (by decide +kernel) (Nat.le_of_ble_eq_true rfl) (by decide +kernel) dX5_copyOf_81 ?_
  exact hret _ _ _ (rfl) dX5_copyOf_84

/-- the states behind changes moved one ahead, the first ones -/
def SHf (σ : St) (i : Int) : St := fun a b => if a = 107 ∧ 0 ≤ b ∧ b < i - 1 then σ 107 (b + 1) else σ a b
def DROP (σ : St) : St := fun a b => if a = 107 ∧ 0 ≤ b ∧ b < 12 then σ 107 (b + 1) else if a = 107 ∧ b = 12 then σ 107 0 else σ a b
theorem SHf_1 {σ : St} : σ = SHf σ 1 := by
  funext a b
  unfold SHf
  rw [if_neg (by omega)]
theorem SHf_s {σ : St} {i : Int} (h : 1 ≤ i) : put (SHf σ i) 107 (i - 1) (σ 107 i) = SHf σ (i + 1) := by
  funext a b
  by_cases q : a = 107 ∧ b = i - 1
  · rw [q.1, q.2, put_s]
    unfold SHf
    rw [if_pos (by omega), show i - 1 + 1 = i by omega]
  · rw [put_q q]
    unfold SHf
    by_cases w : a = 107 ∧ 0 ≤ b ∧ b < i - 1
    · rw [if_pos w, if_pos (by omega)]
    · rw [if_neg w, if_neg (by omega)]
theorem SHf_e {σ : St} : put (SHf σ 13) 107 12 (σ 107 0) = DROP σ := by
  funext a b
  by_cases q : a = 107 ∧ b = 12
  · rw [q.1, q.2, put_s]
    unfold DROP
    rw [if_neg (by omega), if_pos (by decide)]
  · rw [put_q q]
    unfold SHf DROP
    by_cases w : a = 107 ∧ 0 ≤ b ∧ b < 12
    · rw [if_pos (by omega), if_pos w]
    · rw [if_neg (by omega), if_neg w, if_neg q]
theorem SHf_at {σ : St} {i b : Int} (h : i - 1 ≤ b) : SHf σ i 107 b = σ 107 b := if_neg (by omega)

theorem hyVX2_dropFirst : yX2_dropFirst.cls = RX2 ∧ yX2_dropFirst.cls ≠ "java/lang/invoke/MethodHandle" ∧ yX2_dropFirst.cls ≠ "java/lang/invoke/VarHandle" ∧ (parseMethodDescriptor yX2_dropFirst.desc).map (fun d => d.parameters.length) = some 0 := by decide +kernel
theorem uX2_dropFirst_X2 : ∀ w ∈ u_ws RX2 TX2 3, w ∈ wsX2_dropFirst := by decide +kernel
theorem fX2_dropFirst_11 : Cond.fieldLink RX2 11 (TX2 0).1 (TX2 0).2.1 (TX2 0).2.2.1 ∈ wsX2_dropFirst := by decide +kernel
set_option maxHeartbeats 4000000 in
set_option maxRecDepth 100000 in
theorem c_X2_dropFirst {l : Launch} {G : Gy} (hG : Inj G) (σ : St) (hL : ∀ k, 0 ≤ k → k < 13 → 2 ≤ σ 107 k ∧ σ 107 k ≤ 14) : MU l yX2_dropFirst wsX2_dropFirst ({ frames := 0, cells := 0, slots := 0, locals := 0 } : Room) G [.ref (G.2.2 106)] σ (DROP σ) := by
  refine MV.of hG (by decide +kernel) rfl rfl (Nat.le_of_ble_eq_true rfl) rfl ?_
  intro p e s m args below meth c H0 Q hC hret
  have h0 := hL 0 (by decide) (by decide)
  have L9 : ∀ (n : Nat) (i : Int), ((13 - i).toNat) = n → (1 ≤ i ∧ i ≤ 13) → wp p l e ({ frames := 0, cells := 0, slots := 0, locals := 0 } : Room) s m args below meth c (aA G (Array.size H0)) H0 3 Q G (SHf σ i) 9 [(0, .ref (G.2.2 106)), (1, .ref (G.2.2 (108 + 5 * (σ 107 0).toNat))), (2, .int (zI (i)))] [] := by
    intro n9
    induction n9 using Nat.strongRecOn with
    | ind n9 ih =>
      intro i hm9 h1
      have hi1 := fun z : i < 13 => hL i (by omega) z
      refine wp_iload_n hC dX2_dropFirst_9 rfl ?_
      refine wp_aload_n hC dX2_dropFirst_10 rfl ?_
      refine wp_geta (k := 0) hC (rfl) (by decide) (rfl) (rfl) (by decide) uX2_dropFirst_X2 fX2_dropFirst_11 (rfl) dX2_dropFirst_11 ?_
      refine wp_alen5 (n := 13) hC rfl rfl (by decide) dX2_dropFirst_14 ?_
      refine wp_icmp_ge (tgt := 38) hC dX2_dropFirst_15 (by decide) (by omega) (by omega) (fun c_15 => ?_) (fun c_15 => ?_)
      · refine wp_aload_n hC dX2_dropFirst_38 rfl ?_
        refine wp_geta (k := 0) hC (rfl) (by decide) (rfl) (rfl) (by decide) uX2_dropFirst_X2 fX2_dropFirst_11 (rfl) dX2_dropFirst_39 ?_
        refine wp_aload_n hC dX2_dropFirst_42 rfl ?_
        refine wp_geta (k := 0) hC (rfl) (by decide) (rfl) (rfl) (by decide) uX2_dropFirst_X2 fX2_dropFirst_11 (rfl) dX2_dropFirst_43 ?_
        refine wp_alen5 (n := 13) hC rfl rfl (by decide) dX2_dropFirst_46 ?_
        refine wp_iconst hC dX2_dropFirst_47 ?_
        refine wp_isub hC dX2_dropFirst_48 ?_
        refine wp_aload_n hC dX2_dropFirst_49 rfl ?_
        refine wp_aast5 (t := (σ 107 0).toNat) (n := 13) (by omega) hC rfl (by decide) rfl (by decide) (by omega) dX2_dropFirst_50 ?_
        exact hret _ _ _ (by rw [show i = 13 by omega, show ((13 : Nat) : Int) - 1 = 12 from rfl, Int.toNat_of_nonneg (by omega)]; exact SHf_e) dX2_dropFirst_51
      · refine wp_aload_n hC dX2_dropFirst_18 rfl ?_
        refine wp_geta (k := 0) hC (rfl) (by decide) (rfl) (rfl) (by decide) uX2_dropFirst_X2 fX2_dropFirst_11 (rfl) dX2_dropFirst_19 ?_
        refine wp_iload_n hC dX2_dropFirst_22 rfl ?_
        refine wp_iconst hC dX2_dropFirst_23 ?_
        refine wp_isub hC dX2_dropFirst_24 ?_
        refine wp_aload_n hC dX2_dropFirst_25 rfl ?_
        refine wp_geta (k := 0) hC (rfl) (by decide) (rfl) (rfl) (by decide) uX2_dropFirst_X2 fX2_dropFirst_11 (rfl) dX2_dropFirst_26 ?_
        refine wp_iload_n hC dX2_dropFirst_29 rfl ?_
        refine wp_aald5 (n := 13) hC rfl (Nat.le_of_ble_eq_true rfl) rfl (by decide) (by omega) dX2_dropFirst_30 ?_
        refine wp_aast5 (t := (SHf σ i 107 i).toNat) (n := 13) (by rw [SHf_at (by omega)]; have := hi1 (by omega); omega) hC rfl (by decide) rfl (by decide) (by omega) dX2_dropFirst_31 ?_
        refine wp_iinc (lv2 := [(0, _), (1, _), (2, _)]) hC dX2_dropFirst_32 rfl rfl (by decide) ?_
        refine wp_goto (tgt := 9) hC dX2_dropFirst_35 (by decide) ?_
        refine wp_st (show put (SHf σ i) 107 (i - 1) (((SHf σ i 107 i).toNat : Nat) : Int) = SHf σ (i + 1) by rw [SHf_at (by omega), Int.toNat_of_nonneg (by have := hi1 (by omega); omega)]; exact SHf_s h1.1) ?_
        exact ih _ (by omega) _ rfl (by omega)
  refine wp_aload_n hC dX2_dropFirst_0 rfl ?_
  refine wp_geta (k := 0) hC (rfl) (by decide) (rfl) (rfl) (by decide) uX2_dropFirst_X2 fX2_dropFirst_11 (rfl) dX2_dropFirst_1 ?_
  refine wp_iconst hC dX2_dropFirst_4 ?_
  refine wp_aald5 (n := 13) hC rfl (Nat.le_of_ble_eq_true rfl) rfl (by decide) (by omega) dX2_dropFirst_5 ?_
  refine wp_astore_n (lv2 := [(0, _), (1, _)]) hC dX2_dropFirst_6 rfl (by decide) ?_
  refine wp_iconst hC dX2_dropFirst_7 ?_
  refine wp_istore_n (lv2 := [(0, _), (1, _), (2, _)]) hC dX2_dropFirst_8 rfl (by decide) ?_
  refine wp_st SHf_1 ?_
  exact L9 _ 1 rfl (by omega)

/-- a change noted -/
def NT1 (σ : St) : St := if σ 106 1 < 12 then put σ 106 1 (σ 106 1 + 1) else DROP σ
def NT2 (σ : St) : St := put (NT1 σ) 106 2 0
def NOTE (σ : St) (n : Int) : St := CPY (NT2 σ) (NT2 σ 107 (NT2 σ 106 1)).toNat 0 n
theorem NT_1 {σ : St} : NT2 σ 106 1 = if σ 106 1 < 12 then σ 106 1 + 1 else σ 106 1 := by
  unfold NT2 NT1
  rw [put_k (by decide)]
  split
  · exact put_s
  · rfl
theorem NT_L {σ : St} (hL : ∀ k, 0 ≤ k → k < 13 → 2 ≤ σ 107 k ∧ σ 107 k ≤ 14) : ∀ k, 0 ≤ k → k < 13 → 2 ≤ NT2 σ 107 k ∧ NT2 σ 107 k ≤ 14 := fun k a b => by
  unfold NT2 NT1
  rw [put_i (by decide)]
  split
  · rw [put_i (by decide)]; exact hL k a b
  · unfold DROP
    by_cases q : k < 12
    · rw [if_pos ⟨rfl, a, q⟩]; exact hL _ (by omega) (by omega)
    · rw [if_neg (by omega), if_pos ⟨rfl, by omega⟩]; exact hL 0 (by decide) (by decide)

theorem hyVX2_note : yX2_note.cls = RX2 ∧ yX2_note.cls ≠ "java/lang/invoke/MethodHandle" ∧ yX2_note.cls ≠ "java/lang/invoke/VarHandle" ∧ (parseMethodDescriptor yX2_note.desc).map (fun d => d.parameters.length) = some 2 := by decide +kernel
theorem uX2_note_X2 : ∀ w ∈ u_ws RX2 TX2 3, w ∈ wsX2_note := by decide +kernel
theorem fX2_note_18 : Cond.fieldLink RX2 18 (TX2 1).1 (TX2 1).2.1 (TX2 1).2.2.1 ∈ wsX2_note := by decide +kernel
theorem fX2_note_25 : Cond.fieldLink RX2 25 (TX2 2).1 (TX2 2).2.1 (TX2 2).2.2.1 ∈ wsX2_note := by decide +kernel
theorem fX2_note_11 : Cond.fieldLink RX2 11 (TX2 0).1 (TX2 0).2.1 (TX2 0).2.2.1 ∈ wsX2_note := by decide +kernel
set_option maxHeartbeats 4000000 in
set_option maxRecDepth 100000 in
theorem c_X2_note {l : Launch} {G : Gy} (hG : Inj G) (σ : St) {n1 : Int} (hn : 0 ≤ n1 ∧ n1 ≤ 24) (hd9 : 0 ≤ σ 106 1 ∧ σ 106 1 ≤ 12) (hL : ∀ k, 0 ≤ k → k < 13 → 2 ≤ σ 107 k ∧ σ 107 k ≤ 14) : MU l yX2_note wsX2_note ({ frames := 2, cells := 0, slots := 0, locals := 40 } : Room) G [.ref (G.2.2 106), .ref (G.2.2 108), .int (zI (n1))] σ (NOTE σ n1) := by
  refine MV.of hG (by decide +kernel) rfl rfl (Nat.le_of_ble_eq_true rfl) rfl ?_
  intro p e s m args below meth c H0 Q hC hret
  refine wp_aload_n hC dX2_note_0 rfl ?_
  refine wp_geti (k := 1) (z := 1) hC rfl (rfl) (by decide) (rfl) (rfl) (by decide) uX2_note_X2 fX2_note_18 (rfl) dX2_note_1 ?_
  refine wp_bipush hC dX2_note_4 rfl ?_
  refine wp_icmp_ge (tgt := 22) hC dX2_note_6 (by decide) (by omega) (by omega) (fun c_6 => ?_) (fun c_6 => ?_)
  · refine wp_aload_n hC dX2_note_22 rfl ?_
    refine wp_callVu (As := []) hC (c_X2_dropFirst hG _ hL) gX2_note_X2_dropFirst rfl ⟨rfl, rfl⟩ ⟨by decide, by decide⟩ hyVX2_dropFirst (rfl) (by decide) (rfl) rfl (Nat.le_of_ble_eq_true rfl) dX2_note_23 ?_
    refine wp_st (σ2 := NT1 σ) (if_neg (by omega)).symm ?_
    have e1 := NT_1 (σ := σ)
    have hLL := NT_L hL
    have hTt : (NT2 σ 107 (NT2 σ 106 1)).toNat < 15 := by
      have := hLL (NT2 σ 106 1) (by rw [e1]; split <;> omega) (by rw [e1]; split <;> omega)
      omega
    refine wp_aload_n hC dX2_note_26 rfl ?_
    refine wp_iconst hC dX2_note_27 ?_
    refine wp_puti2 (k := 2) (z := 2) hC rfl (rfl) (by decide) (rfl) (rfl) (by decide) uX2_note_X2 fX2_note_25 tyX2 tyX2_ok nmX2 rfl rfl (rfl) dX2_note_28 ?_
    refine wp_st (σ2 := NT2 σ) rfl ?_
    refine wp_aload_n hC dX2_note_31 rfl ?_
    refine wp_geta (k := 0) hC (rfl) (by decide) (rfl) (rfl) (by decide) uX2_note_X2 fX2_note_11 (rfl) dX2_note_32 ?_
    refine wp_aload_n hC dX2_note_35 rfl ?_
    refine wp_geti (k := 1) (z := 1) hC rfl (rfl) (by decide) (rfl) (rfl) (by decide) uX2_note_X2 fX2_note_18 (rfl) dX2_note_36 ?_
    refine wp_aald5 (n := 13) hC rfl (Nat.le_of_ble_eq_true rfl) rfl (by decide) (by rw [e1]; split <;> omega) dX2_note_39 ?_
    refine wp_aload_n hC dX2_note_40 rfl ?_
    refine wp_iload_n hC dX2_note_41 rfl ?_
    refine wp_callVu (As := [_, _]) hC (c_X5_copyOf hG (NT2 σ) (t := (NT2 σ 107 (NT2 σ 106 1)).toNat) (u := 0) (n1 := n1) hTt (by decide) (by omega)) gX2_note_X5_copyOf rfl ⟨rfl, rfl⟩ ⟨by decide, by decide⟩ hyVX5_copyOf ((st_all _ hTt).1) ((st_all _ hTt).2.1) (st_cl hTt) rfl (Nat.le_of_ble_eq_true rfl) dX2_note_42 ?_
    exact hret _ _ _ (rfl) dX2_note_45
  · refine wp_aload_n hC dX2_note_9 rfl ?_
    refine wp_dup hC dX2_note_10 rfl ?_
    refine wp_geti (k := 1) (z := 1) hC rfl (rfl) (by decide) (rfl) (rfl) (by decide) uX2_note_X2 fX2_note_18 (rfl) dX2_note_11 ?_
    refine wp_iconst hC dX2_note_14 ?_
    refine wp_iadd hC dX2_note_15 ?_
    refine wp_puti2 (k := 1) (z := 1) hC rfl (rfl) (by decide) (rfl) (rfl) (by decide) uX2_note_X2 fX2_note_18 tyX2 tyX2_ok nmX2 rfl rfl (rfl) dX2_note_16 ?_
    refine wp_goto (tgt := 26) hC dX2_note_19 (by decide) ?_
    refine wp_st (σ2 := NT1 σ) (if_pos (by omega)).symm ?_
    have e1 := NT_1 (σ := σ)
    have hLL := NT_L hL
    have hTt : (NT2 σ 107 (NT2 σ 106 1)).toNat < 15 := by
      have := hLL (NT2 σ 106 1) (by rw [e1]; split <;> omega) (by rw [e1]; split <;> omega)
      omega
    refine wp_aload_n hC dX2_note_26 rfl ?_
    refine wp_iconst hC dX2_note_27 ?_
    refine wp_puti2 (k := 2) (z := 2) hC rfl (rfl) (by decide) (rfl) (rfl) (by decide) uX2_note_X2 fX2_note_25 tyX2 tyX2_ok nmX2 rfl rfl (rfl) dX2_note_28 ?_
    refine wp_st (σ2 := NT2 σ) rfl ?_
    refine wp_aload_n hC dX2_note_31 rfl ?_
    refine wp_geta (k := 0) hC (rfl) (by decide) (rfl) (rfl) (by decide) uX2_note_X2 fX2_note_11 (rfl) dX2_note_32 ?_
    refine wp_aload_n hC dX2_note_35 rfl ?_
    refine wp_geti (k := 1) (z := 1) hC rfl (rfl) (by decide) (rfl) (rfl) (by decide) uX2_note_X2 fX2_note_18 (rfl) dX2_note_36 ?_
    refine wp_aald5 (n := 13) hC rfl (Nat.le_of_ble_eq_true rfl) rfl (by decide) (by rw [e1]; split <;> omega) dX2_note_39 ?_
    refine wp_aload_n hC dX2_note_40 rfl ?_
    refine wp_iload_n hC dX2_note_41 rfl ?_
    refine wp_callVu (As := [_, _]) hC (c_X5_copyOf hG (NT2 σ) (t := (NT2 σ 107 (NT2 σ 106 1)).toNat) (u := 0) (n1 := n1) hTt (by decide) (by omega)) gX2_note_X5_copyOf rfl ⟨rfl, rfl⟩ ⟨by decide, by decide⟩ hyVX5_copyOf ((st_all _ hTt).1) ((st_all _ hTt).2.1) (st_cl hTt) rfl (Nat.le_of_ble_eq_true rfl) dX2_note_42 ?_
    exact hret _ _ _ (rfl) dX2_note_45

theorem hyVX2_stepBy : yX2_stepBy.cls = RX2 ∧ yX2_stepBy.cls ≠ "java/lang/invoke/MethodHandle" ∧ yX2_stepBy.cls ≠ "java/lang/invoke/VarHandle" ∧ (parseMethodDescriptor yX2_stepBy.desc).map (fun d => d.parameters.length) = some 1 := by decide +kernel
theorem uX2_stepBy_X2 : ∀ w ∈ u_ws RX2 TX2 3, w ∈ wsX2_stepBy := by decide +kernel
theorem fX2_stepBy_18 : Cond.fieldLink RX2 18 (TX2 1).1 (TX2 1).2.1 (TX2 1).2.2.1 ∈ wsX2_stepBy := by decide +kernel
theorem fX2_stepBy_25 : Cond.fieldLink RX2 25 (TX2 2).1 (TX2 2).2.1 (TX2 2).2.2.1 ∈ wsX2_stepBy := by decide +kernel
theorem fX2_stepBy_11 : Cond.fieldLink RX2 11 (TX2 0).1 (TX2 0).2.1 (TX2 0).2.2.1 ∈ wsX2_stepBy := by decide +kernel
set_option maxHeartbeats 4000000 in
set_option maxRecDepth 100000 in
theorem c_X2_stepBy {l : Launch} {G : Gy} (hG : Inj G) (σ : St) {b1 : Int} (hd9 : 0 ≤ σ 106 1 + b1 ∧ σ 106 1 + b1 ≤ 12) (hb : b1 = 1 ∨ b1 = -1) (ha : -1 ≤ σ 106 2 ∧ σ 106 2 ≤ 13) : MR l yX2_stepBy wsX2_stepBy ({ frames := 1, cells := 0, slots := 0, locals := 17 } : Room) G [.ref (G.2.2 106), .int (zI (b1))] σ (fun j σ2 => j = 108 + 5 * (σ 107 (σ 106 1 + b1)).toNat ∧ σ2 = put (put σ 106 1 (σ 106 1 + b1)) 106 2 (σ 106 2 - b1)) := by
  refine MR.of hG (by decide +kernel) rfl rfl (Nat.le_of_ble_eq_true rfl) rfl ?_
  intro p e s m args below meth c H0 Q hC hret
  refine wp_aload_n hC dX2_stepBy_0 rfl ?_
  refine wp_iconst hC dX2_stepBy_1 ?_
  refine wp_bipush hC dX2_stepBy_2 rfl ?_
  refine wp_aload_n hC dX2_stepBy_4 rfl ?_
  refine wp_geti (k := 1) (z := 1) hC rfl (rfl) (by decide) (rfl) (rfl) (by decide) uX2_stepBy_X2 fX2_stepBy_18 (rfl) dX2_stepBy_5 ?_
  refine wp_iload_n hC dX2_stepBy_8 rfl ?_
  refine wp_iadd hC dX2_stepBy_9 ?_
  refine wp_mmin hC (by decide +kernel) (by decide +kernel) (by decide +kernel) (by decide +kernel) (Nat.le_of_ble_eq_true rfl) (Nat.le_of_ble_eq_true rfl) (by omega) (by omega) dX2_stepBy_10 ?_
  refine wp_mmax hC (by decide +kernel) (by decide +kernel) (by decide +kernel) (by decide +kernel) (Nat.le_of_ble_eq_true rfl) (Nat.le_of_ble_eq_true rfl) (by omega) (by omega) dX2_stepBy_13 ?_
  refine wp_top (b := σ 106 1 + b1) (by omega) ?_
  refine wp_puti2 (k := 1) (z := 1) hC rfl (rfl) (by decide) (rfl) (rfl) (by decide) uX2_stepBy_X2 fX2_stepBy_18 tyX2 tyX2_ok nmX2 rfl rfl (rfl) dX2_stepBy_16 ?_
  refine wp_aload_n hC dX2_stepBy_19 rfl ?_
  refine wp_dup hC dX2_stepBy_20 rfl ?_
  refine wp_geti (k := 2) (z := 2) hC rfl (rfl) (by decide) (rfl) (rfl) (by decide) uX2_stepBy_X2 fX2_stepBy_25 (rfl) dX2_stepBy_21 ?_
  refine wp_iload_n hC dX2_stepBy_24 rfl ?_
  refine wp_isub hC dX2_stepBy_25 ?_
  refine wp_top (b := σ 106 2 - b1) rfl ?_
  refine wp_puti2 (k := 2) (z := 2) hC rfl (rfl) (by decide) (rfl) (rfl) (by decide) uX2_stepBy_X2 fX2_stepBy_25 tyX2 tyX2_ok nmX2 rfl rfl (rfl) dX2_stepBy_26 ?_
  refine wp_aload_n hC dX2_stepBy_29 rfl ?_
  refine wp_geta (k := 0) hC (rfl) (by decide) (rfl) (rfl) (by decide) uX2_stepBy_X2 fX2_stepBy_11 (rfl) dX2_stepBy_30 ?_
  refine wp_aload_n hC dX2_stepBy_33 rfl ?_
  refine wp_geti (k := 1) (z := 1) hC rfl (rfl) (by decide) (rfl) (rfl) (by decide) uX2_stepBy_X2 fX2_stepBy_18 (rfl) dX2_stepBy_34 ?_
  refine wp_top (b := σ 106 1 + b1) rfl ?_
  refine wp_aald5 (n := 13) hC rfl (Nat.le_of_ble_eq_true rfl) rfl (by decide) (by omega) dX2_stepBy_37 ?_
  exact hret _ _ _ _ (⟨rfl, rfl⟩) dX2_stepBy_38

theorem hyVX2_startFrom : yX2_startFrom.cls = RX2 ∧ yX2_startFrom.cls ≠ "java/lang/invoke/MethodHandle" ∧ yX2_startFrom.cls ≠ "java/lang/invoke/VarHandle" ∧ (parseMethodDescriptor yX2_startFrom.desc).map (fun d => d.parameters.length) = some 2 := by decide +kernel
theorem uX2_startFrom_X2 : ∀ w ∈ u_ws RX2 TX2 3, w ∈ wsX2_startFrom := by decide +kernel
theorem fX2_startFrom_18 : Cond.fieldLink RX2 18 (TX2 1).1 (TX2 1).2.1 (TX2 1).2.2.1 ∈ wsX2_startFrom := by decide +kernel
theorem fX2_startFrom_25 : Cond.fieldLink RX2 25 (TX2 2).1 (TX2 2).2.1 (TX2 2).2.2.1 ∈ wsX2_startFrom := by decide +kernel
theorem fX2_startFrom_11 : Cond.fieldLink RX2 11 (TX2 0).1 (TX2 0).2.1 (TX2 0).2.2.1 ∈ wsX2_startFrom := by decide +kernel
set_option maxHeartbeats 4000000 in
set_option maxRecDepth 100000 in
theorem c_X2_startFrom {l : Launch} {G : Gy} (hG : Inj G) (σ : St) {n1 : Int} (hn : 0 ≤ n1 ∧ n1 ≤ 24) (hL : ∀ k, 0 ≤ k → k < 13 → 2 ≤ σ 107 k ∧ σ 107 k ≤ 14) : MU l yX2_startFrom wsX2_startFrom ({ frames := 2, cells := 0, slots := 0, locals := 40 } : Room) G [.ref (G.2.2 106), .ref (G.2.2 108), .int (zI (n1))] σ (CPY (put (put σ 106 1 0) 106 2 0) (σ 107 0).toNat 0 n1) := by
  refine MV.of hG (by decide +kernel) rfl rfl (Nat.le_of_ble_eq_true rfl) rfl ?_
  intro p e s m args below meth c H0 Q hC hret
  have hTt : (σ 107 0).toNat < 15 := by have := hL 0 (by decide) (by decide); omega
  refine wp_aload_n hC dX2_startFrom_0 rfl ?_
  refine wp_iconst hC dX2_startFrom_1 ?_
  refine wp_puti2 (k := 1) (z := 1) hC rfl (rfl) (by decide) (rfl) (rfl) (by decide) uX2_startFrom_X2 fX2_startFrom_18 tyX2 tyX2_ok nmX2 rfl rfl (rfl) dX2_startFrom_2 ?_
  refine wp_aload_n hC dX2_startFrom_5 rfl ?_
  refine wp_iconst hC dX2_startFrom_6 ?_
  refine wp_puti2 (k := 2) (z := 2) hC rfl (rfl) (by decide) (rfl) (rfl) (by decide) uX2_startFrom_X2 fX2_startFrom_25 tyX2 tyX2_ok nmX2 rfl rfl (rfl) dX2_startFrom_7 ?_
  refine wp_aload_n hC dX2_startFrom_10 rfl ?_
  refine wp_geta (k := 0) hC (rfl) (by decide) (rfl) (rfl) (by decide) uX2_startFrom_X2 fX2_startFrom_11 (rfl) dX2_startFrom_11 ?_
  refine wp_iconst hC dX2_startFrom_14 ?_
  refine wp_aald5 (n := 13) hC rfl (Nat.le_of_ble_eq_true rfl) rfl (by decide) (by omega) dX2_startFrom_15 ?_
  refine wp_aload_n hC dX2_startFrom_16 rfl ?_
  refine wp_iload_n hC dX2_startFrom_17 rfl ?_
  refine wp_callVu (As := [_, _]) hC (c_X5_copyOf hG (put (put σ 106 1 0) 106 2 0) (t := (σ 107 0).toNat) (u := 0) (n1 := n1) hTt (by decide) (by omega)) gX2_startFrom_X5_copyOf rfl ⟨rfl, rfl⟩ ⟨by decide, by decide⟩ hyVX5_copyOf ((st_all _ hTt).1) ((st_all _ hTt).2.1) (st_cl hTt) rfl (Nat.le_of_ble_eq_true rfl) dX2_startFrom_18 ?_
  exact hret _ _ _ (rfl) dX2_startFrom_21
