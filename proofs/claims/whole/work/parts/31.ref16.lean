theorem sm_two {f : Int → Int} {n a b : Int} (ha : 0 ≤ a ∧ a < n) (hb : 0 ≤ b ∧ b < n) (hab : a ≠ b) (h : ∀ k, 0 ≤ k → k < n → 0 ≤ f k) : f a + f b ≤ sm f n := by
  have h1 : sm f n = sm (fun k => if k = b then 0 else f k) n + f b := sm_up hb (fun q _ _ => by
    by_cases e : q = b
    · rw [if_pos e, if_pos e, e]; omega
    · rw [if_neg e, if_neg e])
  have h2 := sm_one (f := fun k => if k = b then 0 else f k) ha.1 ha.2 (fun k x y => by have := h k x y; show 0 ≤ if k = b then 0 else f k; split <;> omega)
  have h3 : (if a = b then 0 else f a) = f a := if_neg hab
  rw [h3] at h2
  omega
/-- what stands while a parting goes on by one: the place reached, the parting so far -/
def GI (σ : St) (ps : Int → Int) (o to : Int) (P : Int → Int → Int) : Prop :=
  PB σ P ∧ (∀ y, 0 ≤ y → y < σ 0 5 → cs P y = cs (pt σ) y + (if y = o then 1 else 0) - (if to = 36 + y then 1 else 0)) ∧ (∀ s, 0 ≤ s → s < 36 → rs P (σ 0 5) s = rs (pt σ) (σ 0 5) s + (if to = s then 1 else 0)) ∧ ∀ s y, 0 ≤ s → s < 36 → 0 ≤ y → y < 24 → P s y = pt σ s y ∨ ps to < ps s ∨ ps to < ps (36 + y)
theorem GI_0 {σ : St} {ps : Int → Int} {o : Int} (ho : 0 ≤ o) (h : PB σ (pt σ)) : GI σ ps o (36 + o) (pt σ) := by
  refine ⟨h, fun y a b => ?_, fun s a b => ?_, fun s y _ _ _ _ => Or.inl rfl⟩
  · by_cases e : y = o
    · rw [if_pos e, if_pos (by omega)]; omega
    · rw [if_neg e, if_neg (by omega)]; omega
  · rw [if_neg (by omega)]; omega
theorem GI_so {σ : St} {f ps : Int → Int} {o to : Int} {P : Int → Int → Int} (hn : 0 ≤ σ 0 5 ∧ σ 0 5 ≤ 24) (hc : 0 ≤ σ 0 29 ∧ σ 0 29 ≤ 1000) (hr : ∀ s, 0 ≤ s → s < 36 → 0 ≤ σ 15 s ∧ rs (pt σ) (σ 0 5) s + σ 15 s ≤ 99) (ht : TREE σ (pt σ) f ps) (hg : GI σ ps o to P) (hto : 0 ≤ to ∧ to < 60 ∧ 0 ≤ f to ∧ f to ≠ to) (hu : f to < 36) : GI σ ps o (f to) (up2 P (f to) (to - 36) (P (f to) (to - 36) + 1)) := by
  obtain ⟨g1, g2, g3, g4⟩ := hg
  obtain ⟨t1, t2, t3⟩ := ht to hto.1 hto.2.1 hto.2.2.1
  have t4 : f to < 60 ∧ 0 ≤ f (f to) ∧ ps (f to) < ps to ∧ EDG σ (pt σ) (f to) to := by
    rcases t3 with ⟨q, _⟩ | q
    · exact absurd q hto.2.2.2
    · exact q
  obtain ⟨_, t5, t6, t7⟩ := t4
  rcases t7 with ⟨_, t8, t9, t10⟩ | ⟨t8, _⟩
  rotate_left
  · omega
  have hu0 := hto.2.2.1
  have e36 : 36 + (to - 36) = to := by omega
  have k1 : P (f to) (to - 36) = pt σ (f to) (to - 36) := by
    rcases g4 (f to) (to - 36) hu0 hu (by omega) (by omega) with q | q | q
    · exact q
    · omega
    · rw [e36] at q; omega
  have hnn : ∀ k, 0 ≤ k → k < σ 0 5 → 0 ≤ P (f to) k := fun k a b => (g1 (f to) k hu0 hu a (by omega)).1
  have k2 : rs P (σ 0 5) (f to) + σ 15 (f to) ≤ 99 := by
    have := hr (f to) hu0 hu
    rw [g3 (f to) hu0 hu, if_neg (by omega)]
    omega
  have k3 : P (f to) (to - 36) ≤ 98 := by
    obtain ⟨u1, u2, u3⟩ := ht (f to) hu0 (by omega) t5
    rcases u3 with ⟨_, _, u4⟩ | ⟨u4, u5, u6, u7⟩
    · have := sm_one (f := fun o => P (f to) o) (n := σ 0 5) (k := to - 36) (by omega) (by omega) hnn
      unfold rs at k2
      omega
    · rcases u7 with ⟨u8, u9, _⟩ | ⟨u8, u9, u10⟩
      · omega
      · have hw := ht (f (f to)) t5 u4 u5
        have k4 : P (f to) (f (f to) - 36) = pt σ (f to) (f (f to) - 36) := by
          rcases g4 (f to) (f (f to) - 36) hu0 hu (by omega) (by omega) with q | q | q
          · exact q
          · omega
          · rw [show 36 + (f (f to) - 36) = f (f to) by omega] at q; omega
        have hne : f (f to) ≠ to := fun e => by rw [e] at u6; omega
        have := sm_two (f := fun o => P (f to) o) (n := σ 0 5) (a := to - 36) (b := f (f to) - 36) (by omega) (by omega) (by omega) hnn
        have k5 := (hr (f to) hu0 hu).1
        unfold rs at k2
        rw [← k4] at u10
        omega
  refine ⟨fun s y a b c d => ?_, fun y a b => ?_, fun s a b => ?_, fun s y a b c d => ?_⟩
  · by_cases e : s = f to ∧ y = to - 36
    · rw [e.1, e.2, up2_s]
      have q := g1 (f to) (to - 36) hu0 hu (by omega) (by omega)
      unfold rmF at t10
      rw [← k1] at t10
      by_cases z : tb (σ 3 (to - 36)) (f to / 12) = true ∧ f to % 12 ≤ σ 1 (64 + (to - 36))
      · refine ⟨by omega, by omega, fun _ => ⟨by omega, z⟩, fun x1 x2 => ?_⟩
        rw [if_pos z, if_pos ⟨x1, x2⟩] at t10
        omega
      · rw [if_neg z] at t10
        omega
    · rw [up2_n e]
      exact g1 s y a b c d
  · rw [cs_up ⟨hu0, hu⟩, g2 y a b]
    by_cases e : y = to - 36
    · rw [if_pos e, if_pos (show to = 36 + y by omega), if_neg (show ¬ f to = 36 + y by omega)]; omega
    · rw [if_neg e, if_neg (show ¬ to = 36 + y by omega), if_neg (show ¬ f to = 36 + y by omega)]; omega
  · rw [rs_up ⟨by omega, by omega⟩, g3 s a b]
    by_cases e : s = f to
    · rw [if_pos e, if_neg (show ¬ to = s by omega), if_pos e.symm]; omega
    · rw [if_neg e, if_neg (show ¬ to = s by omega), if_neg (fun q => e q.symm)]; omega
  · by_cases e : s = f to ∧ y = to - 36
    · exact Or.inr (Or.inr (by rw [show 36 + y = to by omega]; exact t6))
    · rw [up2_n e]
      rcases g4 s y a b c d with q | q | q
      · exact Or.inl q
      · exact Or.inr (Or.inl (by omega))
      · exact Or.inr (Or.inr (by omega))
theorem GI_os {σ : St} {f ps : Int → Int} {o to : Int} {P : Int → Int → Int} (hn : 0 ≤ σ 0 5 ∧ σ 0 5 ≤ 24) (ht : TREE σ (pt σ) f ps) (hg : GI σ ps o to P) (hto : 0 ≤ to ∧ to < 60 ∧ 0 ≤ f to ∧ f to ≠ to) (hu : 36 ≤ f to) : GI σ ps o (f to) (up2 P to (f to - 36) (P to (f to - 36) - 1)) := by
  obtain ⟨g1, g2, g3, g4⟩ := hg
  obtain ⟨t1, t2, t3⟩ := ht to hto.1 hto.2.1 hto.2.2.1
  have t4 : f to < 60 ∧ 0 ≤ f (f to) ∧ ps (f to) < ps to ∧ EDG σ (pt σ) (f to) to := by
    rcases t3 with ⟨q, _⟩ | q
    · exact absurd q hto.2.2.2
    · exact q
  obtain ⟨t4, t5, t6, t7⟩ := t4
  have hw := ht (f to) hto.2.2.1 t4 t5
  rcases t7 with ⟨t8, _⟩ | ⟨_, t9, t10⟩
  · omega
  have e36 : 36 + (f to - 36) = f to := by omega
  have k1 : P to (f to - 36) = pt σ to (f to - 36) := by
    rcases g4 to (f to - 36) hto.1 t9 (by omega) (by omega) with q | q | q
    · exact q
    · omega
    · rw [e36] at q; omega
  refine ⟨fun s y a b c d => ?_, fun y a b => ?_, fun s a b => ?_, fun s y a b c d => ?_⟩
  · by_cases e : s = to ∧ y = f to - 36
    · rw [e.1, e.2, up2_s]
      have q := g1 to (f to - 36) hto.1 t9 (by omega) (by omega)
      rw [← k1] at t10
      exact ⟨by omega, by omega, fun _ => q.2.2.1 t10, fun x1 x2 => by have := q.2.2.2 x1 x2; omega⟩
    · rw [up2_n e]
      exact g1 s y a b c d
  · rw [cs_up ⟨hto.1, t9⟩, g2 y a b]
    by_cases e : y = f to - 36
    · rw [if_pos e, if_neg (show ¬ to = 36 + y by omega), if_pos (show f to = 36 + y by omega)]; omega
    · rw [if_neg e, if_neg (show ¬ to = 36 + y by omega), if_neg (show ¬ f to = 36 + y by omega)]; omega
  · rw [rs_up ⟨by omega, by omega⟩, g3 s a b]
    by_cases e : s = to
    · rw [if_pos e, if_pos e.symm, if_neg (show ¬ f to = s by omega)]; omega
    · rw [if_neg e, if_neg (fun q => e q.symm), if_neg (show ¬ f to = s by omega)]; omega
  · by_cases e : s = to ∧ y = f to - 36
    · exact Or.inr (Or.inl (by rw [e.1]; exact t6))
    · rw [up2_n e]
      rcases g4 s y a b c d with q | q | q
      · exact Or.inl q
      · exact Or.inr (Or.inl (by omega))
      · exact Or.inr (Or.inr (by omega))

theorem hyVX9_goesOne : yX9_goesOne.cls = RX9 ∧ yX9_goesOne.cls ≠ "java/lang/invoke/MethodHandle" ∧ yX9_goesOne.cls ≠ "java/lang/invoke/VarHandle" ∧ (parseMethodDescriptor yX9_goesOne.desc).map (fun d => d.parameters.length) = some 1 := by decide +kernel
theorem uX9_goesOne_X9 : ∀ w ∈ u_ws RX9 TX9 35, w ∈ wsX9_goesOne := by decide +kernel
theorem fX9_goesOne_64 : Cond.fieldLink RX9 64 (TX9 25).1 (TX9 25).2.1 (TX9 25).2.2.1 ∈ wsX9_goesOne := by decide +kernel
theorem fX9_goesOne_58 : Cond.fieldLink RX9 58 (TX9 23).1 (TX9 23).2.1 (TX9 23).2.2.1 ∈ wsX9_goesOne := by decide +kernel
theorem fX9_goesOne_61 : Cond.fieldLink RX9 61 (TX9 24).1 (TX9 24).2.1 (TX9 24).2.2.1 ∈ wsX9_goesOne := by decide +kernel
theorem fX9_goesOne_55 : Cond.fieldLink RX9 55 (TX9 22).1 (TX9 22).2.1 (TX9 22).2.2.1 ∈ wsX9_goesOne := by decide +kernel
set_option maxHeartbeats 8000000 in
set_option maxRecDepth 100000 in
theorem c_X9_goesOne {l : Launch} {G : Gy} (hG : Inj G) (σ : St) {o : Int} {ps : Int → Int} (h : RO σ) (ho : 0 ≤ o ∧ o < σ 0 5) (hc : 0 ≤ σ 0 29 ∧ σ 0 29 ≤ 1000) (hpb : PB σ (pt σ)) (hr : ∀ s, 0 ≤ s → s < 36 → 0 ≤ σ 15 s ∧ rs (pt σ) (σ 0 5) s + σ 15 s ≤ 99) (hf : ∀ v, 0 ≤ v → v < 60 → -1 ≤ σ 17 v ∧ σ 17 v < 60) (ht : TREE σ (pt σ) (σ 17) ps) (hfo : 0 ≤ σ 17 (36 + o)) (hw : 0 ≤ σ 16 o ∧ σ 16 o ≤ 60) : MV l yX9_goesOne wsX9_goesOne ({ frames := 0, cells := 0, slots := 0, locals := 0 } : Room) G [.ref (G.2.2 0), .int (zI (o))] σ (fun σ2 => ∃ P r, 0 ≤ r ∧ r < 36 ∧ 0 < σ 15 r ∧ PB σ P ∧ (∀ y, 0 ≤ y → y < σ 0 5 → cs P y = cs (pt σ) y + if y = o then 1 else 0) ∧ (∀ s, 0 ≤ s → s < 36 → rs P (σ 0 5) s = rs (pt σ) (σ 0 5) s + if r = s then 1 else 0) ∧ σ2 = put (put (GP σ P) 15 r (σ 15 r - 1)) 16 o (σ 16 o - 1)) := by
  refine MV.of hG (by decide +kernel) rfl rfl (Nat.le_of_ble_eq_true rfl) rfl ?_
  intro p e s m args below meth c H0 Q hC hret
  have hn := h.1
  have L5 : ∀ (n : Nat) (to : Int) (P : Int → Int → Int), ((ps to).toNat) = n → (0 ≤ to ∧ to < 60 ∧ 0 ≤ σ 17 to) → (GI σ ps o to P) → wp p l e ({ frames := 0, cells := 0, slots := 0, locals := 0 } : Room) s m args below meth c (aA G (Array.size H0)) H0 4 Q G (GP σ P) 5 [(0, .ref (G.2.2 0)), (1, .int (zI (o))), (2, .int (zI (to)))] [] := by
    intro n5
    induction n5 using Nat.strongRecOn with
    | ind n5 ih =>
      intro to P hm5 h1 hg
      have hft := hf to h1.1 h1.2.1
      have htt := ht to h1.1 h1.2.1 h1.2.2
      refine wp_aload_n hC dX9_goesOne_5 rfl ?_
      refine wp_geta (k := 25) hC (rfl) (by decide) (rfl) (rfl) (by decide) uX9_goesOne_X9 fX9_goesOne_64 (rfl) dX9_goesOne_6 ?_
      refine wp_iload_n hC dX9_goesOne_9 rfl ?_
      refine wp_iald (n := 60) hC (rfl) (Nat.le_of_ble_eq_true rfl) (rfl) (by decide) (by omega) dX9_goesOne_10 ?_
      refine wp_top (b := σ 17 to) rfl ?_
      refine wp_iload_n hC dX9_goesOne_11 rfl ?_
      refine wp_icmp_eq (tgt := 66) hC dX9_goesOne_12 (by decide) (by omega) (by omega) (fun c_12 => ?_) (fun c_12 => ?_)
      · have hsp : to < 36 ∧ 0 < σ 15 to := by
          rcases htt.2.2 with ⟨_, q⟩ | ⟨_, _, q, _⟩
          · exact q
          · rw [c_12] at q; omega
        refine wp_aload_n hC dX9_goesOne_66 rfl ?_
        refine wp_geta (k := 23) hC (rfl) (by decide) (rfl) (rfl) (by decide) uX9_goesOne_X9 fX9_goesOne_58 (rfl) dX9_goesOne_67 ?_
        refine wp_iload_n hC dX9_goesOne_70 rfl ?_
        refine wp_dup2 hC dX9_goesOne_71 rfl rfl ?_
        refine wp_iald (n := 36) hC (rfl) (Nat.le_of_ble_eq_true rfl) (rfl) (by decide) (by omega) dX9_goesOne_72 ?_
        refine wp_iconst hC dX9_goesOne_73 ?_
        refine wp_isub hC dX9_goesOne_74 ?_
        refine wp_iast (n := 36) hC (rfl) (Nat.le_of_ble_eq_true rfl) (rfl) (by decide) (by omega) dX9_goesOne_75 ?_
        refine wp_aload_n hC dX9_goesOne_76 rfl ?_
        refine wp_geta (k := 24) hC (rfl) (by decide) (rfl) (rfl) (by decide) uX9_goesOne_X9 fX9_goesOne_61 (rfl) dX9_goesOne_77 ?_
        refine wp_iload_n hC dX9_goesOne_80 rfl ?_
        refine wp_dup2 hC dX9_goesOne_81 rfl rfl ?_
        refine wp_iald (n := 24) hC (rfl) (Nat.le_of_ble_eq_true rfl) (rfl) (by decide) (by omega) dX9_goesOne_82 ?_
        refine wp_iconst hC dX9_goesOne_83 ?_
        refine wp_isub hC dX9_goesOne_84 ?_
        refine wp_iast (n := 24) hC (rfl) (Nat.le_of_ble_eq_true rfl) (rfl) (by decide) (by omega) dX9_goesOne_85 ?_
        exact hret _ _ _ (⟨P, to, h1.1, hsp.1, hsp.2, hg.1, fun y a b => by rw [hg.2.1 y a b, if_neg (show ¬ to = 36 + y by omega)]; omega, hg.2.2.1, rfl⟩) dX9_goesOne_86
      · refine wp_aload_n hC dX9_goesOne_15 rfl ?_
        refine wp_geta (k := 25) hC (rfl) (by decide) (rfl) (rfl) (by decide) uX9_goesOne_X9 fX9_goesOne_64 (rfl) dX9_goesOne_16 ?_
        refine wp_iload_n hC dX9_goesOne_19 rfl ?_
        refine wp_iald (n := 60) hC (rfl) (Nat.le_of_ble_eq_true rfl) (rfl) (by decide) (by omega) dX9_goesOne_20 ?_
        refine wp_top (b := σ 17 to) rfl ?_
        refine wp_istore_n (lv2 := [(0, _), (1, _), (2, _), (3, _)]) hC dX9_goesOne_21 rfl (by decide) ?_
        refine wp_iload_n hC dX9_goesOne_22 rfl ?_
        refine wp_bipush hC dX9_goesOne_23 rfl ?_
        refine wp_icmp_ge (tgt := 46) hC dX9_goesOne_25 (by decide) (by omega) (by omega) (fun c_25 => ?_) (fun c_25 => ?_)
        · have hsp : to < 36 ∧ 36 ≤ σ 17 to ∧ σ 17 to < 60 := by
            rcases htt.2.2 with ⟨q, _⟩ | ⟨a0, _, _, ⟨a, b, c, _⟩ | ⟨a, b, _⟩⟩
            · exact absurd q c_12
            · omega
            · omega
          refine wp_aload_n hC dX9_goesOne_46 rfl ?_
          refine wp_geta (k := 22) hC (rfl) (by decide) (rfl) (rfl) (by decide) uX9_goesOne_X9 fX9_goesOne_55 (rfl) dX9_goesOne_47 ?_
          refine wp_iload_n hC dX9_goesOne_50 rfl ?_
          refine wp_aald4 (n := 36) hC rfl (Nat.le_of_ble_eq_true rfl) rfl (by decide) (by omega) dX9_goesOne_51 ?_
          refine wp_iload_n hC dX9_goesOne_52 rfl ?_
          refine wp_bipush hC dX9_goesOne_53 rfl ?_
          refine wp_isub hC dX9_goesOne_55 ?_
          refine wp_dup2 hC dX9_goesOne_56 rfl rfl ?_
          refine wp_iald (n := 24) hC ((rowP to.toNat (by omega)).2) (Nat.le_of_ble_eq_true rfl) ((rowP to.toNat (by omega)).1) (show 46 + to.toNat < 183 by omega) (by omega) dX9_goesOne_57 ?_
          refine wp_iconst hC dX9_goesOne_58 ?_
          refine wp_isub hC dX9_goesOne_59 ?_
          refine wp_iast (n := 24) hC ((rowP to.toNat (by omega)).2) (Nat.le_of_ble_eq_true rfl) ((rowP to.toNat (by omega)).1) (show 46 + to.toNat < 183 by omega) (by omega) dX9_goesOne_60 ?_
          refine wp_iload_n hC dX9_goesOne_61 rfl ?_
          refine wp_istore_n (lv2 := [(0, _), (1, _), (2, _), (3, _)]) hC dX9_goesOne_62 rfl (by decide) ?_
          refine wp_goto (tgt := 5) hC dX9_goesOne_63 (by decide) ?_
          refine wp_lv hC [0, 1, 2] rfl ?_
          have htm : σ 17 to < 60 ∧ 0 ≤ σ 17 (σ 17 to) ∧ ps (σ 17 to) < ps to ∧ EDG σ (pt σ) (σ 17 to) to := by
            rcases htt.2.2 with ⟨q, _⟩ | q
            · exact absurd q c_12
            · exact q
          have hps := (ht (σ 17 to) (by omega) htm.1 htm.2.1).1
          refine wp_st (σ2 := GP σ (up2 P to (σ 17 to - 36) (P to (σ 17 to - 36) - 1))) (by show put (GP σ P) (46 + to.toNat) (σ 17 to - 36) (GP σ P (46 + to.toNat) (σ 17 to - 36) - 1) = _; rw [GP_put ⟨h1.1, by omega⟩, GP_r ⟨h1.1, by omega⟩]) ?_
          exact ih _ (by omega) _ _ rfl ⟨by omega, by omega, htm.2.1⟩ (GI_os hn ht hg ⟨h1.1, h1.2.1, h1.2.2, c_12⟩ (by omega))
        · have hsp : to < 36 + σ 0 5 ∧ 36 ≤ to := by
            rcases htt.2.2 with ⟨q, _⟩ | ⟨_, _, _, ⟨a, b, c, _⟩ | ⟨a, _⟩⟩
            · exact absurd q c_12
            · omega
            · omega
          refine wp_aload_n hC dX9_goesOne_28 rfl ?_
          refine wp_geta (k := 22) hC (rfl) (by decide) (rfl) (rfl) (by decide) uX9_goesOne_X9 fX9_goesOne_55 (rfl) dX9_goesOne_29 ?_
          refine wp_iload_n hC dX9_goesOne_32 rfl ?_
          refine wp_aald4 (n := 36) hC rfl (Nat.le_of_ble_eq_true rfl) rfl (by decide) (by omega) dX9_goesOne_33 ?_
          refine wp_iload_n hC dX9_goesOne_34 rfl ?_
          refine wp_bipush hC dX9_goesOne_35 rfl ?_
          refine wp_isub hC dX9_goesOne_37 ?_
          refine wp_dup2 hC dX9_goesOne_38 rfl rfl ?_
          refine wp_iald (n := 24) hC ((rowP (σ 17 to).toNat (by omega)).2) (Nat.le_of_ble_eq_true rfl) ((rowP (σ 17 to).toNat (by omega)).1) (show 46 + (σ 17 to).toNat < 183 by omega) (by omega) dX9_goesOne_39 ?_
          refine wp_iconst hC dX9_goesOne_40 ?_
          refine wp_iadd hC dX9_goesOne_41 ?_
          refine wp_iast (n := 24) hC ((rowP (σ 17 to).toNat (by omega)).2) (Nat.le_of_ble_eq_true rfl) ((rowP (σ 17 to).toNat (by omega)).1) (show 46 + (σ 17 to).toNat < 183 by omega) (by omega) dX9_goesOne_42 ?_
          refine wp_goto (tgt := 61) hC dX9_goesOne_43 (by decide) ?_
          refine wp_iload_n hC dX9_goesOne_61 rfl ?_
          refine wp_istore_n (lv2 := [(0, _), (1, _), (2, _), (3, _)]) hC dX9_goesOne_62 rfl (by decide) ?_
          refine wp_goto (tgt := 5) hC dX9_goesOne_63 (by decide) ?_
          refine wp_lv hC [0, 1, 2] rfl ?_
          have htm : σ 17 to < 60 ∧ 0 ≤ σ 17 (σ 17 to) ∧ ps (σ 17 to) < ps to ∧ EDG σ (pt σ) (σ 17 to) to := by
            rcases htt.2.2 with ⟨q, _⟩ | q
            · exact absurd q c_12
            · exact q
          have hps := (ht (σ 17 to) (by omega) htm.1 htm.2.1).1
          refine wp_st (σ2 := GP σ (up2 P (σ 17 to) (to - 36) (P (σ 17 to) (to - 36) + 1))) (by show put (GP σ P) (46 + (σ 17 to).toNat) (to - 36) (GP σ P (46 + (σ 17 to).toNat) (to - 36) + 1) = _; rw [GP_put ⟨by omega, by omega⟩, GP_r ⟨by omega, by omega⟩]) ?_
          exact ih _ (by omega) _ _ rfl ⟨by omega, by omega, htm.2.1⟩ (GI_so hn hc hr ht hg ⟨h1.1, h1.2.1, h1.2.2, c_12⟩ (by omega))
  refine wp_bipush hC dX9_goesOne_0 rfl ?_
  refine wp_iload_n hC dX9_goesOne_2 rfl ?_
  refine wp_iadd hC dX9_goesOne_3 ?_
  refine wp_istore_n (lv2 := [(0, _), (1, _), (2, _)]) hC dX9_goesOne_4 rfl (by decide) ?_
  refine wp_st (σ2 := GP σ (pt σ)) GP_self.symm ?_
  exact L5 _ _ _ rfl ⟨by omega, by omega, hfo⟩ (GI_0 ho.1 hpb)
