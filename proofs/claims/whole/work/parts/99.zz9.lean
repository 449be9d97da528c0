/-! new int[n][m] -/
theorem vr_outer (c : ClassId) (N h0 : Nat) : ∀ i : Nat, Jvm.Free.Multi.outerC c N h0 i = arrV c N (fun j => va_rf (if j < i then some (h0 + 1 + j) else none))
  | 0 => by
    show ({ cls := c, slots := Array.replicate N .null, vm := .none } : Cell) = _
    rw [arrV_new]
    refine congrArg (arrV c N) (funext fun j => ?_)
    simp [va_rf]
  | i + 1 => by
    show (Jvm.Free.Multi.outerC c N h0 i).setSlot i (.ref (h0 + 1 + i)) = _
    rw [vr_outer c N h0 i, arrV_store]
    refine congrArg (arrV c N) (funext fun j => ?_)
    by_cases e : j = i
    · subst e
      simp [updV, va_rf]
    · by_cases h : j < i
      · simp [updV, e, h, Nat.lt_succ_of_lt h]
      · simp [updV, e, h, show ¬ j < i + 1 by omega]
theorem mna_ok : MNAq := by
  intro p l e R s m args below meth c A nL Q D cl tys ws cells slots pc lv st cc own Ts t1 t2 index cA cI hC hao ht1 ht2 x y hx hy hcl harr hcells hslots hd kk
  intro H locs ls hP hD hS hl T hT Xs
  have hrx : iR x := ⟨by omega, by omega⟩
  have hry : iR y := ⟨by omega, by omega⟩
  have nn : ∀ z : Int, iR z → 0 ≤ z → ¬ zI z < 0 := fun z r q w => by
    have := (zI_lt r iR_0).mp w
    omega
  have ex : (zI x).toNatClampNeg = x.toNat := zI_clamp hrx
  have ey : (zI y).toNatClampNeg = y.toNat := zI_clamp hry
  obtain ⟨vm₁, cA2, comp, -, fA, fC, hO, -, X', step⟩ := Xs.multianewarray2F (n := zI x) (k := zI y) (ty := .int) hC.1 hC.2.2.2.1 (hC.2.2.2.2.1 _ hcl) (hao : (Cond.arrayOver (.array .int)).before args s = true) (hC.2.2.2.2.1 _ harr) (g := F0 m pc ls (.int (zI y) :: .int (zI x) :: st)) rfl (by rw [hC.2.1]; exact hd) (rest := st) rfl (nn x hrx hx.1) (nn y hry hy.1) (by rw [ex]; omega) (by rw [ey]; show y.toNat * 4 ≤ _; omega) (by rw [ey]; omega) rfl rfl (by rw [ex]; exact hcells) (by rw [ex, ey]; exact hslots)
  have ec : cA2 = cA := Option.some.inj (fA.symm.trans (hC.2.2.2.2.2.1.2 t1 _ ht1).2)
  have ei : comp = cI := Option.some.inj (fC.symm.trans (hC.2.2.2.2.2.1.2 t2 _ ht2).2)
  rw [ex, ey, ec, ei] at X' step
  generalize hF : Jvm.Free.Multi.fill (T.setVm vm₁) cA cI x.toNat y.toNat (defaultValue .int) x.toNat = F at X' step
  have hTh : (T.setVm vm₁).heap = H := hT
  obtain ⟨f1, f2, -, -⟩ := Jvm.Free.Multi.fill_facts (T.setVm vm₁) cA cI x.toNat y.toNat (defaultValue .int) x.toNat
  rw [hF, hTh] at f1 f2
  have hold : ∀ z : Nat, z < H.size → F.heap[z]? = H[z]? := fun z hz => by
    have := Jvm.Free.Multi.fill_old (T.setVm vm₁) cA cI x.toNat y.toNat (defaultValue .int) (a := z) (by rw [hTh]; exact hz) x.toNat
    rw [hF, hTh] at this
    exact this
  have hrow : ∀ j : Nat, j < x.toNat → F.heap[H.size + 1 + j]? = some (vp_cell cI (y.toNat, .inl (fun _ => zI 0))) := fun j hj => by
    have := Jvm.Free.Multi.fill_inner (T.setVm vm₁) cA cI x.toNat y.toNat (defaultValue .int) x.toNat j hj
    rw [hF, hTh] at this
    rw [this]
    exact congrArg some (arrV_new cI y.toNat (.int 0))
  have hout : F.heap[H.size]? = some (vp_cell cA (x.toNat, .inr (.inr (.inr (.inr (fun j => some (H.size + 1 + j))))))) := by
    rw [f2, vr_outer, vp_cell_q]
    refine congrArg some ?_
    unfold arrV
    have e9 : (fun j : Fin x.toNat => va_rf (if j.val < x.toNat then some (H.size + 1 + j.val) else none)) = (fun j : Fin x.toNat => va_rf (some (H.size + 1 + j.val))) := funext fun j => by rw [if_pos j.isLt]
    rw [e9]
  have hN : ∀ (k : Nat) (q : Nat × va_E), ([(H.size, (.inl (cA, x.toNat, .inr (.inr (.inr (.inr (fun j => some (H.size + 1 + j)))))) : va_E))] ++ (List.range x.toNat).map (fun j => (H.size + 1 + j, (.inl (cI, y.toNat, .inl (fun _ => zI 0)) : va_E))))[k]? = some q → q.1 = H.size + k ∧ va_at D cl q F.heap := by
    intro k q hk
    cases k with
    | zero =>
      cases hk
      exact ⟨rfl, hout⟩
    | succ k =>
      have hk2 : ((List.range x.toNat).map (fun j => (H.size + 1 + j, (.inl (cI, y.toNat, .inl (fun _ => zI 0)) : va_E))))[k]? = some q := hk
      rw [List.getElem?_map] at hk2
      by_cases hl2 : k < x.toNat
      · rw [List.getElem?_range hl2] at hk2
        cases hk2
        exact ⟨by show H.size + 1 + k = H.size + (k + 1); omega, hrow k hl2⟩
      · have hn0 : (List.range x.toNat)[k]? = none := List.getElem?_eq_none (by rw [List.length_range]; omega)
        rw [hn0] at hk2
        cases hk2
  have hP1 := (hP.kept (fun k q hk => hold q.1 (hP k q hk).lt)).app (fun k q hk => (hN k q hk).2)
  have key : ∀ (k : Nat) (q : Nat × va_E), (ws ++ ([(H.size, (.inl (cA, x.toNat, .inr (.inr (.inr (.inr (fun j => some (H.size + 1 + j)))))) : va_E))] ++ (List.range x.toNat).map (fun j => (H.size + 1 + j, (.inl (cI, y.toNat, .inl (fun _ => zI 0)) : va_E)))))[k]? = some q → (ws[k]? = some q ∧ q.1 < H.size) ∨ (ws.length ≤ k ∧ q.1 = H.size + (k - ws.length)) := by
    intro k q hk
    by_cases hl2 : k < ws.length
    · rw [List.getElem?_append_left hl2] at hk
      exact Or.inl ⟨hk, (hP k q hk).lt⟩
    · rw [List.getElem?_append_right (by omega)] at hk
      exact Or.inr ⟨by omega, (hN _ q hk).1⟩
  have hD1 : va_D A (ws ++ ([(H.size, (.inl (cA, x.toNat, .inr (.inr (.inr (.inr (fun j => some (H.size + 1 + j)))))) : va_E))] ++ (List.range x.toNat).map (fun j => (H.size + 1 + j, (.inl (cI, y.toNat, .inl (fun _ => zI 0)) : va_E))))) := by
    refine ⟨fun i j u v hu hv huv => ?_, fun k q hk => ?_⟩
    · rcases key i u hu with ⟨a1, a2⟩ | ⟨a1, a2⟩ <;> rcases key j v hv with ⟨b1, b2⟩ | ⟨b1, b2⟩
      · exact hD.1 i j u v a1 b1 huv
      · omega
      · omega
      · omega
    · rcases key k q hk with ⟨a1, a2⟩ | ⟨a1, a2⟩
      · exact hD.2 k q a1
      · exact hC.2.2.2.2.2.2.1 _ (by have := hS.1; omega)
  obtain ⟨t, a1, b1⟩ := kk H.size (fun j => H.size + 1 + j) F.heap locs ls hP1 hD1 ⟨by have := hS.1; omega, fun z h1 h2 => (hold z (Nat.lt_of_lt_of_le h1 hS.1)).trans (hS.2.1 z h1 h2), hS.2.2⟩ hl F rfl X'
  refine ⟨t, step t ?_, b1⟩
  rw [hT]
  exact a1
theorem i_vc : Claimed_1_1 ∧ Claimed_1_2 := i_vc0 mna_ok
