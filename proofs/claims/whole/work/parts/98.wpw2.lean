/-! new bytes, of the class of byte arrays -/
section WPWn
variable {p : Program} {l : Launch} {e : Env} {R : Room} {s : State} {m : MethodId} {args : Array Value} {below : List Frame} {meth : Method} {c : Code} {A : Nat → Prop} {H0 : Heap} {nL : Nat} {Q : State → Prop}
variable {D : va_G} {cl : List vw_C} {tys : List (ClassId × FieldType)} {ws : va_W} {cells slots : Nat} {pc : Nat} {lv : List (Nat × Value)} {st : List Value} {cc : ByteArray} {own : String} {Ts : List Cond}
theorem wpw_newc (hC : Cw p s m args meth c A H0 nL D cl tys cc own Ts) {cB : ClassId} (hB : s.vm.findClass ("[" ++ FieldType.byte.toString) = some cB) {x : Int} (hx : 0 ≤ x ∧ x ≤ 4000) (harr : Cond.arrayClass .byte ∈ Ts) (hcells : cells + 1 ≤ R.cells) (hslots : slots + x.toNat ≤ R.slots) (hd : decode cc pc = .ok (.newarray .byte, 2))
    (kk : ∀ q : Nat, H0.size ≤ q → wpw p l e R s m args below meth c A H0 nL Q D cl (ws ++ [(q, .inl (cB, x.toNat, .inl (fun _ => 0)))]) (cells + 1) (slots + x.toNat) (pc + 2) lv (.ref q :: st)) : wpw p l e R s m args below meth c A H0 nL Q D cl ws cells slots pc lv (.int (zI x) :: st) := fun H locs ls hP hD hS hl => by
  have hr : iR x := ⟨by omega, by omega⟩
  refine va_newaK (atype := .byte) hC.1 hC.2.1 (hC.2.2.2.2.1 _ harr) rfl hd rfl (fun h => ?_) (zI_clamp hr) ?_ hcells hslots rfl (fun H1 cA e1 z1 o1 hAr hNm => ?_)
  · have := (zI_lt hr iR_0).mp h
    omega
  · show x.toNat * 1 ≤ 536870912
    omega
  · have hc : cA = cB := Option.some.inj ((show s.vm.findClass ("[" ++ FieldType.byte.toString) = some cA from hNm).symm.trans hB)
    subst hc
    have hk : ∀ (k : Nat) (y : Nat × va_E), ws[k]? = some y → H1[y.1]? = H[y.1]? := fun k y hy => o1 y.1 ((hP k y hy).lt)
    refine kk H.size hS.1 H1 locs ls ((hP.kept hk).app (fun k y hy => ?_)) (hD.push hP rfl (hC.2.2.2.2.2.2.1 _ hS.1)) ⟨Nat.le_trans hS.1 (by omega), fun y h1 h2 => (o1 y (Nat.lt_of_lt_of_le h1 hS.1)).trans (hS.2.1 y h1 h2), hS.2.2⟩ hl
    have hz : k < 1 := (List.getElem?_eq_some_iff.mp hy).1
    rw [show k = 0 by omega] at hy
    cases hy
    exact e1
end WPWn
