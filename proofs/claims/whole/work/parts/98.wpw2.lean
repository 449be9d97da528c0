/-! new bytes, of the class of byte arrays -/
section WPWn
variable {p : Program} {l : Launch} {e : Env} {R : Room} {s : State} {m : MethodId} {args : Array Value} {below : List Frame} {meth : Method} {c : Code} {A : Nat → Prop} {H0 : Heap} {nL : Nat} {Q : State → Prop}
variable {D : va_G} {cl : List vw_C} {tys : List (ClassId × FieldType)} {ws : va_W} {cells slots : Nat} {pc : Nat} {lv : List (Nat × Value)} {st : List Value} {cc : ByteArray} {own : String} {Ts : List Cond}
theorem wpw_newc (hC : Cw p s m args meth c A H0 nL D cl tys cc own Ts) {cB : ClassId} (hB : s.vm.findClass ("[" ++ FieldType.byte.toString) = some cB) {x : Int} (hx : 0 ≤ x ∧ x ≤ 4000) (harr : Cond.arrayClass .byte ∈ Ts) (hcells : cells + 1 ≤ R.cells) (hslots : slots + x.toNat ≤ R.slots) (hd : decode cc pc = .ok (.newarray .byte, 2))
    (kk : ∀ q : Nat, H0.size ≤ q → wpw p l e R s m args below meth c A H0 nL Q D cl (ws ++ [(q, .inl (cB, x.toNat, .inl (fun _ => 0)))]) (cells + 1) (slots + x.toNat) (pc + 2) lv (.ref q :: st)) : wpw p l e R s m args below meth c A H0 nL Q D cl ws cells slots pc lv (.int (zI x) :: st) := fun H locs ls hP hD hS hl => by
  have hr : iR x := ⟨by omega, by omega⟩
  refine va_newaK (atype := .byte) hC.1 hC.2.1 (hC.2.2.2.2.1 _ harr) rfl hd rfl (fun h => ?_) (zI_clamp hr) ?_ hcells hslots rfl (fun H1 cA e1 z1 o1 hAr hNm => ?_)
  · have := (zI_lt hr iR_0).mp h
    omega
  · show x.toNat * 1 ≤ 536870912
    omega
  · have hc : cA = cB := Option.some.inj ((show s.vm.findClass ("[" ++ FieldType.byte.toString) = some cA from hNm).symm.trans hB)
    subst hc
    have hk : ∀ (k : Nat) (y : Nat × va_E), ws[k]? = some y → H1[y.1]? = H[y.1]? := fun k y hy => o1 y.1 ((hP k y hy).lt)
    refine kk H.size hS.1 H1 locs ls ((hP.kept hk).app (fun k y hy => ?_)) (hD.push hP rfl (hC.2.2.2.2.2.2.1 _ hS.1)) ⟨Nat.le_trans hS.1 (by omega), fun y h1 h2 => (o1 y (Nat.lt_of_lt_of_le h1 hS.1)).trans (hS.2.1 y h1 h2), hS.2.2⟩ hl
    have hz : k < 1 := (List.getElem?_eq_some_iff.mp hy).1
    rw [show k = 0 by omega] at hy
    cases hy
    exact e1
theorem bnar : ∀ n : Nat, n < 128 → vp_nar .byte (zI n) = zI n ∧ (zI n).toInt8.toInt32 = zI n := by decide +kernel
/-- a byte put -/
theorem wpw_bast (hC : Cw p s m args meth c A H0 nL D cl tys cc own Ts) {cA : ClassId} {a i t n : Nat} {f : Nat → Int32} {x v : Int} {ws2 : va_W} (he : ws[i]? = some (a, .inl (cA, n, .inl f))) (ht : tys[t]? = some (cA, .byte)) (hn : n ≤ 4000) (hx : 0 ≤ x ∧ x < n) (hv : 0 ≤ v ∧ v < 128) (hs : ws.set i (a, .inl (cA, n, .inl (upd f x.toNat (zI v)))) = ws2) (hd : decode cc pc = .ok (.bastore, 1)) (kk : wpw p l e R s m args below meth c A H0 nL Q D cl ws2 cells slots (pc + 1) lv st) : wpw p l e R s m args below meth c A H0 nL Q D cl ws cells slots pc lv (.int (zI v) :: .int (zI x) :: .ref a :: st) := fun H locs ls hP hD hS hl => by
  subst hs
  have hr : iR x := ⟨by omega, by omega⟩
  obtain ⟨k, rfl⟩ := Int.eq_ofNat_of_zero_le hv.1
  refine va_bast (D := D) (tys := tys) hC.1 hC.2.1 hC.2.2.2.2.2.1 hP hD hS i t he ht (zI_vp hr hx.1 hx.2) hd (fun H1 locs1 hP1 hD1 hS1 => ?_)
  rw [zI_clamp hr, (bnar k (by omega)).1] at hP1 hD1
  exact kk H1 locs1 ls hP1 hD1 hS1 hl
theorem wpw_dup_x1 (hC : Cw p s m args meth c A H0 nL D cl tys cc own Ts) {v w : Value} (hd : decode cc pc = .ok (.dup_x1, 1)) (hv : v.category = 1) (hw : w.category = 1) (kk : wpw p l e R s m args below meth c A H0 nL Q D cl ws cells slots (pc + 1) lv (v :: w :: v :: st)) : wpw p l e R s m args below meth c A H0 nL Q D cl ws cells slots pc lv (v :: w :: st) := fun H locs ls hP hD hS hl => by
  exact lv_dup_x1 hC.1 hC.2.1 hd hv hw (kk H locs ls hP hD hS hl)
theorem wpw_i2b (hC : Cw p s m args meth c A H0 nL D cl tys cc own Ts) {v : Int} (hd : decode cc pc = .ok (.i2b, 1)) (hv : 0 ≤ v ∧ v < 128) (kk : wpw p l e R s m args below meth c A H0 nL Q D cl ws cells slots (pc + 1) lv (.int (zI v) :: st)) : wpw p l e R s m args below meth c A H0 nL Q D cl ws cells slots pc lv (.int (zI v) :: st) := fun H locs ls hP hD hS hl => by
  obtain ⟨k, rfl⟩ := Int.eq_ofNat_of_zero_le hv.1
  exact lv_i2b hC.1 hC.2.1 hd (bnar k (by omega)).2 (kk H locs ls hP hD hS hl)
theorem wpw_ifnn (hC : Cw p s m args meth c A H0 nL D cl tys cc own Ts) {x : Nat} {off : Int} {tgt : Nat} (hd : decode cc pc = .ok (.ifnonnull off, 3)) (ht : (pc : Int) + off = (tgt : Int)) (kk : wpw p l e R s m args below meth c A H0 nL Q D cl ws cells slots tgt lv st) : wpw p l e R s m args below meth c A H0 nL Q D cl ws cells slots pc lv (.ref x :: st) := fun H locs ls hP hD hS hl => by
  exact lv_ifnonnull hC.1 hC.2.1 hd ht (kk H locs ls hP hD hS hl)
end WPWn
section WPWs
variable {p : Program} {l : Launch} {e : Env} {R : Room} {s : State} {m : MethodId} {args : Array Value} {below : List Frame} {meth : Method} {c : Code} {A : Nat → Prop} {nL : Nat} {Q : State → Prop}
variable {D : va_G} {cl : List vw_C} {tys : List (ClassId × FieldType)} {ws : va_W} {cells slots index : Nat} {pc : Nat} {lv : List (Nat × Value)} {st : List Value} {cc : ByteArray} {own : String} {Ts : List Cond}
theorem wpw_getst (hC : Cw p s m args meth c A s.heap nL D cl tys cc own Ts) {o fn fd : String} {v : Value} (hZ : va_Z o fn fd v A s s.heap) (hlink : Cond.fieldLink own index o fn fd ∈ Ts) (hd : decode cc pc = .ok (.getstatic index, 3)) (kk : wpw p l e R s m args below meth c A s.heap nL Q D cl ws cells slots (pc + 3) lv (v :: st)) : wpw p l e R s m args below meth c A s.heap nL Q D cl ws cells slots pc lv st := fun H locs ls hP hD hS hl => by
  exact va_gets hC.1 hC.2.1 hZ hS hC.2.2.2.1 (hC.2.2.2.2.1 _ hlink) (fun x h => h) hd (kk H locs ls hP hD hS hl)
theorem wpw_tlen (hC : Cw p s m args meth c A s.heap nL D cl tys cc own Ts) {t n : Nat} {ty : FieldType} {f : Nat → Value} (hT : va_T ty t n f A s s.heap) (hd : decode cc pc = .ok (.arraylength, 1)) (kk : wpw p l e R s m args below meth c A s.heap nL Q D cl ws cells slots (pc + 1) lv (.int (zI n) :: st)) : wpw p l e R s m args below meth c A s.heap nL Q D cl ws cells slots pc lv (.ref t :: st) := fun H locs ls hP hD hS hl => by
  exact va_tlen hC.1 hC.2.1 hT hS (v := zI n) rfl hd (kk H locs ls hP hD hS hl)
theorem wpw_tb (hC : Cw p s m args meth c A s.heap nL D cl tys cc own Ts) {t n : Nat} {f : Nat → Value} {x : Int} {v : Value} (hT : va_T .byte t n f A s s.heap) (hx : 0 ≤ x ∧ x < n) (hn : n ≤ 4000) (hv : f x.toNat = v) (hd : decode cc pc = .ok (.baload, 1)) (kk : wpw p l e R s m args below meth c A s.heap nL Q D cl ws cells slots (pc + 1) lv (v :: st)) : wpw p l e R s m args below meth c A s.heap nL Q D cl ws cells slots pc lv (.int (zI x) :: .ref t :: st) := fun H locs ls hP hD hS hl => by
  have hr : iR x := ⟨by omega, by omega⟩
  exact va_tb hC.1 hC.2.1 hT hS (zI_vp hr hx.1 hx.2) (by rw [zI_clamp hr]; exact hv) hd (kk H locs ls hP hD hS hl)
theorem wpw_getS (hC : Cw p s m args meth c A s.heap nL D cl tys cc own Ts) {o fn fd : String} {q : Nat} {v : Value} (hE : va_OF o fn fd v q A s s.heap) (hlink : Cond.fieldLink own index o fn fd ∈ Ts) (hd : decode cc pc = .ok (.getfield index, 3)) (kk : wpw p l e R s m args below meth c A s.heap nL Q D cl ws cells slots (pc + 3) lv (v :: st)) : wpw p l e R s m args below meth c A s.heap nL Q D cl ws cells slots pc lv (.ref q :: st) := fun H locs ls hP hD hS hl => by
  exact vk_getf hC.1 hC.2.1 hE hS hC.2.2.2.1 (hC.2.2.2.2.1 _ hlink) (fun x h => h) hd (kk H locs ls hP hD hS hl)
end WPWs
