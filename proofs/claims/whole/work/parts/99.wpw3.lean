/-! bytes copied -/
section WPWc
variable {p : Program} {l : Launch} {e : Env} {R : Room} {s : State} {m : MethodId} {args : Array Value} {below : List Frame} {meth : Method} {c : Code} {A : Nat → Prop} {H0 : Heap} {nL : Nat} {Q : State → Prop}
variable {D : va_G} {cl : List vw_C} {tys : List (ClassId × FieldType)} {ws : va_W} {cells slots : Nat} {pc : Nat} {lv : List (Nat × Value)} {st : List Value} {cc : ByteArray} {own : String} {Ts : List Cond}
theorem wpw_copy (hC : Cw p s m args meth c A H0 nL D cl tys cc own Ts) {cB : ClassId} {i j t a1 a2 n1 n2 : Nat} {f g : Nat → Int32} {k : Int} {ws2 : va_W} (hi : ws[i]? = some (a1, .inl (cB, n1, .inl f))) (hj : ws[j]? = some (a2, .inl (cB, n2, .inl g))) (ht : tys[t]? = some (cB, .byte)) (li : n1 ≤ 4000) (h0 : 0 ≤ k ∧ k ≤ n1 ∧ k ≤ n2) (hfit : ∀ q, fits .byte (.int (f q)) = true) {index : Nat} (hl : Cond.methodLink own index arraycopyName ∈ Ts) (hn : Cond.native arraycopyName ∈ Ts) (hs : Cond.static arraycopyName ∈ Ts) (hini : Cond.initialized "java/lang/System" ∈ Ts) (hfr : 1 ≤ R.frames) (hloc : (st.map fun v => v.category).sum + (nativeFrameWords "java/lang/System" "arraycopy" 5 + 11) ≤ R.locals) (h2 : ws.set j (a2, .inl (cB, n2, .inl (va_cpy f g 0 0 k.toNat))) = ws2) (hd : decode cc pc = .ok (.invokestatic index, 3)) (kk : wpw p l e R s m args below meth c A H0 nL Q D cl ws2 cells slots (pc + 3) lv st) : wpw p l e R s m args below meth c A H0 nL Q D cl ws cells slots pc lv (.int (zI k) :: .int (zI 0) :: .ref a2 :: .int (zI 0) :: .ref a1 :: st) := fun H locs ls hP hD hS hlv => by
  subst h2
  have hk : iR k := ⟨by omega, by omega⟩
  have hz : iR 0 := ⟨by decide, by decide⟩
  have nn : ∀ z : Int, iR z → 0 ≤ z → ¬ zI z < 0 := fun z r q w => by
    have := Int32.lt_iff_toInt_lt.mp w
    rw [zI_toInt r] at this
    have e0 : (0 : Int32).toInt = 0 := rfl
    omega
  refine va_copyi (D := D) (tys := tys) hC.1 hC.2.1 (by rw [hC.2.2.1]; exact hlv.1.symm) hC.2.2.2.1 (hC.2.2.2.2.1 _ hl) (hC.2.2.2.2.1 _ hn) (hC.2.2.2.2.1 _ hs) (hC.2.2.2.2.1 _ hini) hC.2.2.2.2.2.1 hP hD hS i j t t hi hj ht ht rfl (nn 0 hz (by decide)) (nn 0 hz (by decide)) (nn k hk h0.1) ?_ ?_ (fun q _ => hfit _) hfr hloc hd (fun H1 locs1 hP1 hD1 hS1 => ?_)
  · rw [zI_clamp hz, zI_clamp hk]; show 0 + k.toNat ≤ n1; omega
  · rw [zI_clamp hz, zI_clamp hk]; show 0 + k.toNat ≤ n2; omega
  · rw [zI_clamp hz, zI_clamp hk] at hP1 hD1
    exact kk H1 locs1 ls hP1 hD1 hS1 hlv
end WPWc
