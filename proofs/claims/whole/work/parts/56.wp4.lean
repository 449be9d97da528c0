/-! more rows: rows of numbers copied -/
section WP4
variable {p : Program} {l : Launch} {e : Env} {R : Room} {s : State} {m : MethodId} {args : Array Value} {below : List Frame} {meth : Method} {c : Code} {A : Nat → Prop} {H0 : Heap} {nL : Nat} {Q : State → Prop} {G : Gy}
variable {σ : St} {pc : Nat} {lv : List (Nat × Value)} {st stk : List Value} {cc : ByteArray} {own : String} {Ts : List Cond}
theorem ct_cpy {G : Gy} {σ : St} {i j q : Nat} {k : Int} (h : q ≠ j) : ct G (cpy σ i j k) q = ct G σ q := by
  have e : ∀ b, cpy σ i j k q b = σ q b := fun b => if_neg (fun z => h z.1)
  unfold ct
  simp only [e]
  have f : fv G (cpy σ i j k) q = fv G σ q := by
    funext b
    unfold fv
    simp only [e]
  rw [f]
theorem cpy_ar {G : Gy} {σ : St} {i j : Nat} {k : Int} (hj : j < NID) (kj : kd j = 1) : (wl G σ).set j (G.2.2 j, .inl (G.2.1 0, ln j, .inl (va_cpy (fun x => zI (σ i x)) (fun x => zI (σ j x)) 0 0 k.toNat))) = wl G (cpy σ i j k) := by
  refine wl_set hj ?_ (fun q _ hq => ct_cpy hq)
  rw [ct_1 kj]
  congr 4
  funext x
  show zI (if j = j ∧ 0 ≤ (x : Int) ∧ (x : Int) < k then σ i x else σ j x) = if 0 ≤ x ∧ x < 0 + k.toNat then zI (σ i ((0 + (x - 0) : Nat) : Int)) else zI (σ j x)
  by_cases h : (x : Int) < k
  · rw [if_pos ⟨rfl, by omega, h⟩, if_pos (by omega), show 0 + (x - 0) = x by omega]
  · rw [if_neg (fun z => h z.2.2), if_neg (by omega)]
theorem wp_acopy (hC : Cx p s m args meth c A H0 nL G cc own Ts) {i j : Nat} {k : Int} (ki : kd i = 1) (kj : kd j = 1) (hi : i < NID) (hj : j < NID) (li : ln i ≤ 4000) (h0 : 0 ≤ k ∧ k ≤ ln i ∧ k ≤ ln j) {index : Nat} (hl : Cond.methodLink own index arraycopyName ∈ Ts) (hn : Cond.native arraycopyName ∈ Ts) (hs : Cond.static arraycopyName ∈ Ts) (hini : Cond.initialized "java/lang/System" ∈ Ts) (hfr : 1 ≤ R.frames) (hloc : (st.map fun v => v.category).sum + (nativeFrameWords "java/lang/System" "arraycopy" 5 + 11) ≤ R.locals) (hd : decode cc pc = .ok (.invokestatic index, 3)) (kk : wp p l e R s m args below meth c A H0 nL Q G (cpy σ i j k) (pc + 3) lv st) : wp p l e R s m args below meth c A H0 nL Q G σ pc lv (.int (zI k) :: .int (zI 0) :: .ref (G.2.2 j) :: .int (zI 0) :: .ref (G.2.2 i) :: st) := fun H locs ls hP hS hlv => by
  have hk : iR k := ⟨by omega, by omega⟩
  have hz : iR 0 := ⟨by decide, by decide⟩
  have nn : ∀ z : Int, iR z → 0 ≤ z → ¬ zI z < 0 := fun z r q w => by
    have := Int32.lt_iff_toInt_lt.mp w
    rw [zI_toInt r] at this
    have e0 : (0 : Int32).toInt = 0 := rfl
    omega
  refine va_copyi (D := G.1) (tys := tysW G) hC.1 hC.2.1 (by rw [hC.2.2.1]; exact hlv.1.symm) hC.2.2.2.1 (hC.2.2.2.2.1 _ hl) (hC.2.2.2.2.1 _ hn) (hC.2.2.2.2.1 _ hs) (hC.2.2.2.2.1 _ hini) hC.2.2.2.2.2.1 hP (hC.2.2.2.2.2.2.1 σ) hS i j 0 0 (by rw [wl_get hi, ct_1 ki]) (by rw [wl_get hj, ct_1 kj]) rfl rfl rfl (nn 0 hz (by decide)) (nn 0 hz (by decide)) (nn k hk h0.1) ?_ ?_ (fun q _ => rfl) hfr hloc hd (fun H1 locs1 hP1 _ hS1 => ?_)
  · rw [zI_clamp hz, zI_clamp hk]; show 0 + k.toNat ≤ ln i; omega
  · rw [zI_clamp hz, zI_clamp hk]; show 0 + k.toNat ≤ ln j; omega
  · rw [zI_clamp hz, zI_clamp hk] at hP1
    have e := cpy_ar (G := G) (σ := σ) (i := i) (k := k) hj kj
    have hP2 : va_P G.1 vwCl (wl G (cpy σ i j k)) H1 := by rw [← e]; exact hP1
    exact kk H1 locs1 ls hP2 hS1 hlv
end WP4
