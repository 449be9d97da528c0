/-! more rows: wide iinc -/
section WP3
variable {p : Program} {l : Launch} {e : Env} {R : Room} {s : State} {m : MethodId} {args : Array Value} {below : List Frame} {meth : Method} {c : Code} {A : Nat → Prop} {H0 : Heap} {nL : Nat} {Q : State → Prop} {G : Gy}
variable {σ : St} {pc : Nat} {lv : List (Nat × Value)} {st stk : List Value} {cc : ByteArray} {own : String} {Ts : List Cond}
theorem wp_iincW (hC : Cx p s m args meth c A H0 nL G cc own Ts) {i : Nat} {n x : Int} {lv2 : List (Nat × Value)} (hd : decode cc pc = .ok (.iinc i n, 6)) (hg : lg lv i = some (.int (zI x))) (hv : lput lv i (.int (zI (x + n))) = lv2) (hn : i < nL) (kk : wp p l e R s m args below meth c A H0 nL Q G σ (pc + 6) lv2 st) : wp p l e R s m args below meth c A H0 nL Q G σ pc lv st := fun H locs ls hP hS hl => by
  subst hv
  obtain ⟨k, hk⟩ := lg_pl hg
  exact lv_iincW hC.1 hC.2.1 hd hl hk (zI_add x n) hn rfl (fun ls2 h2 => kk H locs ls2 hP hS (lput_has h2))
theorem wp_iushr (hC : Cx p s m args meth c A H0 nL G cc own Ts) {a b : Int} (k : Nat) (hb : (((zI b).toUInt32 &&& Int32.toUInt32 31).toBitVec % 32).toNat = k) (ra : 0 ≤ a ∧ a ≤ 2147483647) (hd : decode cc pc = .ok (.iushr, 1)) (kk : wp p l e R s m args below meth c A H0 nL Q G σ (pc + 1) lv (.int (zI (a / (2 ^ k : Nat))) :: st)) : wp p l e R s m args below meth c A H0 nL Q G σ pc lv (.int (zI b) :: .int (zI a) :: st) := fun H locs ls hP hS hl => by
  refine lv_iushr hC.1 hC.2.1 hd (v := zI (a / (2 ^ k : Nat))) ?_ (kk H locs ls hP hS hl)
  obtain ⟨q, rfl⟩ := Int.eq_ofNat_of_zero_le ra.1
  rw [zI_nI, pk_ushrN (by omega) (zI b) k hb, ← zI_nI]
  rfl
theorem wp_ldcw (hC : Cx p s m args meth c A H0 nL G cc own Ts) {index : Nat} {n : Int} (hd : decode cc pc = .ok (.ldc_w index, 3)) (hw : Jvm.Cond.constant own index (zI n) ∈ Ts) (kk : wp p l e R s m args below meth c A H0 nL Q G σ (pc + 3) lv (.int (zI n) :: st)) : wp p l e R s m args below meth c A H0 nL Q G σ pc lv st := fun H locs ls hP hS hl => by
  exact lv_ldcw hC.1 hC.2.1 hC.2.2.2.1 (hC.2.2.2.2.1 _ hw) hd (kk H locs ls hP hS hl)
end WP3
