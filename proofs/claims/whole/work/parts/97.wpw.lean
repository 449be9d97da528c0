/-! a judgement over any list of world -/
section WPW
variable {p : Program} {l : Launch} {e : Env} {R : Room} {s : State} {m : MethodId} {args : Array Value} {below : List Frame} {meth : Method} {c : Code} {A : Nat → Prop} {H0 : Heap} {nL : Nat} {Q : State → Prop}
variable {D : va_G} {cl : List vw_C} {tys : List (ClassId × FieldType)} {ws : va_W} {cells slots : Nat} {pc : Nat} {lv : List (Nat × Value)} {st : List Value} {cc : ByteArray} {own : String} {Ts : List Cond}
def Cw (p : Program) (s : State) (m : MethodId) (args : Array Value) (meth : Method) (c : Code) (A : Nat → Prop) (H0 : Heap) (nL : Nat) (D : va_G) (cl : List vw_C) (tys : List (ClassId × FieldType)) (cc : ByteArray) (own : String) (Ts : List Cond) : Prop :=
  p.tables.exec = Jvm.exec ∧ c.code = cc ∧ c.maxLocals = nL ∧ s.vm.findClass own = some m.cls ∧ (∀ w ∈ Ts, w.before args s = true) ∧ va_K D cl tys s ∧ (∀ q, H0.size ≤ q → A q) ∧ meth.locks = false
def wpw (p : Program) (l : Launch) (e : Env) (R : Room) (s : State) (m : MethodId) (args : Array Value) (below : List Frame) (meth : Method) (c : Code) (A : Nat → Prop) (H0 : Heap) (nL : Nat) (Q : State → Prop) (D : va_G) (cl : List vw_C) (ws : va_W) (cells slots : Nat) (pc : Nat) (lv : List (Nat × Value)) (st : List Value) : Prop :=
  ∀ (H : Heap) (locs : List Loc) (ls : Array Slot), va_P D cl ws H → va_D A ws → va_S A H0 H locs → lv_has ls nL lv → W p l e R s m args below meth c H locs cells slots Q (F0 m pc ls st)
theorem wpw_iconst (hC : Cw p s m args meth c A H0 nL D cl tys cc own Ts) {n : Int} (hd : decode cc pc = .ok (.iconst n, 1)) (kk : wpw p l e R s m args below meth c A H0 nL Q D cl ws cells slots (pc + 1) lv (.int (zI n) :: st)) : wpw p l e R s m args below meth c A H0 nL Q D cl ws cells slots pc lv st := fun H locs ls hP hD hS hl => by
  exact lv_iconst hC.1 hC.2.1 hd rfl (kk H locs ls hP hD hS hl)
theorem wpw_bipush (hC : Cw p s m args meth c A H0 nL D cl tys cc own Ts) {n : Int} (hd : decode cc pc = .ok (.bipush n, 2)) (hn : (Int8.ofInt n).toInt32 = zI n) (kk : wpw p l e R s m args below meth c A H0 nL Q D cl ws cells slots (pc + 2) lv (.int (zI n) :: st)) : wpw p l e R s m args below meth c A H0 nL Q D cl ws cells slots pc lv st := fun H locs ls hP hD hS hl => by
  exact lv_bipush hC.1 hC.2.1 hd hn (kk H locs ls hP hD hS hl)
theorem wpw_sipush (hC : Cw p s m args meth c A H0 nL D cl tys cc own Ts) {n : Int} (hd : decode cc pc = .ok (.sipush n, 3)) (hn : (Int16.ofInt n).toInt32 = zI n) (kk : wpw p l e R s m args below meth c A H0 nL Q D cl ws cells slots (pc + 3) lv (.int (zI n) :: st)) : wpw p l e R s m args below meth c A H0 nL Q D cl ws cells slots pc lv st := fun H locs ls hP hD hS hl => by
  exact lv_sipush hC.1 hC.2.1 hd hn (kk H locs ls hP hD hS hl)
theorem wpw_ldc (hC : Cw p s m args meth c A H0 nL D cl tys cc own Ts) {index : Nat} {n : Int} (hd : decode cc pc = .ok (.ldc index, 2)) (hw : Jvm.Cond.constant own index (zI n) ∈ Ts) (kk : wpw p l e R s m args below meth c A H0 nL Q D cl ws cells slots (pc + 2) lv (.int (zI n) :: st)) : wpw p l e R s m args below meth c A H0 nL Q D cl ws cells slots pc lv st := fun H locs ls hP hD hS hl => by
  exact lv_ldc hC.1 hC.2.1 hC.2.2.2.1 (hC.2.2.2.2.1 _ hw) hd (kk H locs ls hP hD hS hl)
theorem wpw_ldc2 (hC : Cw p s m args meth c A H0 nL D cl tys cc own Ts) {index : Nat} {n : Int} (hd : decode cc pc = .ok (.ldc2_w index, 3)) (hw : Jvm.Cond.constantLong own index (zL n) ∈ Ts) (kk : wpw p l e R s m args below meth c A H0 nL Q D cl ws cells slots (pc + 3) lv (.long (zL n) :: st)) : wpw p l e R s m args below meth c A H0 nL Q D cl ws cells slots pc lv st := fun H locs ls hP hD hS hl => by
  exact lv_ldc2 hC.1 hC.2.1 hC.2.2.2.1 (hC.2.2.2.2.1 _ hw) hd (kk H locs ls hP hD hS hl)
theorem wpw_lconst (hC : Cw p s m args meth c A H0 nL D cl tys cc own Ts) {n : Fin 2} (hd : decode cc pc = .ok (.lconst n, 1)) (kk : wpw p l e R s m args below meth c A H0 nL Q D cl ws cells slots (pc + 1) lv (.long (zL (n : Nat)) :: st)) : wpw p l e R s m args below meth c A H0 nL Q D cl ws cells slots pc lv st := fun H locs ls hP hD hS hl => by
  exact lv_lconst hC.1 hC.2.1 hd rfl (kk H locs ls hP hD hS hl)
theorem wpw_iload_n (hC : Cw p s m args meth c A H0 nL D cl tys cc own Ts) {k : Fin 4} {x : Int} (hd : decode cc pc = .ok (.iload_n k, 1)) (hg : lg lv k = some (.int (zI x))) (kk : wpw p l e R s m args below meth c A H0 nL Q D cl ws cells slots (pc + 1) lv (.int (zI x) :: st)) : wpw p l e R s m args below meth c A H0 nL Q D cl ws cells slots pc lv st := fun H locs ls hP hD hS hl => by
  exact lv_iload_n hC.1 hC.2.1 hd rfl (lg_at hl hg) (kk H locs ls hP hD hS hl)
theorem wpw_iload (hC : Cw p s m args meth c A H0 nL D cl tys cc own Ts) {i : Nat} {x : Int} (hd : decode cc pc = .ok (.iload i, 2)) (hg : lg lv i = some (.int (zI x))) (kk : wpw p l e R s m args below meth c A H0 nL Q D cl ws cells slots (pc + 2) lv (.int (zI x) :: st)) : wpw p l e R s m args below meth c A H0 nL Q D cl ws cells slots pc lv st := fun H locs ls hP hD hS hl => by
  exact lv_iload hC.1 hC.2.1 hd (lg_at hl hg) (kk H locs ls hP hD hS hl)
theorem wpw_lload_n (hC : Cw p s m args meth c A H0 nL D cl tys cc own Ts) {k : Fin 4} {x : Int} (hd : decode cc pc = .ok (.lload_n k, 1)) (hg : lg lv k = some (.long (zL x))) (kk : wpw p l e R s m args below meth c A H0 nL Q D cl ws cells slots (pc + 1) lv (.long (zL x) :: st)) : wpw p l e R s m args below meth c A H0 nL Q D cl ws cells slots pc lv st := fun H locs ls hP hD hS hl => by
  exact lv_lload_n hC.1 hC.2.1 hd rfl (lg_at hl hg) (kk H locs ls hP hD hS hl)
theorem wpw_lload (hC : Cw p s m args meth c A H0 nL D cl tys cc own Ts) {i : Nat} {x : Int} (hd : decode cc pc = .ok (.lload i, 2)) (hg : lg lv i = some (.long (zL x))) (kk : wpw p l e R s m args below meth c A H0 nL Q D cl ws cells slots (pc + 2) lv (.long (zL x) :: st)) : wpw p l e R s m args below meth c A H0 nL Q D cl ws cells slots pc lv st := fun H locs ls hP hD hS hl => by
  exact lv_lload hC.1 hC.2.1 hd (lg_at hl hg) (kk H locs ls hP hD hS hl)
theorem wpw_aload_n (hC : Cw p s m args meth c A H0 nL D cl tys cc own Ts) {k : Fin 4} {x : Nat} (hd : decode cc pc = .ok (.aload_n k, 1)) (hg : lg lv k = some (.ref x)) (kk : wpw p l e R s m args below meth c A H0 nL Q D cl ws cells slots (pc + 1) lv (.ref x :: st)) : wpw p l e R s m args below meth c A H0 nL Q D cl ws cells slots pc lv st := fun H locs ls hP hD hS hl => by
  exact lv_aload_n hC.1 hC.2.1 hd rfl (lg_at hl hg) (kk H locs ls hP hD hS hl)
theorem wpw_aload (hC : Cw p s m args meth c A H0 nL D cl tys cc own Ts) {i : Nat} {x : Nat} (hd : decode cc pc = .ok (.aload i, 2)) (hg : lg lv i = some (.ref x)) (kk : wpw p l e R s m args below meth c A H0 nL Q D cl ws cells slots (pc + 2) lv (.ref x :: st)) : wpw p l e R s m args below meth c A H0 nL Q D cl ws cells slots pc lv st := fun H locs ls hP hD hS hl => by
  exact lv_aload hC.1 hC.2.1 hd (lg_at hl hg) (kk H locs ls hP hD hS hl)
theorem wpw_istore_n (hC : Cw p s m args meth c A H0 nL D cl tys cc own Ts) {k : Fin 4} {x : Int} {lv2 : List (Nat × Value)} (hd : decode cc pc = .ok (.istore_n k, 1)) (hv : lput lv k (.int (zI x)) = lv2) (hn : (k : Nat) < nL) (kk : wpw p l e R s m args below meth c A H0 nL Q D cl ws cells slots (pc + 1) lv2 st) : wpw p l e R s m args below meth c A H0 nL Q D cl ws cells slots pc lv ((.int (zI x)) :: st) := fun H locs ls hP hD hS hl => by
  subst hv
  exact lv_istore_n hC.1 hC.2.1 hd rfl hl hn rfl (fun ls2 h2 => kk H locs ls2 hP hD hS (lput_has h2))
theorem wpw_istore (hC : Cw p s m args meth c A H0 nL D cl tys cc own Ts) {i : Nat} {x : Int} {lv2 : List (Nat × Value)} (hd : decode cc pc = .ok (.istore i, 2)) (hv : lput lv i (.int (zI x)) = lv2) (hn : i < nL) (kk : wpw p l e R s m args below meth c A H0 nL Q D cl ws cells slots (pc + 2) lv2 st) : wpw p l e R s m args below meth c A H0 nL Q D cl ws cells slots pc lv ((.int (zI x)) :: st) := fun H locs ls hP hD hS hl => by
  subst hv
  exact lv_istore hC.1 hC.2.1 hd hl hn rfl (fun ls2 h2 => kk H locs ls2 hP hD hS (lput_has h2))
theorem wpw_astore_n (hC : Cw p s m args meth c A H0 nL D cl tys cc own Ts) {k : Fin 4} {x : Nat} {lv2 : List (Nat × Value)} (hd : decode cc pc = .ok (.astore_n k, 1)) (hv : lput lv k (.ref x) = lv2) (hn : (k : Nat) < nL) (kk : wpw p l e R s m args below meth c A H0 nL Q D cl ws cells slots (pc + 1) lv2 st) : wpw p l e R s m args below meth c A H0 nL Q D cl ws cells slots pc lv ((.ref x) :: st) := fun H locs ls hP hD hS hl => by
  subst hv
  exact lv_astore_n hC.1 hC.2.1 hd rfl hl hn rfl (fun ls2 h2 => kk H locs ls2 hP hD hS (lput_has h2))
theorem wpw_astore (hC : Cw p s m args meth c A H0 nL D cl tys cc own Ts) {i : Nat} {x : Nat} {lv2 : List (Nat × Value)} (hd : decode cc pc = .ok (.astore i, 2)) (hv : lput lv i (.ref x) = lv2) (hn : i < nL) (kk : wpw p l e R s m args below meth c A H0 nL Q D cl ws cells slots (pc + 2) lv2 st) : wpw p l e R s m args below meth c A H0 nL Q D cl ws cells slots pc lv ((.ref x) :: st) := fun H locs ls hP hD hS hl => by
  subst hv
  exact lv_astore hC.1 hC.2.1 hd hl hn rfl (fun ls2 h2 => kk H locs ls2 hP hD hS (lput_has h2))
theorem wpw_lstore (hC : Cw p s m args meth c A H0 nL D cl tys cc own Ts) {i : Nat} {x : Int} {lv2 : List (Nat × Value)} (hd : decode cc pc = .ok (.lstore i, 2)) (hv : (i, Value.long (zL x)) :: lv.filter (fun q => !(q.1 == i) && (!(q.1 == i + 1) && !(q.1 + 1 == i && q.2.category == 2))) = lv2) (hn : i + 1 < nL) (kk : wpw p l e R s m args below meth c A H0 nL Q D cl ws cells slots (pc + 2) lv2 st) : wpw p l e R s m args below meth c A H0 nL Q D cl ws cells slots pc lv (.long (zL x) :: st) := fun H locs ls hP hD hS hl => by
  exact lv_lstore hC.1 hC.2.1 hd hl hn hv (fun ls2 h2 => kk H locs ls2 hP hD hS h2)
theorem wpw_iinc (hC : Cw p s m args meth c A H0 nL D cl tys cc own Ts) {i : Nat} {n x : Int} {lv2 : List (Nat × Value)} (hd : decode cc pc = .ok (.iinc i n, 3)) (hg : lg lv i = some (.int (zI x))) (hv : lput lv i (.int (zI (x + n))) = lv2) (hn : i < nL) (kk : wpw p l e R s m args below meth c A H0 nL Q D cl ws cells slots (pc + 3) lv2 st) : wpw p l e R s m args below meth c A H0 nL Q D cl ws cells slots pc lv st := fun H locs ls hP hD hS hl => by
  subst hv
  obtain ⟨k, hk⟩ := lg_pl hg
  exact lv_iinc hC.1 hC.2.1 hd hl hk (zI_add x n) hn rfl (fun ls2 h2 => kk H locs ls2 hP hD hS (lput_has h2))
theorem wpw_lv (hC : Cw p s m args meth c A H0 nL D cl tys cc own Ts) {lv2 : List (Nat × Value)} (ks : List Nat) (h : lv_pick lv ks = lv2) (kk : wpw p l e R s m args below meth c A H0 nL Q D cl ws cells slots pc lv2 st) : wpw p l e R s m args below meth c A H0 nL Q D cl ws cells slots pc lv st := fun H locs ls hP hD hS hl => by
  exact kk H locs ls hP hD hS (lv_sub hl ks h)
theorem wpw_iadd (hC : Cw p s m args meth c A H0 nL D cl tys cc own Ts) {a b : Int} (hd : decode cc pc = .ok (.iadd, 1)) (kk : wpw p l e R s m args below meth c A H0 nL Q D cl ws cells slots (pc + 1) lv (.int (zI (a + b)) :: st)) : wpw p l e R s m args below meth c A H0 nL Q D cl ws cells slots pc lv (.int (zI b) :: .int (zI a) :: st) := fun H locs ls hP hD hS hl => by
  refine lv_iadd hC.1 hC.2.1 hd ?_
  rw [zI_add]
  exact kk H locs ls hP hD hS hl
theorem wpw_isub (hC : Cw p s m args meth c A H0 nL D cl tys cc own Ts) {a b : Int} (hd : decode cc pc = .ok (.isub, 1)) (kk : wpw p l e R s m args below meth c A H0 nL Q D cl ws cells slots (pc + 1) lv (.int (zI (a - b)) :: st)) : wpw p l e R s m args below meth c A H0 nL Q D cl ws cells slots pc lv (.int (zI b) :: .int (zI a) :: st) := fun H locs ls hP hD hS hl => by
  refine lv_isub hC.1 hC.2.1 hd ?_
  rw [zI_sub]
  exact kk H locs ls hP hD hS hl
theorem wpw_imul (hC : Cw p s m args meth c A H0 nL D cl tys cc own Ts) {a b : Int} (hd : decode cc pc = .ok (.imul, 1)) (kk : wpw p l e R s m args below meth c A H0 nL Q D cl ws cells slots (pc + 1) lv (.int (zI (a * b)) :: st)) : wpw p l e R s m args below meth c A H0 nL Q D cl ws cells slots pc lv (.int (zI b) :: .int (zI a) :: st) := fun H locs ls hP hD hS hl => by
  refine lv_imul hC.1 hC.2.1 hd ?_
  rw [zI_mul]
  exact kk H locs ls hP hD hS hl
theorem wpw_iand (hC : Cw p s m args meth c A H0 nL D cl tys cc own Ts) {a b : Int} (hd : decode cc pc = .ok (.iand, 1)) (kk : wpw p l e R s m args below meth c A H0 nL Q D cl ws cells slots (pc + 1) lv (.int (zI (iand a b)) :: st)) : wpw p l e R s m args below meth c A H0 nL Q D cl ws cells slots pc lv (.int (zI b) :: .int (zI a) :: st) := fun H locs ls hP hD hS hl => by
  refine lv_iand hC.1 hC.2.1 hd ?_
  have h := kk H locs ls hP hD hS hl
  unfold iand at h
  rw [zI_of] at h
  exact h
theorem wpw_ior (hC : Cw p s m args meth c A H0 nL D cl tys cc own Ts) {a b : Int} (hd : decode cc pc = .ok (.ior, 1)) (kk : wpw p l e R s m args below meth c A H0 nL Q D cl ws cells slots (pc + 1) lv (.int (zI (ior a b)) :: st)) : wpw p l e R s m args below meth c A H0 nL Q D cl ws cells slots pc lv (.int (zI b) :: .int (zI a) :: st) := fun H locs ls hP hD hS hl => by
  refine lv_ior hC.1 hC.2.1 hd ?_
  have h := kk H locs ls hP hD hS hl
  unfold ior at h
  rw [zI_of] at h
  exact h
theorem wpw_ixor (hC : Cw p s m args meth c A H0 nL D cl tys cc own Ts) {a b : Int} (hd : decode cc pc = .ok (.ixor, 1)) (kk : wpw p l e R s m args below meth c A H0 nL Q D cl ws cells slots (pc + 1) lv (.int (zI (ixor a b)) :: st)) : wpw p l e R s m args below meth c A H0 nL Q D cl ws cells slots pc lv (.int (zI b) :: .int (zI a) :: st) := fun H locs ls hP hD hS hl => by
  refine lv_ixor hC.1 hC.2.1 hd ?_
  have h := kk H locs ls hP hD hS hl
  unfold ixor at h
  rw [zI_of] at h
  exact h
theorem wpw_ishl (hC : Cw p s m args meth c A H0 nL D cl tys cc own Ts) {a b : Int} (hd : decode cc pc = .ok (.ishl, 1)) (kk : wpw p l e R s m args below meth c A H0 nL Q D cl ws cells slots (pc + 1) lv (.int (zI (ishl a b)) :: st)) : wpw p l e R s m args below meth c A H0 nL Q D cl ws cells slots pc lv (.int (zI b) :: .int (zI a) :: st) := fun H locs ls hP hD hS hl => by
  refine lv_ishl hC.1 hC.2.1 hd ?_
  have h := kk H locs ls hP hD hS hl
  unfold ishl at h
  rw [zI_of] at h
  exact h
theorem wpw_ishr (hC : Cw p s m args meth c A H0 nL D cl tys cc own Ts) {a b : Int} (hd : decode cc pc = .ok (.ishr, 1)) (kk : wpw p l e R s m args below meth c A H0 nL Q D cl ws cells slots (pc + 1) lv (.int (zI (ishr a b)) :: st)) : wpw p l e R s m args below meth c A H0 nL Q D cl ws cells slots pc lv (.int (zI b) :: .int (zI a) :: st) := fun H locs ls hP hD hS hl => by
  refine lv_ishr hC.1 hC.2.1 hd ?_
  have h := kk H locs ls hP hD hS hl
  unfold ishr at h
  rw [zI_of] at h
  exact h
theorem wpw_ineg (hC : Cw p s m args meth c A H0 nL D cl tys cc own Ts) {a : Int} (hd : decode cc pc = .ok (.ineg, 1)) (kk : wpw p l e R s m args below meth c A H0 nL Q D cl ws cells slots (pc + 1) lv (.int (zI (-a)) :: st)) : wpw p l e R s m args below meth c A H0 nL Q D cl ws cells slots pc lv (.int (zI a) :: st) := fun H locs ls hP hD hS hl => by
  refine lv_ineg hC.1 hC.2.1 hd ?_
  rw [zI_neg]
  exact kk H locs ls hP hD hS hl
theorem wpw_idiv (hC : Cw p s m args meth c A H0 nL D cl tys cc own Ts) {a b : Int} (hd : decode cc pc = .ok (.idiv, 1)) (ra : iR a) (rb : 0 < b ∧ b ≤ 2147483647) (kk : wpw p l e R s m args below meth c A H0 nL Q D cl ws cells slots (pc + 1) lv (.int (zI (a.tdiv b)) :: st)) : wpw p l e R s m args below meth c A H0 nL Q D cl ws cells slots pc lv (.int (zI b) :: .int (zI a) :: st) := fun H locs ls hP hD hS hl => by
  have hb : iR b := ⟨by have := rb.1; omega, rb.2⟩
  refine lv_idiv hC.1 hC.2.1 hd (fun h => ?_) ?_
  · have h2 : zI b = zI 0 := h
    have := zI_inj hb ⟨by decide, by decide⟩ h2
    have := rb.1
    omega
  · rw [zI_div ra hb (fun q => by have := rb.1; have := q.2; omega)]
    exact kk H locs ls hP hD hS hl
theorem wpw_irem (hC : Cw p s m args meth c A H0 nL D cl tys cc own Ts) {a b : Int} (hd : decode cc pc = .ok (.irem, 1)) (ra : iR a) (rb : 0 < b ∧ b ≤ 2147483647) (kk : wpw p l e R s m args below meth c A H0 nL Q D cl ws cells slots (pc + 1) lv (.int (zI (a.tmod b)) :: st)) : wpw p l e R s m args below meth c A H0 nL Q D cl ws cells slots pc lv (.int (zI b) :: .int (zI a) :: st) := fun H locs ls hP hD hS hl => by
  have hb : iR b := ⟨by have := rb.1; omega, rb.2⟩
  refine lv_irem hC.1 hC.2.1 hd (fun h => ?_) ?_
  · have h2 : zI b = zI 0 := h
    have := zI_inj hb ⟨by decide, by decide⟩ h2
    have := rb.1
    omega
  · rw [zI_div ra hb (fun q => by have := rb.1; have := q.2; omega), zI_mul, zI_sub]
    have h := kk H locs ls hP hD hS hl
    rw [Int.tmod_def, Int.mul_comm b] at h
    exact h
theorem wpw_dup (hC : Cw p s m args meth c A H0 nL D cl tys cc own Ts) {v : Value} (hd : decode cc pc = .ok (.dup, 1)) (hv : v.category = 1) (kk : wpw p l e R s m args below meth c A H0 nL Q D cl ws cells slots (pc + 1) lv (v :: v :: st)) : wpw p l e R s m args below meth c A H0 nL Q D cl ws cells slots pc lv (v :: st) := fun H locs ls hP hD hS hl => by
  exact lv_dup hC.1 hC.2.1 hd hv (kk H locs ls hP hD hS hl)
theorem wpw_dup2 (hC : Cw p s m args meth c A H0 nL D cl tys cc own Ts) {v u : Value} (hd : decode cc pc = .ok (.dup2, 1)) (hv : v.category = 1) (hu : u.category = 1) (kk : wpw p l e R s m args below meth c A H0 nL Q D cl ws cells slots (pc + 1) lv (v :: u :: v :: u :: st)) : wpw p l e R s m args below meth c A H0 nL Q D cl ws cells slots pc lv (v :: u :: st) := fun H locs ls hP hD hS hl => by
  exact lv_dup2_11 hC.1 hC.2.1 hd hv hu (kk H locs ls hP hD hS hl)
theorem wpw_pop (hC : Cw p s m args meth c A H0 nL D cl tys cc own Ts) {v : Value} (hd : decode cc pc = .ok (.pop, 1)) (hv : v.category = 1) (kk : wpw p l e R s m args below meth c A H0 nL Q D cl ws cells slots (pc + 1) lv st) : wpw p l e R s m args below meth c A H0 nL Q D cl ws cells slots pc lv (v :: st) := fun H locs ls hP hD hS hl => by
  exact lv_pop hC.1 hC.2.1 hd hv (kk H locs ls hP hD hS hl)
theorem wpw_goto (hC : Cw p s m args meth c A H0 nL D cl tys cc own Ts) {off : Int} {tgt : Nat} (hd : decode cc pc = .ok (.goto off, 3)) (ht : (pc : Int) + off = (tgt : Int)) (kk : wpw p l e R s m args below meth c A H0 nL Q D cl ws cells slots tgt lv st) : wpw p l e R s m args below meth c A H0 nL Q D cl ws cells slots pc lv st := fun H locs ls hP hD hS hl => by
  exact lv_goto hC.1 hC.2.1 hd ht (kk H locs ls hP hD hS hl)
theorem wpw_icmp_lt (hC : Cw p s m args meth c A H0 nL D cl tys cc own Ts) {a b : Int} {off : Int} {tgt : Nat} (hd : decode cc pc = .ok (.if_icmp .lt off, 3)) (ht : (pc : Int) + off = (tgt : Int)) (ra : iR a) (rb : iR b) (k1 : a < b → wpw p l e R s m args below meth c A H0 nL Q D cl ws cells slots tgt lv st) (k2 : b ≤ a → wpw p l e R s m args below meth c A H0 nL Q D cl ws cells slots (pc + 3) lv st) : wpw p l e R s m args below meth c A H0 nL Q D cl ws cells slots pc lv (.int (zI b) :: .int (zI a) :: st) := fun H locs ls hP hD hS hl => by
  exact lv_icmp_lt hC.1 hC.2.1 hd ht (fun h => k1 ((zI_lt ra rb).mp h) H locs ls hP hD hS hl) (fun h => k2 (Int.not_lt.mp (fun q => h ((zI_lt ra rb).mpr q))) H locs ls hP hD hS hl)
theorem wpw_icmp_ge (hC : Cw p s m args meth c A H0 nL D cl tys cc own Ts) {a b : Int} {off : Int} {tgt : Nat} (hd : decode cc pc = .ok (.if_icmp .ge off, 3)) (ht : (pc : Int) + off = (tgt : Int)) (ra : iR a) (rb : iR b) (k1 : b ≤ a → wpw p l e R s m args below meth c A H0 nL Q D cl ws cells slots tgt lv st) (k2 : a < b → wpw p l e R s m args below meth c A H0 nL Q D cl ws cells slots (pc + 3) lv st) : wpw p l e R s m args below meth c A H0 nL Q D cl ws cells slots pc lv (.int (zI b) :: .int (zI a) :: st) := fun H locs ls hP hD hS hl => by
  exact lv_icmp_ge hC.1 hC.2.1 hd ht (fun h => k1 ((zI_le rb ra).mp h) H locs ls hP hD hS hl) (fun h => k2 (Int.not_le.mp (fun q => h ((zI_le rb ra).mpr q))) H locs ls hP hD hS hl)
theorem wpw_icmp_gt (hC : Cw p s m args meth c A H0 nL D cl tys cc own Ts) {a b : Int} {off : Int} {tgt : Nat} (hd : decode cc pc = .ok (.if_icmp .gt off, 3)) (ht : (pc : Int) + off = (tgt : Int)) (ra : iR a) (rb : iR b) (k1 : b < a → wpw p l e R s m args below meth c A H0 nL Q D cl ws cells slots tgt lv st) (k2 : a ≤ b → wpw p l e R s m args below meth c A H0 nL Q D cl ws cells slots (pc + 3) lv st) : wpw p l e R s m args below meth c A H0 nL Q D cl ws cells slots pc lv (.int (zI b) :: .int (zI a) :: st) := fun H locs ls hP hD hS hl => by
  exact lv_icmp_gt hC.1 hC.2.1 hd ht (fun h => k1 ((zI_lt rb ra).mp h) H locs ls hP hD hS hl) (fun h => k2 (Int.not_lt.mp (fun q => h ((zI_lt rb ra).mpr q))) H locs ls hP hD hS hl)
theorem wpw_icmp_le (hC : Cw p s m args meth c A H0 nL D cl tys cc own Ts) {a b : Int} {off : Int} {tgt : Nat} (hd : decode cc pc = .ok (.if_icmp .le off, 3)) (ht : (pc : Int) + off = (tgt : Int)) (ra : iR a) (rb : iR b) (k1 : a ≤ b → wpw p l e R s m args below meth c A H0 nL Q D cl ws cells slots tgt lv st) (k2 : b < a → wpw p l e R s m args below meth c A H0 nL Q D cl ws cells slots (pc + 3) lv st) : wpw p l e R s m args below meth c A H0 nL Q D cl ws cells slots pc lv (.int (zI b) :: .int (zI a) :: st) := fun H locs ls hP hD hS hl => by
  exact lv_icmp_le hC.1 hC.2.1 hd ht (fun h => k1 ((zI_le ra rb).mp h) H locs ls hP hD hS hl) (fun h => k2 (Int.not_le.mp (fun q => h ((zI_le ra rb).mpr q))) H locs ls hP hD hS hl)
theorem wpw_icmp_eq (hC : Cw p s m args meth c A H0 nL D cl tys cc own Ts) {a b : Int} {off : Int} {tgt : Nat} (hd : decode cc pc = .ok (.if_icmp .eq off, 3)) (ht : (pc : Int) + off = (tgt : Int)) (ra : iR a) (rb : iR b) (k1 : a = b → wpw p l e R s m args below meth c A H0 nL Q D cl ws cells slots tgt lv st) (k2 : a ≠ b → wpw p l e R s m args below meth c A H0 nL Q D cl ws cells slots (pc + 3) lv st) : wpw p l e R s m args below meth c A H0 nL Q D cl ws cells slots pc lv (.int (zI b) :: .int (zI a) :: st) := fun H locs ls hP hD hS hl => by
  exact lv_icmp_eq hC.1 hC.2.1 hd ht (fun h => k1 ((zI_eq ra rb).mp h) H locs ls hP hD hS hl) (fun h => k2 (fun q => h ((zI_eq ra rb).mpr q)) H locs ls hP hD hS hl)
theorem wpw_icmp_ne (hC : Cw p s m args meth c A H0 nL D cl tys cc own Ts) {a b : Int} {off : Int} {tgt : Nat} (hd : decode cc pc = .ok (.if_icmp .ne off, 3)) (ht : (pc : Int) + off = (tgt : Int)) (ra : iR a) (rb : iR b) (k1 : a ≠ b → wpw p l e R s m args below meth c A H0 nL Q D cl ws cells slots tgt lv st) (k2 : a = b → wpw p l e R s m args below meth c A H0 nL Q D cl ws cells slots (pc + 3) lv st) : wpw p l e R s m args below meth c A H0 nL Q D cl ws cells slots pc lv (.int (zI b) :: .int (zI a) :: st) := fun H locs ls hP hD hS hl => by
  exact lv_icmp_ne hC.1 hC.2.1 hd ht (fun h => k1 (fun q => h ((zI_eq ra rb).mpr q)) H locs ls hP hD hS hl) (fun h => k2 ((zI_eq ra rb).mp h) H locs ls hP hD hS hl)
theorem wpw_if_lt (hC : Cw p s m args meth c A H0 nL D cl tys cc own Ts) {a : Int} {off : Int} {tgt : Nat} (hd : decode cc pc = .ok (.ifCond .lt off, 3)) (ht : (pc : Int) + off = (tgt : Int)) (ra : iR a) (k1 : a < 0 → wpw p l e R s m args below meth c A H0 nL Q D cl ws cells slots tgt lv st) (k2 : 0 ≤ a → wpw p l e R s m args below meth c A H0 nL Q D cl ws cells slots (pc + 3) lv st) : wpw p l e R s m args below meth c A H0 nL Q D cl ws cells slots pc lv (.int (zI a) :: st) := fun H locs ls hP hD hS hl => by
  exact lv_if_lt hC.1 hC.2.1 hd ht (fun h => k1 ((zI_lt ra iR_0).mp h) H locs ls hP hD hS hl) (fun h => k2 (Int.not_lt.mp (fun q => h ((zI_lt ra iR_0).mpr q))) H locs ls hP hD hS hl)
theorem wpw_if_ge (hC : Cw p s m args meth c A H0 nL D cl tys cc own Ts) {a : Int} {off : Int} {tgt : Nat} (hd : decode cc pc = .ok (.ifCond .ge off, 3)) (ht : (pc : Int) + off = (tgt : Int)) (ra : iR a) (k1 : 0 ≤ a → wpw p l e R s m args below meth c A H0 nL Q D cl ws cells slots tgt lv st) (k2 : a < 0 → wpw p l e R s m args below meth c A H0 nL Q D cl ws cells slots (pc + 3) lv st) : wpw p l e R s m args below meth c A H0 nL Q D cl ws cells slots pc lv (.int (zI a) :: st) := fun H locs ls hP hD hS hl => by
  exact lv_if_ge hC.1 hC.2.1 hd ht (fun h => k1 ((zI_le iR_0 ra).mp h) H locs ls hP hD hS hl) (fun h => k2 (Int.not_le.mp (fun q => h ((zI_le iR_0 ra).mpr q))) H locs ls hP hD hS hl)
theorem wpw_if_gt (hC : Cw p s m args meth c A H0 nL D cl tys cc own Ts) {a : Int} {off : Int} {tgt : Nat} (hd : decode cc pc = .ok (.ifCond .gt off, 3)) (ht : (pc : Int) + off = (tgt : Int)) (ra : iR a) (k1 : 0 < a → wpw p l e R s m args below meth c A H0 nL Q D cl ws cells slots tgt lv st) (k2 : a ≤ 0 → wpw p l e R s m args below meth c A H0 nL Q D cl ws cells slots (pc + 3) lv st) : wpw p l e R s m args below meth c A H0 nL Q D cl ws cells slots pc lv (.int (zI a) :: st) := fun H locs ls hP hD hS hl => by
  exact lv_if_gt hC.1 hC.2.1 hd ht (fun h => k1 ((zI_lt iR_0 ra).mp h) H locs ls hP hD hS hl) (fun h => k2 (Int.not_lt.mp (fun q => h ((zI_lt iR_0 ra).mpr q))) H locs ls hP hD hS hl)
theorem wpw_if_le (hC : Cw p s m args meth c A H0 nL D cl tys cc own Ts) {a : Int} {off : Int} {tgt : Nat} (hd : decode cc pc = .ok (.ifCond .le off, 3)) (ht : (pc : Int) + off = (tgt : Int)) (ra : iR a) (k1 : a ≤ 0 → wpw p l e R s m args below meth c A H0 nL Q D cl ws cells slots tgt lv st) (k2 : 0 < a → wpw p l e R s m args below meth c A H0 nL Q D cl ws cells slots (pc + 3) lv st) : wpw p l e R s m args below meth c A H0 nL Q D cl ws cells slots pc lv (.int (zI a) :: st) := fun H locs ls hP hD hS hl => by
  exact lv_if_le hC.1 hC.2.1 hd ht (fun h => k1 ((zI_le ra iR_0).mp h) H locs ls hP hD hS hl) (fun h => k2 (Int.not_le.mp (fun q => h ((zI_le ra iR_0).mpr q))) H locs ls hP hD hS hl)
theorem wpw_if_eq (hC : Cw p s m args meth c A H0 nL D cl tys cc own Ts) {a : Int} {off : Int} {tgt : Nat} (hd : decode cc pc = .ok (.ifCond .eq off, 3)) (ht : (pc : Int) + off = (tgt : Int)) (ra : iR a) (k1 : a = 0 → wpw p l e R s m args below meth c A H0 nL Q D cl ws cells slots tgt lv st) (k2 : a ≠ 0 → wpw p l e R s m args below meth c A H0 nL Q D cl ws cells slots (pc + 3) lv st) : wpw p l e R s m args below meth c A H0 nL Q D cl ws cells slots pc lv (.int (zI a) :: st) := fun H locs ls hP hD hS hl => by
  exact lv_if_eq hC.1 hC.2.1 hd ht (fun h => k1 ((zI_eq ra iR_0).mp h) H locs ls hP hD hS hl) (fun h => k2 (fun q => h ((zI_eq ra iR_0).mpr q)) H locs ls hP hD hS hl)
theorem wpw_if_ne (hC : Cw p s m args meth c A H0 nL D cl tys cc own Ts) {a : Int} {off : Int} {tgt : Nat} (hd : decode cc pc = .ok (.ifCond .ne off, 3)) (ht : (pc : Int) + off = (tgt : Int)) (ra : iR a) (k1 : a ≠ 0 → wpw p l e R s m args below meth c A H0 nL Q D cl ws cells slots tgt lv st) (k2 : a = 0 → wpw p l e R s m args below meth c A H0 nL Q D cl ws cells slots (pc + 3) lv st) : wpw p l e R s m args below meth c A H0 nL Q D cl ws cells slots pc lv (.int (zI a) :: st) := fun H locs ls hP hD hS hl => by
  exact lv_if_ne hC.1 hC.2.1 hd ht (fun h => k1 (fun q => h ((zI_eq ra iR_0).mpr q)) H locs ls hP hD hS hl) (fun h => k2 ((zI_eq ra iR_0).mp h) H locs ls hP hD hS hl)
theorem wpw_top {a b : Int} (h : a = b) (kk : wpw p l e R s m args below meth c A H0 nL Q D cl ws cells slots pc lv (.int (zI b) :: st)) : wpw p l e R s m args below meth c A H0 nL Q D cl ws cells slots pc lv (.int (zI a) :: st) := h ▸ kk
theorem wpw_ws {ws2 : va_W} (h : ws = ws2) (kk : wpw p l e R s m args below meth c A H0 nL Q D cl ws2 cells slots pc lv st) : wpw p l e R s m args below meth c A H0 nL Q D cl ws cells slots pc lv st := h ▸ kk
/-- an object's field -/
theorem wpw_get (hC : Cw p s m args meth c A H0 nL D cl tys cc own Ts) {C : String} {T : u_T} {N ci index a i k : Nat} {fs : List Value} {v : Value} (he : ws[i]? = some (a, .inr (ci, fs))) (hcl : cl[ci]? = some (C, T, N)) (hk : k < N) (hu : ∀ w ∈ u_ws C T N, w ∈ Ts) (hw : Cond.fieldLink own index (T k).1 (T k).2.1 (T k).2.2.1 ∈ Ts) (hv : fs[k]? = some v) (hd : decode cc pc = .ok (.getfield index, 3)) (kk : wpw p l e R s m args below meth c A H0 nL Q D cl ws cells slots (pc + 3) lv (v :: st)) : wpw p l e R s m args below meth c A H0 nL Q D cl ws cells slots pc lv (.ref a :: st) := fun H locs ls hP hD hS hl => by
  exact va_get (D := D) (ci := ci) (own := own) (Ts := Ts) (v := v) hC.1 hC.2.1 hC.2.2.2.2.1 hu hC.2.2.2.1 hC.2.2.2.2.2.1 hP i he hcl k hk (hC.2.2.2.2.1 _ hw) (fun _ h9 => h9) hv hd (kk H locs ls hP hD hS hl)
theorem wpw_put (hC : Cw p s m args meth c A H0 nL D cl tys cc own Ts) {C : String} {T : u_T} {N ci index a i k : Nat} {fs fs2 : List Value} {v : Value} {ty : FieldType} {ws2 : va_W} (he : ws[i]? = some (a, .inr (ci, fs))) (hcl : cl[ci]? = some (C, T, N)) (hk : k < N) (hu : ∀ w ∈ u_ws C T N, w ∈ Ts) (hw : Cond.fieldLink own index (T k).1 (T k).2.1 (T k).2.2.1 ∈ Ts) (ty0 : Nat → FieldType) (hty : ∀ k, k < N → parseFieldDescriptor (T k).2.2.1 = some (ty0 k)) (hnm : ∀ a, a < N → ∀ b, b < N → a ≠ b → (T a).2.1 ≠ (T b).2.1) (hfin : (T k).2.2.2 = false) (ht : parseFieldDescriptor (T k).2.2.1 = some ty) (hn : narrow ty v = v) (hf : fits ty v = true) (hl0 : k < fs.length) (hs : ws.set i (a, .inr (ci, fs.set k v)) = ws2) (hd : decode cc pc = .ok (.putfield index, 3)) (kk : wpw p l e R s m args below meth c A H0 nL Q D cl ws2 cells slots (pc + 3) lv st) : wpw p l e R s m args below meth c A H0 nL Q D cl ws cells slots pc lv (v :: .ref a :: st) := fun H locs ls hP hD hS hl => by
  subst hs
  exact va_put (D := D) (ci := ci) (own := own) (Ts := Ts) (ty := ty) (v := v) hC.1 hC.2.1 hC.2.2.2.2.1 hu ty0 hty hnm hC.2.2.2.1 hC.2.2.2.2.2.1 hP hD hS i he hcl k hk (hC.2.2.2.2.1 _ hw) (fun _ h9 => h9) hfin ht hn hf hl0 hd (fun H1 locs1 hP1 hD1 hS1 => kk H1 locs1 ls hP1 hD1 hS1 hl)
/-- bytes -/
theorem wpw_bald (hC : Cw p s m args meth c A H0 nL D cl tys cc own Ts) {cA : ClassId} {a i t n : Nat} {f : Nat → Int32} {x v : Int} (he : ws[i]? = some (a, .inl (cA, n, .inl f))) (ht : tys[t]? = some (cA, .byte)) (hn : n ≤ 4000) (hx : 0 ≤ x ∧ x < n) (hv : f x.toNat = zI v) (hd : decode cc pc = .ok (.baload, 1)) (kk : wpw p l e R s m args below meth c A H0 nL Q D cl ws cells slots (pc + 1) lv (.int (zI v) :: st)) : wpw p l e R s m args below meth c A H0 nL Q D cl ws cells slots pc lv (.int (zI x) :: .ref a :: st) := fun H locs ls hP hD hS hl => by
  have hr : iR x := ⟨by omega, by omega⟩
  refine va_bald (D := D) (tys := tys) hC.1 hC.2.1 hC.2.2.2.2.2.1 hP i t he ht (zI_vp hr hx.1 hx.2) hd ?_
  rw [zI_clamp hr, hv]
  exact kk H locs ls hP hD hS hl
theorem wpw_alen (hC : Cw p s m args meth c A H0 nL D cl tys cc own Ts) {cA : ClassId} {a i t n : Nat} {f : Nat → Int32} {ty : FieldType} (he : ws[i]? = some (a, .inl (cA, n, .inl f))) (ht : tys[t]? = some (cA, ty)) (hd : decode cc pc = .ok (.arraylength, 1)) (kk : wpw p l e R s m args below meth c A H0 nL Q D cl ws cells slots (pc + 1) lv (.int (zI n) :: st)) : wpw p l e R s m args below meth c A H0 nL Q D cl ws cells slots pc lv (.ref a :: st) := fun H locs ls hP hD hS hl => by
  exact va_alen (D := D) (tys := tys) (x := (n, .inl f)) hC.1 hC.2.1 hC.2.2.2.2.2.1 hP i t he ht (v := zI n) rfl hd (kk H locs ls hP hD hS hl)
/-- new bytes -/
theorem wpw_newb (hC : Cw p s m args meth c A H0 nL D cl tys cc own Ts) {x : Int} (hx : 0 ≤ x ∧ x ≤ 4000) (harr : Cond.arrayClass .byte ∈ Ts) (hcells : cells + 1 ≤ R.cells) (hslots : slots + x.toNat ≤ R.slots) (hd : decode cc pc = .ok (.newarray .byte, 2))
    (kk : ∀ (q : Nat) (cA : ClassId), Cw p s m args meth c A H0 nL D cl (tys ++ [(cA, .byte)]) cc own Ts → wpw p l e R s m args below meth c A H0 nL Q D cl (ws ++ [(q, .inl (cA, x.toNat, .inl (fun _ => 0)))]) (cells + 1) (slots + x.toNat) (pc + 2) lv (.ref q :: st)) : wpw p l e R s m args below meth c A H0 nL Q D cl ws cells slots pc lv (.int (zI x) :: st) := fun H locs ls hP hD hS hl => by
  have hr : iR x := ⟨by omega, by omega⟩
  refine va_newa (D := D) (atype := .byte) (ty := .byte) (a0 := (x.toNat, .inl (fun _ => 0))) hC.1 hC.2.1 (hC.2.2.2.2.1 _ harr) rfl hC.2.2.2.2.2.1 hP hD hS hC.2.2.2.2.2.2.1 (N' := x.toNat) (fun _ => rfl) (fun h => ?_) (zI_clamp hr) ?_ hcells hslots hd (fun q cA H1 hK1 hP1 hD1 hS1 => kk q cA ⟨hC.1, hC.2.1, hC.2.2.1, hC.2.2.2.1, hC.2.2.2.2.1, hK1, hC.2.2.2.2.2.2⟩ H1 _ ls hP1 hD1 hS1 hl)
  · have := (zI_lt hr iR_0).mp h
    omega
  · show x.toNat * 1 ≤ 536870912
    omega
end WPW
