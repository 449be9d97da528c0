/-! the judgement with room, and more world behind the numbered cells -/
theorem wl_len {G : Gy} {σ : St} : (wl G σ).length = NID := by simp [wl]
theorem wlx_get {G : Gy} {σ : St} {X : va_W} {i : Nat} (h : i < NID) : (wl G σ ++ X)[i]? = some (G.2.2 i, ct G σ i) := by
  rw [List.getElem?_append_left (by rw [wl_len]; exact h)]
  exact wl_get h
theorem putx_fld {G : Gy} {σ : St} {i k : Nat} {v : Int} {X : va_W} (ho : kd i = 0) (hi : i < NID) (hf : fr i k = none) : (wl G σ ++ X).set i (G.2.2 i, .inr (kc i, ((List.range (kn i)).map (fv G σ i)).set k (.int (zI v)))) = wl G (put σ i k v) ++ X := by
  rw [List.set_append_left _ _ (by rw [wl_len]; exact hi), put_fld ho hi hf]
theorem putx_ar1 {G : Gy} {σ : St} {i : Nat} {x v : Int} {X : va_W} (ho : kd i = 1) (hi : i < NID) (hx : 0 ≤ x) : (wl G σ ++ X).set i (G.2.2 i, .inl (G.2.1 0, ln i, .inl (upd (fun j => zI (σ i j)) x.toNat (zI v)))) = wl G (put σ i x v) ++ X := by
  rw [List.set_append_left _ _ (by rw [wl_len]; exact hi), put_ar1 ho hi hx]
theorem putx_ar2 {G : Gy} {σ : St} {i : Nat} {x v : Int} {X : va_W} (ho : kd i = 2) (hi : i < NID) (hx : 0 ≤ x) : (wl G σ ++ X).set i (G.2.2 i, .inl (G.2.1 1, ln i, .inl (upd (fun j => zI (σ i j)) x.toNat (zI v)))) = wl G (put σ i x v) ++ X := by
  rw [List.set_append_left _ _ (by rw [wl_len]; exact hi), put_ar2 ho hi hx]
theorem putx_ar3 {G : Gy} {σ : St} {i : Nat} {x v : Int} {X : va_W} (ho : kd i = 3) (hi : i < NID) (hx : 0 ≤ x) : (wl G σ ++ X).set i (G.2.2 i, .inl (G.2.1 2, ln i, .inr (.inl (vp_updL (fun j => zL (σ i j)) x.toNat (zL v))))) = wl G (put σ i x v) ++ X := by
  rw [List.set_append_left _ _ (by rw [wl_len]; exact hi), put_ar3 ho hi hx]
theorem putx_ar5 {G : Gy} {σ : St} {i : Nat} {x : Int} {q : Nat} {X : va_W} (ho : kd i = 5) (hi : i < NID) (hx : 0 ≤ x) : (wl G σ ++ X).set i (G.2.2 i, .inl (G.2.1 4, ln i, .inr (.inr (.inr (.inr (va_up (fun j => some (G.2.2 (108 + 5 * (σ i j).toNat))) x.toNat (some (G.2.2 (108 + 5 * q)))))))) ) = wl G (put σ i x q) ++ X := by
  rw [List.set_append_left _ _ (by rw [wl_len]; exact hi), put_ar5 ho hi hx]
section WPX
variable {p : Program} {l : Launch} {e : Env} {R : Room} {s : State} {m : MethodId} {args : Array Value} {below : List Frame} {meth : Method} {c : Code} {A : Nat → Prop} {H0 : Heap} {nL : Nat} {Q : State → Prop} {G : Gy}
variable {σ : St} {pc : Nat} {lv : List (Nat × Value)} {st : List Value} {cc : ByteArray} {own : String} {Ts : List Cond}
variable {X : va_W} {cells slots : Nat}
def wpx (p : Program) (l : Launch) (e : Env) (R : Room) (s : State) (m : MethodId) (args : Array Value) (below : List Frame) (meth : Method) (c : Code) (A : Nat → Prop) (H0 : Heap) (nL : Nat) (Q : State → Prop) (G : Gy) (X : va_W) (cells slots : Nat) (σ : St) (pc : Nat) (lv : List (Nat × Value)) (st : List Value) : Prop :=
  ∀ (H : Heap) (locs : List Loc) (ls : Array Slot), va_P G.1 vwCl (wl G σ ++ X) H → va_D A (wl G σ ++ X) → va_S A H0 H locs → lv_has ls nL lv → W p l e R s m args below meth c H locs cells slots Q (F0 m pc ls st)
theorem wpx_iconst (hC : Cx p s m args meth c A H0 nL G cc own Ts) {n : Int} (hd : decode cc pc = .ok (.iconst n, 1)) (kk : wpx p l e R s m args below meth c A H0 nL Q G X cells slots σ (pc + 1) lv (.int (zI n) :: st)) : wpx p l e R s m args below meth c A H0 nL Q G X cells slots σ pc lv st := fun H locs ls hP hD hS hl => by
  exact lv_iconst hC.1 hC.2.1 hd rfl (kk H locs ls hP hD hS hl)
theorem wpx_bipush (hC : Cx p s m args meth c A H0 nL G cc own Ts) {n : Int} (hd : decode cc pc = .ok (.bipush n, 2)) (hn : (Int8.ofInt n).toInt32 = zI n) (kk : wpx p l e R s m args below meth c A H0 nL Q G X cells slots σ (pc + 2) lv (.int (zI n) :: st)) : wpx p l e R s m args below meth c A H0 nL Q G X cells slots σ pc lv st := fun H locs ls hP hD hS hl => by
  exact lv_bipush hC.1 hC.2.1 hd hn (kk H locs ls hP hD hS hl)
theorem wpx_sipush (hC : Cx p s m args meth c A H0 nL G cc own Ts) {n : Int} (hd : decode cc pc = .ok (.sipush n, 3)) (hn : (Int16.ofInt n).toInt32 = zI n) (kk : wpx p l e R s m args below meth c A H0 nL Q G X cells slots σ (pc + 3) lv (.int (zI n) :: st)) : wpx p l e R s m args below meth c A H0 nL Q G X cells slots σ pc lv st := fun H locs ls hP hD hS hl => by
  exact lv_sipush hC.1 hC.2.1 hd hn (kk H locs ls hP hD hS hl)
theorem wpx_ldc (hC : Cx p s m args meth c A H0 nL G cc own Ts) {index : Nat} {n : Int} (hd : decode cc pc = .ok (.ldc index, 2)) (hw : Jvm.Cond.constant own index (zI n) ∈ Ts) (kk : wpx p l e R s m args below meth c A H0 nL Q G X cells slots σ (pc + 2) lv (.int (zI n) :: st)) : wpx p l e R s m args below meth c A H0 nL Q G X cells slots σ pc lv st := fun H locs ls hP hD hS hl => by
  exact lv_ldc hC.1 hC.2.1 hC.2.2.2.1 (hC.2.2.2.2.1 _ hw) hd (kk H locs ls hP hD hS hl)
theorem wpx_ldc2 (hC : Cx p s m args meth c A H0 nL G cc own Ts) {index : Nat} {n : Int} (hd : decode cc pc = .ok (.ldc2_w index, 3)) (hw : Jvm.Cond.constantLong own index (zL n) ∈ Ts) (kk : wpx p l e R s m args below meth c A H0 nL Q G X cells slots σ (pc + 3) lv (.long (zL n) :: st)) : wpx p l e R s m args below meth c A H0 nL Q G X cells slots σ pc lv st := fun H locs ls hP hD hS hl => by
  exact lv_ldc2 hC.1 hC.2.1 hC.2.2.2.1 (hC.2.2.2.2.1 _ hw) hd (kk H locs ls hP hD hS hl)
theorem wpx_lconst (hC : Cx p s m args meth c A H0 nL G cc own Ts) {n : Fin 2} (hd : decode cc pc = .ok (.lconst n, 1)) (kk : wpx p l e R s m args below meth c A H0 nL Q G X cells slots σ (pc + 1) lv (.long (zL (n : Nat)) :: st)) : wpx p l e R s m args below meth c A H0 nL Q G X cells slots σ pc lv st := fun H locs ls hP hD hS hl => by
  exact lv_lconst hC.1 hC.2.1 hd rfl (kk H locs ls hP hD hS hl)
theorem wpx_iload_n (hC : Cx p s m args meth c A H0 nL G cc own Ts) {k : Fin 4} {x : Int} (hd : decode cc pc = .ok (.iload_n k, 1)) (hg : lg lv k = some (.int (zI x))) (kk : wpx p l e R s m args below meth c A H0 nL Q G X cells slots σ (pc + 1) lv (.int (zI x) :: st)) : wpx p l e R s m args below meth c A H0 nL Q G X cells slots σ pc lv st := fun H locs ls hP hD hS hl => by
  exact lv_iload_n hC.1 hC.2.1 hd rfl (lg_at hl hg) (kk H locs ls hP hD hS hl)
theorem wpx_iload (hC : Cx p s m args meth c A H0 nL G cc own Ts) {i : Nat} {x : Int} (hd : decode cc pc = .ok (.iload i, 2)) (hg : lg lv i = some (.int (zI x))) (kk : wpx p l e R s m args below meth c A H0 nL Q G X cells slots σ (pc + 2) lv (.int (zI x) :: st)) : wpx p l e R s m args below meth c A H0 nL Q G X cells slots σ pc lv st := fun H locs ls hP hD hS hl => by
  exact lv_iload hC.1 hC.2.1 hd (lg_at hl hg) (kk H locs ls hP hD hS hl)
theorem wpx_lload_n (hC : Cx p s m args meth c A H0 nL G cc own Ts) {k : Fin 4} {x : Int} (hd : decode cc pc = .ok (.lload_n k, 1)) (hg : lg lv k = some (.long (zL x))) (kk : wpx p l e R s m args below meth c A H0 nL Q G X cells slots σ (pc + 1) lv (.long (zL x) :: st)) : wpx p l e R s m args below meth c A H0 nL Q G X cells slots σ pc lv st := fun H locs ls hP hD hS hl => by
  exact lv_lload_n hC.1 hC.2.1 hd rfl (lg_at hl hg) (kk H locs ls hP hD hS hl)
theorem wpx_lload (hC : Cx p s m args meth c A H0 nL G cc own Ts) {i : Nat} {x : Int} (hd : decode cc pc = .ok (.lload i, 2)) (hg : lg lv i = some (.long (zL x))) (kk : wpx p l e R s m args below meth c A H0 nL Q G X cells slots σ (pc + 2) lv (.long (zL x) :: st)) : wpx p l e R s m args below meth c A H0 nL Q G X cells slots σ pc lv st := fun H locs ls hP hD hS hl => by
  exact lv_lload hC.1 hC.2.1 hd (lg_at hl hg) (kk H locs ls hP hD hS hl)
theorem wpx_aload_n (hC : Cx p s m args meth c A H0 nL G cc own Ts) {k : Fin 4} {x : Nat} (hd : decode cc pc = .ok (.aload_n k, 1)) (hg : lg lv k = some (.ref x)) (kk : wpx p l e R s m args below meth c A H0 nL Q G X cells slots σ (pc + 1) lv (.ref x :: st)) : wpx p l e R s m args below meth c A H0 nL Q G X cells slots σ pc lv st := fun H locs ls hP hD hS hl => by
  exact lv_aload_n hC.1 hC.2.1 hd rfl (lg_at hl hg) (kk H locs ls hP hD hS hl)
theorem wpx_aload (hC : Cx p s m args meth c A H0 nL G cc own Ts) {i : Nat} {x : Nat} (hd : decode cc pc = .ok (.aload i, 2)) (hg : lg lv i = some (.ref x)) (kk : wpx p l e R s m args below meth c A H0 nL Q G X cells slots σ (pc + 2) lv (.ref x :: st)) : wpx p l e R s m args below meth c A H0 nL Q G X cells slots σ pc lv st := fun H locs ls hP hD hS hl => by
  exact lv_aload hC.1 hC.2.1 hd (lg_at hl hg) (kk H locs ls hP hD hS hl)
theorem wpx_istore_n (hC : Cx p s m args meth c A H0 nL G cc own Ts) {k : Fin 4} {x : Int} {lv2 : List (Nat × Value)} (hd : decode cc pc = .ok (.istore_n k, 1)) (hv : lput lv k (.int (zI x)) = lv2) (hn : (k : Nat) < nL) (kk : wpx p l e R s m args below meth c A H0 nL Q G X cells slots σ (pc + 1) lv2 st) : wpx p l e R s m args below meth c A H0 nL Q G X cells slots σ pc lv ((.int (zI x)) :: st) := fun H locs ls hP hD hS hl => by
  subst hv
  exact lv_istore_n hC.1 hC.2.1 hd rfl hl hn rfl (fun ls2 h2 => kk H locs ls2 hP hD hS (lput_has h2))
theorem wpx_istore (hC : Cx p s m args meth c A H0 nL G cc own Ts) {i : Nat} {x : Int} {lv2 : List (Nat × Value)} (hd : decode cc pc = .ok (.istore i, 2)) (hv : lput lv i (.int (zI x)) = lv2) (hn : i < nL) (kk : wpx p l e R s m args below meth c A H0 nL Q G X cells slots σ (pc + 2) lv2 st) : wpx p l e R s m args below meth c A H0 nL Q G X cells slots σ pc lv ((.int (zI x)) :: st) := fun H locs ls hP hD hS hl => by
  subst hv
  exact lv_istore hC.1 hC.2.1 hd hl hn rfl (fun ls2 h2 => kk H locs ls2 hP hD hS (lput_has h2))
theorem wpx_astore_n (hC : Cx p s m args meth c A H0 nL G cc own Ts) {k : Fin 4} {x : Nat} {lv2 : List (Nat × Value)} (hd : decode cc pc = .ok (.astore_n k, 1)) (hv : lput lv k (.ref x) = lv2) (hn : (k : Nat) < nL) (kk : wpx p l e R s m args below meth c A H0 nL Q G X cells slots σ (pc + 1) lv2 st) : wpx p l e R s m args below meth c A H0 nL Q G X cells slots σ pc lv ((.ref x) :: st) := fun H locs ls hP hD hS hl => by
  subst hv
  exact lv_astore_n hC.1 hC.2.1 hd rfl hl hn rfl (fun ls2 h2 => kk H locs ls2 hP hD hS (lput_has h2))
theorem wpx_astore (hC : Cx p s m args meth c A H0 nL G cc own Ts) {i : Nat} {x : Nat} {lv2 : List (Nat × Value)} (hd : decode cc pc = .ok (.astore i, 2)) (hv : lput lv i (.ref x) = lv2) (hn : i < nL) (kk : wpx p l e R s m args below meth c A H0 nL Q G X cells slots σ (pc + 2) lv2 st) : wpx p l e R s m args below meth c A H0 nL Q G X cells slots σ pc lv ((.ref x) :: st) := fun H locs ls hP hD hS hl => by
  subst hv
  exact lv_astore hC.1 hC.2.1 hd hl hn rfl (fun ls2 h2 => kk H locs ls2 hP hD hS (lput_has h2))
theorem wpx_lstore (hC : Cx p s m args meth c A H0 nL G cc own Ts) {i : Nat} {x : Int} {lv2 : List (Nat × Value)} (hd : decode cc pc = .ok (.lstore i, 2)) (hv : (i, Value.long (zL x)) :: lv.filter (fun q => !(q.1 == i) && (!(q.1 == i + 1) && !(q.1 + 1 == i && q.2.category == 2))) = lv2) (hn : i + 1 < nL) (kk : wpx p l e R s m args below meth c A H0 nL Q G X cells slots σ (pc + 2) lv2 st) : wpx p l e R s m args below meth c A H0 nL Q G X cells slots σ pc lv (.long (zL x) :: st) := fun H locs ls hP hD hS hl => by
  exact lv_lstore hC.1 hC.2.1 hd hl hn hv (fun ls2 h2 => kk H locs ls2 hP hD hS h2)
theorem wpx_iinc (hC : Cx p s m args meth c A H0 nL G cc own Ts) {i : Nat} {n x : Int} {lv2 : List (Nat × Value)} (hd : decode cc pc = .ok (.iinc i n, 3)) (hg : lg lv i = some (.int (zI x))) (hv : lput lv i (.int (zI (x + n))) = lv2) (hn : i < nL) (kk : wpx p l e R s m args below meth c A H0 nL Q G X cells slots σ (pc + 3) lv2 st) : wpx p l e R s m args below meth c A H0 nL Q G X cells slots σ pc lv st := fun H locs ls hP hD hS hl => by
  subst hv
  obtain ⟨k, hk⟩ := lg_pl hg
  exact lv_iinc hC.1 hC.2.1 hd hl hk (zI_add x n) hn rfl (fun ls2 h2 => kk H locs ls2 hP hD hS (lput_has h2))
theorem wpx_lv (hC : Cx p s m args meth c A H0 nL G cc own Ts) {lv2 : List (Nat × Value)} (ks : List Nat) (h : lv_pick lv ks = lv2) (kk : wpx p l e R s m args below meth c A H0 nL Q G X cells slots σ pc lv2 st) : wpx p l e R s m args below meth c A H0 nL Q G X cells slots σ pc lv st := fun H locs ls hP hD hS hl => by
  exact kk H locs ls hP hD hS (lv_sub hl ks h)
theorem wpx_iadd (hC : Cx p s m args meth c A H0 nL G cc own Ts) {a b : Int} (hd : decode cc pc = .ok (.iadd, 1)) (kk : wpx p l e R s m args below meth c A H0 nL Q G X cells slots σ (pc + 1) lv (.int (zI (a + b)) :: st)) : wpx p l e R s m args below meth c A H0 nL Q G X cells slots σ pc lv (.int (zI b) :: .int (zI a) :: st) := fun H locs ls hP hD hS hl => by
  refine lv_iadd hC.1 hC.2.1 hd ?_
  rw [zI_add]
  exact kk H locs ls hP hD hS hl
theorem wpx_isub (hC : Cx p s m args meth c A H0 nL G cc own Ts) {a b : Int} (hd : decode cc pc = .ok (.isub, 1)) (kk : wpx p l e R s m args below meth c A H0 nL Q G X cells slots σ (pc + 1) lv (.int (zI (a - b)) :: st)) : wpx p l e R s m args below meth c A H0 nL Q G X cells slots σ pc lv (.int (zI b) :: .int (zI a) :: st) := fun H locs ls hP hD hS hl => by
  refine lv_isub hC.1 hC.2.1 hd ?_
  rw [zI_sub]
  exact kk H locs ls hP hD hS hl
theorem wpx_imul (hC : Cx p s m args meth c A H0 nL G cc own Ts) {a b : Int} (hd : decode cc pc = .ok (.imul, 1)) (kk : wpx p l e R s m args below meth c A H0 nL Q G X cells slots σ (pc + 1) lv (.int (zI (a * b)) :: st)) : wpx p l e R s m args below meth c A H0 nL Q G X cells slots σ pc lv (.int (zI b) :: .int (zI a) :: st) := fun H locs ls hP hD hS hl => by
  refine lv_imul hC.1 hC.2.1 hd ?_
  rw [zI_mul]
  exact kk H locs ls hP hD hS hl
theorem wpx_iand (hC : Cx p s m args meth c A H0 nL G cc own Ts) {a b : Int} (hd : decode cc pc = .ok (.iand, 1)) (kk : wpx p l e R s m args below meth c A H0 nL Q G X cells slots σ (pc + 1) lv (.int (zI (iand a b)) :: st)) : wpx p l e R s m args below meth c A H0 nL Q G X cells slots σ pc lv (.int (zI b) :: .int (zI a) :: st) := fun H locs ls hP hD hS hl => by
  refine lv_iand hC.1 hC.2.1 hd ?_
  have h := kk H locs ls hP hD hS hl
  unfold iand at h
  rw [zI_of] at h
  exact h
theorem wpx_ior (hC : Cx p s m args meth c A H0 nL G cc own Ts) {a b : Int} (hd : decode cc pc = .ok (.ior, 1)) (kk : wpx p l e R s m args below meth c A H0 nL Q G X cells slots σ (pc + 1) lv (.int (zI (ior a b)) :: st)) : wpx p l e R s m args below meth c A H0 nL Q G X cells slots σ pc lv (.int (zI b) :: .int (zI a) :: st) := fun H locs ls hP hD hS hl => by
  refine lv_ior hC.1 hC.2.1 hd ?_
  have h := kk H locs ls hP hD hS hl
  unfold ior at h
  rw [zI_of] at h
  exact h
theorem wpx_ixor (hC : Cx p s m args meth c A H0 nL G cc own Ts) {a b : Int} (hd : decode cc pc = .ok (.ixor, 1)) (kk : wpx p l e R s m args below meth c A H0 nL Q G X cells slots σ (pc + 1) lv (.int (zI (ixor a b)) :: st)) : wpx p l e R s m args below meth c A H0 nL Q G X cells slots σ pc lv (.int (zI b) :: .int (zI a) :: st) := fun H locs ls hP hD hS hl => by
  refine lv_ixor hC.1 hC.2.1 hd ?_
  have h := kk H locs ls hP hD hS hl
  unfold ixor at h
  rw [zI_of] at h
  exact h
theorem wpx_ishl (hC : Cx p s m args meth c A H0 nL G cc own Ts) {a b : Int} (hd : decode cc pc = .ok (.ishl, 1)) (kk : wpx p l e R s m args below meth c A H0 nL Q G X cells slots σ (pc + 1) lv (.int (zI (ishl a b)) :: st)) : wpx p l e R s m args below meth c A H0 nL Q G X cells slots σ pc lv (.int (zI b) :: .int (zI a) :: st) := fun H locs ls hP hD hS hl => by
  refine lv_ishl hC.1 hC.2.1 hd ?_
  have h := kk H locs ls hP hD hS hl
  unfold ishl at h
  rw [zI_of] at h
  exact h
theorem wpx_ishr (hC : Cx p s m args meth c A H0 nL G cc own Ts) {a b : Int} (hd : decode cc pc = .ok (.ishr, 1)) (kk : wpx p l e R s m args below meth c A H0 nL Q G X cells slots σ (pc + 1) lv (.int (zI (ishr a b)) :: st)) : wpx p l e R s m args below meth c A H0 nL Q G X cells slots σ pc lv (.int (zI b) :: .int (zI a) :: st) := fun H locs ls hP hD hS hl => by
  refine lv_ishr hC.1 hC.2.1 hd ?_
  have h := kk H locs ls hP hD hS hl
  unfold ishr at h
  rw [zI_of] at h
  exact h
theorem wpx_ineg (hC : Cx p s m args meth c A H0 nL G cc own Ts) {a : Int} (hd : decode cc pc = .ok (.ineg, 1)) (kk : wpx p l e R s m args below meth c A H0 nL Q G X cells slots σ (pc + 1) lv (.int (zI (-a)) :: st)) : wpx p l e R s m args below meth c A H0 nL Q G X cells slots σ pc lv (.int (zI a) :: st) := fun H locs ls hP hD hS hl => by
  refine lv_ineg hC.1 hC.2.1 hd ?_
  rw [zI_neg]
  exact kk H locs ls hP hD hS hl
theorem wpx_idiv (hC : Cx p s m args meth c A H0 nL G cc own Ts) {a b : Int} (hd : decode cc pc = .ok (.idiv, 1)) (ra : iR a) (rb : 0 < b ∧ b ≤ 2147483647) (kk : wpx p l e R s m args below meth c A H0 nL Q G X cells slots σ (pc + 1) lv (.int (zI (a.tdiv b)) :: st)) : wpx p l e R s m args below meth c A H0 nL Q G X cells slots σ pc lv (.int (zI b) :: .int (zI a) :: st) := fun H locs ls hP hD hS hl => by
  have hb : iR b := ⟨by have := rb.1; omega, rb.2⟩
  refine lv_idiv hC.1 hC.2.1 hd (fun h => ?_) ?_
  · have h2 : zI b = zI 0 := h
    have := zI_inj hb ⟨by decide, by decide⟩ h2
    have := rb.1
    omega
  · rw [zI_div ra hb (fun q => by have := rb.1; have := q.2; omega)]
    exact kk H locs ls hP hD hS hl
theorem wpx_irem (hC : Cx p s m args meth c A H0 nL G cc own Ts) {a b : Int} (hd : decode cc pc = .ok (.irem, 1)) (ra : iR a) (rb : 0 < b ∧ b ≤ 2147483647) (kk : wpx p l e R s m args below meth c A H0 nL Q G X cells slots σ (pc + 1) lv (.int (zI (a.tmod b)) :: st)) : wpx p l e R s m args below meth c A H0 nL Q G X cells slots σ pc lv (.int (zI b) :: .int (zI a) :: st) := fun H locs ls hP hD hS hl => by
  have hb : iR b := ⟨by have := rb.1; omega, rb.2⟩
  refine lv_irem hC.1 hC.2.1 hd (fun h => ?_) ?_
  · have h2 : zI b = zI 0 := h
    have := zI_inj hb ⟨by decide, by decide⟩ h2
    have := rb.1
    omega
  · rw [zI_div ra hb (fun q => by have := rb.1; have := q.2; omega), zI_mul, zI_sub]
    have h := kk H locs ls hP hD hS hl
    rw [Int.tmod_def, Int.mul_comm b] at h
    exact h
theorem wpx_dup (hC : Cx p s m args meth c A H0 nL G cc own Ts) {v : Value} (hd : decode cc pc = .ok (.dup, 1)) (hv : v.category = 1) (kk : wpx p l e R s m args below meth c A H0 nL Q G X cells slots σ (pc + 1) lv (v :: v :: st)) : wpx p l e R s m args below meth c A H0 nL Q G X cells slots σ pc lv (v :: st) := fun H locs ls hP hD hS hl => by
  exact lv_dup hC.1 hC.2.1 hd hv (kk H locs ls hP hD hS hl)
theorem wpx_dup2 (hC : Cx p s m args meth c A H0 nL G cc own Ts) {v u : Value} (hd : decode cc pc = .ok (.dup2, 1)) (hv : v.category = 1) (hu : u.category = 1) (kk : wpx p l e R s m args below meth c A H0 nL Q G X cells slots σ (pc + 1) lv (v :: u :: v :: u :: st)) : wpx p l e R s m args below meth c A H0 nL Q G X cells slots σ pc lv (v :: u :: st) := fun H locs ls hP hD hS hl => by
  exact lv_dup2_11 hC.1 hC.2.1 hd hv hu (kk H locs ls hP hD hS hl)
theorem wpx_pop (hC : Cx p s m args meth c A H0 nL G cc own Ts) {v : Value} (hd : decode cc pc = .ok (.pop, 1)) (hv : v.category = 1) (kk : wpx p l e R s m args below meth c A H0 nL Q G X cells slots σ (pc + 1) lv st) : wpx p l e R s m args below meth c A H0 nL Q G X cells slots σ pc lv (v :: st) := fun H locs ls hP hD hS hl => by
  exact lv_pop hC.1 hC.2.1 hd hv (kk H locs ls hP hD hS hl)
theorem wpx_goto (hC : Cx p s m args meth c A H0 nL G cc own Ts) {off : Int} {tgt : Nat} (hd : decode cc pc = .ok (.goto off, 3)) (ht : (pc : Int) + off = (tgt : Int)) (kk : wpx p l e R s m args below meth c A H0 nL Q G X cells slots σ tgt lv st) : wpx p l e R s m args below meth c A H0 nL Q G X cells slots σ pc lv st := fun H locs ls hP hD hS hl => by
  exact lv_goto hC.1 hC.2.1 hd ht (kk H locs ls hP hD hS hl)
theorem wpx_icmp_lt (hC : Cx p s m args meth c A H0 nL G cc own Ts) {a b : Int} {off : Int} {tgt : Nat} (hd : decode cc pc = .ok (.if_icmp .lt off, 3)) (ht : (pc : Int) + off = (tgt : Int)) (ra : iR a) (rb : iR b) (k1 : a < b → wpx p l e R s m args below meth c A H0 nL Q G X cells slots σ tgt lv st) (k2 : b ≤ a → wpx p l e R s m args below meth c A H0 nL Q G X cells slots σ (pc + 3) lv st) : wpx p l e R s m args below meth c A H0 nL Q G X cells slots σ pc lv (.int (zI b) :: .int (zI a) :: st) := fun H locs ls hP hD hS hl => by
  exact lv_icmp_lt hC.1 hC.2.1 hd ht (fun h => k1 ((zI_lt ra rb).mp h) H locs ls hP hD hS hl) (fun h => k2 (Int.not_lt.mp (fun q => h ((zI_lt ra rb).mpr q))) H locs ls hP hD hS hl)
theorem wpx_icmp_ge (hC : Cx p s m args meth c A H0 nL G cc own Ts) {a b : Int} {off : Int} {tgt : Nat} (hd : decode cc pc = .ok (.if_icmp .ge off, 3)) (ht : (pc : Int) + off = (tgt : Int)) (ra : iR a) (rb : iR b) (k1 : b ≤ a → wpx p l e R s m args below meth c A H0 nL Q G X cells slots σ tgt lv st) (k2 : a < b → wpx p l e R s m args below meth c A H0 nL Q G X cells slots σ (pc + 3) lv st) : wpx p l e R s m args below meth c A H0 nL Q G X cells slots σ pc lv (.int (zI b) :: .int (zI a) :: st) := fun H locs ls hP hD hS hl => by
  exact lv_icmp_ge hC.1 hC.2.1 hd ht (fun h => k1 ((zI_le rb ra).mp h) H locs ls hP hD hS hl) (fun h => k2 (Int.not_le.mp (fun q => h ((zI_le rb ra).mpr q))) H locs ls hP hD hS hl)
theorem wpx_icmp_gt (hC : Cx p s m args meth c A H0 nL G cc own Ts) {a b : Int} {off : Int} {tgt : Nat} (hd : decode cc pc = .ok (.if_icmp .gt off, 3)) (ht : (pc : Int) + off = (tgt : Int)) (ra : iR a) (rb : iR b) (k1 : b < a → wpx p l e R s m args below meth c A H0 nL Q G X cells slots σ tgt lv st) (k2 : a ≤ b → wpx p l e R s m args below meth c A H0 nL Q G X cells slots σ (pc + 3) lv st) : wpx p l e R s m args below meth c A H0 nL Q G X cells slots σ pc lv (.int (zI b) :: .int (zI a) :: st) := fun H locs ls hP hD hS hl => by
  exact lv_icmp_gt hC.1 hC.2.1 hd ht (fun h => k1 ((zI_lt rb ra).mp h) H locs ls hP hD hS hl) (fun h => k2 (Int.not_lt.mp (fun q => h ((zI_lt rb ra).mpr q))) H locs ls hP hD hS hl)
theorem wpx_icmp_le (hC : Cx p s m args meth c A H0 nL G cc own Ts) {a b : Int} {off : Int} {tgt : Nat} (hd : decode cc pc = .ok (.if_icmp .le off, 3)) (ht : (pc : Int) + off = (tgt : Int)) (ra : iR a) (rb : iR b) (k1 : a ≤ b → wpx p l e R s m args below meth c A H0 nL Q G X cells slots σ tgt lv st) (k2 : b < a → wpx p l e R s m args below meth c A H0 nL Q G X cells slots σ (pc + 3) lv st) : wpx p l e R s m args below meth c A H0 nL Q G X cells slots σ pc lv (.int (zI b) :: .int (zI a) :: st) := fun H locs ls hP hD hS hl => by
  exact lv_icmp_le hC.1 hC.2.1 hd ht (fun h => k1 ((zI_le ra rb).mp h) H locs ls hP hD hS hl) (fun h => k2 (Int.not_le.mp (fun q => h ((zI_le ra rb).mpr q))) H locs ls hP hD hS hl)
theorem wpx_icmp_eq (hC : Cx p s m args meth c A H0 nL G cc own Ts) {a b : Int} {off : Int} {tgt : Nat} (hd : decode cc pc = .ok (.if_icmp .eq off, 3)) (ht : (pc : Int) + off = (tgt : Int)) (ra : iR a) (rb : iR b) (k1 : a = b → wpx p l e R s m args below meth c A H0 nL Q G X cells slots σ tgt lv st) (k2 : a ≠ b → wpx p l e R s m args below meth c A H0 nL Q G X cells slots σ (pc + 3) lv st) : wpx p l e R s m args below meth c A H0 nL Q G X cells slots σ pc lv (.int (zI b) :: .int (zI a) :: st) := fun H locs ls hP hD hS hl => by
  exact lv_icmp_eq hC.1 hC.2.1 hd ht (fun h => k1 ((zI_eq ra rb).mp h) H locs ls hP hD hS hl) (fun h => k2 (fun q => h ((zI_eq ra rb).mpr q)) H locs ls hP hD hS hl)
theorem wpx_icmp_ne (hC : Cx p s m args meth c A H0 nL G cc own Ts) {a b : Int} {off : Int} {tgt : Nat} (hd : decode cc pc = .ok (.if_icmp .ne off, 3)) (ht : (pc : Int) + off = (tgt : Int)) (ra : iR a) (rb : iR b) (k1 : a ≠ b → wpx p l e R s m args below meth c A H0 nL Q G X cells slots σ tgt lv st) (k2 : a = b → wpx p l e R s m args below meth c A H0 nL Q G X cells slots σ (pc + 3) lv st) : wpx p l e R s m args below meth c A H0 nL Q G X cells slots σ pc lv (.int (zI b) :: .int (zI a) :: st) := fun H locs ls hP hD hS hl => by
  exact lv_icmp_ne hC.1 hC.2.1 hd ht (fun h => k1 (fun q => h ((zI_eq ra rb).mpr q)) H locs ls hP hD hS hl) (fun h => k2 ((zI_eq ra rb).mp h) H locs ls hP hD hS hl)
theorem wpx_if_lt (hC : Cx p s m args meth c A H0 nL G cc own Ts) {a : Int} {off : Int} {tgt : Nat} (hd : decode cc pc = .ok (.ifCond .lt off, 3)) (ht : (pc : Int) + off = (tgt : Int)) (ra : iR a) (k1 : a < 0 → wpx p l e R s m args below meth c A H0 nL Q G X cells slots σ tgt lv st) (k2 : 0 ≤ a → wpx p l e R s m args below meth c A H0 nL Q G X cells slots σ (pc + 3) lv st) : wpx p l e R s m args below meth c A H0 nL Q G X cells slots σ pc lv (.int (zI a) :: st) := fun H locs ls hP hD hS hl => by
  exact lv_if_lt hC.1 hC.2.1 hd ht (fun h => k1 ((zI_lt ra iR_0).mp h) H locs ls hP hD hS hl) (fun h => k2 (Int.not_lt.mp (fun q => h ((zI_lt ra iR_0).mpr q))) H locs ls hP hD hS hl)
theorem wpx_if_ge (hC : Cx p s m args meth c A H0 nL G cc own Ts) {a : Int} {off : Int} {tgt : Nat} (hd : decode cc pc = .ok (.ifCond .ge off, 3)) (ht : (pc : Int) + off = (tgt : Int)) (ra : iR a) (k1 : 0 ≤ a → wpx p l e R s m args below meth c A H0 nL Q G X cells slots σ tgt lv st) (k2 : a < 0 → wpx p l e R s m args below meth c A H0 nL Q G X cells slots σ (pc + 3) lv st) : wpx p l e R s m args below meth c A H0 nL Q G X cells slots σ pc lv (.int (zI a) :: st) := fun H locs ls hP hD hS hl => by
  exact lv_if_ge hC.1 hC.2.1 hd ht (fun h => k1 ((zI_le iR_0 ra).mp h) H locs ls hP hD hS hl) (fun h => k2 (Int.not_le.mp (fun q => h ((zI_le iR_0 ra).mpr q))) H locs ls hP hD hS hl)
theorem wpx_if_gt (hC : Cx p s m args meth c A H0 nL G cc own Ts) {a : Int} {off : Int} {tgt : Nat} (hd : decode cc pc = .ok (.ifCond .gt off, 3)) (ht : (pc : Int) + off = (tgt : Int)) (ra : iR a) (k1 : 0 < a → wpx p l e R s m args below meth c A H0 nL Q G X cells slots σ tgt lv st) (k2 : a ≤ 0 → wpx p l e R s m args below meth c A H0 nL Q G X cells slots σ (pc + 3) lv st) : wpx p l e R s m args below meth c A H0 nL Q G X cells slots σ pc lv (.int (zI a) :: st) := fun H locs ls hP hD hS hl => by
  exact lv_if_gt hC.1 hC.2.1 hd ht (fun h => k1 ((zI_lt iR_0 ra).mp h) H locs ls hP hD hS hl) (fun h => k2 (Int.not_lt.mp (fun q => h ((zI_lt iR_0 ra).mpr q))) H locs ls hP hD hS hl)
theorem wpx_if_le (hC : Cx p s m args meth c A H0 nL G cc own Ts) {a : Int} {off : Int} {tgt : Nat} (hd : decode cc pc = .ok (.ifCond .le off, 3)) (ht : (pc : Int) + off = (tgt : Int)) (ra : iR a) (k1 : a ≤ 0 → wpx p l e R s m args below meth c A H0 nL Q G X cells slots σ tgt lv st) (k2 : 0 < a → wpx p l e R s m args below meth c A H0 nL Q G X cells slots σ (pc + 3) lv st) : wpx p l e R s m args below meth c A H0 nL Q G X cells slots σ pc lv (.int (zI a) :: st) := fun H locs ls hP hD hS hl => by
  exact lv_if_le hC.1 hC.2.1 hd ht (fun h => k1 ((zI_le ra iR_0).mp h) H locs ls hP hD hS hl) (fun h => k2 (Int.not_le.mp (fun q => h ((zI_le ra iR_0).mpr q))) H locs ls hP hD hS hl)
theorem wpx_if_eq (hC : Cx p s m args meth c A H0 nL G cc own Ts) {a : Int} {off : Int} {tgt : Nat} (hd : decode cc pc = .ok (.ifCond .eq off, 3)) (ht : (pc : Int) + off = (tgt : Int)) (ra : iR a) (k1 : a = 0 → wpx p l e R s m args below meth c A H0 nL Q G X cells slots σ tgt lv st) (k2 : a ≠ 0 → wpx p l e R s m args below meth c A H0 nL Q G X cells slots σ (pc + 3) lv st) : wpx p l e R s m args below meth c A H0 nL Q G X cells slots σ pc lv (.int (zI a) :: st) := fun H locs ls hP hD hS hl => by
  exact lv_if_eq hC.1 hC.2.1 hd ht (fun h => k1 ((zI_eq ra iR_0).mp h) H locs ls hP hD hS hl) (fun h => k2 (fun q => h ((zI_eq ra iR_0).mpr q)) H locs ls hP hD hS hl)
theorem wpx_if_ne (hC : Cx p s m args meth c A H0 nL G cc own Ts) {a : Int} {off : Int} {tgt : Nat} (hd : decode cc pc = .ok (.ifCond .ne off, 3)) (ht : (pc : Int) + off = (tgt : Int)) (ra : iR a) (k1 : a ≠ 0 → wpx p l e R s m args below meth c A H0 nL Q G X cells slots σ tgt lv st) (k2 : a = 0 → wpx p l e R s m args below meth c A H0 nL Q G X cells slots σ (pc + 3) lv st) : wpx p l e R s m args below meth c A H0 nL Q G X cells slots σ pc lv (.int (zI a) :: st) := fun H locs ls hP hD hS hl => by
  exact lv_if_ne hC.1 hC.2.1 hd ht (fun h => k1 (fun q => h ((zI_eq ra iR_0).mpr q)) H locs ls hP hD hS hl) (fun h => k2 ((zI_eq ra iR_0).mp h) H locs ls hP hD hS hl)
theorem wpx_geti (hC : Cx p s m args meth c A H0 nL G cc own Ts) {C : String} {T : u_T} {N index i k : Nat} {z : Int} (hz : (k : Int) = z) (ho : kd i = 0) (hi : i < NID) (hcl : vwCl[kc i]? = some (C, T, N)) (hkn : kn i = N) (hk : k < N) (hu : ∀ w ∈ u_ws C T N, w ∈ Ts) (hw : Cond.fieldLink own index (T k).1 (T k).2.1 (T k).2.2.1 ∈ Ts) (hf : fr i k = none) (hd : decode cc pc = .ok (.getfield index, 3)) (kk : wpx p l e R s m args below meth c A H0 nL Q G X cells slots σ (pc + 3) lv (.int (zI (σ i z)) :: st)) : wpx p l e R s m args below meth c A H0 nL Q G X cells slots σ pc lv (.ref (G.2.2 i) :: st) := fun H locs ls hP hD hS hl => by
  subst hz
  exact va_get (D := G.1) (ci := kc i) (own := own) (Ts := Ts) (v := .int (zI (σ i k))) hC.1 hC.2.1 hC.2.2.2.2.1 hu hC.2.2.2.1 hC.2.2.2.2.2.1 hP i (by rw [wlx_get hi, ct_0 ho]) hcl k hk (hC.2.2.2.2.1 _ hw) (fun _ h9 => h9) (by rw [List.getElem?_map, List.getElem?_range (by rw [hkn]; exact hk)]; simp only [Option.map_some, fv, hf]) hd (kk H locs ls hP hD hS hl)
theorem wpx_geta (hC : Cx p s m args meth c A H0 nL G cc own Ts) {j : Nat} {C : String} {T : u_T} {N index i k : Nat} (ho : kd i = 0) (hi : i < NID) (hcl : vwCl[kc i]? = some (C, T, N)) (hkn : kn i = N) (hk : k < N) (hu : ∀ w ∈ u_ws C T N, w ∈ Ts) (hw : Cond.fieldLink own index (T k).1 (T k).2.1 (T k).2.2.1 ∈ Ts) (hf : fr i k = some j) (hd : decode cc pc = .ok (.getfield index, 3)) (kk : wpx p l e R s m args below meth c A H0 nL Q G X cells slots σ (pc + 3) lv (.ref (G.2.2 j) :: st)) : wpx p l e R s m args below meth c A H0 nL Q G X cells slots σ pc lv (.ref (G.2.2 i) :: st) := fun H locs ls hP hD hS hl => by
  exact va_get (D := G.1) (ci := kc i) (own := own) (Ts := Ts) (v := .ref (G.2.2 j)) hC.1 hC.2.1 hC.2.2.2.2.1 hu hC.2.2.2.1 hC.2.2.2.2.2.1 hP i (by rw [wlx_get hi, ct_0 ho]) hcl k hk (hC.2.2.2.2.1 _ hw) (fun _ h9 => h9) (by rw [List.getElem?_map, List.getElem?_range (by rw [hkn]; exact hk)]; simp only [Option.map_some, fv, hf]) hd (kk H locs ls hP hD hS hl)
theorem wpx_puti (hC : Cx p s m args meth c A H0 nL G cc own Ts) {v : Int} {C : String} {T : u_T} {N index i k : Nat} {z : Int} (hz : (k : Int) = z) (ho : kd i = 0) (hi : i < NID) (hcl : vwCl[kc i]? = some (C, T, N)) (hkn : kn i = N) (hk : k < N) (hu : ∀ w ∈ u_ws C T N, w ∈ Ts) (hw : Cond.fieldLink own index (T k).1 (T k).2.1 (T k).2.2.1 ∈ Ts) (ty0 : Nat → FieldType) (hty : ∀ k, k < N → parseFieldDescriptor (T k).2.2.1 = some (ty0 k)) (hnm : ∀ a, a < N → ∀ b, b < N → a ≠ b → (T a).2.1 ≠ (T b).2.1) (hfin : (T k).2.2.2 = false) (ht0 : ty0 k = .int) (hf : fr i k = none) (hd : decode cc pc = .ok (.putfield index, 3)) (kk : wpx p l e R s m args below meth c A H0 nL Q G X cells slots (put σ i k v) (pc + 3) lv st) : wpx p l e R s m args below meth c A H0 nL Q G X cells slots σ pc lv (.int (zI v) :: .ref (G.2.2 i) :: st) := fun H locs ls hP hD hS hl => by
  subst hz
  refine va_put (D := G.1) (ci := kc i) (own := own) (Ts := Ts) (ty := .int) (v := .int (zI v)) hC.1 hC.2.1 hC.2.2.2.2.1 hu ty0 hty hnm hC.2.2.2.1 hC.2.2.2.2.2.1 hP hD hS i (by rw [wlx_get hi, ct_0 ho]) hcl k hk (hC.2.2.2.2.1 _ hw) (fun _ h9 => h9) hfin (by rw [hty k hk, ht0]) rfl rfl (by rw [List.length_map, List.length_range, hkn]; exact hk) hd (fun H1 locs1 hP1 hD1 hS1 => ?_)
  rw [putx_fld ho hi hf] at hP1 hD1
  exact kk H1 locs1 ls hP1 hD1 hS1 hl
theorem wpx_putz (hC : Cx p s m args meth c A H0 nL G cc own Ts) {v : Int} {C : String} {T : u_T} {N index i k : Nat} {z : Int} (hz : (k : Int) = z) (ho : kd i = 0) (hi : i < NID) (hcl : vwCl[kc i]? = some (C, T, N)) (hkn : kn i = N) (hk : k < N) (hu : ∀ w ∈ u_ws C T N, w ∈ Ts) (hw : Cond.fieldLink own index (T k).1 (T k).2.1 (T k).2.2.1 ∈ Ts) (ty0 : Nat → FieldType) (hty : ∀ k, k < N → parseFieldDescriptor (T k).2.2.1 = some (ty0 k)) (hnm : ∀ a, a < N → ∀ b, b < N → a ≠ b → (T a).2.1 ≠ (T b).2.1) (hfin : (T k).2.2.2 = false) (ht0 : ty0 k = .boolean) (hf : fr i k = none) (hb : v = 0 ∨ v = 1) (hd : decode cc pc = .ok (.putfield index, 3)) (kk : wpx p l e R s m args below meth c A H0 nL Q G X cells slots (put σ i k v) (pc + 3) lv st) : wpx p l e R s m args below meth c A H0 nL Q G X cells slots σ pc lv (.int (zI v) :: .ref (G.2.2 i) :: st) := fun H locs ls hP hD hS hl => by
  subst hz
  refine va_put (D := G.1) (ci := kc i) (own := own) (Ts := Ts) (ty := .boolean) (v := .int (zI v)) hC.1 hC.2.1 hC.2.2.2.2.1 hu ty0 hty hnm hC.2.2.2.1 hC.2.2.2.2.2.1 hP hD hS i (by rw [wlx_get hi, ct_0 ho]) hcl k hk (hC.2.2.2.2.1 _ hw) (fun _ h9 => h9) hfin (by rw [hty k hk, ht0]) (by rcases hb with rfl | rfl <;> rfl) (by rcases hb with rfl | rfl <;> rfl) (by rw [List.length_map, List.length_range, hkn]; exact hk) hd (fun H1 locs1 hP1 hD1 hS1 => ?_)
  rw [putx_fld ho hi hf] at hP1 hD1
  exact kk H1 locs1 ls hP1 hD1 hS1 hl
theorem wpx_getiN (hC : Cx p s m args meth c A H0 nL G cc own Ts) {C : String} {T : u_T} {N index i k : Nat} {z : Int} (hz : (k : Int) = z) (ho : kd i = 0) (hi : i < NID) (hcl : vwCl[kc i]? = some (C, T, N)) (hkn : kn i = N) (hk : k < N) (hu : ∀ w ∈ u_ws C T N, w ∈ Ts) {host : String} (hw : Cond.fieldLinkNest own index (T k).1 (T k).2.1 (T k).2.2.1 host ∈ tables_1) (hf : fr i k = none) (hd : decode cc pc = .ok (.getfield index, 3)) (kk : wpx p l e R s m args below meth c A H0 nL Q G X cells slots σ (pc + 3) lv (.int (zI (σ i z)) :: st)) : wpx p l e R s m args below meth c A H0 nL Q G X cells slots σ pc lv (.ref (G.2.2 i) :: st) := fun H locs ls hP hD hS hl => by
  subst hz
  exact va_getN (D := G.1) (ci := kc i) (own := own) (Ts := Ts) (v := .int (zI (σ i k))) hC.1 hC.2.1 hC.2.2.2.2.1 hu hC.2.2.2.1 hC.2.2.2.2.2.1 hP i (by rw [wlx_get hi, ct_0 ho]) hcl k hk (hC.2.2.2.2.2.2.2.2.2.use hw rfl) (fun _ h9 => h9) (by rw [List.getElem?_map, List.getElem?_range (by rw [hkn]; exact hk)]; simp only [Option.map_some, fv, hf]) hd (kk H locs ls hP hD hS hl)
theorem wpx_getaN (hC : Cx p s m args meth c A H0 nL G cc own Ts) {j : Nat} {C : String} {T : u_T} {N index i k : Nat} (ho : kd i = 0) (hi : i < NID) (hcl : vwCl[kc i]? = some (C, T, N)) (hkn : kn i = N) (hk : k < N) (hu : ∀ w ∈ u_ws C T N, w ∈ Ts) {host : String} (hw : Cond.fieldLinkNest own index (T k).1 (T k).2.1 (T k).2.2.1 host ∈ tables_1) (hf : fr i k = some j) (hd : decode cc pc = .ok (.getfield index, 3)) (kk : wpx p l e R s m args below meth c A H0 nL Q G X cells slots σ (pc + 3) lv (.ref (G.2.2 j) :: st)) : wpx p l e R s m args below meth c A H0 nL Q G X cells slots σ pc lv (.ref (G.2.2 i) :: st) := fun H locs ls hP hD hS hl => by
  exact va_getN (D := G.1) (ci := kc i) (own := own) (Ts := Ts) (v := .ref (G.2.2 j)) hC.1 hC.2.1 hC.2.2.2.2.1 hu hC.2.2.2.1 hC.2.2.2.2.2.1 hP i (by rw [wlx_get hi, ct_0 ho]) hcl k hk (hC.2.2.2.2.2.2.2.2.2.use hw rfl) (fun _ h9 => h9) (by rw [List.getElem?_map, List.getElem?_range (by rw [hkn]; exact hk)]; simp only [Option.map_some, fv, hf]) hd (kk H locs ls hP hD hS hl)
theorem wpx_putiN (hC : Cx p s m args meth c A H0 nL G cc own Ts) {v : Int} {C : String} {T : u_T} {N index i k : Nat} {z : Int} (hz : (k : Int) = z) (ho : kd i = 0) (hi : i < NID) (hcl : vwCl[kc i]? = some (C, T, N)) (hkn : kn i = N) (hk : k < N) (hu : ∀ w ∈ u_ws C T N, w ∈ Ts) {host : String} (hw : Cond.fieldLinkNest own index (T k).1 (T k).2.1 (T k).2.2.1 host ∈ tables_1) (ty0 : Nat → FieldType) (hty : ∀ k, k < N → parseFieldDescriptor (T k).2.2.1 = some (ty0 k)) (hnm : ∀ a, a < N → ∀ b, b < N → a ≠ b → (T a).2.1 ≠ (T b).2.1) (hfin : (T k).2.2.2 = false) (ht0 : ty0 k = .int) (hf : fr i k = none) (hd : decode cc pc = .ok (.putfield index, 3)) (kk : wpx p l e R s m args below meth c A H0 nL Q G X cells slots (put σ i k v) (pc + 3) lv st) : wpx p l e R s m args below meth c A H0 nL Q G X cells slots σ pc lv (.int (zI v) :: .ref (G.2.2 i) :: st) := fun H locs ls hP hD hS hl => by
  subst hz
  refine va_putN (D := G.1) (ci := kc i) (own := own) (Ts := Ts) (ty := .int) (v := .int (zI v)) hC.1 hC.2.1 hC.2.2.2.2.1 hu ty0 hty hnm hC.2.2.2.1 hC.2.2.2.2.2.1 hP hD hS i (by rw [wlx_get hi, ct_0 ho]) hcl k hk (hC.2.2.2.2.2.2.2.2.2.use hw rfl) (fun _ h9 => h9) hfin (by rw [hty k hk, ht0]) rfl rfl (by rw [List.length_map, List.length_range, hkn]; exact hk) hd (fun H1 locs1 hP1 hD1 hS1 => ?_)
  rw [putx_fld ho hi hf] at hP1 hD1
  exact kk H1 locs1 ls hP1 hD1 hS1 hl
theorem wpx_putzN (hC : Cx p s m args meth c A H0 nL G cc own Ts) {v : Int} {C : String} {T : u_T} {N index i k : Nat} {z : Int} (hz : (k : Int) = z) (ho : kd i = 0) (hi : i < NID) (hcl : vwCl[kc i]? = some (C, T, N)) (hkn : kn i = N) (hk : k < N) (hu : ∀ w ∈ u_ws C T N, w ∈ Ts) {host : String} (hw : Cond.fieldLinkNest own index (T k).1 (T k).2.1 (T k).2.2.1 host ∈ tables_1) (ty0 : Nat → FieldType) (hty : ∀ k, k < N → parseFieldDescriptor (T k).2.2.1 = some (ty0 k)) (hnm : ∀ a, a < N → ∀ b, b < N → a ≠ b → (T a).2.1 ≠ (T b).2.1) (hfin : (T k).2.2.2 = false) (ht0 : ty0 k = .boolean) (hf : fr i k = none) (hb : v = 0 ∨ v = 1) (hd : decode cc pc = .ok (.putfield index, 3)) (kk : wpx p l e R s m args below meth c A H0 nL Q G X cells slots (put σ i k v) (pc + 3) lv st) : wpx p l e R s m args below meth c A H0 nL Q G X cells slots σ pc lv (.int (zI v) :: .ref (G.2.2 i) :: st) := fun H locs ls hP hD hS hl => by
  subst hz
  refine va_putN (D := G.1) (ci := kc i) (own := own) (Ts := Ts) (ty := .boolean) (v := .int (zI v)) hC.1 hC.2.1 hC.2.2.2.2.1 hu ty0 hty hnm hC.2.2.2.1 hC.2.2.2.2.2.1 hP hD hS i (by rw [wlx_get hi, ct_0 ho]) hcl k hk (hC.2.2.2.2.2.2.2.2.2.use hw rfl) (fun _ h9 => h9) hfin (by rw [hty k hk, ht0]) (by rcases hb with rfl | rfl <;> rfl) (by rcases hb with rfl | rfl <;> rfl) (by rw [List.length_map, List.length_range, hkn]; exact hk) hd (fun H1 locs1 hP1 hD1 hS1 => ?_)
  rw [putx_fld ho hi hf] at hP1 hD1
  exact kk H1 locs1 ls hP1 hD1 hS1 hl
theorem wpx_iald (hC : Cx p s m args meth c A H0 nL G cc own Ts) {i n : Nat} {x : Int} (hn : ln i = n) (hb : n ≤ 4000) (hk : kd i = 1) (hi : i < NID) (hx : 0 ≤ x ∧ x < n) (hd : decode cc pc = .ok (.iaload, 1)) (kk : wpx p l e R s m args below meth c A H0 nL Q G X cells slots σ (pc + 1) lv (.int (zI (σ i x)) :: st)) : wpx p l e R s m args below meth c A H0 nL Q G X cells slots σ pc lv (.int (zI x) :: .ref (G.2.2 i) :: st) := fun H locs ls hP hD hS hl => by
  subst hn
  refine va_iald (D := G.1) (tys := tysW G) hC.1 hC.2.1 hC.2.2.2.2.2.1 hP i 0 (by rw [wlx_get hi, ct_1 hk]) rfl (zI_vp (show iR x from ⟨by omega, by omega⟩) hx.1 hx.2) hd ?_
  rw [zI_clamp (show iR x from ⟨by omega, by omega⟩), Int.toNat_of_nonneg hx.1]
  exact kk H locs ls hP hD hS hl
theorem wpx_cald (hC : Cx p s m args meth c A H0 nL G cc own Ts) {i n : Nat} {x : Int} (hn : ln i = n) (hb : n ≤ 4000) (hk : kd i = 2) (hi : i < NID) (hx : 0 ≤ x ∧ x < n) (hd : decode cc pc = .ok (.caload, 1)) (kk : wpx p l e R s m args below meth c A H0 nL Q G X cells slots σ (pc + 1) lv (.int (zI (σ i x)) :: st)) : wpx p l e R s m args below meth c A H0 nL Q G X cells slots σ pc lv (.int (zI x) :: .ref (G.2.2 i) :: st) := fun H locs ls hP hD hS hl => by
  subst hn
  refine va_cald (D := G.1) (tys := tysW G) hC.1 hC.2.1 hC.2.2.2.2.2.1 hP i 1 (by rw [wlx_get hi, ct_2 hk]) rfl (zI_vp (show iR x from ⟨by omega, by omega⟩) hx.1 hx.2) hd ?_
  rw [zI_clamp (show iR x from ⟨by omega, by omega⟩), Int.toNat_of_nonneg hx.1]
  exact kk H locs ls hP hD hS hl
theorem wpx_lald (hC : Cx p s m args meth c A H0 nL G cc own Ts) {i n : Nat} {x : Int} (hn : ln i = n) (hb : n ≤ 4000) (hk : kd i = 3) (hi : i < NID) (hx : 0 ≤ x ∧ x < n) (hd : decode cc pc = .ok (.laload, 1)) (kk : wpx p l e R s m args below meth c A H0 nL Q G X cells slots σ (pc + 1) lv (.long (zL (σ i x)) :: st)) : wpx p l e R s m args below meth c A H0 nL Q G X cells slots σ pc lv (.int (zI x) :: .ref (G.2.2 i) :: st) := fun H locs ls hP hD hS hl => by
  subst hn
  refine va_lald (D := G.1) (tys := tysW G) hC.1 hC.2.1 hC.2.2.2.2.2.1 hP i 2 (by rw [wlx_get hi, ct_3 hk]) rfl (zI_vp (show iR x from ⟨by omega, by omega⟩) hx.1 hx.2) hd ?_
  rw [zI_clamp (show iR x from ⟨by omega, by omega⟩), Int.toNat_of_nonneg hx.1]
  exact kk H locs ls hP hD hS hl
theorem wpx_iast (hC : Cx p s m args meth c A H0 nL G cc own Ts) {v : Int} {i n : Nat} {x : Int} (hn : ln i = n) (hb : n ≤ 4000) (hk : kd i = 1) (hi : i < NID) (hx : 0 ≤ x ∧ x < n) (hd : decode cc pc = .ok (.iastore, 1)) (kk : wpx p l e R s m args below meth c A H0 nL Q G X cells slots (put σ i x v) (pc + 1) lv st) : wpx p l e R s m args below meth c A H0 nL Q G X cells slots σ pc lv (.int (zI v) :: .int (zI x) :: .ref (G.2.2 i) :: st) := fun H locs ls hP hD hS hl => by
  subst hn
  refine va_iast (D := G.1) (tys := tysW G) hC.1 hC.2.1 hC.2.2.2.2.2.1 hP hD hS i 0 (by rw [wlx_get hi, ct_1 hk]) rfl (zI_vp (show iR x from ⟨by omega, by omega⟩) hx.1 hx.2) hd (fun H1 locs1 hP1 hD1 hS1 => ?_)
  rw [zI_clamp (show iR x from ⟨by omega, by omega⟩), putx_ar1 hk hi hx.1] at hP1 hD1
  exact kk H1 locs1 ls hP1 hD1 hS1 hl
theorem wpx_last (hC : Cx p s m args meth c A H0 nL G cc own Ts) {v : Int} {i n : Nat} {x : Int} (hn : ln i = n) (hb : n ≤ 4000) (hk : kd i = 3) (hi : i < NID) (hx : 0 ≤ x ∧ x < n) (hd : decode cc pc = .ok (.lastore, 1)) (kk : wpx p l e R s m args below meth c A H0 nL Q G X cells slots (put σ i x v) (pc + 1) lv st) : wpx p l e R s m args below meth c A H0 nL Q G X cells slots σ pc lv (.long (zL v) :: .int (zI x) :: .ref (G.2.2 i) :: st) := fun H locs ls hP hD hS hl => by
  subst hn
  refine va_last (D := G.1) (tys := tysW G) hC.1 hC.2.1 hC.2.2.2.2.2.1 hP hD hS i 2 (by rw [wlx_get hi, ct_3 hk]) rfl (zI_vp (show iR x from ⟨by omega, by omega⟩) hx.1 hx.2) hd (fun H1 locs1 hP1 hD1 hS1 => ?_)
  rw [zI_clamp (show iR x from ⟨by omega, by omega⟩), putx_ar3 hk hi hx.1] at hP1 hD1
  exact kk H1 locs1 ls hP1 hD1 hS1 hl
theorem wpx_cast (hC : Cx p s m args meth c A H0 nL G cc own Ts) {v : Int} (hv : 0 ≤ v ∧ v < 65536) {i n : Nat} {x : Int} (hn : ln i = n) (hb : n ≤ 4000) (hk : kd i = 2) (hi : i < NID) (hx : 0 ≤ x ∧ x < n) (hd : decode cc pc = .ok (.castore, 1)) (kk : wpx p l e R s m args below meth c A H0 nL Q G X cells slots (put σ i x v) (pc + 1) lv st) : wpx p l e R s m args below meth c A H0 nL Q G X cells slots σ pc lv (.int (zI v) :: .int (zI x) :: .ref (G.2.2 i) :: st) := fun H locs ls hP hD hS hl => by
  subst hn
  refine va_cast (D := G.1) (tys := tysW G) hC.1 hC.2.1 hC.2.2.2.2.2.1 hP hD hS i 1 (by rw [wlx_get hi, ct_2 hk]) rfl (zI_vp (show iR x from ⟨by omega, by omega⟩) hx.1 hx.2) hd (fun H1 locs1 hP1 hD1 hS1 => ?_)
  rw [zI_clamp (show iR x from ⟨by omega, by omega⟩), vp_charZ hv, putx_ar2 hk hi hx.1] at hP1 hD1
  exact kk H1 locs1 ls hP1 hD1 hS1 hl
theorem wpx_aald4 (hC : Cx p s m args meth c A H0 nL G cc own Ts) {i n : Nat} {x : Int} (hn : ln i = n) (hb : n ≤ 4000) (hk : kd i = 4) (hi : i < NID) (hx : 0 ≤ x ∧ x < n) (hd : decode cc pc = .ok (.aaload, 1)) (kk : wpx p l e R s m args below meth c A H0 nL Q G X cells slots σ (pc + 1) lv (.ref (G.2.2 (rb i + x.toNat)) :: st)) : wpx p l e R s m args below meth c A H0 nL Q G X cells slots σ pc lv (.int (zI x) :: .ref (G.2.2 i) :: st) := fun H locs ls hP hD hS hl => by
  subst hn
  refine va_aldA (D := G.1) (tys := tysW G) hC.1 hC.2.1 hC.2.2.2.2.2.1 hP i 3 (ty := .array .int) (by rw [wlx_get hi, ct_4 hk]) rfl rfl (zI_vp (show iR x from ⟨by omega, by omega⟩) hx.1 hx.2) hd ?_
  rw [zI_clamp (show iR x from ⟨by omega, by omega⟩)]
  exact kk H locs ls hP hD hS hl
theorem wpx_aald5 (hC : Cx p s m args meth c A H0 nL G cc own Ts) {i n : Nat} {x : Int} (hn : ln i = n) (hb : n ≤ 4000) (hk : kd i = 5) (hi : i < NID) (hx : 0 ≤ x ∧ x < n) (hd : decode cc pc = .ok (.aaload, 1)) (kk : wpx p l e R s m args below meth c A H0 nL Q G X cells slots σ (pc + 1) lv (.ref (G.2.2 (108 + 5 * (σ i x).toNat)) :: st)) : wpx p l e R s m args below meth c A H0 nL Q G X cells slots σ pc lv (.int (zI x) :: .ref (G.2.2 i) :: st) := fun H locs ls hP hD hS hl => by
  subst hn
  refine va_aldA (D := G.1) (tys := tysW G) hC.1 hC.2.1 hC.2.2.2.2.2.1 hP i 4 (ty := .object "PromiseMind$State") (by rw [wlx_get hi, ct_5 hk]) rfl rfl (zI_vp (show iR x from ⟨by omega, by omega⟩) hx.1 hx.2) hd ?_
  rw [zI_clamp (show iR x from ⟨by omega, by omega⟩)]
  show W _ _ _ _ _ _ _ _ _ _ _ _ _ _ _ (F0 m (pc + 1) ls (va_rf (some (G.2.2 (108 + 5 * (σ i (x.toNat : Int)).toNat))) :: st))
  rw [Int.toNat_of_nonneg hx.1]
  exact kk H locs ls hP hD hS hl
theorem wpx_alen (hC : Cx p s m args meth c A H0 nL G cc own Ts) {i n : Nat} (hn : ln i = n) (hk : kd i = 1) (hi : i < NID) (hd : decode cc pc = .ok (.arraylength, 1)) (kk : wpx p l e R s m args below meth c A H0 nL Q G X cells slots σ (pc + 1) lv (.int (zI n) :: st)) : wpx p l e R s m args below meth c A H0 nL Q G X cells slots σ pc lv (.ref (G.2.2 i) :: st) := fun H locs ls hP hD hS hl => by
  subst hn
  refine va_alen (D := G.1) (tys := tysW G) (x := (ln i, .inl (fun j => zI (σ i j)))) hC.1 hC.2.1 hC.2.2.2.2.2.1 hP i 0 (by rw [wlx_get hi, ct_1 hk]) rfl (v := zI (ln i)) (zI_nI (ln i)).symm hd ?_
  exact kk H locs ls hP hD hS hl
theorem wpx_top {a b : Int} (h : a = b) (kk : wpx p l e R s m args below meth c A H0 nL Q G X cells slots σ pc lv (.int (zI b) :: st)) : wpx p l e R s m args below meth c A H0 nL Q G X cells slots σ pc lv (.int (zI a) :: st) := h ▸ kk
theorem wpx_st {σ2 : St} (h : σ = σ2) (kk : wpx p l e R s m args below meth c A H0 nL Q G X cells slots σ2 pc lv st) : wpx p l e R s m args below meth c A H0 nL Q G X cells slots σ pc lv st := h ▸ kk
end WPX
