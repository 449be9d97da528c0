/-! more room taken than was needed -/
section WPWm
variable {p : Program} {l : Launch} {e : Env} {R : Room} {s : State} {m : MethodId} {args : Array Value} {below : List Frame} {meth : Method} {c : Code} {A : Nat → Prop} {H0 : Heap} {nL : Nat} {Q : State → Prop}
variable {D : va_G} {cl : List vw_C} {ws : va_W} {cells slots : Nat} {pc : Nat} {lv : List (Nat × Value)} {st : List Value}
theorem wpw_more {cells2 slots2 : Nat} (hc : cells ≤ cells2) (hs : slots ≤ slots2) (kk : wpw p l e R s m args below meth c A H0 nL Q D cl ws cells2 slots2 pc lv st) : wpw p l e R s m args below meth c A H0 nL Q D cl ws cells slots pc lv st := fun H locs ls hP hD hS hl => by
  intro T hT X
  exact kk H locs ls hP hD hS hl T hT (X.mono hc hs)
end WPWm
/-! contracts over any world list -/
/-- the tables of figures -/
def DG (A : Nat → Prop) (U : State) (H : Heap) : Prop := ∃ dO dT : Nat, (va_Z RJ6 "DigitOnes" "[B" (.ref dO) A U H ∧ va_T .byte dO 100 (fun j => .int (zI (48 + (j : Int) % 10))) A U H) ∧ va_Z RJ6 "DigitTens" "[B" (.ref dT) A U H ∧ va_T .byte dT 100 (fun j => .int (zI (48 + (j : Int) / 10))) A U H
def XK (Z : Ky) (cB : ClassId) (A : Nat → Prop) (U : State) (H : Heap) : Prop := U.vm.findClass ("[" ++ FieldType.byte.toString) = some cB ∧ SK Z A U H ∧ DG A U H
def XP (D : va_G) (cl : List vw_C) (tys : List (ClassId × FieldType)) (cB : ClassId) (Z : Ky) (X : va_W) (sz : Nat) (U : State) : Prop := U.heap.size = sz ∧ va_P D cl X U.heap ∧ va_D (va_A X sz) X ∧ va_K D cl tys U ∧ XK Z cB (va_A X sz) U U.heap
/-- a number is answered -/
def MXi (l : Launch) (y : MethodName) (ws : List Cond) (rm : Room) (D : va_G) (cl : List vw_C) (tys : List (ClassId × FieldType)) (cB : ClassId) (Z : Ky) (as : List Value) (X : va_W) (post : Int → va_W → Prop) : Prop :=
  ∀ sz : Nat, Met l y ws rm (va_Pc as (XP D cl tys cB Z X sz)) (va_Qi (fun r u => ∃ x, iR x ∧ r = zI x ∧ post x u) (fun u t => va_P D cl u t.heap ∧ va_D (va_A X sz) u) (va_A X sz)) rm.cells rm.slots (va_A X sz)
/-- nothing is answered -/
def MXv (l : Launch) (y : MethodName) (ws : List Cond) (rm : Room) (D : va_G) (cl : List vw_C) (tys : List (ClassId × FieldType)) (cB : ClassId) (Z : Ky) (as : List Value) (X : va_W) (post : va_W → Prop) : Prop :=
  ∀ sz : Nat, Met l y ws rm (va_Pc as (XP D cl tys cB Z X sz)) (va_Qv post (fun u t => va_P D cl u t.heap ∧ va_D (va_A X sz) u) (va_A X sz)) rm.cells rm.slots (va_A X sz)
/-- an object is answered -/
def MXr (l : Launch) (y : MethodName) (ws : List Cond) (rm : Room) (D : va_G) (cl : List vw_C) (tys : List (ClassId × FieldType)) (cB : ClassId) (Z : Ky) (as : List Value) (X : va_W) (post : Nat → va_W → Prop) : Prop :=
  ∀ sz : Nat, Met l y ws rm (va_Pc as (XP D cl tys cB Z X sz)) (va_Qr (fun u : va_W × Nat => post u.2 u.1) (fun u a t => a = u.2 ∧ va_P D cl u.1 t.heap ∧ va_D (va_A X sz) u.1) (va_A X sz)) rm.cells rm.slots (va_A X sz)
section MXs
variable {l : Launch} {y : MethodName} {ws ws' : List Cond} {rm : Room} {D : va_G} {cl : List vw_C} {tys : List (ClassId × FieldType)} {cB : ClassId} {Z : Ky} {as : List Value} {X : va_W} {cc : ByteArray} {maxL : Nat} {own : String} {lv0 : List (Nat × Value)}
theorem MXi.of {post : Int → va_W → Prop} {ty : FieldType} (hy : plainName y.cls = true) (hw : ws = Cond.code y cc maxL (some ty) :: ws') (ho : y.cls = own) (ha : (lg_sl as).length ≤ maxL) (h0 : lv_args 0 as = lv0)
    (body : ∀ (p : Program) (e : Env) (s : State) (m : MethodId) (args : Array Value) (below : List Frame) (meth : Method) (c : Code) (Q : State → Prop), Cw p s m args meth c (va_A X s.heap.size) s.heap maxL D cl tys cc own ws → XK Z cB (va_A X s.heap.size) s s.heap → (∀ (x : Int) (X2 : va_W) (pc : Nat) (lv : List (Nat × Value)), iR x → narrow ty (.int (zI x)) = .int (zI x) → post x X2 → decode cc pc = .ok (.ireturn, 1) → wpw p l e rm s m args below meth c (va_A X s.heap.size) s.heap maxL Q D cl X2 rm.cells rm.slots pc lv [.int (zI x)]) → wpw p l e rm s m args below meth c (va_A X s.heap.size) s.heap maxL Q D cl X 0 0 0 lv0 []) : MXi l y ws rm D cl tys cB Z as X post := by
  intro sz
  refine Met.ofW (cc := cc) (maxL := maxL) (ret := some ty) hy hw ?_
  intro p e s m args below meth c s₁ B hml hv
  obtain ⟨rfl, hsz, hP, hD, hK, hX⟩ := hv
  subst hsz
  have hC : Cw p s m as.toArray meth c (va_A X s.heap.size) s.heap maxL D cl tys cc own ws := ⟨B.exec, B.bytes, hml, by rw [← ho]; exact findClass_of_methodNamed B.named, atoms_spec (ws := ws) B.pre, hK, fun q h => Or.inr h, B.notSynchronized⟩
  have hl := lv_entry as (n := maxL) ha
  rw [lg_entry_eq]
  generalize (lg_sl as ++ List.replicate (maxL - (lg_sl as).length) Slot.unset).toArray = ls at hl ⊢
  rw [h0] at hl
  refine body p e s m _ below meth c _ hC hX ?_ s.heap [] ls hP hD va_S.rf hl
  intro x X2 pc lv hx hn hp hd H locs ls' hP' hD' hS' hl'
  exact W.zret B.exec B.bytes B.returns hn (fun t ht hW => ⟨⟨zI x, X2, rfl, ⟨x, hx, rfl, hp⟩, by rw [ht]; exact hP', hD'⟩, hS'.F ht⟩) hS'.2.2 hd B.notSynchronized
theorem MXv.of {post : va_W → Prop} (hy : plainName y.cls = true) (hw : ws = Cond.code y cc maxL (none) :: ws') (ho : y.cls = own) (ha : (lg_sl as).length ≤ maxL) (h0 : lv_args 0 as = lv0)
    (body : ∀ (p : Program) (e : Env) (s : State) (m : MethodId) (args : Array Value) (below : List Frame) (meth : Method) (c : Code) (Q : State → Prop), Cw p s m args meth c (va_A X s.heap.size) s.heap maxL D cl tys cc own ws → XK Z cB (va_A X s.heap.size) s s.heap → (∀ (X2 : va_W) (pc : Nat) (lv : List (Nat × Value)), post X2 → decode cc pc = .ok (.return_, 1) → wpw p l e rm s m args below meth c (va_A X s.heap.size) s.heap maxL Q D cl X2 rm.cells rm.slots pc lv []) → wpw p l e rm s m args below meth c (va_A X s.heap.size) s.heap maxL Q D cl X 0 0 0 lv0 []) : MXv l y ws rm D cl tys cB Z as X post := by
  intro sz
  refine Met.ofW (cc := cc) (maxL := maxL) (ret := none) hy hw ?_
  intro p e s m args below meth c s₁ B hml hv
  obtain ⟨rfl, hsz, hP, hD, hK, hX⟩ := hv
  subst hsz
  have hC : Cw p s m as.toArray meth c (va_A X s.heap.size) s.heap maxL D cl tys cc own ws := ⟨B.exec, B.bytes, hml, by rw [← ho]; exact findClass_of_methodNamed B.named, atoms_spec (ws := ws) B.pre, hK, fun q h => Or.inr h, B.notSynchronized⟩
  have hl := lv_entry as (n := maxL) ha
  rw [lg_entry_eq]
  generalize (lg_sl as ++ List.replicate (maxL - (lg_sl as).length) Slot.unset).toArray = ls at hl ⊢
  rw [h0] at hl
  refine body p e s m _ below meth c _ hC hX ?_ s.heap [] ls hP hD va_S.rf hl
  intro X2 pc lv hp hd H locs ls' hP' hD' hS' hl'
  exact W.vret B.exec B.bytes B.returns (fun t ht hW => ⟨⟨X2, rfl, hp, by rw [ht]; exact hP', hD'⟩, hS'.F ht⟩) hS'.2.2 hd B.notSynchronized
theorem MXr.of {post : Nat → va_W → Prop} {rt : FieldType} (hrt : (∃ n, rt = FieldType.object n) ∨ ∃ t, rt = FieldType.array t) (hy : plainName y.cls = true) (hw : ws = Cond.code y cc maxL (some rt) :: ws') (ho : y.cls = own) (ha : (lg_sl as).length ≤ maxL) (h0 : lv_args 0 as = lv0)
    (body : ∀ (p : Program) (e : Env) (s : State) (m : MethodId) (args : Array Value) (below : List Frame) (meth : Method) (c : Code) (Q : State → Prop), Cw p s m args meth c (va_A X s.heap.size) s.heap maxL D cl tys cc own ws → XK Z cB (va_A X s.heap.size) s s.heap → (∀ (q : Nat) (X2 : va_W) (pc : Nat) (lv : List (Nat × Value)), post q X2 → decode cc pc = .ok (.areturn, 1) → wpw p l e rm s m args below meth c (va_A X s.heap.size) s.heap maxL Q D cl X2 rm.cells rm.slots pc lv [.ref q]) → wpw p l e rm s m args below meth c (va_A X s.heap.size) s.heap maxL Q D cl X 0 0 0 lv0 []) : MXr l y ws rm D cl tys cB Z as X post := by
  intro sz
  refine Met.ofW (cc := cc) (maxL := maxL) (ret := some rt) hy hw ?_
  intro p e s m args below meth c s₁ B hml hv
  obtain ⟨rfl, hsz, hP, hD, hK, hX⟩ := hv
  subst hsz
  have hC : Cw p s m as.toArray meth c (va_A X s.heap.size) s.heap maxL D cl tys cc own ws := ⟨B.exec, B.bytes, hml, by rw [← ho]; exact findClass_of_methodNamed B.named, atoms_spec (ws := ws) B.pre, hK, fun q h => Or.inr h, B.notSynchronized⟩
  have hl := lv_entry as (n := maxL) ha
  rw [lg_entry_eq]
  generalize (lg_sl as ++ List.replicate (maxL - (lg_sl as).length) Slot.unset).toArray = ls at hl ⊢
  rw [h0] at hl
  refine body p e s m _ below meth c _ hC hX ?_ s.heap [] ls hP hD va_S.rf hl
  intro q X2 pc lv hp hd H locs ls' hP' hD' hS' hl'
  exact W.aret B.exec B.bytes B.returns hrt (Or.inr ⟨_, rfl⟩) (fun t ht hW => ⟨⟨(X2, q), q, rfl, hp, rfl, by rw [ht]; exact hP', hD'⟩, hS'.F ht⟩) hS'.2.2 hd B.notSynchronized
end MXs
