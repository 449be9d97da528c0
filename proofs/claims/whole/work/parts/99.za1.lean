/-! constructors: contracts, calls, cells made -/
theorem xw_call {D : va_G} {cl : List vw_C} {V X X2 : va_W} {A : Nat → Prop} {H H1 : Heap} (hP : va_P D cl (V ++ X) H) (hD : va_D A (V ++ X)) (hB : va_P D cl X2 H1) (hB2 : va_D (va_A X H.size) X2) (hup : ∀ q, va_A X H.size q → A q) (hk : ∀ q : Nat, q < H.size → ¬ va_A X H.size q → H1[q]? = H[q]?) : va_P D cl (V ++ X2) H1 ∧ va_D A (V ++ X2) := by
  have hW : va_P D cl V H := fun k q hk => hP k q (by
    rw [List.getElem?_append_left (List.getElem?_eq_some_iff.mp hk).1]
    exact hk)
  have inX : ∀ {k : Nat} {q : Nat × va_E}, X[k]? = some q → (V ++ X)[V.length + k]? = some q := fun {k q} h => by
    rw [List.getElem?_append_right (by omega), show V.length + k - V.length = k by omega]
    exact h
  have nw : ∀ (k : Nat) (q : Nat × va_E), V[k]? = some q → ¬ va_A X H.size q.1 := fun k q hq z => by
    have hl : k < V.length := (List.getElem?_eq_some_iff.mp hq).1
    have hq2 : (V ++ X)[k]? = some q := by
      rw [List.getElem?_append_left hl]
      exact hq
    rcases z with ⟨k2, e, h2⟩ | z
    · have := hD.1 k (V.length + k2) q (q.1, e) hq2 (inX h2) rfl
      omega
    · have := (hW k q hq).lt
      omega
  refine ⟨(hW.kept (fun k q hq => hk q.1 (hW k q hq).lt (nw k q hq))).app hB, ?_⟩
  have key : ∀ (k : Nat) (q : Nat × va_E), (V ++ X2)[k]? = some q → (k < V.length ∧ V[k]? = some q ∧ (V ++ X)[k]? = some q) ∨ (V.length ≤ k ∧ X2[k - V.length]? = some q) := by
    intro k q h
    by_cases hl : k < V.length
    · rw [List.getElem?_append_left hl] at h
      exact Or.inl ⟨hl, h, by rw [List.getElem?_append_left hl]; exact h⟩
    · rw [List.getElem?_append_right (by omega)] at h
      exact Or.inr ⟨by omega, h⟩
  refine ⟨fun i j x y hx hy hxy => ?_, fun k q h => ?_⟩
  · rcases key i x hx with ⟨a1, a2, a3⟩ | ⟨a1, a2⟩ <;> rcases key j y hy with ⟨b1, b2, b3⟩ | ⟨b1, b2⟩
    · exact hD.1 i j x y a3 b3 hxy
    · exact absurd (by rw [hxy]; exact hB2.2 _ y b2) (nw i x a2)
    · exact absurd (by rw [← hxy]; exact hB2.2 _ x a2) (nw j y b2)
    · have := hB2.1 _ _ x y a2 b2 hxy
      omega
  · rcases key k q h with ⟨a1, a2, a3⟩ | ⟨a1, a2⟩
    · exact hD.2 k q a3
    · exact hup _ (hB2.2 _ q a2)
/-- arrays of int[] -/
def aoi (U : State) : Prop := (Cond.arrayOver (.array .int)).before #[] U = true
theorem oi_bare (vm : Vm) (comp : ClassId) : (vm.bare.classes.findIdx? fun (x : Class) => match x.kind with | .array component _ => component == comp | _ => false) = (vm.classes.findIdx? fun (x : Class) => match x.kind with | .array component _ => component == comp | _ => false) := by
  simp only [Vm.bare, Array.findIdx?_map]
  rfl
theorem aoi.spec {s : State} (h : aoi s) : ∃ comp c k, s.vm.findClass (FieldType.array .int).toString = some comp ∧ (s.vm.classes.findIdx? fun x => match x.kind with | .array component _ => component == comp | _ => false) = some c ∧ s.vm.classes[c]? = some k ∧ k.kind = .array comp (.array .int) ∧ s.vm.findClass ("[" ++ (FieldType.array .int).toString) = some c := by
  unfold aoi Cond.before at h
  simp only [Cond.holds, Cond.value, beq_iff_eq] at h
  cases hc : s.vm.findClass (FieldType.array .int).toString with
  | none => simp [hc] at h
  | some comp =>
    simp only [hc, Option.bind_some, Option.bind_eq_some_iff, Option.map_eq_some_iff] at h
    obtain ⟨c, hi, k, hk, hb⟩ := h
    obtain ⟨hlt, hp, -⟩ := Array.findIdx?_eq_some_iff_getElem.mp hi
    have hkk : s.vm.classes[c] = k := (Array.getElem?_eq_some_iff.mp hk).2
    rw [hkk] at hp
    cases hkind : k.kind with
    | array component ty =>
      rw [hkind] at hb hp
      simp at hb hp
      exact ⟨comp, c, k, rfl, hi, hk, by rw [hkind, hp, hb.1], hb.2⟩
    | _ => rw [hkind] at hb; simp at hb
theorem aoi.moved {u U : State} (hvm : u.vm.Alike U.vm) (h : aoi u) : aoi U := by
  obtain ⟨comp, c, k, h1, h2, h3, h4, h5⟩ := h.spec
  obtain ⟨k', hk', he⟩ := hvm.2.2 _ _ h3
  have hi : (U.vm.classes.findIdx? fun (x : Class) => match x.kind with | .array component _ => component == comp | _ => false) = some c := by
    rw [← oi_bare]
    first | rw [hvm.bare_eq] | rw [← hvm.bare_eq]
    rw [oi_bare]
    exact h2
  have hkind : k'.kind = .array comp (.array .int) := by rw [he]; exact h4
  have f1 : U.vm.findClass (FieldType.array .int).toString = some comp := by rw [hvm.findClass]; exact h1
  have f2 : U.vm.findClass ("[" ++ (FieldType.array .int).toString) = some c := by rw [hvm.findClass]; exact h5
  unfold aoi Cond.before Cond.holds
  simp only [Cond.value]
  rw [f1, Option.bind_some]
  refine (congrArg (fun o : Option Nat => (o.bind (fun c => (U.vm.classes[c]?).map fun (k : Class) => match k.kind with | .array _ ty => decide (ty = FieldType.array .int) && decide (U.vm.findClass ("[" ++ (FieldType.array .int).toString) = some c) | _ => false) == some true)) hi).trans ?_
  simp [hk', hkind, f2]
def nkP (U : State) : Prop := nestP U ∧ va_AO "PromiseMind$State" U ∧ aoi U
theorem nkP.warm {s U : State} (hW : s.WarmedH U.vm) (h : nkP s) : nkP U := ⟨nestP.warm hW h.1, va_AO.moved hW.alike h.2.1, aoi.moved hW.alike h.2.2⟩
theorem nkP.same {u U : State} (hv : u.vm = U.vm) (h : nkP u) : nkP U := ⟨nestP.same hv h.1, va_AO.moved (by rw [hv]; exact Vm.Alike.refl _) h.2.1, aoi.moved (by rw [hv]; exact Vm.Alike.refl _) h.2.2⟩
def XKp (D : va_G) (cl : List vw_C) (tys : List (ClassId × FieldType)) (X : va_W) (sz : Nat) (U : State) : Prop := U.heap.size = sz ∧ va_P D cl X U.heap ∧ va_D (va_A X sz) X ∧ va_K D cl tys U ∧ nkP U
def MKv (l : Launch) (y : MethodName) (ws : List Cond) (rm : Room) (D : va_G) (cl : List vw_C) (tys : List (ClassId × FieldType)) (as : List Value) (X : va_W) (post : va_W → Prop) : Prop :=
  ∀ sz : Nat, Met l y ws rm (va_Pc as (XKp D cl tys X sz)) (va_Qv post (fun u t => va_P D cl u t.heap ∧ va_D (va_A X sz) u) (va_A X sz)) rm.cells rm.slots (va_A X sz)
theorem fbK {D : va_G} {cl : List vw_C} {tys : List (ClassId × FieldType)} {as : List Value} {X : va_W} {sz : Nat} : FrameBlind (va_Pc as (XKp D cl tys X sz)) := fun a U g mk q => by
  obtain ⟨q0, q1, qP, qD, qK, qN⟩ := q
  have hA : U.vm.Alike (U.calling g mk a).vm := Vm.Alike.refl U.vm
  exact ⟨q0, q1, qP, qD, va_K.moved (u := U) (U := U.calling g mk a) hA qK, nkP.same (u := U) (U := U.calling g mk a) rfl qN⟩
theorem MKv.of {l : Launch} {y : MethodName} {ws ws' : List Cond} {rm : Room} {D : va_G} {cl : List vw_C} {tys : List (ClassId × FieldType)} {as : List Value} {X : va_W} {cc : ByteArray} {maxL : Nat} {own : String} {lv0 : List (Nat × Value)} {post : va_W → Prop} (hy : plainName y.cls = true) (hw : ws = Cond.code y cc maxL (none) :: ws') (ho : y.cls = own) (ha : (lg_sl as).length ≤ maxL) (h0 : lv_args 0 as = lv0)
    (body : ∀ (p : Program) (e : Env) (s : State) (m : MethodId) (args : Array Value) (below : List Frame) (meth : Method) (c : Code) (Q : State → Prop), Cw p s m args meth c (va_A X s.heap.size) s.heap maxL D cl tys cc own ws → meth.name = y.name → nkP s → (∀ (X2 : va_W) (pc : Nat) (lv : List (Nat × Value)), post X2 → decode cc pc = .ok (.return_, 1) → wpw p l e rm s m args below meth c (va_A X s.heap.size) s.heap maxL Q D cl X2 rm.cells rm.slots pc lv []) → wpw p l e rm s m args below meth c (va_A X s.heap.size) s.heap maxL Q D cl X 0 0 0 lv0 []) : MKv l y ws rm D cl tys as X post := by
  intro sz
  refine Met.ofW (cc := cc) (maxL := maxL) (ret := none) hy hw ?_
  intro p e s m args below meth c s₁ B hml hv
  obtain ⟨rfl, hsz, hP, hD, hK, hN⟩ := hv
  subst hsz
  have hC : Cw p s m as.toArray meth c (va_A X s.heap.size) s.heap maxL D cl tys cc own ws := ⟨B.exec, B.bytes, hml, by rw [← ho]; exact findClass_of_methodNamed B.named, atoms_spec (ws := ws) B.pre, hK, fun q h => Or.inr h, B.notSynchronized⟩
  have hl := lv_entry as (n := maxL) ha
  rw [lg_entry_eq]
  generalize (lg_sl as ++ List.replicate (maxL - (lg_sl as).length) Slot.unset).toArray = ls at hl ⊢
  rw [h0] at hl
  refine body p e s m _ below meth c _ hC (name_of_methodNamed B.named B.method).1 hN ?_ s.heap [] ls hP hD va_S.rf hl
  intro X2 pc lv hp hd H locs ls' hP' hD' hS' hl'
  exact W.vret B.exec B.bytes B.returns (fun t ht hW => ⟨⟨X2, rfl, hp, by rw [ht]; exact hP', hD'⟩, hS'.F ht⟩) hS'.2.2 hd B.notSynchronized
section KON
variable {p : Program} {l : Launch} {e : Env} {R : Room} {s : State} {m : MethodId} {args : Array Value} {below : List Frame} {meth : Method} {c : Code} {A : Nat → Prop} {nL : Nat} {Q : State → Prop}
variable {D : va_G} {cl : List vw_C} {tys : List (ClassId × FieldType)} {ws : va_W} {cells slots : Nat} {pc : Nat} {lv : List (Nat × Value)} {st stk : List Value} {cc : ByteArray} {own : String} {Ts : List Cond}
variable {a ci index maxL N i t : Nat} {fs : List Value} {C host : String} {T : u_T} {y : MethodName} {wy ws' : List Cond} {rm : Room} {bytes : ByteArray} {As : List Value} {V Y : va_W}
theorem xA_upk {H : Heap} {locs : List Loc} (hC : Cw p s m args meth c A s.heap nL D cl tys cc own Ts) (hD : va_D A (V ++ Y)) (hS : va_S A s.heap H locs) : ∀ q, va_A Y H.size q → A q := fun q hq => by
  rcases hq with ⟨k, e, h⟩ | h
  · exact hD.2 (V.length + k) _ (by
      rw [List.getElem?_append_right (by omega), show V.length + k - V.length = k by omega]
      exact h)
  · exact hC.2.2.2.2.2.2.1 q (Nat.le_trans hS.1 h)
theorem wpw_callKI {post : va_W → Prop} (hC : Cw p s m args meth c A s.heap nL D cl tys cc own Ts) (hN : nkP s) (hM : MKv l y wy rm D cl tys (.ref a :: As) Y post) (hT : GoodIn Ts wy) (hini : Cond.initialized y.cls ∈ Ts) (hln : Cond.methodLink own index y ∈ Ts) (hin : Cond.instanceMethod y ∈ Ts) (hw : wy = Cond.code y bytes maxL (none) :: ws') (hR : rm.frames + 1 ≤ R.frames ∧ 8 + (maxL + 11) + rm.locals ≤ R.locals) (hroom : cells + rm.cells ≤ R.cells ∧ slots + rm.slots ≤ R.slots) (hy : y.name = "<init>" ∧ y.cls ≠ "java/lang/invoke/MethodHandle" ∧ y.cls ≠ "java/lang/invoke/VarHandle" ∧ (parseMethodDescriptor y.desc).map (fun d => d.parameters.length) = some As.length) (hws : ws = V ++ Y) (hstk : stk = As.reverse ++ .ref a :: st) (hcat : (st.map fun v => v.category).sum ≤ 8) (hd : decode cc pc = .ok (.invokespecial index, 3)) (kk : ∀ (Y2 : va_W), post Y2 → wpw p l e R s m args below meth c A s.heap nL Q D cl (V ++ Y2) (cells + rm.cells) (slots + rm.slots) (pc + 3) lv st) : wpw p l e R s m args below meth c A s.heap nL Q D cl ws cells slots pc lv stk := fun H locs ls hP hD hS hl => by
  subst hws
  have inY : ∀ {k : Nat} {q : Nat × va_E}, Y[k]? = some q → (V ++ Y)[V.length + k]? = some q := fun {k q} h => by
    rw [List.getElem?_append_right (by omega), show V.length + k - V.length = k by omega]
    exact h
  have hPY : va_P D cl Y H := fun k q hk => hP _ q (inY hk)
  have hDY : va_D A Y := ⟨fun i j x y hx hy hxy => by
    have := hD.1 _ _ x y (inY hx) (inY hy) hxy
    omega, fun k q hk => hD.2 _ q (inY hk)⟩
  exact va_callv (va_runI (As := As) (rest := st) ⟨hC.1, hC.2.1, hC.2.2.1, hC.2.2.2.1, hC.2.2.2.2.1⟩ (hM H.size) (cwI As.length hC.2.2.2.2.1 hT hw rfl rfl (hC.2.2.2.2.1 _ hini) (hC.2.2.2.2.1 _ hln) (hC.2.2.2.2.1 _ hin) hy.1 hy.2 hR) ⟨fbK, fun U hU hW => ⟨rfl, by rw [hU], by rw [hU]; exact hPY, hDY.self, va_K.moved hW.alike hC.2.2.2.2.2.1, nkP.warm hW hN⟩⟩ rfl rfl hl.1 hstk (lv_room hcat) hd hroom) hS (fun q _ h => xA_upk hC hD hS q h) (xA_upk hC hD hS) (fun u t H1 locs1 ht hvm hp hB hz hk hS1 => by
    rw [ht] at hB
    obtain ⟨a1, a2⟩ := xw_call hP hD hB.1 hB.2 (xA_upk hC hD hS) hk
    exact kk u hp H1 locs1 ls a1 a2 hS1 hl)
theorem wpw_callKN {post : va_W → Prop} (hC : Cw p s m args meth c A s.heap nL D cl tys cc own Ts) (hN : nkP s) (hM : MKv l y wy rm D cl tys (.ref a :: As) Y post) (hT : GoodIn Ts wy) (hln : Cond.methodLinkNest own index y host ∈ tables_1) (hini : Cond.initialized y.cls ∈ Ts) (hin : Cond.instanceMethod y ∈ Ts) (hw : wy = Cond.code y bytes maxL (none) :: ws') (hR : rm.frames + 1 ≤ R.frames ∧ 8 + (maxL + 11) + rm.locals ≤ R.locals) (hroom : cells + rm.cells ≤ R.cells ∧ slots + rm.slots ≤ R.slots) (hy : y.name = "<init>" ∧ y.cls ≠ "java/lang/invoke/MethodHandle" ∧ y.cls ≠ "java/lang/invoke/VarHandle" ∧ (parseMethodDescriptor y.desc).map (fun d => d.parameters.length) = some As.length) (hws : ws = V ++ Y) (hstk : stk = As.reverse ++ .ref a :: st) (hcat : (st.map fun v => v.category).sum ≤ 8) (hd : decode cc pc = .ok (.invokespecial index, 3)) (kk : ∀ (Y2 : va_W), post Y2 → wpw p l e R s m args below meth c A s.heap nL Q D cl (V ++ Y2) (cells + rm.cells) (slots + rm.slots) (pc + 3) lv st) : wpw p l e R s m args below meth c A s.heap nL Q D cl ws cells slots pc lv stk := fun H locs ls hP hD hS hl => by
  subst hws
  have inY : ∀ {k : Nat} {q : Nat × va_E}, Y[k]? = some q → (V ++ Y)[V.length + k]? = some q := fun {k q} h => by
    rw [List.getElem?_append_right (by omega), show V.length + k - V.length = k by omega]
    exact h
  have hPY : va_P D cl Y H := fun k q hk => hP _ q (inY hk)
  have hDY : va_D A Y := ⟨fun i j x y hx hy hxy => by
    have := hD.1 _ _ x y (inY hx) (inY hy) hxy
    omega, fun k q hk => hD.2 _ q (inY hk)⟩
  exact va_callv (va_runIN (As := As) (rest := st) (host := host) ⟨hC.1, hC.2.1, hC.2.2.1, hC.2.2.2.1, hC.2.2.2.2.1⟩ (hM H.size) ⟨va_cnB As.length hC.2.2.2.2.1 hT hw rfl rfl (hN.1 _ hln rfl) (hC.2.2.2.2.1 _ hini) hy.2 hR, hy.1, hC.2.2.2.2.1 _ hin⟩ ⟨fbK, fun U hU hW => ⟨rfl, by rw [hU], by rw [hU]; exact hPY, hDY.self, va_K.moved hW.alike hC.2.2.2.2.2.1, nkP.warm hW hN⟩⟩ rfl rfl hl.1 hstk (lv_room hcat) hd hroom) hS (fun q _ h => xA_upk hC hD hS q h) (xA_upk hC hD hS) (fun u t H1 locs1 ht hvm hp hB hz hk hS1 => by
    rw [ht] at hB
    obtain ⟨a1, a2⟩ := xw_call hP hD hB.1 hB.2 (xA_upk hC hD hS) hk
    exact kk u hp H1 locs1 ls a1 a2 hS1 hl)
theorem wpw_callKS {post : va_W → Prop} (hC : Cw p s m args meth c A s.heap nL D cl tys cc own Ts) (hN : nkP s) (hM : MKv l y wy rm D cl tys (As) Y post) (hT : GoodIn Ts (va_wsS own index y wy)) (hw : wy = Cond.code y bytes maxL (none) :: ws') (hR : rm.frames + 1 ≤ R.frames ∧ 8 + (maxL + 11) + rm.locals ≤ R.locals) (hroom : cells + rm.cells ≤ R.cells ∧ slots + rm.slots ≤ R.slots) (hy : y.cls ≠ "java/lang/invoke/MethodHandle" ∧ y.cls ≠ "java/lang/invoke/VarHandle" ∧ (parseMethodDescriptor y.desc).map (fun d => d.parameters.length) = some As.length) (hws : ws = V ++ Y) (hstk : stk = As.reverse ++ st) (hcat : (st.map fun v => v.category).sum ≤ 8) (hd : decode cc pc = .ok (.invokestatic index, 3)) (kk : ∀ (Y2 : va_W), post Y2 → wpw p l e R s m args below meth c A s.heap nL Q D cl (V ++ Y2) (cells + rm.cells) (slots + rm.slots) (pc + 3) lv st) : wpw p l e R s m args below meth c A s.heap nL Q D cl ws cells slots pc lv stk := fun H locs ls hP hD hS hl => by
  subst hws
  have inY : ∀ {k : Nat} {q : Nat × va_E}, Y[k]? = some q → (V ++ Y)[V.length + k]? = some q := fun {k q} h => by
    rw [List.getElem?_append_right (by omega), show V.length + k - V.length = k by omega]
    exact h
  have hPY : va_P D cl Y H := fun k q hk => hP _ q (inY hk)
  have hDY : va_D A Y := ⟨fun i j x y hx hy hxy => by
    have := hD.1 _ _ x y (inY hx) (inY hy) hxy
    omega, fun k q hk => hD.2 _ q (inY hk)⟩
  exact va_callv (va_runS (As := As) (rest := st) ⟨hC.1, hC.2.1, hC.2.2.1, hC.2.2.2.1, hC.2.2.2.2.1⟩ (hM H.size) (va_cwS As.length hC.2.2.2.2.1 hT hw rfl rfl hy hR) ⟨fbK, fun U hU hW => ⟨rfl, by rw [hU], by rw [hU]; exact hPY, hDY.self, va_K.moved hW.alike hC.2.2.2.2.2.1, nkP.warm hW hN⟩⟩ rfl rfl hl.1 hstk (lv_room hcat) hd hroom) hS (fun q _ h => xA_upk hC hD hS q h) (xA_upk hC hD hS) (fun u t H1 locs1 ht hvm hp hB hz hk hS1 => by
    rw [ht] at hB
    obtain ⟨a1, a2⟩ := xw_call hP hD hB.1 hB.2 (xA_upk hC hD hS) hk
    exact kk u hp H1 locs1 ls a1 a2 hS1 hl)
theorem wpw_newo (hC : Cw p s m args meth c A s.heap nL D cl tys cc own Ts) (hcl : cl[ci]? = some (C, T, N)) (hu : ∀ w ∈ u_ws C T N, w ∈ Ts) (ty0 : Nat → FieldType) (hty : ∀ k, k < N → parseFieldDescriptor (T k).2.2.1 = some (ty0 k)) (fs : List Value) (hfs : ∀ j, j < N → defaultValue (ty0 j) = vp_V fs j) (h1 : Cond.classLink own index C ∈ Ts) (h2 : Cond.instantiable C N ∈ Ts) (h3 : Cond.initialized C ∈ Ts) (hcells : cells + 1 ≤ R.cells) (hslots : slots + N ≤ R.slots) (hd : decode cc pc = .ok (.new index, 3)) (kk : ∀ q : Nat, wpw p l e R s m args below meth c A s.heap nL Q D cl (ws ++ [(q, .inr (ci, fs))]) (cells + 1) (slots + N) (pc + 3) lv (.ref q :: st)) : wpw p l e R s m args below meth c A s.heap nL Q D cl ws cells slots pc lv st := fun H locs ls hP hD hS hl => by
  exact va_new (D := D) (cl := cl) (tys := tys) (ci := ci) (fs := fs) (C := C) (T := T) (N := N) hC.1 hC.2.1 hC.2.2.2.2.1 hu ty0 hty hC.2.2.2.1 (hC.2.2.2.2.1 _ h1) (hC.2.2.2.2.1 _ h2) (hC.2.2.2.2.1 _ h3) hC.2.2.2.2.2.1 hP hD hS hC.2.2.2.2.2.2.1 hcl hfs hcells hslots hd (fun q H1 hP1 hD1 hS1 => kk q H1 _ ls hP1 hD1 hS1 hl)
theorem wpw_putF {k : Nat} {v : Value} {ty : FieldType} {ws2 : va_W} (hC : Cw p s m args meth c A s.heap nL D cl tys cc own Ts) (hin2 : meth.name = "<init>") (he : ws[i]? = some (a, .inr (ci, fs))) (hcl : cl[ci]? = some (C, T, N)) (hk : k < N) (hu : ∀ w ∈ u_ws C T N, w ∈ Ts) (hw : Cond.fieldLink own index (T k).1 (T k).2.1 (T k).2.2.1 ∈ Ts) (ty0 : Nat → FieldType) (hty : ∀ k, k < N → parseFieldDescriptor (T k).2.2.1 = some (ty0 k)) (hnm : ∀ a, a < N → ∀ b, b < N → a ≠ b → (T a).2.1 ≠ (T b).2.1) (hfin : (T k).2.2.2 = true) (hdecl : (T k).1 = own) (ht : parseFieldDescriptor (T k).2.2.1 = some ty) (hn : narrow ty v = v) (hf : fits ty v = true) (hl0 : k < fs.length) (hs : ws.set i (a, .inr (ci, fs.set k v)) = ws2) (hd : decode cc pc = .ok (.putfield index, 3)) (kk : wpw p l e R s m args below meth c A s.heap nL Q D cl ws2 cells slots (pc + 3) lv st) : wpw p l e R s m args below meth c A s.heap nL Q D cl ws cells slots pc lv (v :: .ref a :: st) := fun H locs ls hP hD hS hl => by
  subst hs
  exact va_putF (D := D) (ci := ci) (own := own) (Ts := Ts) (ty := ty) (v := v) hC.1 hC.2.1 hC.2.2.2.2.1 hu ty0 hty hnm hC.2.2.2.1 hC.2.2.2.2.2.1 hP hD hS i he hcl k hk (hC.2.2.2.2.1 _ hw) (fun _ h9 => h9) hfin hin2 hdecl ht hn hf hl0 hd (fun H1 locs1 hP1 hD1 hS1 => kk H1 locs1 ls hP1 hD1 hS1 hl)
theorem wpw_newI (hC : Cw p s m args meth c A s.heap nL D cl tys cc own Ts) {cA : ClassId} (ht : tys[t]? = some (cA, .int)) {x : Int} (hx : 0 ≤ x ∧ x ≤ 4000) (harr : Cond.arrayClass .int ∈ Ts) (hcells : cells + 1 ≤ R.cells) (hslots : slots + x.toNat ≤ R.slots) (hd : decode cc pc = .ok (.newarray .int, 2)) (kk : ∀ q : Nat, wpw p l e R s m args below meth c A s.heap nL Q D cl (ws ++ [(q, .inl (cA, x.toNat, .inl (fun _ => zI 0)))]) (cells + 1) (slots + x.toNat) (pc + 2) lv (.ref q :: st)) : wpw p l e R s m args below meth c A s.heap nL Q D cl ws cells slots pc lv (.int (zI x) :: st) := fun H locs ls hP hD hS hl => by
  have hr : iR x := ⟨by omega, by omega⟩
  refine va_newaK (atype := .int) hC.1 hC.2.1 (hC.2.2.2.2.1 _ harr) rfl hd rfl (fun h => ?_) (zI_clamp hr) ?_ hcells hslots rfl (fun H1 cA2 e1 z1 o1 hAr hNm => ?_)
  · have := (zI_lt hr iR_0).mp h
    omega
  · have e4 : ∀ b : Nat, b ≤ 8 → x.toNat * b ≤ 536870912 := fun b hb => Nat.le_trans (Nat.mul_le_mul (show x.toNat ≤ 4000 by omega) hb) (by decide)
    exact e4 _ (by decide)
  · have hc : cA2 = cA := Option.some.inj ((show s.vm.findClass ("[" ++ FieldType.toString .int) = some cA2 from hNm).symm.trans (hC.2.2.2.2.2.1.2 t _ ht).2)
    subst hc
    have hk : ∀ (k : Nat) (y : Nat × va_E), ws[k]? = some y → H1[y.1]? = H[y.1]? := fun k y hy => o1 y.1 ((hP k y hy).lt)
    refine kk H.size H1 locs ls ((hP.kept hk).app (fun k y hy => ?_)) (hD.push hP rfl (hC.2.2.2.2.2.2.1 _ hS.1)) ⟨Nat.le_trans hS.1 (by omega), fun y h1 h2 => (o1 y (Nat.lt_of_lt_of_le h1 hS.1)).trans (hS.2.1 y h1 h2), hS.2.2⟩ hl
    have hz : k < 1 := (List.getElem?_eq_some_iff.mp hy).1
    rw [show k = 0 by omega] at hy
    cases hy
    exact e1
theorem wpw_newC (hC : Cw p s m args meth c A s.heap nL D cl tys cc own Ts) {cA : ClassId} (ht : tys[t]? = some (cA, .char)) {x : Int} (hx : 0 ≤ x ∧ x ≤ 4000) (harr : Cond.arrayClass .char ∈ Ts) (hcells : cells + 1 ≤ R.cells) (hslots : slots + x.toNat ≤ R.slots) (hd : decode cc pc = .ok (.newarray .char, 2)) (kk : ∀ q : Nat, wpw p l e R s m args below meth c A s.heap nL Q D cl (ws ++ [(q, .inl (cA, x.toNat, .inl (fun _ => zI 0)))]) (cells + 1) (slots + x.toNat) (pc + 2) lv (.ref q :: st)) : wpw p l e R s m args below meth c A s.heap nL Q D cl ws cells slots pc lv (.int (zI x) :: st) := fun H locs ls hP hD hS hl => by
  have hr : iR x := ⟨by omega, by omega⟩
  refine va_newaK (atype := .char) hC.1 hC.2.1 (hC.2.2.2.2.1 _ harr) rfl hd rfl (fun h => ?_) (zI_clamp hr) ?_ hcells hslots rfl (fun H1 cA2 e1 z1 o1 hAr hNm => ?_)
  · have := (zI_lt hr iR_0).mp h
    omega
  · have e4 : ∀ b : Nat, b ≤ 8 → x.toNat * b ≤ 536870912 := fun b hb => Nat.le_trans (Nat.mul_le_mul (show x.toNat ≤ 4000 by omega) hb) (by decide)
    exact e4 _ (by decide)
  · have hc : cA2 = cA := Option.some.inj ((show s.vm.findClass ("[" ++ FieldType.toString .char) = some cA2 from hNm).symm.trans (hC.2.2.2.2.2.1.2 t _ ht).2)
    subst hc
    have hk : ∀ (k : Nat) (y : Nat × va_E), ws[k]? = some y → H1[y.1]? = H[y.1]? := fun k y hy => o1 y.1 ((hP k y hy).lt)
    refine kk H.size H1 locs ls ((hP.kept hk).app (fun k y hy => ?_)) (hD.push hP rfl (hC.2.2.2.2.2.2.1 _ hS.1)) ⟨Nat.le_trans hS.1 (by omega), fun y h1 h2 => (o1 y (Nat.lt_of_lt_of_le h1 hS.1)).trans (hS.2.1 y h1 h2), hS.2.2⟩ hl
    have hz : k < 1 := (List.getElem?_eq_some_iff.mp hy).1
    rw [show k = 0 by omega] at hy
    cases hy
    exact e1
theorem wpw_newJ (hC : Cw p s m args meth c A s.heap nL D cl tys cc own Ts) {cA : ClassId} (ht : tys[t]? = some (cA, .long)) {x : Int} (hx : 0 ≤ x ∧ x ≤ 4000) (harr : Cond.arrayClass .long ∈ Ts) (hcells : cells + 1 ≤ R.cells) (hslots : slots + x.toNat ≤ R.slots) (hd : decode cc pc = .ok (.newarray .long, 2)) (kk : ∀ q : Nat, wpw p l e R s m args below meth c A s.heap nL Q D cl (ws ++ [(q, .inl (cA, x.toNat, .inr (.inl (fun _ => zL 0))))]) (cells + 1) (slots + x.toNat) (pc + 2) lv (.ref q :: st)) : wpw p l e R s m args below meth c A s.heap nL Q D cl ws cells slots pc lv (.int (zI x) :: st) := fun H locs ls hP hD hS hl => by
  have hr : iR x := ⟨by omega, by omega⟩
  refine va_newaK (atype := .long) hC.1 hC.2.1 (hC.2.2.2.2.1 _ harr) rfl hd rfl (fun h => ?_) (zI_clamp hr) ?_ hcells hslots rfl (fun H1 cA2 e1 z1 o1 hAr hNm => ?_)
  · have := (zI_lt hr iR_0).mp h
    omega
  · have e4 : ∀ b : Nat, b ≤ 8 → x.toNat * b ≤ 536870912 := fun b hb => Nat.le_trans (Nat.mul_le_mul (show x.toNat ≤ 4000 by omega) hb) (by decide)
    exact e4 _ (by decide)
  · have hc : cA2 = cA := Option.some.inj ((show s.vm.findClass ("[" ++ FieldType.toString .long) = some cA2 from hNm).symm.trans (hC.2.2.2.2.2.1.2 t _ ht).2)
    subst hc
    have hk : ∀ (k : Nat) (y : Nat × va_E), ws[k]? = some y → H1[y.1]? = H[y.1]? := fun k y hy => o1 y.1 ((hP k y hy).lt)
    refine kk H.size H1 locs ls ((hP.kept hk).app (fun k y hy => ?_)) (hD.push hP rfl (hC.2.2.2.2.2.2.1 _ hS.1)) ⟨Nat.le_trans hS.1 (by omega), fun y h1 h2 => (o1 y (Nat.lt_of_lt_of_le h1 hS.1)).trans (hS.2.1 y h1 h2), hS.2.2⟩ hl
    have hz : k < 1 := (List.getElem?_eq_some_iff.mp hy).1
    rw [show k = 0 by omega] at hy
    cases hy
    exact e1
theorem wpw_newq (hC : Cw p s m args meth c A s.heap nL D cl tys cc own Ts) {cA : ClassId} (ht : tys[t]? = some (cA, .object C)) {x : Int} (hx : 0 ≤ x ∧ x ≤ 4000) (hcl : Cond.classLink own index C ∈ Ts) (hover : va_AO C s) (hcells : cells + 1 ≤ R.cells) (hslots : slots + x.toNat ≤ R.slots) (hd : decode cc pc = .ok (.anewarray index, 3)) (kk : ∀ q : Nat, wpw p l e R s m args below meth c A s.heap nL Q D cl (ws ++ [(q, .inl (cA, x.toNat, .inr (.inr (.inr (.inr (fun _ => none))))))]) (cells + 1) (slots + x.toNat) (pc + 3) lv (.ref q :: st)) : wpw p l e R s m args below meth c A s.heap nL Q D cl ws cells slots pc lv (.int (zI x) :: st) := fun H locs ls hP hD hS hl => by
  have hr : iR x := ⟨by omega, by omega⟩
  have hcells2 : cells + 1 ≤ R.cells := hcells
  refine W.anew hC.1 hC.2.1 hC.2.2.2.1 (hC.2.2.2.2.1 _ hcl) (va_AO.use hover) rfl hd rfl (fun h => ?_) (by rw [zI_clamp hr]; omega) hcells2 (by rw [zI_clamp hr]; exact hslots) (fun cA2 kA comp f1 f2 f3 f4 => ?_)
  · have := (zI_lt hr iR_0).mp h
    omega
  obtain ⟨kA', comp', g1, g2, g3, g4⟩ := (hC.2.2.2.2.2.1.2 t _ ht).2
  have hc : cA2 = cA := Option.some.inj (f1.symm.trans g4)
  subst hc
  generalize hH1 : H.push ({ cls := cA2, slots := Array.replicate (zI x).toNatClampNeg .null, vm := .none } : Cell) = H1
  have z1 : H1.size = H.size + 1 := by rw [← hH1, Array.size_push]
  have e1 : H1[H.size]? = some (arrV cA2 (zI x).toNatClampNeg (fun _ => .null)) := by rw [← hH1, Array.getElem?_push_size, ← arrV_new]
  have o1 : ∀ q : Nat, q < H.size → H1[q]? = H[q]? := fun q hq => by rw [← hH1, Array.getElem?_push, if_neg (Nat.ne_of_lt hq)]
  have hk : ∀ (k : Nat) (y : Nat × va_E), ws[k]? = some y → H1[y.1]? = H[y.1]? := fun k y hy => o1 y.1 ((hP k y hy).lt)
  rw [zI_clamp hr] at e1 ⊢
  refine kk H.size H1 locs ls ((hP.kept hk).app (fun k y hy => ?_)) (hD.push hP rfl (hC.2.2.2.2.2.2.1 _ hS.1)) ⟨Nat.le_trans hS.1 (by omega), fun y h1 h2 => (o1 y (Nat.lt_of_lt_of_le h1 hS.1)).trans (hS.2.1 y h1 h2), hS.2.2⟩ hl
  have hz : k < 1 := (List.getElem?_eq_some_iff.mp hy).1
  rw [show k = 0 by omega] at hy
  cases hy
  exact e1
theorem wpw_aast {qk ci2 n v : Nat} {vs : List Value} {f : Nat → Option Nat} {cA : ClassId} {r : vw_C} {x : Int} {ws2 : va_W} (hC : Cw p s m args meth c A s.heap nL D cl tys cc own Ts) (he : ws[i]? = some (a, .inl (cA, n, .inr (.inr (.inr (.inr f)))))) (ht : tys[t]? = some (cA, .object r.1)) (hv : ws[qk]? = some (v, .inr (ci2, vs))) (hc : cl[ci2]? = some r) (hn : n ≤ 4000) (hx : 0 ≤ x ∧ x < n) (hs : ws.set i (a, .inl (cA, n, .inr (.inr (.inr (.inr (va_up f x.toNat (some v))))))) = ws2) (hd : decode cc pc = .ok (.aastore, 1)) (kk : wpw p l e R s m args below meth c A s.heap nL Q D cl ws2 cells slots (pc + 1) lv st) : wpw p l e R s m args below meth c A s.heap nL Q D cl ws cells slots pc lv (.ref v :: .int (zI x) :: .ref a :: st) := fun H locs ls hP hD hS hl => by
  subst hs
  have hr : iR x := ⟨by omega, by omega⟩
  refine va_astq (D := D) (tys := tys) hC.1 hC.2.1 hC.2.2.2.2.2.1 hP hD hS i t qk ci2 he ht hv hc (zI_vp hr hx.1 hx.2) hd (fun H1 locs1 hP1 hD1 hS1 => ?_)
  rw [zI_clamp hr] at hP1 hD1
  exact kk H1 locs1 ls hP1 hD1 hS1 hl
theorem wpw_iast {n : Nat} {f : Nat → Int32} {cA : ClassId} {x v : Int} {ws2 : va_W} (hC : Cw p s m args meth c A s.heap nL D cl tys cc own Ts) (he : ws[i]? = some (a, .inl (cA, n, .inl f))) (ht : tys[t]? = some (cA, .int)) (hn : n ≤ 4000) (hx : 0 ≤ x ∧ x < n) (hs : ws.set i (a, .inl (cA, n, .inl (upd f x.toNat (zI v)))) = ws2) (hd : decode cc pc = .ok (.iastore, 1)) (kk : wpw p l e R s m args below meth c A s.heap nL Q D cl ws2 cells slots (pc + 1) lv st) : wpw p l e R s m args below meth c A s.heap nL Q D cl ws cells slots pc lv (.int (zI v) :: .int (zI x) :: .ref a :: st) := fun H locs ls hP hD hS hl => by
  subst hs
  have hr : iR x := ⟨by omega, by omega⟩
  refine va_iast (D := D) (tys := tys) hC.1 hC.2.1 hC.2.2.2.2.2.1 hP hD hS i t he ht (zI_vp hr hx.1 hx.2) hd (fun H1 locs1 hP1 hD1 hS1 => ?_)
  rw [zI_clamp hr] at hP1 hD1
  exact kk H1 locs1 ls hP1 hD1 hS1 hl
theorem wpw_alenq {n : Nat} {f : Nat → Option Nat} {cA : ClassId} {ty : FieldType} (hC : Cw p s m args meth c A s.heap nL D cl tys cc own Ts) (he : ws[i]? = some (a, .inl (cA, n, .inr (.inr (.inr (.inr f)))))) (ht : tys[t]? = some (cA, ty)) (hd : decode cc pc = .ok (.arraylength, 1)) (kk : wpw p l e R s m args below meth c A s.heap nL Q D cl ws cells slots (pc + 1) lv (.int (zI n) :: st)) : wpw p l e R s m args below meth c A s.heap nL Q D cl ws cells slots pc lv (.ref a :: st) := fun H locs ls hP hD hS hl => by
  exact va_alen (D := D) (tys := tys) (x := (n, .inr (.inr (.inr (.inr f))))) hC.1 hC.2.1 hC.2.2.2.2.2.1 hP i t he ht (v := zI n) rfl hd (kk H locs ls hP hD hS hl)
theorem wpw_objK {st : List Value} (hC : Cw p s m args meth c A s.heap nL D cl tys cc own Ts) (h1 : Cond.methodLink own index objectInit ∈ Ts) (h2 : Cond.instanceMethod objectInit ∈ Ts) (h3 : Cond.code objectInit ⟨#[0xb1]⟩ 1 none ∈ Ts) (hfr : 1 ≤ R.frames) (hlo : (st.map fun v => v.category).sum + 12 ≤ R.locals) (hd : decode cc pc = .ok (.invokespecial index, 3)) (kk : wpw p l e R s m args below meth c A s.heap nL Q D cl ws cells slots (pc + 3) lv st) : wpw p l e R s m args below meth c A s.heap nL Q D cl ws cells slots pc lv (.ref a :: st) := fun H locs ls hP hD hS hl => by
  exact W.objInit hC.1 hC.2.1 hC.2.2.2.1 (hC.2.2.2.2.1 _ h1) (hC.2.2.2.2.1 _ h2) (hC.2.2.2.2.1 _ h3) rfl (by rw [hC.2.2.1]; exact hl.1) rfl hd hfr (by show 2 * 0 + _ + 12 ≤ _; omega) (kk H locs ls hP hD hS hl)
/-- a world in another order -/
theorem wpw_swap {X1 X2 X3 : va_W} (hs : ws = (X1 ++ X2) ++ X3) (kk : wpw p l e R s m args below meth c A s.heap nL Q D cl ((X1 ++ X3) ++ X2) cells slots pc lv st) : wpw p l e R s m args below meth c A s.heap nL Q D cl ws cells slots pc lv st := fun H locs ls hP hD hS hl => by
  subst hs
  exact kk H locs ls (va_P.swap hP) (va_D.swap hD) hS hl
end KON
