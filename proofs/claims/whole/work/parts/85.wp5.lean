/-! string constants: one more piece of world -/
def lenS : List Nat := [5, 4, 4, 8]
/-- asked, gone, late, promised -/
def bytS : List (List Int32) := [[97, 115, 107, 101, 100], [103, 111, 110, 101], [108, 97, 116, 101], [112, 114, 111, 109, 105, 115, 101, 100]]
abbrev Ky : Type := (Nat → Nat) × (Nat → Nat)
def SKr (Z : Ky) (U : State) : Prop := (vk_R RX8 330 "asked" (Z.1 0) U ∧ vk_R RX8 336 "gone" (Z.1 1) U ∧ vk_R RX8 338 "late" (Z.1 2) U ∧ vk_R RX8 340 "promised" (Z.1 3) U) ∧ vk_R RX9 278 "asked" (Z.1 0) U ∧ vk_R RX9 280 "gone" (Z.1 1) U ∧ vk_R RX9 282 "late" (Z.1 2) U ∧ vk_R RX9 284 "promised" (Z.1 3) U
theorem SKr.warm {Z : Ky} {s U : State} (hW : s.WarmedH U.vm) (h : SKr Z s) : SKr Z U := by
  obtain ⟨⟨a1, a2, a3, a4⟩, b1, b2, b3, b4⟩ := h
  exact ⟨⟨a1.warm hW, a2.warm hW, a3.warm hW, a4.warm hW⟩, b1.warm hW, b2.warm hW, b3.warm hW, b4.warm hW⟩
theorem SKr.same {Z : Ky} {u U : State} (hv : U.vm = u.vm) (h : SKr Z u) : SKr Z U := by
  obtain ⟨⟨a1, a2, a3, a4⟩, b1, b2, b3, b4⟩ := h
  exact ⟨⟨a1.same hv, a2.same hv, a3.same hv, a4.same hv⟩, b1.same hv, b2.same hv, b3.same hv, b4.same hv⟩
/-- what is known of string constants and of the statics beside them -/
def SK (Z : Ky) (A : Nat → Prop) (U : State) (H : Heap) : Prop := vk_S 4 lenS bytS Z.1 Z.2 A U H ∧ SKr Z U ∧ va_Z RJ0 "COMPACT_STRINGS" "Z" (.int 1) A U H ∧ va_Zq RJ3 "SIOOBE_FORMATTER" "Ljava/util/function/BiFunction;" A U H
theorem SK.up {Z : Ky} {A B : Nat → Prop} {s U : State} {H : Heap} {locs : List Loc} (h : SK Z A s s.heap) (hS : va_S A s.heap H locs) (hU : U.heap = H) (hW : s.WarmedH U.vm) (hAB : ∀ q, B q → A q) : SK Z B U U.heap := by
  rw [hU]
  obtain ⟨a, b, c, d⟩ := h
  exact ⟨((a.kept hS.2.1).moved hW.alike).narrow hAB, b.warm hW, ((c.kept hS.2.1).moved hW.alike).narrow hAB, ((d.kept hS.2.1).moved hW.alike).narrow hAB⟩
def MIk (l : Launch) (y : MethodName) (ws : List Cond) (rm : Room) (G : Gy) (Z : Ky) (as : List Value) (σ : St) (post : Int → St → Prop) : Prop :=
  ∀ sz : Nat, Met l y ws rm (va_Pc as (fun U => U.heap.size = sz ∧ va_P G.1 vwCl (wl G σ) U.heap ∧ va_K G.1 vwCl (tysW G) U ∧ nestP U ∧ SK Z (aA G sz) U U.heap)) (va_Qi (fun r σ' => ∃ x, iR x ∧ r = zI x ∧ post x σ') (fun σ' t => va_P G.1 vwCl (wl G σ') t.heap) (aA G sz)) 0 0 (aA G sz)
def MVk (l : Launch) (y : MethodName) (ws : List Cond) (rm : Room) (G : Gy) (Z : Ky) (as : List Value) (σ : St) (post : St → Prop) : Prop :=
  ∀ sz : Nat, Met l y ws rm (va_Pc as (fun U => U.heap.size = sz ∧ va_P G.1 vwCl (wl G σ) U.heap ∧ va_K G.1 vwCl (tysW G) U ∧ nestP U ∧ SK Z (aA G sz) U U.heap)) (va_Qv post (fun σ' t => va_P G.1 vwCl (wl G σ') t.heap) (aA G sz)) 0 0 (aA G sz)

section ENTk
variable {l : Launch} {y : MethodName} {ws ws' : List Cond} {rm : Room} {G : Gy} {as : List Value} {σ : St} {cc : ByteArray} {maxL : Nat} {own : String} {lv0 : List (Nat × Value)}
variable {Z : Ky}

theorem MIk.of {post : Int → St → Prop} {ty : FieldType} (hG : Inj G) (hy : plainName y.cls = true) (hw : ws = Cond.code y cc maxL (some ty) :: ws') (ho : y.cls = own) (ha : (lg_sl as).length ≤ maxL) (h0 : lv_args 0 as = lv0)
    (body : ∀ (p : Program) (e : Env) (s : State) (m : MethodId) (args : Array Value) (below : List Frame) (meth : Method) (c : Code) (Q : State → Prop), Cx p s m args meth c (aA G s.heap.size) s.heap maxL G cc own ws → SK Z (aA G s.heap.size) s s.heap → (∀ (x : Int) (σ' : St) (pc : Nat) (lv : List (Nat × Value)), iR x → narrow ty (.int (zI x)) = .int (zI x) → post x σ' → decode cc pc = .ok (.ireturn, 1) → wp p l e rm s m args below meth c (aA G s.heap.size) s.heap maxL Q G σ' pc lv [.int (zI x)]) → wp p l e rm s m args below meth c (aA G s.heap.size) s.heap maxL Q G σ 0 lv0 []) : MIk l y ws rm G Z as σ post := by
  intro sz
  refine Met.ofW (cc := cc) (maxL := maxL) (ret := some ty) hy hw ?_
  intro p e s m args below meth c s₁ B hml hv
  obtain ⟨rfl, hsz, hP, hK, hN, hSK⟩ := hv
  subst hsz
  have hC : Cx p s m as.toArray meth c (aA G s.heap.size) s.heap maxL G cc own ws := ⟨B.exec, B.bytes, hml, by rw [← ho]; exact findClass_of_methodNamed B.named, atoms_spec (ws := ws) B.pre, hK, wl_D hG _, fun q h => h, B.notSynchronized, hN⟩
  have hl := lv_entry as (n := maxL) ha
  rw [lg_entry_eq]
  generalize (lg_sl as ++ List.replicate (maxL - (lg_sl as).length) Slot.unset).toArray = ls at hl ⊢
  rw [h0] at hl
  refine body p e s m _ below meth c _ hC hSK ?_ s.heap [] ls hP va_S.rf hl
  intro x σ' pc lv hx hn hp hd H locs ls' hP' hS' hl'
  exact W.zret B.exec B.bytes B.returns hn (fun t ht hW => ⟨⟨zI x, σ', rfl, ⟨x, hx, rfl, hp⟩, by show va_P _ _ _ t.heap; rw [ht]; exact hP'⟩, hS'.F ht⟩) hS'.2.2 hd B.notSynchronized

theorem MVk.of {post : St → Prop} (hG : Inj G) (hy : plainName y.cls = true) (hw : ws = Cond.code y cc maxL (none) :: ws') (ho : y.cls = own) (ha : (lg_sl as).length ≤ maxL) (h0 : lv_args 0 as = lv0)
    (body : ∀ (p : Program) (e : Env) (s : State) (m : MethodId) (args : Array Value) (below : List Frame) (meth : Method) (c : Code) (Q : State → Prop), Cx p s m args meth c (aA G s.heap.size) s.heap maxL G cc own ws → SK Z (aA G s.heap.size) s s.heap → (∀ (σ' : St) (pc : Nat) (lv : List (Nat × Value)), post σ' → decode cc pc = .ok (.return_, 1) → wp p l e rm s m args below meth c (aA G s.heap.size) s.heap maxL Q G σ' pc lv []) → wp p l e rm s m args below meth c (aA G s.heap.size) s.heap maxL Q G σ 0 lv0 []) : MVk l y ws rm G Z as σ post := by
  intro sz
  refine Met.ofW (cc := cc) (maxL := maxL) (ret := none) hy hw ?_
  intro p e s m args below meth c s₁ B hml hv
  obtain ⟨rfl, hsz, hP, hK, hN, hSK⟩ := hv
  subst hsz
  have hC : Cx p s m as.toArray meth c (aA G s.heap.size) s.heap maxL G cc own ws := ⟨B.exec, B.bytes, hml, by rw [← ho]; exact findClass_of_methodNamed B.named, atoms_spec (ws := ws) B.pre, hK, wl_D hG _, fun q h => h, B.notSynchronized, hN⟩
  have hl := lv_entry as (n := maxL) ha
  rw [lg_entry_eq]
  generalize (lg_sl as ++ List.replicate (maxL - (lg_sl as).length) Slot.unset).toArray = ls at hl ⊢
  rw [h0] at hl
  refine body p e s m _ below meth c _ hC hSK ?_ s.heap [] ls hP va_S.rf hl
  intro σ' pc lv hp hd H locs ls' hP' hS' hl'
  exact W.vret B.exec B.bytes B.returns (fun t ht hW => ⟨⟨σ', rfl, hp, by show va_P _ _ _ t.heap; rw [ht]; exact hP'⟩, hS'.F ht⟩) hS'.2.2 hd B.notSynchronized

end ENTk

section CALk
variable {p : Program} {l : Launch} {e : Env} {R : Room} {s : State} {m : MethodId} {args : Array Value} {below : List Frame} {meth : Method} {c : Code} {A : Nat → Prop} {H0 : Heap} {nL : Nat} {Q : State → Prop} {G : Gy}
variable {σ : St} {pc : Nat} {lv : List (Nat × Value)} {st stk : List Value} {cc : ByteArray} {own : String} {Ts : List Cond}
variable {i index maxL N : Nat} {C host : String} {T : u_T} {y : MethodName} {ws ws' : List Cond} {rm : Room} {bytes : ByteArray} {ty : FieldType} {As : List Value}
variable {Z : Ky}

theorem fbWk {as : List Value} {sz : Nat} : FrameBlind (va_Pc as (fun U => U.heap.size = sz ∧ va_P G.1 vwCl (wl G σ) U.heap ∧ va_K G.1 vwCl (tysW G) U ∧ nestP U ∧ SK Z (aA G sz) U U.heap)) := fun a U g mk q => by
  obtain ⟨q0, q1, qP, qK, qN, qS, qr, qz, qq⟩ := q
  exact ⟨q0, q1, qP, va_K.moved (u := U) (U := U.calling g mk a) (Vm.Alike.refl U.vm) qK, nestP.same (u := U) (U := U.calling g mk a) rfl qN, vk_S.moved (u := U) (U := U.calling g mk a) (Vm.Alike.refl U.vm) qS, SKr.same (u := U) (U := U.calling g mk a) rfl qr, va_Z.moved (u := U) (U := U.calling g mk a) (Vm.Alike.refl U.vm) qz, va_Zq.moved (u := U) (U := U.calling g mk a) (Vm.Alike.refl U.vm) qq⟩

theorem wp_callVik {post : Int → St → Prop} (hC : Cx p s m args meth c A s.heap nL G cc own Ts) (hK : SK Z A s s.heap) (hM : MIk l y ws rm G Z (.ref (G.2.2 i) :: As) σ post) (hT : GoodIn Ts (wsV own index C y ws)) (hw : ws = Cond.code y bytes maxL (some ty) :: ws') (hrm : rm.cells = 0 ∧ rm.slots = 0) (hR : rm.frames + 1 ≤ R.frames ∧ 8 + (maxL + 11) + rm.locals ≤ R.locals) (hy : y.cls = C ∧ y.cls ≠ "java/lang/invoke/MethodHandle" ∧ y.cls ≠ "java/lang/invoke/VarHandle" ∧ (parseMethodDescriptor y.desc).map (fun d => d.parameters.length) = some As.length) (ho : kd i = 0) (hi : i < NID) (hcl : vwCl[kc i]? = some (C, T, N)) (hstk : stk = As.reverse ++ .ref (G.2.2 i) :: st) (hcat : (st.map fun v => v.category).sum ≤ 8) (hd : decode cc pc = .ok (.invokevirtual index, 3)) (kk : ∀ (x : Int) (σ2 : St), iR x → post x σ2 → wp p l e R s m args below meth c A s.heap nL Q G σ2 (pc + 3) lv (.int (zI x) :: st)) : wp p l e R s m args below meth c A s.heap nL Q G σ pc lv stk := fun H locs ls hP hS hl => by
  refine va_calli (va_runV (As := As) (rest := st) ⟨hC.1, hC.2.1, hC.2.2.1, hC.2.2.2.1, hC.2.2.2.2.1⟩ (hM H.size) (cwV As.length hC.2.2.2.2.1 hT hw hrm.1 hrm.2 hy hR) ⟨fbWk, va_recv hC.2.2.2.2.2.1 hP (q := (C, T, N)) hcl (q0 := i) (by rw [wl_get hi, ct_0 ho]), fun U hU hW => ⟨rfl, by rw [hU], by rw [hU]; exact hP, va_K.moved hW.alike hC.2.2.2.2.2.1, nestP.warm hW hC.2.2.2.2.2.2.2.2.2, SK.up hK hS hU hW (aA_up hC.2.2.2.2.2.2.2.1 hS)⟩⟩ rfl rfl hl.1 hstk (lv_room hcat) hd ⟨Nat.zero_le _, Nat.zero_le _⟩) hS (fun q _ h => aA_up hC.2.2.2.2.2.2.2.1 hS q h) (aA_up hC.2.2.2.2.2.2.2.1 hS) (fun r u t H1 locs1 ht hvm hw9 hB hz hk hS1 => by
    obtain ⟨x, hx, rfl, hp⟩ := hw9
    rw [ht] at hB
    exact kk x u hx hp H1 locs1 ls hB hS1 hl)

theorem wp_callTik {post : Int → St → Prop} (hC : Cx p s m args meth c A s.heap nL G cc own Ts) (hK : SK Z A s s.heap) (hM : MIk l y ws rm G Z (.ref (Z.1 i) :: As) σ post) (hT : GoodIn Ts (wsV own index RJ0 y ws)) (hw : ws = Cond.code y bytes maxL (some ty) :: ws') (hrm : rm.cells = 0 ∧ rm.slots = 0) (hR : rm.frames + 1 ≤ R.frames ∧ 8 + (maxL + 11) + rm.locals ≤ R.locals) (hy : y.cls = RJ0 ∧ y.cls ≠ "java/lang/invoke/MethodHandle" ∧ y.cls ≠ "java/lang/invoke/VarHandle" ∧ (parseMethodDescriptor y.desc).map (fun d => d.parameters.length) = some As.length) (hi : i < 4) (hstk : stk = As.reverse ++ .ref (Z.1 i) :: st) (hcat : (st.map fun v => v.category).sum ≤ 8) (hd : decode cc pc = .ok (.invokevirtual index, 3)) (kk : ∀ (x : Int) (σ2 : St), iR x → post x σ2 → wp p l e R s m args below meth c A s.heap nL Q G σ2 (pc + 3) lv (.int (zI x) :: st)) : wp p l e R s m args below meth c A s.heap nL Q G σ pc lv stk := fun H locs ls hP hS hl => by
  refine va_calli (va_runV (As := As) (rest := st) ⟨hC.1, hC.2.1, hC.2.2.1, hC.2.2.2.1, hC.2.2.2.2.1⟩ (hM H.size) (cwV As.length hC.2.2.2.2.1 hT hw hrm.1 hrm.2 hy hR) ⟨fbWk, vk_recv hK.1 hi hS, fun U hU hW => ⟨rfl, by rw [hU], by rw [hU]; exact hP, va_K.moved hW.alike hC.2.2.2.2.2.1, nestP.warm hW hC.2.2.2.2.2.2.2.2.2, SK.up hK hS hU hW (aA_up hC.2.2.2.2.2.2.2.1 hS)⟩⟩ rfl rfl hl.1 hstk (lv_room hcat) hd ⟨Nat.zero_le _, Nat.zero_le _⟩) hS (fun q _ h => aA_up hC.2.2.2.2.2.2.2.1 hS q h) (aA_up hC.2.2.2.2.2.2.2.1 hS) (fun r u t H1 locs1 ht hvm hw9 hB hz hk hS1 => by
    obtain ⟨x, hx, rfl, hp⟩ := hw9
    rw [ht] at hB
    exact kk x u hx hp H1 locs1 ls hB hS1 hl)

theorem wp_callVvk {post : St → Prop} (hC : Cx p s m args meth c A s.heap nL G cc own Ts) (hK : SK Z A s s.heap) (hM : MVk l y ws rm G Z (.ref (G.2.2 i) :: As) σ post) (hT : GoodIn Ts (wsV own index C y ws)) (hw : ws = Cond.code y bytes maxL (none) :: ws') (hrm : rm.cells = 0 ∧ rm.slots = 0) (hR : rm.frames + 1 ≤ R.frames ∧ 8 + (maxL + 11) + rm.locals ≤ R.locals) (hy : y.cls = C ∧ y.cls ≠ "java/lang/invoke/MethodHandle" ∧ y.cls ≠ "java/lang/invoke/VarHandle" ∧ (parseMethodDescriptor y.desc).map (fun d => d.parameters.length) = some As.length) (ho : kd i = 0) (hi : i < NID) (hcl : vwCl[kc i]? = some (C, T, N)) (hstk : stk = As.reverse ++ .ref (G.2.2 i) :: st) (hcat : (st.map fun v => v.category).sum ≤ 8) (hd : decode cc pc = .ok (.invokevirtual index, 3)) (kk : ∀ (σ2 : St), post σ2 → wp p l e R s m args below meth c A s.heap nL Q G σ2 (pc + 3) lv st) : wp p l e R s m args below meth c A s.heap nL Q G σ pc lv stk := fun H locs ls hP hS hl => by
  refine va_callv (va_runV (As := As) (rest := st) ⟨hC.1, hC.2.1, hC.2.2.1, hC.2.2.2.1, hC.2.2.2.2.1⟩ (hM H.size) (cwV As.length hC.2.2.2.2.1 hT hw hrm.1 hrm.2 hy hR) ⟨fbWk, va_recv hC.2.2.2.2.2.1 hP (q := (C, T, N)) hcl (q0 := i) (by rw [wl_get hi, ct_0 ho]), fun U hU hW => ⟨rfl, by rw [hU], by rw [hU]; exact hP, va_K.moved hW.alike hC.2.2.2.2.2.1, nestP.warm hW hC.2.2.2.2.2.2.2.2.2, SK.up hK hS hU hW (aA_up hC.2.2.2.2.2.2.2.1 hS)⟩⟩ rfl rfl hl.1 hstk (lv_room hcat) hd ⟨Nat.zero_le _, Nat.zero_le _⟩) hS (fun q _ h => aA_up hC.2.2.2.2.2.2.2.1 hS q h) (aA_up hC.2.2.2.2.2.2.2.1 hS) (fun u t H1 locs1 ht hvm hp hB hz hk hS1 => by
    rw [ht] at hB
    exact kk u hp H1 locs1 ls hB hS1 hl)

theorem wp_callTvk {post : St → Prop} (hC : Cx p s m args meth c A s.heap nL G cc own Ts) (hK : SK Z A s s.heap) (hM : MVk l y ws rm G Z (.ref (Z.1 i) :: As) σ post) (hT : GoodIn Ts (wsV own index RJ0 y ws)) (hw : ws = Cond.code y bytes maxL (none) :: ws') (hrm : rm.cells = 0 ∧ rm.slots = 0) (hR : rm.frames + 1 ≤ R.frames ∧ 8 + (maxL + 11) + rm.locals ≤ R.locals) (hy : y.cls = RJ0 ∧ y.cls ≠ "java/lang/invoke/MethodHandle" ∧ y.cls ≠ "java/lang/invoke/VarHandle" ∧ (parseMethodDescriptor y.desc).map (fun d => d.parameters.length) = some As.length) (hi : i < 4) (hstk : stk = As.reverse ++ .ref (Z.1 i) :: st) (hcat : (st.map fun v => v.category).sum ≤ 8) (hd : decode cc pc = .ok (.invokevirtual index, 3)) (kk : ∀ (σ2 : St), post σ2 → wp p l e R s m args below meth c A s.heap nL Q G σ2 (pc + 3) lv st) : wp p l e R s m args below meth c A s.heap nL Q G σ pc lv stk := fun H locs ls hP hS hl => by
  refine va_callv (va_runV (As := As) (rest := st) ⟨hC.1, hC.2.1, hC.2.2.1, hC.2.2.2.1, hC.2.2.2.2.1⟩ (hM H.size) (cwV As.length hC.2.2.2.2.1 hT hw hrm.1 hrm.2 hy hR) ⟨fbWk, vk_recv hK.1 hi hS, fun U hU hW => ⟨rfl, by rw [hU], by rw [hU]; exact hP, va_K.moved hW.alike hC.2.2.2.2.2.1, nestP.warm hW hC.2.2.2.2.2.2.2.2.2, SK.up hK hS hU hW (aA_up hC.2.2.2.2.2.2.2.1 hS)⟩⟩ rfl rfl hl.1 hstk (lv_room hcat) hd ⟨Nat.zero_le _, Nat.zero_le _⟩) hS (fun q _ h => aA_up hC.2.2.2.2.2.2.2.1 hS q h) (aA_up hC.2.2.2.2.2.2.2.1 hS) (fun u t H1 locs1 ht hvm hp hB hz hk hS1 => by
    rw [ht] at hB
    exact kk u hp H1 locs1 ls hB hS1 hl)

theorem wp_callSik {post : Int → St → Prop} (hC : Cx p s m args meth c A s.heap nL G cc own Ts) (hK : SK Z A s s.heap) (hM : MIk l y ws rm G Z As σ post) (hT : GoodIn Ts (va_wsS own index y ws)) (hw : ws = Cond.code y bytes maxL (some ty) :: ws') (hrm : rm.cells = 0 ∧ rm.slots = 0) (hR : rm.frames + 1 ≤ R.frames ∧ 8 + (maxL + 11) + rm.locals ≤ R.locals) (hy : y.cls ≠ "java/lang/invoke/MethodHandle" ∧ y.cls ≠ "java/lang/invoke/VarHandle" ∧ (parseMethodDescriptor y.desc).map (fun d => d.parameters.length) = some As.length) (hstk : stk = As.reverse ++ st) (hcat : (st.map fun v => v.category).sum ≤ 8) (hd : decode cc pc = .ok (.invokestatic index, 3)) (kk : ∀ (x : Int) (σ2 : St), iR x → post x σ2 → wp p l e R s m args below meth c A s.heap nL Q G σ2 (pc + 3) lv (.int (zI x) :: st)) : wp p l e R s m args below meth c A s.heap nL Q G σ pc lv stk := fun H locs ls hP hS hl => by
  refine va_calli (va_runS (As := As) (rest := st) ⟨hC.1, hC.2.1, hC.2.2.1, hC.2.2.2.1, hC.2.2.2.2.1⟩ (hM H.size) (va_cwS As.length hC.2.2.2.2.1 hT hw hrm.1 hrm.2 hy hR) ⟨fbWk, fun U hU hW => ⟨rfl, by rw [hU], by rw [hU]; exact hP, va_K.moved hW.alike hC.2.2.2.2.2.1, nestP.warm hW hC.2.2.2.2.2.2.2.2.2, SK.up hK hS hU hW (aA_up hC.2.2.2.2.2.2.2.1 hS)⟩⟩ rfl rfl hl.1 hstk (lv_room hcat) hd ⟨Nat.zero_le _, Nat.zero_le _⟩) hS (fun q _ h => aA_up hC.2.2.2.2.2.2.2.1 hS q h) (aA_up hC.2.2.2.2.2.2.2.1 hS) (fun r u t H1 locs1 ht hvm hw9 hB hz hk hS1 => by
    obtain ⟨x, hx, rfl, hp⟩ := hw9
    rw [ht] at hB
    exact kk x u hx hp H1 locs1 ls hB hS1 hl)

theorem wp_callSvk {post : St → Prop} (hC : Cx p s m args meth c A s.heap nL G cc own Ts) (hK : SK Z A s s.heap) (hM : MVk l y ws rm G Z As σ post) (hT : GoodIn Ts (va_wsS own index y ws)) (hw : ws = Cond.code y bytes maxL (none) :: ws') (hrm : rm.cells = 0 ∧ rm.slots = 0) (hR : rm.frames + 1 ≤ R.frames ∧ 8 + (maxL + 11) + rm.locals ≤ R.locals) (hy : y.cls ≠ "java/lang/invoke/MethodHandle" ∧ y.cls ≠ "java/lang/invoke/VarHandle" ∧ (parseMethodDescriptor y.desc).map (fun d => d.parameters.length) = some As.length) (hstk : stk = As.reverse ++ st) (hcat : (st.map fun v => v.category).sum ≤ 8) (hd : decode cc pc = .ok (.invokestatic index, 3)) (kk : ∀ (σ2 : St), post σ2 → wp p l e R s m args below meth c A s.heap nL Q G σ2 (pc + 3) lv st) : wp p l e R s m args below meth c A s.heap nL Q G σ pc lv stk := fun H locs ls hP hS hl => by
  refine va_callv (va_runS (As := As) (rest := st) ⟨hC.1, hC.2.1, hC.2.2.1, hC.2.2.2.1, hC.2.2.2.2.1⟩ (hM H.size) (va_cwS As.length hC.2.2.2.2.1 hT hw hrm.1 hrm.2 hy hR) ⟨fbWk, fun U hU hW => ⟨rfl, by rw [hU], by rw [hU]; exact hP, va_K.moved hW.alike hC.2.2.2.2.2.1, nestP.warm hW hC.2.2.2.2.2.2.2.2.2, SK.up hK hS hU hW (aA_up hC.2.2.2.2.2.2.2.1 hS)⟩⟩ rfl rfl hl.1 hstk (lv_room hcat) hd ⟨Nat.zero_le _, Nat.zero_le _⟩) hS (fun q _ h => aA_up hC.2.2.2.2.2.2.2.1 hS q h) (aA_up hC.2.2.2.2.2.2.2.1 hS) (fun u t H1 locs1 ht hvm hp hB hz hk hS1 => by
    rw [ht] at hB
    exact kk u hp H1 locs1 ls hB hS1 hl)

/-- a string constant, by the wide form -/
theorem wp_ldcS (hC : Cx p s m args meth c A s.heap nL G cc own Ts) {q : Nat} {tx : String} (hR : vk_R own index tx q s) (hd : decode cc pc = .ok (.ldc_w index, 3)) (kk : wp p l e R s m args below meth c A s.heap nL Q G σ (pc + 3) lv (.ref q :: st)) : wp p l e R s m args below meth c A s.heap nL Q G σ pc lv st := fun H locs ls hP hS hl => by
  have kk' := kk H locs ls hP hS hl
  intro T hT X
  obtain ⟨t, a1, b1⟩ := kk' T hT X
  obtain ⟨k, cf, i, a', hk, hcf, hcp, -, hr, hev'⟩ := Cond.stringRef_spec hC.2.2.2.1 hR.1
  cases hR.2.symm.trans hev'
  obtain ⟨k', hk', he⟩ := X.warmed.alike.2.2 _ _ hk
  have hr' : k'.resolved[index]? = some (some (.string q)) := by
    rcases X.warmed.entry hk hk' index with h | ⟨h, -⟩
    · rw [h]; exact hr
    · rw [hr] at h; cases h
  refine ⟨t, ?_, b1⟩
  have hdg : decode c.code (F0 m pc ls st).pc = .ok (.ldc_w index, 3) := by rw [hC.2.1]; exact hd
  have hexec := hC.1
  jvm_step X.here [hexec, hdg, ldc_w.wp_string (e := e) (s := T) (f := F0 m pc ls st) X.here.top hk' (by rw [he]; exact hcf) hcp hr']
  exact a1
/-- a string's field -/
theorem wp_getS (hC : Cx p s m args meth c A s.heap nL G cc own Ts) {o fn fd : String} {q : Nat} {v : Value} (hE : va_OF o fn fd v q A s s.heap) (hlink : Cond.fieldLink own index o fn fd ∈ Ts) (hd : decode cc pc = .ok (.getfield index, 3)) (kk : wp p l e R s m args below meth c A s.heap nL Q G σ (pc + 3) lv (v :: st)) : wp p l e R s m args below meth c A s.heap nL Q G σ pc lv (.ref q :: st) := fun H locs ls hP hS hl => by
  exact vk_getf hC.1 hC.2.1 hE hS hC.2.2.2.1 (hC.2.2.2.2.1 _ hlink) (fun x h => h) hd (kk H locs ls hP hS hl)
theorem wp_getst (hC : Cx p s m args meth c A s.heap nL G cc own Ts) {o fn fd : String} {v : Value} (hZ : va_Z o fn fd v A s s.heap) (hlink : Cond.fieldLink own index o fn fd ∈ Ts) (hd : decode cc pc = .ok (.getstatic index, 3)) (kk : wp p l e R s m args below meth c A s.heap nL Q G σ (pc + 3) lv (v :: st)) : wp p l e R s m args below meth c A s.heap nL Q G σ pc lv st := fun H locs ls hP hS hl => by
  exact va_gets hC.1 hC.2.1 hZ hS hC.2.2.2.1 (hC.2.2.2.2.1 _ hlink) (fun x h => h) hd (kk H locs ls hP hS hl)
theorem wp_tlen (hC : Cx p s m args meth c A s.heap nL G cc own Ts) {t n : Nat} {ty : FieldType} {f : Nat → Value} (hT : va_T ty t n f A s s.heap) (hd : decode cc pc = .ok (.arraylength, 1)) (kk : wp p l e R s m args below meth c A s.heap nL Q G σ (pc + 1) lv (.int (zI n) :: st)) : wp p l e R s m args below meth c A s.heap nL Q G σ pc lv (.ref t :: st) := fun H locs ls hP hS hl => by
  exact va_tlen hC.1 hC.2.1 hT hS (v := zI n) rfl hd (kk H locs ls hP hS hl)
theorem wp_tb (hC : Cx p s m args meth c A s.heap nL G cc own Ts) {t n : Nat} {f : Nat → Value} {x : Int} {v : Value} (hT : va_T .byte t n f A s s.heap) (hx : 0 ≤ x ∧ x < n) (hn : n ≤ 100) (hv : f x.toNat = v) (hd : decode cc pc = .ok (.baload, 1)) (kk : wp p l e R s m args below meth c A s.heap nL Q G σ (pc + 1) lv (v :: st)) : wp p l e R s m args below meth c A s.heap nL Q G σ pc lv (.int (zI x) :: .ref t :: st) := fun H locs ls hP hS hl => by
  have hr : iR x := ⟨by omega, by omega⟩
  exact va_tb hC.1 hC.2.1 hT hS (zI_vp hr hx.1 hx.2) (by rw [zI_clamp hr]; exact hv) hd (kk H locs ls hP hS hl)

end CALk
