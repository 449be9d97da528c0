/-! calls from the judgement with room -/
theorem wlx_P {G : Gy} {σ : St} {X : va_W} {H : Heap} (h : va_P G.1 vwCl (wl G σ ++ X) H) : va_P G.1 vwCl (wl G σ) H := fun k q hk => h k q (by
  rw [List.getElem?_append_left (List.getElem?_eq_some_iff.mp hk).1]
  exact hk)
theorem wlx_X {G : Gy} {σ : St} {X : va_W} {k : Nat} {q : Nat × va_E} (h : X[k]? = some q) : (wl G σ ++ X)[NID + k]? = some q := by
  rw [List.getElem?_append_right (by rw [wl_len]; omega), wl_len, show NID + k - NID = k by omega]
  exact h
/-- a call that knows the numbered cells only leaves the rest as it was -/
theorem wlx_call {G : Gy} {σ σ' : St} {X : va_W} {A : Nat → Prop} {H H1 : Heap} (hP : va_P G.1 vwCl (wl G σ ++ X) H) (hD : va_D A (wl G σ ++ X)) (hB : va_P G.1 vwCl (wl G σ') H1) (hk : ∀ q : Nat, q < H.size → ¬ aA G H.size q → H1[q]? = H[q]?) : va_P G.1 vwCl (wl G σ' ++ X) H1 ∧ va_D A (wl G σ' ++ X) := by
  have hX : va_P G.1 vwCl X H := fun k q h => hP _ q (wlx_X h)
  refine ⟨hB.app (hX.kept (fun k q h => ?_)), ?_⟩
  · refine hk q.1 (hX k q h).lt (fun z => ?_)
    rcases z with ⟨i, hi, e⟩ | z
    · have := hD.1 (NID + k) i q (G.2.2 i, ct G σ i) (wlx_X h) (wlx_get hi) e
      omega
    · have := (hX k q h).lt
      omega
  · have key : ∀ (k : Nat) (q : Nat × va_E), (wl G σ' ++ X)[k]? = some q → ∃ q0, (wl G σ ++ X)[k]? = some q0 ∧ q0.1 = q.1 := by
      intro k q h
      by_cases hl : k < NID
      · rw [wlx_get hl] at h
        cases h
        exact ⟨_, wlx_get hl, rfl⟩
      · rw [List.getElem?_append_right (by rw [wl_len]; omega), wl_len] at h
        have h2 := wlx_X (G := G) (σ := σ) h
        rw [show NID + (k - NID) = k by omega] at h2
        exact ⟨q, h2, rfl⟩
    refine ⟨fun i j x y hx hy hxy => ?_, fun k q h => ?_⟩
    · obtain ⟨x0, a1, a2⟩ := key i x hx
      obtain ⟨y0, b1, b2⟩ := key j y hy
      exact hD.1 i j x0 y0 a1 b1 (by rw [a2, b2, hxy])
    · obtain ⟨q0, a1, a2⟩ := key k q h
      rw [← a2]
      exact hD.2 k q0 a1
section CALx
variable {p : Program} {l : Launch} {e : Env} {R : Room} {s : State} {m : MethodId} {args : Array Value} {below : List Frame} {meth : Method} {c : Code} {A : Nat → Prop} {H0 : Heap} {nL : Nat} {Q : State → Prop} {G : Gy}
variable {σ : St} {pc : Nat} {lv : List (Nat × Value)} {st stk : List Value} {cc : ByteArray} {own : String} {Ts : List Cond}
variable {i index maxL N : Nat} {C host : String} {T : u_T} {y : MethodName} {ws ws' : List Cond} {rm : Room} {bytes : ByteArray} {ty : FieldType} {As : List Value}
variable {X : va_W} {cells slots : Nat} {Z : Ky}
theorem wpx_callVi {post : Int → St → Prop} (hC : Cx p s m args meth c A H0 nL G cc own Ts) (hM : MI l y ws rm G (.ref (G.2.2 i) :: As) σ post) (hT : GoodIn Ts (wsV own index C y ws)) (hw : ws = Cond.code y bytes maxL (some ty) :: ws') (hrm : rm.cells = 0 ∧ rm.slots = 0) (hR : rm.frames + 1 ≤ R.frames ∧ 8 + (maxL + 11) + rm.locals ≤ R.locals) (hy : y.cls = C ∧ y.cls ≠ "java/lang/invoke/MethodHandle" ∧ y.cls ≠ "java/lang/invoke/VarHandle" ∧ (parseMethodDescriptor y.desc).map (fun d => d.parameters.length) = some As.length) (ho : kd i = 0) (hi : i < NID) (hcl : vwCl[kc i]? = some (C, T, N)) (hstk : stk = As.reverse ++ .ref (G.2.2 i) :: st) (hcat : (st.map fun v => v.category).sum ≤ 8) (hroom : cells + 0 ≤ R.cells ∧ slots + 0 ≤ R.slots) (hd : decode cc pc = .ok (.invokevirtual index, 3)) (kk : ∀ (x : Int) (σ2 : St), iR x → post x σ2 → wpx p l e R s m args below meth c A H0 nL Q G X cells slots σ2 (pc + 3) lv (.int (zI x) :: st)) : wpx p l e R s m args below meth c A H0 nL Q G X cells slots σ pc lv stk := fun H locs ls hP hD hS hl => by
  refine va_calli (va_runV (As := As) (rest := st) ⟨hC.1, hC.2.1, hC.2.2.1, hC.2.2.2.1, hC.2.2.2.2.1⟩ (hM H.size) (cwV As.length hC.2.2.2.2.1 hT hw hrm.1 hrm.2 hy hR) ⟨fbW, va_recv hC.2.2.2.2.2.1 (wlx_P hP) (q := (C, T, N)) hcl (q0 := i) (by rw [wl_get hi, ct_0 ho]), fun U hU hW => ⟨rfl, by rw [hU], by rw [hU]; exact wlx_P hP, va_K.moved hW.alike hC.2.2.2.2.2.1, nestP.warm hW hC.2.2.2.2.2.2.2.2.2⟩⟩ rfl rfl hl.1 hstk (lv_room hcat) hd hroom) hS (fun q _ h => aA_up hC.2.2.2.2.2.2.2.1 hS q h) (aA_up hC.2.2.2.2.2.2.2.1 hS) (fun r u t H1 locs1 ht hvm hw9 hB hz hk hS1 => by
    obtain ⟨x, hx, rfl, hp⟩ := hw9
    rw [ht] at hB
    obtain ⟨hB2, hD2⟩ := wlx_call hP hD hB hk
    exact kk x u hx hp H1 locs1 ls hB2 hD2 hS1 hl)
theorem wpx_callSi {post : Int → St → Prop} (hC : Cx p s m args meth c A H0 nL G cc own Ts) (hM : MI l y ws rm G As σ post) (hT : GoodIn Ts (va_wsS own index y ws)) (hw : ws = Cond.code y bytes maxL (some ty) :: ws') (hrm : rm.cells = 0 ∧ rm.slots = 0) (hR : rm.frames + 1 ≤ R.frames ∧ 8 + (maxL + 11) + rm.locals ≤ R.locals) (hy : y.cls ≠ "java/lang/invoke/MethodHandle" ∧ y.cls ≠ "java/lang/invoke/VarHandle" ∧ (parseMethodDescriptor y.desc).map (fun d => d.parameters.length) = some As.length) (hstk : stk = As.reverse ++ st) (hcat : (st.map fun v => v.category).sum ≤ 8) (hroom : cells + 0 ≤ R.cells ∧ slots + 0 ≤ R.slots) (hd : decode cc pc = .ok (.invokestatic index, 3)) (kk : ∀ (x : Int) (σ2 : St), iR x → post x σ2 → wpx p l e R s m args below meth c A H0 nL Q G X cells slots σ2 (pc + 3) lv (.int (zI x) :: st)) : wpx p l e R s m args below meth c A H0 nL Q G X cells slots σ pc lv stk := fun H locs ls hP hD hS hl => by
  refine va_calli (va_runS (As := As) (rest := st) ⟨hC.1, hC.2.1, hC.2.2.1, hC.2.2.2.1, hC.2.2.2.2.1⟩ (hM H.size) (va_cwS As.length hC.2.2.2.2.1 hT hw hrm.1 hrm.2 hy hR) ⟨fbW, fun U hU hW => ⟨rfl, by rw [hU], by rw [hU]; exact wlx_P hP, va_K.moved hW.alike hC.2.2.2.2.2.1, nestP.warm hW hC.2.2.2.2.2.2.2.2.2⟩⟩ rfl rfl hl.1 hstk (lv_room hcat) hd hroom) hS (fun q _ h => aA_up hC.2.2.2.2.2.2.2.1 hS q h) (aA_up hC.2.2.2.2.2.2.2.1 hS) (fun r u t H1 locs1 ht hvm hw9 hB hz hk hS1 => by
    obtain ⟨x, hx, rfl, hp⟩ := hw9
    rw [ht] at hB
    obtain ⟨hB2, hD2⟩ := wlx_call hP hD hB hk
    exact kk x u hx hp H1 locs1 ls hB2 hD2 hS1 hl)
theorem wpx_callVl {post : Int → St → Prop} (hC : Cx p s m args meth c A H0 nL G cc own Ts) (hM : ML l y ws rm G (.ref (G.2.2 i) :: As) σ post) (hT : GoodIn Ts (wsV own index C y ws)) (hw : ws = Cond.code y bytes maxL (some .long) :: ws') (hrm : rm.cells = 0 ∧ rm.slots = 0) (hR : rm.frames + 1 ≤ R.frames ∧ 8 + (maxL + 11) + rm.locals ≤ R.locals) (hy : y.cls = C ∧ y.cls ≠ "java/lang/invoke/MethodHandle" ∧ y.cls ≠ "java/lang/invoke/VarHandle" ∧ (parseMethodDescriptor y.desc).map (fun d => d.parameters.length) = some As.length) (ho : kd i = 0) (hi : i < NID) (hcl : vwCl[kc i]? = some (C, T, N)) (hstk : stk = As.reverse ++ .ref (G.2.2 i) :: st) (hcat : (st.map fun v => v.category).sum ≤ 8) (hroom : cells + 0 ≤ R.cells ∧ slots + 0 ≤ R.slots) (hd : decode cc pc = .ok (.invokevirtual index, 3)) (kk : ∀ (x : Int) (σ2 : St), lR x → post x σ2 → wpx p l e R s m args below meth c A H0 nL Q G X cells slots σ2 (pc + 3) lv (.long (zL x) :: st)) : wpx p l e R s m args below meth c A H0 nL Q G X cells slots σ pc lv stk := fun H locs ls hP hD hS hl => by
  refine va_calll (va_runV (As := As) (rest := st) ⟨hC.1, hC.2.1, hC.2.2.1, hC.2.2.2.1, hC.2.2.2.2.1⟩ (hM H.size) (cwV As.length hC.2.2.2.2.1 hT hw hrm.1 hrm.2 hy hR) ⟨fbW, va_recv hC.2.2.2.2.2.1 (wlx_P hP) (q := (C, T, N)) hcl (q0 := i) (by rw [wl_get hi, ct_0 ho]), fun U hU hW => ⟨rfl, by rw [hU], by rw [hU]; exact wlx_P hP, va_K.moved hW.alike hC.2.2.2.2.2.1, nestP.warm hW hC.2.2.2.2.2.2.2.2.2⟩⟩ rfl rfl hl.1 hstk (lv_room hcat) hd hroom) hS (fun q _ h => aA_up hC.2.2.2.2.2.2.2.1 hS q h) (aA_up hC.2.2.2.2.2.2.2.1 hS) (fun r u t H1 locs1 ht hvm hw9 hB hz hk hS1 => by
    obtain ⟨x, hx, rfl, hp⟩ := hw9
    rw [ht] at hB
    obtain ⟨hB2, hD2⟩ := wlx_call hP hD hB hk
    exact kk x u hx hp H1 locs1 ls hB2 hD2 hS1 hl)
theorem wpx_callVv {post : St → Prop} (hC : Cx p s m args meth c A H0 nL G cc own Ts) (hM : MV l y ws rm G (.ref (G.2.2 i) :: As) σ post) (hT : GoodIn Ts (wsV own index C y ws)) (hw : ws = Cond.code y bytes maxL (none) :: ws') (hrm : rm.cells = 0 ∧ rm.slots = 0) (hR : rm.frames + 1 ≤ R.frames ∧ 8 + (maxL + 11) + rm.locals ≤ R.locals) (hy : y.cls = C ∧ y.cls ≠ "java/lang/invoke/MethodHandle" ∧ y.cls ≠ "java/lang/invoke/VarHandle" ∧ (parseMethodDescriptor y.desc).map (fun d => d.parameters.length) = some As.length) (ho : kd i = 0) (hi : i < NID) (hcl : vwCl[kc i]? = some (C, T, N)) (hstk : stk = As.reverse ++ .ref (G.2.2 i) :: st) (hcat : (st.map fun v => v.category).sum ≤ 8) (hroom : cells + 0 ≤ R.cells ∧ slots + 0 ≤ R.slots) (hd : decode cc pc = .ok (.invokevirtual index, 3)) (kk : ∀ (σ2 : St), post σ2 → wpx p l e R s m args below meth c A H0 nL Q G X cells slots σ2 (pc + 3) lv st) : wpx p l e R s m args below meth c A H0 nL Q G X cells slots σ pc lv stk := fun H locs ls hP hD hS hl => by
  refine va_callv (va_runV (As := As) (rest := st) ⟨hC.1, hC.2.1, hC.2.2.1, hC.2.2.2.1, hC.2.2.2.2.1⟩ (hM H.size) (cwV As.length hC.2.2.2.2.1 hT hw hrm.1 hrm.2 hy hR) ⟨fbW, va_recv hC.2.2.2.2.2.1 (wlx_P hP) (q := (C, T, N)) hcl (q0 := i) (by rw [wl_get hi, ct_0 ho]), fun U hU hW => ⟨rfl, by rw [hU], by rw [hU]; exact wlx_P hP, va_K.moved hW.alike hC.2.2.2.2.2.1, nestP.warm hW hC.2.2.2.2.2.2.2.2.2⟩⟩ rfl rfl hl.1 hstk (lv_room hcat) hd hroom) hS (fun q _ h => aA_up hC.2.2.2.2.2.2.2.1 hS q h) (aA_up hC.2.2.2.2.2.2.2.1 hS) (fun u t H1 locs1 ht hvm hp hB hz hk hS1 => by
    rw [ht] at hB
    obtain ⟨hB2, hD2⟩ := wlx_call hP hD hB hk
    exact kk u hp H1 locs1 ls hB2 hD2 hS1 hl)
theorem wpx_callSv {post : St → Prop} (hC : Cx p s m args meth c A H0 nL G cc own Ts) (hM : MV l y ws rm G As σ post) (hT : GoodIn Ts (va_wsS own index y ws)) (hw : ws = Cond.code y bytes maxL (none) :: ws') (hrm : rm.cells = 0 ∧ rm.slots = 0) (hR : rm.frames + 1 ≤ R.frames ∧ 8 + (maxL + 11) + rm.locals ≤ R.locals) (hy : y.cls ≠ "java/lang/invoke/MethodHandle" ∧ y.cls ≠ "java/lang/invoke/VarHandle" ∧ (parseMethodDescriptor y.desc).map (fun d => d.parameters.length) = some As.length) (hstk : stk = As.reverse ++ st) (hcat : (st.map fun v => v.category).sum ≤ 8) (hroom : cells + 0 ≤ R.cells ∧ slots + 0 ≤ R.slots) (hd : decode cc pc = .ok (.invokestatic index, 3)) (kk : ∀ (σ2 : St), post σ2 → wpx p l e R s m args below meth c A H0 nL Q G X cells slots σ2 (pc + 3) lv st) : wpx p l e R s m args below meth c A H0 nL Q G X cells slots σ pc lv stk := fun H locs ls hP hD hS hl => by
  refine va_callv (va_runS (As := As) (rest := st) ⟨hC.1, hC.2.1, hC.2.2.1, hC.2.2.2.1, hC.2.2.2.2.1⟩ (hM H.size) (va_cwS As.length hC.2.2.2.2.1 hT hw hrm.1 hrm.2 hy hR) ⟨fbW, fun U hU hW => ⟨rfl, by rw [hU], by rw [hU]; exact wlx_P hP, va_K.moved hW.alike hC.2.2.2.2.2.1, nestP.warm hW hC.2.2.2.2.2.2.2.2.2⟩⟩ rfl rfl hl.1 hstk (lv_room hcat) hd hroom) hS (fun q _ h => aA_up hC.2.2.2.2.2.2.2.1 hS q h) (aA_up hC.2.2.2.2.2.2.2.1 hS) (fun u t H1 locs1 ht hvm hp hB hz hk hS1 => by
    rw [ht] at hB
    obtain ⟨hB2, hD2⟩ := wlx_call hP hD hB hk
    exact kk u hp H1 locs1 ls hB2 hD2 hS1 hl)
theorem wpx_callVik {post : Int → St → Prop} (hC : Cx p s m args meth c A s.heap nL G cc own Ts) (hK : SK Z A s s.heap) (hM : MIk l y ws rm G Z (.ref (G.2.2 i) :: As) σ post) (hT : GoodIn Ts (wsV own index C y ws)) (hw : ws = Cond.code y bytes maxL (some ty) :: ws') (hrm : rm.cells = 0 ∧ rm.slots = 0) (hR : rm.frames + 1 ≤ R.frames ∧ 8 + (maxL + 11) + rm.locals ≤ R.locals) (hy : y.cls = C ∧ y.cls ≠ "java/lang/invoke/MethodHandle" ∧ y.cls ≠ "java/lang/invoke/VarHandle" ∧ (parseMethodDescriptor y.desc).map (fun d => d.parameters.length) = some As.length) (ho : kd i = 0) (hi : i < NID) (hcl : vwCl[kc i]? = some (C, T, N)) (hstk : stk = As.reverse ++ .ref (G.2.2 i) :: st) (hcat : (st.map fun v => v.category).sum ≤ 8) (hroom : cells + 0 ≤ R.cells ∧ slots + 0 ≤ R.slots) (hd : decode cc pc = .ok (.invokevirtual index, 3)) (kk : ∀ (x : Int) (σ2 : St), iR x → post x σ2 → wpx p l e R s m args below meth c A s.heap nL Q G X cells slots σ2 (pc + 3) lv (.int (zI x) :: st)) : wpx p l e R s m args below meth c A s.heap nL Q G X cells slots σ pc lv stk := fun H locs ls hP hD hS hl => by
  refine va_calli (va_runV (As := As) (rest := st) ⟨hC.1, hC.2.1, hC.2.2.1, hC.2.2.2.1, hC.2.2.2.2.1⟩ (hM H.size) (cwV As.length hC.2.2.2.2.1 hT hw hrm.1 hrm.2 hy hR) ⟨fbWk, va_recv hC.2.2.2.2.2.1 (wlx_P hP) (q := (C, T, N)) hcl (q0 := i) (by rw [wl_get hi, ct_0 ho]), fun U hU hW => ⟨rfl, by rw [hU], by rw [hU]; exact wlx_P hP, va_K.moved hW.alike hC.2.2.2.2.2.1, nestP.warm hW hC.2.2.2.2.2.2.2.2.2, SK.up hK hS hU hW (aA_up hC.2.2.2.2.2.2.2.1 hS)⟩⟩ rfl rfl hl.1 hstk (lv_room hcat) hd hroom) hS (fun q _ h => aA_up hC.2.2.2.2.2.2.2.1 hS q h) (aA_up hC.2.2.2.2.2.2.2.1 hS) (fun r u t H1 locs1 ht hvm hw9 hB hz hk hS1 => by
    obtain ⟨x, hx, rfl, hp⟩ := hw9
    rw [ht] at hB
    obtain ⟨hB2, hD2⟩ := wlx_call hP hD hB hk
    exact kk x u hx hp H1 locs1 ls hB2 hD2 hS1 hl)
theorem wpx_callVvk {post : St → Prop} (hC : Cx p s m args meth c A s.heap nL G cc own Ts) (hK : SK Z A s s.heap) (hM : MVk l y ws rm G Z (.ref (G.2.2 i) :: As) σ post) (hT : GoodIn Ts (wsV own index C y ws)) (hw : ws = Cond.code y bytes maxL (none) :: ws') (hrm : rm.cells = 0 ∧ rm.slots = 0) (hR : rm.frames + 1 ≤ R.frames ∧ 8 + (maxL + 11) + rm.locals ≤ R.locals) (hy : y.cls = C ∧ y.cls ≠ "java/lang/invoke/MethodHandle" ∧ y.cls ≠ "java/lang/invoke/VarHandle" ∧ (parseMethodDescriptor y.desc).map (fun d => d.parameters.length) = some As.length) (ho : kd i = 0) (hi : i < NID) (hcl : vwCl[kc i]? = some (C, T, N)) (hstk : stk = As.reverse ++ .ref (G.2.2 i) :: st) (hcat : (st.map fun v => v.category).sum ≤ 8) (hroom : cells + 0 ≤ R.cells ∧ slots + 0 ≤ R.slots) (hd : decode cc pc = .ok (.invokevirtual index, 3)) (kk : ∀ (σ2 : St), post σ2 → wpx p l e R s m args below meth c A s.heap nL Q G X cells slots σ2 (pc + 3) lv st) : wpx p l e R s m args below meth c A s.heap nL Q G X cells slots σ pc lv stk := fun H locs ls hP hD hS hl => by
  refine va_callv (va_runV (As := As) (rest := st) ⟨hC.1, hC.2.1, hC.2.2.1, hC.2.2.2.1, hC.2.2.2.2.1⟩ (hM H.size) (cwV As.length hC.2.2.2.2.1 hT hw hrm.1 hrm.2 hy hR) ⟨fbWk, va_recv hC.2.2.2.2.2.1 (wlx_P hP) (q := (C, T, N)) hcl (q0 := i) (by rw [wl_get hi, ct_0 ho]), fun U hU hW => ⟨rfl, by rw [hU], by rw [hU]; exact wlx_P hP, va_K.moved hW.alike hC.2.2.2.2.2.1, nestP.warm hW hC.2.2.2.2.2.2.2.2.2, SK.up hK hS hU hW (aA_up hC.2.2.2.2.2.2.2.1 hS)⟩⟩ rfl rfl hl.1 hstk (lv_room hcat) hd hroom) hS (fun q _ h => aA_up hC.2.2.2.2.2.2.2.1 hS q h) (aA_up hC.2.2.2.2.2.2.2.1 hS) (fun u t H1 locs1 ht hvm hp hB hz hk hS1 => by
    rw [ht] at hB
    obtain ⟨hB2, hD2⟩ := wlx_call hP hD hB hk
    exact kk u hp H1 locs1 ls hB2 hD2 hS1 hl)
end CALx
