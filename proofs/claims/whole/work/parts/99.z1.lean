/-! from the numbered cells with further ones: calls over the further ones -/
theorem wlx_PX {G : Gy} {σ : St} {X : va_W} {H : Heap} (h : va_P G.1 vwCl (wl G σ ++ X) H) : va_P G.1 vwCl X H := fun k q hk => h _ q (wlx_X hk)
theorem wlx_DX {G : Gy} {σ : St} {X : va_W} {A : Nat → Prop} (h : va_D A (wl G σ ++ X)) : va_D A X := ⟨fun i j x y hx hy hxy => by
  have := h.1 (NID + i) (NID + j) x y (wlx_X hx) (wlx_X hy) hxy
  omega, fun k q hk => h.2 _ q (wlx_X hk)⟩
theorem xlw_call {G : Gy} {σ : St} {X X2 : va_W} {A : Nat → Prop} {H H1 : Heap} (hP : va_P G.1 vwCl (wl G σ ++ X) H) (hD : va_D A (wl G σ ++ X)) (hB : va_P G.1 vwCl X2 H1) (hB2 : va_D (va_A X H.size) X2) (hup : ∀ q, va_A X H.size q → A q) (hk : ∀ q : Nat, q < H.size → ¬ va_A X H.size q → H1[q]? = H[q]?) : va_P G.1 vwCl (wl G σ ++ X2) H1 ∧ va_D A (wl G σ ++ X2) := by
  have hW := wlx_P hP
  have nw : ∀ (k : Nat) (q : Nat × va_E), (wl G σ)[k]? = some q → ¬ va_A X H.size q.1 := fun k q hq z => by
    have hl : k < NID := by rw [← wl_len (G := G) (σ := σ)]; exact (List.getElem?_eq_some_iff.mp hq).1
    have hq2 : (wl G σ ++ X)[k]? = some q := by
      rw [List.getElem?_append_left (by rw [wl_len]; exact hl)]
      exact hq
    rcases z with ⟨k2, e, h2⟩ | z
    · have := hD.1 k (NID + k2) q (q.1, e) hq2 (wlx_X h2) rfl
      omega
    · have := (hW k q hq).lt
      omega
  refine ⟨(hW.kept (fun k q hq => hk q.1 (hW k q hq).lt (nw k q hq))).app hB, ?_⟩
  have key : ∀ (k : Nat) (q : Nat × va_E), (wl G σ ++ X2)[k]? = some q → (k < NID ∧ (wl G σ)[k]? = some q ∧ (wl G σ ++ X)[k]? = some q) ∨ (NID ≤ k ∧ X2[k - NID]? = some q) := by
    intro k q h
    by_cases hl : k < NID
    · rw [List.getElem?_append_left (by rw [wl_len]; exact hl)] at h
      exact Or.inl ⟨hl, h, by rw [List.getElem?_append_left (by rw [wl_len]; exact hl)]; exact h⟩
    · rw [List.getElem?_append_right (by rw [wl_len]; omega), wl_len] at h
      exact Or.inr ⟨by omega, h⟩
  refine ⟨fun i j x y hx hy hxy => ?_, fun k q h => ?_⟩
  · rcases key i x hx with ⟨a1, a2, a3⟩ | ⟨a1, a2⟩ <;> rcases key j y hy with ⟨b1, b2, b3⟩ | ⟨b1, b2⟩
    · exact hD.1 i j x y a3 b3 hxy
    · exact absurd (by rw [hxy]; exact hB2.2 _ y b2) (nw i x a2)
    · exact absurd (by rw [← hxy]; exact hB2.2 _ x a2) (nw j y b2)
    · have := hB2.1 _ _ x y a2 b2 hxy
      omega
  · rcases key k q h with ⟨a1, a2, a3⟩ | ⟨a1, a2⟩
    · exact hD.2 k q a3
    · exact hup _ (hB2.2 _ q a2)
/-- the class of byte arrays too, and the constants -/
def XKK (G : Gy) (Z : Ky) (cB : ClassId) (A : Nat → Prop) (U : State) : Prop := va_K G.1 vwCl (tysW G ++ [(cB, .byte)]) U ∧ XK Z cB A U U.heap
section CALy
variable {p : Program} {l : Launch} {e : Env} {R : Room} {s : State} {m : MethodId} {args : Array Value} {below : List Frame} {meth : Method} {c : Code} {A : Nat → Prop} {nL : Nat} {Q : State → Prop} {G : Gy}
variable {σ : St} {pc : Nat} {lv : List (Nat × Value)} {st stk : List Value} {cc : ByteArray} {own : String} {Ts : List Cond}
variable {i a ci index maxL N : Nat} {fs : List Value} {C : String} {T : u_T} {y : MethodName} {wy ws' : List Cond} {rm : Room} {bytes : ByteArray} {ty : FieldType} {As : List Value}
variable {X : va_W} {cells slots : Nat} {Z : Ky} {cB : ClassId}
theorem xA_upx {H : Heap} {locs : List Loc} (hC : Cx p s m args meth c A s.heap nL G cc own Ts) (hD : va_D A (wl G σ ++ X)) (hS : va_S A s.heap H locs) : ∀ q, va_A X H.size q → A q := fun q hq => by
  rcases hq with ⟨k, e, h⟩ | h
  · exact (wlx_DX hD).2 k _ h
  · exact hC.2.2.2.2.2.2.2.1 q (Or.inr (Nat.le_trans hS.1 h))
theorem wpx_callMVi {post : Int → va_W → Prop} (hC : Cx p s m args meth c A s.heap nL G cc own Ts) (hX : XKK G Z cB A s) (hM : MXi l y wy rm G.1 vwCl (tysW G ++ [(cB, .byte)]) cB Z (.ref a :: As) X post) (hT : GoodIn Ts (wsV own index C y wy)) (hw : wy = Cond.code y bytes maxL (some ty) :: ws') (hR : rm.frames + 1 ≤ R.frames ∧ 8 + (maxL + 11) + rm.locals ≤ R.locals) (hroom : cells + rm.cells ≤ R.cells ∧ slots + rm.slots ≤ R.slots) (hy : y.cls = C ∧ y.cls ≠ "java/lang/invoke/MethodHandle" ∧ y.cls ≠ "java/lang/invoke/VarHandle" ∧ (parseMethodDescriptor y.desc).map (fun d => d.parameters.length) = some As.length) (he : X[i]? = some (a, .inr (ci, fs))) (hcl : vwCl[ci]? = some (C, T, N)) (hstk : stk = As.reverse ++ .ref a :: st) (hcat : (st.map fun v => v.category).sum ≤ 8) (hd : decode cc pc = .ok (.invokevirtual index, 3)) (kk : ∀ (x : Int) (X2 : va_W), iR x → post x X2 → wpx p l e R s m args below meth c A s.heap nL Q G X2 (cells + rm.cells) (slots + rm.slots) σ (pc + 3) lv (.int (zI x) :: st)) : wpx p l e R s m args below meth c A s.heap nL Q G X cells slots σ pc lv stk := fun H locs ls hP hD hS hl => by
  refine va_calli (va_runV (As := As) (rest := st) ⟨hC.1, hC.2.1, hC.2.2.1, hC.2.2.2.1, hC.2.2.2.2.1⟩ (hM H.size) (cwV As.length hC.2.2.2.2.1 hT hw rfl rfl hy hR) ⟨fbWx, va_recv hC.2.2.2.2.2.1 (wlx_PX hP) (q := (C, T, N)) hcl (q0 := i) he, fun U hU hW => ⟨rfl, by rw [hU], by rw [hU]; exact wlx_PX hP, (wlx_DX hD).self, va_K.moved hW.alike hX.1, XK.up hX.2 hS hU hW (xA_upx hC hD hS)⟩⟩ rfl rfl hl.1 hstk (lv_room hcat) hd hroom) hS (fun q _ h => xA_upx hC hD hS q h) (xA_upx hC hD hS) (fun r u t H1 locs1 ht hvm hw9 hB hz hk hS1 => by
    obtain ⟨x, hx, rfl, hp⟩ := hw9
    rw [ht] at hB
    obtain ⟨a1, a2⟩ := xlw_call hP hD hB.1 hB.2 (xA_upx hC hD hS) hk
    exact kk x u hx hp H1 locs1 ls a1 a2 hS1 hl)
theorem wpx_callMVr {post : Nat → va_W → Prop} (hC : Cx p s m args meth c A s.heap nL G cc own Ts) (hX : XKK G Z cB A s) (hM : MXr l y wy rm G.1 vwCl (tysW G ++ [(cB, .byte)]) cB Z (.ref a :: As) X post) (hT : GoodIn Ts (wsV own index C y wy)) (hw : wy = Cond.code y bytes maxL (some ty) :: ws') (hR : rm.frames + 1 ≤ R.frames ∧ 8 + (maxL + 11) + rm.locals ≤ R.locals) (hroom : cells + rm.cells ≤ R.cells ∧ slots + rm.slots ≤ R.slots) (hy : y.cls = C ∧ y.cls ≠ "java/lang/invoke/MethodHandle" ∧ y.cls ≠ "java/lang/invoke/VarHandle" ∧ (parseMethodDescriptor y.desc).map (fun d => d.parameters.length) = some As.length) (he : X[i]? = some (a, .inr (ci, fs))) (hcl : vwCl[ci]? = some (C, T, N)) (hstk : stk = As.reverse ++ .ref a :: st) (hcat : (st.map fun v => v.category).sum ≤ 8) (hd : decode cc pc = .ok (.invokevirtual index, 3)) (kk : ∀ (q : Nat) (X2 : va_W), post q X2 → wpx p l e R s m args below meth c A s.heap nL Q G X2 (cells + rm.cells) (slots + rm.slots) σ (pc + 3) lv (.ref q :: st)) : wpx p l e R s m args below meth c A s.heap nL Q G X cells slots σ pc lv stk := fun H locs ls hP hD hS hl => by
  refine va_callr (va_runV (As := As) (rest := st) ⟨hC.1, hC.2.1, hC.2.2.1, hC.2.2.2.1, hC.2.2.2.2.1⟩ (hM H.size) (cwV As.length hC.2.2.2.2.1 hT hw rfl rfl hy hR) ⟨fbWx, va_recv hC.2.2.2.2.2.1 (wlx_PX hP) (q := (C, T, N)) hcl (q0 := i) he, fun U hU hW => ⟨rfl, by rw [hU], by rw [hU]; exact wlx_PX hP, (wlx_DX hD).self, va_K.moved hW.alike hX.1, XK.up hX.2 hS hU hW (xA_upx hC hD hS)⟩⟩ rfl rfl hl.1 hstk (lv_room hcat) hd hroom) hS (fun q _ h => xA_upx hC hD hS q h) (xA_upx hC hD hS) (fun u ra t H1 locs1 ht hvm hp hB hz hk hS1 => by
    obtain ⟨rfl, hB1, hB2⟩ := hB
    rw [ht] at hB1
    obtain ⟨a1, a2⟩ := xlw_call hP hD hB1 hB2 (xA_upx hC hD hS) hk
    exact kk u.2 u.1 hp H1 locs1 ls a1 a2 hS1 hl)
theorem wpx_callMIv {post : va_W → Prop} (hC : Cx p s m args meth c A s.heap nL G cc own Ts) (hX : XKK G Z cB A s) (hM : MXv l y wy rm G.1 vwCl (tysW G ++ [(cB, .byte)]) cB Z (.ref a :: As) X post) (hT : GoodIn Ts wy) (hini : Cond.initialized y.cls ∈ Ts) (hln : Cond.methodLink own index y ∈ Ts) (hin : Cond.instanceMethod y ∈ Ts) (hw : wy = Cond.code y bytes maxL (none) :: ws') (hR : rm.frames + 1 ≤ R.frames ∧ 8 + (maxL + 11) + rm.locals ≤ R.locals) (hroom : cells + rm.cells ≤ R.cells ∧ slots + rm.slots ≤ R.slots) (hy : y.name = "<init>" ∧ y.cls ≠ "java/lang/invoke/MethodHandle" ∧ y.cls ≠ "java/lang/invoke/VarHandle" ∧ (parseMethodDescriptor y.desc).map (fun d => d.parameters.length) = some As.length) (hstk : stk = As.reverse ++ .ref a :: st) (hcat : (st.map fun v => v.category).sum ≤ 8) (hd : decode cc pc = .ok (.invokespecial index, 3)) (kk : ∀ (X2 : va_W), post X2 → wpx p l e R s m args below meth c A s.heap nL Q G X2 (cells + rm.cells) (slots + rm.slots) σ (pc + 3) lv st) : wpx p l e R s m args below meth c A s.heap nL Q G X cells slots σ pc lv stk := fun H locs ls hP hD hS hl => by
  refine va_callv (va_runI (As := As) (rest := st) ⟨hC.1, hC.2.1, hC.2.2.1, hC.2.2.2.1, hC.2.2.2.2.1⟩ (hM H.size) (cwI As.length hC.2.2.2.2.1 hT hw rfl rfl (hC.2.2.2.2.1 _ hini) (hC.2.2.2.2.1 _ hln) (hC.2.2.2.2.1 _ hin) hy.1 hy.2 hR) ⟨fbWx, fun U hU hW => ⟨rfl, by rw [hU], by rw [hU]; exact wlx_PX hP, (wlx_DX hD).self, va_K.moved hW.alike hX.1, XK.up hX.2 hS hU hW (xA_upx hC hD hS)⟩⟩ rfl rfl hl.1 hstk (lv_room hcat) hd hroom) hS (fun q _ h => xA_upx hC hD hS q h) (xA_upx hC hD hS) (fun u t H1 locs1 ht hvm hp hB hz hk hS1 => by
    rw [ht] at hB
    obtain ⟨a1, a2⟩ := xlw_call hP hD hB.1 hB.2 (xA_upx hC hD hS) hk
    exact kk u hp H1 locs1 ls a1 a2 hS1 hl)
theorem wpx_more {cells2 slots2 : Nat} (hc : cells ≤ cells2) (hs : slots ≤ slots2) (kk : wpx p l e R s m args below meth c A s.heap nL Q G X cells2 slots2 σ pc lv st) : wpx p l e R s m args below meth c A s.heap nL Q G X cells slots σ pc lv st := fun H locs ls hP hD hS hl => by
  intro T hT Y
  exact kk H locs ls hP hD hS hl T hT (Y.mono hc hs)
theorem wpx_newSB (hC : Cx p s m args meth c A s.heap nL G cc own Ts) (hu : ∀ w ∈ u_ws RJ4 TJ4 4, w ∈ Ts) (h1 : Cond.classLink own index RJ4 ∈ Ts) (h2 : Cond.instantiable RJ4 4 ∈ Ts) (h3 : Cond.initialized RJ4 ∈ Ts) (hcells : cells + 1 ≤ R.cells) (hslots : slots + 4 ≤ R.slots) (hd : decode cc pc = .ok (.new index, 3)) (kk : ∀ q : Nat, wpx p l e R s m args below meth c A s.heap nL Q G (X ++ [(q, .inr (0, [.null, .int (zI 0), .int (zI 0), .int (zI 0)]))]) (cells + 1) (slots + 4) σ (pc + 3) lv (.ref q :: st)) : wpx p l e R s m args below meth c A s.heap nL Q G X cells slots σ pc lv st := fun H locs ls hP hD hS hl => by
  refine va_new (D := G.1) (cl := vwCl) (tys := tysW G) (ci := 0) (fs := [.null, .int (zI 0), .int (zI 0), .int (zI 0)]) (C := RJ4) (T := TJ4) (N := 4) hC.1 hC.2.1 hC.2.2.2.2.1 hu tyJ4 tyJ4_ok hC.2.2.2.1 (hC.2.2.2.2.1 _ h1) (hC.2.2.2.2.1 _ h2) (hC.2.2.2.2.1 _ h3) hC.2.2.2.2.2.1 hP hD hS (fun q hq => hC.2.2.2.2.2.2.2.1 q (Or.inr hq)) rfl (fun j hj => by rcases (show j = 0 ∨ j = 1 ∨ j = 2 ∨ j = 3 by omega) with rfl | rfl | rfl | rfl <;> rfl) hcells hslots hd (fun q H1 hP1 hD1 hS1 => ?_)
  rw [List.append_assoc] at hP1 hD1
  exact kk q H1 _ ls hP1 hD1 hS1 hl
theorem wpx_i2c {x : Int} (hC : Cx p s m args meth c A s.heap nL G cc own Ts) (hd : decode cc pc = .ok (.i2c, 1)) (ra : 0 ≤ x ∧ x < 65536) (kk : wpx p l e R s m args below meth c A s.heap nL Q G X cells slots σ (pc + 1) lv (.int (zI x) :: st)) : wpx p l e R s m args below meth c A s.heap nL Q G X cells slots σ pc lv (.int (zI x) :: st) := fun H locs ls hP hD hS hl => by
  refine lv_i2c hC.1 hC.2.1 hd (v := zI x) ?_ (kk H locs ls hP hD hS hl)
  obtain ⟨q, rfl⟩ := Int.eq_ofNat_of_zero_le ra.1
  show ((zI (q : Nat)).toUInt32 % 65536).toInt32 = zI (q : Nat)
  rw [zI_nI, pk_char, pk_tn (by omega), Nat.mod_eq_of_lt (by omega)]
theorem wpx_ldcS (hC : Cx p s m args meth c A s.heap nL G cc own Ts) {q : Nat} {tx : String} (hR : vk_R own index tx q s) (hd : decode cc pc = .ok (.ldc_w index, 3)) (kk : wpx p l e R s m args below meth c A s.heap nL Q G X cells slots σ (pc + 3) lv (.ref q :: st)) : wpx p l e R s m args below meth c A s.heap nL Q G X cells slots σ pc lv st := fun H locs ls hP hD hS hl => by
  have kk' := kk H locs ls hP hD hS hl
  intro T hT Y
  obtain ⟨t, a1, b1⟩ := kk' T hT Y
  obtain ⟨k, cf, i, a', hk, hcf, hcp, -, hr, hev'⟩ := Cond.stringRef_spec hC.2.2.2.1 hR.1
  cases hR.2.symm.trans hev'
  obtain ⟨k', hk', he⟩ := Y.warmed.alike.2.2 _ _ hk
  have hr' : k'.resolved[index]? = some (some (.string q)) := by
    rcases Y.warmed.entry hk hk' index with h | ⟨h, -⟩
    · rw [h]; exact hr
    · rw [hr] at h; cases h
  refine ⟨t, ?_, b1⟩
  have hdg : decode c.code (F0 m pc ls st).pc = .ok (.ldc_w index, 3) := by rw [hC.2.1]; exact hd
  have hexec := hC.1
  jvm_step Y.here [hexec, hdg, ldc_w.wp_string (e := e) (s := T) (f := F0 m pc ls st) Y.here.top hk' (by rw [he]; exact hcf) hcp hr']
  exact a1
end CALy
/-! contracts over the numbered cells that take room -/
def MIg (l : Launch) (y : MethodName) (ws : List Cond) (rm : Room) (G : Gy) (Z : Ky) (cB : ClassId) (as : List Value) (σ : St) (post : Int → St → Prop) : Prop :=
  ∀ sz : Nat, Met l y ws rm (va_Pc as (fun U => U.heap.size = sz ∧ va_P G.1 vwCl (wl G σ) U.heap ∧ nestP U ∧ XKK G Z cB (aA G sz) U)) (va_Qi (fun r σ' => ∃ x, iR x ∧ r = zI x ∧ post x σ') (fun σ' t => va_P G.1 vwCl (wl G σ') t.heap) (aA G sz)) rm.cells rm.slots (aA G sz)
theorem XKK.k0 {G : Gy} {Z : Ky} {cB : ClassId} {A : Nat → Prop} {U : State} (h : XKK G Z cB A U) : va_K G.1 vwCl (tysW G) U := ⟨h.1.1, fun k q hk => h.1.2 k q (by
  rw [List.getElem?_append_left (List.getElem?_eq_some_iff.mp hk).1]
  exact hk)⟩
theorem XKK.up {G : Gy} {Z : Ky} {cB : ClassId} {A B : Nat → Prop} {s U : State} {H : Heap} {locs : List Loc} (h : XKK G Z cB A s) (hS : va_S A s.heap H locs) (hU : U.heap = H) (hW : s.WarmedH U.vm) (hAB : ∀ q, B q → A q) : XKK G Z cB B U := ⟨va_K.moved hW.alike h.1, XK.up h.2 hS hU hW hAB⟩
section MIGs
variable {l : Launch} {y : MethodName} {ws ws' : List Cond} {rm : Room} {G : Gy} {Z : Ky} {cB : ClassId} {as : List Value} {σ : St} {cc : ByteArray} {maxL : Nat} {own : String} {lv0 : List (Nat × Value)}
theorem MIg.of {post : Int → St → Prop} {ty : FieldType} (hG : Inj G) (hy : plainName y.cls = true) (hw : ws = Cond.code y cc maxL (some ty) :: ws') (ho : y.cls = own) (ha : (lg_sl as).length ≤ maxL) (h0 : lv_args 0 as = lv0)
    (body : ∀ (p : Program) (e : Env) (s : State) (m : MethodId) (args : Array Value) (below : List Frame) (meth : Method) (c : Code) (Q : State → Prop), Cx p s m args meth c (aA G s.heap.size) s.heap maxL G cc own ws → XKK G Z cB (aA G s.heap.size) s → (∀ (x : Int) (X2 : va_W) (σ' : St) (pc : Nat) (lv : List (Nat × Value)), iR x → narrow ty (.int (zI x)) = .int (zI x) → post x σ' → decode cc pc = .ok (.ireturn, 1) → wpx p l e rm s m args below meth c (aA G s.heap.size) s.heap maxL Q G X2 rm.cells rm.slots σ' pc lv [.int (zI x)]) → wpx p l e rm s m args below meth c (aA G s.heap.size) s.heap maxL Q G [] 0 0 σ 0 lv0 []) : MIg l y ws rm G Z cB as σ post := by
  intro sz
  refine Met.ofW (cc := cc) (maxL := maxL) (ret := some ty) hy hw ?_
  intro p e s m args below meth c s₁ B hml hv
  obtain ⟨rfl, hsz, hP, hN, hX⟩ := hv
  subst hsz
  have hC : Cx p s m as.toArray meth c (aA G s.heap.size) s.heap maxL G cc own ws := ⟨B.exec, B.bytes, hml, by rw [← ho]; exact findClass_of_methodNamed B.named, atoms_spec (ws := ws) B.pre, hX.k0, wl_D hG _, fun q h => h, B.notSynchronized, hN⟩
  have hl := lv_entry as (n := maxL) ha
  rw [lg_entry_eq]
  generalize (lg_sl as ++ List.replicate (maxL - (lg_sl as).length) Slot.unset).toArray = ls at hl ⊢
  rw [h0] at hl
  refine body p e s m _ below meth c _ hC hX ?_ s.heap [] ls (by rw [List.append_nil]; exact hP) (by rw [List.append_nil]; exact wl_D hG _ σ) va_S.rf hl
  intro x X2 σ' pc lv hx hn hp hd H locs ls' hP' hD' hS' hl'
  exact W.zret B.exec B.bytes B.returns hn (fun t ht hW => ⟨⟨zI x, σ', rfl, ⟨x, hx, rfl, hp⟩, by show va_P _ _ _ t.heap; rw [ht]; exact wlx_P hP'⟩, hS'.F ht⟩) hS'.2.2 hd B.notSynchronized
end MIGs
theorem fbWg {G : Gy} {Z : Ky} {cB : ClassId} {as : List Value} {σ : St} {sz : Nat} {A : Nat → Prop} : FrameBlind (va_Pc as (fun U => U.heap.size = sz ∧ va_P G.1 vwCl (wl G σ) U.heap ∧ nestP U ∧ XKK G Z cB A U)) := fun a U g mk q => by
  obtain ⟨q0, q1, qP, qN, qK, qa, ⟨qS, qr, qz, qq⟩, dO, dT, ⟨d1, d2⟩, d3, d4⟩ := q
  have hA : U.vm.Alike (U.calling g mk a).vm := Vm.Alike.refl U.vm
  exact ⟨q0, q1, qP, nestP.same (u := U) (U := U.calling g mk a) rfl qN, va_K.moved (u := U) (U := U.calling g mk a) hA qK, qa, ⟨vk_S.moved (u := U) (U := U.calling g mk a) hA qS, SKr.same (u := U) (U := U.calling g mk a) rfl qr, va_Z.moved (u := U) (U := U.calling g mk a) hA qz, va_Zq.moved (u := U) (U := U.calling g mk a) hA qq⟩, dO, dT, ⟨va_Z.moved (u := U) (U := U.calling g mk a) hA d1, va_T.moved (u := U) (U := U.calling g mk a) hA d2⟩, va_Z.moved (u := U) (U := U.calling g mk a) hA d3, va_T.moved (u := U) (U := U.calling g mk a) hA d4⟩
