/-! a StringBuilder among the further cells -/
theorem tyB {G : Gy} {cB : ClassId} : (tysW G ++ [(cB, FieldType.byte)])[5]? = some (cB, .byte) := rfl
theorem hzVJ4_append_cf468 : yJ4_append_cf468.cls = RJ4 ∧ yJ4_append_cf468.cls ≠ "java/lang/invoke/MethodHandle" ∧ yJ4_append_cf468.cls ≠ "java/lang/invoke/VarHandle" ∧ (parseMethodDescriptor yJ4_append_cf468.desc).map (fun d => d.parameters.length) = some 1 := by decide +kernel
theorem hzVJ4_append_bf812 : yJ4_append_bf812.cls = RJ4 ∧ yJ4_append_bf812.cls ≠ "java/lang/invoke/MethodHandle" ∧ yJ4_append_bf812.cls ≠ "java/lang/invoke/VarHandle" ∧ (parseMethodDescriptor yJ4_append_bf812.desc).map (fun d => d.parameters.length) = some 1 := by decide +kernel
theorem hzVJ4_append_15ec4 : yJ4_append_15ec4.cls = RJ4 ∧ yJ4_append_15ec4.cls ≠ "java/lang/invoke/MethodHandle" ∧ yJ4_append_15ec4.cls ≠ "java/lang/invoke/VarHandle" ∧ (parseMethodDescriptor yJ4_append_15ec4.desc).map (fun d => d.parameters.length) = some 1 := by decide +kernel
theorem hzVJ4_length_8abf5 : yJ4_length_8abf5.cls = RJ4 ∧ yJ4_length_8abf5.cls ≠ "java/lang/invoke/MethodHandle" ∧ yJ4_length_8abf5.cls ≠ "java/lang/invoke/VarHandle" ∧ (parseMethodDescriptor yJ4_length_8abf5.desc).map (fun d => d.parameters.length) = some 0 := by decide +kernel
theorem hzVJ4_charAt_5068e : yJ4_charAt_5068e.cls = RJ4 ∧ yJ4_charAt_5068e.cls ≠ "java/lang/invoke/MethodHandle" ∧ yJ4_charAt_5068e.cls ≠ "java/lang/invoke/VarHandle" ∧ (parseMethodDescriptor yJ4_charAt_5068e.desc).map (fun d => d.parameters.length) = some 1 := by decide +kernel
theorem hzIJ4_init_da8c8 : yJ4_init_da8c8.name = "<init>" ∧ yJ4_init_da8c8.cls ≠ "java/lang/invoke/MethodHandle" ∧ yJ4_init_da8c8.cls ≠ "java/lang/invoke/VarHandle" ∧ (parseMethodDescriptor yJ4_init_da8c8.desc).map (fun d => d.parameters.length) = some 0 := by decide +kernel
section CALz
variable {p : Program} {l : Launch} {e : Env} {R : Room} {s : State} {m : MethodId} {args : Array Value} {below : List Frame} {meth : Method} {c : Code} {A : Nat → Prop} {nL : Nat} {Q : State → Prop} {G : Gy}
variable {σ : St} {pc : Nat} {lv : List (Nat × Value)} {st stk : List Value} {cc : ByteArray} {own : String} {Ts : List Cond}
variable {i a ci index maxL N : Nat} {fs : List Value} {C : String} {T : u_T} {y : MethodName} {wy ws' : List Cond} {rm : Room} {bytes : ByteArray} {ty : FieldType} {As : List Value}
variable {X : va_W} {cells slots : Nat} {Z : Ky} {cB : ClassId}
theorem wpx_apC {q cap : Nat} {L : List Int} {v : Int} (hv : 0 ≤ v ∧ v < 128) (hC : Cx p s m args meth c A s.heap nL G cc own Ts) (hX : XKK G Z cB A s) (h : SBd cB X q L cap) (hl : L.length ≤ 50) (hT : GoodIn Ts (wsV own index RJ4 yJ4_append_cf468 wsJ4_append_cf468)) (hR : 6 ≤ R.frames ∧ 210 ≤ R.locals) (hroom : cells + 1 ≤ R.cells ∧ slots + 200 ≤ R.slots) (hcat : (st.map fun v => v.category).sum ≤ 8) (hd : decode cc pc = .ok (.invokevirtual index, 3)) (kk : ∀ (X2 : va_W) (cap2 : Nat), SBd cB X2 q (L ++ [v]) cap2 → wpx p l e R s m args below meth c A s.heap nL Q G X2 (cells + 1) (slots + 200) σ (pc + 3) lv (.ref q :: st)) : wpx p l e R s m args below meth c A s.heap nL Q G X cells slots σ pc lv (.int (zI v) :: .ref q :: st) := by
  obtain ⟨hn, hcap, j, b, f, ml, h0, he1, he2, hf, hL⟩ := id h
  refine wpx_callMVr (As := [_]) hC hX (x_J4_appendC rfl tyB h hv hl) hT rfl ⟨by show 5 + 1 ≤ _; omega, by show 8 + (2 + 11) + 170 ≤ _; omega⟩ hroom hzVJ4_append_cf468 he1 rfl rfl hcat hd (fun q2 X2 hp => ?_)
  obtain ⟨rfl, cap2, h2⟩ := hp
  exact kk X2 cap2 h2
theorem wpx_apI {q cap : Nat} {L : List Int} {v : Int} (hv : 0 ≤ v ∧ v ≤ 99) (hC : Cx p s m args meth c A s.heap nL G cc own Ts) (hX : XKK G Z cB A s) (h : SBd cB X q L cap) (hl : L.length ≤ 50) (hT : GoodIn Ts (wsV own index RJ4 yJ4_append_bf812 wsJ4_append_bf812)) (hR : 6 ≤ R.frames ∧ 210 ≤ R.locals) (hroom : cells + 1 ≤ R.cells ∧ slots + 200 ≤ R.slots) (hcat : (st.map fun v => v.category).sum ≤ 8) (hd : decode cc pc = .ok (.invokevirtual index, 3)) (kk : ∀ (X2 : va_W) (cap2 : Nat), SBd cB X2 q (L ++ nmL v) cap2 → wpx p l e R s m args below meth c A s.heap nL Q G X2 (cells + 1) (slots + 200) σ (pc + 3) lv (.ref q :: st)) : wpx p l e R s m args below meth c A s.heap nL Q G X cells slots σ pc lv (.int (zI v) :: .ref q :: st) := by
  obtain ⟨hn, hcap, j, b, f, ml, h0, he1, he2, hf, hL⟩ := id h
  refine wpx_callMVr (As := [_]) hC hX (x_J4_appendI rfl tyB h hv hl) hT rfl ⟨by show 5 + 1 ≤ _; omega, by show 8 + (2 + 11) + 170 ≤ _; omega⟩ hroom hzVJ4_append_bf812 he1 rfl rfl hcat hd (fun q2 X2 hp => ?_)
  obtain ⟨rfl, cap2, h2⟩ := hp
  exact kk X2 cap2 h2
theorem wpx_apS {q cap : Nat} {L : List Int} {w : Nat} (hw : w < 4) (hC : Cx p s m args meth c A s.heap nL G cc own Ts) (hX : XKK G Z cB A s) (h : SBd cB X q L cap) (hl : L.length ≤ 50) (hT : GoodIn Ts (wsV own index RJ4 yJ4_append_15ec4 wsJ4_append_15ec4)) (hR : 6 ≤ R.frames ∧ 210 ≤ R.locals) (hroom : cells + 1 ≤ R.cells ∧ slots + 200 ≤ R.slots) (hcat : (st.map fun v => v.category).sum ≤ 8) (hd : decode cc pc = .ok (.invokevirtual index, 3)) (kk : ∀ (X2 : va_W) (cap2 : Nat), SBd cB X2 q (L ++ wdL w) cap2 → wpx p l e R s m args below meth c A s.heap nL Q G X2 (cells + 1) (slots + 200) σ (pc + 3) lv (.ref q :: st)) : wpx p l e R s m args below meth c A s.heap nL Q G X cells slots σ pc lv (.ref (Z.1 w) :: .ref q :: st) := by
  obtain ⟨hn, hcap, j, b, f, ml, h0, he1, he2, hf, hL⟩ := id h
  refine wpx_callMVr (As := [_]) hC hX (x_J4_appendS hw rfl tyB h hl) hT rfl ⟨by show 5 + 1 ≤ _; omega, by show 8 + (2 + 11) + 170 ≤ _; omega⟩ hroom hzVJ4_append_15ec4 he1 rfl rfl hcat hd (fun q2 X2 hp => ?_)
  obtain ⟨rfl, cap2, h2⟩ := hp
  exact kk X2 cap2 h2
theorem wpx_sbN {q cap : Nat} {L : List Int} (hC : Cx p s m args meth c A s.heap nL G cc own Ts) (hX : XKK G Z cB A s) (h : SBd cB X q L cap) (hT : GoodIn Ts (wsV own index RJ4 yJ4_length_8abf5 wsJ4_length_8abf5)) (hR : 6 ≤ R.frames ∧ 210 ≤ R.locals) (hroom : cells + 0 ≤ R.cells ∧ slots + 0 ≤ R.slots) (hcat : (st.map fun v => v.category).sum ≤ 8) (hd : decode cc pc = .ok (.invokevirtual index, 3)) (kk : wpx p l e R s m args below meth c A s.heap nL Q G X cells slots σ (pc + 3) lv (.int (zI L.length) :: st)) : wpx p l e R s m args below meth c A s.heap nL Q G X cells slots σ pc lv (.ref q :: st) := by
  obtain ⟨hn, hcap, j, b, f, ml, h0, he1, he2, hf, hL⟩ := id h
  refine wpx_callMVi (As := []) hC hX (x_J4_length rfl h) hT rfl ⟨by show 1 + 1 ≤ _; omega, by show 8 + (1 + 11) + 25 ≤ _; omega⟩ hroom hzVJ4_length_8abf5 he1 rfl rfl hcat hd (fun x X2 hx hp => ?_)
  obtain ⟨e1, e2⟩ := hp
  subst e1 e2
  exact kk
theorem wpx_sbA {q cap : Nat} {L : List Int} {x : Int} (hC : Cx p s m args meth c A s.heap nL G cc own Ts) (hX : XKK G Z cB A s) (h : SBd cB X q L cap) (hx : 0 ≤ x ∧ x < L.length) (hl : L.length ≤ 60) (hT : GoodIn Ts (wsV own index RJ4 yJ4_charAt_5068e wsJ4_charAt_5068e)) (hR : 6 ≤ R.frames ∧ 210 ≤ R.locals) (hroom : cells + 0 ≤ R.cells ∧ slots + 0 ≤ R.slots) (hcat : (st.map fun v => v.category).sum ≤ 8) (hd : decode cc pc = .ok (.invokevirtual index, 3)) (kk : (0 ≤ L.getD x.toNat 0 ∧ L.getD x.toNat 0 < 128) → wpx p l e R s m args below meth c A s.heap nL Q G X cells slots σ (pc + 3) lv (.int (zI (L.getD x.toNat 0)) :: st)) : wpx p l e R s m args below meth c A s.heap nL Q G X cells slots σ pc lv (.int (zI x) :: .ref q :: st) := by
  obtain ⟨hn, hcap, j, b, f, ml, h0, he1, he2, hf, hL⟩ := id h
  refine wpx_callMVi (As := [_]) hC hX (x_J4_charAt rfl h tyB hx hl) hT rfl ⟨by show 3 + 1 ≤ _; omega, by show 8 + (2 + 11) + 90 ≤ _; omega⟩ hroom hzVJ4_charAt_5068e he1 rfl rfl hcat hd (fun r X2 hr hp => ?_)
  obtain ⟨e1, g, e2⟩ := hp
  subst e1 e2
  exact kk g
end CALz
