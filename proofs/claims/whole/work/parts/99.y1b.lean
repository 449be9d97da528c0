/-! a constant's methods called; Object's start; a constant's bytes copied -/
section CALt
variable {p : Program} {l : Launch} {e : Env} {R : Room} {s : State} {m : MethodId} {args : Array Value} {below : List Frame} {meth : Method} {c : Code} {A : Nat → Prop} {nL : Nat} {Q : State → Prop}
variable {D : va_G} {cl : List vw_C} {tys : List (ClassId × FieldType)} {cB : ClassId} {Z : Ky} {ws : va_W} {cells slots : Nat} {pc : Nat} {lv : List (Nat × Value)} {st stk : List Value} {cc : ByteArray} {own : String} {Ts : List Cond}
variable {i a ci index maxL N : Nat} {fs : List Value} {C : String} {T : u_T} {y : MethodName} {wy ws' : List Cond} {rm : Room} {bytes : ByteArray} {ty : FieldType} {As : List Value}
theorem wpw_callTi {post : Int → va_W → Prop} {n0 : Nat} (hC : Cw p s m args meth c A s.heap nL D cl tys cc own Ts) (hX : XK Z cB A s s.heap) (hM : MXi l y wy rm D cl tys cB Z (.ref (Z.1 n0) :: As) ws post) (hT : GoodIn Ts (wsV own index RJ0 y wy)) (hw : wy = Cond.code y bytes maxL (some ty) :: ws') (hR : rm.frames + 1 ≤ R.frames ∧ 8 + (maxL + 11) + rm.locals ≤ R.locals) (hroom : cells + rm.cells ≤ R.cells ∧ slots + rm.slots ≤ R.slots) (hi : n0 < 4) (hy : y.cls = RJ0 ∧ y.cls ≠ "java/lang/invoke/MethodHandle" ∧ y.cls ≠ "java/lang/invoke/VarHandle" ∧ (parseMethodDescriptor y.desc).map (fun d => d.parameters.length) = some As.length) (hstk : stk = As.reverse ++ .ref (Z.1 n0) :: st) (hcat : (st.map fun v => v.category).sum ≤ 8) (hd : decode cc pc = .ok (.invokevirtual index, 3)) (kk : ∀ (x : Int) (X2 : va_W), iR x → post x X2 → wpw p l e R s m args below meth c A s.heap nL Q D cl X2 (cells + rm.cells) (slots + rm.slots) (pc + 3) lv (.int (zI x) :: st)) : wpw p l e R s m args below meth c A s.heap nL Q D cl ws cells slots pc lv stk := fun H locs ls hP hD hS hl => by
  refine va_calli (va_runV (As := As) (rest := st) ⟨hC.1, hC.2.1, hC.2.2.1, hC.2.2.2.1, hC.2.2.2.2.1⟩ (hM H.size) (cwV As.length hC.2.2.2.2.1 hT hw rfl rfl hy hR) ⟨fbWx, vk_recv hX.2.1.1 hi hS, fun U hU hW => ⟨rfl, by rw [hU], by rw [hU]; exact hP, hD.self, va_K.moved hW.alike hC.2.2.2.2.2.1, XK.up hX hS hU hW (xA_up hC hD hS)⟩⟩ rfl rfl hl.1 hstk (lv_room hcat) hd hroom) hS (fun q _ h => xA_up hC hD hS q h) (xA_up hC hD hS) (fun r u t H1 locs1 ht hvm hw9 hB hz hk hS1 => by
    obtain ⟨x, hx, rfl, hp⟩ := hw9
    rw [ht] at hB
    exact kk x u hx hp H1 locs1 ls hB.1 (hB.2.weaken (fun k q _ h => xA_up hC hD hS q.1 h)) hS1 hl)
theorem wpw_callTv {post : va_W → Prop} {n0 : Nat} (hC : Cw p s m args meth c A s.heap nL D cl tys cc own Ts) (hX : XK Z cB A s s.heap) (hM : MXv l y wy rm D cl tys cB Z (.ref (Z.1 n0) :: As) ws post) (hT : GoodIn Ts (wsV own index RJ0 y wy)) (hw : wy = Cond.code y bytes maxL (none) :: ws') (hR : rm.frames + 1 ≤ R.frames ∧ 8 + (maxL + 11) + rm.locals ≤ R.locals) (hroom : cells + rm.cells ≤ R.cells ∧ slots + rm.slots ≤ R.slots) (hi : n0 < 4) (hy : y.cls = RJ0 ∧ y.cls ≠ "java/lang/invoke/MethodHandle" ∧ y.cls ≠ "java/lang/invoke/VarHandle" ∧ (parseMethodDescriptor y.desc).map (fun d => d.parameters.length) = some As.length) (hstk : stk = As.reverse ++ .ref (Z.1 n0) :: st) (hcat : (st.map fun v => v.category).sum ≤ 8) (hd : decode cc pc = .ok (.invokevirtual index, 3)) (kk : ∀ (X2 : va_W), post X2 → wpw p l e R s m args below meth c A s.heap nL Q D cl X2 (cells + rm.cells) (slots + rm.slots) (pc + 3) lv st) : wpw p l e R s m args below meth c A s.heap nL Q D cl ws cells slots pc lv stk := fun H locs ls hP hD hS hl => by
  refine va_callv (va_runV (As := As) (rest := st) ⟨hC.1, hC.2.1, hC.2.2.1, hC.2.2.2.1, hC.2.2.2.2.1⟩ (hM H.size) (cwV As.length hC.2.2.2.2.1 hT hw rfl rfl hy hR) ⟨fbWx, vk_recv hX.2.1.1 hi hS, fun U hU hW => ⟨rfl, by rw [hU], by rw [hU]; exact hP, hD.self, va_K.moved hW.alike hC.2.2.2.2.2.1, XK.up hX hS hU hW (xA_up hC hD hS)⟩⟩ rfl rfl hl.1 hstk (lv_room hcat) hd hroom) hS (fun q _ h => xA_up hC hD hS q h) (xA_up hC hD hS) (fun u t H1 locs1 ht hvm hp hB hz hk hS1 => by
    rw [ht] at hB
    exact kk u hp H1 locs1 ls hB.1 (hB.2.weaken (fun k q _ h => xA_up hC hD hS q.1 h)) hS1 hl)
theorem wpw_objI {st : List Value} (hC : Cw p s m args meth c A s.heap nL D cl tys cc own Ts) (h1 : Cond.methodLink own index objectInit ∈ Ts) (h2 : Cond.instanceMethod objectInit ∈ Ts) (h3 : Cond.code objectInit ⟨#[0xb1]⟩ 1 none ∈ Ts) (hfr : 1 ≤ R.frames) (hlo : (st.map fun v => v.category).sum + 12 ≤ R.locals) (hd : decode cc pc = .ok (.invokespecial index, 3)) (kk : wpw p l e R s m args below meth c A s.heap nL Q D cl ws cells slots (pc + 3) lv st) : wpw p l e R s m args below meth c A s.heap nL Q D cl ws cells slots pc lv (.ref a :: st) := fun H locs ls hP hD hS hl => by
  exact W.objInit hC.1 hC.2.1 hC.2.2.2.1 (hC.2.2.2.2.1 _ h1) (hC.2.2.2.2.1 _ h2) (hC.2.2.2.2.1 _ h3) rfl (by rw [hC.2.2.1]; exact hl.1) rfl hd hfr (by show 2 * 0 + _ + 12 ≤ _; omega) (kk H locs ls hP hD hS hl)
theorem wpw_i2c {x : Int} (hC : Cw p s m args meth c A s.heap nL D cl tys cc own Ts) (hd : decode cc pc = .ok (.i2c, 1)) (ra : 0 ≤ x ∧ x < 65536) (kk : wpw p l e R s m args below meth c A s.heap nL Q D cl ws cells slots (pc + 1) lv (.int (zI x) :: st)) : wpw p l e R s m args below meth c A s.heap nL Q D cl ws cells slots pc lv (.int (zI x) :: st) := fun H locs ls hP hD hS hl => by
  refine lv_i2c hC.1 hC.2.1 hd (v := zI x) ?_ (kk H locs ls hP hD hS hl)
  obtain ⟨q, rfl⟩ := Int.eq_ofNat_of_zero_le ra.1
  show ((zI (q : Nat)).toUInt32 % 65536).toInt32 = zI (q : Nat)
  rw [zI_nI, pk_char, pk_tn (by omega), Nat.mod_eq_of_lt (by omega)]
/-- a constant's bytes copied -/
theorem wpw_copyt {st : List Value} (hC : Cw p s m args meth c A s.heap nL D cl tys cc own Ts) {j t a2 n0 n2 b0 : Nat} {f g : Nat → Int32} {k x : Int} {ws2 : va_W} (hF : va_T .byte b0 n0 (fun j => .int (f j)) A s s.heap) (hj : ws[j]? = some (a2, .inl (cB, n2, .inl g))) (ht : tys[t]? = some (cB, .byte)) (li : n0 ≤ 4000 ∧ n2 ≤ 4000) (h0 : 0 ≤ k ∧ k ≤ n0 ∧ 0 ≤ x ∧ x + k ≤ n2) (hfit : ∀ q, q < n0 → fits .byte (.int (f q)) = true) (hl : Cond.methodLink own index arraycopyName ∈ Ts) (hn : Cond.native arraycopyName ∈ Ts) (hs : Cond.static arraycopyName ∈ Ts) (hini : Cond.initialized "java/lang/System" ∈ Ts) (hfr : 1 ≤ R.frames) (hloc : (st.map fun v => v.category).sum + (nativeFrameWords "java/lang/System" "arraycopy" 5 + 11) ≤ R.locals) (h2 : ws.set j (a2, .inl (cB, n2, .inl (va_cpy f g 0 x.toNat k.toNat))) = ws2) (hd : decode cc pc = .ok (.invokestatic index, 3)) (kk : wpw p l e R s m args below meth c A s.heap nL Q D cl ws2 cells slots (pc + 3) lv st) : wpw p l e R s m args below meth c A s.heap nL Q D cl ws cells slots pc lv (.int (zI k) :: .int (zI x) :: .ref a2 :: .int (zI 0) :: .ref b0 :: st) := fun H locs ls hP hD hS hlv => by
  subst h2
  have hk : iR k := ⟨by omega, by omega⟩
  have hx : iR x := ⟨by omega, by omega⟩
  have hz : iR 0 := ⟨by decide, by decide⟩
  have nn : ∀ z : Int, iR z → 0 ≤ z → ¬ zI z < 0 := fun z r q w => by
    have := Int32.lt_iff_toInt_lt.mp w
    rw [zI_toInt r] at this
    have e0 : (0 : Int32).toInt = 0 := rfl
    omega
  refine vk_copyt (D := D) (tys := tys) hC.1 hC.2.1 (by rw [hC.2.2.1]; exact hlv.1.symm) hC.2.2.2.1 (hC.2.2.2.2.1 _ hl) (hC.2.2.2.2.1 _ hn) (hC.2.2.2.2.1 _ hs) (hC.2.2.2.2.1 _ hini) hC.2.2.2.2.2.1 hP hD hS hF j t hj ht (nn 0 hz (by decide)) (nn x hx h0.2.2.1) (nn k hk h0.1) ?_ ?_ (fun q hq => ?_) hfr hloc hd (fun H1 locs1 hP1 hD1 hS1 => ?_)
  · rw [zI_clamp hz, zI_clamp hk]; show 0 + k.toNat ≤ n0; omega
  · rw [zI_clamp hx, zI_clamp hk]; omega
  · rw [zI_clamp hk] at hq
    rw [zI_clamp hz]
    exact hfit _ (by show 0 + q < n0; omega)
  · rw [zI_clamp hz, zI_clamp hx, zI_clamp hk] at hP1 hD1
    exact kk H1 locs1 ls hP1 hD1 hS1 hlv
end CALt
