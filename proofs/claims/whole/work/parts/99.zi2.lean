/-! rows for the law -/
section LAWr
variable {p : Program} {l : Launch} {e : Env} {R : Room} {s : State} {m : MethodId} {args : Array Value} {below : List Frame} {meth : Method} {c : Code} {A : Nat → Prop} {nL : Nat} {Q : State → Prop} {G : Gy}
variable {σ : St} {pc : Nat} {lv : List (Nat × Value)} {st stk : List Value} {cc : ByteArray} {own : String} {Ts : List Cond}
variable {i index maxL N : Nat} {C : String} {T : u_T} {y : MethodName} {ws ws' : List Cond} {rm : Room} {bytes : ByteArray} {ty : FieldType} {As : List Value}
variable {X : va_W} {cells slots : Nat} {Z : Ky} {cB : ClassId} {b L : Nat} {xs : Nat → Int32}
theorem wpx_tabIn {x v dflt lo hi off : Int} {offs : Array Int} {len tgt : Nat} (hC : Cx p s m args meth c A s.heap nL G cc own Ts) (hd : decode cc pc = .ok (.tableswitch dflt lo hi offs, len)) (hx : x = v) (rv : iR v) (h1 : lo ≤ v) (h2 : v ≤ hi) (ho : offs[(v - lo).toNat]? = some off) (ht : (pc : Int) + off = (tgt : Int)) (kk : wpx p l e R s m args below meth c A s.heap nL Q G X cells slots σ tgt lv st) : wpx p l e R s m args below meth c A s.heap nL Q G X cells slots σ pc lv (.int (zI x) :: st) := fun H locs ls hP hD hS hl => by
  subst hx
  exact lv_tableIn hC.1 hC.2.1 hd (by rw [zI_toInt rv]; omega) (by rw [zI_toInt rv]; omega) (by rw [zI_toInt rv]; exact ho) ht (kk H locs ls hP hD hS hl)
theorem wpx_tabOut {x dflt lo hi : Int} {offs : Array Int} {len tgt : Nat} (hC : Cx p s m args meth c A s.heap nL G cc own Ts) (hd : decode cc pc = .ok (.tableswitch dflt lo hi offs, len)) (rx : iR x) (h : x < lo ∨ hi < x) (ht : (pc : Int) + dflt = (tgt : Int)) (kk : wpx p l e R s m args below meth c A s.heap nL Q G X cells slots σ tgt lv st) : wpx p l e R s m args below meth c A s.heap nL Q G X cells slots σ pc lv (.int (zI x) :: st) := fun H locs ls hP hD hS hl => by
  exact lv_tableOut hC.1 hC.2.1 hd (by rw [zI_toInt rx]; exact h) ht (kk H locs ls hP hD hS hl)
theorem wpx_lcmp {x v : Int} (hC : Cx p s m args meth c A s.heap nL G cc own Ts) (hd : decode cc pc = .ok (.lcmp, 1)) (ra : lR x) (rb : lR v) (kk : wpx p l e R s m args below meth c A s.heap nL Q G X cells slots σ (pc + 1) lv (.int (zI (lcI x v)) :: st)) : wpx p l e R s m args below meth c A s.heap nL Q G X cells slots σ pc lv (.long (zL v) :: .long (zL x) :: st) := fun H locs ls hP hD hS hl => by
  refine W.lcmp hC.1 hC.2.1 hd ?_
  rw [lg_cmpZ ra rb]
  exact kk H locs ls hP hD hS hl
theorem wpx_i2l {x : Int} (hC : Cx p s m args meth c A s.heap nL G cc own Ts) (hd : decode cc pc = .ok (.i2l, 1)) (kk : wpx p l e R s m args below meth c A s.heap nL Q G X cells slots σ (pc + 1) lv (.long (zI x).toInt64 :: st)) : wpx p l e R s m args below meth c A s.heap nL Q G X cells slots σ pc lv (.int (zI x) :: st) := fun H locs ls hP hD hS hl => by
  exact lv_i2l hC.1 hC.2.1 hd rfl (kk H locs ls hP hD hS hl)
theorem wpx_lshl {x : Int64} {v : Int} (hC : Cx p s m args meth c A s.heap nL G cc own Ts) (hd : decode cc pc = .ok (.lshl, 1)) (kk : wpx p l e R s m args below meth c A s.heap nL Q G X cells slots σ (pc + 1) lv (.long (x <<< ((zI v).toInt64 &&& 63)) :: st)) : wpx p l e R s m args below meth c A s.heap nL Q G X cells slots σ pc lv (.int (zI v) :: .long x :: st) := fun H locs ls hP hD hS hl => by
  exact lv_lshl hC.1 hC.2.1 hd rfl (kk H locs ls hP hD hS hl)
theorem wpx_land {x v : Int64} (hC : Cx p s m args meth c A s.heap nL G cc own Ts) (hd : decode cc pc = .ok (.land, 1)) (kk : wpx p l e R s m args below meth c A s.heap nL Q G X cells slots σ (pc + 1) lv (.long (x &&& v) :: st)) : wpx p l e R s m args below meth c A s.heap nL Q G X cells slots σ pc lv (.long v :: .long x :: st) := fun H locs ls hP hD hS hl => by
  exact lv_land hC.1 hC.2.1 hd (kk H locs ls hP hD hS hl)
theorem wpx_lor {x v : Int64} (hC : Cx p s m args meth c A s.heap nL G cc own Ts) (hd : decode cc pc = .ok (.lor, 1)) (kk : wpx p l e R s m args below meth c A s.heap nL Q G X cells slots σ (pc + 1) lv (.long (x ||| v) :: st)) : wpx p l e R s m args below meth c A s.heap nL Q G X cells slots σ pc lv (.long v :: .long x :: st) := fun H locs ls hP hD hS hl => by
  exact lv_lor hC.1 hC.2.1 hd (kk H locs ls hP hD hS hl)
theorem wpx_topL {x : Int64} (kk : wpx p l e R s m args below meth c A s.heap nL Q G X cells slots σ pc lv (.long (zL x.toInt) :: st)) : wpx p l e R s m args below meth c A s.heap nL Q G X cells slots σ pc lv (.long x :: st) := by
  have e : zL x.toInt = x := Int64.ofInt_toInt x
  rw [e] at kk
  exact kk
/-- the script's numbers -/
def sv (xs : Nat → Int32) (x : Int) : Int := (xs x.toNat).toInt
theorem sv_iR {x : Int} : iR (sv xs x) := iR_of _
theorem wpx_sld {x : Int} (hC : Cx p s m args meth c A s.heap nL G cc own Ts) (hX : va_X b L xs s s.heap) (hb : b < s.heap.size) (hA : ¬ A b) (hL : L ≤ 2560) (hx : 0 ≤ x ∧ x < L) (hd : decode cc pc = .ok (.iaload, 1)) (kk : wpx p l e R s m args below meth c A s.heap nL Q G X cells slots σ (pc + 1) lv (.int (zI (sv xs x)) :: st)) : wpx p l e R s m args below meth c A s.heap nL Q G X cells slots σ pc lv (.int (zI x) :: .ref b :: st) := fun H locs ls hP hD hS hl => by
  have hr : iR x := ⟨by omega, by omega⟩
  refine va_sld hC.1 hC.2.1 hX hb hA hS (zI_vp hr hx.1 hx.2) hd ?_
  have h := kk H locs ls hP hD hS hl
  unfold sv at h
  rw [zI_of] at h
  rw [zI_clamp hr]
  exact h
theorem wpx_slen (hC : Cx p s m args meth c A s.heap nL G cc own Ts) (hX : va_X b L xs s s.heap) (hb : b < s.heap.size) (hA : ¬ A b) (hd : decode cc pc = .ok (.arraylength, 1)) (kk : wpx p l e R s m args below meth c A s.heap nL Q G X cells slots σ (pc + 1) lv (.int (zI L) :: st)) : wpx p l e R s m args below meth c A s.heap nL Q G X cells slots σ pc lv (.ref b :: st) := fun H locs ls hP hD hS hl => by
  refine va_slen hC.1 hC.2.1 hX hb hA hS hd ?_
  exact kk H locs ls hP hD hS hl
theorem wpx_callVg {post : Int → St → Prop} (hC : Cx p s m args meth c A s.heap nL G cc own Ts) (hX : XKK G Z cB A s) (hM : MIg l y ws rm G Z cB (.ref (G.2.2 i) :: As) σ post) (hT : GoodIn Ts (wsV own index C y ws)) (hw : ws = Cond.code y bytes maxL (some ty) :: ws') (hR : rm.frames + 1 ≤ R.frames ∧ 8 + (maxL + 11) + rm.locals ≤ R.locals) (hy : y.cls = C ∧ y.cls ≠ "java/lang/invoke/MethodHandle" ∧ y.cls ≠ "java/lang/invoke/VarHandle" ∧ (parseMethodDescriptor y.desc).map (fun d => d.parameters.length) = some As.length) (ho : kd i = 0) (hi : i < NID) (hcl : vwCl[kc i]? = some (C, T, N)) (hstk : stk = As.reverse ++ .ref (G.2.2 i) :: st) (hcat : (st.map fun v => v.category).sum ≤ 8) (hroom : cells + rm.cells ≤ R.cells ∧ slots + rm.slots ≤ R.slots) (hd : decode cc pc = .ok (.invokevirtual index, 3)) (kk : ∀ (x : Int) (σ2 : St), iR x → post x σ2 → wpx p l e R s m args below meth c A s.heap nL Q G X (cells + rm.cells) (slots + rm.slots) σ2 (pc + 3) lv (.int (zI x) :: st)) : wpx p l e R s m args below meth c A s.heap nL Q G X cells slots σ pc lv stk := fun H locs ls hP hD hS hl => by
  refine va_calli (va_runV (As := As) (rest := st) ⟨hC.1, hC.2.1, hC.2.2.1, hC.2.2.2.1, hC.2.2.2.2.1⟩ (hM H.size) (cwV As.length hC.2.2.2.2.1 hT hw rfl rfl hy hR) ⟨fbWg, va_recv hC.2.2.2.2.2.1 (wlx_P hP) (q := (C, T, N)) hcl (q0 := i) (by rw [wl_get hi, ct_0 ho]), fun U hU hW => ⟨rfl, by rw [hU], by rw [hU]; exact wlx_P hP, nestP.warm hW hC.2.2.2.2.2.2.2.2.2, XKK.up hX hS hU hW (aA_up hC.2.2.2.2.2.2.2.1 hS)⟩⟩ rfl rfl hl.1 hstk (lv_room hcat) hd hroom) hS (fun q _ h => aA_up hC.2.2.2.2.2.2.2.1 hS q h) (aA_up hC.2.2.2.2.2.2.2.1 hS) (fun r u t H1 locs1 ht hvm hw9 hB hz hk hS1 => by
    obtain ⟨x, hx, rfl, hp⟩ := hw9
    rw [ht] at hB
    obtain ⟨hB2, hD2⟩ := wlx_call hP hD hB hk
    exact kk x u hx hp H1 locs1 ls hB2 hD2 hS1 hl)
end LAWr
