/-! functional contracts, truth values, more rows -/
def bI (b : Prop) [Decidable b] : Int := if b then 1 else 0
theorem bI1 {b : Prop} [Decidable b] (h : b) : (1 : Int) = bI b := (if_pos h).symm
theorem bI0 {b : Prop} [Decidable b] (h : ¬ b) : (0 : Int) = bI b := (if_neg h).symm
theorem bI_c {a b : Prop} [Decidable a] [Decidable b] (h : a ↔ b) : bI a = bI b := by
  unfold bI
  by_cases ha : a
  · rw [if_pos ha, if_pos (h.mp ha)]
  · rw [if_neg ha, if_neg (fun q => ha (h.mpr q))]
theorem bI_eq0 {b : Prop} [Decidable b] : bI b = 0 ↔ ¬ b := by
  unfold bI
  by_cases h : b
  · rw [if_pos h]
    exact ⟨fun q => absurd q (by decide), fun q => absurd h q⟩
  · rw [if_neg h]
    exact ⟨fun _ => h, fun _ => rfl⟩
theorem bI_rng {b : Prop} [Decidable b] : bI b = 0 ∨ bI b = 1 := by
  unfold bI
  by_cases h : b
  · rw [if_pos h]; exact Or.inr rfl
  · rw [if_neg h]; exact Or.inl rfl
theorem iR_bI {b : Prop} [Decidable b] : iR (bI b) := by
  rcases bI_rng (b := b) with h | h <;> rw [h] <;> exact ⟨by decide, by decide⟩
theorem bI_nar {b : Prop} [Decidable b] : narrow .boolean (.int (zI (bI b))) = .int (zI (bI b)) := by
  rcases bI_rng (b := b) with h | h <;> rw [h] <;> rfl
abbrev ME (l : Launch) (y : MethodName) (ws : List Cond) (rm : Room) (G : Gy) (as : List Value) (σ : St) (v : Int) (σ' : St) : Prop := MI l y ws rm G as σ (fun x σ2 => x = v ∧ σ2 = σ')
abbrev MP (l : Launch) (y : MethodName) (ws : List Cond) (rm : Room) (G : Gy) (as : List Value) (σ : St) (post : Int → Prop) : Prop := MI l y ws rm G as σ (fun x σ2 => post x ∧ σ2 = σ)
abbrev MB (l : Launch) (y : MethodName) (ws : List Cond) (rm : Room) (G : Gy) (as : List Value) (σ : St) (b : Prop) [Decidable b] (σ' : St) : Prop := MI l y ws rm G as σ (fun x σ2 => x = bI b ∧ σ2 = σ')
abbrev MU (l : Launch) (y : MethodName) (ws : List Cond) (rm : Room) (G : Gy) (as : List Value) (σ : St) (σ' : St) : Prop := MV l y ws rm G as σ (fun σ2 => σ2 = σ')
def lcI (a b : Int) : Int := if b < a then 1 else if a = b then 0 else -1
theorem zL_toInt {x : Int} (h : lR x) : (zL x).toInt = x := by
  obtain ⟨h1, h2⟩ := h
  show (Int64.ofInt x).toInt = x
  rw [Int64.toInt_ofInt]
  have hs : (Int64.size : Int) = 18446744073709551616 := rfl
  exact Int.bmod_eq_of_le (by rw [hs]; omega) (by rw [hs]; omega)
theorem lg_cmpZ {a b : Int} (ha : lR a) (hb : lR b) : lg_cmp (zL a) (zL b) = zI (lcI a b) := by
  unfold lg_cmp lcI
  have h1 : (zL a > zL b) ↔ b < a := by rw [gt_iff_lt, Int64.lt_iff_toInt_lt, zL_toInt ha, zL_toInt hb]
  have h2 : (zL a = zL b) ↔ a = b := by rw [← Int64.toInt_inj, zL_toInt ha, zL_toInt hb]
  by_cases q : b < a
  · rw [if_pos (h1.mpr q), if_pos q]; rfl
  · rw [if_neg (fun z => q (h1.mp z)), if_neg q]
    by_cases r : a = b
    · rw [if_pos (h2.mpr r), if_pos r]; rfl
    · rw [if_neg (fun z => r (h2.mp z)), if_neg r]; rfl
theorem iR_lcI {a b : Int} : iR (lcI a b) := by
  unfold lcI
  split
  · exact ⟨by decide, by decide⟩
  · split <;> exact ⟨by decide, by decide⟩
theorem lcI_ge {a b : Int} : 0 ≤ lcI a b ↔ b ≤ a := by
  unfold lcI
  split
  · omega
  · split <;> omega
theorem lcI_le {a b : Int} : lcI a b ≤ 0 ↔ a ≤ b := by
  unfold lcI
  split
  · omega
  · split <;> omega
theorem lcI_eq {a b : Int} : lcI a b = 0 ↔ a = b := by
  unfold lcI
  split
  · omega
  · split <;> omega
section WQ
variable {p : Program} {l : Launch} {e : Env} {R : Room} {s : State} {m : MethodId} {args : Array Value} {below : List Frame} {meth : Method} {c : Code} {A : Nat → Prop} {H0 : Heap} {nL : Nat} {Q : State → Prop} {G : Gy}
variable {σ : St} {pc : Nat} {lv : List (Nat × Value)} {st stk : List Value} {cc : ByteArray} {own : String} {Ts : List Cond}
theorem wp_ifb_eq {b : Prop} [Decidable b] (hC : Cx p s m args meth c A H0 nL G cc own Ts) {off : Int} {tgt : Nat} (hd : decode cc pc = .ok (.ifCond .eq off, 3)) (ht : (pc : Int) + off = (tgt : Int)) (k1 : ¬ b → wp p l e R s m args below meth c A H0 nL Q G σ tgt lv st) (k2 : b → wp p l e R s m args below meth c A H0 nL Q G σ (pc + 3) lv st) : wp p l e R s m args below meth c A H0 nL Q G σ pc lv (.int (zI (bI b)) :: st) :=
  wp_if_eq hC hd ht iR_bI (fun h => k1 (bI_eq0.mp h)) (fun h => k2 (Decidable.not_not.mp (fun q => h (bI_eq0.mpr q))))
theorem wp_ifb_ne {b : Prop} [Decidable b] (hC : Cx p s m args meth c A H0 nL G cc own Ts) {off : Int} {tgt : Nat} (hd : decode cc pc = .ok (.ifCond .ne off, 3)) (ht : (pc : Int) + off = (tgt : Int)) (k1 : b → wp p l e R s m args below meth c A H0 nL Q G σ tgt lv st) (k2 : ¬ b → wp p l e R s m args below meth c A H0 nL Q G σ (pc + 3) lv st) : wp p l e R s m args below meth c A H0 nL Q G σ pc lv (.int (zI (bI b)) :: st) :=
  wp_if_ne hC hd ht iR_bI (fun h => k1 (Decidable.not_not.mp (fun q => h (bI_eq0.mpr q)))) (fun h => k2 (bI_eq0.mp h))
theorem wp_lcmp {a b : Int} (hC : Cx p s m args meth c A H0 nL G cc own Ts) (hd : decode cc pc = .ok (.lcmp, 1)) (ra : lR a) (rb : lR b) (kk : wp p l e R s m args below meth c A H0 nL Q G σ (pc + 1) lv (.int (zI (lcI a b)) :: st)) : wp p l e R s m args below meth c A H0 nL Q G σ pc lv (.long (zL b) :: .long (zL a) :: st) := fun H locs ls hP hS hl => by
  refine W.lcmp hC.1 hC.2.1 hd ?_
  rw [lg_cmpZ ra rb]
  exact kk H locs ls hP hS hl
theorem wp_i2l {a : Int} (hC : Cx p s m args meth c A H0 nL G cc own Ts) (hd : decode cc pc = .ok (.i2l, 1)) (ra : iR a) (kk : wp p l e R s m args below meth c A H0 nL Q G σ (pc + 1) lv (.long (zL a) :: st)) : wp p l e R s m args below meth c A H0 nL Q G σ pc lv (.int (zI a) :: st) := fun H locs ls hP hS hl => by
  refine lv_i2l hC.1 hC.2.1 hd (v := zL a) ?_ (kk H locs ls hP hS hl)
  apply Int64.toInt_inj.mp
  rw [Int32.toInt_toInt64, zI_toInt ra, zL_toInt ⟨by have := ra.1; omega, by have := ra.2; omega⟩]
theorem wp_l2i {a : Int} (hC : Cx p s m args meth c A H0 nL G cc own Ts) (hd : decode cc pc = .ok (.l2i, 1)) (ra : iR a) (kk : wp p l e R s m args below meth c A H0 nL Q G σ (pc + 1) lv (.int (zI a) :: st)) : wp p l e R s m args below meth c A H0 nL Q G σ pc lv (.long (zL a) :: st) := fun H locs ls hP hS hl => by
  refine lv_l2i hC.1 hC.2.1 hd (v := zI a) ?_ (kk H locs ls hP hS hl)
  apply Int32.toInt_inj.mp
  rw [Int64.toInt_toInt32, zI_toInt ra, zL_toInt ⟨by have := ra.1; omega, by have := ra.2; omega⟩]
  have := ra.1
  have := ra.2
  exact Int.bmod_eq_of_le (by omega) (by omega)
theorem wp_i2c {a : Int} (hC : Cx p s m args meth c A H0 nL G cc own Ts) (hd : decode cc pc = .ok (.i2c, 1)) (ra : 0 ≤ a ∧ a < 65536) (kk : wp p l e R s m args below meth c A H0 nL Q G σ (pc + 1) lv (.int (zI a) :: st)) : wp p l e R s m args below meth c A H0 nL Q G σ pc lv (.int (zI a) :: st) := fun H locs ls hP hS hl => by
  refine lv_i2c hC.1 hC.2.1 hd (v := zI a) ?_ (kk H locs ls hP hS hl)
  obtain ⟨q, rfl⟩ := Int.eq_ofNat_of_zero_le ra.1
  show ((zI (q : Nat)).toUInt32 % 65536).toInt32 = zI (q : Nat)
  rw [zI_nI, pk_char, pk_tn (by omega), Nat.mod_eq_of_lt (by omega)]
theorem wp_tabIn {x v dflt lo hi off : Int} {offs : Array Int} {len tgt : Nat} (hC : Cx p s m args meth c A H0 nL G cc own Ts) (hd : decode cc pc = .ok (.tableswitch dflt lo hi offs, len)) (hx : x = v) (rv : iR v) (h1 : lo ≤ v) (h2 : v ≤ hi) (ho : offs[(v - lo).toNat]? = some off) (ht : (pc : Int) + off = (tgt : Int)) (kk : wp p l e R s m args below meth c A H0 nL Q G σ tgt lv st) : wp p l e R s m args below meth c A H0 nL Q G σ pc lv (.int (zI x) :: st) := fun H locs ls hP hS hl => by
  subst hx
  exact lv_tableIn hC.1 hC.2.1 hd (by rw [zI_toInt rv]; omega) (by rw [zI_toInt rv]; omega) (by rw [zI_toInt rv]; exact ho) ht (kk H locs ls hP hS hl)
theorem wp_tabOut {x dflt lo hi : Int} {offs : Array Int} {len tgt : Nat} (hC : Cx p s m args meth c A H0 nL G cc own Ts) (hd : decode cc pc = .ok (.tableswitch dflt lo hi offs, len)) (rx : iR x) (h : x < lo ∨ hi < x) (ht : (pc : Int) + dflt = (tgt : Int)) (kk : wp p l e R s m args below meth c A H0 nL Q G σ tgt lv st) : wp p l e R s m args below meth c A H0 nL Q G σ pc lv (.int (zI x) :: st) := fun H locs ls hP hS hl => by
  exact lv_tableOut hC.1 hC.2.1 hd (by rw [zI_toInt rx]; exact h) ht (kk H locs ls hP hS hl)
theorem wp_mmax {index : Nat} {a b : Int} (hC : Cx p s m args meth c A H0 nL G cc own Ts) (h1 : Cond.methodLink own index Lib.Math.max.name ∈ Ts) (h2 : Cond.static Lib.Math.max.name ∈ Ts) (h3 : Cond.initialized "java/lang/Math" ∈ Ts) (h4 : Cond.code Lib.Math.max.name Lib.Math.max.code 2 (some .int) ∈ Ts) (hf : 1 ≤ R.frames) (hlo : (st.map fun v => v.category).sum + 13 ≤ R.locals) (ra : iR a) (rb : iR b) (hd : decode cc pc = .ok (.invokestatic index, 3))
    (kk : wp p l e R s m args below meth c A H0 nL Q G σ (pc + 3) lv (.int (zI (max a b)) :: st)) : wp p l e R s m args below meth c A H0 nL Q G σ pc lv (.int (zI b) :: .int (zI a) :: st) := fun H locs ls hP hS hl => by
  refine va_mmax hC.1 hC.2.1 (by rw [hC.2.2.1]; exact hl.1.symm) hC.2.2.2.1 (hC.2.2.2.2.1 _ h1) (hC.2.2.2.2.1 _ h2) (hC.2.2.2.2.1 _ h3) (hC.2.2.2.2.1 _ h4) hf hlo (Nat.zero_le _) (Nat.zero_le _) hd ?_
  have e : (if zI a < zI b then zI b else zI a) = zI (max a b) := by
    by_cases h : a < b
    · rw [if_pos ((zI_lt ra rb).mpr h), Int.max_eq_right (by omega)]
    · rw [if_neg (fun q => h ((zI_lt ra rb).mp q)), Int.max_eq_left (by omega)]
  rw [e]
  exact kk H locs ls hP hS hl
theorem wp_mmin {index : Nat} {a b : Int} (hC : Cx p s m args meth c A H0 nL G cc own Ts) (h1 : Cond.methodLink own index Lib.Math.min.name ∈ Ts) (h2 : Cond.static Lib.Math.min.name ∈ Ts) (h3 : Cond.initialized "java/lang/Math" ∈ Ts) (h4 : Cond.code Lib.Math.min.name Lib.Math.min.code 2 (some .int) ∈ Ts) (hf : 1 ≤ R.frames) (hlo : (st.map fun v => v.category).sum + 13 ≤ R.locals) (ra : iR a) (rb : iR b) (hd : decode cc pc = .ok (.invokestatic index, 3))
    (kk : wp p l e R s m args below meth c A H0 nL Q G σ (pc + 3) lv (.int (zI (min a b)) :: st)) : wp p l e R s m args below meth c A H0 nL Q G σ pc lv (.int (zI b) :: .int (zI a) :: st) := fun H locs ls hP hS hl => by
  refine va_mmin hC.1 hC.2.1 (by rw [hC.2.2.1]; exact hl.1.symm) hC.2.2.2.1 (hC.2.2.2.2.1 _ h1) (hC.2.2.2.2.1 _ h2) (hC.2.2.2.2.1 _ h3) (hC.2.2.2.2.1 _ h4) hf hlo (Nat.zero_le _) (Nat.zero_le _) hd ?_
  have e : (if zI a ≤ zI b then zI a else zI b) = zI (min a b) := by
    by_cases h : a ≤ b
    · rw [if_pos ((zI_le ra rb).mpr h), Int.min_eq_left h]
    · rw [if_neg (fun q => h ((zI_le ra rb).mp q)), Int.min_eq_right (by omega)]
  have e2 : (if zI b < zI a then zI b else zI a) = zI (min a b) := by
    by_cases h : b < a
    · rw [if_pos ((zI_lt rb ra).mpr h), Int.min_eq_right (by omega)]
    · rw [if_neg (fun q => h ((zI_lt rb ra).mp q)), Int.min_eq_left (by omega)]
  first | (rw [e]; exact kk H locs ls hP hS hl) | (rw [e2]; exact kk H locs ls hP hS hl)
end WQ
section CQ
variable {p : Program} {l : Launch} {e : Env} {R : Room} {s : State} {m : MethodId} {args : Array Value} {below : List Frame} {meth : Method} {c : Code} {A : Nat → Prop} {H0 : Heap} {nL : Nat} {Q : State → Prop} {G : Gy}
variable {σ : St} {pc : Nat} {lv : List (Nat × Value)} {st stk : List Value} {cc : ByteArray} {own : String} {Ts : List Cond}
variable {i index maxL N : Nat} {C host : String} {T : u_T} {y : MethodName} {ws ws' : List Cond} {rm : Room} {bytes : ByteArray} {ty : FieldType} {As : List Value}
theorem wp_callVe {v : Int} {σ2 : St} (hC : Cx p s m args meth c A H0 nL G cc own Ts) (hM : ME l y ws rm G (.ref (G.2.2 i) :: As) σ v σ2) (hT : GoodIn Ts (wsV own index C y ws)) (hw : ws = Cond.code y bytes maxL (some ty) :: ws') (hrm : rm.cells = 0 ∧ rm.slots = 0) (hR : rm.frames + 1 ≤ R.frames ∧ 8 + (maxL + 11) + rm.locals ≤ R.locals) (hy : y.cls = C ∧ y.cls ≠ "java/lang/invoke/MethodHandle" ∧ y.cls ≠ "java/lang/invoke/VarHandle" ∧ (parseMethodDescriptor y.desc).map (fun d => d.parameters.length) = some As.length) (ho : kd i = 0) (hi : i < NID) (hcl : vwCl[kc i]? = some (C, T, N)) (hstk : stk = As.reverse ++ .ref (G.2.2 i) :: st) (hcat : (st.map fun v => v.category).sum ≤ 8) (hd : decode cc pc = .ok (.invokevirtual index, 3)) (kk : iR v → wp p l e R s m args below meth c A H0 nL Q G σ2 (pc + 3) lv (.int (zI v) :: st)) : wp p l e R s m args below meth c A H0 nL Q G σ pc lv stk :=
  wp_callVi hC hM hT hw hrm hR hy ho hi hcl hstk hcat hd (fun x s2 hx hp => by
    obtain ⟨h1, h2⟩ := hp
    subst h1
    subst h2
    exact kk hx)
theorem wp_callVb {b : Prop} [Decidable b] {σ2 : St} (hC : Cx p s m args meth c A H0 nL G cc own Ts) (hM : MB l y ws rm G (.ref (G.2.2 i) :: As) σ b σ2) (hT : GoodIn Ts (wsV own index C y ws)) (hw : ws = Cond.code y bytes maxL (some ty) :: ws') (hrm : rm.cells = 0 ∧ rm.slots = 0) (hR : rm.frames + 1 ≤ R.frames ∧ 8 + (maxL + 11) + rm.locals ≤ R.locals) (hy : y.cls = C ∧ y.cls ≠ "java/lang/invoke/MethodHandle" ∧ y.cls ≠ "java/lang/invoke/VarHandle" ∧ (parseMethodDescriptor y.desc).map (fun d => d.parameters.length) = some As.length) (ho : kd i = 0) (hi : i < NID) (hcl : vwCl[kc i]? = some (C, T, N)) (hstk : stk = As.reverse ++ .ref (G.2.2 i) :: st) (hcat : (st.map fun v => v.category).sum ≤ 8) (hd : decode cc pc = .ok (.invokevirtual index, 3)) (kk : iR (bI b) → wp p l e R s m args below meth c A H0 nL Q G σ2 (pc + 3) lv (.int (zI (bI b)) :: st)) : wp p l e R s m args below meth c A H0 nL Q G σ pc lv stk :=
  wp_callVi hC hM hT hw hrm hR hy ho hi hcl hstk hcat hd (fun x s2 hx hp => by
    obtain ⟨h1, h2⟩ := hp
    subst h1
    subst h2
    exact kk hx)
theorem wp_callVp {post : Int → Prop} (hC : Cx p s m args meth c A H0 nL G cc own Ts) (hM : MP l y ws rm G (.ref (G.2.2 i) :: As) σ post) (hT : GoodIn Ts (wsV own index C y ws)) (hw : ws = Cond.code y bytes maxL (some ty) :: ws') (hrm : rm.cells = 0 ∧ rm.slots = 0) (hR : rm.frames + 1 ≤ R.frames ∧ 8 + (maxL + 11) + rm.locals ≤ R.locals) (hy : y.cls = C ∧ y.cls ≠ "java/lang/invoke/MethodHandle" ∧ y.cls ≠ "java/lang/invoke/VarHandle" ∧ (parseMethodDescriptor y.desc).map (fun d => d.parameters.length) = some As.length) (ho : kd i = 0) (hi : i < NID) (hcl : vwCl[kc i]? = some (C, T, N)) (hstk : stk = As.reverse ++ .ref (G.2.2 i) :: st) (hcat : (st.map fun v => v.category).sum ≤ 8) (hd : decode cc pc = .ok (.invokevirtual index, 3)) (kk : ∀ x : Int, iR x → post x → wp p l e R s m args below meth c A H0 nL Q G σ (pc + 3) lv (.int (zI x) :: st)) : wp p l e R s m args below meth c A H0 nL Q G σ pc lv stk :=
  wp_callVi hC hM hT hw hrm hR hy ho hi hcl hstk hcat hd (fun x s2 hx hp => by
    obtain ⟨h1, h2⟩ := hp
    subst h2
    exact kk x hx h1)
theorem wp_callVu {σ2 : St} (hC : Cx p s m args meth c A H0 nL G cc own Ts) (hM : MU l y ws rm G (.ref (G.2.2 i) :: As) σ σ2) (hT : GoodIn Ts (wsV own index C y ws)) (hw : ws = Cond.code y bytes maxL (none) :: ws') (hrm : rm.cells = 0 ∧ rm.slots = 0) (hR : rm.frames + 1 ≤ R.frames ∧ 8 + (maxL + 11) + rm.locals ≤ R.locals) (hy : y.cls = C ∧ y.cls ≠ "java/lang/invoke/MethodHandle" ∧ y.cls ≠ "java/lang/invoke/VarHandle" ∧ (parseMethodDescriptor y.desc).map (fun d => d.parameters.length) = some As.length) (ho : kd i = 0) (hi : i < NID) (hcl : vwCl[kc i]? = some (C, T, N)) (hstk : stk = As.reverse ++ .ref (G.2.2 i) :: st) (hcat : (st.map fun v => v.category).sum ≤ 8) (hd : decode cc pc = .ok (.invokevirtual index, 3)) (kk : wp p l e R s m args below meth c A H0 nL Q G σ2 (pc + 3) lv st) : wp p l e R s m args below meth c A H0 nL Q G σ pc lv stk :=
  wp_callVv hC hM hT hw hrm hR hy ho hi hcl hstk hcat hd (fun s2 hp => by
    subst hp
    exact kk)
theorem wp_callSe {v : Int} {σ2 : St} (hC : Cx p s m args meth c A H0 nL G cc own Ts) (hM : ME l y ws rm G As σ v σ2) (hT : GoodIn Ts (va_wsS own index y ws)) (hw : ws = Cond.code y bytes maxL (some ty) :: ws') (hrm : rm.cells = 0 ∧ rm.slots = 0) (hR : rm.frames + 1 ≤ R.frames ∧ 8 + (maxL + 11) + rm.locals ≤ R.locals) (hy : y.cls ≠ "java/lang/invoke/MethodHandle" ∧ y.cls ≠ "java/lang/invoke/VarHandle" ∧ (parseMethodDescriptor y.desc).map (fun d => d.parameters.length) = some As.length) (hstk : stk = As.reverse ++ st) (hcat : (st.map fun v => v.category).sum ≤ 8) (hd : decode cc pc = .ok (.invokestatic index, 3)) (kk : iR v → wp p l e R s m args below meth c A H0 nL Q G σ2 (pc + 3) lv (.int (zI v) :: st)) : wp p l e R s m args below meth c A H0 nL Q G σ pc lv stk :=
  wp_callSi hC hM hT hw hrm hR hy hstk hcat hd (fun x s2 hx hp => by
    obtain ⟨h1, h2⟩ := hp
    subst h1
    subst h2
    exact kk hx)
theorem wp_callSb {b : Prop} [Decidable b] {σ2 : St} (hC : Cx p s m args meth c A H0 nL G cc own Ts) (hM : MB l y ws rm G As σ b σ2) (hT : GoodIn Ts (va_wsS own index y ws)) (hw : ws = Cond.code y bytes maxL (some ty) :: ws') (hrm : rm.cells = 0 ∧ rm.slots = 0) (hR : rm.frames + 1 ≤ R.frames ∧ 8 + (maxL + 11) + rm.locals ≤ R.locals) (hy : y.cls ≠ "java/lang/invoke/MethodHandle" ∧ y.cls ≠ "java/lang/invoke/VarHandle" ∧ (parseMethodDescriptor y.desc).map (fun d => d.parameters.length) = some As.length) (hstk : stk = As.reverse ++ st) (hcat : (st.map fun v => v.category).sum ≤ 8) (hd : decode cc pc = .ok (.invokestatic index, 3)) (kk : iR (bI b) → wp p l e R s m args below meth c A H0 nL Q G σ2 (pc + 3) lv (.int (zI (bI b)) :: st)) : wp p l e R s m args below meth c A H0 nL Q G σ pc lv stk :=
  wp_callSi hC hM hT hw hrm hR hy hstk hcat hd (fun x s2 hx hp => by
    obtain ⟨h1, h2⟩ := hp
    subst h1
    subst h2
    exact kk hx)
theorem wp_callSp {post : Int → Prop} (hC : Cx p s m args meth c A H0 nL G cc own Ts) (hM : MP l y ws rm G As σ post) (hT : GoodIn Ts (va_wsS own index y ws)) (hw : ws = Cond.code y bytes maxL (some ty) :: ws') (hrm : rm.cells = 0 ∧ rm.slots = 0) (hR : rm.frames + 1 ≤ R.frames ∧ 8 + (maxL + 11) + rm.locals ≤ R.locals) (hy : y.cls ≠ "java/lang/invoke/MethodHandle" ∧ y.cls ≠ "java/lang/invoke/VarHandle" ∧ (parseMethodDescriptor y.desc).map (fun d => d.parameters.length) = some As.length) (hstk : stk = As.reverse ++ st) (hcat : (st.map fun v => v.category).sum ≤ 8) (hd : decode cc pc = .ok (.invokestatic index, 3)) (kk : ∀ x : Int, iR x → post x → wp p l e R s m args below meth c A H0 nL Q G σ (pc + 3) lv (.int (zI x) :: st)) : wp p l e R s m args below meth c A H0 nL Q G σ pc lv stk :=
  wp_callSi hC hM hT hw hrm hR hy hstk hcat hd (fun x s2 hx hp => by
    obtain ⟨h1, h2⟩ := hp
    subst h2
    exact kk x hx h1)
theorem wp_callSu {σ2 : St} (hC : Cx p s m args meth c A H0 nL G cc own Ts) (hM : MU l y ws rm G As σ σ2) (hT : GoodIn Ts (va_wsS own index y ws)) (hw : ws = Cond.code y bytes maxL (none) :: ws') (hrm : rm.cells = 0 ∧ rm.slots = 0) (hR : rm.frames + 1 ≤ R.frames ∧ 8 + (maxL + 11) + rm.locals ≤ R.locals) (hy : y.cls ≠ "java/lang/invoke/MethodHandle" ∧ y.cls ≠ "java/lang/invoke/VarHandle" ∧ (parseMethodDescriptor y.desc).map (fun d => d.parameters.length) = some As.length) (hstk : stk = As.reverse ++ st) (hcat : (st.map fun v => v.category).sum ≤ 8) (hd : decode cc pc = .ok (.invokestatic index, 3)) (kk : wp p l e R s m args below meth c A H0 nL Q G σ2 (pc + 3) lv st) : wp p l e R s m args below meth c A H0 nL Q G σ pc lv stk :=
  wp_callSv hC hM hT hw hrm hR hy hstk hcat hd (fun s2 hp => by
    subst hp
    exact kk)
theorem wp_callNe {v : Int} {σ2 : St} (hC : Cx p s m args meth c A H0 nL G cc own Ts) (hM : ME l y ws rm G As σ v σ2) (hT : GoodIn Ts ws) (hw : ws = Cond.code y bytes maxL (some ty) :: ws') (hrm : rm.cells = 0 ∧ rm.slots = 0) (hR : rm.frames + 1 ≤ R.frames ∧ 8 + (maxL + 11) + rm.locals ≤ R.locals) (hy : y.cls ≠ "java/lang/invoke/MethodHandle" ∧ y.cls ≠ "java/lang/invoke/VarHandle" ∧ (parseMethodDescriptor y.desc).map (fun d => d.parameters.length) = some As.length) (hln : Cond.methodLinkNest own index y host ∈ tables_1) (hini : Cond.initialized y.cls ∈ Ts) (hstt : Cond.static y ∈ Ts) (hstk : stk = As.reverse ++ st) (hcat : (st.map fun v => v.category).sum ≤ 8) (hd : decode cc pc = .ok (.invokestatic index, 3)) (kk : iR v → wp p l e R s m args below meth c A H0 nL Q G σ2 (pc + 3) lv (.int (zI v) :: st)) : wp p l e R s m args below meth c A H0 nL Q G σ pc lv stk :=
  wp_callNi hC hM hT hw hrm hR hy hln hini hstt hstk hcat hd (fun x s2 hx hp => by
    obtain ⟨h1, h2⟩ := hp
    subst h1
    subst h2
    exact kk hx)
theorem wp_callNb {b : Prop} [Decidable b] {σ2 : St} (hC : Cx p s m args meth c A H0 nL G cc own Ts) (hM : MB l y ws rm G As σ b σ2) (hT : GoodIn Ts ws) (hw : ws = Cond.code y bytes maxL (some ty) :: ws') (hrm : rm.cells = 0 ∧ rm.slots = 0) (hR : rm.frames + 1 ≤ R.frames ∧ 8 + (maxL + 11) + rm.locals ≤ R.locals) (hy : y.cls ≠ "java/lang/invoke/MethodHandle" ∧ y.cls ≠ "java/lang/invoke/VarHandle" ∧ (parseMethodDescriptor y.desc).map (fun d => d.parameters.length) = some As.length) (hln : Cond.methodLinkNest own index y host ∈ tables_1) (hini : Cond.initialized y.cls ∈ Ts) (hstt : Cond.static y ∈ Ts) (hstk : stk = As.reverse ++ st) (hcat : (st.map fun v => v.category).sum ≤ 8) (hd : decode cc pc = .ok (.invokestatic index, 3)) (kk : iR (bI b) → wp p l e R s m args below meth c A H0 nL Q G σ2 (pc + 3) lv (.int (zI (bI b)) :: st)) : wp p l e R s m args below meth c A H0 nL Q G σ pc lv stk :=
  wp_callNi hC hM hT hw hrm hR hy hln hini hstt hstk hcat hd (fun x s2 hx hp => by
    obtain ⟨h1, h2⟩ := hp
    subst h1
    subst h2
    exact kk hx)
theorem wp_callNp {post : Int → Prop} (hC : Cx p s m args meth c A H0 nL G cc own Ts) (hM : MP l y ws rm G As σ post) (hT : GoodIn Ts ws) (hw : ws = Cond.code y bytes maxL (some ty) :: ws') (hrm : rm.cells = 0 ∧ rm.slots = 0) (hR : rm.frames + 1 ≤ R.frames ∧ 8 + (maxL + 11) + rm.locals ≤ R.locals) (hy : y.cls ≠ "java/lang/invoke/MethodHandle" ∧ y.cls ≠ "java/lang/invoke/VarHandle" ∧ (parseMethodDescriptor y.desc).map (fun d => d.parameters.length) = some As.length) (hln : Cond.methodLinkNest own index y host ∈ tables_1) (hini : Cond.initialized y.cls ∈ Ts) (hstt : Cond.static y ∈ Ts) (hstk : stk = As.reverse ++ st) (hcat : (st.map fun v => v.category).sum ≤ 8) (hd : decode cc pc = .ok (.invokestatic index, 3)) (kk : ∀ x : Int, iR x → post x → wp p l e R s m args below meth c A H0 nL Q G σ (pc + 3) lv (.int (zI x) :: st)) : wp p l e R s m args below meth c A H0 nL Q G σ pc lv stk :=
  wp_callNi hC hM hT hw hrm hR hy hln hini hstt hstk hcat hd (fun x s2 hx hp => by
    obtain ⟨h1, h2⟩ := hp
    subst h2
    exact kk x hx h1)
theorem wp_callNu {σ2 : St} (hC : Cx p s m args meth c A H0 nL G cc own Ts) (hM : MU l y ws rm G As σ σ2) (hT : GoodIn Ts ws) (hw : ws = Cond.code y bytes maxL (none) :: ws') (hrm : rm.cells = 0 ∧ rm.slots = 0) (hR : rm.frames + 1 ≤ R.frames ∧ 8 + (maxL + 11) + rm.locals ≤ R.locals) (hy : y.cls ≠ "java/lang/invoke/MethodHandle" ∧ y.cls ≠ "java/lang/invoke/VarHandle" ∧ (parseMethodDescriptor y.desc).map (fun d => d.parameters.length) = some As.length) (hln : Cond.methodLinkNest own index y host ∈ tables_1) (hini : Cond.initialized y.cls ∈ Ts) (hstt : Cond.static y ∈ Ts) (hstk : stk = As.reverse ++ st) (hcat : (st.map fun v => v.category).sum ≤ 8) (hd : decode cc pc = .ok (.invokestatic index, 3)) (kk : wp p l e R s m args below meth c A H0 nL Q G σ2 (pc + 3) lv st) : wp p l e R s m args below meth c A H0 nL Q G σ pc lv stk :=
  wp_callNv hC hM hT hw hrm hR hy hln hini hstt hstk hcat hd (fun s2 hp => by
    subst hp
    exact kk)
end CQ
section PQ
variable {p : Program} {l : Launch} {e : Env} {R : Room} {s : State} {m : MethodId} {args : Array Value} {below : List Frame} {meth : Method} {c : Code} {A : Nat → Prop} {H0 : Heap} {nL : Nat} {Q : State → Prop} {G : Gy}
variable {σ : St} {pc : Nat} {lv : List (Nat × Value)} {st : List Value} {cc : ByteArray} {own : String} {Ts : List Cond}
theorem wp_puti2 (hC : Cx p s m args meth c A H0 nL G cc own Ts) {v : Int} {C : String} {T : u_T} {N index i k : Nat} {z : Int} (hz : (k : Int) = z) (ho : kd i = 0) (hi : i < NID) (hcl : vwCl[kc i]? = some (C, T, N)) (hkn : kn i = N) (hk : k < N) (hu : ∀ w ∈ u_ws C T N, w ∈ Ts) (hw : Cond.fieldLink own index (T k).1 (T k).2.1 (T k).2.2.1 ∈ Ts) (ty0 : Nat → FieldType) (hty : ∀ k, k < N → parseFieldDescriptor (T k).2.2.1 = some (ty0 k)) (hnm : ∀ a, a < N → ∀ b, b < N → a ≠ b → (T a).2.1 ≠ (T b).2.1) (hfin : (T k).2.2.2 = false) (ht0 : ty0 k = .int) (hf : fr i k = none) (hd : decode cc pc = .ok (.putfield index, 3)) (kk : wp p l e R s m args below meth c A H0 nL Q G (put σ i z v) (pc + 3) lv st) : wp p l e R s m args below meth c A H0 nL Q G σ pc lv (.int (zI v) :: .ref (G.2.2 i) :: st) :=
  wp_puti hC hz ho hi hcl hkn hk hu hw ty0 hty hnm hfin ht0 hf hd (by rw [hz]; exact kk)
theorem wp_putz2 (hC : Cx p s m args meth c A H0 nL G cc own Ts) {v : Int} {C : String} {T : u_T} {N index i k : Nat} {z : Int} (hz : (k : Int) = z) (ho : kd i = 0) (hi : i < NID) (hcl : vwCl[kc i]? = some (C, T, N)) (hkn : kn i = N) (hk : k < N) (hu : ∀ w ∈ u_ws C T N, w ∈ Ts) (hw : Cond.fieldLink own index (T k).1 (T k).2.1 (T k).2.2.1 ∈ Ts) (ty0 : Nat → FieldType) (hty : ∀ k, k < N → parseFieldDescriptor (T k).2.2.1 = some (ty0 k)) (hnm : ∀ a, a < N → ∀ b, b < N → a ≠ b → (T a).2.1 ≠ (T b).2.1) (hfin : (T k).2.2.2 = false) (ht0 : ty0 k = .boolean) (hf : fr i k = none) (hb : v = 0 ∨ v = 1) (hd : decode cc pc = .ok (.putfield index, 3)) (kk : wp p l e R s m args below meth c A H0 nL Q G (put σ i z v) (pc + 3) lv st) : wp p l e R s m args below meth c A H0 nL Q G σ pc lv (.int (zI v) :: .ref (G.2.2 i) :: st) :=
  wp_putz hC hz ho hi hcl hkn hk hu hw ty0 hty hnm hfin ht0 hf hb hd (by rw [hz]; exact kk)
theorem wp_putiN2 (hC : Cx p s m args meth c A H0 nL G cc own Ts) {v : Int} {C : String} {T : u_T} {N index i k : Nat} {z : Int} (hz : (k : Int) = z) (ho : kd i = 0) (hi : i < NID) (hcl : vwCl[kc i]? = some (C, T, N)) (hkn : kn i = N) (hk : k < N) (hu : ∀ w ∈ u_ws C T N, w ∈ Ts) {host : String} (hw : Cond.fieldLinkNest own index (T k).1 (T k).2.1 (T k).2.2.1 host ∈ tables_1) (ty0 : Nat → FieldType) (hty : ∀ k, k < N → parseFieldDescriptor (T k).2.2.1 = some (ty0 k)) (hnm : ∀ a, a < N → ∀ b, b < N → a ≠ b → (T a).2.1 ≠ (T b).2.1) (hfin : (T k).2.2.2 = false) (ht0 : ty0 k = .int) (hf : fr i k = none) (hd : decode cc pc = .ok (.putfield index, 3)) (kk : wp p l e R s m args below meth c A H0 nL Q G (put σ i z v) (pc + 3) lv st) : wp p l e R s m args below meth c A H0 nL Q G σ pc lv (.int (zI v) :: .ref (G.2.2 i) :: st) :=
  wp_putiN hC hz ho hi hcl hkn hk hu hw ty0 hty hnm hfin ht0 hf hd (by rw [hz]; exact kk)
theorem wp_putzN2 (hC : Cx p s m args meth c A H0 nL G cc own Ts) {v : Int} {C : String} {T : u_T} {N index i k : Nat} {z : Int} (hz : (k : Int) = z) (ho : kd i = 0) (hi : i < NID) (hcl : vwCl[kc i]? = some (C, T, N)) (hkn : kn i = N) (hk : k < N) (hu : ∀ w ∈ u_ws C T N, w ∈ Ts) {host : String} (hw : Cond.fieldLinkNest own index (T k).1 (T k).2.1 (T k).2.2.1 host ∈ tables_1) (ty0 : Nat → FieldType) (hty : ∀ k, k < N → parseFieldDescriptor (T k).2.2.1 = some (ty0 k)) (hnm : ∀ a, a < N → ∀ b, b < N → a ≠ b → (T a).2.1 ≠ (T b).2.1) (hfin : (T k).2.2.2 = false) (ht0 : ty0 k = .boolean) (hf : fr i k = none) (hb : v = 0 ∨ v = 1) (hd : decode cc pc = .ok (.putfield index, 3)) (kk : wp p l e R s m args below meth c A H0 nL Q G (put σ i z v) (pc + 3) lv st) : wp p l e R s m args below meth c A H0 nL Q G σ pc lv (.int (zI v) :: .ref (G.2.2 i) :: st) :=
  wp_putzN hC hz ho hi hcl hkn hk hu hw ty0 hty hnm hfin ht0 hf hb hd (by rw [hz]; exact kk)
end PQ
