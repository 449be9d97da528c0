/-! nest mates' private members: the tables' words of them -/
def isN : Cond → Bool
  | .fieldLinkNest _ _ _ _ _ _ => true
  | .methodLinkNest _ _ _ _ => true
  | _ => false
def nestP (U : State) : Prop := ∀ w ∈ tables_1, isN w = true → va_Nw w U
theorem isN_tab : ∀ {w : Cond}, isN w = true → w.onTables = true := by
  intro w h
  cases w <;> first | rfl | (simp [isN] at h)
theorem nestP.warm {s U : State} (hW : s.WarmedH U.vm) (h : nestP s) : nestP U := by
  intro w hw hn
  have h1 := h w hw hn
  cases w <;> first | exact va_Nw.warmF hW h1 | exact va_Nw.warmM hW h1 | (simp [isN] at hn)
theorem nestP.same {u U : State} (hv : u.vm = U.vm) (h : nestP u) : nestP U := fun w hw hn => va_Nw.same (isN_tab hn) hv (h w hw hn)
theorem nestP.use {U : State} {A : Array Value} (h : nestP U) {w : Cond} (hw : w ∈ tables_1) (hn : isN w = true) : w.before A U = true := va_Nw.use (isN_tab hn) (h w hw hn)

/-! THE JUDGEMENT wp: from any heap that holds the numbered world σ, with these locals and stack at pc, the machine comes to Q -/
def lg : List (Nat × Value) → Nat → Option Value
  | [], _ => none
  | q :: t, i => if q.1 = i then some q.2 else lg t i
def lput : List (Nat × Value) → Nat → Value → List (Nat × Value)
  | [], i, v => [(i, v)]
  | q :: t, i, v => if q.1 < i then (if (q.1 + 1 == i && q.2.category == 2) = true then lput t i v else q :: lput t i v) else (i, v) :: (q :: t).filter (fun q => !(q.1 == i) && !(q.1 + 1 == i && q.2.category == 2))
theorem lg_mem : ∀ {lv : List (Nat × Value)} {i : Nat} {v : Value}, lg lv i = some v → (i, v) ∈ lv
  | [], _, _, h => by cases h
  | q :: t, i, v, h => by
    unfold lg at h
    by_cases e : q.1 = i
    · rw [if_pos e] at h
      cases h
      subst e
      exact List.mem_cons_self
    · rw [if_neg e] at h
      exact List.mem_cons_of_mem _ (lg_mem h)
theorem lg_at {ls : Array Slot} {nL : Nat} {lv : List (Nat × Value)} (h : lv_has ls nL lv) {i : Nat} {v : Value} (hg : lg lv i = some v) : ls[i]? = some (.val v) := h.2.2 (i, v) (lg_mem hg)
theorem lg_pl {lv : List (Nat × Value)} {i : Nat} {v : Value} (hg : lg lv i = some v) : ∃ k : Nat, lv[k]? = some (i, v) := List.getElem?_of_mem (lg_mem hg)
theorem lput_mem : ∀ {lv : List (Nat × Value)} {i : Nat} {v : Value} {q : Nat × Value}, q ∈ lput lv i v → q ∈ (i, v) :: lv.filter (fun q => !(q.1 == i) && !(q.1 + 1 == i && q.2.category == 2))
  | [], i, v, q, h => h
  | r :: t, i, v, q, h => by
    unfold lput at h
    by_cases a : r.1 < i
    · rw [if_pos a] at h
      by_cases b : (r.1 + 1 == i && r.2.category == 2) = true
      · rw [if_pos b] at h
        have h2 := lput_mem h
        rw [List.filter_cons, if_neg (by rw [b]; simp)]
        exact h2
      · rw [if_neg b] at h
        have hr : (!(r.1 == i) && !(r.1 + 1 == i && r.2.category == 2)) = true := by
          have h1 : (r.1 == i) = false := by simp; omega
          rw [h1]
          cases hb : (r.1 + 1 == i && r.2.category == 2)
          · rfl
          · exact absurd hb b
        rw [List.filter_cons, if_pos hr]
        rcases List.mem_cons.mp h with e | h
        · rw [e]; exact List.mem_cons_of_mem _ List.mem_cons_self
        · rcases List.mem_cons.mp (lput_mem h) with e | h
          · rw [e]; exact List.mem_cons_self
          · exact List.mem_cons_of_mem _ (List.mem_cons_of_mem _ h)
    · rw [if_neg a] at h
      exact h
theorem lput_has {ls : Array Slot} {nL : Nat} {lv : List (Nat × Value)} {i : Nat} {v : Value} (h : lv_has ls nL ((i, v) :: lv.filter (fun q => !(q.1 == i) && !(q.1 + 1 == i && q.2.category == 2)))) : lv_has ls nL (lput lv i v) := ⟨h.1, h.2.1, fun q hq => h.2.2 q (lput_mem hq)⟩
def aA (G : Gy) (sz : Nat) : Nat → Prop := fun q => (∃ i, i < NID ∧ q = G.2.2 i) ∨ sz ≤ q
def Inj (G : Gy) : Prop := ∀ i j, i < NID → j < NID → G.2.2 i = G.2.2 j → i = j
theorem wl_D {G : Gy} (h : Inj G) (sz : Nat) (σ : St) : va_D (aA G sz) (wl G σ) := by
  have key : ∀ (k : Nat) (q : Nat × va_E), (wl G σ)[k]? = some q → k < NID ∧ q.1 = G.2.2 k := by
    intro k q hk
    by_cases hl : k < NID
    · rw [wl_get hl] at hk
      cases hk
      exact ⟨hl, rfl⟩
    · rw [List.getElem?_eq_none (by simp [wl]; omega)] at hk
      cases hk
  refine ⟨fun i j x y hi hj hxy => ?_, fun k q hk => ?_⟩
  · obtain ⟨a1, a2⟩ := key i x hi
    obtain ⟨b1, b2⟩ := key j y hj
    exact h i j a1 b1 (by rw [← a2, ← b2, hxy])
  · obtain ⟨a1, a2⟩ := key k q hk
    exact Or.inl ⟨k, a1, a2⟩
theorem fv_put {G : Gy} {σ : St} {i k : Nat} {v : Int} (hf : fr i k = none) : ((List.range (kn i)).map (fv G σ i)).set k (.int (zI v)) = (List.range (kn i)).map (fv G (put σ i k v) i) := by
  apply List.ext_getElem?
  intro j
  by_cases hj : j = k
  · subst hj
    by_cases hl : j < kn i
    · rw [List.getElem?_set_self (by simpa using hl), List.getElem?_map, List.getElem?_range hl]
      simp only [Option.map_some, fv, hf, put_s]
    · rw [List.getElem?_eq_none (by simp; omega), List.getElem?_eq_none (by simp; omega)]
  · rw [List.getElem?_set_ne (Ne.symm hj), List.getElem?_map, List.getElem?_map]
    by_cases hl : j < kn i
    · rw [List.getElem?_range hl]
      simp only [Option.map_some, fv]
      rw [put_k (show (j : Int) ≠ (k : Int) by omega)]
    · rw [List.getElem?_eq_none (by simp; omega)]
      rfl
theorem put_fld {G : Gy} {σ : St} {i k : Nat} {v : Int} (ho : kd i = 0) (hi : i < NID) (hf : fr i k = none) : (wl G σ).set i (G.2.2 i, .inr (kc i, ((List.range (kn i)).map (fv G σ i)).set k (.int (zI v)))) = wl G (put σ i k v) := by
  rw [fv_put hf]
  exact wl_set hi (ct_0 ho) (fun j _ hj => ct_put hj)
theorem put_ar1 {G : Gy} {σ : St} {i : Nat} {x v : Int} (ho : kd i = 1) (hi : i < NID) (hx : 0 ≤ x) : (wl G σ).set i (G.2.2 i, .inl (G.2.1 0, ln i, .inl (upd (fun j => zI (σ i j)) x.toNat (zI v)))) = wl G (put σ i x v) := by
  refine wl_set hi ?_ (fun j _ hj => ct_put hj)
  rw [ct_1 ho, upd_z (g := fun j => put σ i x v i j) hx (fun j => put_e)]
theorem put_ar2 {G : Gy} {σ : St} {i : Nat} {x v : Int} (ho : kd i = 2) (hi : i < NID) (hx : 0 ≤ x) : (wl G σ).set i (G.2.2 i, .inl (G.2.1 1, ln i, .inl (upd (fun j => zI (σ i j)) x.toNat (zI v)))) = wl G (put σ i x v) := by
  refine wl_set hi ?_ (fun j _ hj => ct_put hj)
  rw [ct_2 ho, upd_z (g := fun j => put σ i x v i j) hx (fun j => put_e)]
theorem put_ar3 {G : Gy} {σ : St} {i : Nat} {x v : Int} (ho : kd i = 3) (hi : i < NID) (hx : 0 ≤ x) : (wl G σ).set i (G.2.2 i, .inl (G.2.1 2, ln i, .inr (.inl (vp_updL (fun j => zL (σ i j)) x.toNat (zL v))))) = wl G (put σ i x v) := by
  refine wl_set hi ?_ (fun j _ hj => ct_put hj)
  rw [ct_3 ho]
  congr 5
  funext j
  unfold vp_updL
  rw [put_e]
  by_cases h : (j : Int) = x
  · rw [if_pos h, if_pos (by omega)]
  · rw [if_neg h, if_neg (by omega)]
theorem put_ar5 {G : Gy} {σ : St} {i : Nat} {x : Int} {q : Nat} (ho : kd i = 5) (hi : i < NID) (hx : 0 ≤ x) : (wl G σ).set i (G.2.2 i, .inl (G.2.1 4, ln i, .inr (.inr (.inr (.inr (va_up (fun j => some (G.2.2 (108 + 5 * (σ i j).toNat))) x.toNat (some (G.2.2 (108 + 5 * q)))))))) ) = wl G (put σ i x q) := by
  refine wl_set hi ?_ (fun j _ hj => ct_put hj)
  rw [ct_5 ho]
  congr 7
  funext j
  unfold va_up
  rw [put_e]
  by_cases h : (j : Int) = x
  · rw [if_pos h, if_pos (by omega)]
    simp
  · rw [if_neg h, if_neg (by omega)]
theorem zI_nI (q : Nat) : zI q = nI q := Int32.ofInt_eq_ofNat
theorem vp_charZ {v : Int} (hv : 0 ≤ v ∧ v < 65536) : vp_nar .char (zI v) = zI v := by
  obtain ⟨q, rfl⟩ := Int.eq_ofNat_of_zero_le hv.1
  show vp_nar .char (zI (q : Nat)) = zI (q : Nat)
  rw [zI_nI]
  have h := (pk_charN (q := q) (by omega)).1
  unfold vp_nar
  rw [h]
section AL
variable {p : Program} {l : Launch} {e : Env} {R : Room} {s : State} {m : MethodId} {args : Array Value} {below : List Frame} {meth : Method} {c : Code} {H : Heap} {locs : List Loc} {cells slots : Nat} {Q : State → Prop}
variable {cc : ByteArray} {pc : Nat} {ls : Array Slot} {rest : List Value} {D : va_G} {cl : List vw_C} {a : Nat} {tys : List (ClassId × FieldType)} {ws : va_W}
theorem va_aldA (hexec : p.tables.exec = Jvm.exec) (hb : c.code = cc) (hK : va_K D cl tys s) (hP : va_P D cl ws H) (q0 t0 : Nat) {cA : ClassId} {ty : FieldType} {n : Nat} {f : Nat → Option Nat} (ha : ws[q0]? = some (a, .inl (cA, n, .inr (.inr (.inr (.inr f)))))) (ht : tys[t0]? = some (cA, ty)) (hr : ty.isReference = true) {i : Int32} (hin : vp_in i n) (hdg : decode cc pc = .ok (.aaload, 1))
    (kk : W p l e R s m args below meth c H locs cells slots Q (F0 m (pc + 1) ls (va_rf (f i.toNatClampNeg) :: rest))) : W p l e R s m args below meth c H locs cells slots Q (F0 m pc ls (.int i :: .ref a :: rest)) := by
  have hlt : i.toNatClampNeg < n := Nat.not_le.mp fun q => hin (Or.inr q)
  exact W.aald (v := va_rf (f i.toNatClampNeg)) (ty := ty) hexec hb (hP q0 _ ha) ((hK.2 t0 _ ht).1 n (fun j => va_rf (f j))) hr (fun q => by cases q) (by show ¬ (i < 0 ∨ (arrV _ _ _).slots.size ≤ _); rw [arrV_size]; exact hin) (by show (arrV _ _ _).slots[_]? = _; rw [arrV_read _ _ hlt]) rfl rfl hdg kk
end AL
section WP
variable {p : Program} {l : Launch} {e : Env} {R : Room} {s : State} {m : MethodId} {args : Array Value} {below : List Frame} {meth : Method} {c : Code} {A : Nat → Prop} {H0 : Heap} {nL : Nat} {Q : State → Prop} {G : Gy}
variable {σ : St} {pc : Nat} {lv : List (Nat × Value)} {st : List Value} {cc : ByteArray} {own : String} {Ts : List Cond}
def Cx (p : Program) (s : State) (m : MethodId) (args : Array Value) (meth : Method) (c : Code) (A : Nat → Prop) (H0 : Heap) (nL : Nat) (G : Gy) (cc : ByteArray) (own : String) (Ts : List Cond) : Prop :=
  p.tables.exec = Jvm.exec ∧ c.code = cc ∧ c.maxLocals = nL ∧ s.vm.findClass own = some m.cls ∧ (∀ w ∈ Ts, w.before args s = true) ∧ va_K G.1 vwCl (tysW G) s ∧ (∀ σ, va_D A (wl G σ)) ∧ (∀ q, aA G H0.size q → A q) ∧ meth.locks = false ∧ nestP s
def wp (p : Program) (l : Launch) (e : Env) (R : Room) (s : State) (m : MethodId) (args : Array Value) (below : List Frame) (meth : Method) (c : Code) (A : Nat → Prop) (H0 : Heap) (nL : Nat) (Q : State → Prop) (G : Gy) (σ : St) (pc : Nat) (lv : List (Nat × Value)) (st : List Value) : Prop :=
  ∀ (H : Heap) (locs : List Loc) (ls : Array Slot), va_P G.1 vwCl (wl G σ) H → va_S A H0 H locs → lv_has ls nL lv → W p l e R s m args below meth c H locs 0 0 Q (F0 m pc ls st)
theorem wp_iconst (hC : Cx p s m args meth c A H0 nL G cc own Ts) {n : Int} (hd : decode cc pc = .ok (.iconst n, 1)) (kk : wp p l e R s m args below meth c A H0 nL Q G σ (pc + 1) lv (.int (zI n) :: st)) : wp p l e R s m args below meth c A H0 nL Q G σ pc lv st := fun H locs ls hP hS hl => by
  exact lv_iconst hC.1 hC.2.1 hd rfl (kk H locs ls hP hS hl)
theorem wp_bipush (hC : Cx p s m args meth c A H0 nL G cc own Ts) {n : Int} (hd : decode cc pc = .ok (.bipush n, 2)) (hn : (Int8.ofInt n).toInt32 = zI n) (kk : wp p l e R s m args below meth c A H0 nL Q G σ (pc + 2) lv (.int (zI n) :: st)) : wp p l e R s m args below meth c A H0 nL Q G σ pc lv st := fun H locs ls hP hS hl => by
  exact lv_bipush hC.1 hC.2.1 hd hn (kk H locs ls hP hS hl)
theorem wp_sipush (hC : Cx p s m args meth c A H0 nL G cc own Ts) {n : Int} (hd : decode cc pc = .ok (.sipush n, 3)) (hn : (Int16.ofInt n).toInt32 = zI n) (kk : wp p l e R s m args below meth c A H0 nL Q G σ (pc + 3) lv (.int (zI n) :: st)) : wp p l e R s m args below meth c A H0 nL Q G σ pc lv st := fun H locs ls hP hS hl => by
  exact lv_sipush hC.1 hC.2.1 hd hn (kk H locs ls hP hS hl)
theorem wp_ldc (hC : Cx p s m args meth c A H0 nL G cc own Ts) {index : Nat} {n : Int} (hd : decode cc pc = .ok (.ldc index, 2)) (hw : Jvm.Cond.constant own index (zI n) ∈ Ts) (kk : wp p l e R s m args below meth c A H0 nL Q G σ (pc + 2) lv (.int (zI n) :: st)) : wp p l e R s m args below meth c A H0 nL Q G σ pc lv st := fun H locs ls hP hS hl => by
  exact lv_ldc hC.1 hC.2.1 hC.2.2.2.1 (hC.2.2.2.2.1 _ hw) hd (kk H locs ls hP hS hl)
theorem wp_ldc2 (hC : Cx p s m args meth c A H0 nL G cc own Ts) {index : Nat} {n : Int} (hd : decode cc pc = .ok (.ldc2_w index, 3)) (hw : Jvm.Cond.constantLong own index (zL n) ∈ Ts) (kk : wp p l e R s m args below meth c A H0 nL Q G σ (pc + 3) lv (.long (zL n) :: st)) : wp p l e R s m args below meth c A H0 nL Q G σ pc lv st := fun H locs ls hP hS hl => by
  exact lv_ldc2 hC.1 hC.2.1 hC.2.2.2.1 (hC.2.2.2.2.1 _ hw) hd (kk H locs ls hP hS hl)
theorem wp_lconst (hC : Cx p s m args meth c A H0 nL G cc own Ts) {n : Fin 2} (hd : decode cc pc = .ok (.lconst n, 1)) (kk : wp p l e R s m args below meth c A H0 nL Q G σ (pc + 1) lv (.long (zL (n : Nat)) :: st)) : wp p l e R s m args below meth c A H0 nL Q G σ pc lv st := fun H locs ls hP hS hl => by
  exact lv_lconst hC.1 hC.2.1 hd rfl (kk H locs ls hP hS hl)
theorem wp_iload_n (hC : Cx p s m args meth c A H0 nL G cc own Ts) {k : Fin 4} {x : Int} (hd : decode cc pc = .ok (.iload_n k, 1)) (hg : lg lv k = some (.int (zI x))) (kk : wp p l e R s m args below meth c A H0 nL Q G σ (pc + 1) lv (.int (zI x) :: st)) : wp p l e R s m args below meth c A H0 nL Q G σ pc lv st := fun H locs ls hP hS hl => by
  exact lv_iload_n hC.1 hC.2.1 hd rfl (lg_at hl hg) (kk H locs ls hP hS hl)
theorem wp_iload (hC : Cx p s m args meth c A H0 nL G cc own Ts) {i : Nat} {x : Int} (hd : decode cc pc = .ok (.iload i, 2)) (hg : lg lv i = some (.int (zI x))) (kk : wp p l e R s m args below meth c A H0 nL Q G σ (pc + 2) lv (.int (zI x) :: st)) : wp p l e R s m args below meth c A H0 nL Q G σ pc lv st := fun H locs ls hP hS hl => by
  exact lv_iload hC.1 hC.2.1 hd (lg_at hl hg) (kk H locs ls hP hS hl)
theorem wp_lload_n (hC : Cx p s m args meth c A H0 nL G cc own Ts) {k : Fin 4} {x : Int} (hd : decode cc pc = .ok (.lload_n k, 1)) (hg : lg lv k = some (.long (zL x))) (kk : wp p l e R s m args below meth c A H0 nL Q G σ (pc + 1) lv (.long (zL x) :: st)) : wp p l e R s m args below meth c A H0 nL Q G σ pc lv st := fun H locs ls hP hS hl => by
  exact lv_lload_n hC.1 hC.2.1 hd rfl (lg_at hl hg) (kk H locs ls hP hS hl)
theorem wp_lload (hC : Cx p s m args meth c A H0 nL G cc own Ts) {i : Nat} {x : Int} (hd : decode cc pc = .ok (.lload i, 2)) (hg : lg lv i = some (.long (zL x))) (kk : wp p l e R s m args below meth c A H0 nL Q G σ (pc + 2) lv (.long (zL x) :: st)) : wp p l e R s m args below meth c A H0 nL Q G σ pc lv st := fun H locs ls hP hS hl => by
  exact lv_lload hC.1 hC.2.1 hd (lg_at hl hg) (kk H locs ls hP hS hl)
theorem wp_aload_n (hC : Cx p s m args meth c A H0 nL G cc own Ts) {k : Fin 4} {x : Nat} (hd : decode cc pc = .ok (.aload_n k, 1)) (hg : lg lv k = some (.ref x)) (kk : wp p l e R s m args below meth c A H0 nL Q G σ (pc + 1) lv (.ref x :: st)) : wp p l e R s m args below meth c A H0 nL Q G σ pc lv st := fun H locs ls hP hS hl => by
  exact lv_aload_n hC.1 hC.2.1 hd rfl (lg_at hl hg) (kk H locs ls hP hS hl)
theorem wp_aload (hC : Cx p s m args meth c A H0 nL G cc own Ts) {i : Nat} {x : Nat} (hd : decode cc pc = .ok (.aload i, 2)) (hg : lg lv i = some (.ref x)) (kk : wp p l e R s m args below meth c A H0 nL Q G σ (pc + 2) lv (.ref x :: st)) : wp p l e R s m args below meth c A H0 nL Q G σ pc lv st := fun H locs ls hP hS hl => by
  exact lv_aload hC.1 hC.2.1 hd (lg_at hl hg) (kk H locs ls hP hS hl)
theorem wp_istore_n (hC : Cx p s m args meth c A H0 nL G cc own Ts) {k : Fin 4} {x : Int} {lv2 : List (Nat × Value)} (hd : decode cc pc = .ok (.istore_n k, 1)) (hv : lput lv k (.int (zI x)) = lv2) (hn : (k : Nat) < nL) (kk : wp p l e R s m args below meth c A H0 nL Q G σ (pc + 1) lv2 st) : wp p l e R s m args below meth c A H0 nL Q G σ pc lv ((.int (zI x)) :: st) := fun H locs ls hP hS hl => by
  subst hv
  exact lv_istore_n hC.1 hC.2.1 hd rfl hl hn rfl (fun ls2 h2 => kk H locs ls2 hP hS (lput_has h2))
theorem wp_istore (hC : Cx p s m args meth c A H0 nL G cc own Ts) {i : Nat} {x : Int} {lv2 : List (Nat × Value)} (hd : decode cc pc = .ok (.istore i, 2)) (hv : lput lv i (.int (zI x)) = lv2) (hn : i < nL) (kk : wp p l e R s m args below meth c A H0 nL Q G σ (pc + 2) lv2 st) : wp p l e R s m args below meth c A H0 nL Q G σ pc lv ((.int (zI x)) :: st) := fun H locs ls hP hS hl => by
  subst hv
  exact lv_istore hC.1 hC.2.1 hd hl hn rfl (fun ls2 h2 => kk H locs ls2 hP hS (lput_has h2))
theorem wp_astore_n (hC : Cx p s m args meth c A H0 nL G cc own Ts) {k : Fin 4} {x : Nat} {lv2 : List (Nat × Value)} (hd : decode cc pc = .ok (.astore_n k, 1)) (hv : lput lv k (.ref x) = lv2) (hn : (k : Nat) < nL) (kk : wp p l e R s m args below meth c A H0 nL Q G σ (pc + 1) lv2 st) : wp p l e R s m args below meth c A H0 nL Q G σ pc lv ((.ref x) :: st) := fun H locs ls hP hS hl => by
  subst hv
  exact lv_astore_n hC.1 hC.2.1 hd rfl hl hn rfl (fun ls2 h2 => kk H locs ls2 hP hS (lput_has h2))
theorem wp_astore (hC : Cx p s m args meth c A H0 nL G cc own Ts) {i : Nat} {x : Nat} {lv2 : List (Nat × Value)} (hd : decode cc pc = .ok (.astore i, 2)) (hv : lput lv i (.ref x) = lv2) (hn : i < nL) (kk : wp p l e R s m args below meth c A H0 nL Q G σ (pc + 2) lv2 st) : wp p l e R s m args below meth c A H0 nL Q G σ pc lv ((.ref x) :: st) := fun H locs ls hP hS hl => by
  subst hv
  exact lv_astore hC.1 hC.2.1 hd hl hn rfl (fun ls2 h2 => kk H locs ls2 hP hS (lput_has h2))
theorem wp_lstore (hC : Cx p s m args meth c A H0 nL G cc own Ts) {i : Nat} {x : Int} {lv2 : List (Nat × Value)} (hd : decode cc pc = .ok (.lstore i, 2)) (hv : (i, Value.long (zL x)) :: lv.filter (fun q => !(q.1 == i) && (!(q.1 == i + 1) && !(q.1 + 1 == i && q.2.category == 2))) = lv2) (hn : i + 1 < nL) (kk : wp p l e R s m args below meth c A H0 nL Q G σ (pc + 2) lv2 st) : wp p l e R s m args below meth c A H0 nL Q G σ pc lv (.long (zL x) :: st) := fun H locs ls hP hS hl => by
  exact lv_lstore hC.1 hC.2.1 hd hl hn hv (fun ls2 h2 => kk H locs ls2 hP hS h2)
theorem wp_iinc (hC : Cx p s m args meth c A H0 nL G cc own Ts) {i : Nat} {n x : Int} {lv2 : List (Nat × Value)} (hd : decode cc pc = .ok (.iinc i n, 3)) (hg : lg lv i = some (.int (zI x))) (hv : lput lv i (.int (zI (x + n))) = lv2) (hn : i < nL) (kk : wp p l e R s m args below meth c A H0 nL Q G σ (pc + 3) lv2 st) : wp p l e R s m args below meth c A H0 nL Q G σ pc lv st := fun H locs ls hP hS hl => by
  subst hv
  obtain ⟨k, hk⟩ := lg_pl hg
  exact lv_iinc hC.1 hC.2.1 hd hl hk (zI_add x n) hn rfl (fun ls2 h2 => kk H locs ls2 hP hS (lput_has h2))
theorem wp_lv (hC : Cx p s m args meth c A H0 nL G cc own Ts) {lv2 : List (Nat × Value)} (ks : List Nat) (h : lv_pick lv ks = lv2) (kk : wp p l e R s m args below meth c A H0 nL Q G σ pc lv2 st) : wp p l e R s m args below meth c A H0 nL Q G σ pc lv st := fun H locs ls hP hS hl => by
  exact kk H locs ls hP hS (lv_sub hl ks h)
theorem wp_iadd (hC : Cx p s m args meth c A H0 nL G cc own Ts) {a b : Int} (hd : decode cc pc = .ok (.iadd, 1)) (kk : wp p l e R s m args below meth c A H0 nL Q G σ (pc + 1) lv (.int (zI (a + b)) :: st)) : wp p l e R s m args below meth c A H0 nL Q G σ pc lv (.int (zI b) :: .int (zI a) :: st) := fun H locs ls hP hS hl => by
  refine lv_iadd hC.1 hC.2.1 hd ?_
  rw [zI_add]
  exact kk H locs ls hP hS hl
theorem wp_isub (hC : Cx p s m args meth c A H0 nL G cc own Ts) {a b : Int} (hd : decode cc pc = .ok (.isub, 1)) (kk : wp p l e R s m args below meth c A H0 nL Q G σ (pc + 1) lv (.int (zI (a - b)) :: st)) : wp p l e R s m args below meth c A H0 nL Q G σ pc lv (.int (zI b) :: .int (zI a) :: st) := fun H locs ls hP hS hl => by
  refine lv_isub hC.1 hC.2.1 hd ?_
  rw [zI_sub]
  exact kk H locs ls hP hS hl
theorem wp_imul (hC : Cx p s m args meth c A H0 nL G cc own Ts) {a b : Int} (hd : decode cc pc = .ok (.imul, 1)) (kk : wp p l e R s m args below meth c A H0 nL Q G σ (pc + 1) lv (.int (zI (a * b)) :: st)) : wp p l e R s m args below meth c A H0 nL Q G σ pc lv (.int (zI b) :: .int (zI a) :: st) := fun H locs ls hP hS hl => by
  refine lv_imul hC.1 hC.2.1 hd ?_
  rw [zI_mul]
  exact kk H locs ls hP hS hl
theorem wp_iand (hC : Cx p s m args meth c A H0 nL G cc own Ts) {a b : Int} (hd : decode cc pc = .ok (.iand, 1)) (kk : wp p l e R s m args below meth c A H0 nL Q G σ (pc + 1) lv (.int (zI (iand a b)) :: st)) : wp p l e R s m args below meth c A H0 nL Q G σ pc lv (.int (zI b) :: .int (zI a) :: st) := fun H locs ls hP hS hl => by
  refine lv_iand hC.1 hC.2.1 hd ?_
  have h := kk H locs ls hP hS hl
  unfold iand at h
  rw [zI_of] at h
  exact h
theorem wp_ior (hC : Cx p s m args meth c A H0 nL G cc own Ts) {a b : Int} (hd : decode cc pc = .ok (.ior, 1)) (kk : wp p l e R s m args below meth c A H0 nL Q G σ (pc + 1) lv (.int (zI (ior a b)) :: st)) : wp p l e R s m args below meth c A H0 nL Q G σ pc lv (.int (zI b) :: .int (zI a) :: st) := fun H locs ls hP hS hl => by
  refine lv_ior hC.1 hC.2.1 hd ?_
  have h := kk H locs ls hP hS hl
  unfold ior at h
  rw [zI_of] at h
  exact h
theorem wp_ixor (hC : Cx p s m args meth c A H0 nL G cc own Ts) {a b : Int} (hd : decode cc pc = .ok (.ixor, 1)) (kk : wp p l e R s m args below meth c A H0 nL Q G σ (pc + 1) lv (.int (zI (ixor a b)) :: st)) : wp p l e R s m args below meth c A H0 nL Q G σ pc lv (.int (zI b) :: .int (zI a) :: st) := fun H locs ls hP hS hl => by
  refine lv_ixor hC.1 hC.2.1 hd ?_
  have h := kk H locs ls hP hS hl
  unfold ixor at h
  rw [zI_of] at h
  exact h
theorem wp_ishl (hC : Cx p s m args meth c A H0 nL G cc own Ts) {a b : Int} (hd : decode cc pc = .ok (.ishl, 1)) (kk : wp p l e R s m args below meth c A H0 nL Q G σ (pc + 1) lv (.int (zI (ishl a b)) :: st)) : wp p l e R s m args below meth c A H0 nL Q G σ pc lv (.int (zI b) :: .int (zI a) :: st) := fun H locs ls hP hS hl => by
  refine lv_ishl hC.1 hC.2.1 hd ?_
  have h := kk H locs ls hP hS hl
  unfold ishl at h
  rw [zI_of] at h
  exact h
theorem wp_ishr (hC : Cx p s m args meth c A H0 nL G cc own Ts) {a b : Int} (hd : decode cc pc = .ok (.ishr, 1)) (kk : wp p l e R s m args below meth c A H0 nL Q G σ (pc + 1) lv (.int (zI (ishr a b)) :: st)) : wp p l e R s m args below meth c A H0 nL Q G σ pc lv (.int (zI b) :: .int (zI a) :: st) := fun H locs ls hP hS hl => by
  refine lv_ishr hC.1 hC.2.1 hd ?_
  have h := kk H locs ls hP hS hl
  unfold ishr at h
  rw [zI_of] at h
  exact h
theorem wp_ineg (hC : Cx p s m args meth c A H0 nL G cc own Ts) {a : Int} (hd : decode cc pc = .ok (.ineg, 1)) (kk : wp p l e R s m args below meth c A H0 nL Q G σ (pc + 1) lv (.int (zI (-a)) :: st)) : wp p l e R s m args below meth c A H0 nL Q G σ pc lv (.int (zI a) :: st) := fun H locs ls hP hS hl => by
  refine lv_ineg hC.1 hC.2.1 hd ?_
  rw [zI_neg]
  exact kk H locs ls hP hS hl
theorem wp_idiv (hC : Cx p s m args meth c A H0 nL G cc own Ts) {a b : Int} (hd : decode cc pc = .ok (.idiv, 1)) (ra : iR a) (rb : 0 < b ∧ b ≤ 2147483647) (kk : wp p l e R s m args below meth c A H0 nL Q G σ (pc + 1) lv (.int (zI (a.tdiv b)) :: st)) : wp p l e R s m args below meth c A H0 nL Q G σ pc lv (.int (zI b) :: .int (zI a) :: st) := fun H locs ls hP hS hl => by
  have hb : iR b := ⟨by have := rb.1; omega, rb.2⟩
  refine lv_idiv hC.1 hC.2.1 hd (fun h => ?_) ?_
  · have h2 : zI b = zI 0 := h
    have := zI_inj hb ⟨by decide, by decide⟩ h2
    have := rb.1
    omega
  · rw [zI_div ra hb (fun q => by have := rb.1; have := q.2; omega)]
    exact kk H locs ls hP hS hl
theorem wp_irem (hC : Cx p s m args meth c A H0 nL G cc own Ts) {a b : Int} (hd : decode cc pc = .ok (.irem, 1)) (ra : iR a) (rb : 0 < b ∧ b ≤ 2147483647) (kk : wp p l e R s m args below meth c A H0 nL Q G σ (pc + 1) lv (.int (zI (a.tmod b)) :: st)) : wp p l e R s m args below meth c A H0 nL Q G σ pc lv (.int (zI b) :: .int (zI a) :: st) := fun H locs ls hP hS hl => by
  have hb : iR b := ⟨by have := rb.1; omega, rb.2⟩
  refine lv_irem hC.1 hC.2.1 hd (fun h => ?_) ?_
  · have h2 : zI b = zI 0 := h
    have := zI_inj hb ⟨by decide, by decide⟩ h2
    have := rb.1
    omega
  · rw [zI_div ra hb (fun q => by have := rb.1; have := q.2; omega), zI_mul, zI_sub]
    have h := kk H locs ls hP hS hl
    rw [Int.tmod_def, Int.mul_comm b] at h
    exact h
theorem wp_dup (hC : Cx p s m args meth c A H0 nL G cc own Ts) {v : Value} (hd : decode cc pc = .ok (.dup, 1)) (hv : v.category = 1) (kk : wp p l e R s m args below meth c A H0 nL Q G σ (pc + 1) lv (v :: v :: st)) : wp p l e R s m args below meth c A H0 nL Q G σ pc lv (v :: st) := fun H locs ls hP hS hl => by
  exact lv_dup hC.1 hC.2.1 hd hv (kk H locs ls hP hS hl)
theorem wp_dup2 (hC : Cx p s m args meth c A H0 nL G cc own Ts) {v u : Value} (hd : decode cc pc = .ok (.dup2, 1)) (hv : v.category = 1) (hu : u.category = 1) (kk : wp p l e R s m args below meth c A H0 nL Q G σ (pc + 1) lv (v :: u :: v :: u :: st)) : wp p l e R s m args below meth c A H0 nL Q G σ pc lv (v :: u :: st) := fun H locs ls hP hS hl => by
  exact lv_dup2_11 hC.1 hC.2.1 hd hv hu (kk H locs ls hP hS hl)
theorem wp_pop (hC : Cx p s m args meth c A H0 nL G cc own Ts) {v : Value} (hd : decode cc pc = .ok (.pop, 1)) (hv : v.category = 1) (kk : wp p l e R s m args below meth c A H0 nL Q G σ (pc + 1) lv st) : wp p l e R s m args below meth c A H0 nL Q G σ pc lv (v :: st) := fun H locs ls hP hS hl => by
  exact lv_pop hC.1 hC.2.1 hd hv (kk H locs ls hP hS hl)
theorem wp_goto (hC : Cx p s m args meth c A H0 nL G cc own Ts) {off : Int} {tgt : Nat} (hd : decode cc pc = .ok (.goto off, 3)) (ht : (pc : Int) + off = (tgt : Int)) (kk : wp p l e R s m args below meth c A H0 nL Q G σ tgt lv st) : wp p l e R s m args below meth c A H0 nL Q G σ pc lv st := fun H locs ls hP hS hl => by
  exact lv_goto hC.1 hC.2.1 hd ht (kk H locs ls hP hS hl)
theorem wp_icmp_lt (hC : Cx p s m args meth c A H0 nL G cc own Ts) {a b : Int} {off : Int} {tgt : Nat} (hd : decode cc pc = .ok (.if_icmp .lt off, 3)) (ht : (pc : Int) + off = (tgt : Int)) (ra : iR a) (rb : iR b) (k1 : a < b → wp p l e R s m args below meth c A H0 nL Q G σ tgt lv st) (k2 : b ≤ a → wp p l e R s m args below meth c A H0 nL Q G σ (pc + 3) lv st) : wp p l e R s m args below meth c A H0 nL Q G σ pc lv (.int (zI b) :: .int (zI a) :: st) := fun H locs ls hP hS hl => by
  exact lv_icmp_lt hC.1 hC.2.1 hd ht (fun h => k1 ((zI_lt ra rb).mp h) H locs ls hP hS hl) (fun h => k2 (Int.not_lt.mp (fun q => h ((zI_lt ra rb).mpr q))) H locs ls hP hS hl)
theorem wp_icmp_ge (hC : Cx p s m args meth c A H0 nL G cc own Ts) {a b : Int} {off : Int} {tgt : Nat} (hd : decode cc pc = .ok (.if_icmp .ge off, 3)) (ht : (pc : Int) + off = (tgt : Int)) (ra : iR a) (rb : iR b) (k1 : b ≤ a → wp p l e R s m args below meth c A H0 nL Q G σ tgt lv st) (k2 : a < b → wp p l e R s m args below meth c A H0 nL Q G σ (pc + 3) lv st) : wp p l e R s m args below meth c A H0 nL Q G σ pc lv (.int (zI b) :: .int (zI a) :: st) := fun H locs ls hP hS hl => by
  exact lv_icmp_ge hC.1 hC.2.1 hd ht (fun h => k1 ((zI_le rb ra).mp h) H locs ls hP hS hl) (fun h => k2 (Int.not_le.mp (fun q => h ((zI_le rb ra).mpr q))) H locs ls hP hS hl)
theorem wp_icmp_gt (hC : Cx p s m args meth c A H0 nL G cc own Ts) {a b : Int} {off : Int} {tgt : Nat} (hd : decode cc pc = .ok (.if_icmp .gt off, 3)) (ht : (pc : Int) + off = (tgt : Int)) (ra : iR a) (rb : iR b) (k1 : b < a → wp p l e R s m args below meth c A H0 nL Q G σ tgt lv st) (k2 : a ≤ b → wp p l e R s m args below meth c A H0 nL Q G σ (pc + 3) lv st) : wp p l e R s m args below meth c A H0 nL Q G σ pc lv (.int (zI b) :: .int (zI a) :: st) := fun H locs ls hP hS hl => by
  exact lv_icmp_gt hC.1 hC.2.1 hd ht (fun h => k1 ((zI_lt rb ra).mp h) H locs ls hP hS hl) (fun h => k2 (Int.not_lt.mp (fun q => h ((zI_lt rb ra).mpr q))) H locs ls hP hS hl)
theorem wp_icmp_le (hC : Cx p s m args meth c A H0 nL G cc own Ts) {a b : Int} {off : Int} {tgt : Nat} (hd : decode cc pc = .ok (.if_icmp .le off, 3)) (ht : (pc : Int) + off = (tgt : Int)) (ra : iR a) (rb : iR b) (k1 : a ≤ b → wp p l e R s m args below meth c A H0 nL Q G σ tgt lv st) (k2 : b < a → wp p l e R s m args below meth c A H0 nL Q G σ (pc + 3) lv st) : wp p l e R s m args below meth c A H0 nL Q G σ pc lv (.int (zI b) :: .int (zI a) :: st) := fun H locs ls hP hS hl => by
  exact lv_icmp_le hC.1 hC.2.1 hd ht (fun h => k1 ((zI_le ra rb).mp h) H locs ls hP hS hl) (fun h => k2 (Int.not_le.mp (fun q => h ((zI_le ra rb).mpr q))) H locs ls hP hS hl)
theorem wp_icmp_eq (hC : Cx p s m args meth c A H0 nL G cc own Ts) {a b : Int} {off : Int} {tgt : Nat} (hd : decode cc pc = .ok (.if_icmp .eq off, 3)) (ht : (pc : Int) + off = (tgt : Int)) (ra : iR a) (rb : iR b) (k1 : a = b → wp p l e R s m args below meth c A H0 nL Q G σ tgt lv st) (k2 : a ≠ b → wp p l e R s m args below meth c A H0 nL Q G σ (pc + 3) lv st) : wp p l e R s m args below meth c A H0 nL Q G σ pc lv (.int (zI b) :: .int (zI a) :: st) := fun H locs ls hP hS hl => by
  exact lv_icmp_eq hC.1 hC.2.1 hd ht (fun h => k1 ((zI_eq ra rb).mp h) H locs ls hP hS hl) (fun h => k2 (fun q => h ((zI_eq ra rb).mpr q)) H locs ls hP hS hl)
theorem wp_icmp_ne (hC : Cx p s m args meth c A H0 nL G cc own Ts) {a b : Int} {off : Int} {tgt : Nat} (hd : decode cc pc = .ok (.if_icmp .ne off, 3)) (ht : (pc : Int) + off = (tgt : Int)) (ra : iR a) (rb : iR b) (k1 : a ≠ b → wp p l e R s m args below meth c A H0 nL Q G σ tgt lv st) (k2 : a = b → wp p l e R s m args below meth c A H0 nL Q G σ (pc + 3) lv st) : wp p l e R s m args below meth c A H0 nL Q G σ pc lv (.int (zI b) :: .int (zI a) :: st) := fun H locs ls hP hS hl => by
  exact lv_icmp_ne hC.1 hC.2.1 hd ht (fun h => k1 (fun q => h ((zI_eq ra rb).mpr q)) H locs ls hP hS hl) (fun h => k2 ((zI_eq ra rb).mp h) H locs ls hP hS hl)
theorem iR_0 : iR 0 := ⟨by decide, by decide⟩
theorem wp_if_lt (hC : Cx p s m args meth c A H0 nL G cc own Ts) {a : Int} {off : Int} {tgt : Nat} (hd : decode cc pc = .ok (.ifCond .lt off, 3)) (ht : (pc : Int) + off = (tgt : Int)) (ra : iR a) (k1 : a < 0 → wp p l e R s m args below meth c A H0 nL Q G σ tgt lv st) (k2 : 0 ≤ a → wp p l e R s m args below meth c A H0 nL Q G σ (pc + 3) lv st) : wp p l e R s m args below meth c A H0 nL Q G σ pc lv (.int (zI a) :: st) := fun H locs ls hP hS hl => by
  exact lv_if_lt hC.1 hC.2.1 hd ht (fun h => k1 ((zI_lt ra iR_0).mp h) H locs ls hP hS hl) (fun h => k2 (Int.not_lt.mp (fun q => h ((zI_lt ra iR_0).mpr q))) H locs ls hP hS hl)
theorem wp_if_ge (hC : Cx p s m args meth c A H0 nL G cc own Ts) {a : Int} {off : Int} {tgt : Nat} (hd : decode cc pc = .ok (.ifCond .ge off, 3)) (ht : (pc : Int) + off = (tgt : Int)) (ra : iR a) (k1 : 0 ≤ a → wp p l e R s m args below meth c A H0 nL Q G σ tgt lv st) (k2 : a < 0 → wp p l e R s m args below meth c A H0 nL Q G σ (pc + 3) lv st) : wp p l e R s m args below meth c A H0 nL Q G σ pc lv (.int (zI a) :: st) := fun H locs ls hP hS hl => by
  exact lv_if_ge hC.1 hC.2.1 hd ht (fun h => k1 ((zI_le iR_0 ra).mp h) H locs ls hP hS hl) (fun h => k2 (Int.not_le.mp (fun q => h ((zI_le iR_0 ra).mpr q))) H locs ls hP hS hl)
theorem wp_if_gt (hC : Cx p s m args meth c A H0 nL G cc own Ts) {a : Int} {off : Int} {tgt : Nat} (hd : decode cc pc = .ok (.ifCond .gt off, 3)) (ht : (pc : Int) + off = (tgt : Int)) (ra : iR a) (k1 : 0 < a → wp p l e R s m args below meth c A H0 nL Q G σ tgt lv st) (k2 : a ≤ 0 → wp p l e R s m args below meth c A H0 nL Q G σ (pc + 3) lv st) : wp p l e R s m args below meth c A H0 nL Q G σ pc lv (.int (zI a) :: st) := fun H locs ls hP hS hl => by
  exact lv_if_gt hC.1 hC.2.1 hd ht (fun h => k1 ((zI_lt iR_0 ra).mp h) H locs ls hP hS hl) (fun h => k2 (Int.not_lt.mp (fun q => h ((zI_lt iR_0 ra).mpr q))) H locs ls hP hS hl)
theorem wp_if_le (hC : Cx p s m args meth c A H0 nL G cc own Ts) {a : Int} {off : Int} {tgt : Nat} (hd : decode cc pc = .ok (.ifCond .le off, 3)) (ht : (pc : Int) + off = (tgt : Int)) (ra : iR a) (k1 : a ≤ 0 → wp p l e R s m args below meth c A H0 nL Q G σ tgt lv st) (k2 : 0 < a → wp p l e R s m args below meth c A H0 nL Q G σ (pc + 3) lv st) : wp p l e R s m args below meth c A H0 nL Q G σ pc lv (.int (zI a) :: st) := fun H locs ls hP hS hl => by
  exact lv_if_le hC.1 hC.2.1 hd ht (fun h => k1 ((zI_le ra iR_0).mp h) H locs ls hP hS hl) (fun h => k2 (Int.not_le.mp (fun q => h ((zI_le ra iR_0).mpr q))) H locs ls hP hS hl)
theorem wp_if_eq (hC : Cx p s m args meth c A H0 nL G cc own Ts) {a : Int} {off : Int} {tgt : Nat} (hd : decode cc pc = .ok (.ifCond .eq off, 3)) (ht : (pc : Int) + off = (tgt : Int)) (ra : iR a) (k1 : a = 0 → wp p l e R s m args below meth c A H0 nL Q G σ tgt lv st) (k2 : a ≠ 0 → wp p l e R s m args below meth c A H0 nL Q G σ (pc + 3) lv st) : wp p l e R s m args below meth c A H0 nL Q G σ pc lv (.int (zI a) :: st) := fun H locs ls hP hS hl => by
  exact lv_if_eq hC.1 hC.2.1 hd ht (fun h => k1 ((zI_eq ra iR_0).mp h) H locs ls hP hS hl) (fun h => k2 (fun q => h ((zI_eq ra iR_0).mpr q)) H locs ls hP hS hl)
theorem wp_if_ne (hC : Cx p s m args meth c A H0 nL G cc own Ts) {a : Int} {off : Int} {tgt : Nat} (hd : decode cc pc = .ok (.ifCond .ne off, 3)) (ht : (pc : Int) + off = (tgt : Int)) (ra : iR a) (k1 : a ≠ 0 → wp p l e R s m args below meth c A H0 nL Q G σ tgt lv st) (k2 : a = 0 → wp p l e R s m args below meth c A H0 nL Q G σ (pc + 3) lv st) : wp p l e R s m args below meth c A H0 nL Q G σ pc lv (.int (zI a) :: st) := fun H locs ls hP hS hl => by
  exact lv_if_ne hC.1 hC.2.1 hd ht (fun h => k1 (fun q => h ((zI_eq ra iR_0).mpr q)) H locs ls hP hS hl) (fun h => k2 ((zI_eq ra iR_0).mp h) H locs ls hP hS hl)
theorem wp_geti (hC : Cx p s m args meth c A H0 nL G cc own Ts) {C : String} {T : u_T} {N index i k : Nat} {z : Int} (hz : (k : Int) = z) (ho : kd i = 0) (hi : i < NID) (hcl : vwCl[kc i]? = some (C, T, N)) (hkn : kn i = N) (hk : k < N) (hu : ∀ w ∈ u_ws C T N, w ∈ Ts) (hw : Cond.fieldLink own index (T k).1 (T k).2.1 (T k).2.2.1 ∈ Ts) (hf : fr i k = none) (hd : decode cc pc = .ok (.getfield index, 3)) (kk : wp p l e R s m args below meth c A H0 nL Q G σ (pc + 3) lv (.int (zI (σ i z)) :: st)) : wp p l e R s m args below meth c A H0 nL Q G σ pc lv (.ref (G.2.2 i) :: st) := fun H locs ls hP hS hl => by
  subst hz
  exact va_get (D := G.1) (ci := kc i) (own := own) (Ts := Ts) (v := .int (zI (σ i k))) hC.1 hC.2.1 hC.2.2.2.2.1 hu hC.2.2.2.1 hC.2.2.2.2.2.1 hP i (by rw [wl_get hi, ct_0 ho]) hcl k hk (hC.2.2.2.2.1 _ hw) (fun _ h9 => h9) (by rw [List.getElem?_map, List.getElem?_range (by rw [hkn]; exact hk)]; simp only [Option.map_some, fv, hf]) hd (kk H locs ls hP hS hl)
theorem wp_geta (hC : Cx p s m args meth c A H0 nL G cc own Ts) {j : Nat} {C : String} {T : u_T} {N index i k : Nat} (ho : kd i = 0) (hi : i < NID) (hcl : vwCl[kc i]? = some (C, T, N)) (hkn : kn i = N) (hk : k < N) (hu : ∀ w ∈ u_ws C T N, w ∈ Ts) (hw : Cond.fieldLink own index (T k).1 (T k).2.1 (T k).2.2.1 ∈ Ts) (hf : fr i k = some j) (hd : decode cc pc = .ok (.getfield index, 3)) (kk : wp p l e R s m args below meth c A H0 nL Q G σ (pc + 3) lv (.ref (G.2.2 j) :: st)) : wp p l e R s m args below meth c A H0 nL Q G σ pc lv (.ref (G.2.2 i) :: st) := fun H locs ls hP hS hl => by
  exact va_get (D := G.1) (ci := kc i) (own := own) (Ts := Ts) (v := .ref (G.2.2 j)) hC.1 hC.2.1 hC.2.2.2.2.1 hu hC.2.2.2.1 hC.2.2.2.2.2.1 hP i (by rw [wl_get hi, ct_0 ho]) hcl k hk (hC.2.2.2.2.1 _ hw) (fun _ h9 => h9) (by rw [List.getElem?_map, List.getElem?_range (by rw [hkn]; exact hk)]; simp only [Option.map_some, fv, hf]) hd (kk H locs ls hP hS hl)
theorem wp_puti (hC : Cx p s m args meth c A H0 nL G cc own Ts) {v : Int} {C : String} {T : u_T} {N index i k : Nat} {z : Int} (hz : (k : Int) = z) (ho : kd i = 0) (hi : i < NID) (hcl : vwCl[kc i]? = some (C, T, N)) (hkn : kn i = N) (hk : k < N) (hu : ∀ w ∈ u_ws C T N, w ∈ Ts) (hw : Cond.fieldLink own index (T k).1 (T k).2.1 (T k).2.2.1 ∈ Ts) (ty0 : Nat → FieldType) (hty : ∀ k, k < N → parseFieldDescriptor (T k).2.2.1 = some (ty0 k)) (hnm : ∀ a, a < N → ∀ b, b < N → a ≠ b → (T a).2.1 ≠ (T b).2.1) (hfin : (T k).2.2.2 = false) (ht0 : ty0 k = .int) (hf : fr i k = none) (hd : decode cc pc = .ok (.putfield index, 3)) (kk : wp p l e R s m args below meth c A H0 nL Q G (put σ i k v) (pc + 3) lv st) : wp p l e R s m args below meth c A H0 nL Q G σ pc lv (.int (zI v) :: .ref (G.2.2 i) :: st) := fun H locs ls hP hS hl => by
  subst hz
  refine va_put (D := G.1) (ci := kc i) (own := own) (Ts := Ts) (ty := .int) (v := .int (zI v)) hC.1 hC.2.1 hC.2.2.2.2.1 hu ty0 hty hnm hC.2.2.2.1 hC.2.2.2.2.2.1 hP (hC.2.2.2.2.2.2.1 σ) hS i (by rw [wl_get hi, ct_0 ho]) hcl k hk (hC.2.2.2.2.1 _ hw) (fun _ h9 => h9) hfin (by rw [hty k hk, ht0]) rfl rfl (by rw [List.length_map, List.length_range, hkn]; exact hk) hd (fun H1 locs1 hP1 _ hS1 => ?_)
  rw [put_fld ho hi hf] at hP1
  exact kk H1 locs1 ls hP1 hS1 hl
theorem wp_putz (hC : Cx p s m args meth c A H0 nL G cc own Ts) {v : Int} {C : String} {T : u_T} {N index i k : Nat} {z : Int} (hz : (k : Int) = z) (ho : kd i = 0) (hi : i < NID) (hcl : vwCl[kc i]? = some (C, T, N)) (hkn : kn i = N) (hk : k < N) (hu : ∀ w ∈ u_ws C T N, w ∈ Ts) (hw : Cond.fieldLink own index (T k).1 (T k).2.1 (T k).2.2.1 ∈ Ts) (ty0 : Nat → FieldType) (hty : ∀ k, k < N → parseFieldDescriptor (T k).2.2.1 = some (ty0 k)) (hnm : ∀ a, a < N → ∀ b, b < N → a ≠ b → (T a).2.1 ≠ (T b).2.1) (hfin : (T k).2.2.2 = false) (ht0 : ty0 k = .boolean) (hf : fr i k = none) (hb : v = 0 ∨ v = 1) (hd : decode cc pc = .ok (.putfield index, 3)) (kk : wp p l e R s m args below meth c A H0 nL Q G (put σ i k v) (pc + 3) lv st) : wp p l e R s m args below meth c A H0 nL Q G σ pc lv (.int (zI v) :: .ref (G.2.2 i) :: st) := fun H locs ls hP hS hl => by
  subst hz
  refine va_put (D := G.1) (ci := kc i) (own := own) (Ts := Ts) (ty := .boolean) (v := .int (zI v)) hC.1 hC.2.1 hC.2.2.2.2.1 hu ty0 hty hnm hC.2.2.2.1 hC.2.2.2.2.2.1 hP (hC.2.2.2.2.2.2.1 σ) hS i (by rw [wl_get hi, ct_0 ho]) hcl k hk (hC.2.2.2.2.1 _ hw) (fun _ h9 => h9) hfin (by rw [hty k hk, ht0]) (by rcases hb with rfl | rfl <;> rfl) (by rcases hb with rfl | rfl <;> rfl) (by rw [List.length_map, List.length_range, hkn]; exact hk) hd (fun H1 locs1 hP1 _ hS1 => ?_)
  rw [put_fld ho hi hf] at hP1
  exact kk H1 locs1 ls hP1 hS1 hl
theorem wp_getiN (hC : Cx p s m args meth c A H0 nL G cc own Ts) {C : String} {T : u_T} {N index i k : Nat} {z : Int} (hz : (k : Int) = z) (ho : kd i = 0) (hi : i < NID) (hcl : vwCl[kc i]? = some (C, T, N)) (hkn : kn i = N) (hk : k < N) (hu : ∀ w ∈ u_ws C T N, w ∈ Ts) {host : String} (hw : Cond.fieldLinkNest own index (T k).1 (T k).2.1 (T k).2.2.1 host ∈ tables_1) (hf : fr i k = none) (hd : decode cc pc = .ok (.getfield index, 3)) (kk : wp p l e R s m args below meth c A H0 nL Q G σ (pc + 3) lv (.int (zI (σ i z)) :: st)) : wp p l e R s m args below meth c A H0 nL Q G σ pc lv (.ref (G.2.2 i) :: st) := fun H locs ls hP hS hl => by
  subst hz
  exact va_getN (D := G.1) (ci := kc i) (own := own) (Ts := Ts) (v := .int (zI (σ i k))) hC.1 hC.2.1 hC.2.2.2.2.1 hu hC.2.2.2.1 hC.2.2.2.2.2.1 hP i (by rw [wl_get hi, ct_0 ho]) hcl k hk (hC.2.2.2.2.2.2.2.2.2.use hw rfl) (fun _ h9 => h9) (by rw [List.getElem?_map, List.getElem?_range (by rw [hkn]; exact hk)]; simp only [Option.map_some, fv, hf]) hd (kk H locs ls hP hS hl)
theorem wp_getaN (hC : Cx p s m args meth c A H0 nL G cc own Ts) {j : Nat} {C : String} {T : u_T} {N index i k : Nat} (ho : kd i = 0) (hi : i < NID) (hcl : vwCl[kc i]? = some (C, T, N)) (hkn : kn i = N) (hk : k < N) (hu : ∀ w ∈ u_ws C T N, w ∈ Ts) {host : String} (hw : Cond.fieldLinkNest own index (T k).1 (T k).2.1 (T k).2.2.1 host ∈ tables_1) (hf : fr i k = some j) (hd : decode cc pc = .ok (.getfield index, 3)) (kk : wp p l e R s m args below meth c A H0 nL Q G σ (pc + 3) lv (.ref (G.2.2 j) :: st)) : wp p l e R s m args below meth c A H0 nL Q G σ pc lv (.ref (G.2.2 i) :: st) := fun H locs ls hP hS hl => by
  exact va_getN (D := G.1) (ci := kc i) (own := own) (Ts := Ts) (v := .ref (G.2.2 j)) hC.1 hC.2.1 hC.2.2.2.2.1 hu hC.2.2.2.1 hC.2.2.2.2.2.1 hP i (by rw [wl_get hi, ct_0 ho]) hcl k hk (hC.2.2.2.2.2.2.2.2.2.use hw rfl) (fun _ h9 => h9) (by rw [List.getElem?_map, List.getElem?_range (by rw [hkn]; exact hk)]; simp only [Option.map_some, fv, hf]) hd (kk H locs ls hP hS hl)
theorem wp_putiN (hC : Cx p s m args meth c A H0 nL G cc own Ts) {v : Int} {C : String} {T : u_T} {N index i k : Nat} {z : Int} (hz : (k : Int) = z) (ho : kd i = 0) (hi : i < NID) (hcl : vwCl[kc i]? = some (C, T, N)) (hkn : kn i = N) (hk : k < N) (hu : ∀ w ∈ u_ws C T N, w ∈ Ts) {host : String} (hw : Cond.fieldLinkNest own index (T k).1 (T k).2.1 (T k).2.2.1 host ∈ tables_1) (ty0 : Nat → FieldType) (hty : ∀ k, k < N → parseFieldDescriptor (T k).2.2.1 = some (ty0 k)) (hnm : ∀ a, a < N → ∀ b, b < N → a ≠ b → (T a).2.1 ≠ (T b).2.1) (hfin : (T k).2.2.2 = false) (ht0 : ty0 k = .int) (hf : fr i k = none) (hd : decode cc pc = .ok (.putfield index, 3)) (kk : wp p l e R s m args below meth c A H0 nL Q G (put σ i k v) (pc + 3) lv st) : wp p l e R s m args below meth c A H0 nL Q G σ pc lv (.int (zI v) :: .ref (G.2.2 i) :: st) := fun H locs ls hP hS hl => by
  subst hz
  refine va_putN (D := G.1) (ci := kc i) (own := own) (Ts := Ts) (ty := .int) (v := .int (zI v)) hC.1 hC.2.1 hC.2.2.2.2.1 hu ty0 hty hnm hC.2.2.2.1 hC.2.2.2.2.2.1 hP (hC.2.2.2.2.2.2.1 σ) hS i (by rw [wl_get hi, ct_0 ho]) hcl k hk (hC.2.2.2.2.2.2.2.2.2.use hw rfl) (fun _ h9 => h9) hfin (by rw [hty k hk, ht0]) rfl rfl (by rw [List.length_map, List.length_range, hkn]; exact hk) hd (fun H1 locs1 hP1 _ hS1 => ?_)
  rw [put_fld ho hi hf] at hP1
  exact kk H1 locs1 ls hP1 hS1 hl
theorem wp_putzN (hC : Cx p s m args meth c A H0 nL G cc own Ts) {v : Int} {C : String} {T : u_T} {N index i k : Nat} {z : Int} (hz : (k : Int) = z) (ho : kd i = 0) (hi : i < NID) (hcl : vwCl[kc i]? = some (C, T, N)) (hkn : kn i = N) (hk : k < N) (hu : ∀ w ∈ u_ws C T N, w ∈ Ts) {host : String} (hw : Cond.fieldLinkNest own index (T k).1 (T k).2.1 (T k).2.2.1 host ∈ tables_1) (ty0 : Nat → FieldType) (hty : ∀ k, k < N → parseFieldDescriptor (T k).2.2.1 = some (ty0 k)) (hnm : ∀ a, a < N → ∀ b, b < N → a ≠ b → (T a).2.1 ≠ (T b).2.1) (hfin : (T k).2.2.2 = false) (ht0 : ty0 k = .boolean) (hf : fr i k = none) (hb : v = 0 ∨ v = 1) (hd : decode cc pc = .ok (.putfield index, 3)) (kk : wp p l e R s m args below meth c A H0 nL Q G (put σ i k v) (pc + 3) lv st) : wp p l e R s m args below meth c A H0 nL Q G σ pc lv (.int (zI v) :: .ref (G.2.2 i) :: st) := fun H locs ls hP hS hl => by
  subst hz
  refine va_putN (D := G.1) (ci := kc i) (own := own) (Ts := Ts) (ty := .boolean) (v := .int (zI v)) hC.1 hC.2.1 hC.2.2.2.2.1 hu ty0 hty hnm hC.2.2.2.1 hC.2.2.2.2.2.1 hP (hC.2.2.2.2.2.2.1 σ) hS i (by rw [wl_get hi, ct_0 ho]) hcl k hk (hC.2.2.2.2.2.2.2.2.2.use hw rfl) (fun _ h9 => h9) hfin (by rw [hty k hk, ht0]) (by rcases hb with rfl | rfl <;> rfl) (by rcases hb with rfl | rfl <;> rfl) (by rw [List.length_map, List.length_range, hkn]; exact hk) hd (fun H1 locs1 hP1 _ hS1 => ?_)
  rw [put_fld ho hi hf] at hP1
  exact kk H1 locs1 ls hP1 hS1 hl
theorem wp_iald (hC : Cx p s m args meth c A H0 nL G cc own Ts) {i n : Nat} {x : Int} (hn : ln i = n) (hb : n ≤ 4000) (hk : kd i = 1) (hi : i < NID) (hx : 0 ≤ x ∧ x < n) (hd : decode cc pc = .ok (.iaload, 1)) (kk : wp p l e R s m args below meth c A H0 nL Q G σ (pc + 1) lv (.int (zI (σ i x)) :: st)) : wp p l e R s m args below meth c A H0 nL Q G σ pc lv (.int (zI x) :: .ref (G.2.2 i) :: st) := fun H locs ls hP hS hl => by
  subst hn
  refine va_iald (D := G.1) (tys := tysW G) hC.1 hC.2.1 hC.2.2.2.2.2.1 hP i 0 (by rw [wl_get hi, ct_1 hk]) rfl (zI_vp (show iR x from ⟨by omega, by omega⟩) hx.1 hx.2) hd ?_
  rw [zI_clamp (show iR x from ⟨by omega, by omega⟩), Int.toNat_of_nonneg hx.1]
  exact kk H locs ls hP hS hl
theorem wp_cald (hC : Cx p s m args meth c A H0 nL G cc own Ts) {i n : Nat} {x : Int} (hn : ln i = n) (hb : n ≤ 4000) (hk : kd i = 2) (hi : i < NID) (hx : 0 ≤ x ∧ x < n) (hd : decode cc pc = .ok (.caload, 1)) (kk : wp p l e R s m args below meth c A H0 nL Q G σ (pc + 1) lv (.int (zI (σ i x)) :: st)) : wp p l e R s m args below meth c A H0 nL Q G σ pc lv (.int (zI x) :: .ref (G.2.2 i) :: st) := fun H locs ls hP hS hl => by
  subst hn
  refine va_cald (D := G.1) (tys := tysW G) hC.1 hC.2.1 hC.2.2.2.2.2.1 hP i 1 (by rw [wl_get hi, ct_2 hk]) rfl (zI_vp (show iR x from ⟨by omega, by omega⟩) hx.1 hx.2) hd ?_
  rw [zI_clamp (show iR x from ⟨by omega, by omega⟩), Int.toNat_of_nonneg hx.1]
  exact kk H locs ls hP hS hl
theorem wp_lald (hC : Cx p s m args meth c A H0 nL G cc own Ts) {i n : Nat} {x : Int} (hn : ln i = n) (hb : n ≤ 4000) (hk : kd i = 3) (hi : i < NID) (hx : 0 ≤ x ∧ x < n) (hd : decode cc pc = .ok (.laload, 1)) (kk : wp p l e R s m args below meth c A H0 nL Q G σ (pc + 1) lv (.long (zL (σ i x)) :: st)) : wp p l e R s m args below meth c A H0 nL Q G σ pc lv (.int (zI x) :: .ref (G.2.2 i) :: st) := fun H locs ls hP hS hl => by
  subst hn
  refine va_lald (D := G.1) (tys := tysW G) hC.1 hC.2.1 hC.2.2.2.2.2.1 hP i 2 (by rw [wl_get hi, ct_3 hk]) rfl (zI_vp (show iR x from ⟨by omega, by omega⟩) hx.1 hx.2) hd ?_
  rw [zI_clamp (show iR x from ⟨by omega, by omega⟩), Int.toNat_of_nonneg hx.1]
  exact kk H locs ls hP hS hl
theorem wp_iast (hC : Cx p s m args meth c A H0 nL G cc own Ts) {v : Int} {i n : Nat} {x : Int} (hn : ln i = n) (hb : n ≤ 4000) (hk : kd i = 1) (hi : i < NID) (hx : 0 ≤ x ∧ x < n) (hd : decode cc pc = .ok (.iastore, 1)) (kk : wp p l e R s m args below meth c A H0 nL Q G (put σ i x v) (pc + 1) lv st) : wp p l e R s m args below meth c A H0 nL Q G σ pc lv (.int (zI v) :: .int (zI x) :: .ref (G.2.2 i) :: st) := fun H locs ls hP hS hl => by
  subst hn
  refine va_iast (D := G.1) (tys := tysW G) hC.1 hC.2.1 hC.2.2.2.2.2.1 hP (hC.2.2.2.2.2.2.1 σ) hS i 0 (by rw [wl_get hi, ct_1 hk]) rfl (zI_vp (show iR x from ⟨by omega, by omega⟩) hx.1 hx.2) hd (fun H1 locs1 hP1 _ hS1 => ?_)
  rw [zI_clamp (show iR x from ⟨by omega, by omega⟩), put_ar1 hk hi hx.1] at hP1
  exact kk H1 locs1 ls hP1 hS1 hl
theorem wp_last (hC : Cx p s m args meth c A H0 nL G cc own Ts) {v : Int} {i n : Nat} {x : Int} (hn : ln i = n) (hb : n ≤ 4000) (hk : kd i = 3) (hi : i < NID) (hx : 0 ≤ x ∧ x < n) (hd : decode cc pc = .ok (.lastore, 1)) (kk : wp p l e R s m args below meth c A H0 nL Q G (put σ i x v) (pc + 1) lv st) : wp p l e R s m args below meth c A H0 nL Q G σ pc lv (.long (zL v) :: .int (zI x) :: .ref (G.2.2 i) :: st) := fun H locs ls hP hS hl => by
  subst hn
  refine va_last (D := G.1) (tys := tysW G) hC.1 hC.2.1 hC.2.2.2.2.2.1 hP (hC.2.2.2.2.2.2.1 σ) hS i 2 (by rw [wl_get hi, ct_3 hk]) rfl (zI_vp (show iR x from ⟨by omega, by omega⟩) hx.1 hx.2) hd (fun H1 locs1 hP1 _ hS1 => ?_)
  rw [zI_clamp (show iR x from ⟨by omega, by omega⟩), put_ar3 hk hi hx.1] at hP1
  exact kk H1 locs1 ls hP1 hS1 hl
theorem wp_cast (hC : Cx p s m args meth c A H0 nL G cc own Ts) {v : Int} (hv : 0 ≤ v ∧ v < 65536) {i n : Nat} {x : Int} (hn : ln i = n) (hb : n ≤ 4000) (hk : kd i = 2) (hi : i < NID) (hx : 0 ≤ x ∧ x < n) (hd : decode cc pc = .ok (.castore, 1)) (kk : wp p l e R s m args below meth c A H0 nL Q G (put σ i x v) (pc + 1) lv st) : wp p l e R s m args below meth c A H0 nL Q G σ pc lv (.int (zI v) :: .int (zI x) :: .ref (G.2.2 i) :: st) := fun H locs ls hP hS hl => by
  subst hn
  refine va_cast (D := G.1) (tys := tysW G) hC.1 hC.2.1 hC.2.2.2.2.2.1 hP (hC.2.2.2.2.2.2.1 σ) hS i 1 (by rw [wl_get hi, ct_2 hk]) rfl (zI_vp (show iR x from ⟨by omega, by omega⟩) hx.1 hx.2) hd (fun H1 locs1 hP1 _ hS1 => ?_)
  rw [zI_clamp (show iR x from ⟨by omega, by omega⟩), vp_charZ hv, put_ar2 hk hi hx.1] at hP1
  exact kk H1 locs1 ls hP1 hS1 hl
theorem wp_aald4 (hC : Cx p s m args meth c A H0 nL G cc own Ts) {i n : Nat} {x : Int} (hn : ln i = n) (hb : n ≤ 4000) (hk : kd i = 4) (hi : i < NID) (hx : 0 ≤ x ∧ x < n) (hd : decode cc pc = .ok (.aaload, 1)) (kk : wp p l e R s m args below meth c A H0 nL Q G σ (pc + 1) lv (.ref (G.2.2 (rb i + x.toNat)) :: st)) : wp p l e R s m args below meth c A H0 nL Q G σ pc lv (.int (zI x) :: .ref (G.2.2 i) :: st) := fun H locs ls hP hS hl => by
  subst hn
  refine va_aldA (D := G.1) (tys := tysW G) hC.1 hC.2.1 hC.2.2.2.2.2.1 hP i 3 (ty := .array .int) (by rw [wl_get hi, ct_4 hk]) rfl rfl (zI_vp (show iR x from ⟨by omega, by omega⟩) hx.1 hx.2) hd ?_
  rw [zI_clamp (show iR x from ⟨by omega, by omega⟩)]
  exact kk H locs ls hP hS hl
theorem wp_aald5 (hC : Cx p s m args meth c A H0 nL G cc own Ts) {i n : Nat} {x : Int} (hn : ln i = n) (hb : n ≤ 4000) (hk : kd i = 5) (hi : i < NID) (hx : 0 ≤ x ∧ x < n) (hd : decode cc pc = .ok (.aaload, 1)) (kk : wp p l e R s m args below meth c A H0 nL Q G σ (pc + 1) lv (.ref (G.2.2 (108 + 5 * (σ i x).toNat)) :: st)) : wp p l e R s m args below meth c A H0 nL Q G σ pc lv (.int (zI x) :: .ref (G.2.2 i) :: st) := fun H locs ls hP hS hl => by
  subst hn
  refine va_aldA (D := G.1) (tys := tysW G) hC.1 hC.2.1 hC.2.2.2.2.2.1 hP i 4 (ty := .object "PromiseMind$State") (by rw [wl_get hi, ct_5 hk]) rfl rfl (zI_vp (show iR x from ⟨by omega, by omega⟩) hx.1 hx.2) hd ?_
  rw [zI_clamp (show iR x from ⟨by omega, by omega⟩)]
  show W _ _ _ _ _ _ _ _ _ _ _ _ _ _ _ (F0 m (pc + 1) ls (va_rf (some (G.2.2 (108 + 5 * (σ i (x.toNat : Int)).toNat))) :: st))
  rw [Int.toNat_of_nonneg hx.1]
  exact kk H locs ls hP hS hl
theorem wp_alen (hC : Cx p s m args meth c A H0 nL G cc own Ts) {i n : Nat} (hn : ln i = n) (hk : kd i = 1) (hi : i < NID) (hd : decode cc pc = .ok (.arraylength, 1)) (kk : wp p l e R s m args below meth c A H0 nL Q G σ (pc + 1) lv (.int (zI n) :: st)) : wp p l e R s m args below meth c A H0 nL Q G σ pc lv (.ref (G.2.2 i) :: st) := fun H locs ls hP hS hl => by
  subst hn
  refine va_alen (D := G.1) (tys := tysW G) (x := (ln i, .inl (fun j => zI (σ i j)))) hC.1 hC.2.1 hC.2.2.2.2.2.1 hP i 0 (by rw [wl_get hi, ct_1 hk]) rfl (v := zI (ln i)) (zI_nI (ln i)).symm hd ?_
  exact kk H locs ls hP hS hl
theorem wp_top {a b : Int} (h : a = b) (kk : wp p l e R s m args below meth c A H0 nL Q G σ pc lv (.int (zI b) :: st)) : wp p l e R s m args below meth c A H0 nL Q G σ pc lv (.int (zI a) :: st) := h ▸ kk
theorem wp_st {σ2 : St} (h : σ = σ2) (kk : wp p l e R s m args below meth c A H0 nL Q G σ2 pc lv st) : wp p l e R s m args below meth c A H0 nL Q G σ pc lv st := h ▸ kk
end WP
/-- a contract over the numbered world: the answer, and the world behind it -/
def MI (l : Launch) (y : MethodName) (ws : List Cond) (rm : Room) (G : Gy) (as : List Value) (σ : St) (post : Int → St → Prop) : Prop :=
  ∀ sz : Nat, Met l y ws rm (va_Pc as (fun U => U.heap.size = sz ∧ va_P G.1 vwCl (wl G σ) U.heap ∧ va_K G.1 vwCl (tysW G) U ∧ nestP U)) (va_Qi (fun r σ' => ∃ x, iR x ∧ r = zI x ∧ post x σ') (fun σ' t => va_P G.1 vwCl (wl G σ') t.heap) (aA G sz)) 0 0 (aA G sz)
def ML (l : Launch) (y : MethodName) (ws : List Cond) (rm : Room) (G : Gy) (as : List Value) (σ : St) (post : Int → St → Prop) : Prop :=
  ∀ sz : Nat, Met l y ws rm (va_Pc as (fun U => U.heap.size = sz ∧ va_P G.1 vwCl (wl G σ) U.heap ∧ va_K G.1 vwCl (tysW G) U ∧ nestP U)) (va_Ql (fun r σ' => ∃ x, lR x ∧ r = zL x ∧ post x σ') (fun σ' t => va_P G.1 vwCl (wl G σ') t.heap) (aA G sz)) 0 0 (aA G sz)
def MV (l : Launch) (y : MethodName) (ws : List Cond) (rm : Room) (G : Gy) (as : List Value) (σ : St) (post : St → Prop) : Prop :=
  ∀ sz : Nat, Met l y ws rm (va_Pc as (fun U => U.heap.size = sz ∧ va_P G.1 vwCl (wl G σ) U.heap ∧ va_K G.1 vwCl (tysW G) U ∧ nestP U)) (va_Qv post (fun σ' t => va_P G.1 vwCl (wl G σ') t.heap) (aA G sz)) 0 0 (aA G sz)
def MR (l : Launch) (y : MethodName) (ws : List Cond) (rm : Room) (G : Gy) (as : List Value) (σ : St) (post : Nat → St → Prop) : Prop :=
  ∀ sz : Nat, Met l y ws rm (va_Pc as (fun U => U.heap.size = sz ∧ va_P G.1 vwCl (wl G σ) U.heap ∧ va_K G.1 vwCl (tysW G) U ∧ nestP U)) (va_Qr (fun u : St × Nat => post u.2 u.1) (fun u a t => a = G.2.2 u.2 ∧ va_P G.1 vwCl (wl G u.1) t.heap) (aA G sz)) 0 0 (aA G sz)
theorem lR_of (x : Int64) : lR x.toInt := ⟨Int64.le_toInt x, by have := Int64.toInt_lt x; omega⟩
theorem zL_of (x : Int64) : zL x.toInt = x := Int64.ofInt_toInt x
section ENT
variable {l : Launch} {y : MethodName} {ws ws' : List Cond} {rm : Room} {G : Gy} {as : List Value} {σ : St} {cc : ByteArray} {maxL : Nat} {own : String} {lv0 : List (Nat × Value)}
theorem MI.of {post : Int → St → Prop} {ty : FieldType} (hG : Inj G) (hy : plainName y.cls = true) (hw : ws = Cond.code y cc maxL (some ty) :: ws') (ho : y.cls = own) (ha : (lg_sl as).length ≤ maxL) (h0 : lv_args 0 as = lv0)
    (body : ∀ (p : Program) (e : Env) (s : State) (m : MethodId) (args : Array Value) (below : List Frame) (meth : Method) (c : Code) (H0 : Heap) (Q : State → Prop), Cx p s m args meth c (aA G H0.size) H0 maxL G cc own ws → (∀ (x : Int) (σ' : St) (pc : Nat) (lv : List (Nat × Value)), iR x → narrow ty (.int (zI x)) = .int (zI x) → post x σ' → decode cc pc = .ok (.ireturn, 1) → wp p l e rm s m args below meth c (aA G H0.size) H0 maxL Q G σ' pc lv [.int (zI x)]) → wp p l e rm s m args below meth c (aA G H0.size) H0 maxL Q G σ 0 lv0 []) : MI l y ws rm G as σ post := by
  intro sz
  refine Met.ofW (cc := cc) (maxL := maxL) (ret := some ty) hy hw ?_
  intro p e s m args below meth c s₁ B hml hv
  obtain ⟨rfl, hsz, hP, hK, hN⟩ := hv
  subst hsz
  have hC : Cx p s m as.toArray meth c (aA G s.heap.size) s.heap maxL G cc own ws := ⟨B.exec, B.bytes, hml, by rw [← ho]; exact findClass_of_methodNamed B.named, atoms_spec (ws := ws) B.pre, hK, wl_D hG _, fun q h => h, B.notSynchronized, hN⟩
  have hl := lv_entry as (n := maxL) ha
  rw [lg_entry_eq]
  generalize (lg_sl as ++ List.replicate (maxL - (lg_sl as).length) Slot.unset).toArray = ls at hl ⊢
  rw [h0] at hl
  refine body p e s m _ below meth c s.heap _ hC ?_ s.heap [] ls hP va_S.rf hl
  intro x σ' pc lv hx hn hp hd H locs ls' hP' hS' hl'
  exact W.zret B.exec B.bytes B.returns hn (fun t ht hW => ⟨⟨zI x, σ', rfl, ⟨x, hx, rfl, hp⟩, by show va_P _ _ _ t.heap; rw [ht]; exact hP'⟩, hS'.F ht⟩) hS'.2.2 hd B.notSynchronized
theorem ML.of {post : Int → St → Prop} (hG : Inj G) (hy : plainName y.cls = true) (hw : ws = Cond.code y cc maxL (some .long) :: ws') (ho : y.cls = own) (ha : (lg_sl as).length ≤ maxL) (h0 : lv_args 0 as = lv0)
    (body : ∀ (p : Program) (e : Env) (s : State) (m : MethodId) (args : Array Value) (below : List Frame) (meth : Method) (c : Code) (H0 : Heap) (Q : State → Prop), Cx p s m args meth c (aA G H0.size) H0 maxL G cc own ws → (∀ (x : Int) (σ' : St) (pc : Nat) (lv : List (Nat × Value)), lR x → post x σ' → decode cc pc = .ok (.lreturn, 1) → wp p l e rm s m args below meth c (aA G H0.size) H0 maxL Q G σ' pc lv [.long (zL x)]) → wp p l e rm s m args below meth c (aA G H0.size) H0 maxL Q G σ 0 lv0 []) : ML l y ws rm G as σ post := by
  intro sz
  refine Met.ofW (cc := cc) (maxL := maxL) (ret := some .long) hy hw ?_
  intro p e s m args below meth c s₁ B hml hv
  obtain ⟨rfl, hsz, hP, hK, hN⟩ := hv
  subst hsz
  have hC : Cx p s m as.toArray meth c (aA G s.heap.size) s.heap maxL G cc own ws := ⟨B.exec, B.bytes, hml, by rw [← ho]; exact findClass_of_methodNamed B.named, atoms_spec (ws := ws) B.pre, hK, wl_D hG _, fun q h => h, B.notSynchronized, hN⟩
  have hl := lv_entry as (n := maxL) ha
  rw [lg_entry_eq]
  generalize (lg_sl as ++ List.replicate (maxL - (lg_sl as).length) Slot.unset).toArray = ls at hl ⊢
  rw [h0] at hl
  refine body p e s m _ below meth c s.heap _ hC ?_ s.heap [] ls hP va_S.rf hl
  intro x σ' pc lv hx hp hd H locs ls' hP' hS' hl'
  exact W.lret B.exec B.bytes B.returns (fun t ht hW => ⟨⟨zL x, σ', rfl, ⟨x, hx, rfl, hp⟩, by show va_P _ _ _ t.heap; rw [ht]; exact hP'⟩, hS'.F ht⟩) hS'.2.2 hd B.notSynchronized
theorem MV.of {post : St → Prop} (hG : Inj G) (hy : plainName y.cls = true) (hw : ws = Cond.code y cc maxL (none) :: ws') (ho : y.cls = own) (ha : (lg_sl as).length ≤ maxL) (h0 : lv_args 0 as = lv0)
    (body : ∀ (p : Program) (e : Env) (s : State) (m : MethodId) (args : Array Value) (below : List Frame) (meth : Method) (c : Code) (H0 : Heap) (Q : State → Prop), Cx p s m args meth c (aA G H0.size) H0 maxL G cc own ws → (∀ (σ' : St) (pc : Nat) (lv : List (Nat × Value)), post σ' → decode cc pc = .ok (.return_, 1) → wp p l e rm s m args below meth c (aA G H0.size) H0 maxL Q G σ' pc lv []) → wp p l e rm s m args below meth c (aA G H0.size) H0 maxL Q G σ 0 lv0 []) : MV l y ws rm G as σ post := by
  intro sz
  refine Met.ofW (cc := cc) (maxL := maxL) (ret := none) hy hw ?_
  intro p e s m args below meth c s₁ B hml hv
  obtain ⟨rfl, hsz, hP, hK, hN⟩ := hv
  subst hsz
  have hC : Cx p s m as.toArray meth c (aA G s.heap.size) s.heap maxL G cc own ws := ⟨B.exec, B.bytes, hml, by rw [← ho]; exact findClass_of_methodNamed B.named, atoms_spec (ws := ws) B.pre, hK, wl_D hG _, fun q h => h, B.notSynchronized, hN⟩
  have hl := lv_entry as (n := maxL) ha
  rw [lg_entry_eq]
  generalize (lg_sl as ++ List.replicate (maxL - (lg_sl as).length) Slot.unset).toArray = ls at hl ⊢
  rw [h0] at hl
  refine body p e s m _ below meth c s.heap _ hC ?_ s.heap [] ls hP va_S.rf hl
  intro σ' pc lv hp hd H locs ls' hP' hS' hl'
  exact W.vret B.exec B.bytes B.returns (fun t ht hW => ⟨⟨σ', rfl, hp, by show va_P _ _ _ t.heap; rw [ht]; exact hP'⟩, hS'.F ht⟩) hS'.2.2 hd B.notSynchronized
theorem MR.of {post : Nat → St → Prop} {C : String} (hG : Inj G) (hy : plainName y.cls = true) (hw : ws = Cond.code y cc maxL (some (.object C)) :: ws') (ho : y.cls = own) (ha : (lg_sl as).length ≤ maxL) (h0 : lv_args 0 as = lv0)
    (body : ∀ (p : Program) (e : Env) (s : State) (m : MethodId) (args : Array Value) (below : List Frame) (meth : Method) (c : Code) (H0 : Heap) (Q : State → Prop), Cx p s m args meth c (aA G H0.size) H0 maxL G cc own ws → (∀ (j : Nat) (σ' : St) (pc : Nat) (lv : List (Nat × Value)), post j σ' → decode cc pc = .ok (.areturn, 1) → wp p l e rm s m args below meth c (aA G H0.size) H0 maxL Q G σ' pc lv [.ref (G.2.2 j)]) → wp p l e rm s m args below meth c (aA G H0.size) H0 maxL Q G σ 0 lv0 []) : MR l y ws rm G as σ post := by
  intro sz
  refine Met.ofW (cc := cc) (maxL := maxL) (ret := some (.object C)) hy hw ?_
  intro p e s m args below meth c s₁ B hml hv
  obtain ⟨rfl, hsz, hP, hK, hN⟩ := hv
  subst hsz
  have hC : Cx p s m as.toArray meth c (aA G s.heap.size) s.heap maxL G cc own ws := ⟨B.exec, B.bytes, hml, by rw [← ho]; exact findClass_of_methodNamed B.named, atoms_spec (ws := ws) B.pre, hK, wl_D hG _, fun q h => h, B.notSynchronized, hN⟩
  have hl := lv_entry as (n := maxL) ha
  rw [lg_entry_eq]
  generalize (lg_sl as ++ List.replicate (maxL - (lg_sl as).length) Slot.unset).toArray = ls at hl ⊢
  rw [h0] at hl
  refine body p e s m _ below meth c s.heap _ hC ?_ s.heap [] ls hP va_S.rf hl
  intro j σ' pc lv hp hd H locs ls' hP' hS' hl'
  exact W.aret B.exec B.bytes B.returns (Or.inl ⟨_, rfl⟩) (Or.inr ⟨_, rfl⟩) (fun t ht hW => ⟨⟨(σ', j), G.2.2 j, rfl, hp, rfl, by show va_P _ _ _ t.heap; rw [ht]; exact hP'⟩, hS'.F ht⟩) hS'.2.2 hd B.notSynchronized
end ENT
section CAL
variable {p : Program} {l : Launch} {e : Env} {R : Room} {s : State} {m : MethodId} {args : Array Value} {below : List Frame} {meth : Method} {c : Code} {A : Nat → Prop} {H0 : Heap} {nL : Nat} {Q : State → Prop} {G : Gy}
variable {σ : St} {pc : Nat} {lv : List (Nat × Value)} {st stk : List Value} {cc : ByteArray} {own : String} {Ts : List Cond}
variable {i index maxL N : Nat} {C host : String} {T : u_T} {y : MethodName} {ws ws' : List Cond} {rm : Room} {bytes : ByteArray} {ty : FieldType} {As : List Value}
theorem fbW {as : List Value} {sz : Nat} : FrameBlind (va_Pc as (fun U => U.heap.size = sz ∧ va_P G.1 vwCl (wl G σ) U.heap ∧ va_K G.1 vwCl (tysW G) U ∧ nestP U)) := fun a U g mk q => by
  obtain ⟨q0, q1, qP, qK, qN⟩ := q
  exact ⟨q0, q1, qP, va_K.moved (u := U) (U := U.calling g mk a) (Vm.Alike.refl U.vm) qK, nestP.same (u := U) (U := U.calling g mk a) rfl qN⟩
theorem aA_up {H : Heap} {locs : List Loc} (h : ∀ q, aA G H0.size q → A q) (hS : va_S A H0 H locs) : ∀ q, aA G H.size q → A q := fun q hq => h q (hq.imp id (fun z => Nat.le_trans hS.1 z))
theorem wp_callVi {post : Int → St → Prop} (hC : Cx p s m args meth c A H0 nL G cc own Ts) (hM : MI l y ws rm G (.ref (G.2.2 i) :: As) σ post) (hT : GoodIn Ts (wsV own index C y ws)) (hw : ws = Cond.code y bytes maxL (some ty) :: ws') (hrm : rm.cells = 0 ∧ rm.slots = 0) (hR : rm.frames + 1 ≤ R.frames ∧ 8 + (maxL + 11) + rm.locals ≤ R.locals) (hy : y.cls = C ∧ y.cls ≠ "java/lang/invoke/MethodHandle" ∧ y.cls ≠ "java/lang/invoke/VarHandle" ∧ (parseMethodDescriptor y.desc).map (fun d => d.parameters.length) = some As.length) (ho : kd i = 0) (hi : i < NID) (hcl : vwCl[kc i]? = some (C, T, N)) (hstk : stk = As.reverse ++ .ref (G.2.2 i) :: st) (hcat : (st.map fun v => v.category).sum ≤ 8) (hd : decode cc pc = .ok (.invokevirtual index, 3)) (kk : ∀ (x : Int) (σ2 : St), iR x → post x σ2 → wp p l e R s m args below meth c A H0 nL Q G σ2 (pc + 3) lv (.int (zI x) :: st)) : wp p l e R s m args below meth c A H0 nL Q G σ pc lv stk := fun H locs ls hP hS hl => by
  refine va_calli (va_runV (As := As) (rest := st) ⟨hC.1, hC.2.1, hC.2.2.1, hC.2.2.2.1, hC.2.2.2.2.1⟩ (hM H.size) (cwV As.length hC.2.2.2.2.1 hT hw hrm.1 hrm.2 hy hR) ⟨fbW, va_recv hC.2.2.2.2.2.1 hP (q := (C, T, N)) hcl (q0 := i) (by rw [wl_get hi, ct_0 ho]), fun U hU hW => ⟨rfl, by rw [hU], by rw [hU]; exact hP, va_K.moved hW.alike hC.2.2.2.2.2.1, nestP.warm hW hC.2.2.2.2.2.2.2.2.2⟩⟩ rfl rfl hl.1 hstk (lv_room hcat) hd ⟨Nat.zero_le _, Nat.zero_le _⟩) hS (fun q _ h => aA_up hC.2.2.2.2.2.2.2.1 hS q h) (aA_up hC.2.2.2.2.2.2.2.1 hS) (fun r u t H1 locs1 ht hvm hw9 hB hz hk hS1 => by
    obtain ⟨x, hx, rfl, hp⟩ := hw9
    rw [ht] at hB
    exact kk x u hx hp H1 locs1 ls hB hS1 hl)
theorem wp_callSi {post : Int → St → Prop} (hC : Cx p s m args meth c A H0 nL G cc own Ts) (hM : MI l y ws rm G As σ post) (hT : GoodIn Ts (va_wsS own index y ws)) (hw : ws = Cond.code y bytes maxL (some ty) :: ws') (hrm : rm.cells = 0 ∧ rm.slots = 0) (hR : rm.frames + 1 ≤ R.frames ∧ 8 + (maxL + 11) + rm.locals ≤ R.locals) (hy : y.cls ≠ "java/lang/invoke/MethodHandle" ∧ y.cls ≠ "java/lang/invoke/VarHandle" ∧ (parseMethodDescriptor y.desc).map (fun d => d.parameters.length) = some As.length) (hstk : stk = As.reverse ++ st) (hcat : (st.map fun v => v.category).sum ≤ 8) (hd : decode cc pc = .ok (.invokestatic index, 3)) (kk : ∀ (x : Int) (σ2 : St), iR x → post x σ2 → wp p l e R s m args below meth c A H0 nL Q G σ2 (pc + 3) lv (.int (zI x) :: st)) : wp p l e R s m args below meth c A H0 nL Q G σ pc lv stk := fun H locs ls hP hS hl => by
  refine va_calli (va_runS (As := As) (rest := st) ⟨hC.1, hC.2.1, hC.2.2.1, hC.2.2.2.1, hC.2.2.2.2.1⟩ (hM H.size) (va_cwS As.length hC.2.2.2.2.1 hT hw hrm.1 hrm.2 hy hR) ⟨fbW, fun U hU hW => ⟨rfl, by rw [hU], by rw [hU]; exact hP, va_K.moved hW.alike hC.2.2.2.2.2.1, nestP.warm hW hC.2.2.2.2.2.2.2.2.2⟩⟩ rfl rfl hl.1 hstk (lv_room hcat) hd ⟨Nat.zero_le _, Nat.zero_le _⟩) hS (fun q _ h => aA_up hC.2.2.2.2.2.2.2.1 hS q h) (aA_up hC.2.2.2.2.2.2.2.1 hS) (fun r u t H1 locs1 ht hvm hw9 hB hz hk hS1 => by
    obtain ⟨x, hx, rfl, hp⟩ := hw9
    rw [ht] at hB
    exact kk x u hx hp H1 locs1 ls hB hS1 hl)
theorem wp_callNi {post : Int → St → Prop} (hC : Cx p s m args meth c A H0 nL G cc own Ts) (hM : MI l y ws rm G As σ post) (hT : GoodIn Ts ws) (hw : ws = Cond.code y bytes maxL (some ty) :: ws') (hrm : rm.cells = 0 ∧ rm.slots = 0) (hR : rm.frames + 1 ≤ R.frames ∧ 8 + (maxL + 11) + rm.locals ≤ R.locals) (hy : y.cls ≠ "java/lang/invoke/MethodHandle" ∧ y.cls ≠ "java/lang/invoke/VarHandle" ∧ (parseMethodDescriptor y.desc).map (fun d => d.parameters.length) = some As.length) (hln : Cond.methodLinkNest own index y host ∈ tables_1) (hini : Cond.initialized y.cls ∈ Ts) (hstt : Cond.static y ∈ Ts) (hstk : stk = As.reverse ++ st) (hcat : (st.map fun v => v.category).sum ≤ 8) (hd : decode cc pc = .ok (.invokestatic index, 3)) (kk : ∀ (x : Int) (σ2 : St), iR x → post x σ2 → wp p l e R s m args below meth c A H0 nL Q G σ2 (pc + 3) lv (.int (zI x) :: st)) : wp p l e R s m args below meth c A H0 nL Q G σ pc lv stk := fun H locs ls hP hS hl => by
  refine va_calli (va_runSN (As := As) (rest := st) (host := host) ⟨hC.1, hC.2.1, hC.2.2.1, hC.2.2.2.1, hC.2.2.2.2.1⟩ (hM H.size) ⟨va_cnB As.length hC.2.2.2.2.1 hT hw hrm.1 hrm.2 (hC.2.2.2.2.2.2.2.2.2 _ hln rfl) (hC.2.2.2.2.1 _ hini) hy hR, hC.2.2.2.2.1 _ hstt, trivial⟩ ⟨fbW, fun U hU hW => ⟨rfl, by rw [hU], by rw [hU]; exact hP, va_K.moved hW.alike hC.2.2.2.2.2.1, nestP.warm hW hC.2.2.2.2.2.2.2.2.2⟩⟩ rfl rfl hl.1 hstk (lv_room hcat) hd ⟨Nat.zero_le _, Nat.zero_le _⟩) hS (fun q _ h => aA_up hC.2.2.2.2.2.2.2.1 hS q h) (aA_up hC.2.2.2.2.2.2.2.1 hS) (fun r u t H1 locs1 ht hvm hw9 hB hz hk hS1 => by
    obtain ⟨x, hx, rfl, hp⟩ := hw9
    rw [ht] at hB
    exact kk x u hx hp H1 locs1 ls hB hS1 hl)
theorem wp_callVl {post : Int → St → Prop} (hC : Cx p s m args meth c A H0 nL G cc own Ts) (hM : ML l y ws rm G (.ref (G.2.2 i) :: As) σ post) (hT : GoodIn Ts (wsV own index C y ws)) (hw : ws = Cond.code y bytes maxL (some .long) :: ws') (hrm : rm.cells = 0 ∧ rm.slots = 0) (hR : rm.frames + 1 ≤ R.frames ∧ 8 + (maxL + 11) + rm.locals ≤ R.locals) (hy : y.cls = C ∧ y.cls ≠ "java/lang/invoke/MethodHandle" ∧ y.cls ≠ "java/lang/invoke/VarHandle" ∧ (parseMethodDescriptor y.desc).map (fun d => d.parameters.length) = some As.length) (ho : kd i = 0) (hi : i < NID) (hcl : vwCl[kc i]? = some (C, T, N)) (hstk : stk = As.reverse ++ .ref (G.2.2 i) :: st) (hcat : (st.map fun v => v.category).sum ≤ 8) (hd : decode cc pc = .ok (.invokevirtual index, 3)) (kk : ∀ (x : Int) (σ2 : St), lR x → post x σ2 → wp p l e R s m args below meth c A H0 nL Q G σ2 (pc + 3) lv (.long (zL x) :: st)) : wp p l e R s m args below meth c A H0 nL Q G σ pc lv stk := fun H locs ls hP hS hl => by
  refine va_calll (va_runV (As := As) (rest := st) ⟨hC.1, hC.2.1, hC.2.2.1, hC.2.2.2.1, hC.2.2.2.2.1⟩ (hM H.size) (cwV As.length hC.2.2.2.2.1 hT hw hrm.1 hrm.2 hy hR) ⟨fbW, va_recv hC.2.2.2.2.2.1 hP (q := (C, T, N)) hcl (q0 := i) (by rw [wl_get hi, ct_0 ho]), fun U hU hW => ⟨rfl, by rw [hU], by rw [hU]; exact hP, va_K.moved hW.alike hC.2.2.2.2.2.1, nestP.warm hW hC.2.2.2.2.2.2.2.2.2⟩⟩ rfl rfl hl.1 hstk (lv_room hcat) hd ⟨Nat.zero_le _, Nat.zero_le _⟩) hS (fun q _ h => aA_up hC.2.2.2.2.2.2.2.1 hS q h) (aA_up hC.2.2.2.2.2.2.2.1 hS) (fun r u t H1 locs1 ht hvm hw9 hB hz hk hS1 => by
    obtain ⟨x, hx, rfl, hp⟩ := hw9
    rw [ht] at hB
    exact kk x u hx hp H1 locs1 ls hB hS1 hl)
theorem wp_callSl {post : Int → St → Prop} (hC : Cx p s m args meth c A H0 nL G cc own Ts) (hM : ML l y ws rm G As σ post) (hT : GoodIn Ts (va_wsS own index y ws)) (hw : ws = Cond.code y bytes maxL (some .long) :: ws') (hrm : rm.cells = 0 ∧ rm.slots = 0) (hR : rm.frames + 1 ≤ R.frames ∧ 8 + (maxL + 11) + rm.locals ≤ R.locals) (hy : y.cls ≠ "java/lang/invoke/MethodHandle" ∧ y.cls ≠ "java/lang/invoke/VarHandle" ∧ (parseMethodDescriptor y.desc).map (fun d => d.parameters.length) = some As.length) (hstk : stk = As.reverse ++ st) (hcat : (st.map fun v => v.category).sum ≤ 8) (hd : decode cc pc = .ok (.invokestatic index, 3)) (kk : ∀ (x : Int) (σ2 : St), lR x → post x σ2 → wp p l e R s m args below meth c A H0 nL Q G σ2 (pc + 3) lv (.long (zL x) :: st)) : wp p l e R s m args below meth c A H0 nL Q G σ pc lv stk := fun H locs ls hP hS hl => by
  refine va_calll (va_runS (As := As) (rest := st) ⟨hC.1, hC.2.1, hC.2.2.1, hC.2.2.2.1, hC.2.2.2.2.1⟩ (hM H.size) (va_cwS As.length hC.2.2.2.2.1 hT hw hrm.1 hrm.2 hy hR) ⟨fbW, fun U hU hW => ⟨rfl, by rw [hU], by rw [hU]; exact hP, va_K.moved hW.alike hC.2.2.2.2.2.1, nestP.warm hW hC.2.2.2.2.2.2.2.2.2⟩⟩ rfl rfl hl.1 hstk (lv_room hcat) hd ⟨Nat.zero_le _, Nat.zero_le _⟩) hS (fun q _ h => aA_up hC.2.2.2.2.2.2.2.1 hS q h) (aA_up hC.2.2.2.2.2.2.2.1 hS) (fun r u t H1 locs1 ht hvm hw9 hB hz hk hS1 => by
    obtain ⟨x, hx, rfl, hp⟩ := hw9
    rw [ht] at hB
    exact kk x u hx hp H1 locs1 ls hB hS1 hl)
theorem wp_callNl {post : Int → St → Prop} (hC : Cx p s m args meth c A H0 nL G cc own Ts) (hM : ML l y ws rm G As σ post) (hT : GoodIn Ts ws) (hw : ws = Cond.code y bytes maxL (some .long) :: ws') (hrm : rm.cells = 0 ∧ rm.slots = 0) (hR : rm.frames + 1 ≤ R.frames ∧ 8 + (maxL + 11) + rm.locals ≤ R.locals) (hy : y.cls ≠ "java/lang/invoke/MethodHandle" ∧ y.cls ≠ "java/lang/invoke/VarHandle" ∧ (parseMethodDescriptor y.desc).map (fun d => d.parameters.length) = some As.length) (hln : Cond.methodLinkNest own index y host ∈ tables_1) (hini : Cond.initialized y.cls ∈ Ts) (hstt : Cond.static y ∈ Ts) (hstk : stk = As.reverse ++ st) (hcat : (st.map fun v => v.category).sum ≤ 8) (hd : decode cc pc = .ok (.invokestatic index, 3)) (kk : ∀ (x : Int) (σ2 : St), lR x → post x σ2 → wp p l e R s m args below meth c A H0 nL Q G σ2 (pc + 3) lv (.long (zL x) :: st)) : wp p l e R s m args below meth c A H0 nL Q G σ pc lv stk := fun H locs ls hP hS hl => by
  refine va_calll (va_runSN (As := As) (rest := st) (host := host) ⟨hC.1, hC.2.1, hC.2.2.1, hC.2.2.2.1, hC.2.2.2.2.1⟩ (hM H.size) ⟨va_cnB As.length hC.2.2.2.2.1 hT hw hrm.1 hrm.2 (hC.2.2.2.2.2.2.2.2.2 _ hln rfl) (hC.2.2.2.2.1 _ hini) hy hR, hC.2.2.2.2.1 _ hstt, trivial⟩ ⟨fbW, fun U hU hW => ⟨rfl, by rw [hU], by rw [hU]; exact hP, va_K.moved hW.alike hC.2.2.2.2.2.1, nestP.warm hW hC.2.2.2.2.2.2.2.2.2⟩⟩ rfl rfl hl.1 hstk (lv_room hcat) hd ⟨Nat.zero_le _, Nat.zero_le _⟩) hS (fun q _ h => aA_up hC.2.2.2.2.2.2.2.1 hS q h) (aA_up hC.2.2.2.2.2.2.2.1 hS) (fun r u t H1 locs1 ht hvm hw9 hB hz hk hS1 => by
    obtain ⟨x, hx, rfl, hp⟩ := hw9
    rw [ht] at hB
    exact kk x u hx hp H1 locs1 ls hB hS1 hl)
theorem wp_callVv {post : St → Prop} (hC : Cx p s m args meth c A H0 nL G cc own Ts) (hM : MV l y ws rm G (.ref (G.2.2 i) :: As) σ post) (hT : GoodIn Ts (wsV own index C y ws)) (hw : ws = Cond.code y bytes maxL (none) :: ws') (hrm : rm.cells = 0 ∧ rm.slots = 0) (hR : rm.frames + 1 ≤ R.frames ∧ 8 + (maxL + 11) + rm.locals ≤ R.locals) (hy : y.cls = C ∧ y.cls ≠ "java/lang/invoke/MethodHandle" ∧ y.cls ≠ "java/lang/invoke/VarHandle" ∧ (parseMethodDescriptor y.desc).map (fun d => d.parameters.length) = some As.length) (ho : kd i = 0) (hi : i < NID) (hcl : vwCl[kc i]? = some (C, T, N)) (hstk : stk = As.reverse ++ .ref (G.2.2 i) :: st) (hcat : (st.map fun v => v.category).sum ≤ 8) (hd : decode cc pc = .ok (.invokevirtual index, 3)) (kk : ∀ (σ2 : St), post σ2 → wp p l e R s m args below meth c A H0 nL Q G σ2 (pc + 3) lv st) : wp p l e R s m args below meth c A H0 nL Q G σ pc lv stk := fun H locs ls hP hS hl => by
  refine va_callv (va_runV (As := As) (rest := st) ⟨hC.1, hC.2.1, hC.2.2.1, hC.2.2.2.1, hC.2.2.2.2.1⟩ (hM H.size) (cwV As.length hC.2.2.2.2.1 hT hw hrm.1 hrm.2 hy hR) ⟨fbW, va_recv hC.2.2.2.2.2.1 hP (q := (C, T, N)) hcl (q0 := i) (by rw [wl_get hi, ct_0 ho]), fun U hU hW => ⟨rfl, by rw [hU], by rw [hU]; exact hP, va_K.moved hW.alike hC.2.2.2.2.2.1, nestP.warm hW hC.2.2.2.2.2.2.2.2.2⟩⟩ rfl rfl hl.1 hstk (lv_room hcat) hd ⟨Nat.zero_le _, Nat.zero_le _⟩) hS (fun q _ h => aA_up hC.2.2.2.2.2.2.2.1 hS q h) (aA_up hC.2.2.2.2.2.2.2.1 hS) (fun u t H1 locs1 ht hvm hp hB hz hk hS1 => by
    rw [ht] at hB
    exact kk u hp H1 locs1 ls hB hS1 hl)
theorem wp_callSv {post : St → Prop} (hC : Cx p s m args meth c A H0 nL G cc own Ts) (hM : MV l y ws rm G As σ post) (hT : GoodIn Ts (va_wsS own index y ws)) (hw : ws = Cond.code y bytes maxL (none) :: ws') (hrm : rm.cells = 0 ∧ rm.slots = 0) (hR : rm.frames + 1 ≤ R.frames ∧ 8 + (maxL + 11) + rm.locals ≤ R.locals) (hy : y.cls ≠ "java/lang/invoke/MethodHandle" ∧ y.cls ≠ "java/lang/invoke/VarHandle" ∧ (parseMethodDescriptor y.desc).map (fun d => d.parameters.length) = some As.length) (hstk : stk = As.reverse ++ st) (hcat : (st.map fun v => v.category).sum ≤ 8) (hd : decode cc pc = .ok (.invokestatic index, 3)) (kk : ∀ (σ2 : St), post σ2 → wp p l e R s m args below meth c A H0 nL Q G σ2 (pc + 3) lv st) : wp p l e R s m args below meth c A H0 nL Q G σ pc lv stk := fun H locs ls hP hS hl => by
  refine va_callv (va_runS (As := As) (rest := st) ⟨hC.1, hC.2.1, hC.2.2.1, hC.2.2.2.1, hC.2.2.2.2.1⟩ (hM H.size) (va_cwS As.length hC.2.2.2.2.1 hT hw hrm.1 hrm.2 hy hR) ⟨fbW, fun U hU hW => ⟨rfl, by rw [hU], by rw [hU]; exact hP, va_K.moved hW.alike hC.2.2.2.2.2.1, nestP.warm hW hC.2.2.2.2.2.2.2.2.2⟩⟩ rfl rfl hl.1 hstk (lv_room hcat) hd ⟨Nat.zero_le _, Nat.zero_le _⟩) hS (fun q _ h => aA_up hC.2.2.2.2.2.2.2.1 hS q h) (aA_up hC.2.2.2.2.2.2.2.1 hS) (fun u t H1 locs1 ht hvm hp hB hz hk hS1 => by
    rw [ht] at hB
    exact kk u hp H1 locs1 ls hB hS1 hl)
theorem wp_callNv {post : St → Prop} (hC : Cx p s m args meth c A H0 nL G cc own Ts) (hM : MV l y ws rm G As σ post) (hT : GoodIn Ts ws) (hw : ws = Cond.code y bytes maxL (none) :: ws') (hrm : rm.cells = 0 ∧ rm.slots = 0) (hR : rm.frames + 1 ≤ R.frames ∧ 8 + (maxL + 11) + rm.locals ≤ R.locals) (hy : y.cls ≠ "java/lang/invoke/MethodHandle" ∧ y.cls ≠ "java/lang/invoke/VarHandle" ∧ (parseMethodDescriptor y.desc).map (fun d => d.parameters.length) = some As.length) (hln : Cond.methodLinkNest own index y host ∈ tables_1) (hini : Cond.initialized y.cls ∈ Ts) (hstt : Cond.static y ∈ Ts) (hstk : stk = As.reverse ++ st) (hcat : (st.map fun v => v.category).sum ≤ 8) (hd : decode cc pc = .ok (.invokestatic index, 3)) (kk : ∀ (σ2 : St), post σ2 → wp p l e R s m args below meth c A H0 nL Q G σ2 (pc + 3) lv st) : wp p l e R s m args below meth c A H0 nL Q G σ pc lv stk := fun H locs ls hP hS hl => by
  refine va_callv (va_runSN (As := As) (rest := st) (host := host) ⟨hC.1, hC.2.1, hC.2.2.1, hC.2.2.2.1, hC.2.2.2.2.1⟩ (hM H.size) ⟨va_cnB As.length hC.2.2.2.2.1 hT hw hrm.1 hrm.2 (hC.2.2.2.2.2.2.2.2.2 _ hln rfl) (hC.2.2.2.2.1 _ hini) hy hR, hC.2.2.2.2.1 _ hstt, trivial⟩ ⟨fbW, fun U hU hW => ⟨rfl, by rw [hU], by rw [hU]; exact hP, va_K.moved hW.alike hC.2.2.2.2.2.1, nestP.warm hW hC.2.2.2.2.2.2.2.2.2⟩⟩ rfl rfl hl.1 hstk (lv_room hcat) hd ⟨Nat.zero_le _, Nat.zero_le _⟩) hS (fun q _ h => aA_up hC.2.2.2.2.2.2.2.1 hS q h) (aA_up hC.2.2.2.2.2.2.2.1 hS) (fun u t H1 locs1 ht hvm hp hB hz hk hS1 => by
    rw [ht] at hB
    exact kk u hp H1 locs1 ls hB hS1 hl)
theorem wp_callVr {post : Nat → St → Prop} (hC : Cx p s m args meth c A H0 nL G cc own Ts) (hM : MR l y ws rm G (.ref (G.2.2 i) :: As) σ post) (hT : GoodIn Ts (wsV own index C y ws)) (hw : ws = Cond.code y bytes maxL (some (.object host)) :: ws') (hrm : rm.cells = 0 ∧ rm.slots = 0) (hR : rm.frames + 1 ≤ R.frames ∧ 8 + (maxL + 11) + rm.locals ≤ R.locals) (hy : y.cls = C ∧ y.cls ≠ "java/lang/invoke/MethodHandle" ∧ y.cls ≠ "java/lang/invoke/VarHandle" ∧ (parseMethodDescriptor y.desc).map (fun d => d.parameters.length) = some As.length) (ho : kd i = 0) (hi : i < NID) (hcl : vwCl[kc i]? = some (C, T, N)) (hstk : stk = As.reverse ++ .ref (G.2.2 i) :: st) (hcat : (st.map fun v => v.category).sum ≤ 8) (hd : decode cc pc = .ok (.invokevirtual index, 3)) (kk : ∀ (j : Nat) (σ2 : St), post j σ2 → wp p l e R s m args below meth c A H0 nL Q G σ2 (pc + 3) lv (.ref (G.2.2 j) :: st)) : wp p l e R s m args below meth c A H0 nL Q G σ pc lv stk := fun H locs ls hP hS hl => by
  refine va_callr (va_runV (As := As) (rest := st) ⟨hC.1, hC.2.1, hC.2.2.1, hC.2.2.2.1, hC.2.2.2.2.1⟩ (hM H.size) (cwV As.length hC.2.2.2.2.1 hT hw hrm.1 hrm.2 hy hR) ⟨fbW, va_recv hC.2.2.2.2.2.1 hP (q := (C, T, N)) hcl (q0 := i) (by rw [wl_get hi, ct_0 ho]), fun U hU hW => ⟨rfl, by rw [hU], by rw [hU]; exact hP, va_K.moved hW.alike hC.2.2.2.2.2.1, nestP.warm hW hC.2.2.2.2.2.2.2.2.2⟩⟩ rfl rfl hl.1 hstk (lv_room hcat) hd ⟨Nat.zero_le _, Nat.zero_le _⟩) hS (fun q _ h => aA_up hC.2.2.2.2.2.2.2.1 hS q h) (aA_up hC.2.2.2.2.2.2.2.1 hS) (fun u a t H1 locs1 ht hvm hp hB hz hk hS1 => by
    obtain ⟨rfl, hB⟩ := hB
    rw [ht] at hB
    exact kk u.2 u.1 hp H1 locs1 ls hB hS1 hl)
end CAL
