/-! BASE: whole numbers for Java's; one world for all cells, by number; judgement wp over it -/
def zI (x : Int) : Int32 := Int32.ofInt x
def zL (x : Int) : Int64 := Int64.ofInt x
/-- what an int holds -/
abbrev iR (x : Int) : Prop := -2147483648 ≤ x ∧ x ≤ 2147483647
abbrev lR (x : Int) : Prop := -9223372036854775808 ≤ x ∧ x ≤ 9223372036854775807
theorem zI_toInt {x : Int} (h : iR x) : (zI x).toInt = x := by
  obtain ⟨h1, h2⟩ := h
  show (Int32.ofInt x).toInt = x
  rw [Int32.toInt_ofInt]
  have hs : (Int32.size : Int) = 4294967296 := rfl
  exact Int.bmod_eq_of_le (by rw [hs]; omega) (by rw [hs]; omega)
theorem zI_of (x : Int32) : zI x.toInt = x := Int32.ofInt_toInt x
theorem iR_of (x : Int32) : iR x.toInt := ⟨Int32.le_toInt x, by have := Int32.toInt_lt x; omega⟩
theorem zI_inj {x y : Int} (hx : iR x) (hy : iR y) (h : zI x = zI y) : x = y := by
  rw [← zI_toInt hx, ← zI_toInt hy, h]
theorem zI_add (x y : Int) : zI x + zI y = zI (x + y) := (Int32.ofInt_add x y).symm
theorem zI_sub (x y : Int) : zI x - zI y = zI (x - y) := (Int32.ofInt_sub x y).symm
theorem zI_mul (x y : Int) : zI x * zI y = zI (x * y) := (Int32.ofInt_mul x y).symm
theorem zI_neg (x : Int) : - zI x = zI (-x) := (Int32.ofInt_neg x).symm
theorem zI_lt {x y : Int} (hx : iR x) (hy : iR y) : zI x < zI y ↔ x < y := by
  rw [Int32.lt_iff_toInt_lt, zI_toInt hx, zI_toInt hy]
theorem zI_le {x y : Int} (hx : iR x) (hy : iR y) : zI x ≤ zI y ↔ x ≤ y := by
  rw [Int32.le_iff_toInt_le, zI_toInt hx, zI_toInt hy]
theorem zI_eq {x y : Int} (hx : iR x) (hy : iR y) : zI x = zI y ↔ x = y := ⟨zI_inj hx hy, fun h => by rw [h]⟩
theorem zI_clamp {x : Int} (hx : iR x) : (zI x).toNatClampNeg = x.toNat := by
  show (zI x).toInt.toNat = x.toNat
  rw [zI_toInt hx]
theorem zI_vp {x : Int} {n : Nat} (hx : iR x) (h0 : 0 ≤ x) (h1 : x < n) : vp_in (zI x) n := by
  rw [vp_in_iff, zI_toInt hx]
  exact ⟨h0, h1⟩
theorem zI_div {x y : Int} (hx : iR x) (hy : iR y) (h : ¬ (x = -2147483648 ∧ y = -1)) : zI x / zI y = zI (x.tdiv y) := by
  obtain ⟨x1, x2⟩ := hx
  obtain ⟨y1, y2⟩ := hy
  have h1 : Int32.minValue.toInt = -2147483648 := by decide
  have h2 : Int32.maxValue.toInt = 2147483647 := by decide
  exact (Int32.ofInt_tdiv (by rw [h1]; exact x1) (by rw [h2]; exact x2) (by rw [h1]; exact y1) (by rw [h2]; exact y2)).symm
theorem zI_nn {x : Int} : narrow .int (.int (zI x)) = .int (zI x) := rfl
def iand (a b : Int) : Int := (zI a &&& zI b).toInt
def ior (a b : Int) : Int := (zI a ||| zI b).toInt
def ixor (a b : Int) : Int := (zI a ^^^ zI b).toInt
def ishl (a b : Int) : Int := (zI a <<< (zI b &&& 31)).toInt
def ishr (a b : Int) : Int := (zI a >>> (zI b &&& 31)).toInt
/-- one more of a function of places -/
def up1 {α : Type} (f : Int → α) (k : Int) (v : α) : Int → α := fun j => if j = k then v else f j
theorem up1_s {α : Type} {f : Int → α} {k : Int} {v : α} : up1 f k v k = v := if_pos rfl
theorem up1_n {α : Type} {f : Int → α} {k j : Int} {v : α} (h : j ≠ k) : up1 f k v j = f j := if_neg h
/-- the state of all cells: cell's number, place, what it holds -/
abbrev St : Type := Nat → Int → Int
def put (σ : St) (i : Nat) (k v : Int) : St := fun a b => if a = i ∧ b = k then v else σ a b
theorem put_s {σ : St} {i : Nat} {k v : Int} : put σ i k v i k = v := if_pos ⟨rfl, rfl⟩
theorem put_i {σ : St} {i a : Nat} {k v b : Int} (h : a ≠ i) : put σ i k v a b = σ a b := if_neg fun q => h q.1
theorem put_k {σ : St} {i a : Nat} {k v b : Int} (h : b ≠ k) : put σ i k v a b = σ a b := if_neg fun q => h q.2
theorem put_e {σ : St} {i : Nat} {k v b : Int} : put σ i k v i b = if b = k then v else σ i b := by
  unfold put
  by_cases h : b = k
  · rw [if_pos ⟨rfl, h⟩, if_pos h]
  · rw [if_neg (fun q => h q.2), if_neg h]
theorem put_same {σ : St} {i : Nat} {k v : Int} (h : σ i k = v) : put σ i k v = σ := by
  funext a b
  unfold put
  by_cases q : a = i ∧ b = k
  · rw [if_pos q, q.1, q.2, h]
  · rw [if_neg q]
/-- cells' kinds: 1 int[], 2 char[], 3 long[], 4 an array of arrays or objects that stand in a row, 5 the row of states (any order), 0 an object -/
def kd (i : Nat) : Nat :=
  if i = 0 then 0 else if i = 6 then 4 else if i = 7 then 4 else if i = 14 then 4 else if i = 20 then 3
  else if i < 82 then 1
  else if i < 108 then (if i = 82 then 0 else if i = 83 then 0 else if i = 89 then 0 else if i = 90 then 2 else if i = 91 then 0 else if i = 94 then 0
    else if i = 100 then 0 else if i = 101 then 3 else if i = 103 then 0 else if i = 104 then 2 else if i = 106 then 0 else if i = 107 then 5 else 1)
  else if (i - 108) % 5 = 0 then 0 else 1
/-- how many places an array has -/
def ln (i : Nat) : Nat :=
  if i < 22 then ([0, 88, 24, 24, 24, 24, 12, 12, 12, 88, 88, 39, 100, 5, 36, 36, 24, 60, 60, 24, 96, 4].getD i 0)
  else if i < 46 then 88 else if i < 82 then 24
  else if i < 108 then ([0, 0, 24, 24, 24, 24, 24, 0, 100, 0, 2197, 39, 0, 8, 256, 256, 39, 4, 0, 96, 4, 0, 32, 4, 0, 13].getD (i - 82) 0)
  else ([0, 36, 4, 24, 24].getD ((i - 108) % 5) 0)
/-- the first of those that stand in a row -/
def rb (i : Nat) : Nat := if i = 6 then 22 else if i = 7 then 34 else 46
/-- an object's class (its place in vwCl), how many fields -/
def kc (i : Nat) : Nat := if i = 0 then 10 else if i = 82 then 9 else if i = 83 then 1 else if i = 89 then 8 else if i = 91 then 7 else if i = 94 then 2 else if i = 100 then 5 else if i = 103 then 4 else if i = 106 then 3 else 6
def kn (i : Nat) : Nat := if i = 0 then 35 else if i = 82 then 13 else if i = 83 then 6 else if i = 89 then 4 else if i = 91 then 2 else if i = 94 then 7 else if i = 100 then 2 else if i = 103 then 2 else if i = 106 then 3 else 5
/-- the cell that a field of an object names; none: the field holds a number -/
def fr (i k : Nat) : Option Nat :=
  if i = 0 then ([some 1, some 2, some 3, some 4, some 5, none, some 6, some 7, some 8, some 9, none, none, some 10, none, none, none, some 11, some 12, none, none, none, some 13, some 14, some 15, some 16, some 17, some 18, none, none, none, some 19, none, none, some 20, some 21].getD k none)
  else if i = 82 then ([some 83, some 108, some 113, some 106, some 89, some 91, some 94, some 100, some 103, some 105].getD k none)
  else if i = 83 then (if k < 5 then some (84 + k) else none)
  else if i = 89 then (if k = 0 then some 90 else none)
  else if i = 91 then (if k < 2 then some (92 + k) else none)
  else if i = 94 then (if k < 5 then some (95 + k) else none)
  else if i = 100 then (if k < 2 then some (101 + k) else none)
  else if i = 103 then (if k = 0 then some 104 else none)
  else if i = 106 then (if k = 0 then some 107 else none)
  else (if k < 4 then some (i + 1 + k) else none)
abbrev NID : Nat := 183
/-- where the cells lie: the classes' tables, the array classes, the addresses -/
abbrev Gy : Type := va_G × (Nat → ClassId) × (Nat → Nat)
def fv (G : Gy) (σ : St) (i k : Nat) : Value := match fr i k with
  | some j => .ref (G.2.2 j)
  | none => .int (zI (σ i k))
def ct (G : Gy) (σ : St) (i : Nat) : va_E :=
  if kd i = 0 then .inr (kc i, (List.range (kn i)).map (fv G σ i))
  else if kd i = 1 then .inl (G.2.1 0, ln i, .inl (fun j => zI (σ i j)))
  else if kd i = 2 then .inl (G.2.1 1, ln i, .inl (fun j => zI (σ i j)))
  else if kd i = 3 then .inl (G.2.1 2, ln i, .inr (.inl (fun j => zL (σ i j))))
  else if kd i = 4 then .inl (G.2.1 3, ln i, .inr (.inr (.inr (.inr (fun j => some (G.2.2 (rb i + j)))))))
  else .inl (G.2.1 4, ln i, .inr (.inr (.inr (.inr (fun j => some (G.2.2 (108 + 5 * (σ i j).toNat)))))))
def wl (G : Gy) (σ : St) : va_W := (List.range NID).map (fun i => (G.2.2 i, ct G σ i))
abbrev tysW (G : Gy) : List (ClassId × FieldType) := [(G.2.1 0, .int), (G.2.1 1, .char), (G.2.1 2, .long), (G.2.1 3, .array .int), (G.2.1 4, .object "PromiseMind$State")]
theorem wl_get {G : Gy} {σ : St} {i : Nat} (h : i < NID) : (wl G σ)[i]? = some (G.2.2 i, ct G σ i) := by
  simp only [wl, List.getElem?_map, List.getElem?_range h, Option.map_some]
theorem wl_set {G : Gy} {σ σ' : St} {i : Nat} {e : va_E} (h : i < NID) (he : ct G σ' i = e) (ho : ∀ j, j < NID → j ≠ i → ct G σ' j = ct G σ j) : (wl G σ).set i (G.2.2 i, e) = wl G σ' := by
  apply List.ext_getElem?
  intro k
  by_cases hk : k = i
  · subst hk
    rw [wl_get h, List.getElem?_set_self (by simp [wl]; exact h), he]
  · rw [List.getElem?_set_ne (Ne.symm hk)]
    by_cases hl : k < NID
    · rw [wl_get hl, wl_get hl, ho k hl hk]
    · rw [List.getElem?_eq_none (by simp [wl]; omega), List.getElem?_eq_none (by simp [wl]; omega)]
theorem ct_put {G : Gy} {σ : St} {i j : Nat} {k v : Int} (h : j ≠ i) : ct G (put σ i k v) j = ct G σ j := by
  have e : ∀ b, put σ i k v j b = σ j b := fun b => put_i h
  unfold ct
  simp only [e]
  have f : fv G (put σ i k v) j = fv G σ j := by
    funext b
    unfold fv
    simp only [e]
  rw [f]
theorem ct_1 {G : Gy} {σ : St} {i : Nat} (h : kd i = 1) : ct G σ i = .inl (G.2.1 0, ln i, .inl (fun j => zI (σ i j))) := by simp [ct, h]
theorem ct_2 {G : Gy} {σ : St} {i : Nat} (h : kd i = 2) : ct G σ i = .inl (G.2.1 1, ln i, .inl (fun j => zI (σ i j))) := by simp [ct, h]
theorem ct_3 {G : Gy} {σ : St} {i : Nat} (h : kd i = 3) : ct G σ i = .inl (G.2.1 2, ln i, .inr (.inl (fun j => zL (σ i j)))) := by simp [ct, h]
theorem ct_4 {G : Gy} {σ : St} {i : Nat} (h : kd i = 4) : ct G σ i = .inl (G.2.1 3, ln i, .inr (.inr (.inr (.inr (fun j => some (G.2.2 (rb i + j))))))) := by simp [ct, h]
theorem ct_5 {G : Gy} {σ : St} {i : Nat} (h : kd i = 5) : ct G σ i = .inl (G.2.1 4, ln i, .inr (.inr (.inr (.inr (fun j => some (G.2.2 (108 + 5 * (σ i j).toNat))))))) := by simp [ct, h]
theorem ct_0 {G : Gy} {σ : St} {i : Nat} (h : kd i = 0) : ct G σ i = .inr (kc i, (List.range (kn i)).map (fv G σ i)) := by simp [ct, h]
theorem upd_z {f : Nat → Int} {x v : Int} (h0 : 0 ≤ x) {g : Nat → Int} (hg : ∀ j : Nat, g j = if (j : Int) = x then v else f j) : (fun j => zI (g j)) = upd (fun j => zI (f j)) x.toNat (zI v) := by
  funext j
  unfold upd
  rw [hg]
  by_cases h : (j : Int) = x
  · rw [if_pos h, if_pos (by omega)]
  · rw [if_neg h, if_neg (by omega)]
