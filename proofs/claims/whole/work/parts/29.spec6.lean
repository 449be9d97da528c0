/-! SPEC 6: partings: the reference's flow -/
def up2 (P : Int → Int → Int) (s o v : Int) : Int → Int → Int := fun x y => if x = s ∧ y = o then v else P x y
theorem up2_s {P : Int → Int → Int} {s o v : Int} : up2 P s o v s o = v := if_pos ⟨rfl, rfl⟩
theorem up2_n {P : Int → Int → Int} {s o v x y : Int} (h : ¬ (x = s ∧ y = o)) : up2 P s o v x y = P x y := if_neg h
/-- what the parting has, as the cells have it -/
def pt (σ : St) (s o : Int) : Int := σ (46 + s.toNat) o
def GP (σ : St) (P : Int → Int → Int) : St := fun a b => if 46 ≤ a ∧ a < 82 then P ((a : Int) - 46) b else σ a b
theorem GP_r {σ : St} {P : Int → Int → Int} {s o : Int} (h : 0 ≤ s ∧ s < 36) : GP σ P (46 + s.toNat) o = P s o := by
  unfold GP
  rw [if_pos (by omega)]
  congr 1
  omega
theorem GP_o {σ : St} {P : Int → Int → Int} {a : Nat} {b : Int} (h : ¬ (46 ≤ a ∧ a < 82)) : GP σ P a b = σ a b := if_neg h
theorem GP_put {σ : St} {P : Int → Int → Int} {s o v : Int} (h : 0 ≤ s ∧ s < 36) : put (GP σ P) (46 + s.toNat) o v = GP σ (up2 P s o v) := by
  funext a b
  by_cases q : a = 46 + s.toNat ∧ b = o
  · rw [q.1, q.2, put_s, GP_r h, up2_s]
  · rw [put_q q]
    unfold GP
    by_cases r : 46 ≤ a ∧ a < 82
    · rw [if_pos r, if_pos r, up2_n (by omega)]
    · rw [if_neg r, if_neg r]
theorem GP_self {σ : St} : GP σ (pt σ) = σ := by
  funext a b
  unfold GP pt
  by_cases r : 46 ≤ a ∧ a < 82
  · rw [if_pos r]
    congr 1
    omega
  · rw [if_neg r]
theorem rowP : ∀ t, t < 36 → kd (46 + t) = 1 ∧ ln (46 + t) = 24 := by decide
/-- a supply may go to an order -/
def adj (σ : St) (s o : Int) : Prop := tb (σ 3 o) (s / 12) = true ∧ s % 12 ≤ σ 1 (64 + o)
/-- how much of a supply may go to an order yet -/
def rmF (σ : St) (P : Int → Int → Int) (s o : Int) : Int := if tb (σ 3 o) (s / 12) = true ∧ s % 12 ≤ σ 1 (64 + o) then (if s = σ 0 28 ∧ o = σ 0 27 then σ 0 29 - P s o else 99) else 0
/-- an edge by which one more may go -/
def EDG (σ : St) (P : Int → Int → Int) (u v : Int) : Prop := (u < 36 ∧ 36 ≤ v ∧ v < 36 + σ 0 5 ∧ 0 < rmF σ P u (v - 36)) ∨ (36 ≤ u ∧ v < 36 ∧ 0 < P v (u - 36))
/-- places in a queue that lead back to a free supply -/
def TREE (σ : St) (P : Int → Int → Int) (f ps : Int → Int) : Prop := ∀ v, 0 ≤ v → v < 60 → 0 ≤ f v → 0 ≤ ps v ∧ v < 36 + σ 0 5 ∧ ((f v = v ∧ v < 36 ∧ 0 < σ 15 v) ∨ (f v < 60 ∧ 0 ≤ f (f v) ∧ ps (f v) < ps v ∧ EDG σ P (f v) v))
def CLOS (σ : St) (P : Int → Int → Int) (f : Int → Int) : Prop := (∀ s, 0 ≤ s → s < 36 → 0 < σ 15 s → 0 ≤ f s) ∧ ∀ u v, 0 ≤ u → u < 36 + σ 0 5 → 0 ≤ v → v < 36 + σ 0 5 → 0 ≤ f u → EDG σ P u v → 0 ≤ f v
/-- from and queue -/
def FQ (σ : St) (f q : Int → Int) : St := fun a b => if a = 17 then f b else if a = 18 then q b else σ a b
theorem FQ_0 {σ : St} : σ = FQ σ (σ 17) (σ 18) := by
  funext a b
  unfold FQ
  by_cases h : a = 17
  · rw [if_pos h, h]
  · rw [if_neg h]
    by_cases h2 : a = 18
    · rw [if_pos h2, h2]
    · rw [if_neg h2]
theorem FQ_f {σ : St} {f q : Int → Int} {k v : Int} : put (FQ σ f q) 17 k v = FQ σ (up1 f k v) q := by
  funext a b
  by_cases h : a = 17 ∧ b = k
  · rw [h.1, h.2, put_s]
    show v = up1 f k v k
    rw [up1_s]
  · rw [put_q h]
    unfold FQ
    by_cases h2 : a = 17
    · rw [if_pos h2, if_pos h2, up1_n (fun z => h ⟨h2, z⟩)]
    · rw [if_neg h2, if_neg h2]
theorem FQ_q {σ : St} {f q : Int → Int} {k v : Int} : put (FQ σ f q) 18 k v = FQ σ f (up1 q k v) := by
  funext a b
  by_cases h : a = 18 ∧ b = k
  · rw [h.1, h.2, put_s]
    show v = up1 q k v k
    rw [up1_s]
  · rw [put_q h]
    unfold FQ
    by_cases h2 : a = 17
    · rw [if_pos h2, if_pos h2]
    · rw [if_neg h2, if_neg h2]
      by_cases h3 : a = 18
      · rw [if_pos h3, if_pos h3, up1_n (fun z => h ⟨h3, z⟩)]
      · rw [if_neg h3, if_neg h3]
/-- sums of a parting: of a supply, into an order -/
def rs (P : Int → Int → Int) (n s : Int) : Int := sm (fun o => P s o) n
def cs (P : Int → Int → Int) (o : Int) : Int := sm (fun s => P s o) 36
theorem rs_up {P : Int → Int → Int} {n s o v x : Int} (ho : 0 ≤ o ∧ o < n) : rs (up2 P s o v) n x = rs P n x + if x = s then v - P s o else 0 := by
  by_cases h : x = s
  · rw [if_pos h]
    subst h
    exact sm_up ho (fun q _ _ => by
      by_cases e : q = o
      · rw [if_pos e, e, up2_s]; omega
      · rw [if_neg e, up2_n (fun z => e z.2)])
  · rw [if_neg h, Int.add_zero]
    exact sm_c (fun q _ _ => up2_n (fun z => h z.1))
theorem cs_up {P : Int → Int → Int} {s o v y : Int} (hs : 0 ≤ s ∧ s < 36) : cs (up2 P s o v) y = cs P y + if y = o then v - P s o else 0 := by
  by_cases h : y = o
  · rw [if_pos h]
    subst h
    exact sm_up hs (fun q _ _ => by
      by_cases e : q = s
      · rw [if_pos e, e, up2_s]; omega
      · rw [if_neg e, up2_n (fun z => e z.1)])
  · rw [if_neg h, Int.add_zero]
    exact sm_c (fun q _ _ => up2_n (fun z => h z.2))
/-- a parting's bounds -/
def PB (σ : St) (P : Int → Int → Int) : Prop := ∀ s o, 0 ≤ s → s < 36 → 0 ≤ o → o < 24 → 0 ≤ P s o ∧ P s o ≤ 99 ∧ (0 < P s o → o < σ 0 5 ∧ adj σ s o) ∧ (s = σ 0 28 → o = σ 0 27 → P s o ≤ σ 0 29)
/-- what the promised want -/
def dem (σ : St) (o : Int) : Int := if σ 1 (40 + o) = 1 then σ 2 o else 0
def FLOWX (σ : St) (P : Int → Int → Int) : Prop := PB σ P ∧ (∀ s, 0 ≤ s → s < 36 → rs P (σ 0 5) s ≤ σ 1 s) ∧ ∀ o, 0 ≤ o → o < σ 0 5 → cs P o = dem σ o
/-- orders that want more than can go to them -/
def CUTV (σ : St) (X R : Int → Bool) : Prop := (∀ s o, 0 ≤ s → s < 36 → 0 ≤ o → o < σ 0 5 → R s = true → X o = true → adj σ s o → s = σ 0 28 ∧ o = σ 0 27) ∧
  sm (fun s => if R s = true then (if s = σ 0 28 ∧ X (σ 0 27) = true ∧ (0 ≤ σ 0 27 ∧ σ 0 27 < σ 0 5) ∧ tb (σ 3 (σ 0 27)) (s / 12) = true ∧ s % 12 ≤ σ 1 (64 + σ 0 27) then σ 0 29 else 0) else σ 1 s) 36 < sm (fun o => if X o = true then dem σ o else 0) (σ 0 5)
