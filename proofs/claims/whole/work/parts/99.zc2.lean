/-! the numbered world of the first state -/
def eqe (e e2 : va_E) : Prop := ∀ (D : va_G) (x : Nat) (H : Heap), va_at D vwCl (x, e) H → va_at D vwCl (x, e2) H
theorem eqe_r {e e2 : va_E} (h : e = e2) : eqe e e2 := fun D x H q => by
  rw [← h]
  exact q
theorem eqe_f {cA : ClassId} {n : Nat} {f g : Nat → Int32} (h : ∀ j, f j = g j) : eqe (.inl (cA, n, .inl f)) (.inl (cA, n, .inl g)) := eqe_r (by rw [show f = g from funext h])
theorem arrV_congr {cA : ClassId} {n : Nat} {f g : Nat → Value} (h : ∀ j, j < n → f j = g j) : arrV cA n f = arrV cA n g := by
  unfold arrV
  rw [show (fun j : Fin n => f j.val) = (fun j : Fin n => g j.val) from funext fun j => h j.val j.isLt]
theorem eqe_q {cA : ClassId} {n : Nat} {f g : Nat → Option Nat} (h : ∀ j, j < n → f j = g j) : eqe (.inl (cA, n, .inr (.inr (.inr (.inr f))))) (.inl (cA, n, .inr (.inr (.inr (.inr g))))) := fun D x H q => by
  have q2 : H[x]? = some (vp_cell cA (n, .inr (.inr (.inr (.inr f))))) := q
  show H[x]? = some (vp_cell cA (n, .inr (.inr (.inr (.inr g)))))
  rw [q2, vp_cell_q, vp_cell_q, arrV_congr (fun j hj => by rw [h j hj])]
theorem eV_s0 (n : Nat) (v : Int) (j : Nat) (hn : n = 4) : (if j < n then zI v else zI 0) = zI (if 0 ≤ (j : Int) ∧ (j : Int) < 4 then v else 0) := by
  by_cases h : j < n
  · rw [if_pos h, if_pos (by omega)]
  · rw [if_neg h, if_neg (by omega)]
theorem w_s0 (j : Nat) : upd (upd (upd (upd (fun _ => zI 0) 36 (zI 100)) 37 (zI 100)) 38 (zI 100)) 39 (zI 100) j = zI (s0 1 j) := by
  rw [s0_1]
  unfold upd
  by_cases h9 : j = 39
  · rw [if_pos h9, if_pos (by omega)]
  · rw [if_neg h9]
    by_cases h8 : j = 38
    · rw [if_pos h8, if_pos (by omega)]
    · rw [if_neg h8]
      by_cases h7 : j = 37
      · rw [if_pos h7, if_pos (by omega)]
      · rw [if_neg h7]
        by_cases h6 : j = 36
        · rw [if_pos h6, if_pos (by omega)]
        · rw [if_neg h6, if_neg (by omega)]
theorem rm_s0 (j : Nat) : upd (upd (upd (upd (fun _ => zI 0) 0 (zI (-1))) 1 (zI (-1))) 2 (zI (-1))) 3 (zI (-1)) j = zI (s0 21 j) := by
  rw [s0_21]
  unfold upd
  by_cases h9 : j = 3
  · rw [if_pos h9, if_pos (by omega)]
  · rw [if_neg h9]
    by_cases h8 : j = 2
    · rw [if_pos h8, if_pos (by omega)]
    · rw [if_neg h8]
      by_cases h7 : j = 1
      · rw [if_pos h7, if_pos (by omega)]
      · rw [if_neg h7]
        by_cases h6 : j = 0
        · rw [if_pos h6, if_pos (by omega)]
        · rw [if_neg h6, if_neg (by omega)]
abbrev W8w (K : Nat → ClassId) (q : Nat) (aB aN aQ : Nat → Nat) (qh ql : Nat) (aL : Nat → Nat → Nat) (fL : Nat → Option Nat) (aT aS aF aH aP : Nat → Nat) (qr : Nat) : va_W := [(q, .inr (9, [.ref (aB 0), .ref (aN 0), .ref (aQ 0), .ref qh, .ref (aT 0), .ref (aS 0), .ref (aF 0), .ref (aH 0), .ref (aP 0), .ref qr, .int (zI 0), .int (zI 0), .int (zI 0)]))] ++ bkC K aB ++ stC K aN ++ stC K aQ ++ (hsC K qh ql fL ++ stS K aL 13) ++ tpC K aT ++ spC K aS ++ flC K aF ++ shC K aH ++ prC K aP ++ [(qr, eI K 4)]
abbrev W9w (K : Nat → ClassId) (a r1 r2 r3 : Nat → Nat) : va_W := (a 0, .inr (10, [.ref (a 1), .ref (a 2), .ref (a 3), .ref (a 4), .ref (a 5), .int (zI 0), .ref (a 6), .ref (a 7), .ref (a 8), .ref (a 9), .int (zI 0), .int (zI 0), .ref (a 10), .int (zI (-1)), .int (zI 0), .int (zI 0), .ref (a 11), .ref (a 12), .int (zI 0), .int (zI 0), .int (zI 0), .ref (a 13), .ref (a 14), .ref (a 15), .ref (a 16), .ref (a 17), .ref (a 18), .int (zI 0), .int (zI 0), .int (zI 0), .ref (a 19), .int (zI 0), .int (zI 0), .ref (a 20), .ref (a 21)])) :: (a 1, .inl (K 0, 88, .inl (upd (upd (upd (upd (fun _ => zI 0) 36 (zI 100)) 37 (zI 100)) 38 (zI 100)) 39 (zI 100)))) :: (a 21, .inl (K 0, 4, .inl (upd (upd (upd (upd (fun _ => zI 0) 0 (zI (-1))) 1 (zI (-1))) 2 (zI (-1))) 3 (zI (-1))))) :: ([] ++ [(a 2, eI K 24)] ++ [(a 3, eI K 24)] ++ [(a 4, eI K 24)] ++ [(a 5, eI K 24)] ++ ([(a 6, (.inl (K 3, 12, .inr (.inr (.inr (.inr (fun j => some (r1 j)))))) : va_E))] ++ (List.range 12).map (fun j => (r1 j, eI K 88))) ++ ([(a 7, (.inl (K 3, 12, .inr (.inr (.inr (.inr (fun j => some (r2 j)))))) : va_E))] ++ (List.range 12).map (fun j => (r2 j, eI K 88))) ++ [(a 8, eI K 12)] ++ [(a 9, eI K 88)] ++ [(a 10, eI K 88)] ++ [(a 11, eI K 39)] ++ [(a 12, eI K 100)] ++ [(a 13, eI K 5)] ++ ([(a 14, (.inl (K 3, 36, .inr (.inr (.inr (.inr (fun j => some (r3 j)))))) : va_E))] ++ (List.range 36).map (fun j => (r3 j, eI K 24))) ++ [(a 15, eI K 36)] ++ [(a 16, eI K 24)] ++ [(a 17, eI K 60)] ++ [(a 18, eI K 60)] ++ [(a 19, eI K 24)] ++ [(a 20, eJ K 96)])
def adN (a r1 r2 r3 : Nat → Nat) (q : Nat) (aB aN aQ : Nat → Nat) (qh ql : Nat) (aL : Nat → Nat → Nat) (aT aS aF aH aP : Nat → Nat) (qr i : Nat) : Nat :=
  if i < 22 then a i else if i < 34 then r1 (i - 22) else if i < 46 then r2 (i - 34) else if i < 82 then r3 (i - 46) else if i = 82 then q else if i < 89 then aB (i - 83) else if i < 91 then aT (i - 89)
  else if i < 94 then aS (i - 91) else if i < 100 then aF (i - 94) else if i < 103 then aH (i - 100) else if i < 105 then aP (i - 103) else if i = 105 then qr else if i = 106 then qh else if i = 107 then ql
  else if i < 113 then aN (i - 108) else if i < 118 then aQ (i - 113) else aL ((i - 118) / 5) ((i - 118) % 5)
/-- place by place the same address and what tells the same -/
def RWL : va_W → va_W → Prop
  | [], [] => True
  | p :: x, q :: y => (p.1 = q.1 ∧ eqe p.2 q.2) ∧ RWL x y
  | _, _ => False
theorem RWL.app : ∀ {x y x2 y2 : va_W}, RWL x y → RWL x2 y2 → RWL (x ++ x2) (y ++ y2)
  | [], [], _, _, _, h => h
  | [], _ :: _, _, _, h, _ => h.elim
  | _ :: _, [], _, _, h, _ => h.elim
  | p :: x, q :: y, x2, y2, h, h2 => ⟨h.1, RWL.app (x := x) (y := y) h.2 h2⟩
theorem RWL.at : ∀ {x y : va_W} {k : Nat} {q : Nat × va_E}, RWL x y → y[k]? = some q → ∃ p, x[k]? = some p ∧ p.1 = q.1 ∧ eqe p.2 q.2
  | [], [], k, q, _, h => by cases h
  | [], _ :: _, _, _, h, _ => h.elim
  | _ :: _, [], _, _, h, _ => h.elim
  | p :: x, q :: y, 0, z, h, hk => by cases hk; exact ⟨p, rfl, h.1⟩
  | p :: x, q :: y, k + 1, z, h, hk => RWL.at (x := x) (y := y) (k := k) h.2 hk
theorem RWL.P {D : va_G} {x y : va_W} {H : Heap} (h : RWL x y) (hP : va_P D vwCl x H) : va_P D vwCl y H := fun k q hk => by
  obtain ⟨p, h1, h2, h3⟩ := RWL.at h hk
  have h4 := h3 D p.1 H (hP k p h1)
  rw [h2] at h4
  exact h4
theorem RWL.D {x y : va_W} {A : Nat → Prop} (h : RWL x y) (hD : va_D A x) : va_D A y := ⟨fun i j u v hu hv huv => by
  obtain ⟨p, h1, h2, -⟩ := RWL.at h hu
  obtain ⟨p2, h3, h4, -⟩ := RWL.at h hv
  exact hD.1 i j p p2 h1 h3 (by rw [h2, h4, huv]), fun k q hk => by
  obtain ⟨p, h1, h2, -⟩ := RWL.at h hk
  rw [← h2]
  exact hD.2 k p h1⟩
def PD (D : va_G) (A : Nat → Prop) (H : Heap) (ws : va_W) : Prop := va_P D vwCl ws H ∧ va_D A ws
/-- one piece to the end -/
theorem PD.mv {D : va_G} {A : Nat → Prop} {H : Heap} {a b c : va_W} (h : PD D A H (a ++ (b ++ c))) : PD D A H (a ++ (c ++ b)) := by
  rw [← List.append_assoc] at h ⊢
  exact ⟨va_P.swap h.1, va_D.swap h.2⟩
theorem wl_inj {D : va_G} {K : Nat → ClassId} {ad : Nat → Nat} {σ : St} {A : Nat → Prop} (h : va_D A (wl (D, K, ad) σ)) : Inj (D, K, ad) := fun i j hi hj e => h.1 i j _ _ (wl_get hi) (wl_get hj) e
