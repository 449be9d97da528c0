/-! the numbered world of the first state -/
def gN (i : Nat) : Nat := ([101, 102, 104, 105, 106, 107, 108, 121, 134, 135, 136, 137, 138, 139, 140, 177, 178, 179, 180, 181, 182, 103, 109, 110, 111, 112, 113, 114, 115, 116, 117, 118, 119, 120, 122, 123, 124, 125, 126, 127, 128, 129, 130, 131, 132, 133, 141, 142, 143, 144, 145, 146, 147, 148, 149, 150, 151, 152, 153, 154, 155, 156, 157, 158, 159, 160, 161, 162, 163, 164, 165, 166, 167, 168, 169, 170, 171, 172, 173, 174, 175, 176, 0, 1, 2, 3, 4, 5, 6, 84, 85, 86, 87, 88, 89, 90, 91, 92, 93, 94, 95, 96, 97, 98, 99, 100, 17, 18, 7, 8, 9, 10, 11, 12, 13, 14, 15, 16, 19, 20, 21, 22, 23, 24, 25, 26, 27, 28, 29, 30, 31, 32, 33, 34, 35, 36, 37, 38, 39, 40, 41, 42, 43, 44, 45, 46, 47, 48, 49, 50, 51, 52, 53, 54, 55, 56, 57, 58, 59, 60, 61, 62, 63, 64, 65, 66, 67, 68, 69, 70, 71, 72, 73, 74, 75, 76, 77, 78, 79, 80, 81, 82, 83] : List Nat).getD i 0
def hN_ (i : Nat) : Nat := ([82, 83, 84, 85, 86, 87, 88, 108, 109, 110, 111, 112, 113, 114, 115, 116, 117, 106, 107, 118, 119, 120, 121, 122, 123, 124, 125, 126, 127, 128, 129, 130, 131, 132, 133, 134, 135, 136, 137, 138, 139, 140, 141, 142, 143, 144, 145, 146, 147, 148, 149, 150, 151, 152, 153, 154, 155, 156, 157, 158, 159, 160, 161, 162, 163, 164, 165, 166, 167, 168, 169, 170, 171, 172, 173, 174, 175, 176, 177, 178, 179, 180, 181, 182, 89, 90, 91, 92, 93, 94, 95, 96, 97, 98, 99, 100, 101, 102, 103, 104, 105, 0, 1, 21, 2, 3, 4, 5, 6, 22, 23, 24, 25, 26, 27, 28, 29, 30, 31, 32, 33, 7, 34, 35, 36, 37, 38, 39, 40, 41, 42, 43, 44, 45, 8, 9, 10, 11, 12, 13, 14, 46, 47, 48, 49, 50, 51, 52, 53, 54, 55, 56, 57, 58, 59, 60, 61, 62, 63, 64, 65, 66, 67, 68, 69, 70, 71, 72, 73, 74, 75, 76, 77, 78, 79, 80, 81, 15, 16, 17, 18, 19, 20] : List Nat).getD i 0
theorem gN_inv : ∀ i, i < 183 → hN_ (gN i) = i := by decide +kernel
def eqe (e e2 : va_E) : Prop := ∀ (D : va_G) (x : Nat) (H : Heap), va_at D vwCl (x, e) H → va_at D vwCl (x, e2) H
theorem eqe_r {e e2 : va_E} (h : e = e2) : eqe e e2 := fun D x H q => by
  rw [← h]
  exact q
theorem eqe_f {cA : ClassId} {n : Nat} {f g : Nat → Int32} (h : ∀ j, f j = g j) : eqe (.inl (cA, n, .inl f)) (.inl (cA, n, .inl g)) := eqe_r (by rw [show f = g from funext h])
theorem arrV_congr {cA : ClassId} {n : Nat} {f g : Nat → Value} (h : ∀ j, j < n → f j = g j) : arrV cA n f = arrV cA n g := by
  unfold arrV
  rw [show (fun j : Fin n => f j.val) = (fun j : Fin n => g j.val) from funext fun j => h j.val j.isLt]
theorem eqe_q {cA : ClassId} {n : Nat} {f g : Nat → Option Nat} (h : ∀ j, j < n → f j = g j) : eqe (.inl (cA, n, .inr (.inr (.inr (.inr f))))) (.inl (cA, n, .inr (.inr (.inr (.inr g))))) := fun D x H q => by
  have q2 : H[x]? = some (vp_cell cA (n, .inr (.inr (.inr (.inr f))))) := q
  show H[x]? = some (vp_cell cA (n, .inr (.inr (.inr (.inr g)))))
  rw [q2, vp_cell_q, vp_cell_q, arrV_congr (fun j hj => by rw [h j hj])]
theorem to_wl {D : va_G} {K : Nat → ClassId} {ad : Nat → Nat} {ws : va_W} {A : Nat → Prop} {H : Heap} {σ : St} (hP : va_P D vwCl ws H) (hD : va_D A ws) (hg : ∀ i, i < NID → ∃ e, ws[gN i]? = some (ad i, e) ∧ eqe e (ct (D, K, ad) σ i)) : va_P D vwCl (wl (D, K, ad) σ) H ∧ va_D A (wl (D, K, ad) σ) ∧ Inj (D, K, ad) := by
  have key : ∀ (k : Nat) (q : Nat × va_E), (wl (D, K, ad) σ)[k]? = some q → k < NID ∧ q = (ad k, ct (D, K, ad) σ k) := by
    intro k q hk
    by_cases hl : k < NID
    · rw [wl_get hl] at hk
      cases hk
      exact ⟨hl, rfl⟩
    · rw [List.getElem?_eq_none (by rw [wl_len]; omega)] at hk
      cases hk
  have inj : ∀ i j, i < NID → j < NID → ad i = ad j → i = j := fun i j hi hj h => by
    obtain ⟨e1, a1, -⟩ := hg i hi
    obtain ⟨e2, a2, -⟩ := hg j hj
    have h3 := hD.1 _ _ _ _ a1 a2 h
    rw [← gN_inv i hi, ← gN_inv j hj, h3]
  refine ⟨fun k q hk => ?_, ⟨fun i j x y hx hy hxy => ?_, fun k q hk => ?_⟩, inj⟩
  · obtain ⟨hl, rfl⟩ := key k q hk
    obtain ⟨e, a1, a2⟩ := hg k hl
    exact a2 D _ H (hP _ _ a1)
  · obtain ⟨h1, rfl⟩ := key i x hx
    obtain ⟨h2, rfl⟩ := key j y hy
    exact inj i j h1 h2 hxy
  · obtain ⟨hl, rfl⟩ := key k q hk
    obtain ⟨e, a1, -⟩ := hg k hl
    exact hD.2 (gN k) (ad k, e) a1
theorem eV_s0 (n : Nat) (v : Int) (j : Nat) (hn : n = 4) : (if j < n then zI v else zI 0) = zI (if 0 ≤ (j : Int) ∧ (j : Int) < 4 then v else 0) := by
  by_cases h : j < n
  · rw [if_pos h, if_pos (by omega)]
  · rw [if_neg h, if_neg (by omega)]
theorem w_s0 (j : Nat) : upd (upd (upd (upd (fun _ => zI 0) 36 (zI 100)) 37 (zI 100)) 38 (zI 100)) 39 (zI 100) j = zI (s0 1 j) := by
  rw [s0_1]
  unfold upd
  by_cases h9 : j = 39
  · rw [if_pos h9, if_pos (by omega)]
  · rw [if_neg h9]
    by_cases h8 : j = 38
    · rw [if_pos h8, if_pos (by omega)]
    · rw [if_neg h8]
      by_cases h7 : j = 37
      · rw [if_pos h7, if_pos (by omega)]
      · rw [if_neg h7]
        by_cases h6 : j = 36
        · rw [if_pos h6, if_pos (by omega)]
        · rw [if_neg h6, if_neg (by omega)]
theorem rm_s0 (j : Nat) : upd (upd (upd (upd (fun _ => zI 0) 0 (zI (-1))) 1 (zI (-1))) 2 (zI (-1))) 3 (zI (-1)) j = zI (s0 21 j) := by
  rw [s0_21]
  unfold upd
  by_cases h9 : j = 3
  · rw [if_pos h9, if_pos (by omega)]
  · rw [if_neg h9]
    by_cases h8 : j = 2
    · rw [if_pos h8, if_pos (by omega)]
    · rw [if_neg h8]
      by_cases h7 : j = 1
      · rw [if_pos h7, if_pos (by omega)]
      · rw [if_neg h7]
        by_cases h6 : j = 0
        · rw [if_pos h6, if_pos (by omega)]
        · rw [if_neg h6, if_neg (by omega)]
abbrev W8w (K : Nat → ClassId) (q : Nat) (aB aN aQ : Nat → Nat) (qh ql : Nat) (aL : Nat → Nat → Nat) (fL : Nat → Option Nat) (aT aS aF aH aP : Nat → Nat) (qr : Nat) : va_W := [(q, .inr (9, [.ref (aB 0), .ref (aN 0), .ref (aQ 0), .ref qh, .ref (aT 0), .ref (aS 0), .ref (aF 0), .ref (aH 0), .ref (aP 0), .ref qr, .int (zI 0), .int (zI 0), .int (zI 0)]))] ++ bkC K aB ++ stC K aN ++ stC K aQ ++ (hsC K qh ql fL ++ stS K aL 13) ++ tpC K aT ++ spC K aS ++ flC K aF ++ shC K aH ++ prC K aP ++ [(qr, eI K 4)]
abbrev W9w (K : Nat → ClassId) (a r1 r2 r3 : Nat → Nat) : va_W := (a 0, .inr (10, [.ref (a 1), .ref (a 2), .ref (a 3), .ref (a 4), .ref (a 5), .int (zI 0), .ref (a 6), .ref (a 7), .ref (a 8), .ref (a 9), .int (zI 0), .int (zI 0), .ref (a 10), .int (zI (-1)), .int (zI 0), .int (zI 0), .ref (a 11), .ref (a 12), .int (zI 0), .int (zI 0), .int (zI 0), .ref (a 13), .ref (a 14), .ref (a 15), .ref (a 16), .ref (a 17), .ref (a 18), .int (zI 0), .int (zI 0), .int (zI 0), .ref (a 19), .int (zI 0), .int (zI 0), .ref (a 20), .ref (a 21)])) :: (a 1, .inl (K 0, 88, .inl (upd (upd (upd (upd (fun _ => zI 0) 36 (zI 100)) 37 (zI 100)) 38 (zI 100)) 39 (zI 100)))) :: (a 21, .inl (K 0, 4, .inl (upd (upd (upd (upd (fun _ => zI 0) 0 (zI (-1))) 1 (zI (-1))) 2 (zI (-1))) 3 (zI (-1))))) :: ([] ++ [(a 2, eI K 24)] ++ [(a 3, eI K 24)] ++ [(a 4, eI K 24)] ++ [(a 5, eI K 24)] ++ ([(a 6, (.inl (K 3, 12, .inr (.inr (.inr (.inr (fun j => some (r1 j)))))) : va_E))] ++ (List.range 12).map (fun j => (r1 j, eI K 88))) ++ ([(a 7, (.inl (K 3, 12, .inr (.inr (.inr (.inr (fun j => some (r2 j)))))) : va_E))] ++ (List.range 12).map (fun j => (r2 j, eI K 88))) ++ [(a 8, eI K 12)] ++ [(a 9, eI K 88)] ++ [(a 10, eI K 88)] ++ [(a 11, eI K 39)] ++ [(a 12, eI K 100)] ++ [(a 13, eI K 5)] ++ ([(a 14, (.inl (K 3, 36, .inr (.inr (.inr (.inr (fun j => some (r3 j)))))) : va_E))] ++ (List.range 36).map (fun j => (r3 j, eI K 24))) ++ [(a 15, eI K 36)] ++ [(a 16, eI K 24)] ++ [(a 17, eI K 60)] ++ [(a 18, eI K 60)] ++ [(a 19, eI K 24)] ++ [(a 20, eJ K 96)])
def adN (a r1 r2 r3 : Nat → Nat) (q : Nat) (aB aN aQ : Nat → Nat) (qh ql : Nat) (aL : Nat → Nat → Nat) (aT aS aF aH aP : Nat → Nat) (qr i : Nat) : Nat := ([a 0, a 1, a 2, a 3, a 4, a 5, a 6, a 7, a 8, a 9, a 10, a 11, a 12, a 13, a 14, a 15, a 16, a 17, a 18, a 19, a 20, a 21, r1 0, r1 1, r1 2, r1 3, r1 4, r1 5, r1 6, r1 7, r1 8, r1 9, r1 10, r1 11, r2 0, r2 1, r2 2, r2 3, r2 4, r2 5, r2 6, r2 7, r2 8, r2 9, r2 10, r2 11, r3 0, r3 1, r3 2, r3 3, r3 4, r3 5, r3 6, r3 7, r3 8, r3 9, r3 10, r3 11, r3 12, r3 13, r3 14, r3 15, r3 16, r3 17, r3 18, r3 19, r3 20, r3 21, r3 22, r3 23, r3 24, r3 25, r3 26, r3 27, r3 28, r3 29, r3 30, r3 31, r3 32, r3 33, r3 34, r3 35, q, aB 0, aB 1, aB 2, aB 3, aB 4, aB 5, aT 0, aT 1, aS 0, aS 1, aS 2, aF 0, aF 1, aF 2, aF 3, aF 4, aF 5, aH 0, aH 1, aH 2, aP 0, aP 1, qr, qh, ql, aN 0, aN 1, aN 2, aN 3, aN 4, aQ 0, aQ 1, aQ 2, aQ 3, aQ 4, aL 0 0, aL 0 1, aL 0 2, aL 0 3, aL 0 4, aL 1 0, aL 1 1, aL 1 2, aL 1 3, aL 1 4, aL 2 0, aL 2 1, aL 2 2, aL 2 3, aL 2 4, aL 3 0, aL 3 1, aL 3 2, aL 3 3, aL 3 4, aL 4 0, aL 4 1, aL 4 2, aL 4 3, aL 4 4, aL 5 0, aL 5 1, aL 5 2, aL 5 3, aL 5 4, aL 6 0, aL 6 1, aL 6 2, aL 6 3, aL 6 4, aL 7 0, aL 7 1, aL 7 2, aL 7 3, aL 7 4, aL 8 0, aL 8 1, aL 8 2, aL 8 3, aL 8 4, aL 9 0, aL 9 1, aL 9 2, aL 9 3, aL 9 4, aL 10 0, aL 10 1, aL 10 2, aL 10 3, aL 10 4, aL 11 0, aL 11 1, aL 11 2, aL 11 3, aL 11 4, aL 12 0, aL 12 1, aL 12 2, aL 12 3, aL 12 4] : List Nat).getD i 0
