/-! the pieces -/

set_option maxRecDepth 100000 in
theorem rw_O {D : va_G} {K : Nat → ClassId} {q qh ql qr : Nat} {aB aN aQ aT aS aF aH aP : Nat → Nat} {aL : Nat → Nat → Nat} {fL : Nat → Option Nat} {a r1 r2 r3 : Nat → Nat} : RWL ([(a 0, .inr (10, [.ref (a 1), .ref (a 2), .ref (a 3), .ref (a 4), .ref (a 5), .int (zI 0), .ref (a 6), .ref (a 7), .ref (a 8), .ref (a 9), .int (zI 0), .int (zI 0), .ref (a 10), .int (zI (-1)), .int (zI 0), .int (zI 0), .ref (a 11), .ref (a 12), .int (zI 0), .int (zI 0), .int (zI 0), .ref (a 13), .ref (a 14), .ref (a 15), .ref (a 16), .ref (a 17), .ref (a 18), .int (zI 0), .int (zI 0), .int (zI 0), .ref (a 19), .int (zI 0), .int (zI 0), .ref (a 20), .ref (a 21)])), (a 1, .inl (K 0, 88, .inl (upd (upd (upd (upd (fun _ => zI 0) 36 (zI 100)) 37 (zI 100)) 38 (zI 100)) 39 (zI 100))))]) ([0, 1].map (fun i => ((adN a r1 r2 r3 q aB aN aQ qh ql aL aT aS aF aH aP qr) i, ct (D, K, (adN a r1 r2 r3 q aB aN aQ qh ql aL aT aS aF aH aP qr)) s0 i))) := by
  exact ⟨⟨rfl, eqe_r rfl⟩, ⟨⟨rfl, eqe_f w_s0⟩, trivial⟩⟩

set_option maxRecDepth 100000 in
theorem rw_A {D : va_G} {K : Nat → ClassId} {q qh ql qr : Nat} {aB aN aQ aT aS aF aH aP : Nat → Nat} {aL : Nat → Nat → Nat} {fL : Nat → Option Nat} {a r1 r2 r3 : Nat → Nat} : RWL ([(a 2, eI K 24), (a 3, eI K 24), (a 4, eI K 24), (a 5, eI K 24), (a 6, (.inl (K 3, 12, .inr (.inr (.inr (.inr (fun j => some (r1 j)))))) : va_E))]) ([2, 3, 4, 5, 6].map (fun i => ((adN a r1 r2 r3 q aB aN aQ qh ql aL aT aS aF aH aP qr) i, ct (D, K, (adN a r1 r2 r3 q aB aN aQ qh ql aL aT aS aF aH aP qr)) s0 i))) := by
  have q6 : ∀ j, j < 12 → some (r1 j) = some ((adN a r1 r2 r3 q aB aN aQ qh ql aL aT aS aF aH aP qr) (rb 6 + j)) := fun j hj => by
    rcases (show j = 0 ∨ j = 1 ∨ j = 2 ∨ j = 3 ∨ j = 4 ∨ j = 5 ∨ j = 6 ∨ j = 7 ∨ j = 8 ∨ j = 9 ∨ j = 10 ∨ j = 11 by omega) with rfl | rfl | rfl | rfl | rfl | rfl | rfl | rfl | rfl | rfl | rfl | rfl <;> rfl
  exact ⟨⟨rfl, eqe_r rfl⟩, ⟨⟨rfl, eqe_r rfl⟩, ⟨⟨rfl, eqe_r rfl⟩, ⟨⟨rfl, eqe_r rfl⟩, ⟨⟨rfl, eqe_q q6⟩, trivial⟩⟩⟩⟩⟩

set_option maxRecDepth 100000 in
theorem rw_7 {D : va_G} {K : Nat → ClassId} {q qh ql qr : Nat} {aB aN aQ aT aS aF aH aP : Nat → Nat} {aL : Nat → Nat → Nat} {fL : Nat → Option Nat} {a r1 r2 r3 : Nat → Nat} : RWL ([(a 7, (.inl (K 3, 12, .inr (.inr (.inr (.inr (fun j => some (r2 j)))))) : va_E))]) ([7].map (fun i => ((adN a r1 r2 r3 q aB aN aQ qh ql aL aT aS aF aH aP qr) i, ct (D, K, (adN a r1 r2 r3 q aB aN aQ qh ql aL aT aS aF aH aP qr)) s0 i))) := by
  have q7 : ∀ j, j < 12 → some (r2 j) = some ((adN a r1 r2 r3 q aB aN aQ qh ql aL aT aS aF aH aP qr) (rb 7 + j)) := fun j hj => by
    rcases (show j = 0 ∨ j = 1 ∨ j = 2 ∨ j = 3 ∨ j = 4 ∨ j = 5 ∨ j = 6 ∨ j = 7 ∨ j = 8 ∨ j = 9 ∨ j = 10 ∨ j = 11 by omega) with rfl | rfl | rfl | rfl | rfl | rfl | rfl | rfl | rfl | rfl | rfl | rfl <;> rfl
  exact ⟨⟨rfl, eqe_q q7⟩, trivial⟩

set_option maxRecDepth 100000 in
theorem rw_M {D : va_G} {K : Nat → ClassId} {q qh ql qr : Nat} {aB aN aQ aT aS aF aH aP : Nat → Nat} {aL : Nat → Nat → Nat} {fL : Nat → Option Nat} {a r1 r2 r3 : Nat → Nat} : RWL ([(a 8, eI K 12), (a 9, eI K 88), (a 10, eI K 88), (a 11, eI K 39), (a 12, eI K 100), (a 13, eI K 5), (a 14, (.inl (K 3, 36, .inr (.inr (.inr (.inr (fun j => some (r3 j)))))) : va_E))]) ([8, 9, 10, 11, 12, 13, 14].map (fun i => ((adN a r1 r2 r3 q aB aN aQ qh ql aL aT aS aF aH aP qr) i, ct (D, K, (adN a r1 r2 r3 q aB aN aQ qh ql aL aT aS aF aH aP qr)) s0 i))) := by
  have q14 : ∀ j, j < 36 → some (r3 j) = some ((adN a r1 r2 r3 q aB aN aQ qh ql aL aT aS aF aH aP qr) (rb 14 + j)) := fun j hj => by
    rcases (show j = 0 ∨ j = 1 ∨ j = 2 ∨ j = 3 ∨ j = 4 ∨ j = 5 ∨ j = 6 ∨ j = 7 ∨ j = 8 ∨ j = 9 ∨ j = 10 ∨ j = 11 ∨ j = 12 ∨ j = 13 ∨ j = 14 ∨ j = 15 ∨ j = 16 ∨ j = 17 ∨ j = 18 ∨ j = 19 ∨ j = 20 ∨ j = 21 ∨ j = 22 ∨ j = 23 ∨ j = 24 ∨ j = 25 ∨ j = 26 ∨ j = 27 ∨ j = 28 ∨ j = 29 ∨ j = 30 ∨ j = 31 ∨ j = 32 ∨ j = 33 ∨ j = 34 ∨ j = 35 by omega) with rfl | rfl | rfl | rfl | rfl | rfl | rfl | rfl | rfl | rfl | rfl | rfl | rfl | rfl | rfl | rfl | rfl | rfl | rfl | rfl | rfl | rfl | rfl | rfl | rfl | rfl | rfl | rfl | rfl | rfl | rfl | rfl | rfl | rfl | rfl | rfl <;> rfl
  exact ⟨⟨rfl, eqe_r rfl⟩, ⟨⟨rfl, eqe_r rfl⟩, ⟨⟨rfl, eqe_r rfl⟩, ⟨⟨rfl, eqe_r rfl⟩, ⟨⟨rfl, eqe_r rfl⟩, ⟨⟨rfl, eqe_r rfl⟩, ⟨⟨rfl, eqe_q q14⟩, trivial⟩⟩⟩⟩⟩⟩⟩

set_option maxRecDepth 100000 in
theorem rw_E {D : va_G} {K : Nat → ClassId} {q qh ql qr : Nat} {aB aN aQ aT aS aF aH aP : Nat → Nat} {aL : Nat → Nat → Nat} {fL : Nat → Option Nat} {a r1 r2 r3 : Nat → Nat} : RWL ([(a 15, eI K 36), (a 16, eI K 24), (a 17, eI K 60), (a 18, eI K 60), (a 19, eI K 24), (a 20, eJ K 96)]) ([15, 16, 17, 18, 19, 20].map (fun i => ((adN a r1 r2 r3 q aB aN aQ qh ql aL aT aS aF aH aP qr) i, ct (D, K, (adN a r1 r2 r3 q aB aN aQ qh ql aL aT aS aF aH aP qr)) s0 i))) := by
  exact ⟨⟨rfl, eqe_r rfl⟩, ⟨⟨rfl, eqe_r rfl⟩, ⟨⟨rfl, eqe_r rfl⟩, ⟨⟨rfl, eqe_r rfl⟩, ⟨⟨rfl, eqe_r rfl⟩, ⟨⟨rfl, eqe_r rfl⟩, trivial⟩⟩⟩⟩⟩⟩

set_option maxRecDepth 100000 in
theorem rw_RM {D : va_G} {K : Nat → ClassId} {q qh ql qr : Nat} {aB aN aQ aT aS aF aH aP : Nat → Nat} {aL : Nat → Nat → Nat} {fL : Nat → Option Nat} {a r1 r2 r3 : Nat → Nat} : RWL ([(a 21, .inl (K 0, 4, .inl (upd (upd (upd (upd (fun _ => zI 0) 0 (zI (-1))) 1 (zI (-1))) 2 (zI (-1))) 3 (zI (-1)))))]) ([21].map (fun i => ((adN a r1 r2 r3 q aB aN aQ qh ql aL aT aS aF aH aP qr) i, ct (D, K, (adN a r1 r2 r3 q aB aN aQ qh ql aL aT aS aF aH aP qr)) s0 i))) := by
  exact ⟨⟨rfl, eqe_f rm_s0⟩, trivial⟩

set_option maxRecDepth 100000 in
theorem rw_R1 {D : va_G} {K : Nat → ClassId} {q qh ql qr : Nat} {aB aN aQ aT aS aF aH aP : Nat → Nat} {aL : Nat → Nat → Nat} {fL : Nat → Option Nat} {a r1 r2 r3 : Nat → Nat} : RWL ((List.range 12).map (fun j => (r1 j, eI K 88))) ([22, 23, 24, 25, 26, 27, 28, 29, 30, 31, 32, 33].map (fun i => ((adN a r1 r2 r3 q aB aN aQ qh ql aL aT aS aF aH aP qr) i, ct (D, K, (adN a r1 r2 r3 q aB aN aQ qh ql aL aT aS aF aH aP qr)) s0 i))) := by
  exact ⟨⟨rfl, eqe_r rfl⟩, ⟨⟨rfl, eqe_r rfl⟩, ⟨⟨rfl, eqe_r rfl⟩, ⟨⟨rfl, eqe_r rfl⟩, ⟨⟨rfl, eqe_r rfl⟩, ⟨⟨rfl, eqe_r rfl⟩, ⟨⟨rfl, eqe_r rfl⟩, ⟨⟨rfl, eqe_r rfl⟩, ⟨⟨rfl, eqe_r rfl⟩, ⟨⟨rfl, eqe_r rfl⟩, ⟨⟨rfl, eqe_r rfl⟩, ⟨⟨rfl, eqe_r rfl⟩, trivial⟩⟩⟩⟩⟩⟩⟩⟩⟩⟩⟩⟩

set_option maxRecDepth 100000 in
theorem rw_R2 {D : va_G} {K : Nat → ClassId} {q qh ql qr : Nat} {aB aN aQ aT aS aF aH aP : Nat → Nat} {aL : Nat → Nat → Nat} {fL : Nat → Option Nat} {a r1 r2 r3 : Nat → Nat} : RWL ((List.range 12).map (fun j => (r2 j, eI K 88))) ([34, 35, 36, 37, 38, 39, 40, 41, 42, 43, 44, 45].map (fun i => ((adN a r1 r2 r3 q aB aN aQ qh ql aL aT aS aF aH aP qr) i, ct (D, K, (adN a r1 r2 r3 q aB aN aQ qh ql aL aT aS aF aH aP qr)) s0 i))) := by
  exact ⟨⟨rfl, eqe_r rfl⟩, ⟨⟨rfl, eqe_r rfl⟩, ⟨⟨rfl, eqe_r rfl⟩, ⟨⟨rfl, eqe_r rfl⟩, ⟨⟨rfl, eqe_r rfl⟩, ⟨⟨rfl, eqe_r rfl⟩, ⟨⟨rfl, eqe_r rfl⟩, ⟨⟨rfl, eqe_r rfl⟩, ⟨⟨rfl, eqe_r rfl⟩, ⟨⟨rfl, eqe_r rfl⟩, ⟨⟨rfl, eqe_r rfl⟩, ⟨⟨rfl, eqe_r rfl⟩, trivial⟩⟩⟩⟩⟩⟩⟩⟩⟩⟩⟩⟩

set_option maxRecDepth 100000 in
theorem rw_R3 {D : va_G} {K : Nat → ClassId} {q qh ql qr : Nat} {aB aN aQ aT aS aF aH aP : Nat → Nat} {aL : Nat → Nat → Nat} {fL : Nat → Option Nat} {a r1 r2 r3 : Nat → Nat} : RWL ((List.range 36).map (fun j => (r3 j, eI K 24))) ([46, 47, 48, 49, 50, 51, 52, 53, 54, 55, 56, 57, 58, 59, 60, 61, 62, 63, 64, 65, 66, 67, 68, 69, 70, 71, 72, 73, 74, 75, 76, 77, 78, 79, 80, 81].map (fun i => ((adN a r1 r2 r3 q aB aN aQ qh ql aL aT aS aF aH aP qr) i, ct (D, K, (adN a r1 r2 r3 q aB aN aQ qh ql aL aT aS aF aH aP qr)) s0 i))) := by
  exact ⟨⟨rfl, eqe_r rfl⟩, ⟨⟨rfl, eqe_r rfl⟩, ⟨⟨rfl, eqe_r rfl⟩, ⟨⟨rfl, eqe_r rfl⟩, ⟨⟨rfl, eqe_r rfl⟩, ⟨⟨rfl, eqe_r rfl⟩, ⟨⟨rfl, eqe_r rfl⟩, ⟨⟨rfl, eqe_r rfl⟩, ⟨⟨rfl, eqe_r rfl⟩, ⟨⟨rfl, eqe_r rfl⟩, ⟨⟨rfl, eqe_r rfl⟩, ⟨⟨rfl, eqe_r rfl⟩, ⟨⟨rfl, eqe_r rfl⟩, ⟨⟨rfl, eqe_r rfl⟩, ⟨⟨rfl, eqe_r rfl⟩, ⟨⟨rfl, eqe_r rfl⟩, ⟨⟨rfl, eqe_r rfl⟩, ⟨⟨rfl, eqe_r rfl⟩, ⟨⟨rfl, eqe_r rfl⟩, ⟨⟨rfl, eqe_r rfl⟩, ⟨⟨rfl, eqe_r rfl⟩, ⟨⟨rfl, eqe_r rfl⟩, ⟨⟨rfl, eqe_r rfl⟩, ⟨⟨rfl, eqe_r rfl⟩, ⟨⟨rfl, eqe_r rfl⟩, ⟨⟨rfl, eqe_r rfl⟩, ⟨⟨rfl, eqe_r rfl⟩, ⟨⟨rfl, eqe_r rfl⟩, ⟨⟨rfl, eqe_r rfl⟩, ⟨⟨rfl, eqe_r rfl⟩, ⟨⟨rfl, eqe_r rfl⟩, ⟨⟨rfl, eqe_r rfl⟩, ⟨⟨rfl, eqe_r rfl⟩, ⟨⟨rfl, eqe_r rfl⟩, ⟨⟨rfl, eqe_r rfl⟩, ⟨⟨rfl, eqe_r rfl⟩, trivial⟩⟩⟩⟩⟩⟩⟩⟩⟩⟩⟩⟩⟩⟩⟩⟩⟩⟩⟩⟩⟩⟩⟩⟩⟩⟩⟩⟩⟩⟩⟩⟩⟩⟩⟩⟩

set_option maxRecDepth 100000 in
theorem rw_PM {D : va_G} {K : Nat → ClassId} {q qh ql qr : Nat} {aB aN aQ aT aS aF aH aP : Nat → Nat} {aL : Nat → Nat → Nat} {fL : Nat → Option Nat} {a r1 r2 r3 : Nat → Nat} : RWL ([(q, .inr (9, [.ref (aB 0), .ref (aN 0), .ref (aQ 0), .ref qh, .ref (aT 0), .ref (aS 0), .ref (aF 0), .ref (aH 0), .ref (aP 0), .ref qr, .int (zI 0), .int (zI 0), .int (zI 0)]))]) ([82].map (fun i => ((adN a r1 r2 r3 q aB aN aQ qh ql aL aT aS aF aH aP qr) i, ct (D, K, (adN a r1 r2 r3 q aB aN aQ qh ql aL aT aS aF aH aP qr)) s0 i))) := by
  exact ⟨⟨rfl, eqe_r rfl⟩, trivial⟩

set_option maxRecDepth 100000 in
theorem rw_B {D : va_G} {K : Nat → ClassId} {q qh ql qr : Nat} {aB aN aQ aT aS aF aH aP : Nat → Nat} {aL : Nat → Nat → Nat} {fL : Nat → Option Nat} {a r1 r2 r3 : Nat → Nat} : RWL (bkC K aB) ([83, 84, 85, 86, 87, 88].map (fun i => ((adN a r1 r2 r3 q aB aN aQ qh ql aL aT aS aF aH aP qr) i, ct (D, K, (adN a r1 r2 r3 q aB aN aQ qh ql aL aT aS aF aH aP qr)) s0 i))) := by
  exact ⟨⟨rfl, eqe_r rfl⟩, ⟨⟨rfl, eqe_r rfl⟩, ⟨⟨rfl, eqe_r rfl⟩, ⟨⟨rfl, eqe_r rfl⟩, ⟨⟨rfl, eqe_r rfl⟩, ⟨⟨rfl, eqe_r rfl⟩, trivial⟩⟩⟩⟩⟩⟩

set_option maxRecDepth 100000 in
theorem rw_T {D : va_G} {K : Nat → ClassId} {q qh ql qr : Nat} {aB aN aQ aT aS aF aH aP : Nat → Nat} {aL : Nat → Nat → Nat} {fL : Nat → Option Nat} {a r1 r2 r3 : Nat → Nat} : RWL (tpC K aT) ([89, 90].map (fun i => ((adN a r1 r2 r3 q aB aN aQ qh ql aL aT aS aF aH aP qr) i, ct (D, K, (adN a r1 r2 r3 q aB aN aQ qh ql aL aT aS aF aH aP qr)) s0 i))) := by
  exact ⟨⟨rfl, eqe_r rfl⟩, ⟨⟨rfl, eqe_r rfl⟩, trivial⟩⟩

set_option maxRecDepth 100000 in
theorem rw_SP {D : va_G} {K : Nat → ClassId} {q qh ql qr : Nat} {aB aN aQ aT aS aF aH aP : Nat → Nat} {aL : Nat → Nat → Nat} {fL : Nat → Option Nat} {a r1 r2 r3 : Nat → Nat} : RWL (spC K aS) ([91, 92, 93].map (fun i => ((adN a r1 r2 r3 q aB aN aQ qh ql aL aT aS aF aH aP qr) i, ct (D, K, (adN a r1 r2 r3 q aB aN aQ qh ql aL aT aS aF aH aP qr)) s0 i))) := by
  exact ⟨⟨rfl, eqe_r rfl⟩, ⟨⟨rfl, eqe_r rfl⟩, ⟨⟨rfl, eqe_r rfl⟩, trivial⟩⟩⟩

set_option maxRecDepth 100000 in
theorem rw_F {D : va_G} {K : Nat → ClassId} {q qh ql qr : Nat} {aB aN aQ aT aS aF aH aP : Nat → Nat} {aL : Nat → Nat → Nat} {fL : Nat → Option Nat} {a r1 r2 r3 : Nat → Nat} : RWL (flC K aF) ([94, 95, 96, 97, 98, 99].map (fun i => ((adN a r1 r2 r3 q aB aN aQ qh ql aL aT aS aF aH aP qr) i, ct (D, K, (adN a r1 r2 r3 q aB aN aQ qh ql aL aT aS aF aH aP qr)) s0 i))) := by
  exact ⟨⟨rfl, eqe_r rfl⟩, ⟨⟨rfl, eqe_r rfl⟩, ⟨⟨rfl, eqe_r rfl⟩, ⟨⟨rfl, eqe_r rfl⟩, ⟨⟨rfl, eqe_r rfl⟩, ⟨⟨rfl, eqe_r rfl⟩, trivial⟩⟩⟩⟩⟩⟩

set_option maxRecDepth 100000 in
theorem rw_SH {D : va_G} {K : Nat → ClassId} {q qh ql qr : Nat} {aB aN aQ aT aS aF aH aP : Nat → Nat} {aL : Nat → Nat → Nat} {fL : Nat → Option Nat} {a r1 r2 r3 : Nat → Nat} : RWL (shC K aH) ([100, 101, 102].map (fun i => ((adN a r1 r2 r3 q aB aN aQ qh ql aL aT aS aF aH aP qr) i, ct (D, K, (adN a r1 r2 r3 q aB aN aQ qh ql aL aT aS aF aH aP qr)) s0 i))) := by
  exact ⟨⟨rfl, eqe_r rfl⟩, ⟨⟨rfl, eqe_r rfl⟩, ⟨⟨rfl, eqe_f (fun j => eV_s0 4 (-1) j rfl)⟩, trivial⟩⟩⟩

set_option maxRecDepth 100000 in
theorem rw_PR {D : va_G} {K : Nat → ClassId} {q qh ql qr : Nat} {aB aN aQ aT aS aF aH aP : Nat → Nat} {aL : Nat → Nat → Nat} {fL : Nat → Option Nat} {a r1 r2 r3 : Nat → Nat} : RWL (prC K aP) ([103, 104].map (fun i => ((adN a r1 r2 r3 q aB aN aQ qh ql aL aT aS aF aH aP qr) i, ct (D, K, (adN a r1 r2 r3 q aB aN aQ qh ql aL aT aS aF aH aP qr)) s0 i))) := by
  exact ⟨⟨rfl, eqe_r rfl⟩, ⟨⟨rfl, eqe_r rfl⟩, trivial⟩⟩

set_option maxRecDepth 100000 in
theorem rw_RO {D : va_G} {K : Nat → ClassId} {q qh ql qr : Nat} {aB aN aQ aT aS aF aH aP : Nat → Nat} {aL : Nat → Nat → Nat} {fL : Nat → Option Nat} {a r1 r2 r3 : Nat → Nat} : RWL ([(qr, eI K 4)]) ([105].map (fun i => ((adN a r1 r2 r3 q aB aN aQ qh ql aL aT aS aF aH aP qr) i, ct (D, K, (adN a r1 r2 r3 q aB aN aQ qh ql aL aT aS aF aH aP qr)) s0 i))) := by
  exact ⟨⟨rfl, eqe_r rfl⟩, trivial⟩

set_option maxRecDepth 100000 in
theorem rw_HS {D : va_G} {K : Nat → ClassId} {q qh ql qr : Nat} {aB aN aQ aT aS aF aH aP : Nat → Nat} {aL : Nat → Nat → Nat} {fL : Nat → Option Nat} {a r1 r2 r3 : Nat → Nat} (hL : ∀ j, j < 13 → fL j = some (aL j 0)) : RWL (hsC K qh ql fL) ([106, 107].map (fun i => ((adN a r1 r2 r3 q aB aN aQ qh ql aL aT aS aF aH aP qr) i, ct (D, K, (adN a r1 r2 r3 q aB aN aQ qh ql aL aT aS aF aH aP qr)) s0 i))) := by
  have q107 : ∀ j, j < 13 → fL j = some ((adN a r1 r2 r3 q aB aN aQ qh ql aL aT aS aF aH aP qr) (108 + 5 * (s0 107 j).toNat)) := fun j hj => by
    rw [hL j hj]
    rcases (show j = 0 ∨ j = 1 ∨ j = 2 ∨ j = 3 ∨ j = 4 ∨ j = 5 ∨ j = 6 ∨ j = 7 ∨ j = 8 ∨ j = 9 ∨ j = 10 ∨ j = 11 ∨ j = 12 by omega) with rfl | rfl | rfl | rfl | rfl | rfl | rfl | rfl | rfl | rfl | rfl | rfl | rfl <;> rfl
  exact ⟨⟨rfl, eqe_r rfl⟩, ⟨⟨rfl, eqe_q q107⟩, trivial⟩⟩

set_option maxRecDepth 100000 in
theorem rw_N {D : va_G} {K : Nat → ClassId} {q qh ql qr : Nat} {aB aN aQ aT aS aF aH aP : Nat → Nat} {aL : Nat → Nat → Nat} {fL : Nat → Option Nat} {a r1 r2 r3 : Nat → Nat} : RWL (stC K aN) ([108, 109, 110, 111, 112].map (fun i => ((adN a r1 r2 r3 q aB aN aQ qh ql aL aT aS aF aH aP qr) i, ct (D, K, (adN a r1 r2 r3 q aB aN aQ qh ql aL aT aS aF aH aP qr)) s0 i))) := by
  exact ⟨⟨rfl, eqe_r rfl⟩, ⟨⟨rfl, eqe_r rfl⟩, ⟨⟨rfl, eqe_f (fun j => eV_s0 4 100 j rfl)⟩, ⟨⟨rfl, eqe_r rfl⟩, ⟨⟨rfl, eqe_r rfl⟩, trivial⟩⟩⟩⟩⟩

set_option maxRecDepth 100000 in
theorem rw_Q {D : va_G} {K : Nat → ClassId} {q qh ql qr : Nat} {aB aN aQ aT aS aF aH aP : Nat → Nat} {aL : Nat → Nat → Nat} {fL : Nat → Option Nat} {a r1 r2 r3 : Nat → Nat} : RWL (stC K aQ) ([113, 114, 115, 116, 117].map (fun i => ((adN a r1 r2 r3 q aB aN aQ qh ql aL aT aS aF aH aP qr) i, ct (D, K, (adN a r1 r2 r3 q aB aN aQ qh ql aL aT aS aF aH aP qr)) s0 i))) := by
  exact ⟨⟨rfl, eqe_r rfl⟩, ⟨⟨rfl, eqe_r rfl⟩, ⟨⟨rfl, eqe_f (fun j => eV_s0 4 100 j rfl)⟩, ⟨⟨rfl, eqe_r rfl⟩, ⟨⟨rfl, eqe_r rfl⟩, trivial⟩⟩⟩⟩⟩

set_option maxRecDepth 100000 in
theorem rw_S0 {D : va_G} {K : Nat → ClassId} {q qh ql qr : Nat} {aB aN aQ aT aS aF aH aP : Nat → Nat} {aL : Nat → Nat → Nat} {fL : Nat → Option Nat} {a r1 r2 r3 : Nat → Nat} : RWL (stC K (aL 0)) ([118, 119, 120, 121, 122].map (fun i => ((adN a r1 r2 r3 q aB aN aQ qh ql aL aT aS aF aH aP qr) i, ct (D, K, (adN a r1 r2 r3 q aB aN aQ qh ql aL aT aS aF aH aP qr)) s0 i))) := by
  exact ⟨⟨rfl, eqe_r rfl⟩, ⟨⟨rfl, eqe_r rfl⟩, ⟨⟨rfl, eqe_f (fun j => eV_s0 4 100 j rfl)⟩, ⟨⟨rfl, eqe_r rfl⟩, ⟨⟨rfl, eqe_r rfl⟩, trivial⟩⟩⟩⟩⟩

set_option maxRecDepth 100000 in
theorem rw_S1 {D : va_G} {K : Nat → ClassId} {q qh ql qr : Nat} {aB aN aQ aT aS aF aH aP : Nat → Nat} {aL : Nat → Nat → Nat} {fL : Nat → Option Nat} {a r1 r2 r3 : Nat → Nat} : RWL (stC K (aL 1)) ([123, 124, 125, 126, 127].map (fun i => ((adN a r1 r2 r3 q aB aN aQ qh ql aL aT aS aF aH aP qr) i, ct (D, K, (adN a r1 r2 r3 q aB aN aQ qh ql aL aT aS aF aH aP qr)) s0 i))) := by
  exact ⟨⟨rfl, eqe_r rfl⟩, ⟨⟨rfl, eqe_r rfl⟩, ⟨⟨rfl, eqe_f (fun j => eV_s0 4 100 j rfl)⟩, ⟨⟨rfl, eqe_r rfl⟩, ⟨⟨rfl, eqe_r rfl⟩, trivial⟩⟩⟩⟩⟩

set_option maxRecDepth 100000 in
theorem rw_S2 {D : va_G} {K : Nat → ClassId} {q qh ql qr : Nat} {aB aN aQ aT aS aF aH aP : Nat → Nat} {aL : Nat → Nat → Nat} {fL : Nat → Option Nat} {a r1 r2 r3 : Nat → Nat} : RWL (stC K (aL 2)) ([128, 129, 130, 131, 132].map (fun i => ((adN a r1 r2 r3 q aB aN aQ qh ql aL aT aS aF aH aP qr) i, ct (D, K, (adN a r1 r2 r3 q aB aN aQ qh ql aL aT aS aF aH aP qr)) s0 i))) := by
  exact ⟨⟨rfl, eqe_r rfl⟩, ⟨⟨rfl, eqe_r rfl⟩, ⟨⟨rfl, eqe_f (fun j => eV_s0 4 100 j rfl)⟩, ⟨⟨rfl, eqe_r rfl⟩, ⟨⟨rfl, eqe_r rfl⟩, trivial⟩⟩⟩⟩⟩

set_option maxRecDepth 100000 in
theorem rw_S3 {D : va_G} {K : Nat → ClassId} {q qh ql qr : Nat} {aB aN aQ aT aS aF aH aP : Nat → Nat} {aL : Nat → Nat → Nat} {fL : Nat → Option Nat} {a r1 r2 r3 : Nat → Nat} : RWL (stC K (aL 3)) ([133, 134, 135, 136, 137].map (fun i => ((adN a r1 r2 r3 q aB aN aQ qh ql aL aT aS aF aH aP qr) i, ct (D, K, (adN a r1 r2 r3 q aB aN aQ qh ql aL aT aS aF aH aP qr)) s0 i))) := by
  exact ⟨⟨rfl, eqe_r rfl⟩, ⟨⟨rfl, eqe_r rfl⟩, ⟨⟨rfl, eqe_f (fun j => eV_s0 4 100 j rfl)⟩, ⟨⟨rfl, eqe_r rfl⟩, ⟨⟨rfl, eqe_r rfl⟩, trivial⟩⟩⟩⟩⟩

set_option maxRecDepth 100000 in
theorem rw_S4 {D : va_G} {K : Nat → ClassId} {q qh ql qr : Nat} {aB aN aQ aT aS aF aH aP : Nat → Nat} {aL : Nat → Nat → Nat} {fL : Nat → Option Nat} {a r1 r2 r3 : Nat → Nat} : RWL (stC K (aL 4)) ([138, 139, 140, 141, 142].map (fun i => ((adN a r1 r2 r3 q aB aN aQ qh ql aL aT aS aF aH aP qr) i, ct (D, K, (adN a r1 r2 r3 q aB aN aQ qh ql aL aT aS aF aH aP qr)) s0 i))) := by
  exact ⟨⟨rfl, eqe_r rfl⟩, ⟨⟨rfl, eqe_r rfl⟩, ⟨⟨rfl, eqe_f (fun j => eV_s0 4 100 j rfl)⟩, ⟨⟨rfl, eqe_r rfl⟩, ⟨⟨rfl, eqe_r rfl⟩, trivial⟩⟩⟩⟩⟩

set_option maxRecDepth 100000 in
theorem rw_S5 {D : va_G} {K : Nat → ClassId} {q qh ql qr : Nat} {aB aN aQ aT aS aF aH aP : Nat → Nat} {aL : Nat → Nat → Nat} {fL : Nat → Option Nat} {a r1 r2 r3 : Nat → Nat} : RWL (stC K (aL 5)) ([143, 144, 145, 146, 147].map (fun i => ((adN a r1 r2 r3 q aB aN aQ qh ql aL aT aS aF aH aP qr) i, ct (D, K, (adN a r1 r2 r3 q aB aN aQ qh ql aL aT aS aF aH aP qr)) s0 i))) := by
  exact ⟨⟨rfl, eqe_r rfl⟩, ⟨⟨rfl, eqe_r rfl⟩, ⟨⟨rfl, eqe_f (fun j => eV_s0 4 100 j rfl)⟩, ⟨⟨rfl, eqe_r rfl⟩, ⟨⟨rfl, eqe_r rfl⟩, trivial⟩⟩⟩⟩⟩

set_option maxRecDepth 100000 in
theorem rw_S6 {D : va_G} {K : Nat → ClassId} {q qh ql qr : Nat} {aB aN aQ aT aS aF aH aP : Nat → Nat} {aL : Nat → Nat → Nat} {fL : Nat → Option Nat} {a r1 r2 r3 : Nat → Nat} : RWL (stC K (aL 6)) ([148, 149, 150, 151, 152].map (fun i => ((adN a r1 r2 r3 q aB aN aQ qh ql aL aT aS aF aH aP qr) i, ct (D, K, (adN a r1 r2 r3 q aB aN aQ qh ql aL aT aS aF aH aP qr)) s0 i))) := by
  exact ⟨⟨rfl, eqe_r rfl⟩, ⟨⟨rfl, eqe_r rfl⟩, ⟨⟨rfl, eqe_f (fun j => eV_s0 4 100 j rfl)⟩, ⟨⟨rfl, eqe_r rfl⟩, ⟨⟨rfl, eqe_r rfl⟩, trivial⟩⟩⟩⟩⟩

set_option maxRecDepth 100000 in
theorem rw_S7 {D : va_G} {K : Nat → ClassId} {q qh ql qr : Nat} {aB aN aQ aT aS aF aH aP : Nat → Nat} {aL : Nat → Nat → Nat} {fL : Nat → Option Nat} {a r1 r2 r3 : Nat → Nat} : RWL (stC K (aL 7)) ([153, 154, 155, 156, 157].map (fun i => ((adN a r1 r2 r3 q aB aN aQ qh ql aL aT aS aF aH aP qr) i, ct (D, K, (adN a r1 r2 r3 q aB aN aQ qh ql aL aT aS aF aH aP qr)) s0 i))) := by
  exact ⟨⟨rfl, eqe_r rfl⟩, ⟨⟨rfl, eqe_r rfl⟩, ⟨⟨rfl, eqe_f (fun j => eV_s0 4 100 j rfl)⟩, ⟨⟨rfl, eqe_r rfl⟩, ⟨⟨rfl, eqe_r rfl⟩, trivial⟩⟩⟩⟩⟩

set_option maxRecDepth 100000 in
theorem rw_S8 {D : va_G} {K : Nat → ClassId} {q qh ql qr : Nat} {aB aN aQ aT aS aF aH aP : Nat → Nat} {aL : Nat → Nat → Nat} {fL : Nat → Option Nat} {a r1 r2 r3 : Nat → Nat} : RWL (stC K (aL 8)) ([158, 159, 160, 161, 162].map (fun i => ((adN a r1 r2 r3 q aB aN aQ qh ql aL aT aS aF aH aP qr) i, ct (D, K, (adN a r1 r2 r3 q aB aN aQ qh ql aL aT aS aF aH aP qr)) s0 i))) := by
  exact ⟨⟨rfl, eqe_r rfl⟩, ⟨⟨rfl, eqe_r rfl⟩, ⟨⟨rfl, eqe_f (fun j => eV_s0 4 100 j rfl)⟩, ⟨⟨rfl, eqe_r rfl⟩, ⟨⟨rfl, eqe_r rfl⟩, trivial⟩⟩⟩⟩⟩

set_option maxRecDepth 100000 in
theorem rw_S9 {D : va_G} {K : Nat → ClassId} {q qh ql qr : Nat} {aB aN aQ aT aS aF aH aP : Nat → Nat} {aL : Nat → Nat → Nat} {fL : Nat → Option Nat} {a r1 r2 r3 : Nat → Nat} : RWL (stC K (aL 9)) ([163, 164, 165, 166, 167].map (fun i => ((adN a r1 r2 r3 q aB aN aQ qh ql aL aT aS aF aH aP qr) i, ct (D, K, (adN a r1 r2 r3 q aB aN aQ qh ql aL aT aS aF aH aP qr)) s0 i))) := by
  exact ⟨⟨rfl, eqe_r rfl⟩, ⟨⟨rfl, eqe_r rfl⟩, ⟨⟨rfl, eqe_f (fun j => eV_s0 4 100 j rfl)⟩, ⟨⟨rfl, eqe_r rfl⟩, ⟨⟨rfl, eqe_r rfl⟩, trivial⟩⟩⟩⟩⟩

set_option maxRecDepth 100000 in
theorem rw_S10 {D : va_G} {K : Nat → ClassId} {q qh ql qr : Nat} {aB aN aQ aT aS aF aH aP : Nat → Nat} {aL : Nat → Nat → Nat} {fL : Nat → Option Nat} {a r1 r2 r3 : Nat → Nat} : RWL (stC K (aL 10)) ([168, 169, 170, 171, 172].map (fun i => ((adN a r1 r2 r3 q aB aN aQ qh ql aL aT aS aF aH aP qr) i, ct (D, K, (adN a r1 r2 r3 q aB aN aQ qh ql aL aT aS aF aH aP qr)) s0 i))) := by
  exact ⟨⟨rfl, eqe_r rfl⟩, ⟨⟨rfl, eqe_r rfl⟩, ⟨⟨rfl, eqe_f (fun j => eV_s0 4 100 j rfl)⟩, ⟨⟨rfl, eqe_r rfl⟩, ⟨⟨rfl, eqe_r rfl⟩, trivial⟩⟩⟩⟩⟩

set_option maxRecDepth 100000 in
theorem rw_S11 {D : va_G} {K : Nat → ClassId} {q qh ql qr : Nat} {aB aN aQ aT aS aF aH aP : Nat → Nat} {aL : Nat → Nat → Nat} {fL : Nat → Option Nat} {a r1 r2 r3 : Nat → Nat} : RWL (stC K (aL 11)) ([173, 174, 175, 176, 177].map (fun i => ((adN a r1 r2 r3 q aB aN aQ qh ql aL aT aS aF aH aP qr) i, ct (D, K, (adN a r1 r2 r3 q aB aN aQ qh ql aL aT aS aF aH aP qr)) s0 i))) := by
  exact ⟨⟨rfl, eqe_r rfl⟩, ⟨⟨rfl, eqe_r rfl⟩, ⟨⟨rfl, eqe_f (fun j => eV_s0 4 100 j rfl)⟩, ⟨⟨rfl, eqe_r rfl⟩, ⟨⟨rfl, eqe_r rfl⟩, trivial⟩⟩⟩⟩⟩

set_option maxRecDepth 100000 in
theorem rw_S12 {D : va_G} {K : Nat → ClassId} {q qh ql qr : Nat} {aB aN aQ aT aS aF aH aP : Nat → Nat} {aL : Nat → Nat → Nat} {fL : Nat → Option Nat} {a r1 r2 r3 : Nat → Nat} : RWL (stC K (aL 12)) ([178, 179, 180, 181, 182].map (fun i => ((adN a r1 r2 r3 q aB aN aQ qh ql aL aT aS aF aH aP qr) i, ct (D, K, (adN a r1 r2 r3 q aB aN aQ qh ql aL aT aS aF aH aP qr)) s0 i))) := by
  exact ⟨⟨rfl, eqe_r rfl⟩, ⟨⟨rfl, eqe_r rfl⟩, ⟨⟨rfl, eqe_f (fun j => eV_s0 4 100 j rfl)⟩, ⟨⟨rfl, eqe_r rfl⟩, ⟨⟨rfl, eqe_r rfl⟩, trivial⟩⟩⟩⟩⟩
