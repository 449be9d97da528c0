set_option maxHeartbeats 4000000 in
set_option maxRecDepth 100000 in
/-- from the entry, for every script of at most 2560 ints, the law comes to its end with true -/
theorem whole_start0 (hm : MNAq) {p : Program} {e : Env} {s : State} {m : MethodId} {below : List Frame} {meth : Method} {c : Code} (l : Launch) (hflags : l.flags = flags0) {b L : Nat} {xs : Nat → Int32} (hL : L ≤ 2560) (C0 : lw_At p s m meth c b L xs) : W p l e room_1 s m #[Value.ref b] below meth c s.heap [] 0 0 (lw_Z below #[Value.ref b] s) (entryFrame m ([Value.ref b] : List Value).toArray 4) := by
  obtain ⟨hx, hcd, hret, hml, hown, hts, hXs, hbl, hlk, hgv⟩ := C0
  obtain ⟨A, hAe⟩ : ∃ A : Nat → Prop, A = fun q => s.heap.size ≤ q := ⟨_, rfl⟩
  have hA0 : ∀ a : Nat, a < s.heap.size → ¬ A a := fun a h q => by
    rw [hAe] at q
    have q2 : s.heap.size ≤ a := q
    omega
  have hA1 : ∀ q, s.heap.size ≤ q → A q := fun q h => by rw [hAe]; exact h
  have hA2 : ∀ q, A q → s.heap.size ≤ q := fun q h => by rw [hAe] at h; exact h
  clear hAe
  obtain ⟨Z, hSK, hDG⟩ := start_Z hts hgv hA0
  obtain ⟨D, hDk⟩ := start_D hts
  obtain ⟨K, cB, hKk, hfB⟩ := start_K hts
  have hN := start_N hts
  have hKB : va_K D vwCl (tyk K ++ [(cB, FieldType.byte)]) s := ⟨hDk, hKk⟩
  have hK : va_K D vwCl (tyk K) s := ⟨hDk, fun k q hk => hKk k q (by
    rw [List.getElem?_append_left (List.getElem?_eq_some_iff.mp hk).1]
    exact hk)⟩
  have hC : Cw p s m #[.ref b] meth c A s.heap 4 D vwCl (tyk K) code RL wsL_law := ⟨hx, hcd, hml, hown, law_words hts, hK, hA1, hlk⟩
  have main : wpw p l e room_1 s m #[.ref b] below meth c A s.heap 4 (lw_Z below #[Value.ref b] s) D vwCl [] 0 0 0 [(0, .ref b)] [] := by
    refine wpw_newo (ci := 9) hC rfl (by decide +kernel) tyX8 tyX8_ok [.null, .null, .null, .null, .null, .null, .null, .null, .null, .null, .int (zI 0), .int (zI 0), .int (zI 0)] (fun j hj => by rcases (show j = 0 ∨ j = 1 ∨ j = 2 ∨ j = 3 ∨ j = 4 ∨ j = 5 ∨ j = 6 ∨ j = 7 ∨ j = 8 ∨ j = 9 ∨ j = 10 ∨ j = 11 ∨ j = 12 by omega) with rfl | rfl | rfl | rfl | rfl | rfl | rfl | rfl | rfl | rfl | rfl | rfl | rfl <;> rfl) (by decide +kernel) (by decide +kernel) (by decide +kernel) (by show _ ≤ 600000; decide) (by show _ ≤ 7302250; decide) dlaw_0 (fun q => ?_)
    refine wpw_dup hC dlaw_3 rfl ?_
    refine wpw_callKI (V := []) (As := []) hC hN k_X8_init gL_law_X8_init (by decide +kernel) (by decide +kernel) (by decide +kernel) rfl ⟨by decide, by decide⟩ ⟨by show _ ≤ 600000; decide, by show _ ≤ 7302250; decide⟩ hkIX8_init rfl rfl (Nat.le_of_ble_eq_true rfl) dlaw_4 (fun Y8 hp8 => ?_)
    obtain ⟨aB, aN, aQ, qh, ql, aL, fL, aT, aS, aF, aH, aP, qr, hfL, hY8⟩ := hp8
    subst hY8
    refine wpw_astore_n (lv2 := [(0, _), (1, _)]) hC dlaw_7 rfl (by decide) ?_
    refine wpw_newo (ci := 10) hC rfl (by decide +kernel) tyX9 tyX9_ok [.null, .null, .null, .null, .null, .int (zI 0), .null, .null, .null, .null, .int (zI 0), .int (zI 0), .null, .int (zI 0), .int (zI 0), .int (zI 0), .null, .null, .int (zI 0), .int (zI 0), .int (zI 0), .null, .null, .null, .null, .null, .null, .int (zI 0), .int (zI 0), .int (zI 0), .null, .int (zI 0), .int (zI 0), .null, .null] (fun j hj => by rcases (show j = 0 ∨ j = 1 ∨ j = 2 ∨ j = 3 ∨ j = 4 ∨ j = 5 ∨ j = 6 ∨ j = 7 ∨ j = 8 ∨ j = 9 ∨ j = 10 ∨ j = 11 ∨ j = 12 ∨ j = 13 ∨ j = 14 ∨ j = 15 ∨ j = 16 ∨ j = 17 ∨ j = 18 ∨ j = 19 ∨ j = 20 ∨ j = 21 ∨ j = 22 ∨ j = 23 ∨ j = 24 ∨ j = 25 ∨ j = 26 ∨ j = 27 ∨ j = 28 ∨ j = 29 ∨ j = 30 ∨ j = 31 ∨ j = 32 ∨ j = 33 ∨ j = 34 by omega) with rfl | rfl | rfl | rfl | rfl | rfl | rfl | rfl | rfl | rfl | rfl | rfl | rfl | rfl | rfl | rfl | rfl | rfl | rfl | rfl | rfl | rfl | rfl | rfl | rfl | rfl | rfl | rfl | rfl | rfl | rfl | rfl | rfl | rfl | rfl <;> rfl) (by decide +kernel) (by decide +kernel) (by decide +kernel) (by show _ ≤ 600000; decide) (by show _ ≤ 7302250; decide) dlaw_8 (fun q9 => ?_)
    refine wpw_dup hC dlaw_11 rfl ?_
    refine wpw_callKI (As := []) hC hN (k_X9_init hm) gL_law_X9_init (by decide +kernel) (by decide +kernel) (by decide +kernel) rfl ⟨by decide, by decide⟩ ⟨by show _ ≤ 600000; decide, by show _ ≤ 7302250; decide⟩ hkIX9_init rfl rfl (Nat.le_of_ble_eq_true rfl) dlaw_12 (fun Y9 hp9 => ?_)
    obtain ⟨a, r1, r2, r3, ea, hY9⟩ := hp9
    subst hY9
    subst ea
    refine wpw_astore_n (lv2 := [(0, _), (1, _), (2, _)]) hC dlaw_15 rfl (by decide) ?_
    refine wpw_iconst hC dlaw_16 ?_
    refine wpw_istore_n (lv2 := [(0, _), (1, _), (2, _), (3, _)]) hC dlaw_17 rfl (by decide) ?_
    refine wpw_more (cells2 := 200) (slots2 := 9000) (by decide) (by decide) ?_
    refine wpw_ws (ws2 := W8w K q aB aN aQ qh ql aL fL aT aS aF aH aP qr ++ W9w K a r1 r2 r3) rfl ?_
    intro H locs ls hP hD hS hl
    have hpd := start_wl hfL ⟨hP, hD⟩
    have hG : Inj (D, K, adN a r1 r2 r3 q aB aN aQ qh ql aL aT aS aF aH aP qr) := wl_inj hpd.2
    have hup : ∀ z, aA (D, K, adN a r1 r2 r3 q aB aN aQ qh ql aL aT aS aF aH aP qr) s.heap.size z → A z := fun z hz => by
      rcases hz with ⟨i, hi, rfl⟩ | hz
      · exact hpd.2.2 i _ (wl_get hi)
      · exact hA1 z hz
    have hCx : Cx p s m #[.ref b] meth c A s.heap 4 (D, K, adN a r1 r2 r3 q aB aN aQ qh ql aL aT aS aF aH aP qr) code RL wsL_law := ⟨hx, hcd, hml, hown, law_words hts, hK, fun σ => (wl_D hG s.heap.size σ).weaken (fun k z _ h => hup z.1 h), hup, hlk, hN.1⟩
    have hend : ∀ (σ : St) (lv : List (Nat × Value)) (cells slots : Nat), cells ≤ 600000 → slots ≤ 7302250 → wpx p l e room_1 s m #[.ref b] below meth c A s.heap 4 (lw_Z below #[Value.ref b] s) (D, K, adN a r1 r2 r3 q aB aN aQ qh ql aL aT aS aF aH aP qr) [] cells slots σ 1136 lv [] := by
      intro σ lv cells slots hc hs
      refine wpx_iconst hCx dlaw_1136 ?_
      intro H locs ls hP hD hS hl
      exact va_forget (fun z hz => hA2 _ (hS.2.2 z hz)) (fun T hT Y => lw_ret hx hcd hret hlk dlaw_1137 T hT (Y.mono hc hs))
    exact law_loop hG hCx ⟨hKB, hfB, hSK, hDG⟩ hXs hbl (hA0 b hbl) hL hend (L - 5 * 0) 0 0 s0 200 9000 rfl rfl (by decide) s0_INV (by decide) (by decide) H locs ls (by rw [List.append_nil]; exact hpd.1) (by rw [List.append_nil]; exact hpd.2) hS hl
  have hl := lv_entry ([Value.ref b] : List Value) (n := 4) (Nat.le_of_ble_eq_true rfl)
  rw [lg_entry_eq]
  generalize (lg_sl ([Value.ref b] : List Value) ++ List.replicate (4 - (lg_sl ([Value.ref b] : List Value)).length) Slot.unset).toArray = ls at hl ⊢
  exact main s.heap [] ls (fun k z hk => (by cases hk)) ⟨fun i j x y hi => (by cases hi), fun k z hk => (by cases hk)⟩ va_S.rf hl
