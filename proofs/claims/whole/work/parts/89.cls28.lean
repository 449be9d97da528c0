section LKs
variable {p : Program} {l : Launch} {e : Env} {R : Room} {s : State} {m : MethodId} {args : Array Value} {below : List Frame} {meth : Method} {c : Code} {A : Nat → Prop} {H0 : Heap} {nL : Nat} {Q : State → Prop} {G : Gy}
variable {σ : St} {pc : Nat} {lv : List (Nat × Value)} {st stk : List Value} {cc : ByteArray} {own : String} {Ts : List Cond}
theorem wp_look (hC : Cx p s m args meth c A H0 nL G cc own Ts) {dflt : Int} {ps : Array (Int × Int)} {len : Nat} {x off : Int} {tgt : Nat} (rx : iR x) (hd : decode cc pc = .ok (.lookupswitch dflt ps, len)) (hp : (ps.toList.zip (ps.toList.drop 1)).all (fun (a, next) => a.1 < next.1) = true) (ho : Op.lookupswitch.offset ps.toList dflt x = off) (ht : (pc : Int) + off = (tgt : Int)) (kk : wp p l e R s m args below meth c A H0 nL Q G σ tgt lv st) : wp p l e R s m args below meth c A H0 nL Q G σ pc lv (.int (zI x) :: st) := fun H locs ls hP hS hl => by
  exact lv_lookup hC.1 hC.2.1 hd hp (by rw [zI_toInt rx]; exact ho) ht (kk H locs ls hP hS hl)
end LKs
/-- a number's signs -/
def nmL (v : Int) : List Int := if 10 ≤ v then [48 + v / 10, 48 + v % 10] else [48 + v]
theorem nmL_len {v : Int} : (nmL v).length ≤ 2 := by
  unfold nmL
  split
  · exact Nat.le_refl 2
  · exact (by decide : 1 ≤ 2)
theorem PNm_PL {σ : St} {L : List Int} {v : Int} : PNm (PL σ L) v = PL σ (L ++ nmL v) := by
  unfold PNm nmL
  split
  · rw [PL_snoc, PL_snoc, List.append_assoc]
    rfl
  · exact PL_snoc
/-- the first items' letters -/
def itP (it : Int) : Nat → List Int
  | 0 => []
  | j + 1 => itP it j ++ (if iand (ishr it j) 1 = 0 then [] else [97 + (j : Int)])
/-- an order's line, the word of its kind by its place -/
def LED (o am it la gr rk : Int) (w : Nat) : List Int := nmL o ++ [58] ++ nmL am ++ itP it 3 ++ [64] ++ nmL la ++ [103] ++ nmL gr ++ [114] ++ nmL rk ++ [32] ++ wdL w
/-- asked, gone, late, promised -/
def wdI (k : Int) (lt : Int) : Nat := if k = 0 then 0 else if k = 2 then 1 else if lt = 0 then 3 else 2

theorem hyVX8_printLedger : yX8_printLedger.cls = RX8 ∧ yX8_printLedger.cls ≠ "java/lang/invoke/MethodHandle" ∧ yX8_printLedger.cls ≠ "java/lang/invoke/VarHandle" ∧ (parseMethodDescriptor yX8_printLedger.desc).map (fun d => d.parameters.length) = some 2 := by decide +kernel
theorem uX8_printLedger_X8 : ∀ w ∈ u_ws RX8 TX8 13, w ∈ wsX8_printLedger := by decide +kernel
theorem fX8_printLedger_64 : Cond.fieldLink RX8 64 (TX8 8).1 (TX8 8).2.1 (TX8 8).2.2.1 ∈ wsX8_printLedger := by decide +kernel
theorem fX8_printLedger_19 : Cond.fieldLink RX8 19 (TX8 1).1 (TX8 1).2.1 (TX8 1).2.2.1 ∈ wsX8_printLedger := by decide +kernel
theorem uX8_printLedger_X5 : ∀ w ∈ u_ws RX5 TX5 5, w ∈ wsX8_printLedger := by decide +kernel
theorem fX8_printLedger_12 : Cond.fieldLink RX8 12 (TX8 0).1 (TX8 0).2.1 (TX8 0).2.2.1 ∈ wsX8_printLedger := by decide +kernel
theorem uX8_printLedger_X0 : ∀ w ∈ u_ws RX0 TX0 6, w ∈ wsX8_printLedger := by decide +kernel
set_option maxHeartbeats 16000000 in
set_option maxRecDepth 100000 in
theorem c_X8_printLedger {l : Launch} {G : Gy} {Z : Ky} (hG : Inj G) (σ : St) {o lt : Int} (h : XO σ) (ho : 0 ≤ o ∧ o < σ 83 5) (hl : lt = 0 ∨ lt = 1) : MVk l yX8_printLedger wsX8_printLedger ({ frames := 5, cells := 0, slots := 0, locals := 107 } : Room) G Z [.ref (G.2.2 82), .int (zI (o)), .int (zI (lt))] σ (fun σ2 => σ2 = PL (put σ 103 1 0) (LED o (σ 84 o) (σ 85 o) (σ 112 o) (σ 87 o) (σ 88 o) (wdI (σ 111 o) lt))) := by
  refine MVk.of hG (by decide +kernel) rfl rfl (Nat.le_of_ble_eq_true rfl) rfl ?_
  intro p e s m args below meth c Q hC hK hret
  have hmn := h.1
  obtain ⟨x111, x112, x84, x85, x86, x87, x88⟩ := h.2.2 o ho.1 ho.2
  have z1 : ∀ L : List Int, PL (put σ 103 1 0) L 103 1 = L.length := fun L => by
    rw [PL_1]
    show (0 : Int) + _ = _
    omega
  have rd : ∀ (L : List Int) (a : Nat) (b : Int), a ≠ 104 → a ≠ 103 → PL (put σ 103 1 0) L a b = σ a b := fun L a b u v => by rw [PL_o u (fun w => v w.1), put_i v]
  have iand_rng : ∀ {a b : Int}, iR (iand a b) := fun {a b} => iR_of _
  have L42 : ∀ (n : Nat) (j : Nat) (L : List Int), (3 - j) = n → (j ≤ 3) → (L = nmL o ++ [58] ++ nmL (σ 84 o) ++ itP (σ 85 o) j) → (L.length ≤ 5 + j) → wp p l e ({ frames := 5, cells := 0, slots := 0, locals := 107 } : Room) s m args below meth c (aA G (Array.size s.heap)) s.heap 4 Q G (PL (put σ 103 1 0) L) 42 [(0, .ref (G.2.2 82)), (1, .int (zI (o))), (2, .int (zI (lt))), (3, .int (zI (j : Int)))] [] := by
    intro n42
    induction n42 using Nat.strongRecOn with
    | ind n42 ih =>
      intro j L hm42 h1 h2 h3
      refine wp_iload_n hC dX8_printLedger_42 rfl ?_
      refine wp_iconst hC dX8_printLedger_43 ?_
      refine wp_icmp_ge (tgt := 81) hC dX8_printLedger_44 (by decide) (by omega) (by omega) (fun c_44 => ?_) (fun c_44 => ?_)
      · refine wp_aload_n hC dX8_printLedger_81 rfl ?_
        refine wp_geta (k := 8) hC (rfl) (by decide) (rfl) (rfl) (by decide) uX8_printLedger_X8 fX8_printLedger_64 (rfl) dX8_printLedger_82 ?_
        refine wp_bipush hC dX8_printLedger_85 rfl ?_
        refine wp_callVu (As := [_]) hC (c_X3_sign hG (PL (put σ 103 1 0) L) (ch := 64) (by omega) (by rw [z1]; omega)) gX8_printLedger_X3_sign rfl ⟨rfl, rfl⟩ ⟨by decide, by decide⟩ hyVX3_sign (rfl) (by decide) (rfl) rfl (Nat.le_of_ble_eq_true rfl) dX8_printLedger_87 ?_
        obtain ⟨M1, eM1, nM1⟩ : ∃ M : List Int, M = L ++ [64] ∧ M.length ≤ 9 := ⟨_, rfl, by show List.length _ ≤ _; rw [List.length_append]; show _ + 1 ≤ _; omega⟩
        refine wp_st (σ2 := PL (put σ 103 1 0) M1) (by rw [eM1]; exact PL_snoc) ?_
        refine wp_aload_n hC dX8_printLedger_90 rfl ?_
        refine wp_geta (k := 8) hC (rfl) (by decide) (rfl) (rfl) (by decide) uX8_printLedger_X8 fX8_printLedger_64 (rfl) dX8_printLedger_91 ?_
        refine wp_aload_n hC dX8_printLedger_94 rfl ?_
        refine wp_geta (k := 1) hC (rfl) (by decide) (rfl) (rfl) (by decide) uX8_printLedger_X8 fX8_printLedger_19 (rfl) dX8_printLedger_95 ?_
        refine wp_getaN (k := 3) hC (rfl) (by decide) (rfl) (rfl) (by decide) uX8_printLedger_X5 fnX8_127 (rfl) dX8_printLedger_98 ?_
        refine wp_iload_n hC dX8_printLedger_101 rfl ?_
        refine wp_iald (n := 24) hC (rfl) (Nat.le_of_ble_eq_true rfl) (rfl) (by decide) (by omega) dX8_printLedger_102 ?_
        refine wp_top (b := σ 112 o) (rd M1 112 o (by decide) (by decide)) ?_
        refine wp_callVu (As := [_]) hC (c_X3_number hG (PL (put σ 103 1 0) M1) (v := σ 112 o) (by omega) (by rw [z1]; omega)) gX8_printLedger_X3_number rfl ⟨rfl, rfl⟩ ⟨by decide, by decide⟩ hyVX3_number (rfl) (by decide) (rfl) rfl (Nat.le_of_ble_eq_true rfl) dX8_printLedger_103 ?_
        obtain ⟨M2, eM2, nM2⟩ : ∃ M : List Int, M = M1 ++ nmL (σ 112 o) ∧ M.length ≤ 11 := ⟨_, rfl, by rw [List.length_append]; have := nmL_len (v := σ 112 o); omega⟩
        refine wp_st (σ2 := PL (put σ 103 1 0) M2) (by rw [eM2]; exact PNm_PL) ?_
        refine wp_aload_n hC dX8_printLedger_106 rfl ?_
        refine wp_geta (k := 8) hC (rfl) (by decide) (rfl) (rfl) (by decide) uX8_printLedger_X8 fX8_printLedger_64 (rfl) dX8_printLedger_107 ?_
        refine wp_bipush hC dX8_printLedger_110 rfl ?_
        refine wp_callVu (As := [_]) hC (c_X3_sign hG (PL (put σ 103 1 0) M2) (ch := 103) (by omega) (by rw [z1]; omega)) gX8_printLedger_X3_sign rfl ⟨rfl, rfl⟩ ⟨by decide, by decide⟩ hyVX3_sign (rfl) (by decide) (rfl) rfl (Nat.le_of_ble_eq_true rfl) dX8_printLedger_112 ?_
        obtain ⟨M3, eM3, nM3⟩ : ∃ M : List Int, M = M2 ++ [103] ∧ M.length ≤ 12 := ⟨_, rfl, by show List.length _ ≤ _; rw [List.length_append]; show _ + 1 ≤ _; omega⟩
        refine wp_st (σ2 := PL (put σ 103 1 0) M3) (by rw [eM3]; exact PL_snoc) ?_
        refine wp_aload_n hC dX8_printLedger_115 rfl ?_
        refine wp_geta (k := 8) hC (rfl) (by decide) (rfl) (rfl) (by decide) uX8_printLedger_X8 fX8_printLedger_64 (rfl) dX8_printLedger_116 ?_
        refine wp_aload_n hC dX8_printLedger_119 rfl ?_
        refine wp_geta (k := 0) hC (rfl) (by decide) (rfl) (rfl) (by decide) uX8_printLedger_X8 fX8_printLedger_12 (rfl) dX8_printLedger_120 ?_
        refine wp_getaN (k := 3) hC (rfl) (by decide) (rfl) (rfl) (by decide) uX8_printLedger_X0 fnX8_142 (rfl) dX8_printLedger_123 ?_
        refine wp_iload_n hC dX8_printLedger_126 rfl ?_
        refine wp_iald (n := 24) hC (rfl) (Nat.le_of_ble_eq_true rfl) (rfl) (by decide) (by omega) dX8_printLedger_127 ?_
        refine wp_top (b := σ 87 o) (rd M3 87 o (by decide) (by decide)) ?_
        refine wp_callVu (As := [_]) hC (c_X3_number hG (PL (put σ 103 1 0) M3) (v := σ 87 o) (by omega) (by rw [z1]; omega)) gX8_printLedger_X3_number rfl ⟨rfl, rfl⟩ ⟨by decide, by decide⟩ hyVX3_number (rfl) (by decide) (rfl) rfl (Nat.le_of_ble_eq_true rfl) dX8_printLedger_128 ?_
        obtain ⟨M4, eM4, nM4⟩ : ∃ M : List Int, M = M3 ++ nmL (σ 87 o) ∧ M.length ≤ 14 := ⟨_, rfl, by rw [List.length_append]; have := nmL_len (v := σ 87 o); omega⟩
        refine wp_st (σ2 := PL (put σ 103 1 0) M4) (by rw [eM4]; exact PNm_PL) ?_
        refine wp_aload_n hC dX8_printLedger_131 rfl ?_
        refine wp_geta (k := 8) hC (rfl) (by decide) (rfl) (rfl) (by decide) uX8_printLedger_X8 fX8_printLedger_64 (rfl) dX8_printLedger_132 ?_
        refine wp_bipush hC dX8_printLedger_135 rfl ?_
        refine wp_callVu (As := [_]) hC (c_X3_sign hG (PL (put σ 103 1 0) M4) (ch := 114) (by omega) (by rw [z1]; omega)) gX8_printLedger_X3_sign rfl ⟨rfl, rfl⟩ ⟨by decide, by decide⟩ hyVX3_sign (rfl) (by decide) (rfl) rfl (Nat.le_of_ble_eq_true rfl) dX8_printLedger_137 ?_
        obtain ⟨M5, eM5, nM5⟩ : ∃ M : List Int, M = M4 ++ [114] ∧ M.length ≤ 15 := ⟨_, rfl, by show List.length _ ≤ _; rw [List.length_append]; show _ + 1 ≤ _; omega⟩
        refine wp_st (σ2 := PL (put σ 103 1 0) M5) (by rw [eM5]; exact PL_snoc) ?_
        refine wp_aload_n hC dX8_printLedger_140 rfl ?_
        refine wp_geta (k := 8) hC (rfl) (by decide) (rfl) (rfl) (by decide) uX8_printLedger_X8 fX8_printLedger_64 (rfl) dX8_printLedger_141 ?_
        refine wp_aload_n hC dX8_printLedger_144 rfl ?_
        refine wp_geta (k := 0) hC (rfl) (by decide) (rfl) (rfl) (by decide) uX8_printLedger_X8 fX8_printLedger_12 (rfl) dX8_printLedger_145 ?_
        refine wp_getaN (k := 4) hC (rfl) (by decide) (rfl) (rfl) (by decide) uX8_printLedger_X0 fnX8_145 (rfl) dX8_printLedger_148 ?_
        refine wp_iload_n hC dX8_printLedger_151 rfl ?_
        refine wp_iald (n := 24) hC (rfl) (Nat.le_of_ble_eq_true rfl) (rfl) (by decide) (by omega) dX8_printLedger_152 ?_
        refine wp_top (b := σ 88 o) (rd M5 88 o (by decide) (by decide)) ?_
        refine wp_callVu (As := [_]) hC (c_X3_number hG (PL (put σ 103 1 0) M5) (v := σ 88 o) (by omega) (by rw [z1]; omega)) gX8_printLedger_X3_number rfl ⟨rfl, rfl⟩ ⟨by decide, by decide⟩ hyVX3_number (rfl) (by decide) (rfl) rfl (Nat.le_of_ble_eq_true rfl) dX8_printLedger_153 ?_
        obtain ⟨M6, eM6, nM6⟩ : ∃ M : List Int, M = M5 ++ nmL (σ 88 o) ∧ M.length ≤ 17 := ⟨_, rfl, by rw [List.length_append]; have := nmL_len (v := σ 88 o); omega⟩
        refine wp_st (σ2 := PL (put σ 103 1 0) M6) (by rw [eM6]; exact PNm_PL) ?_
        refine wp_aload_n hC dX8_printLedger_156 rfl ?_
        refine wp_geta (k := 8) hC (rfl) (by decide) (rfl) (rfl) (by decide) uX8_printLedger_X8 fX8_printLedger_64 (rfl) dX8_printLedger_157 ?_
        refine wp_bipush hC dX8_printLedger_160 rfl ?_
        refine wp_callVu (As := [_]) hC (c_X3_sign hG (PL (put σ 103 1 0) M6) (ch := 32) (by omega) (by rw [z1]; omega)) gX8_printLedger_X3_sign rfl ⟨rfl, rfl⟩ ⟨by decide, by decide⟩ hyVX3_sign (rfl) (by decide) (rfl) rfl (Nat.le_of_ble_eq_true rfl) dX8_printLedger_162 ?_
        obtain ⟨M7, eM7, nM7⟩ : ∃ M : List Int, M = M6 ++ [32] ∧ M.length ≤ 18 := ⟨_, rfl, by show List.length _ ≤ _; rw [List.length_append]; show _ + 1 ≤ _; omega⟩
        refine wp_st (σ2 := PL (put σ 103 1 0) M7) (by rw [eM7]; exact PL_snoc) ?_
        refine wp_aload_n hC dX8_printLedger_165 rfl ?_
        refine wp_geta (k := 1) hC (rfl) (by decide) (rfl) (rfl) (by decide) uX8_printLedger_X8 fX8_printLedger_19 (rfl) dX8_printLedger_166 ?_
        refine wp_getaN (k := 2) hC (rfl) (by decide) (rfl) (rfl) (by decide) uX8_printLedger_X5 fnX8_124 (rfl) dX8_printLedger_169 ?_
        refine wp_iload_n hC dX8_printLedger_172 rfl ?_
        refine wp_iald (n := 24) hC (rfl) (Nat.le_of_ble_eq_true rfl) (rfl) (by decide) (by omega) dX8_printLedger_173 ?_
        refine wp_top (b := σ 111 o) (rd M7 111 o (by decide) (by decide)) ?_
        rcases (show σ 111 o = 0 ∨ σ 111 o = 1 ∨ σ 111 o = 2 from by omega) with c_174 | c_174 | c_174
        · refine wp_top (b := 0) c_174 ?_
          refine wp_look (x := 0) (tgt := 200) hC ⟨by decide, by decide⟩ dX8_printLedger_174 rfl rfl (by decide) ?_
          refine wp_aload_n hC dX8_printLedger_200 rfl ?_
          refine wp_geta (k := 8) hC (rfl) (by decide) (rfl) (rfl) (by decide) uX8_printLedger_X8 fX8_printLedger_64 (rfl) dX8_printLedger_201 ?_
          refine wp_ldcS hC (hK.2.1.1.1) dX8_printLedger_204 ?_
          refine wp_callVvk (As := [_]) hC hK (c_X3_word hG (PL (put σ 103 1 0) M7) (i := 0) (by decide) (by rw [z1]; omega)) gX8_printLedger_X3_word rfl ⟨rfl, rfl⟩ ⟨by decide, by decide⟩ hyVX3_word (rfl) (by decide) (rfl) rfl (Nat.le_of_ble_eq_true rfl) dX8_printLedger_207 (fun s_207 hp_207 => ?_)
          refine wp_goto (tgt := 246) hC dX8_printLedger_210 (by decide) ?_
          exact hret _ _ _ (by
              have ew : wdI (σ 111 o) lt = 0 := if_pos c_174
              have hp := hp_207
              rw [hp, PL_app, ew, eM7, eM6, eM5, eM4, eM3, eM2, eM1, h2]
              unfold LED
              rw [show j = 3 by omega]) dX8_printLedger_246
        · refine wp_top (b := 1) c_174 ?_
          refine wp_look (x := 1) (tgt := 226) hC ⟨by decide, by decide⟩ dX8_printLedger_174 rfl rfl (by decide) ?_
          refine wp_aload_n hC dX8_printLedger_226 rfl ?_
          refine wp_geta (k := 8) hC (rfl) (by decide) (rfl) (rfl) (by decide) uX8_printLedger_X8 fX8_printLedger_64 (rfl) dX8_printLedger_227 ?_
          refine wp_iload_n hC dX8_printLedger_230 rfl ?_
          refine wp_if_eq (tgt := 240) hC dX8_printLedger_231 (by decide) (by omega) (fun c_231 => ?_) (fun c_231 => ?_)
          · refine wp_ldcS hC (hK.2.1.1.2.2.2) dX8_printLedger_240 ?_
            refine wp_callVvk (As := [_]) hC hK (c_X3_word hG (PL (put σ 103 1 0) M7) (i := 3) (by decide) (by rw [z1]; omega)) gX8_printLedger_X3_word rfl ⟨rfl, rfl⟩ ⟨by decide, by decide⟩ hyVX3_word (rfl) (by decide) (rfl) rfl (Nat.le_of_ble_eq_true rfl) dX8_printLedger_243 (fun s_243 hp_243 => ?_)
            exact hret _ _ _ (by
                have ew : wdI (σ 111 o) lt = 3 := by unfold wdI; rw [if_neg (by omega), if_neg (by omega), if_pos c_231]
                have hp := hp_243
                rw [hp, PL_app, ew, eM7, eM6, eM5, eM4, eM3, eM2, eM1, h2]
                unfold LED
                rw [show j = 3 by omega]) dX8_printLedger_246
          · refine wp_ldcS hC (hK.2.1.1.2.2.1) dX8_printLedger_234 ?_
            refine wp_goto (tgt := 243) hC dX8_printLedger_237 (by decide) ?_
            refine wp_callVvk (As := [_]) hC hK (c_X3_word hG (PL (put σ 103 1 0) M7) (i := 2) (by decide) (by rw [z1]; omega)) gX8_printLedger_X3_word rfl ⟨rfl, rfl⟩ ⟨by decide, by decide⟩ hyVX3_word (rfl) (by decide) (rfl) rfl (Nat.le_of_ble_eq_true rfl) dX8_printLedger_243 (fun s_243 hp_243 => ?_)
            exact hret _ _ _ (by
                have ew : wdI (σ 111 o) lt = 2 := by unfold wdI; rw [if_neg (by omega), if_neg (by omega), if_neg c_231]
                have hp := hp_243
                rw [hp, PL_app, ew, eM7, eM6, eM5, eM4, eM3, eM2, eM1, h2]
                unfold LED
                rw [show j = 3 by omega]) dX8_printLedger_246
        · refine wp_top (b := 2) c_174 ?_
          refine wp_look (x := 2) (tgt := 213) hC ⟨by decide, by decide⟩ dX8_printLedger_174 rfl rfl (by decide) ?_
          refine wp_aload_n hC dX8_printLedger_213 rfl ?_
          refine wp_geta (k := 8) hC (rfl) (by decide) (rfl) (rfl) (by decide) uX8_printLedger_X8 fX8_printLedger_64 (rfl) dX8_printLedger_214 ?_
          refine wp_ldcS hC (hK.2.1.1.2.1) dX8_printLedger_217 ?_
          refine wp_callVvk (As := [_]) hC hK (c_X3_word hG (PL (put σ 103 1 0) M7) (i := 1) (by decide) (by rw [z1]; omega)) gX8_printLedger_X3_word rfl ⟨rfl, rfl⟩ ⟨by decide, by decide⟩ hyVX3_word (rfl) (by decide) (rfl) rfl (Nat.le_of_ble_eq_true rfl) dX8_printLedger_220 (fun s_220 hp_220 => ?_)
          refine wp_goto (tgt := 246) hC dX8_printLedger_223 (by decide) ?_
          exact hret _ _ _ (by
              have ew : wdI (σ 111 o) lt = 1 := by unfold wdI; rw [if_neg (by omega), if_pos c_174]
              have hp := hp_220
              rw [hp, PL_app, ew, eM7, eM6, eM5, eM4, eM3, eM2, eM1, h2]
              unfold LED
              rw [show j = 3 by omega]) dX8_printLedger_246
      · refine wp_aload_n hC dX8_printLedger_47 rfl ?_
        refine wp_geta (k := 0) hC (rfl) (by decide) (rfl) (rfl) (by decide) uX8_printLedger_X8 fX8_printLedger_12 (rfl) dX8_printLedger_48 ?_
        refine wp_getaN (k := 1) hC (rfl) (by decide) (rfl) (rfl) (by decide) uX8_printLedger_X0 fnX8_139 (rfl) dX8_printLedger_51 ?_
        refine wp_iload_n hC dX8_printLedger_54 rfl ?_
        refine wp_iald (n := 24) hC (rfl) (Nat.le_of_ble_eq_true rfl) (rfl) (by decide) (by omega) dX8_printLedger_55 ?_
        refine wp_top (b := σ 85 o) (rd L 85 o (by decide) (by decide)) ?_
        refine wp_iload_n hC dX8_printLedger_56 rfl ?_
        refine wp_ishr hC dX8_printLedger_57 ?_
        refine wp_iconst hC dX8_printLedger_58 ?_
        refine wp_iand hC dX8_printLedger_59 ?_
        refine wp_if_eq (tgt := 75) hC dX8_printLedger_60 (by decide) (iand_rng) (fun c_60 => ?_) (fun c_60 => ?_)
        · refine wp_iinc (lv2 := [(0, _), (1, _), (2, _), (3, _)]) hC dX8_printLedger_75 rfl rfl (by decide) ?_
          refine wp_goto (tgt := 42) hC dX8_printLedger_78 (by decide) ?_
          exact ih _ (by omega) (j + 1) L rfl (by omega) (by rw [h2]; show _ = _ ++ (itP (σ 85 o) j ++ _); rw [if_pos c_60, List.append_nil]) (by omega)
        · refine wp_aload_n hC dX8_printLedger_63 rfl ?_
          refine wp_geta (k := 8) hC (rfl) (by decide) (rfl) (rfl) (by decide) uX8_printLedger_X8 fX8_printLedger_64 (rfl) dX8_printLedger_64 ?_
          refine wp_bipush hC dX8_printLedger_67 rfl ?_
          refine wp_iload_n hC dX8_printLedger_69 rfl ?_
          refine wp_iadd hC dX8_printLedger_70 ?_
          refine wp_i2c hC dX8_printLedger_71 (by omega) ?_
          refine wp_callVu (As := [_]) hC (c_X3_sign hG (PL (put σ 103 1 0) L) (ch := 97 + (j : Int)) (by omega) (by rw [z1]; omega)) gX8_printLedger_X3_sign rfl ⟨rfl, rfl⟩ ⟨by decide, by decide⟩ hyVX3_sign (rfl) (by decide) (rfl) rfl (Nat.le_of_ble_eq_true rfl) dX8_printLedger_72 ?_
          refine wp_st (σ2 := PL (put σ 103 1 0) (L ++ [97 + (j : Int)])) PL_snoc ?_
          refine wp_iinc (lv2 := [(0, _), (1, _), (2, _), (3, _)]) hC dX8_printLedger_75 rfl rfl (by decide) ?_
          refine wp_goto (tgt := 42) hC dX8_printLedger_78 (by decide) ?_
          exact ih _ (by omega) (j + 1) (L ++ [97 + (j : Int)]) rfl (by omega) (by rw [h2]; show _ = _ ++ (itP (σ 85 o) j ++ _); rw [if_neg c_60, ← List.append_assoc]) (by rw [List.length_append]; show _ + 1 ≤ _; omega)
  refine wp_aload_n hC dX8_printLedger_0 rfl ?_
  refine wp_geta (k := 8) hC (rfl) (by decide) (rfl) (rfl) (by decide) uX8_printLedger_X8 fX8_printLedger_64 (rfl) dX8_printLedger_1 ?_
  refine wp_callVu (As := []) hC (c_X3_clear hG σ) gX8_printLedger_X3_clear rfl ⟨rfl, rfl⟩ ⟨by decide, by decide⟩ hyVX3_clear (rfl) (by decide) (rfl) rfl (Nat.le_of_ble_eq_true rfl) dX8_printLedger_4 ?_
  refine wp_st (σ2 := PL (put σ 103 1 0) []) rfl ?_
  refine wp_aload_n hC dX8_printLedger_7 rfl ?_
  refine wp_geta (k := 8) hC (rfl) (by decide) (rfl) (rfl) (by decide) uX8_printLedger_X8 fX8_printLedger_64 (rfl) dX8_printLedger_8 ?_
  refine wp_iload_n hC dX8_printLedger_11 rfl ?_
  refine wp_callVu (As := [_]) hC (c_X3_number hG (PL (put σ 103 1 0) []) (v := o) (by omega) (show (0 : Int) ≤ 0 ∧ (0 : Int) < 30 by decide)) gX8_printLedger_X3_number rfl ⟨rfl, rfl⟩ ⟨by decide, by decide⟩ hyVX3_number (rfl) (by decide) (rfl) rfl (Nat.le_of_ble_eq_true rfl) dX8_printLedger_12 ?_
  obtain ⟨L1, eL1, nL1⟩ : ∃ M : List Int, M = nmL o ∧ M.length ≤ 2 := ⟨_, rfl, nmL_len⟩
  refine wp_st (σ2 := PL (put σ 103 1 0) L1) (by rw [eL1]; exact PNm_PL (L := [])) ?_
  refine wp_aload_n hC dX8_printLedger_15 rfl ?_
  refine wp_geta (k := 8) hC (rfl) (by decide) (rfl) (rfl) (by decide) uX8_printLedger_X8 fX8_printLedger_64 (rfl) dX8_printLedger_16 ?_
  refine wp_bipush hC dX8_printLedger_19 rfl ?_
  refine wp_callVu (As := [_]) hC (c_X3_sign hG (PL (put σ 103 1 0) L1) (ch := 58) (by omega) (by rw [z1]; omega)) gX8_printLedger_X3_sign rfl ⟨rfl, rfl⟩ ⟨by decide, by decide⟩ hyVX3_sign (rfl) (by decide) (rfl) rfl (Nat.le_of_ble_eq_true rfl) dX8_printLedger_21 ?_
  obtain ⟨L2, eL2, nL2⟩ : ∃ M : List Int, M = L1 ++ [58] ∧ M.length ≤ 3 := ⟨_, rfl, by show List.length _ ≤ _; rw [List.length_append]; show _ + 1 ≤ _; omega⟩
  refine wp_st (σ2 := PL (put σ 103 1 0) L2) (by rw [eL2]; exact PL_snoc) ?_
  refine wp_aload_n hC dX8_printLedger_24 rfl ?_
  refine wp_geta (k := 8) hC (rfl) (by decide) (rfl) (rfl) (by decide) uX8_printLedger_X8 fX8_printLedger_64 (rfl) dX8_printLedger_25 ?_
  refine wp_aload_n hC dX8_printLedger_28 rfl ?_
  refine wp_geta (k := 0) hC (rfl) (by decide) (rfl) (rfl) (by decide) uX8_printLedger_X8 fX8_printLedger_12 (rfl) dX8_printLedger_29 ?_
  refine wp_getaN (k := 0) hC (rfl) (by decide) (rfl) (rfl) (by decide) uX8_printLedger_X0 fnX8_136 (rfl) dX8_printLedger_32 ?_
  refine wp_iload_n hC dX8_printLedger_35 rfl ?_
  refine wp_iald (n := 24) hC (rfl) (Nat.le_of_ble_eq_true rfl) (rfl) (by decide) (by omega) dX8_printLedger_36 ?_
  refine wp_top (b := σ 84 o) (rd L2 84 o (by decide) (by decide)) ?_
  refine wp_callVu (As := [_]) hC (c_X3_number hG (PL (put σ 103 1 0) L2) (v := σ 84 o) (by omega) (by rw [z1]; omega)) gX8_printLedger_X3_number rfl ⟨rfl, rfl⟩ ⟨by decide, by decide⟩ hyVX3_number (rfl) (by decide) (rfl) rfl (Nat.le_of_ble_eq_true rfl) dX8_printLedger_37 ?_
  obtain ⟨L3, eL3, nL3⟩ : ∃ M : List Int, M = L2 ++ nmL (σ 84 o) ∧ M.length ≤ 5 := ⟨_, rfl, by rw [List.length_append]; have := nmL_len (v := σ 84 o); omega⟩
  refine wp_st (σ2 := PL (put σ 103 1 0) L3) (by rw [eL3]; exact PNm_PL) ?_
  refine wp_iconst hC dX8_printLedger_40 ?_
  refine wp_istore_n (lv2 := [(0, _), (1, _), (2, _), (3, _)]) hC dX8_printLedger_41 rfl (by decide) ?_
  exact L42 _ 0 L3 rfl (by omega) (by rw [eL3, eL2, eL1]; show _ = _ ++ []; rw [List.append_nil]) (by omega)
